/-! the reference reads truths, at each depth-/
set_option maxHeartbeats 4000000 in
set_option maxRecDepth 100000 in
theorem s_X12_readUnit_0 {g : zGT} {w : zW} {f : Nat → Nat → Int32} {j : Nat → Nat → Int64} {A : Nat} {B : Nat → Nat} {n : Nat} {wa wv : Nat → Nat} {kq : Nat} {p lm la u : Nat} {Q : Option Value → zW → Prop} {QX : String → zW → Prop} (G : zGok g) (hs : shM w A) (kw : kWd g wa wv kq) (hld : kLd g wa) (htp : tpM B n f A) (hps : psM B n f A 0 p) (hd16 : (f A 16).toInt = 6) (hlm : (f A 17).toInt = (lm : Nat)) (hla : (f A 18).toInt = (la : Nat)) (hu : (f (A + 2) lm).toInt = (u : Nat)) (h5 : lm ≤ 5) (h29 : 209 ≤ la) (h99 : la ≤ 2009) (hup : u ≤ p) (hQ : ∀ f2_z, frM A [2] [8, 9, 10, 11, 12, 13, 16] f f2_z → (f2_z A 16).toInt = 6 → psM B n f2_z A (unP B n (if lm = 5 then 8 else 6) 0 p).1 (unP B n (if lm = 5 then 8 else 6) 0 p).2.1 → ((unP B n (if lm = 5 then 8 else 6) 0 p).1 = 0 → okM f f2_z A lm la u (unP B n (if lm = 5 then 8 else 6) 0 p).2.2) → Q none (zM w f2_z j)) : zC g 40 yX12_readUnit cX12_readUnit 2 none [.ref A] (zM w f j) (0, 0) Q QX := by
  refine zC_of G (by decide +kernel) (Nat.le_of_ble_eq_true rfl) ?_
  have ht := hps.2.1 rfl
  have h12 := hps.1
  have hte := teP_le (B := B) ht.1
  have h900 := htp.2.1
  have h10 := ht.2.2.2.1
  have hsm : ∀ s, s ≤ n → gdP n false (if lm = 5 then 8 else 6) (1 + 2 * 0 + 2) s (smP B n (if lm = 5 then 8 else 6) 0 s) := fun s hs9 => gd_su (gd_at (by split <;> decide) 0) hs9
  by_cases hw : isWd B n p 8 = true
  · have hv : unP B n (if lm = 5 then 8 else 6) 0 p = (4, p, []) := if_pos (Or.inl hw)
    rw [hv] at hQ
    have hwt := isWd_tk hw
    refine r_aloadR0 dX12_readUnit_0 ?_
    refine m_getV (x := (f A 12)) zf_RX12_112 rfl dX12_readUnit_1 (shM_k hs) (rfl) ?_
    refine t_ifeq (t := 8) dX12_readUnit_4 (by decide) (fun h4 => ?_) (fun h4 => False.elim (by omega))
    refine r_aloadR0 dX12_readUnit_8 ?_
    refine k_ldc (hld _ (List.mem_of_getElem? (i := 2) rfl)) dX12_readUnit_9 ?_
    refine q_callV1 zm_RX12_127 dX12_readUnit_11 (shM_k hs) (by decide) rfl (Nat.le_of_ble_eq_true rfl) (Nat.le_of_ble_eq_true rfl) (Nat.le_of_ble_eq_true rfl) (Nat.le_of_ble_eq_true rfl) (Nat.le_of_ble_eq_true rfl) (s_X12_isWord (i := 8) G hs kw (by decide) htp hps (fun r11 e11_z => ?_))
    have e11b : r11.toInt = 1 := e11_z.elim (fun h_z => h_z.1) (fun h_z => absurd hw h_z.2)
    refine t_ifeq (t := 44) dX12_readUnit_14 (by decide) (fun h14 => False.elim (by omega)) (fun h14 => ?_)
    refine r_aloadR0 dX12_readUnit_17 ?_
    refine q_callV0 zm_RX12_172 dX12_readUnit_18 (shM_k hs) (by decide) rfl (Nat.le_of_ble_eq_true rfl) (Nat.le_of_ble_eq_true rfl) (Nat.le_of_ble_eq_true rfl) (Nat.le_of_ble_eq_true rfl) (Nat.le_of_ble_eq_true rfl) (s_X12_goesIn (d := 6) G hs htp hps hd16 (Nat.le_refl 6) (by rw [hwt.1]; decide) (fun g18 o18 a18 b18 c18 => ?_))
    have p18 := b18 rfl
    have nb : (g18 A 12).toInt ≠ 0 := by rw [p18.1]; decide
    refine r_aloadR0 dX12_readUnit_21 ?_
    refine q_callV0 zm_RX12_165 dX12_readUnit_22 (shM_k hs) (by decide) rfl (Nat.le_of_ble_eq_true rfl) (Nat.le_of_ble_eq_true rfl) (Nat.le_of_ble_eq_true rfl) (Nat.le_of_ble_eq_true rfl) (Nat.le_of_ble_eq_true rfl) (s_X12_readUnit_x G hs nb ?_)
    refine r_aloadR0 dX12_readUnit_25 ?_
    refine n_bipush dX12_readUnit_26 (by decide) (fun r26 e26_z => ?_)
    refine q_callV1 zm_RX12_162 dX12_readUnit_28 (shM_k hs) (by decide) rfl (Nat.le_of_ble_eq_true rfl) (Nat.le_of_ble_eq_true rfl) (Nat.le_of_ble_eq_true rfl) (Nat.le_of_ble_eq_true rfl) (Nat.le_of_ble_eq_true rfl) (s_X12_laysStep_x G hs nb ?_)
    refine r_aloadR0 dX12_readUnit_31 ?_
    refine r_dup dX12_readUnit_32 rfl ?_
    refine m_getV (x := (g18 A 16)) zf_RX12_154 rfl dX12_readUnit_33 (shM_k hs) (rfl) ?_
    refine n_iconst dX12_readUnit_36 (by decide) (fun r36 e36 => ?_)
    refine n_isub dX12_readUnit_37 (by omega) (fun r37 e37 => ?_)
    refine m_putI zf_RX12_154 (by intro C T N h_z; cases h_z; rfl) rfl dX12_readUnit_38 (shM_k hs) ?_
    obtain ⟨g38, hg38⟩ : ∃ g9, g9 = zu g18 A 16 r37 := ⟨_, rfl⟩
    rw [← hg38]
    have og38 : frM A [] [16] g18 g38 := by rw [hg38]; exact frM_zk frM_rf (by decide)
    have vg38 : g38 A 16 = r37 := by rw [hg38]; exact zu_at
    have vt38 : (g38 A 16).toInt = r37.toInt := by rw [vg38]
    refine r_goto (t := 155) dX12_readUnit_41 (by decide) ?_
    refine r_vret dX12_readUnit_155 rfl (Nat.le_of_ble_eq_true rfl) (Nat.le_of_ble_eq_true rfl) ?_
    exact hQ _ (frM_tr (frM_su o18 (by decide) (by decide)) (frM_su og38 (by decide) (by decide))) (by rw [vt38]; omega) (psM_of p18 (og38.2.2 8 (by decide)) (og38.2.2 9 (by decide)) (og38.2.2 10 (by decide)) (og38.2.2 11 (by decide)) (og38.2.2 12 (by decide)) (og38.2.2 13 (by decide))) (fun h_z => absurd (show (4 : Nat) = 0 from h_z) (by decide))
  have hrk := rk4 (B := B) (n := n) (s := p) (c := 91) (by decide)
  by_cases hp : tkP B n p = 91
  · have hv : unP B n (if lm = 5 then 8 else 6) 0 p = (4, p, []) := if_pos (Or.inr hp)
    rw [hv] at hQ
    have h10b := hrk.mpr hp
    refine r_aloadR0 dX12_readUnit_0 ?_
    refine m_getV (x := (f A 12)) zf_RX12_112 rfl dX12_readUnit_1 (shM_k hs) (rfl) ?_
    refine t_ifeq (t := 8) dX12_readUnit_4 (by decide) (fun h4 => ?_) (fun h4 => False.elim (by omega))
    refine r_aloadR0 dX12_readUnit_8 ?_
    refine k_ldc (hld _ (List.mem_of_getElem? (i := 2) rfl)) dX12_readUnit_9 ?_
    refine q_callV1 zm_RX12_127 dX12_readUnit_11 (shM_k hs) (by decide) rfl (Nat.le_of_ble_eq_true rfl) (Nat.le_of_ble_eq_true rfl) (Nat.le_of_ble_eq_true rfl) (Nat.le_of_ble_eq_true rfl) (Nat.le_of_ble_eq_true rfl) (s_X12_isWord (i := 8) G hs kw (by decide) htp hps (fun r11 e11_z => ?_))
    have e11b : r11.toInt = 0 := e11_z.elim (fun h_z => absurd h_z.2 hw) (fun h_z => h_z.1)
    refine t_ifeq (t := 44) dX12_readUnit_14 (by decide) (fun h14 => ?_) (fun h14 => False.elim (by omega))
    refine r_aloadR0 dX12_readUnit_44 ?_
    refine n_bipush dX12_readUnit_45 (by decide) (fun r45 e45 => ?_)
    refine q_callV1 zm_RX12_175 dX12_readUnit_47 (shM_k hs) (by decide) rfl (Nat.le_of_ble_eq_true rfl) (Nat.le_of_ble_eq_true rfl) (Nat.le_of_ble_eq_true rfl) (Nat.le_of_ble_eq_true rfl) (Nat.le_of_ble_eq_true rfl) (s_X12_isSign G hs (fun r47 e47 => ?_))
    refine t_ifeq (t := 80) dX12_readUnit_50 (by decide) (fun h50 => False.elim (by omega)) (fun h50 => ?_)
    refine r_aloadR0 dX12_readUnit_53 ?_
    refine q_callV0 zm_RX12_172 dX12_readUnit_54 (shM_k hs) (by decide) rfl (Nat.le_of_ble_eq_true rfl) (Nat.le_of_ble_eq_true rfl) (Nat.le_of_ble_eq_true rfl) (Nat.le_of_ble_eq_true rfl) (Nat.le_of_ble_eq_true rfl) (s_X12_goesIn (d := 6) G hs htp hps hd16 (Nat.le_refl 6) (by rw [hp]; decide) (fun g54 o54 a54 b54 c54 => ?_))
    have p54 := b54 rfl
    have nb : (g54 A 12).toInt ≠ 0 := by rw [p54.1]; decide
    refine r_aloadR0 dX12_readUnit_57 ?_
    refine q_callV0 zm_RX12_178 dX12_readUnit_58 (shM_k hs) (by decide) rfl (Nat.le_of_ble_eq_true rfl) (Nat.le_of_ble_eq_true rfl) (Nat.le_of_ble_eq_true rfl) (Nat.le_of_ble_eq_true rfl) (Nat.le_of_ble_eq_true rfl) (s_X12_readTruth_x G hs kw hld nb ?_)
    refine r_aloadR0 dX12_readUnit_61 ?_
    refine n_bipush dX12_readUnit_62 (by decide) (fun r62 e62 => ?_)
    refine q_callV1 zm_RX12_151 dX12_readUnit_64 (shM_k hs) (by decide) rfl (Nat.le_of_ble_eq_true rfl) (Nat.le_of_ble_eq_true rfl) (Nat.le_of_ble_eq_true rfl) (Nat.le_of_ble_eq_true rfl) (Nat.le_of_ble_eq_true rfl) (s_X12_mustSign_x G hs nb ?_)
    refine r_aloadR0 dX12_readUnit_67 ?_
    refine r_dup dX12_readUnit_68 rfl ?_
    refine m_getV (x := (g54 A 16)) zf_RX12_154 rfl dX12_readUnit_69 (shM_k hs) (rfl) ?_
    refine n_iconst dX12_readUnit_72 (by decide) (fun r72 e72_z => ?_)
    refine n_isub dX12_readUnit_73 (by omega) (fun r73 e73 => ?_)
    refine m_putI zf_RX12_154 (by intro C T N h_z; cases h_z; rfl) rfl dX12_readUnit_74 (shM_k hs) ?_
    obtain ⟨g74, hg74⟩ : ∃ g9, g9 = zu g54 A 16 r73 := ⟨_, rfl⟩
    rw [← hg74]
    have og74 : frM A [] [16] g54 g74 := by rw [hg74]; exact frM_zk frM_rf (by decide)
    have vg74 : g74 A 16 = r73 := by rw [hg74]; exact zu_at
    have vt74 : (g74 A 16).toInt = r73.toInt := by rw [vg74]
    refine r_goto (t := 155) dX12_readUnit_77 (by decide) ?_
    refine r_vret dX12_readUnit_155 rfl (Nat.le_of_ble_eq_true rfl) (Nat.le_of_ble_eq_true rfl) ?_
    exact hQ _ (frM_tr (frM_su o54 (by decide) (by decide)) (frM_su og74 (by decide) (by decide))) (by rw [vt74]; omega) (psM_of p54 (og74.2.2 8 (by decide)) (og74.2.2 9 (by decide)) (og74.2.2 10 (by decide)) (og74.2.2 11 (by decide)) (og74.2.2 12 (by decide)) (og74.2.2 13 (by decide))) (fun h_z => absurd (show (4 : Nat) = 0 from h_z) (by decide))
  have hrk2 : rkP B n p ≠ 91 := fun h_z => hp (hrk.mp h_z)
  have hv0 : unP B n (if lm = 5 then 8 else 6) 0 p = cmP B n (smP B n (if lm = 5 then 8 else 6) 0) p := if_neg (fun h_z => h_z.elim hw hp)
  rw [hv0] at hQ
  by_cases hr : (smP B n (if lm = 5 then 8 else 6) 0 p).1 = 0
  · have p81c : ∀ g, psM B n g A (smP B n (if lm = 5 then 8 else 6) 0 p).1 (smP B n (if lm = 5 then 8 else 6) 0 p).2.1 → psM B n g A 0 (smP B n (if lm = 5 then 8 else 6) 0 p).2.1 := fun g h_z => by rw [hr] at h_z; exact h_z
    obtain ⟨y1, y2, y3, y4⟩ := (hsm p ht.1).1 hr
    have q61 := rk4 (B := B) (n := n) (s := (smP B n (if lm = 5 then 8 else 6) 0 p).2.1) (c := 61) (by decide)
    have q60 := rk4 (B := B) (n := n) (s := (smP B n (if lm = 5 then 8 else 6) 0 p).2.1) (c := 60) (by decide)
    have q62 := rk4 (B := B) (n := n) (s := (smP B n (if lm = 5 then 8 else 6) 0 p).2.1) (c := 62) (by decide)
    by_cases hc_z : tkP B n (smP B n (if lm = 5 then 8 else 6) 0 p).2.1 = 61
    · have h10c := q61.mpr hc_z
      have hop : opC B n (smP B n (if lm = 5 then 8 else 6) 0 p).2.1 = 2006 := if_pos hc_z
      have hop0 : opC B n (smP B n (if lm = 5 then 8 else 6) 0 p).2.1 ≠ 0 := by rw [hop]; decide
      have hln := tk_lt (B := B) (n := n) (s := (smP B n (if lm = 5 then 8 else 6) 0 p).2.1) (by rw [hc_z]; decide)
      have hnx := nxP_gt (B := B) hln
      by_cases hq : (smP B n (if lm = 5 then 8 else 6) 0 (nxP B n (smP B n (if lm = 5 then 8 else 6) 0 p).2.1)).1 = 0
      · obtain ⟨z1, z2, z3, z4⟩ := (hsm _ hnx.2).1 hq
        have hv : cmP B n (smP B n (if lm = 5 then 8 else 6) 0) p = (0, (smP B n (if lm = 5 then 8 else 6) 0 (nxP B n (smP B n (if lm = 5 then 8 else 6) 0 p).2.1)).2.1, (smP B n (if lm = 5 then 8 else 6) 0 p).2.2 ++ (smP B n (if lm = 5 then 8 else 6) 0 (nxP B n (smP B n (if lm = 5 then 8 else 6) 0 p).2.1)).2.2 ++ [opC B n (smP B n (if lm = 5 then 8 else 6) 0 p).2.1]) := (if_neg (not_not_intro hr)).trans ((if_neg hop0).trans (if_neg (not_not_intro hq)))
        rw [hv, hop] at hQ
        refine r_aloadR0 dX12_readUnit_0 ?_
        refine m_getV (x := (f A 12)) zf_RX12_112 rfl dX12_readUnit_1 (shM_k hs) (rfl) ?_
        refine t_ifeq (t := 8) dX12_readUnit_4 (by decide) (fun h4 => ?_) (fun h4 => False.elim (by omega))
        refine r_aloadR0 dX12_readUnit_8 ?_
        refine k_ldc (hld _ (List.mem_of_getElem? (i := 2) rfl)) dX12_readUnit_9 ?_
        refine q_callV1 zm_RX12_127 dX12_readUnit_11 (shM_k hs) (by decide) rfl (Nat.le_of_ble_eq_true rfl) (Nat.le_of_ble_eq_true rfl) (Nat.le_of_ble_eq_true rfl) (Nat.le_of_ble_eq_true rfl) (Nat.le_of_ble_eq_true rfl) (s_X12_isWord (i := 8) G hs kw (by decide) htp hps (fun r11 e11_z => ?_))
        have e11b : r11.toInt = 0 := e11_z.elim (fun h_z => absurd h_z.2 hw) (fun h_z => h_z.1)
        refine t_ifeq (t := 44) dX12_readUnit_14 (by decide) (fun h14 => ?_) (fun h14 => False.elim (by omega))
        refine r_aloadR0 dX12_readUnit_44 ?_
        refine n_bipush dX12_readUnit_45 (by decide) (fun r45 e45 => ?_)
        refine q_callV1 zm_RX12_175 dX12_readUnit_47 (shM_k hs) (by decide) rfl (Nat.le_of_ble_eq_true rfl) (Nat.le_of_ble_eq_true rfl) (Nat.le_of_ble_eq_true rfl) (Nat.le_of_ble_eq_true rfl) (Nat.le_of_ble_eq_true rfl) (s_X12_isSign G hs (fun r47 e47 => ?_))
        refine t_ifeq (t := 80) dX12_readUnit_50 (by decide) (fun h50 => ?_) (fun h50 => False.elim (by omega))
        refine r_aloadR0 dX12_readUnit_80 ?_
        refine q_callV0 zm_RX12_181 dX12_readUnit_81 (shM_k hs) (by decide) rfl (Nat.le_of_ble_eq_true rfl) (Nat.le_of_ble_eq_true rfl) (Nat.le_of_ble_eq_true rfl) (Nat.le_of_ble_eq_true rfl) (Nat.le_of_ble_eq_true rfl) (s_X12_readSum_0 (lm := lm) (la := la) (u := u) G hs kw hld htp hps hd16 hlm hla hu h5 h29 h99 hup (fun g81 o81 d81 p81 k81 => ?_))
        have p81b : psM B n g81 A (smP B n (if lm = 5 then 8 else 6) 0 p).1 (smP B n (if lm = 5 then 8 else 6) 0 p).2.1 := p81
        have k81b : (smP B n (if lm = 5 then 8 else 6) 0 p).1 = 0 → okM f g81 A lm la u (smP B n (if lm = 5 then 8 else 6) 0 p).2.2 := k81
        have p81d := p81c _ p81b
        have t81 := p81d.2.1 rfl
        have h81 := t81.2.2.2.1
        have b81 := p81d.1
        have hte81 := teP_le (B := B) t81.1
        have htp81 := tpM_of htp (o81.2.1 5 (by decide) (by decide) (by decide)) (o81.2.2 7 (by decide))
        have k81c := k81b hr
        refine r_aloadR0 dX12_readUnit_84 ?_
        refine m_getV (x := (g81 A 10)) zf_RX12_92 rfl dX12_readUnit_85 (shM_k hs) (rfl) ?_
        refine r_istore1 dX12_readUnit_88 rfl ?_
        refine r_iload1 dX12_readUnit_89 ?_
        refine n_bipush dX12_readUnit_90 (by decide) (fun r90 e90_z => ?_)
        refine t_iceq (t := 112) dX12_readUnit_92 (by decide) (fun h92 => ?_) (fun h92 => False.elim (by omega))
        refine r_aloadR0 dX12_readUnit_112 ?_
        refine m_getV (x := (g81 A 12)) zf_RX12_112 rfl dX12_readUnit_113 (shM_k hs) (rfl) ?_
        refine t_ifne (t := 123) dX12_readUnit_116 (by decide) (fun h116 => False.elim (by omega)) (fun h116 => ?_)
        refine r_aloadR0 dX12_readUnit_119 ?_
        refine q_callV0 zm_RX12_131 dX12_readUnit_120 (shM_k hs) (by decide) rfl (Nat.le_of_ble_eq_true rfl) (Nat.le_of_ble_eq_true rfl) (Nat.le_of_ble_eq_true rfl) (Nat.le_of_ble_eq_true rfl) (Nat.le_of_ble_eq_true rfl) (s_X12_readsOn (p := teP B n (smP B n (if lm = 5 then 8 else 6) 0 p).2.1) G hs htp81 t81.2.1 hte81 (fun g120 o120 t120 => ?_))
        have htp120 := tpM_of htp81 (o120.2.1 5 (by decide) (by decide) (by decide)) (o120.2.2 7 (by decide))
        have hp120 : psM B n g120 A 0 (nxP B n (smP B n (if lm = 5 then 8 else 6) 0 p).2.1) := ⟨by rw [o120.2.2 12 (by decide)]; exact b81, fun _ => t120, fun h_z => absurd rfl h_z⟩
        have w120 : g120 (A + 2) = g81 (A + 2) := o120.2.1 2 (by decide) (by decide) (by decide)
        refine r_aloadR0 dX12_readUnit_123 ?_
        refine q_callV0 zm_RX12_181 dX12_readUnit_124 (shM_k hs) (by decide) rfl (Nat.le_of_ble_eq_true rfl) (Nat.le_of_ble_eq_true rfl) (Nat.le_of_ble_eq_true rfl) (Nat.le_of_ble_eq_true rfl) (Nat.le_of_ble_eq_true rfl) (s_X12_readSum_0 (lm := lm) (la := la) (u := u + (smP B n (if lm = 5 then 8 else 6) 0 p).2.2.length) G hs kw hld htp120 hp120 (by rw [o120.2.2 16 (by decide)]; exact d81) (by rw [o120.2.2 17 (by decide), o81.2.2 17 (by decide)]; exact hlm) (by rw [o120.2.2 18 (by decide), o81.2.2 18 (by decide)]; exact hla) (by rw [w120]; exact k81c.1) h5 h29 h99 (by omega) (fun g124 o124 d124 p124 k124 => ?_))
        have of124 : frM A [2] [8, 9, 10, 11, 12, 13, 16] f g124 := frM_tr o81 (frM_tr (frM_su o120 (by decide) (by decide)) o124)
        have p124b : psM B n g124 A (smP B n (if lm = 5 then 8 else 6) 0 (nxP B n (smP B n (if lm = 5 then 8 else 6) 0 p).2.1)).1 (smP B n (if lm = 5 then 8 else 6) 0 (nxP B n (smP B n (if lm = 5 then 8 else 6) 0 p).2.1)).2.1 := p124
        have k124b : (smP B n (if lm = 5 then 8 else 6) 0 (nxP B n (smP B n (if lm = 5 then 8 else 6) 0 p).2.1)).1 = 0 → okM g120 g124 A lm la (u + (smP B n (if lm = 5 then 8 else 6) 0 p).2.2.length) (smP B n (if lm = 5 then 8 else 6) 0 (nxP B n (smP B n (if lm = 5 then 8 else 6) 0 p).2.1)).2.2 := k124
        refine r_aloadR0 dX12_readUnit_127 ?_
        refine r_iload1 dX12_readUnit_128 ?_
        refine n_bipush dX12_readUnit_129 (by decide) (fun r129 e129 => ?_)
        refine t_icne (t := 139) dX12_readUnit_131 (by decide) (fun h131 => False.elim (by omega)) (fun h131 => ?_)
        refine n_bipush dX12_readUnit_134 (by decide) (fun r134 e134 => ?_)
        refine r_goto (t := 152) dX12_readUnit_136 (by decide) ?_
        refine q_callV1 zm_RX12_162 dX12_readUnit_152 (shM_k hs) (by decide) rfl (Nat.le_of_ble_eq_true rfl) (Nat.le_of_ble_eq_true rfl) (Nat.le_of_ble_eq_true rfl) (Nat.le_of_ble_eq_true rfl) (Nat.le_of_ble_eq_true rfl) (s_X12_laysStep (lm := lm) (la := la) (u := u + (smP B n (if lm = 5 then 8 else 6) 0 p).2.2.length + (smP B n (if lm = 5 then 8 else 6) 0 (nxP B n (smP B n (if lm = 5 then 8 else 6) 0 p).2.1)).2.2.length) G hs (by have := p124b.1; rw [hq] at this; exact this) (by rw [of124.2.2 17 (by decide)]; exact hlm) (by rw [of124.2.2 18 (by decide)]; exact hla) (k124b hq).1 h5 h29 (by omega) (fun g152 o152 a152 b152 c152 => ?_))
        have p124c := p124b
        rw [hq] at p124c
        refine r_vret dX12_readUnit_155 rfl (Nat.le_of_ble_eq_true rfl) (Nat.le_of_ble_eq_true rfl) ?_
        refine hQ _ (frM_tr of124 (frM_su o152 (by decide) (by decide))) (by rw [o152.2.2 16 (by decide)]; exact d124) (psM_of p124c (o152.2.2 8 (by decide)) (o152.2.2 9 (by decide)) (o152.2.2 10 (by decide)) (o152.2.2 11 (by decide)) (o152.2.2 12 (by decide)) (o152.2.2 13 (by decide))) (fun _ => okM_ap (by omega) (by rw [List.length_append]; omega) (okM_ap (by omega) (by omega) k81c (okM_cg (k124b hq) w120 rfl)) ?_)
        rw [List.length_append, ← Nat.add_assoc]
        exact okM_one (by omega) a152 b152 c152 (by rw [e134]; rfl)
      · have hv : cmP B n (smP B n (if lm = 5 then 8 else 6) 0) p = (smP B n (if lm = 5 then 8 else 6) 0 (nxP B n (smP B n (if lm = 5 then 8 else 6) 0 p).2.1)) := (if_neg (not_not_intro hr)).trans ((if_neg hop0).trans (if_pos hq))
        rw [hv] at hQ
        refine r_aloadR0 dX12_readUnit_0 ?_
        refine m_getV (x := (f A 12)) zf_RX12_112 rfl dX12_readUnit_1 (shM_k hs) (rfl) ?_
        refine t_ifeq (t := 8) dX12_readUnit_4 (by decide) (fun h4 => ?_) (fun h4 => False.elim (by omega))
        refine r_aloadR0 dX12_readUnit_8 ?_
        refine k_ldc (hld _ (List.mem_of_getElem? (i := 2) rfl)) dX12_readUnit_9 ?_
        refine q_callV1 zm_RX12_127 dX12_readUnit_11 (shM_k hs) (by decide) rfl (Nat.le_of_ble_eq_true rfl) (Nat.le_of_ble_eq_true rfl) (Nat.le_of_ble_eq_true rfl) (Nat.le_of_ble_eq_true rfl) (Nat.le_of_ble_eq_true rfl) (s_X12_isWord (i := 8) G hs kw (by decide) htp hps (fun r11 e11_z => ?_))
        have e11b : r11.toInt = 0 := e11_z.elim (fun h_z => absurd h_z.2 hw) (fun h_z => h_z.1)
        refine t_ifeq (t := 44) dX12_readUnit_14 (by decide) (fun h14 => ?_) (fun h14 => False.elim (by omega))
        refine r_aloadR0 dX12_readUnit_44 ?_
        refine n_bipush dX12_readUnit_45 (by decide) (fun r45 e45 => ?_)
        refine q_callV1 zm_RX12_175 dX12_readUnit_47 (shM_k hs) (by decide) rfl (Nat.le_of_ble_eq_true rfl) (Nat.le_of_ble_eq_true rfl) (Nat.le_of_ble_eq_true rfl) (Nat.le_of_ble_eq_true rfl) (Nat.le_of_ble_eq_true rfl) (s_X12_isSign G hs (fun r47 e47 => ?_))
        refine t_ifeq (t := 80) dX12_readUnit_50 (by decide) (fun h50 => ?_) (fun h50 => False.elim (by omega))
        refine r_aloadR0 dX12_readUnit_80 ?_
        refine q_callV0 zm_RX12_181 dX12_readUnit_81 (shM_k hs) (by decide) rfl (Nat.le_of_ble_eq_true rfl) (Nat.le_of_ble_eq_true rfl) (Nat.le_of_ble_eq_true rfl) (Nat.le_of_ble_eq_true rfl) (Nat.le_of_ble_eq_true rfl) (s_X12_readSum_0 (lm := lm) (la := la) (u := u) G hs kw hld htp hps hd16 hlm hla hu h5 h29 h99 hup (fun g81 o81 d81 p81 k81 => ?_))
        have p81b : psM B n g81 A (smP B n (if lm = 5 then 8 else 6) 0 p).1 (smP B n (if lm = 5 then 8 else 6) 0 p).2.1 := p81
        have k81b : (smP B n (if lm = 5 then 8 else 6) 0 p).1 = 0 → okM f g81 A lm la u (smP B n (if lm = 5 then 8 else 6) 0 p).2.2 := k81
        have p81d := p81c _ p81b
        have t81 := p81d.2.1 rfl
        have h81 := t81.2.2.2.1
        have b81 := p81d.1
        have hte81 := teP_le (B := B) t81.1
        have htp81 := tpM_of htp (o81.2.1 5 (by decide) (by decide) (by decide)) (o81.2.2 7 (by decide))
        have k81c := k81b hr
        refine r_aloadR0 dX12_readUnit_84 ?_
        refine m_getV (x := (g81 A 10)) zf_RX12_92 rfl dX12_readUnit_85 (shM_k hs) (rfl) ?_
        refine r_istore1 dX12_readUnit_88 rfl ?_
        refine r_iload1 dX12_readUnit_89 ?_
        refine n_bipush dX12_readUnit_90 (by decide) (fun r90 e90_z => ?_)
        refine t_iceq (t := 112) dX12_readUnit_92 (by decide) (fun h92 => ?_) (fun h92 => False.elim (by omega))
        refine r_aloadR0 dX12_readUnit_112 ?_
        refine m_getV (x := (g81 A 12)) zf_RX12_112 rfl dX12_readUnit_113 (shM_k hs) (rfl) ?_
        refine t_ifne (t := 123) dX12_readUnit_116 (by decide) (fun h116 => False.elim (by omega)) (fun h116 => ?_)
        refine r_aloadR0 dX12_readUnit_119 ?_
        refine q_callV0 zm_RX12_131 dX12_readUnit_120 (shM_k hs) (by decide) rfl (Nat.le_of_ble_eq_true rfl) (Nat.le_of_ble_eq_true rfl) (Nat.le_of_ble_eq_true rfl) (Nat.le_of_ble_eq_true rfl) (Nat.le_of_ble_eq_true rfl) (s_X12_readsOn (p := teP B n (smP B n (if lm = 5 then 8 else 6) 0 p).2.1) G hs htp81 t81.2.1 hte81 (fun g120 o120 t120 => ?_))
        have htp120 := tpM_of htp81 (o120.2.1 5 (by decide) (by decide) (by decide)) (o120.2.2 7 (by decide))
        have hp120 : psM B n g120 A 0 (nxP B n (smP B n (if lm = 5 then 8 else 6) 0 p).2.1) := ⟨by rw [o120.2.2 12 (by decide)]; exact b81, fun _ => t120, fun h_z => absurd rfl h_z⟩
        have w120 : g120 (A + 2) = g81 (A + 2) := o120.2.1 2 (by decide) (by decide) (by decide)
        refine r_aloadR0 dX12_readUnit_123 ?_
        refine q_callV0 zm_RX12_181 dX12_readUnit_124 (shM_k hs) (by decide) rfl (Nat.le_of_ble_eq_true rfl) (Nat.le_of_ble_eq_true rfl) (Nat.le_of_ble_eq_true rfl) (Nat.le_of_ble_eq_true rfl) (Nat.le_of_ble_eq_true rfl) (s_X12_readSum_0 (lm := lm) (la := la) (u := u + (smP B n (if lm = 5 then 8 else 6) 0 p).2.2.length) G hs kw hld htp120 hp120 (by rw [o120.2.2 16 (by decide)]; exact d81) (by rw [o120.2.2 17 (by decide), o81.2.2 17 (by decide)]; exact hlm) (by rw [o120.2.2 18 (by decide), o81.2.2 18 (by decide)]; exact hla) (by rw [w120]; exact k81c.1) h5 h29 h99 (by omega) (fun g124 o124 d124 p124 k124 => ?_))
        have of124 : frM A [2] [8, 9, 10, 11, 12, 13, 16] f g124 := frM_tr o81 (frM_tr (frM_su o120 (by decide) (by decide)) o124)
        have p124b : psM B n g124 A (smP B n (if lm = 5 then 8 else 6) 0 (nxP B n (smP B n (if lm = 5 then 8 else 6) 0 p).2.1)).1 (smP B n (if lm = 5 then 8 else 6) 0 (nxP B n (smP B n (if lm = 5 then 8 else 6) 0 p).2.1)).2.1 := p124
        have k124b : (smP B n (if lm = 5 then 8 else 6) 0 (nxP B n (smP B n (if lm = 5 then 8 else 6) 0 p).2.1)).1 = 0 → okM g120 g124 A lm la (u + (smP B n (if lm = 5 then 8 else 6) 0 p).2.2.length) (smP B n (if lm = 5 then 8 else 6) 0 (nxP B n (smP B n (if lm = 5 then 8 else 6) 0 p).2.1)).2.2 := k124
        refine r_aloadR0 dX12_readUnit_127 ?_
        refine r_iload1 dX12_readUnit_128 ?_
        refine n_bipush dX12_readUnit_129 (by decide) (fun r129 e129 => ?_)
        refine t_icne (t := 139) dX12_readUnit_131 (by decide) (fun h131 => False.elim (by omega)) (fun h131 => ?_)
        refine n_bipush dX12_readUnit_134 (by decide) (fun r134 e134 => ?_)
        refine r_goto (t := 152) dX12_readUnit_136 (by decide) ?_
        refine q_callV1 zm_RX12_162 dX12_readUnit_152 (shM_k hs) (by decide) rfl (Nat.le_of_ble_eq_true rfl) (Nat.le_of_ble_eq_true rfl) (Nat.le_of_ble_eq_true rfl) (Nat.le_of_ble_eq_true rfl) (Nat.le_of_ble_eq_true rfl) (s_X12_laysStep_x G hs (by rw [p124b.1]; omega) ?_)
        refine r_vret dX12_readUnit_155 rfl (Nat.le_of_ble_eq_true rfl) (Nat.le_of_ble_eq_true rfl) ?_
        exact hQ _ of124 d124 p124b (fun h_z => absurd h_z hq)
    have hn61 := hc_z
    have hm61 : rkP B n (smP B n (if lm = 5 then 8 else 6) 0 p).2.1 ≠ 61 := fun h_z => hc_z (q61.mp h_z)
    clear hc_z
    by_cases hc_z : tkP B n (smP B n (if lm = 5 then 8 else 6) 0 p).2.1 = 60
    · have h10c := q60.mpr hc_z
      have hop : opC B n (smP B n (if lm = 5 then 8 else 6) 0 p).2.1 = 2007 := (if_neg (by omega)).trans (if_pos hc_z)
      have hop0 : opC B n (smP B n (if lm = 5 then 8 else 6) 0 p).2.1 ≠ 0 := by rw [hop]; decide
      have hln := tk_lt (B := B) (n := n) (s := (smP B n (if lm = 5 then 8 else 6) 0 p).2.1) (by rw [hc_z]; decide)
      have hnx := nxP_gt (B := B) hln
      by_cases hq : (smP B n (if lm = 5 then 8 else 6) 0 (nxP B n (smP B n (if lm = 5 then 8 else 6) 0 p).2.1)).1 = 0
      · obtain ⟨z1, z2, z3, z4⟩ := (hsm _ hnx.2).1 hq
        have hv : cmP B n (smP B n (if lm = 5 then 8 else 6) 0) p = (0, (smP B n (if lm = 5 then 8 else 6) 0 (nxP B n (smP B n (if lm = 5 then 8 else 6) 0 p).2.1)).2.1, (smP B n (if lm = 5 then 8 else 6) 0 p).2.2 ++ (smP B n (if lm = 5 then 8 else 6) 0 (nxP B n (smP B n (if lm = 5 then 8 else 6) 0 p).2.1)).2.2 ++ [opC B n (smP B n (if lm = 5 then 8 else 6) 0 p).2.1]) := (if_neg (not_not_intro hr)).trans ((if_neg hop0).trans (if_neg (not_not_intro hq)))
        rw [hv, hop] at hQ
        refine r_aloadR0 dX12_readUnit_0 ?_
        refine m_getV (x := (f A 12)) zf_RX12_112 rfl dX12_readUnit_1 (shM_k hs) (rfl) ?_
        refine t_ifeq (t := 8) dX12_readUnit_4 (by decide) (fun h4 => ?_) (fun h4 => False.elim (by omega))
        refine r_aloadR0 dX12_readUnit_8 ?_
        refine k_ldc (hld _ (List.mem_of_getElem? (i := 2) rfl)) dX12_readUnit_9 ?_
        refine q_callV1 zm_RX12_127 dX12_readUnit_11 (shM_k hs) (by decide) rfl (Nat.le_of_ble_eq_true rfl) (Nat.le_of_ble_eq_true rfl) (Nat.le_of_ble_eq_true rfl) (Nat.le_of_ble_eq_true rfl) (Nat.le_of_ble_eq_true rfl) (s_X12_isWord (i := 8) G hs kw (by decide) htp hps (fun r11 e11_z => ?_))
        have e11b : r11.toInt = 0 := e11_z.elim (fun h_z => absurd h_z.2 hw) (fun h_z => h_z.1)
        refine t_ifeq (t := 44) dX12_readUnit_14 (by decide) (fun h14 => ?_) (fun h14 => False.elim (by omega))
        refine r_aloadR0 dX12_readUnit_44 ?_
        refine n_bipush dX12_readUnit_45 (by decide) (fun r45 e45 => ?_)
        refine q_callV1 zm_RX12_175 dX12_readUnit_47 (shM_k hs) (by decide) rfl (Nat.le_of_ble_eq_true rfl) (Nat.le_of_ble_eq_true rfl) (Nat.le_of_ble_eq_true rfl) (Nat.le_of_ble_eq_true rfl) (Nat.le_of_ble_eq_true rfl) (s_X12_isSign G hs (fun r47 e47 => ?_))
        refine t_ifeq (t := 80) dX12_readUnit_50 (by decide) (fun h50 => ?_) (fun h50 => False.elim (by omega))
        refine r_aloadR0 dX12_readUnit_80 ?_
        refine q_callV0 zm_RX12_181 dX12_readUnit_81 (shM_k hs) (by decide) rfl (Nat.le_of_ble_eq_true rfl) (Nat.le_of_ble_eq_true rfl) (Nat.le_of_ble_eq_true rfl) (Nat.le_of_ble_eq_true rfl) (Nat.le_of_ble_eq_true rfl) (s_X12_readSum_0 (lm := lm) (la := la) (u := u) G hs kw hld htp hps hd16 hlm hla hu h5 h29 h99 hup (fun g81 o81 d81 p81 k81 => ?_))
        have p81b : psM B n g81 A (smP B n (if lm = 5 then 8 else 6) 0 p).1 (smP B n (if lm = 5 then 8 else 6) 0 p).2.1 := p81
        have k81b : (smP B n (if lm = 5 then 8 else 6) 0 p).1 = 0 → okM f g81 A lm la u (smP B n (if lm = 5 then 8 else 6) 0 p).2.2 := k81
        have p81d := p81c _ p81b
        have t81 := p81d.2.1 rfl
        have h81 := t81.2.2.2.1
        have b81 := p81d.1
        have hte81 := teP_le (B := B) t81.1
        have htp81 := tpM_of htp (o81.2.1 5 (by decide) (by decide) (by decide)) (o81.2.2 7 (by decide))
        have k81c := k81b hr
        refine r_aloadR0 dX12_readUnit_84 ?_
        refine m_getV (x := (g81 A 10)) zf_RX12_92 rfl dX12_readUnit_85 (shM_k hs) (rfl) ?_
        refine r_istore1 dX12_readUnit_88 rfl ?_
        refine r_iload1 dX12_readUnit_89 ?_
        refine n_bipush dX12_readUnit_90 (by decide) (fun r90 e90_z => ?_)
        refine t_iceq (t := 112) dX12_readUnit_92 (by decide) (fun h92 => False.elim (by omega)) (fun h92 => ?_)
        refine r_iload1 dX12_readUnit_95 ?_
        refine n_bipush dX12_readUnit_96 (by decide) (fun r96 e96 => ?_)
        refine t_iceq (t := 112) dX12_readUnit_98 (by decide) (fun h98 => ?_) (fun h98 => False.elim (by omega))
        refine r_aloadR0 dX12_readUnit_112 ?_
        refine m_getV (x := (g81 A 12)) zf_RX12_112 rfl dX12_readUnit_113 (shM_k hs) (rfl) ?_
        refine t_ifne (t := 123) dX12_readUnit_116 (by decide) (fun h116 => False.elim (by omega)) (fun h116 => ?_)
        refine r_aloadR0 dX12_readUnit_119 ?_
        refine q_callV0 zm_RX12_131 dX12_readUnit_120 (shM_k hs) (by decide) rfl (Nat.le_of_ble_eq_true rfl) (Nat.le_of_ble_eq_true rfl) (Nat.le_of_ble_eq_true rfl) (Nat.le_of_ble_eq_true rfl) (Nat.le_of_ble_eq_true rfl) (s_X12_readsOn (p := teP B n (smP B n (if lm = 5 then 8 else 6) 0 p).2.1) G hs htp81 t81.2.1 hte81 (fun g120 o120 t120 => ?_))
        have htp120 := tpM_of htp81 (o120.2.1 5 (by decide) (by decide) (by decide)) (o120.2.2 7 (by decide))
        have hp120 : psM B n g120 A 0 (nxP B n (smP B n (if lm = 5 then 8 else 6) 0 p).2.1) := ⟨by rw [o120.2.2 12 (by decide)]; exact b81, fun _ => t120, fun h_z => absurd rfl h_z⟩
        have w120 : g120 (A + 2) = g81 (A + 2) := o120.2.1 2 (by decide) (by decide) (by decide)
        refine r_aloadR0 dX12_readUnit_123 ?_
        refine q_callV0 zm_RX12_181 dX12_readUnit_124 (shM_k hs) (by decide) rfl (Nat.le_of_ble_eq_true rfl) (Nat.le_of_ble_eq_true rfl) (Nat.le_of_ble_eq_true rfl) (Nat.le_of_ble_eq_true rfl) (Nat.le_of_ble_eq_true rfl) (s_X12_readSum_0 (lm := lm) (la := la) (u := u + (smP B n (if lm = 5 then 8 else 6) 0 p).2.2.length) G hs kw hld htp120 hp120 (by rw [o120.2.2 16 (by decide)]; exact d81) (by rw [o120.2.2 17 (by decide), o81.2.2 17 (by decide)]; exact hlm) (by rw [o120.2.2 18 (by decide), o81.2.2 18 (by decide)]; exact hla) (by rw [w120]; exact k81c.1) h5 h29 h99 (by omega) (fun g124 o124 d124 p124 k124 => ?_))
        have of124 : frM A [2] [8, 9, 10, 11, 12, 13, 16] f g124 := frM_tr o81 (frM_tr (frM_su o120 (by decide) (by decide)) o124)
        have p124b : psM B n g124 A (smP B n (if lm = 5 then 8 else 6) 0 (nxP B n (smP B n (if lm = 5 then 8 else 6) 0 p).2.1)).1 (smP B n (if lm = 5 then 8 else 6) 0 (nxP B n (smP B n (if lm = 5 then 8 else 6) 0 p).2.1)).2.1 := p124
        have k124b : (smP B n (if lm = 5 then 8 else 6) 0 (nxP B n (smP B n (if lm = 5 then 8 else 6) 0 p).2.1)).1 = 0 → okM g120 g124 A lm la (u + (smP B n (if lm = 5 then 8 else 6) 0 p).2.2.length) (smP B n (if lm = 5 then 8 else 6) 0 (nxP B n (smP B n (if lm = 5 then 8 else 6) 0 p).2.1)).2.2 := k124
        refine r_aloadR0 dX12_readUnit_127 ?_
        refine r_iload1 dX12_readUnit_128 ?_
        refine n_bipush dX12_readUnit_129 (by decide) (fun r129 e129 => ?_)
        refine t_icne (t := 139) dX12_readUnit_131 (by decide) (fun h131 => ?_) (fun h131 => False.elim (by omega))
        refine r_iload1 dX12_readUnit_139 ?_
        refine n_bipush dX12_readUnit_140 (by decide) (fun r140 e140 => ?_)
        refine t_icne (t := 150) dX12_readUnit_142 (by decide) (fun h142 => False.elim (by omega)) (fun h142 => ?_)
        refine n_bipush dX12_readUnit_145 (by decide) (fun r145 e145 => ?_)
        refine r_goto (t := 152) dX12_readUnit_147 (by decide) ?_
        refine q_callV1 zm_RX12_162 dX12_readUnit_152 (shM_k hs) (by decide) rfl (Nat.le_of_ble_eq_true rfl) (Nat.le_of_ble_eq_true rfl) (Nat.le_of_ble_eq_true rfl) (Nat.le_of_ble_eq_true rfl) (Nat.le_of_ble_eq_true rfl) (s_X12_laysStep (lm := lm) (la := la) (u := u + (smP B n (if lm = 5 then 8 else 6) 0 p).2.2.length + (smP B n (if lm = 5 then 8 else 6) 0 (nxP B n (smP B n (if lm = 5 then 8 else 6) 0 p).2.1)).2.2.length) G hs (by have := p124b.1; rw [hq] at this; exact this) (by rw [of124.2.2 17 (by decide)]; exact hlm) (by rw [of124.2.2 18 (by decide)]; exact hla) (k124b hq).1 h5 h29 (by omega) (fun g152 o152 a152 b152 c152 => ?_))
        have p124c := p124b
        rw [hq] at p124c
        refine r_vret dX12_readUnit_155 rfl (Nat.le_of_ble_eq_true rfl) (Nat.le_of_ble_eq_true rfl) ?_
        refine hQ _ (frM_tr of124 (frM_su o152 (by decide) (by decide))) (by rw [o152.2.2 16 (by decide)]; exact d124) (psM_of p124c (o152.2.2 8 (by decide)) (o152.2.2 9 (by decide)) (o152.2.2 10 (by decide)) (o152.2.2 11 (by decide)) (o152.2.2 12 (by decide)) (o152.2.2 13 (by decide))) (fun _ => okM_ap (by omega) (by rw [List.length_append]; omega) (okM_ap (by omega) (by omega) k81c (okM_cg (k124b hq) w120 rfl)) ?_)
        rw [List.length_append, ← Nat.add_assoc]
        exact okM_one (by omega) a152 b152 c152 (by rw [e145]; rfl)
      · have hv : cmP B n (smP B n (if lm = 5 then 8 else 6) 0) p = (smP B n (if lm = 5 then 8 else 6) 0 (nxP B n (smP B n (if lm = 5 then 8 else 6) 0 p).2.1)) := (if_neg (not_not_intro hr)).trans ((if_neg hop0).trans (if_pos hq))
        rw [hv] at hQ
        refine r_aloadR0 dX12_readUnit_0 ?_
        refine m_getV (x := (f A 12)) zf_RX12_112 rfl dX12_readUnit_1 (shM_k hs) (rfl) ?_
        refine t_ifeq (t := 8) dX12_readUnit_4 (by decide) (fun h4 => ?_) (fun h4 => False.elim (by omega))
        refine r_aloadR0 dX12_readUnit_8 ?_
        refine k_ldc (hld _ (List.mem_of_getElem? (i := 2) rfl)) dX12_readUnit_9 ?_
        refine q_callV1 zm_RX12_127 dX12_readUnit_11 (shM_k hs) (by decide) rfl (Nat.le_of_ble_eq_true rfl) (Nat.le_of_ble_eq_true rfl) (Nat.le_of_ble_eq_true rfl) (Nat.le_of_ble_eq_true rfl) (Nat.le_of_ble_eq_true rfl) (s_X12_isWord (i := 8) G hs kw (by decide) htp hps (fun r11 e11_z => ?_))
        have e11b : r11.toInt = 0 := e11_z.elim (fun h_z => absurd h_z.2 hw) (fun h_z => h_z.1)
        refine t_ifeq (t := 44) dX12_readUnit_14 (by decide) (fun h14 => ?_) (fun h14 => False.elim (by omega))
        refine r_aloadR0 dX12_readUnit_44 ?_
        refine n_bipush dX12_readUnit_45 (by decide) (fun r45 e45 => ?_)
        refine q_callV1 zm_RX12_175 dX12_readUnit_47 (shM_k hs) (by decide) rfl (Nat.le_of_ble_eq_true rfl) (Nat.le_of_ble_eq_true rfl) (Nat.le_of_ble_eq_true rfl) (Nat.le_of_ble_eq_true rfl) (Nat.le_of_ble_eq_true rfl) (s_X12_isSign G hs (fun r47 e47 => ?_))
        refine t_ifeq (t := 80) dX12_readUnit_50 (by decide) (fun h50 => ?_) (fun h50 => False.elim (by omega))
        refine r_aloadR0 dX12_readUnit_80 ?_
        refine q_callV0 zm_RX12_181 dX12_readUnit_81 (shM_k hs) (by decide) rfl (Nat.le_of_ble_eq_true rfl) (Nat.le_of_ble_eq_true rfl) (Nat.le_of_ble_eq_true rfl) (Nat.le_of_ble_eq_true rfl) (Nat.le_of_ble_eq_true rfl) (s_X12_readSum_0 (lm := lm) (la := la) (u := u) G hs kw hld htp hps hd16 hlm hla hu h5 h29 h99 hup (fun g81 o81 d81 p81 k81 => ?_))
        have p81b : psM B n g81 A (smP B n (if lm = 5 then 8 else 6) 0 p).1 (smP B n (if lm = 5 then 8 else 6) 0 p).2.1 := p81
        have k81b : (smP B n (if lm = 5 then 8 else 6) 0 p).1 = 0 → okM f g81 A lm la u (smP B n (if lm = 5 then 8 else 6) 0 p).2.2 := k81
        have p81d := p81c _ p81b
        have t81 := p81d.2.1 rfl
        have h81 := t81.2.2.2.1
        have b81 := p81d.1
        have hte81 := teP_le (B := B) t81.1
        have htp81 := tpM_of htp (o81.2.1 5 (by decide) (by decide) (by decide)) (o81.2.2 7 (by decide))
        have k81c := k81b hr
        refine r_aloadR0 dX12_readUnit_84 ?_
        refine m_getV (x := (g81 A 10)) zf_RX12_92 rfl dX12_readUnit_85 (shM_k hs) (rfl) ?_
        refine r_istore1 dX12_readUnit_88 rfl ?_
        refine r_iload1 dX12_readUnit_89 ?_
        refine n_bipush dX12_readUnit_90 (by decide) (fun r90 e90_z => ?_)
        refine t_iceq (t := 112) dX12_readUnit_92 (by decide) (fun h92 => False.elim (by omega)) (fun h92 => ?_)
        refine r_iload1 dX12_readUnit_95 ?_
        refine n_bipush dX12_readUnit_96 (by decide) (fun r96 e96 => ?_)
        refine t_iceq (t := 112) dX12_readUnit_98 (by decide) (fun h98 => ?_) (fun h98 => False.elim (by omega))
        refine r_aloadR0 dX12_readUnit_112 ?_
        refine m_getV (x := (g81 A 12)) zf_RX12_112 rfl dX12_readUnit_113 (shM_k hs) (rfl) ?_
        refine t_ifne (t := 123) dX12_readUnit_116 (by decide) (fun h116 => False.elim (by omega)) (fun h116 => ?_)
        refine r_aloadR0 dX12_readUnit_119 ?_
        refine q_callV0 zm_RX12_131 dX12_readUnit_120 (shM_k hs) (by decide) rfl (Nat.le_of_ble_eq_true rfl) (Nat.le_of_ble_eq_true rfl) (Nat.le_of_ble_eq_true rfl) (Nat.le_of_ble_eq_true rfl) (Nat.le_of_ble_eq_true rfl) (s_X12_readsOn (p := teP B n (smP B n (if lm = 5 then 8 else 6) 0 p).2.1) G hs htp81 t81.2.1 hte81 (fun g120 o120 t120 => ?_))
        have htp120 := tpM_of htp81 (o120.2.1 5 (by decide) (by decide) (by decide)) (o120.2.2 7 (by decide))
        have hp120 : psM B n g120 A 0 (nxP B n (smP B n (if lm = 5 then 8 else 6) 0 p).2.1) := ⟨by rw [o120.2.2 12 (by decide)]; exact b81, fun _ => t120, fun h_z => absurd rfl h_z⟩
        have w120 : g120 (A + 2) = g81 (A + 2) := o120.2.1 2 (by decide) (by decide) (by decide)
        refine r_aloadR0 dX12_readUnit_123 ?_
        refine q_callV0 zm_RX12_181 dX12_readUnit_124 (shM_k hs) (by decide) rfl (Nat.le_of_ble_eq_true rfl) (Nat.le_of_ble_eq_true rfl) (Nat.le_of_ble_eq_true rfl) (Nat.le_of_ble_eq_true rfl) (Nat.le_of_ble_eq_true rfl) (s_X12_readSum_0 (lm := lm) (la := la) (u := u + (smP B n (if lm = 5 then 8 else 6) 0 p).2.2.length) G hs kw hld htp120 hp120 (by rw [o120.2.2 16 (by decide)]; exact d81) (by rw [o120.2.2 17 (by decide), o81.2.2 17 (by decide)]; exact hlm) (by rw [o120.2.2 18 (by decide), o81.2.2 18 (by decide)]; exact hla) (by rw [w120]; exact k81c.1) h5 h29 h99 (by omega) (fun g124 o124 d124 p124 k124 => ?_))
        have of124 : frM A [2] [8, 9, 10, 11, 12, 13, 16] f g124 := frM_tr o81 (frM_tr (frM_su o120 (by decide) (by decide)) o124)
        have p124b : psM B n g124 A (smP B n (if lm = 5 then 8 else 6) 0 (nxP B n (smP B n (if lm = 5 then 8 else 6) 0 p).2.1)).1 (smP B n (if lm = 5 then 8 else 6) 0 (nxP B n (smP B n (if lm = 5 then 8 else 6) 0 p).2.1)).2.1 := p124
        have k124b : (smP B n (if lm = 5 then 8 else 6) 0 (nxP B n (smP B n (if lm = 5 then 8 else 6) 0 p).2.1)).1 = 0 → okM g120 g124 A lm la (u + (smP B n (if lm = 5 then 8 else 6) 0 p).2.2.length) (smP B n (if lm = 5 then 8 else 6) 0 (nxP B n (smP B n (if lm = 5 then 8 else 6) 0 p).2.1)).2.2 := k124
        refine r_aloadR0 dX12_readUnit_127 ?_
        refine r_iload1 dX12_readUnit_128 ?_
        refine n_bipush dX12_readUnit_129 (by decide) (fun r129 e129 => ?_)
        refine t_icne (t := 139) dX12_readUnit_131 (by decide) (fun h131 => ?_) (fun h131 => False.elim (by omega))
        refine r_iload1 dX12_readUnit_139 ?_
        refine n_bipush dX12_readUnit_140 (by decide) (fun r140 e140 => ?_)
        refine t_icne (t := 150) dX12_readUnit_142 (by decide) (fun h142 => False.elim (by omega)) (fun h142 => ?_)
        refine n_bipush dX12_readUnit_145 (by decide) (fun r145 e145 => ?_)
        refine r_goto (t := 152) dX12_readUnit_147 (by decide) ?_
        refine q_callV1 zm_RX12_162 dX12_readUnit_152 (shM_k hs) (by decide) rfl (Nat.le_of_ble_eq_true rfl) (Nat.le_of_ble_eq_true rfl) (Nat.le_of_ble_eq_true rfl) (Nat.le_of_ble_eq_true rfl) (Nat.le_of_ble_eq_true rfl) (s_X12_laysStep_x G hs (by rw [p124b.1]; omega) ?_)
        refine r_vret dX12_readUnit_155 rfl (Nat.le_of_ble_eq_true rfl) (Nat.le_of_ble_eq_true rfl) ?_
        exact hQ _ of124 d124 p124b (fun h_z => absurd h_z hq)
    have hn60 := hc_z
    have hm60 : rkP B n (smP B n (if lm = 5 then 8 else 6) 0 p).2.1 ≠ 60 := fun h_z => hc_z (q60.mp h_z)
    clear hc_z
    by_cases hc_z : tkP B n (smP B n (if lm = 5 then 8 else 6) 0 p).2.1 = 62
    · have h10c := q62.mpr hc_z
      have hop : opC B n (smP B n (if lm = 5 then 8 else 6) 0 p).2.1 = 2008 := (if_neg (by omega)).trans ((if_neg (by omega)).trans (if_pos hc_z))
      have hop0 : opC B n (smP B n (if lm = 5 then 8 else 6) 0 p).2.1 ≠ 0 := by rw [hop]; decide
      have hln := tk_lt (B := B) (n := n) (s := (smP B n (if lm = 5 then 8 else 6) 0 p).2.1) (by rw [hc_z]; decide)
      have hnx := nxP_gt (B := B) hln
      by_cases hq : (smP B n (if lm = 5 then 8 else 6) 0 (nxP B n (smP B n (if lm = 5 then 8 else 6) 0 p).2.1)).1 = 0
      · obtain ⟨z1, z2, z3, z4⟩ := (hsm _ hnx.2).1 hq
        have hv : cmP B n (smP B n (if lm = 5 then 8 else 6) 0) p = (0, (smP B n (if lm = 5 then 8 else 6) 0 (nxP B n (smP B n (if lm = 5 then 8 else 6) 0 p).2.1)).2.1, (smP B n (if lm = 5 then 8 else 6) 0 p).2.2 ++ (smP B n (if lm = 5 then 8 else 6) 0 (nxP B n (smP B n (if lm = 5 then 8 else 6) 0 p).2.1)).2.2 ++ [opC B n (smP B n (if lm = 5 then 8 else 6) 0 p).2.1]) := (if_neg (not_not_intro hr)).trans ((if_neg hop0).trans (if_neg (not_not_intro hq)))
        rw [hv, hop] at hQ
        refine r_aloadR0 dX12_readUnit_0 ?_
        refine m_getV (x := (f A 12)) zf_RX12_112 rfl dX12_readUnit_1 (shM_k hs) (rfl) ?_
        refine t_ifeq (t := 8) dX12_readUnit_4 (by decide) (fun h4 => ?_) (fun h4 => False.elim (by omega))
        refine r_aloadR0 dX12_readUnit_8 ?_
        refine k_ldc (hld _ (List.mem_of_getElem? (i := 2) rfl)) dX12_readUnit_9 ?_
        refine q_callV1 zm_RX12_127 dX12_readUnit_11 (shM_k hs) (by decide) rfl (Nat.le_of_ble_eq_true rfl) (Nat.le_of_ble_eq_true rfl) (Nat.le_of_ble_eq_true rfl) (Nat.le_of_ble_eq_true rfl) (Nat.le_of_ble_eq_true rfl) (s_X12_isWord (i := 8) G hs kw (by decide) htp hps (fun r11 e11_z => ?_))
        have e11b : r11.toInt = 0 := e11_z.elim (fun h_z => absurd h_z.2 hw) (fun h_z => h_z.1)
        refine t_ifeq (t := 44) dX12_readUnit_14 (by decide) (fun h14 => ?_) (fun h14 => False.elim (by omega))
        refine r_aloadR0 dX12_readUnit_44 ?_
        refine n_bipush dX12_readUnit_45 (by decide) (fun r45 e45 => ?_)
        refine q_callV1 zm_RX12_175 dX12_readUnit_47 (shM_k hs) (by decide) rfl (Nat.le_of_ble_eq_true rfl) (Nat.le_of_ble_eq_true rfl) (Nat.le_of_ble_eq_true rfl) (Nat.le_of_ble_eq_true rfl) (Nat.le_of_ble_eq_true rfl) (s_X12_isSign G hs (fun r47 e47 => ?_))
        refine t_ifeq (t := 80) dX12_readUnit_50 (by decide) (fun h50 => ?_) (fun h50 => False.elim (by omega))
        refine r_aloadR0 dX12_readUnit_80 ?_
        refine q_callV0 zm_RX12_181 dX12_readUnit_81 (shM_k hs) (by decide) rfl (Nat.le_of_ble_eq_true rfl) (Nat.le_of_ble_eq_true rfl) (Nat.le_of_ble_eq_true rfl) (Nat.le_of_ble_eq_true rfl) (Nat.le_of_ble_eq_true rfl) (s_X12_readSum_0 (lm := lm) (la := la) (u := u) G hs kw hld htp hps hd16 hlm hla hu h5 h29 h99 hup (fun g81 o81 d81 p81 k81 => ?_))
        have p81b : psM B n g81 A (smP B n (if lm = 5 then 8 else 6) 0 p).1 (smP B n (if lm = 5 then 8 else 6) 0 p).2.1 := p81
        have k81b : (smP B n (if lm = 5 then 8 else 6) 0 p).1 = 0 → okM f g81 A lm la u (smP B n (if lm = 5 then 8 else 6) 0 p).2.2 := k81
        have p81d := p81c _ p81b
        have t81 := p81d.2.1 rfl
        have h81 := t81.2.2.2.1
        have b81 := p81d.1
        have hte81 := teP_le (B := B) t81.1
        have htp81 := tpM_of htp (o81.2.1 5 (by decide) (by decide) (by decide)) (o81.2.2 7 (by decide))
        have k81c := k81b hr
        refine r_aloadR0 dX12_readUnit_84 ?_
        refine m_getV (x := (g81 A 10)) zf_RX12_92 rfl dX12_readUnit_85 (shM_k hs) (rfl) ?_
        refine r_istore1 dX12_readUnit_88 rfl ?_
        refine r_iload1 dX12_readUnit_89 ?_
        refine n_bipush dX12_readUnit_90 (by decide) (fun r90 e90_z => ?_)
        refine t_iceq (t := 112) dX12_readUnit_92 (by decide) (fun h92 => False.elim (by omega)) (fun h92 => ?_)
        refine r_iload1 dX12_readUnit_95 ?_
        refine n_bipush dX12_readUnit_96 (by decide) (fun r96 e96 => ?_)
        refine t_iceq (t := 112) dX12_readUnit_98 (by decide) (fun h98 => False.elim (by omega)) (fun h98 => ?_)
        refine r_iload1 dX12_readUnit_101 ?_
        refine n_bipush dX12_readUnit_102 (by decide) (fun r102 e102_z => ?_)
        refine t_iceq (t := 112) dX12_readUnit_104 (by decide) (fun h104 => ?_) (fun h104 => False.elim (by omega))
        refine r_aloadR0 dX12_readUnit_112 ?_
        refine m_getV (x := (g81 A 12)) zf_RX12_112 rfl dX12_readUnit_113 (shM_k hs) (rfl) ?_
        refine t_ifne (t := 123) dX12_readUnit_116 (by decide) (fun h116 => False.elim (by omega)) (fun h116 => ?_)
        refine r_aloadR0 dX12_readUnit_119 ?_
        refine q_callV0 zm_RX12_131 dX12_readUnit_120 (shM_k hs) (by decide) rfl (Nat.le_of_ble_eq_true rfl) (Nat.le_of_ble_eq_true rfl) (Nat.le_of_ble_eq_true rfl) (Nat.le_of_ble_eq_true rfl) (Nat.le_of_ble_eq_true rfl) (s_X12_readsOn (p := teP B n (smP B n (if lm = 5 then 8 else 6) 0 p).2.1) G hs htp81 t81.2.1 hte81 (fun g120 o120 t120 => ?_))
        have htp120 := tpM_of htp81 (o120.2.1 5 (by decide) (by decide) (by decide)) (o120.2.2 7 (by decide))
        have hp120 : psM B n g120 A 0 (nxP B n (smP B n (if lm = 5 then 8 else 6) 0 p).2.1) := ⟨by rw [o120.2.2 12 (by decide)]; exact b81, fun _ => t120, fun h_z => absurd rfl h_z⟩
        have w120 : g120 (A + 2) = g81 (A + 2) := o120.2.1 2 (by decide) (by decide) (by decide)
        refine r_aloadR0 dX12_readUnit_123 ?_
        refine q_callV0 zm_RX12_181 dX12_readUnit_124 (shM_k hs) (by decide) rfl (Nat.le_of_ble_eq_true rfl) (Nat.le_of_ble_eq_true rfl) (Nat.le_of_ble_eq_true rfl) (Nat.le_of_ble_eq_true rfl) (Nat.le_of_ble_eq_true rfl) (s_X12_readSum_0 (lm := lm) (la := la) (u := u + (smP B n (if lm = 5 then 8 else 6) 0 p).2.2.length) G hs kw hld htp120 hp120 (by rw [o120.2.2 16 (by decide)]; exact d81) (by rw [o120.2.2 17 (by decide), o81.2.2 17 (by decide)]; exact hlm) (by rw [o120.2.2 18 (by decide), o81.2.2 18 (by decide)]; exact hla) (by rw [w120]; exact k81c.1) h5 h29 h99 (by omega) (fun g124 o124 d124 p124 k124 => ?_))
        have of124 : frM A [2] [8, 9, 10, 11, 12, 13, 16] f g124 := frM_tr o81 (frM_tr (frM_su o120 (by decide) (by decide)) o124)
        have p124b : psM B n g124 A (smP B n (if lm = 5 then 8 else 6) 0 (nxP B n (smP B n (if lm = 5 then 8 else 6) 0 p).2.1)).1 (smP B n (if lm = 5 then 8 else 6) 0 (nxP B n (smP B n (if lm = 5 then 8 else 6) 0 p).2.1)).2.1 := p124
        have k124b : (smP B n (if lm = 5 then 8 else 6) 0 (nxP B n (smP B n (if lm = 5 then 8 else 6) 0 p).2.1)).1 = 0 → okM g120 g124 A lm la (u + (smP B n (if lm = 5 then 8 else 6) 0 p).2.2.length) (smP B n (if lm = 5 then 8 else 6) 0 (nxP B n (smP B n (if lm = 5 then 8 else 6) 0 p).2.1)).2.2 := k124
        refine r_aloadR0 dX12_readUnit_127 ?_
        refine r_iload1 dX12_readUnit_128 ?_
        refine n_bipush dX12_readUnit_129 (by decide) (fun r129 e129 => ?_)
        refine t_icne (t := 139) dX12_readUnit_131 (by decide) (fun h131 => ?_) (fun h131 => False.elim (by omega))
        refine r_iload1 dX12_readUnit_139 ?_
        refine n_bipush dX12_readUnit_140 (by decide) (fun r140 e140 => ?_)
        refine t_icne (t := 150) dX12_readUnit_142 (by decide) (fun h142 => ?_) (fun h142 => False.elim (by omega))
        refine n_bipush dX12_readUnit_150 (by decide) (fun r150 e150 => ?_)
        refine q_callV1 zm_RX12_162 dX12_readUnit_152 (shM_k hs) (by decide) rfl (Nat.le_of_ble_eq_true rfl) (Nat.le_of_ble_eq_true rfl) (Nat.le_of_ble_eq_true rfl) (Nat.le_of_ble_eq_true rfl) (Nat.le_of_ble_eq_true rfl) (s_X12_laysStep (lm := lm) (la := la) (u := u + (smP B n (if lm = 5 then 8 else 6) 0 p).2.2.length + (smP B n (if lm = 5 then 8 else 6) 0 (nxP B n (smP B n (if lm = 5 then 8 else 6) 0 p).2.1)).2.2.length) G hs (by have := p124b.1; rw [hq] at this; exact this) (by rw [of124.2.2 17 (by decide)]; exact hlm) (by rw [of124.2.2 18 (by decide)]; exact hla) (k124b hq).1 h5 h29 (by omega) (fun g152 o152 a152 b152 c152 => ?_))
        have p124c := p124b
        rw [hq] at p124c
        refine r_vret dX12_readUnit_155 rfl (Nat.le_of_ble_eq_true rfl) (Nat.le_of_ble_eq_true rfl) ?_
        refine hQ _ (frM_tr of124 (frM_su o152 (by decide) (by decide))) (by rw [o152.2.2 16 (by decide)]; exact d124) (psM_of p124c (o152.2.2 8 (by decide)) (o152.2.2 9 (by decide)) (o152.2.2 10 (by decide)) (o152.2.2 11 (by decide)) (o152.2.2 12 (by decide)) (o152.2.2 13 (by decide))) (fun _ => okM_ap (by omega) (by rw [List.length_append]; omega) (okM_ap (by omega) (by omega) k81c (okM_cg (k124b hq) w120 rfl)) ?_)
        rw [List.length_append, ← Nat.add_assoc]
        exact okM_one (by omega) a152 b152 c152 (by rw [e150]; rfl)
      · have hv : cmP B n (smP B n (if lm = 5 then 8 else 6) 0) p = (smP B n (if lm = 5 then 8 else 6) 0 (nxP B n (smP B n (if lm = 5 then 8 else 6) 0 p).2.1)) := (if_neg (not_not_intro hr)).trans ((if_neg hop0).trans (if_pos hq))
        rw [hv] at hQ
        refine r_aloadR0 dX12_readUnit_0 ?_
        refine m_getV (x := (f A 12)) zf_RX12_112 rfl dX12_readUnit_1 (shM_k hs) (rfl) ?_
        refine t_ifeq (t := 8) dX12_readUnit_4 (by decide) (fun h4 => ?_) (fun h4 => False.elim (by omega))
        refine r_aloadR0 dX12_readUnit_8 ?_
        refine k_ldc (hld _ (List.mem_of_getElem? (i := 2) rfl)) dX12_readUnit_9 ?_
        refine q_callV1 zm_RX12_127 dX12_readUnit_11 (shM_k hs) (by decide) rfl (Nat.le_of_ble_eq_true rfl) (Nat.le_of_ble_eq_true rfl) (Nat.le_of_ble_eq_true rfl) (Nat.le_of_ble_eq_true rfl) (Nat.le_of_ble_eq_true rfl) (s_X12_isWord (i := 8) G hs kw (by decide) htp hps (fun r11 e11_z => ?_))
        have e11b : r11.toInt = 0 := e11_z.elim (fun h_z => absurd h_z.2 hw) (fun h_z => h_z.1)
        refine t_ifeq (t := 44) dX12_readUnit_14 (by decide) (fun h14 => ?_) (fun h14 => False.elim (by omega))
        refine r_aloadR0 dX12_readUnit_44 ?_
        refine n_bipush dX12_readUnit_45 (by decide) (fun r45 e45 => ?_)
        refine q_callV1 zm_RX12_175 dX12_readUnit_47 (shM_k hs) (by decide) rfl (Nat.le_of_ble_eq_true rfl) (Nat.le_of_ble_eq_true rfl) (Nat.le_of_ble_eq_true rfl) (Nat.le_of_ble_eq_true rfl) (Nat.le_of_ble_eq_true rfl) (s_X12_isSign G hs (fun r47 e47 => ?_))
        refine t_ifeq (t := 80) dX12_readUnit_50 (by decide) (fun h50 => ?_) (fun h50 => False.elim (by omega))
        refine r_aloadR0 dX12_readUnit_80 ?_
        refine q_callV0 zm_RX12_181 dX12_readUnit_81 (shM_k hs) (by decide) rfl (Nat.le_of_ble_eq_true rfl) (Nat.le_of_ble_eq_true rfl) (Nat.le_of_ble_eq_true rfl) (Nat.le_of_ble_eq_true rfl) (Nat.le_of_ble_eq_true rfl) (s_X12_readSum_0 (lm := lm) (la := la) (u := u) G hs kw hld htp hps hd16 hlm hla hu h5 h29 h99 hup (fun g81 o81 d81 p81 k81 => ?_))
        have p81b : psM B n g81 A (smP B n (if lm = 5 then 8 else 6) 0 p).1 (smP B n (if lm = 5 then 8 else 6) 0 p).2.1 := p81
        have k81b : (smP B n (if lm = 5 then 8 else 6) 0 p).1 = 0 → okM f g81 A lm la u (smP B n (if lm = 5 then 8 else 6) 0 p).2.2 := k81
        have p81d := p81c _ p81b
        have t81 := p81d.2.1 rfl
        have h81 := t81.2.2.2.1
        have b81 := p81d.1
        have hte81 := teP_le (B := B) t81.1
        have htp81 := tpM_of htp (o81.2.1 5 (by decide) (by decide) (by decide)) (o81.2.2 7 (by decide))
        have k81c := k81b hr
        refine r_aloadR0 dX12_readUnit_84 ?_
        refine m_getV (x := (g81 A 10)) zf_RX12_92 rfl dX12_readUnit_85 (shM_k hs) (rfl) ?_
        refine r_istore1 dX12_readUnit_88 rfl ?_
        refine r_iload1 dX12_readUnit_89 ?_
        refine n_bipush dX12_readUnit_90 (by decide) (fun r90 e90_z => ?_)
        refine t_iceq (t := 112) dX12_readUnit_92 (by decide) (fun h92 => False.elim (by omega)) (fun h92 => ?_)
        refine r_iload1 dX12_readUnit_95 ?_
        refine n_bipush dX12_readUnit_96 (by decide) (fun r96 e96 => ?_)
        refine t_iceq (t := 112) dX12_readUnit_98 (by decide) (fun h98 => False.elim (by omega)) (fun h98 => ?_)
        refine r_iload1 dX12_readUnit_101 ?_
        refine n_bipush dX12_readUnit_102 (by decide) (fun r102 e102_z => ?_)
        refine t_iceq (t := 112) dX12_readUnit_104 (by decide) (fun h104 => ?_) (fun h104 => False.elim (by omega))
        refine r_aloadR0 dX12_readUnit_112 ?_
        refine m_getV (x := (g81 A 12)) zf_RX12_112 rfl dX12_readUnit_113 (shM_k hs) (rfl) ?_
        refine t_ifne (t := 123) dX12_readUnit_116 (by decide) (fun h116 => False.elim (by omega)) (fun h116 => ?_)
        refine r_aloadR0 dX12_readUnit_119 ?_
        refine q_callV0 zm_RX12_131 dX12_readUnit_120 (shM_k hs) (by decide) rfl (Nat.le_of_ble_eq_true rfl) (Nat.le_of_ble_eq_true rfl) (Nat.le_of_ble_eq_true rfl) (Nat.le_of_ble_eq_true rfl) (Nat.le_of_ble_eq_true rfl) (s_X12_readsOn (p := teP B n (smP B n (if lm = 5 then 8 else 6) 0 p).2.1) G hs htp81 t81.2.1 hte81 (fun g120 o120 t120 => ?_))
        have htp120 := tpM_of htp81 (o120.2.1 5 (by decide) (by decide) (by decide)) (o120.2.2 7 (by decide))
        have hp120 : psM B n g120 A 0 (nxP B n (smP B n (if lm = 5 then 8 else 6) 0 p).2.1) := ⟨by rw [o120.2.2 12 (by decide)]; exact b81, fun _ => t120, fun h_z => absurd rfl h_z⟩
        have w120 : g120 (A + 2) = g81 (A + 2) := o120.2.1 2 (by decide) (by decide) (by decide)
        refine r_aloadR0 dX12_readUnit_123 ?_
        refine q_callV0 zm_RX12_181 dX12_readUnit_124 (shM_k hs) (by decide) rfl (Nat.le_of_ble_eq_true rfl) (Nat.le_of_ble_eq_true rfl) (Nat.le_of_ble_eq_true rfl) (Nat.le_of_ble_eq_true rfl) (Nat.le_of_ble_eq_true rfl) (s_X12_readSum_0 (lm := lm) (la := la) (u := u + (smP B n (if lm = 5 then 8 else 6) 0 p).2.2.length) G hs kw hld htp120 hp120 (by rw [o120.2.2 16 (by decide)]; exact d81) (by rw [o120.2.2 17 (by decide), o81.2.2 17 (by decide)]; exact hlm) (by rw [o120.2.2 18 (by decide), o81.2.2 18 (by decide)]; exact hla) (by rw [w120]; exact k81c.1) h5 h29 h99 (by omega) (fun g124 o124 d124 p124 k124 => ?_))
        have of124 : frM A [2] [8, 9, 10, 11, 12, 13, 16] f g124 := frM_tr o81 (frM_tr (frM_su o120 (by decide) (by decide)) o124)
        have p124b : psM B n g124 A (smP B n (if lm = 5 then 8 else 6) 0 (nxP B n (smP B n (if lm = 5 then 8 else 6) 0 p).2.1)).1 (smP B n (if lm = 5 then 8 else 6) 0 (nxP B n (smP B n (if lm = 5 then 8 else 6) 0 p).2.1)).2.1 := p124
        have k124b : (smP B n (if lm = 5 then 8 else 6) 0 (nxP B n (smP B n (if lm = 5 then 8 else 6) 0 p).2.1)).1 = 0 → okM g120 g124 A lm la (u + (smP B n (if lm = 5 then 8 else 6) 0 p).2.2.length) (smP B n (if lm = 5 then 8 else 6) 0 (nxP B n (smP B n (if lm = 5 then 8 else 6) 0 p).2.1)).2.2 := k124
        refine r_aloadR0 dX12_readUnit_127 ?_
        refine r_iload1 dX12_readUnit_128 ?_
        refine n_bipush dX12_readUnit_129 (by decide) (fun r129 e129 => ?_)
        refine t_icne (t := 139) dX12_readUnit_131 (by decide) (fun h131 => ?_) (fun h131 => False.elim (by omega))
        refine r_iload1 dX12_readUnit_139 ?_
        refine n_bipush dX12_readUnit_140 (by decide) (fun r140 e140 => ?_)
        refine t_icne (t := 150) dX12_readUnit_142 (by decide) (fun h142 => ?_) (fun h142 => False.elim (by omega))
        refine n_bipush dX12_readUnit_150 (by decide) (fun r150 e150 => ?_)
        refine q_callV1 zm_RX12_162 dX12_readUnit_152 (shM_k hs) (by decide) rfl (Nat.le_of_ble_eq_true rfl) (Nat.le_of_ble_eq_true rfl) (Nat.le_of_ble_eq_true rfl) (Nat.le_of_ble_eq_true rfl) (Nat.le_of_ble_eq_true rfl) (s_X12_laysStep_x G hs (by rw [p124b.1]; omega) ?_)
        refine r_vret dX12_readUnit_155 rfl (Nat.le_of_ble_eq_true rfl) (Nat.le_of_ble_eq_true rfl) ?_
        exact hQ _ of124 d124 p124b (fun h_z => absurd h_z hq)
    have hn62 := hc_z
    have hm62 : rkP B n (smP B n (if lm = 5 then 8 else 6) 0 p).2.1 ≠ 62 := fun h_z => hc_z (q62.mp h_z)
    clear hc_z
    have hop : opC B n (smP B n (if lm = 5 then 8 else 6) 0 p).2.1 = 0 := (if_neg hn61).trans ((if_neg hn60).trans (if_neg hn62))
    have hv : cmP B n (smP B n (if lm = 5 then 8 else 6) 0) p = (baP B n (smP B n (if lm = 5 then 8 else 6) 0 p).2.1, (smP B n (if lm = 5 then 8 else 6) 0 p).2.1, []) := (if_neg (not_not_intro hr)).trans (if_pos hop)
    rw [hv] at hQ
    refine r_aloadR0 dX12_readUnit_0 ?_
    refine m_getV (x := (f A 12)) zf_RX12_112 rfl dX12_readUnit_1 (shM_k hs) (rfl) ?_
    refine t_ifeq (t := 8) dX12_readUnit_4 (by decide) (fun h4 => ?_) (fun h4 => False.elim (by omega))
    refine r_aloadR0 dX12_readUnit_8 ?_
    refine k_ldc (hld _ (List.mem_of_getElem? (i := 2) rfl)) dX12_readUnit_9 ?_
    refine q_callV1 zm_RX12_127 dX12_readUnit_11 (shM_k hs) (by decide) rfl (Nat.le_of_ble_eq_true rfl) (Nat.le_of_ble_eq_true rfl) (Nat.le_of_ble_eq_true rfl) (Nat.le_of_ble_eq_true rfl) (Nat.le_of_ble_eq_true rfl) (s_X12_isWord (i := 8) G hs kw (by decide) htp hps (fun r11 e11_z => ?_))
    have e11b : r11.toInt = 0 := e11_z.elim (fun h_z => absurd h_z.2 hw) (fun h_z => h_z.1)
    refine t_ifeq (t := 44) dX12_readUnit_14 (by decide) (fun h14 => ?_) (fun h14 => False.elim (by omega))
    refine r_aloadR0 dX12_readUnit_44 ?_
    refine n_bipush dX12_readUnit_45 (by decide) (fun r45 e45 => ?_)
    refine q_callV1 zm_RX12_175 dX12_readUnit_47 (shM_k hs) (by decide) rfl (Nat.le_of_ble_eq_true rfl) (Nat.le_of_ble_eq_true rfl) (Nat.le_of_ble_eq_true rfl) (Nat.le_of_ble_eq_true rfl) (Nat.le_of_ble_eq_true rfl) (s_X12_isSign G hs (fun r47 e47 => ?_))
    refine t_ifeq (t := 80) dX12_readUnit_50 (by decide) (fun h50 => ?_) (fun h50 => False.elim (by omega))
    refine r_aloadR0 dX12_readUnit_80 ?_
    refine q_callV0 zm_RX12_181 dX12_readUnit_81 (shM_k hs) (by decide) rfl (Nat.le_of_ble_eq_true rfl) (Nat.le_of_ble_eq_true rfl) (Nat.le_of_ble_eq_true rfl) (Nat.le_of_ble_eq_true rfl) (Nat.le_of_ble_eq_true rfl) (s_X12_readSum_0 (lm := lm) (la := la) (u := u) G hs kw hld htp hps hd16 hlm hla hu h5 h29 h99 hup (fun g81 o81 d81 p81 k81 => ?_))
    have p81b : psM B n g81 A (smP B n (if lm = 5 then 8 else 6) 0 p).1 (smP B n (if lm = 5 then 8 else 6) 0 p).2.1 := p81
    have k81b : (smP B n (if lm = 5 then 8 else 6) 0 p).1 = 0 → okM f g81 A lm la u (smP B n (if lm = 5 then 8 else 6) 0 p).2.2 := k81
    have p81d := p81c _ p81b
    have t81 := p81d.2.1 rfl
    have h81 := t81.2.2.2.1
    have b81 := p81d.1
    have hte81 := teP_le (B := B) t81.1
    have htp81 := tpM_of htp (o81.2.1 5 (by decide) (by decide) (by decide)) (o81.2.2 7 (by decide))
    have k81c := k81b hr
    refine r_aloadR0 dX12_readUnit_84 ?_
    refine m_getV (x := (g81 A 10)) zf_RX12_92 rfl dX12_readUnit_85 (shM_k hs) (rfl) ?_
    refine r_istore1 dX12_readUnit_88 rfl ?_
    refine r_iload1 dX12_readUnit_89 ?_
    refine n_bipush dX12_readUnit_90 (by decide) (fun r90 e90_z => ?_)
    refine t_iceq (t := 112) dX12_readUnit_92 (by decide) (fun h92 => False.elim (by omega)) (fun h92 => ?_)
    refine r_iload1 dX12_readUnit_95 ?_
    refine n_bipush dX12_readUnit_96 (by decide) (fun r96 e96 => ?_)
    refine t_iceq (t := 112) dX12_readUnit_98 (by decide) (fun h98 => False.elim (by omega)) (fun h98 => ?_)
    refine r_iload1 dX12_readUnit_101 ?_
    refine n_bipush dX12_readUnit_102 (by decide) (fun r102 e102_z => ?_)
    refine t_iceq (t := 112) dX12_readUnit_104 (by decide) (fun h104 => False.elim (by omega)) (fun h104 => ?_)
    refine r_aloadR0 dX12_readUnit_107 ?_
    refine n_iconst dX12_readUnit_108 (by decide) (fun r108 e108 => ?_)
    refine q_callV1 zm_RX12_134 dX12_readUnit_109 (shM_k hs) (by decide) rfl (Nat.le_of_ble_eq_true rfl) (Nat.le_of_ble_eq_true rfl) (Nat.le_of_ble_eq_true rfl) (Nat.le_of_ble_eq_true rfl) (Nat.le_of_ble_eq_true rfl) (s_X12_blames (k := 2) G hs b81 t81 e108 (fun g109 o109 a109 b109 => ?_))
    have hpb := ps_ba a109 b109
    have hba := ba_bd (B := B) (n := n) (s := (smP B n (if lm = 5 then 8 else 6) 0 p).2.1)
    have nb : (g109 A 12).toInt ≠ 0 := by rw [hpb.1]; omega
    refine r_aloadR0 dX12_readUnit_112 ?_
    refine m_getV (x := (g109 A 12)) zf_RX12_112 rfl dX12_readUnit_113 (shM_k hs) (rfl) ?_
    refine t_ifne (t := 123) dX12_readUnit_116 (by decide) (fun h116 => ?_) (fun h116 => False.elim (by omega))
    refine r_aloadR0 dX12_readUnit_123 ?_
    refine q_callV0 zm_RX12_181 dX12_readUnit_124 (shM_k hs) (by decide) rfl (Nat.le_of_ble_eq_true rfl) (Nat.le_of_ble_eq_true rfl) (Nat.le_of_ble_eq_true rfl) (Nat.le_of_ble_eq_true rfl) (Nat.le_of_ble_eq_true rfl) (s_X12_readSum_x G hs nb ?_)
    refine r_aloadR0 dX12_readUnit_127 ?_
    refine r_iload1 dX12_readUnit_128 ?_
    refine n_bipush dX12_readUnit_129 (by decide) (fun r129 e129 => ?_)
    refine t_icne (t := 139) dX12_readUnit_131 (by decide) (fun h131 => ?_) (fun h131 => False.elim (by omega))
    refine r_iload1 dX12_readUnit_139 ?_
    refine n_bipush dX12_readUnit_140 (by decide) (fun r140 e140 => ?_)
    refine t_icne (t := 150) dX12_readUnit_142 (by decide) (fun h142 => ?_) (fun h142 => False.elim (by omega))
    refine n_bipush dX12_readUnit_150 (by decide) (fun r150 e150 => ?_)
    refine q_callV1 zm_RX12_162 dX12_readUnit_152 (shM_k hs) (by decide) rfl (Nat.le_of_ble_eq_true rfl) (Nat.le_of_ble_eq_true rfl) (Nat.le_of_ble_eq_true rfl) (Nat.le_of_ble_eq_true rfl) (Nat.le_of_ble_eq_true rfl) (s_X12_laysStep_x G hs nb ?_)
    refine r_vret dX12_readUnit_155 rfl (Nat.le_of_ble_eq_true rfl) (Nat.le_of_ble_eq_true rfl) ?_
    exact hQ _ (frM_tr o81 (frM_su o109 (by decide) (by decide))) (by rw [o109.2.2 16 (by decide)]; exact d81) hpb (fun h_z => absurd h_z hba.1)
  · have hv : cmP B n (smP B n (if lm = 5 then 8 else 6) 0) p = (smP B n (if lm = 5 then 8 else 6) 0 p) := if_pos hr
    rw [hv] at hQ
    refine r_aloadR0 dX12_readUnit_0 ?_
    refine m_getV (x := (f A 12)) zf_RX12_112 rfl dX12_readUnit_1 (shM_k hs) (rfl) ?_
    refine t_ifeq (t := 8) dX12_readUnit_4 (by decide) (fun h4 => ?_) (fun h4 => False.elim (by omega))
    refine r_aloadR0 dX12_readUnit_8 ?_
    refine k_ldc (hld _ (List.mem_of_getElem? (i := 2) rfl)) dX12_readUnit_9 ?_
    refine q_callV1 zm_RX12_127 dX12_readUnit_11 (shM_k hs) (by decide) rfl (Nat.le_of_ble_eq_true rfl) (Nat.le_of_ble_eq_true rfl) (Nat.le_of_ble_eq_true rfl) (Nat.le_of_ble_eq_true rfl) (Nat.le_of_ble_eq_true rfl) (s_X12_isWord (i := 8) G hs kw (by decide) htp hps (fun r11 e11_z => ?_))
    have e11b : r11.toInt = 0 := e11_z.elim (fun h_z => absurd h_z.2 hw) (fun h_z => h_z.1)
    refine t_ifeq (t := 44) dX12_readUnit_14 (by decide) (fun h14 => ?_) (fun h14 => False.elim (by omega))
    refine r_aloadR0 dX12_readUnit_44 ?_
    refine n_bipush dX12_readUnit_45 (by decide) (fun r45 e45 => ?_)
    refine q_callV1 zm_RX12_175 dX12_readUnit_47 (shM_k hs) (by decide) rfl (Nat.le_of_ble_eq_true rfl) (Nat.le_of_ble_eq_true rfl) (Nat.le_of_ble_eq_true rfl) (Nat.le_of_ble_eq_true rfl) (Nat.le_of_ble_eq_true rfl) (s_X12_isSign G hs (fun r47 e47 => ?_))
    refine t_ifeq (t := 80) dX12_readUnit_50 (by decide) (fun h50 => ?_) (fun h50 => False.elim (by omega))
    refine r_aloadR0 dX12_readUnit_80 ?_
    refine q_callV0 zm_RX12_181 dX12_readUnit_81 (shM_k hs) (by decide) rfl (Nat.le_of_ble_eq_true rfl) (Nat.le_of_ble_eq_true rfl) (Nat.le_of_ble_eq_true rfl) (Nat.le_of_ble_eq_true rfl) (Nat.le_of_ble_eq_true rfl) (s_X12_readSum_0 (lm := lm) (la := la) (u := u) G hs kw hld htp hps hd16 hlm hla hu h5 h29 h99 hup (fun g81 o81 d81 p81 k81 => ?_))
    have p81b : psM B n g81 A (smP B n (if lm = 5 then 8 else 6) 0 p).1 (smP B n (if lm = 5 then 8 else 6) 0 p).2.1 := p81
    have k81b : (smP B n (if lm = 5 then 8 else 6) 0 p).1 = 0 → okM f g81 A lm la u (smP B n (if lm = 5 then 8 else 6) 0 p).2.2 := k81
    have nb : (g81 A 12).toInt ≠ 0 := by rw [p81b.1]; omega
    refine r_aloadR0 dX12_readUnit_84 ?_
    refine m_getV (x := (g81 A 10)) zf_RX12_92 rfl dX12_readUnit_85 (shM_k hs) (rfl) ?_
    refine r_istore1 dX12_readUnit_88 rfl ?_
    refine r_iload1 dX12_readUnit_89 ?_
    refine n_bipush dX12_readUnit_90 (by decide) (fun r90 e90_z => ?_)
    refine t_iceq (t := 112) dX12_readUnit_92 (by decide) (fun h92 => ?_) (fun h92 => ?_)
    · refine r_aloadR0 dX12_readUnit_112 ?_
      refine m_getV (x := (g81 A 12)) zf_RX12_112 rfl dX12_readUnit_113 (shM_k hs) (rfl) ?_
      refine t_ifne (t := 123) dX12_readUnit_116 (by decide) (fun h116 => ?_) (fun h116 => False.elim (by omega))
      refine r_aloadR0 dX12_readUnit_123 ?_
      refine q_callV0 zm_RX12_181 dX12_readUnit_124 (shM_k hs) (by decide) rfl (Nat.le_of_ble_eq_true rfl) (Nat.le_of_ble_eq_true rfl) (Nat.le_of_ble_eq_true rfl) (Nat.le_of_ble_eq_true rfl) (Nat.le_of_ble_eq_true rfl) (s_X12_readSum_x G hs nb ?_)
      refine r_aloadR0 dX12_readUnit_127 ?_
      refine r_iload1 dX12_readUnit_128 ?_
      refine n_bipush dX12_readUnit_129 (by decide) (fun r129 e129 => ?_)
      refine t_icne (t := 139) dX12_readUnit_131 (by decide) (fun h131 => ?_) (fun h131 => ?_)
      · refine r_iload1 dX12_readUnit_139 ?_
        refine n_bipush dX12_readUnit_140 (by decide) (fun r140 e140 => ?_)
        refine t_icne (t := 150) dX12_readUnit_142 (by decide) (fun h142 => ?_) (fun h142 => ?_)
        · refine n_bipush dX12_readUnit_150 (by decide) (fun r150 e150 => ?_)
          refine q_callV1 zm_RX12_162 dX12_readUnit_152 (shM_k hs) (by decide) rfl (Nat.le_of_ble_eq_true rfl) (Nat.le_of_ble_eq_true rfl) (Nat.le_of_ble_eq_true rfl) (Nat.le_of_ble_eq_true rfl) (Nat.le_of_ble_eq_true rfl) (s_X12_laysStep_x G hs nb ?_)
          refine r_vret dX12_readUnit_155 rfl (Nat.le_of_ble_eq_true rfl) (Nat.le_of_ble_eq_true rfl) ?_
          exact hQ _ o81 d81 p81b (fun h_z => absurd h_z hr)
        · refine n_bipush dX12_readUnit_145 (by decide) (fun r145 e145 => ?_)
          refine r_goto (t := 152) dX12_readUnit_147 (by decide) ?_
          refine q_callV1 zm_RX12_162 dX12_readUnit_152 (shM_k hs) (by decide) rfl (Nat.le_of_ble_eq_true rfl) (Nat.le_of_ble_eq_true rfl) (Nat.le_of_ble_eq_true rfl) (Nat.le_of_ble_eq_true rfl) (Nat.le_of_ble_eq_true rfl) (s_X12_laysStep_x G hs nb ?_)
          refine r_vret dX12_readUnit_155 rfl (Nat.le_of_ble_eq_true rfl) (Nat.le_of_ble_eq_true rfl) ?_
          exact hQ _ o81 d81 p81b (fun h_z => absurd h_z hr)
      · refine n_bipush dX12_readUnit_134 (by decide) (fun r134 e134 => ?_)
        refine r_goto (t := 152) dX12_readUnit_136 (by decide) ?_
        refine q_callV1 zm_RX12_162 dX12_readUnit_152 (shM_k hs) (by decide) rfl (Nat.le_of_ble_eq_true rfl) (Nat.le_of_ble_eq_true rfl) (Nat.le_of_ble_eq_true rfl) (Nat.le_of_ble_eq_true rfl) (Nat.le_of_ble_eq_true rfl) (s_X12_laysStep_x G hs nb ?_)
        refine r_vret dX12_readUnit_155 rfl (Nat.le_of_ble_eq_true rfl) (Nat.le_of_ble_eq_true rfl) ?_
        exact hQ _ o81 d81 p81b (fun h_z => absurd h_z hr)
    · refine r_iload1 dX12_readUnit_95 ?_
      refine n_bipush dX12_readUnit_96 (by decide) (fun r96 e96 => ?_)
      refine t_iceq (t := 112) dX12_readUnit_98 (by decide) (fun h98 => ?_) (fun h98 => ?_)
      · refine r_aloadR0 dX12_readUnit_112 ?_
        refine m_getV (x := (g81 A 12)) zf_RX12_112 rfl dX12_readUnit_113 (shM_k hs) (rfl) ?_
        refine t_ifne (t := 123) dX12_readUnit_116 (by decide) (fun h116 => ?_) (fun h116 => False.elim (by omega))
        refine r_aloadR0 dX12_readUnit_123 ?_
        refine q_callV0 zm_RX12_181 dX12_readUnit_124 (shM_k hs) (by decide) rfl (Nat.le_of_ble_eq_true rfl) (Nat.le_of_ble_eq_true rfl) (Nat.le_of_ble_eq_true rfl) (Nat.le_of_ble_eq_true rfl) (Nat.le_of_ble_eq_true rfl) (s_X12_readSum_x G hs nb ?_)
        refine r_aloadR0 dX12_readUnit_127 ?_
        refine r_iload1 dX12_readUnit_128 ?_
        refine n_bipush dX12_readUnit_129 (by decide) (fun r129 e129 => ?_)
        refine t_icne (t := 139) dX12_readUnit_131 (by decide) (fun h131 => ?_) (fun h131 => ?_)
        · refine r_iload1 dX12_readUnit_139 ?_
          refine n_bipush dX12_readUnit_140 (by decide) (fun r140 e140 => ?_)
          refine t_icne (t := 150) dX12_readUnit_142 (by decide) (fun h142 => ?_) (fun h142 => ?_)
          · refine n_bipush dX12_readUnit_150 (by decide) (fun r150 e150 => ?_)
            refine q_callV1 zm_RX12_162 dX12_readUnit_152 (shM_k hs) (by decide) rfl (Nat.le_of_ble_eq_true rfl) (Nat.le_of_ble_eq_true rfl) (Nat.le_of_ble_eq_true rfl) (Nat.le_of_ble_eq_true rfl) (Nat.le_of_ble_eq_true rfl) (s_X12_laysStep_x G hs nb ?_)
            refine r_vret dX12_readUnit_155 rfl (Nat.le_of_ble_eq_true rfl) (Nat.le_of_ble_eq_true rfl) ?_
            exact hQ _ o81 d81 p81b (fun h_z => absurd h_z hr)
          · refine n_bipush dX12_readUnit_145 (by decide) (fun r145 e145 => ?_)
            refine r_goto (t := 152) dX12_readUnit_147 (by decide) ?_
            refine q_callV1 zm_RX12_162 dX12_readUnit_152 (shM_k hs) (by decide) rfl (Nat.le_of_ble_eq_true rfl) (Nat.le_of_ble_eq_true rfl) (Nat.le_of_ble_eq_true rfl) (Nat.le_of_ble_eq_true rfl) (Nat.le_of_ble_eq_true rfl) (s_X12_laysStep_x G hs nb ?_)
            refine r_vret dX12_readUnit_155 rfl (Nat.le_of_ble_eq_true rfl) (Nat.le_of_ble_eq_true rfl) ?_
            exact hQ _ o81 d81 p81b (fun h_z => absurd h_z hr)
        · refine n_bipush dX12_readUnit_134 (by decide) (fun r134 e134 => ?_)
          refine r_goto (t := 152) dX12_readUnit_136 (by decide) ?_
          refine q_callV1 zm_RX12_162 dX12_readUnit_152 (shM_k hs) (by decide) rfl (Nat.le_of_ble_eq_true rfl) (Nat.le_of_ble_eq_true rfl) (Nat.le_of_ble_eq_true rfl) (Nat.le_of_ble_eq_true rfl) (Nat.le_of_ble_eq_true rfl) (s_X12_laysStep_x G hs nb ?_)
          refine r_vret dX12_readUnit_155 rfl (Nat.le_of_ble_eq_true rfl) (Nat.le_of_ble_eq_true rfl) ?_
          exact hQ _ o81 d81 p81b (fun h_z => absurd h_z hr)
      · refine r_iload1 dX12_readUnit_101 ?_
        refine n_bipush dX12_readUnit_102 (by decide) (fun r102 e102_z => ?_)
        refine t_iceq (t := 112) dX12_readUnit_104 (by decide) (fun h104 => ?_) (fun h104 => ?_)
        · refine r_aloadR0 dX12_readUnit_112 ?_
          refine m_getV (x := (g81 A 12)) zf_RX12_112 rfl dX12_readUnit_113 (shM_k hs) (rfl) ?_
          refine t_ifne (t := 123) dX12_readUnit_116 (by decide) (fun h116 => ?_) (fun h116 => False.elim (by omega))
          refine r_aloadR0 dX12_readUnit_123 ?_
          refine q_callV0 zm_RX12_181 dX12_readUnit_124 (shM_k hs) (by decide) rfl (Nat.le_of_ble_eq_true rfl) (Nat.le_of_ble_eq_true rfl) (Nat.le_of_ble_eq_true rfl) (Nat.le_of_ble_eq_true rfl) (Nat.le_of_ble_eq_true rfl) (s_X12_readSum_x G hs nb ?_)
          refine r_aloadR0 dX12_readUnit_127 ?_
          refine r_iload1 dX12_readUnit_128 ?_
          refine n_bipush dX12_readUnit_129 (by decide) (fun r129 e129 => ?_)
          refine t_icne (t := 139) dX12_readUnit_131 (by decide) (fun h131 => ?_) (fun h131 => ?_)
          · refine r_iload1 dX12_readUnit_139 ?_
            refine n_bipush dX12_readUnit_140 (by decide) (fun r140 e140 => ?_)
            refine t_icne (t := 150) dX12_readUnit_142 (by decide) (fun h142 => ?_) (fun h142 => ?_)
            · refine n_bipush dX12_readUnit_150 (by decide) (fun r150 e150 => ?_)
              refine q_callV1 zm_RX12_162 dX12_readUnit_152 (shM_k hs) (by decide) rfl (Nat.le_of_ble_eq_true rfl) (Nat.le_of_ble_eq_true rfl) (Nat.le_of_ble_eq_true rfl) (Nat.le_of_ble_eq_true rfl) (Nat.le_of_ble_eq_true rfl) (s_X12_laysStep_x G hs nb ?_)
              refine r_vret dX12_readUnit_155 rfl (Nat.le_of_ble_eq_true rfl) (Nat.le_of_ble_eq_true rfl) ?_
              exact hQ _ o81 d81 p81b (fun h_z => absurd h_z hr)
            · refine n_bipush dX12_readUnit_145 (by decide) (fun r145 e145 => ?_)
              refine r_goto (t := 152) dX12_readUnit_147 (by decide) ?_
              refine q_callV1 zm_RX12_162 dX12_readUnit_152 (shM_k hs) (by decide) rfl (Nat.le_of_ble_eq_true rfl) (Nat.le_of_ble_eq_true rfl) (Nat.le_of_ble_eq_true rfl) (Nat.le_of_ble_eq_true rfl) (Nat.le_of_ble_eq_true rfl) (s_X12_laysStep_x G hs nb ?_)
              refine r_vret dX12_readUnit_155 rfl (Nat.le_of_ble_eq_true rfl) (Nat.le_of_ble_eq_true rfl) ?_
              exact hQ _ o81 d81 p81b (fun h_z => absurd h_z hr)
          · refine n_bipush dX12_readUnit_134 (by decide) (fun r134 e134 => ?_)
            refine r_goto (t := 152) dX12_readUnit_136 (by decide) ?_
            refine q_callV1 zm_RX12_162 dX12_readUnit_152 (shM_k hs) (by decide) rfl (Nat.le_of_ble_eq_true rfl) (Nat.le_of_ble_eq_true rfl) (Nat.le_of_ble_eq_true rfl) (Nat.le_of_ble_eq_true rfl) (Nat.le_of_ble_eq_true rfl) (s_X12_laysStep_x G hs nb ?_)
            refine r_vret dX12_readUnit_155 rfl (Nat.le_of_ble_eq_true rfl) (Nat.le_of_ble_eq_true rfl) ?_
            exact hQ _ o81 d81 p81b (fun h_z => absurd h_z hr)
        · refine r_aloadR0 dX12_readUnit_107 ?_
          refine n_iconst dX12_readUnit_108 (by decide) (fun r108 e108 => ?_)
          refine q_callV1 zm_RX12_134 dX12_readUnit_109 (shM_k hs) (by decide) rfl (Nat.le_of_ble_eq_true rfl) (Nat.le_of_ble_eq_true rfl) (Nat.le_of_ble_eq_true rfl) (Nat.le_of_ble_eq_true rfl) (Nat.le_of_ble_eq_true rfl) (s_X12_blames_x G hs nb ?_)
          refine r_aloadR0 dX12_readUnit_112 ?_
          refine m_getV (x := (g81 A 12)) zf_RX12_112 rfl dX12_readUnit_113 (shM_k hs) (rfl) ?_
          refine t_ifne (t := 123) dX12_readUnit_116 (by decide) (fun h116 => ?_) (fun h116 => False.elim (by omega))
          refine r_aloadR0 dX12_readUnit_123 ?_
          refine q_callV0 zm_RX12_181 dX12_readUnit_124 (shM_k hs) (by decide) rfl (Nat.le_of_ble_eq_true rfl) (Nat.le_of_ble_eq_true rfl) (Nat.le_of_ble_eq_true rfl) (Nat.le_of_ble_eq_true rfl) (Nat.le_of_ble_eq_true rfl) (s_X12_readSum_x G hs nb ?_)
          refine r_aloadR0 dX12_readUnit_127 ?_
          refine r_iload1 dX12_readUnit_128 ?_
          refine n_bipush dX12_readUnit_129 (by decide) (fun r129 e129 => ?_)
          refine t_icne (t := 139) dX12_readUnit_131 (by decide) (fun h131 => ?_) (fun h131 => ?_)
          · refine r_iload1 dX12_readUnit_139 ?_
            refine n_bipush dX12_readUnit_140 (by decide) (fun r140 e140 => ?_)
            refine t_icne (t := 150) dX12_readUnit_142 (by decide) (fun h142 => ?_) (fun h142 => ?_)
            · refine n_bipush dX12_readUnit_150 (by decide) (fun r150 e150 => ?_)
              refine q_callV1 zm_RX12_162 dX12_readUnit_152 (shM_k hs) (by decide) rfl (Nat.le_of_ble_eq_true rfl) (Nat.le_of_ble_eq_true rfl) (Nat.le_of_ble_eq_true rfl) (Nat.le_of_ble_eq_true rfl) (Nat.le_of_ble_eq_true rfl) (s_X12_laysStep_x G hs nb ?_)
              refine r_vret dX12_readUnit_155 rfl (Nat.le_of_ble_eq_true rfl) (Nat.le_of_ble_eq_true rfl) ?_
              exact hQ _ o81 d81 p81b (fun h_z => absurd h_z hr)
            · refine n_bipush dX12_readUnit_145 (by decide) (fun r145 e145 => ?_)
              refine r_goto (t := 152) dX12_readUnit_147 (by decide) ?_
              refine q_callV1 zm_RX12_162 dX12_readUnit_152 (shM_k hs) (by decide) rfl (Nat.le_of_ble_eq_true rfl) (Nat.le_of_ble_eq_true rfl) (Nat.le_of_ble_eq_true rfl) (Nat.le_of_ble_eq_true rfl) (Nat.le_of_ble_eq_true rfl) (s_X12_laysStep_x G hs nb ?_)
              refine r_vret dX12_readUnit_155 rfl (Nat.le_of_ble_eq_true rfl) (Nat.le_of_ble_eq_true rfl) ?_
              exact hQ _ o81 d81 p81b (fun h_z => absurd h_z hr)
          · refine n_bipush dX12_readUnit_134 (by decide) (fun r134 e134 => ?_)
            refine r_goto (t := 152) dX12_readUnit_136 (by decide) ?_
            refine q_callV1 zm_RX12_162 dX12_readUnit_152 (shM_k hs) (by decide) rfl (Nat.le_of_ble_eq_true rfl) (Nat.le_of_ble_eq_true rfl) (Nat.le_of_ble_eq_true rfl) (Nat.le_of_ble_eq_true rfl) (Nat.le_of_ble_eq_true rfl) (s_X12_laysStep_x G hs nb ?_)
            refine r_vret dX12_readUnit_155 rfl (Nat.le_of_ble_eq_true rfl) (Nat.le_of_ble_eq_true rfl) ?_
            exact hQ _ o81 d81 p81b (fun h_z => absurd h_z hr)
set_option maxHeartbeats 4000000 in
set_option maxRecDepth 100000 in
theorem s_X12_readBoth_0 {g : zGT} {w : zW} {f : Nat → Nat → Int32} {j : Nat → Nat → Int64} {A : Nat} {B : Nat → Nat} {n : Nat} {wa wv : Nat → Nat} {kq : Nat} {p lm la u : Nat} {Q : Option Value → zW → Prop} {QX : String → zW → Prop} (G : zGok g) (hs : shM w A) (kw : kWd g wa wv kq) (hld : kLd g wa) (htp : tpM B n f A) (hps : psM B n f A 0 p) (hd16 : (f A 16).toInt = 6) (hlm : (f A 17).toInt = (lm : Nat)) (hla : (f A 18).toInt = (la : Nat)) (hu : (f (A + 2) lm).toInt = (u : Nat)) (h5 : lm ≤ 5) (h29 : 209 ≤ la) (h99 : la ≤ 2009) (hup : u ≤ p) (hQ : ∀ f2_z, frM A [2] [8, 9, 10, 11, 12, 13, 16] f f2_z → (f2_z A 16).toInt = 6 → psM B n f2_z A (chP B n (unP B n (if lm = 5 then 8 else 6) 0) (opA B n) p).1 (chP B n (unP B n (if lm = 5 then 8 else 6) 0) (opA B n) p).2.1 → ((chP B n (unP B n (if lm = 5 then 8 else 6) 0) (opA B n) p).1 = 0 → okM f f2_z A lm la u (chP B n (unP B n (if lm = 5 then 8 else 6) 0) (opA B n) p).2.2) → Q none (zM w f2_z j)) : zC g 41 yX12_readBoth cX12_readBoth 1 none [.ref A] (zM w f j) (0, 0) Q QX := by
  refine zC_of G (by decide +kernel) (Nat.le_of_ble_eq_true rfl) ?_
  have ht := hps.2.1 rfl
  have h12 := hps.1
  have h900 := htp.2.1
  have hgd : ∀ s, s ≤ n → gdP n true (if lm = 5 then 8 else 6) (4 + 2 * 0) s ((unP B n (if lm = 5 then 8 else 6) 0) s) := gd_un (by split <;> decide) 0
  have lp : ∀ (mz : Nat) (f2_z : Nat → Nat → Int32) (k : Nat) (r : zPR), frM A [2] [8, 9, 10, 11, 12, 13, 16] f f2_z → (f2_z A 16).toInt = 6 → psM B n f2_z A r.1 r.2.1 → (r.1 = 0 → okM f f2_z A lm la u r.2.2) → (r.1 = 0 → p ≤ r.2.1 ∧ r.2.1 ≤ n ∧ r.2.2.length + p ≤ r.2.1) → (r.1 = 0 → n ≤ k + r.2.1) → lpP B n (unP B n (if lm = 5 then 8 else 6) 0) (opA B n) k r = chP B n (unP B n (if lm = 5 then 8 else 6) 0) (opA B n) p → k < mz → zR (zV g 41 yX12_readBoth 1 none (0, 0) Q QX) cX12_readBoth yX12_readBoth.cls 4 [some (.ref A)] [] (zM w f2_z j) (0, 0) := by
    intro mz
    induction mz with
    | zero =>
      intro f2_z k r ofr hd2 hp2 hk2 hg2 hnk hR hmz
      exact absurd hmz (Nat.not_lt_zero _)
    | succ mz ih =>
      intro f2_z k r ofr hd2 hp2 hk2 hg2 hnk hR hmz
      by_cases hr : r.1 = 0
      · have hk3 := hk2 hr
        obtain ⟨q1_z, q2_z, q3_z⟩ := hg2 hr
        have hnk3 := hnk hr
        have hps2 := hp2
        rw [hr] at hps2
        have hb2 := hps2.1
        have htp2 := tpM_of htp (ofr.2.1 5 (by decide) (by decide) (by decide)) (ofr.2.2 7 (by decide))
        by_cases hc_z : isWd B n r.2.1 7 = true
        · have hop : (opA B n) r.2.1 = 2001 := if_pos hc_z
          have hop0 : (opA B n) r.2.1 ≠ 0 := by rw [hop]; decide
          have hln := tk_lt (B := B) (n := n) (s := r.2.1) (by rw [(isWd_tk hc_z).1]; decide)
          obtain ⟨k2_z, rfl⟩ : ∃ k2_z, k = k2_z + 1 := ⟨k - 1, by omega⟩
          have hnx := nxP_gt (B := B) hln
          have gq := hgd _ hnx.2
          by_cases hq : ((unP B n (if lm = 5 then 8 else 6) 0) (nxP B n r.2.1)).1 = 0
          · obtain ⟨y1, y2, y3, y4⟩ := gq.1 hq
            refine r_aloadR0 dX12_readBoth_4 ?_
            refine k_ldc (hld _ (List.mem_of_getElem? (i := 1) rfl)) dX12_readBoth_5 ?_
            refine q_callV1 zm_RX12_142 dX12_readBoth_7 (shM_k hs) (by decide) rfl (Nat.le_of_ble_eq_true rfl) (Nat.le_of_ble_eq_true rfl) (Nat.le_of_ble_eq_true rfl) (Nat.le_of_ble_eq_true rfl) (Nat.le_of_ble_eq_true rfl) (s_X12_took_t (i := 7) G hs kw (by decide) htp2 hps2 hc_z (fun r7 g7 e7_z o7 p7 => ?_))
            have htp7 := tpM_of htp2 (o7.2.1 5 (by decide) (by decide) (by decide)) (o7.2.2 7 (by decide))
            have w7 : g7 (A + 2) = f2_z (A + 2) := o7.2.1 2 (by decide) (by decide) (by decide)
            refine t_ifeq (t := 26) dX12_readBoth_10 (by decide) (fun h10 => False.elim (by omega)) (fun h10 => ?_)
            refine r_aloadR0 dX12_readBoth_13 ?_
            refine q_callV0 zm_RX12_165 dX12_readBoth_14 (shM_k hs) (by decide) rfl (Nat.le_of_ble_eq_true rfl) (Nat.le_of_ble_eq_true rfl) (Nat.le_of_ble_eq_true rfl) (Nat.le_of_ble_eq_true rfl) (Nat.le_of_ble_eq_true rfl) (s_X12_readUnit_0 (lm := lm) (la := la) (u := u + r.2.2.length) G hs kw hld htp7 p7 (by rw [o7.2.2 16 (by decide)]; exact hd2) (by rw [o7.2.2 17 (by decide), ofr.2.2 17 (by decide)]; exact hlm) (by rw [o7.2.2 18 (by decide), ofr.2.2 18 (by decide)]; exact hla) (by rw [w7]; exact hk3.1) h5 h29 h99 (by omega) (fun g14 o14 d14 p14 k14 => ?_))
            have of14 : frM A [2] [8, 9, 10, 11, 12, 13, 16] f g14 := frM_tr ofr (frM_tr (frM_su o7 (by decide) (by decide)) o14)
            have p14b : psM B n g14 A ((unP B n (if lm = 5 then 8 else 6) 0) (nxP B n r.2.1)).1 ((unP B n (if lm = 5 then 8 else 6) 0) (nxP B n r.2.1)).2.1 := p14
            have k14b : ((unP B n (if lm = 5 then 8 else 6) 0) (nxP B n r.2.1)).1 = 0 → okM g7 g14 A lm la (u + r.2.2.length) ((unP B n (if lm = 5 then 8 else 6) 0) (nxP B n r.2.1)).2.2 := k14
            refine r_aloadR0 dX12_readBoth_17 ?_
            refine n_bipush dX12_readBoth_18 (by decide) (fun r18 e18_z => ?_)
            refine q_callV1 zm_RX12_162 dX12_readBoth_20 (shM_k hs) (by decide) rfl (Nat.le_of_ble_eq_true rfl) (Nat.le_of_ble_eq_true rfl) (Nat.le_of_ble_eq_true rfl) (Nat.le_of_ble_eq_true rfl) (Nat.le_of_ble_eq_true rfl) (s_X12_laysStep (lm := lm) (la := la) (u := u + r.2.2.length + ((unP B n (if lm = 5 then 8 else 6) 0) (nxP B n r.2.1)).2.2.length) G hs (by have := p14b.1; rw [hq] at this; exact this) (by rw [of14.2.2 17 (by decide)]; exact hlm) (by rw [of14.2.2 18 (by decide)]; exact hla) (k14b hq).1 h5 h29 (by omega) (fun g20 o20 a20 b20 c20 => ?_))
            refine r_goto (t := 4) dX12_readBoth_23 (by decide) ?_
            have hp14 := p14b
            rw [hq] at hp14
            refine ih _ k2_z (0, ((unP B n (if lm = 5 then 8 else 6) 0) (nxP B n r.2.1)).2.1, r.2.2 ++ ((unP B n (if lm = 5 then 8 else 6) 0) (nxP B n r.2.1)).2.2 ++ [(opA B n) r.2.1]) (frM_tr of14 (frM_su o20 (by decide) (by decide))) (by rw [o20.2.2 16 (by decide)]; exact d14) (psM_of hp14 (o20.2.2 8 (by decide)) (o20.2.2 9 (by decide)) (o20.2.2 10 (by decide)) (o20.2.2 11 (by decide)) (o20.2.2 12 (by decide)) (o20.2.2 13 (by decide))) (fun _ => okM_ap (by omega) (by rw [List.length_append]; omega) (okM_ap (by omega) (by omega) hk3 (okM_cg (k14b hq) w7 rfl)) ?_) (fun _ => ?_) (fun _ => ?_) ?_ (by omega)
            · rw [List.length_append, ← Nat.add_assoc, hop]
              exact okM_one (by omega) a20 b20 c20 (by rw [e18_z]; rfl)
            · show p ≤ ((unP B n (if lm = 5 then 8 else 6) 0) (nxP B n r.2.1)).2.1 ∧ ((unP B n (if lm = 5 then 8 else 6) 0) (nxP B n r.2.1)).2.1 ≤ n ∧ (r.2.2 ++ ((unP B n (if lm = 5 then 8 else 6) 0) (nxP B n r.2.1)).2.2 ++ [(opA B n) r.2.1]).length + p ≤ ((unP B n (if lm = 5 then 8 else 6) 0) (nxP B n r.2.1)).2.1
              rw [List.length_append, List.length_append, List.length_singleton]
              omega
            · show n ≤ k2_z + ((unP B n (if lm = 5 then 8 else 6) 0) (nxP B n r.2.1)).2.1
              omega
            · exact (lpP_on hr hop0 hq).symm.trans hR
          · have nb : ∀ g : Nat → Nat → Int32, psM B n g A ((unP B n (if lm = 5 then 8 else 6) 0) (nxP B n r.2.1)).1 ((unP B n (if lm = 5 then 8 else 6) 0) (nxP B n r.2.1)).2.1 → (g A 12).toInt ≠ 0 := fun g h_z => by rw [h_z.1]; omega
            refine r_aloadR0 dX12_readBoth_4 ?_
            refine k_ldc (hld _ (List.mem_of_getElem? (i := 1) rfl)) dX12_readBoth_5 ?_
            refine q_callV1 zm_RX12_142 dX12_readBoth_7 (shM_k hs) (by decide) rfl (Nat.le_of_ble_eq_true rfl) (Nat.le_of_ble_eq_true rfl) (Nat.le_of_ble_eq_true rfl) (Nat.le_of_ble_eq_true rfl) (Nat.le_of_ble_eq_true rfl) (s_X12_took_t (i := 7) G hs kw (by decide) htp2 hps2 hc_z (fun r7 g7 e7_z o7 p7 => ?_))
            have htp7 := tpM_of htp2 (o7.2.1 5 (by decide) (by decide) (by decide)) (o7.2.2 7 (by decide))
            have w7 : g7 (A + 2) = f2_z (A + 2) := o7.2.1 2 (by decide) (by decide) (by decide)
            refine t_ifeq (t := 26) dX12_readBoth_10 (by decide) (fun h10 => False.elim (by omega)) (fun h10 => ?_)
            refine r_aloadR0 dX12_readBoth_13 ?_
            refine q_callV0 zm_RX12_165 dX12_readBoth_14 (shM_k hs) (by decide) rfl (Nat.le_of_ble_eq_true rfl) (Nat.le_of_ble_eq_true rfl) (Nat.le_of_ble_eq_true rfl) (Nat.le_of_ble_eq_true rfl) (Nat.le_of_ble_eq_true rfl) (s_X12_readUnit_0 (lm := lm) (la := la) (u := u + r.2.2.length) G hs kw hld htp7 p7 (by rw [o7.2.2 16 (by decide)]; exact hd2) (by rw [o7.2.2 17 (by decide), ofr.2.2 17 (by decide)]; exact hlm) (by rw [o7.2.2 18 (by decide), ofr.2.2 18 (by decide)]; exact hla) (by rw [w7]; exact hk3.1) h5 h29 h99 (by omega) (fun g14 o14 d14 p14 k14 => ?_))
            have of14 : frM A [2] [8, 9, 10, 11, 12, 13, 16] f g14 := frM_tr ofr (frM_tr (frM_su o7 (by decide) (by decide)) o14)
            have p14b : psM B n g14 A ((unP B n (if lm = 5 then 8 else 6) 0) (nxP B n r.2.1)).1 ((unP B n (if lm = 5 then 8 else 6) 0) (nxP B n r.2.1)).2.1 := p14
            have k14b : ((unP B n (if lm = 5 then 8 else 6) 0) (nxP B n r.2.1)).1 = 0 → okM g7 g14 A lm la (u + r.2.2.length) ((unP B n (if lm = 5 then 8 else 6) 0) (nxP B n r.2.1)).2.2 := k14
            refine r_aloadR0 dX12_readBoth_17 ?_
            refine n_bipush dX12_readBoth_18 (by decide) (fun r18 e18_z => ?_)
            refine q_callV1 zm_RX12_162 dX12_readBoth_20 (shM_k hs) (by decide) rfl (Nat.le_of_ble_eq_true rfl) (Nat.le_of_ble_eq_true rfl) (Nat.le_of_ble_eq_true rfl) (Nat.le_of_ble_eq_true rfl) (Nat.le_of_ble_eq_true rfl) (s_X12_laysStep_x G hs (nb _ p14b) ?_)
            refine r_goto (t := 4) dX12_readBoth_23 (by decide) ?_
            exact ih _ k2_z ((unP B n (if lm = 5 then 8 else 6) 0) (nxP B n r.2.1)) of14 d14 p14b (fun h_z => absurd h_z hq) (fun h_z => absurd h_z hq) (fun h_z => absurd h_z hq) ((lpP_bad hq).trans ((lpP_sub hr hop0 hq).symm.trans hR)) (by omega)
        · have hop : (opA B n) r.2.1 = 0 := if_neg hc_z
          have hv := (lpP_end (B := B) (n := n) (k := k) (sub := (unP B n (if lm = 5 then 8 else 6) 0)) hop).symm.trans hR
          refine r_aloadR0 dX12_readBoth_4 ?_
          refine k_ldc (hld _ (List.mem_of_getElem? (i := 1) rfl)) dX12_readBoth_5 ?_
          refine q_callV1 zm_RX12_142 dX12_readBoth_7 (shM_k hs) (by decide) rfl (Nat.le_of_ble_eq_true rfl) (Nat.le_of_ble_eq_true rfl) (Nat.le_of_ble_eq_true rfl) (Nat.le_of_ble_eq_true rfl) (Nat.le_of_ble_eq_true rfl) (s_X12_took_f (i := 7) G hs kw (by decide) htp2 hps2 hc_z (fun r7 e7_z => ?_))
          refine t_ifeq (t := 26) dX12_readBoth_10 (by decide) (fun h10 => ?_) (fun h10 => False.elim (by omega))
          refine r_vret dX12_readBoth_26 rfl (Nat.le_of_ble_eq_true rfl) (Nat.le_of_ble_eq_true rfl) ?_
          rw [← hv] at hQ
          exact hQ _ ofr hd2 hp2 hk2
      · have hb2 : (f2_z A 12).toInt ≠ 0 := by rw [hp2.1]; omega
        have hv := (lpP_bad (B := B) (n := n) (k := k) (sub := (unP B n (if lm = 5 then 8 else 6) 0)) (op := (opA B n)) hr).symm.trans hR
        refine r_aloadR0 dX12_readBoth_4 ?_
        refine k_ldc (hld _ (List.mem_of_getElem? (i := 1) rfl)) dX12_readBoth_5 ?_
        refine q_callV1 zm_RX12_142 dX12_readBoth_7 (shM_k hs) (by decide) rfl (Nat.le_of_ble_eq_true rfl) (Nat.le_of_ble_eq_true rfl) (Nat.le_of_ble_eq_true rfl) (Nat.le_of_ble_eq_true rfl) (Nat.le_of_ble_eq_true rfl) (s_X12_took_x (i := 7) (B := fun _ => 0) (n := 0) G hs kw (by decide) hb2 (fun r7 e7_z => ?_))
        refine t_ifeq (t := 26) dX12_readBoth_10 (by decide) (fun h10 => ?_) (fun h10 => False.elim (by omega))
        refine r_vret dX12_readBoth_26 rfl (Nat.le_of_ble_eq_true rfl) (Nat.le_of_ble_eq_true rfl) ?_
        rw [← hv] at hQ
        exact hQ _ ofr hd2 hp2 hk2
  refine r_aloadR0 dX12_readBoth_0 ?_
  refine q_callV0 zm_RX12_165 dX12_readBoth_1 (shM_k hs) (by decide) rfl (Nat.le_of_ble_eq_true rfl) (Nat.le_of_ble_eq_true rfl) (Nat.le_of_ble_eq_true rfl) (Nat.le_of_ble_eq_true rfl) (Nat.le_of_ble_eq_true rfl) (s_X12_readUnit_0 G hs kw hld htp hps hd16 hlm hla hu h5 h29 h99 hup (fun g1 o1 d1 p1 k1_z => ?_))
  have gp := hgd p ht.1
  exact lp _ g1 n ((unP B n (if lm = 5 then 8 else 6) 0) p) o1 d1 p1 k1_z (fun h_z => ⟨Nat.le_of_lt (gp.1 h_z).1, (gp.1 h_z).2.1, (gp.1 h_z).2.2.1⟩) (fun _ => Nat.le_add_right n _) rfl (Nat.lt_succ_self n)
set_option maxHeartbeats 4000000 in
set_option maxRecDepth 100000 in
theorem s_X12_readTruth_0 {g : zGT} {w : zW} {f : Nat → Nat → Int32} {j : Nat → Nat → Int64} {A : Nat} {B : Nat → Nat} {n : Nat} {wa wv : Nat → Nat} {kq : Nat} {p lm la u : Nat} {Q : Option Value → zW → Prop} {QX : String → zW → Prop} (G : zGok g) (hs : shM w A) (kw : kWd g wa wv kq) (hld : kLd g wa) (htp : tpM B n f A) (hps : psM B n f A 0 p) (hd16 : (f A 16).toInt = 6) (hlm : (f A 17).toInt = (lm : Nat)) (hla : (f A 18).toInt = (la : Nat)) (hu : (f (A + 2) lm).toInt = (u : Nat)) (h5 : lm ≤ 5) (h29 : 209 ≤ la) (h99 : la ≤ 2009) (hup : u ≤ p) (hQ : ∀ f2_z, frM A [2] [8, 9, 10, 11, 12, 13, 16] f f2_z → (f2_z A 16).toInt = 6 → psM B n f2_z A (chP B n (chP B n (unP B n (if lm = 5 then 8 else 6) 0) (opA B n)) (opO B n) p).1 (chP B n (chP B n (unP B n (if lm = 5 then 8 else 6) 0) (opA B n)) (opO B n) p).2.1 → ((chP B n (chP B n (unP B n (if lm = 5 then 8 else 6) 0) (opA B n)) (opO B n) p).1 = 0 → okM f f2_z A lm la u (chP B n (chP B n (unP B n (if lm = 5 then 8 else 6) 0) (opA B n)) (opO B n) p).2.2) → Q none (zM w f2_z j)) : zC g 42 yX12_readTruth cX12_readTruth 1 none [.ref A] (zM w f j) (0, 0) Q QX := by
  refine zC_of G (by decide +kernel) (Nat.le_of_ble_eq_true rfl) ?_
  have ht := hps.2.1 rfl
  have h12 := hps.1
  have h900 := htp.2.1
  have hgd : ∀ s, s ≤ n → gdP n true (if lm = 5 then 8 else 6) (4 + 2 * 0 + 1) s ((chP B n (unP B n (if lm = 5 then 8 else 6) 0) (opA B n)) s) := fun s hs9 => gd_ch (gd_un (by split <;> decide) 0) hop_A hs9
  have lp : ∀ (mz : Nat) (f2_z : Nat → Nat → Int32) (k : Nat) (r : zPR), frM A [2] [8, 9, 10, 11, 12, 13, 16] f f2_z → (f2_z A 16).toInt = 6 → psM B n f2_z A r.1 r.2.1 → (r.1 = 0 → okM f f2_z A lm la u r.2.2) → (r.1 = 0 → p ≤ r.2.1 ∧ r.2.1 ≤ n ∧ r.2.2.length + p ≤ r.2.1) → (r.1 = 0 → n ≤ k + r.2.1) → lpP B n (chP B n (unP B n (if lm = 5 then 8 else 6) 0) (opA B n)) (opO B n) k r = chP B n (chP B n (unP B n (if lm = 5 then 8 else 6) 0) (opA B n)) (opO B n) p → k < mz → zR (zV g 42 yX12_readTruth 1 none (0, 0) Q QX) cX12_readTruth yX12_readTruth.cls 4 [some (.ref A)] [] (zM w f2_z j) (0, 0) := by
    intro mz
    induction mz with
    | zero =>
      intro f2_z k r ofr hd2 hp2 hk2 hg2 hnk hR hmz
      exact absurd hmz (Nat.not_lt_zero _)
    | succ mz ih =>
      intro f2_z k r ofr hd2 hp2 hk2 hg2 hnk hR hmz
      by_cases hr : r.1 = 0
      · have hk3 := hk2 hr
        obtain ⟨q1_z, q2_z, q3_z⟩ := hg2 hr
        have hnk3 := hnk hr
        have hps2 := hp2
        rw [hr] at hps2
        have hb2 := hps2.1
        have htp2 := tpM_of htp (ofr.2.1 5 (by decide) (by decide) (by decide)) (ofr.2.2 7 (by decide))
        by_cases hc_z : isWd B n r.2.1 6 = true
        · have hop : (opO B n) r.2.1 = 2002 := if_pos hc_z
          have hop0 : (opO B n) r.2.1 ≠ 0 := by rw [hop]; decide
          have hln := tk_lt (B := B) (n := n) (s := r.2.1) (by rw [(isWd_tk hc_z).1]; decide)
          obtain ⟨k2_z, rfl⟩ : ∃ k2_z, k = k2_z + 1 := ⟨k - 1, by omega⟩
          have hnx := nxP_gt (B := B) hln
          have gq := hgd _ hnx.2
          by_cases hq : ((chP B n (unP B n (if lm = 5 then 8 else 6) 0) (opA B n)) (nxP B n r.2.1)).1 = 0
          · obtain ⟨y1, y2, y3, y4⟩ := gq.1 hq
            refine r_aloadR0 dX12_readTruth_4 ?_
            refine k_ldc (hld _ (List.mem_of_getElem? (i := 0) rfl)) dX12_readTruth_5 ?_
            refine q_callV1 zm_RX12_142 dX12_readTruth_7 (shM_k hs) (by decide) rfl (Nat.le_of_ble_eq_true rfl) (Nat.le_of_ble_eq_true rfl) (Nat.le_of_ble_eq_true rfl) (Nat.le_of_ble_eq_true rfl) (Nat.le_of_ble_eq_true rfl) (s_X12_took_t (i := 6) G hs kw (by decide) htp2 hps2 hc_z (fun r7 g7 e7_z o7 p7 => ?_))
            have htp7 := tpM_of htp2 (o7.2.1 5 (by decide) (by decide) (by decide)) (o7.2.2 7 (by decide))
            have w7 : g7 (A + 2) = f2_z (A + 2) := o7.2.1 2 (by decide) (by decide) (by decide)
            refine t_ifeq (t := 26) dX12_readTruth_10 (by decide) (fun h10 => False.elim (by omega)) (fun h10 => ?_)
            refine r_aloadR0 dX12_readTruth_13 ?_
            refine q_callV0 zm_RX12_157 dX12_readTruth_14 (shM_k hs) (by decide) rfl (Nat.le_of_ble_eq_true rfl) (Nat.le_of_ble_eq_true rfl) (Nat.le_of_ble_eq_true rfl) (Nat.le_of_ble_eq_true rfl) (Nat.le_of_ble_eq_true rfl) (s_X12_readBoth_0 (lm := lm) (la := la) (u := u + r.2.2.length) G hs kw hld htp7 p7 (by rw [o7.2.2 16 (by decide)]; exact hd2) (by rw [o7.2.2 17 (by decide), ofr.2.2 17 (by decide)]; exact hlm) (by rw [o7.2.2 18 (by decide), ofr.2.2 18 (by decide)]; exact hla) (by rw [w7]; exact hk3.1) h5 h29 h99 (by omega) (fun g14 o14 d14 p14 k14 => ?_))
            have of14 : frM A [2] [8, 9, 10, 11, 12, 13, 16] f g14 := frM_tr ofr (frM_tr (frM_su o7 (by decide) (by decide)) o14)
            have p14b : psM B n g14 A ((chP B n (unP B n (if lm = 5 then 8 else 6) 0) (opA B n)) (nxP B n r.2.1)).1 ((chP B n (unP B n (if lm = 5 then 8 else 6) 0) (opA B n)) (nxP B n r.2.1)).2.1 := p14
            have k14b : ((chP B n (unP B n (if lm = 5 then 8 else 6) 0) (opA B n)) (nxP B n r.2.1)).1 = 0 → okM g7 g14 A lm la (u + r.2.2.length) ((chP B n (unP B n (if lm = 5 then 8 else 6) 0) (opA B n)) (nxP B n r.2.1)).2.2 := k14
            refine r_aloadR0 dX12_readTruth_17 ?_
            refine n_bipush dX12_readTruth_18 (by decide) (fun r18 e18_z => ?_)
            refine q_callV1 zm_RX12_162 dX12_readTruth_20 (shM_k hs) (by decide) rfl (Nat.le_of_ble_eq_true rfl) (Nat.le_of_ble_eq_true rfl) (Nat.le_of_ble_eq_true rfl) (Nat.le_of_ble_eq_true rfl) (Nat.le_of_ble_eq_true rfl) (s_X12_laysStep (lm := lm) (la := la) (u := u + r.2.2.length + ((chP B n (unP B n (if lm = 5 then 8 else 6) 0) (opA B n)) (nxP B n r.2.1)).2.2.length) G hs (by have := p14b.1; rw [hq] at this; exact this) (by rw [of14.2.2 17 (by decide)]; exact hlm) (by rw [of14.2.2 18 (by decide)]; exact hla) (k14b hq).1 h5 h29 (by omega) (fun g20 o20 a20 b20 c20 => ?_))
            refine r_goto (t := 4) dX12_readTruth_23 (by decide) ?_
            have hp14 := p14b
            rw [hq] at hp14
            refine ih _ k2_z (0, ((chP B n (unP B n (if lm = 5 then 8 else 6) 0) (opA B n)) (nxP B n r.2.1)).2.1, r.2.2 ++ ((chP B n (unP B n (if lm = 5 then 8 else 6) 0) (opA B n)) (nxP B n r.2.1)).2.2 ++ [(opO B n) r.2.1]) (frM_tr of14 (frM_su o20 (by decide) (by decide))) (by rw [o20.2.2 16 (by decide)]; exact d14) (psM_of hp14 (o20.2.2 8 (by decide)) (o20.2.2 9 (by decide)) (o20.2.2 10 (by decide)) (o20.2.2 11 (by decide)) (o20.2.2 12 (by decide)) (o20.2.2 13 (by decide))) (fun _ => okM_ap (by omega) (by rw [List.length_append]; omega) (okM_ap (by omega) (by omega) hk3 (okM_cg (k14b hq) w7 rfl)) ?_) (fun _ => ?_) (fun _ => ?_) ?_ (by omega)
            · rw [List.length_append, ← Nat.add_assoc, hop]
              exact okM_one (by omega) a20 b20 c20 (by rw [e18_z]; rfl)
            · show p ≤ ((chP B n (unP B n (if lm = 5 then 8 else 6) 0) (opA B n)) (nxP B n r.2.1)).2.1 ∧ ((chP B n (unP B n (if lm = 5 then 8 else 6) 0) (opA B n)) (nxP B n r.2.1)).2.1 ≤ n ∧ (r.2.2 ++ ((chP B n (unP B n (if lm = 5 then 8 else 6) 0) (opA B n)) (nxP B n r.2.1)).2.2 ++ [(opO B n) r.2.1]).length + p ≤ ((chP B n (unP B n (if lm = 5 then 8 else 6) 0) (opA B n)) (nxP B n r.2.1)).2.1
              rw [List.length_append, List.length_append, List.length_singleton]
              omega
            · show n ≤ k2_z + ((chP B n (unP B n (if lm = 5 then 8 else 6) 0) (opA B n)) (nxP B n r.2.1)).2.1
              omega
            · exact (lpP_on hr hop0 hq).symm.trans hR
          · have nb : ∀ g : Nat → Nat → Int32, psM B n g A ((chP B n (unP B n (if lm = 5 then 8 else 6) 0) (opA B n)) (nxP B n r.2.1)).1 ((chP B n (unP B n (if lm = 5 then 8 else 6) 0) (opA B n)) (nxP B n r.2.1)).2.1 → (g A 12).toInt ≠ 0 := fun g h_z => by rw [h_z.1]; omega
            refine r_aloadR0 dX12_readTruth_4 ?_
            refine k_ldc (hld _ (List.mem_of_getElem? (i := 0) rfl)) dX12_readTruth_5 ?_
            refine q_callV1 zm_RX12_142 dX12_readTruth_7 (shM_k hs) (by decide) rfl (Nat.le_of_ble_eq_true rfl) (Nat.le_of_ble_eq_true rfl) (Nat.le_of_ble_eq_true rfl) (Nat.le_of_ble_eq_true rfl) (Nat.le_of_ble_eq_true rfl) (s_X12_took_t (i := 6) G hs kw (by decide) htp2 hps2 hc_z (fun r7 g7 e7_z o7 p7 => ?_))
            have htp7 := tpM_of htp2 (o7.2.1 5 (by decide) (by decide) (by decide)) (o7.2.2 7 (by decide))
            have w7 : g7 (A + 2) = f2_z (A + 2) := o7.2.1 2 (by decide) (by decide) (by decide)
            refine t_ifeq (t := 26) dX12_readTruth_10 (by decide) (fun h10 => False.elim (by omega)) (fun h10 => ?_)
            refine r_aloadR0 dX12_readTruth_13 ?_
            refine q_callV0 zm_RX12_157 dX12_readTruth_14 (shM_k hs) (by decide) rfl (Nat.le_of_ble_eq_true rfl) (Nat.le_of_ble_eq_true rfl) (Nat.le_of_ble_eq_true rfl) (Nat.le_of_ble_eq_true rfl) (Nat.le_of_ble_eq_true rfl) (s_X12_readBoth_0 (lm := lm) (la := la) (u := u + r.2.2.length) G hs kw hld htp7 p7 (by rw [o7.2.2 16 (by decide)]; exact hd2) (by rw [o7.2.2 17 (by decide), ofr.2.2 17 (by decide)]; exact hlm) (by rw [o7.2.2 18 (by decide), ofr.2.2 18 (by decide)]; exact hla) (by rw [w7]; exact hk3.1) h5 h29 h99 (by omega) (fun g14 o14 d14 p14 k14 => ?_))
            have of14 : frM A [2] [8, 9, 10, 11, 12, 13, 16] f g14 := frM_tr ofr (frM_tr (frM_su o7 (by decide) (by decide)) o14)
            have p14b : psM B n g14 A ((chP B n (unP B n (if lm = 5 then 8 else 6) 0) (opA B n)) (nxP B n r.2.1)).1 ((chP B n (unP B n (if lm = 5 then 8 else 6) 0) (opA B n)) (nxP B n r.2.1)).2.1 := p14
            have k14b : ((chP B n (unP B n (if lm = 5 then 8 else 6) 0) (opA B n)) (nxP B n r.2.1)).1 = 0 → okM g7 g14 A lm la (u + r.2.2.length) ((chP B n (unP B n (if lm = 5 then 8 else 6) 0) (opA B n)) (nxP B n r.2.1)).2.2 := k14
            refine r_aloadR0 dX12_readTruth_17 ?_
            refine n_bipush dX12_readTruth_18 (by decide) (fun r18 e18_z => ?_)
            refine q_callV1 zm_RX12_162 dX12_readTruth_20 (shM_k hs) (by decide) rfl (Nat.le_of_ble_eq_true rfl) (Nat.le_of_ble_eq_true rfl) (Nat.le_of_ble_eq_true rfl) (Nat.le_of_ble_eq_true rfl) (Nat.le_of_ble_eq_true rfl) (s_X12_laysStep_x G hs (nb _ p14b) ?_)
            refine r_goto (t := 4) dX12_readTruth_23 (by decide) ?_
            exact ih _ k2_z ((chP B n (unP B n (if lm = 5 then 8 else 6) 0) (opA B n)) (nxP B n r.2.1)) of14 d14 p14b (fun h_z => absurd h_z hq) (fun h_z => absurd h_z hq) (fun h_z => absurd h_z hq) ((lpP_bad hq).trans ((lpP_sub hr hop0 hq).symm.trans hR)) (by omega)
        · have hop : (opO B n) r.2.1 = 0 := if_neg hc_z
          have hv := (lpP_end (B := B) (n := n) (k := k) (sub := (chP B n (unP B n (if lm = 5 then 8 else 6) 0) (opA B n))) hop).symm.trans hR
          refine r_aloadR0 dX12_readTruth_4 ?_
          refine k_ldc (hld _ (List.mem_of_getElem? (i := 0) rfl)) dX12_readTruth_5 ?_
          refine q_callV1 zm_RX12_142 dX12_readTruth_7 (shM_k hs) (by decide) rfl (Nat.le_of_ble_eq_true rfl) (Nat.le_of_ble_eq_true rfl) (Nat.le_of_ble_eq_true rfl) (Nat.le_of_ble_eq_true rfl) (Nat.le_of_ble_eq_true rfl) (s_X12_took_f (i := 6) G hs kw (by decide) htp2 hps2 hc_z (fun r7 e7_z => ?_))
          refine t_ifeq (t := 26) dX12_readTruth_10 (by decide) (fun h10 => ?_) (fun h10 => False.elim (by omega))
          refine r_vret dX12_readTruth_26 rfl (Nat.le_of_ble_eq_true rfl) (Nat.le_of_ble_eq_true rfl) ?_
          rw [← hv] at hQ
          exact hQ _ ofr hd2 hp2 hk2
      · have hb2 : (f2_z A 12).toInt ≠ 0 := by rw [hp2.1]; omega
        have hv := (lpP_bad (B := B) (n := n) (k := k) (sub := (chP B n (unP B n (if lm = 5 then 8 else 6) 0) (opA B n))) (op := (opO B n)) hr).symm.trans hR
        refine r_aloadR0 dX12_readTruth_4 ?_
        refine k_ldc (hld _ (List.mem_of_getElem? (i := 0) rfl)) dX12_readTruth_5 ?_
        refine q_callV1 zm_RX12_142 dX12_readTruth_7 (shM_k hs) (by decide) rfl (Nat.le_of_ble_eq_true rfl) (Nat.le_of_ble_eq_true rfl) (Nat.le_of_ble_eq_true rfl) (Nat.le_of_ble_eq_true rfl) (Nat.le_of_ble_eq_true rfl) (s_X12_took_x (i := 6) (B := fun _ => 0) (n := 0) G hs kw (by decide) hb2 (fun r7 e7_z => ?_))
        refine t_ifeq (t := 26) dX12_readTruth_10 (by decide) (fun h10 => ?_) (fun h10 => False.elim (by omega))
        refine r_vret dX12_readTruth_26 rfl (Nat.le_of_ble_eq_true rfl) (Nat.le_of_ble_eq_true rfl) ?_
        rw [← hv] at hQ
        exact hQ _ ofr hd2 hp2 hk2
  refine r_aloadR0 dX12_readTruth_0 ?_
  refine q_callV0 zm_RX12_157 dX12_readTruth_1 (shM_k hs) (by decide) rfl (Nat.le_of_ble_eq_true rfl) (Nat.le_of_ble_eq_true rfl) (Nat.le_of_ble_eq_true rfl) (Nat.le_of_ble_eq_true rfl) (Nat.le_of_ble_eq_true rfl) (s_X12_readBoth_0 G hs kw hld htp hps hd16 hlm hla hu h5 h29 h99 hup (fun g1 o1 d1 p1 k1_z => ?_))
  have gp := hgd p ht.1
  exact lp _ g1 n ((chP B n (unP B n (if lm = 5 then 8 else 6) 0) (opA B n)) p) o1 d1 p1 k1_z (fun h_z => ⟨Nat.le_of_lt (gp.1 h_z).1, (gp.1 h_z).2.1, (gp.1 h_z).2.2.1⟩) (fun _ => Nat.le_add_right n _) rfl (Nat.lt_succ_self n)
set_option maxHeartbeats 4000000 in
set_option maxRecDepth 100000 in
theorem s_X12_readUnit_1 {g : zGT} {w : zW} {f : Nat → Nat → Int32} {j : Nat → Nat → Int64} {A : Nat} {B : Nat → Nat} {n : Nat} {wa wv : Nat → Nat} {kq : Nat} {p lm la u : Nat} {Q : Option Value → zW → Prop} {QX : String → zW → Prop} (G : zGok g) (hs : shM w A) (kw : kWd g wa wv kq) (hld : kLd g wa) (htp : tpM B n f A) (hps : psM B n f A 0 p) (hd16 : (f A 16).toInt = 5) (hlm : (f A 17).toInt = (lm : Nat)) (hla : (f A 18).toInt = (la : Nat)) (hu : (f (A + 2) lm).toInt = (u : Nat)) (h5 : lm ≤ 5) (h29 : 209 ≤ la) (h99 : la ≤ 2009) (hup : u ≤ p) (hQ : ∀ f2_z, frM A [2] [8, 9, 10, 11, 12, 13, 16] f f2_z → (f2_z A 16).toInt = 5 → psM B n f2_z A (unP B n (if lm = 5 then 8 else 6) 1 p).1 (unP B n (if lm = 5 then 8 else 6) 1 p).2.1 → ((unP B n (if lm = 5 then 8 else 6) 1 p).1 = 0 → okM f f2_z A lm la u (unP B n (if lm = 5 then 8 else 6) 1 p).2.2) → Q none (zM w f2_z j)) : zC g 44 yX12_readUnit cX12_readUnit 2 none [.ref A] (zM w f j) (0, 0) Q QX := by
  refine zC_of G (by decide +kernel) (Nat.le_of_ble_eq_true rfl) ?_
  have ht := hps.2.1 rfl
  have h12 := hps.1
  have hte := teP_le (B := B) ht.1
  have h900 := htp.2.1
  have h10 := ht.2.2.2.1
  have hsm : ∀ s, s ≤ n → gdP n false (if lm = 5 then 8 else 6) (1 + 2 * 1 + 2) s (smP B n (if lm = 5 then 8 else 6) 1 s) := fun s hs9 => gd_su (gd_at (by split <;> decide) 1) hs9
  by_cases hw : isWd B n p 8 = true
  · have hv : unP B n (if lm = 5 then 8 else 6) 1 p = noP ((unP B n (if lm = 5 then 8 else 6) 0) (nxP B n p)) := if_pos hw
    rw [hv] at hQ
    have hwt := isWd_tk hw
    have hpn := tk_lt (B := B) (n := n) (s := p) (by rw [hwt.1]; decide)
    have hnx := nxP_gt (B := B) hpn
    have hgu : gdP n true (if lm = 5 then 8 else 6) (4 + 2 * 0) (nxP B n p) ((unP B n (if lm = 5 then 8 else 6) 0) (nxP B n p)) := gd_un (by split <;> decide) 0 _ hnx.2
    by_cases hr : ((unP B n (if lm = 5 then 8 else 6) 0) (nxP B n p)).1 = 0
    · have hv2 : noP ((unP B n (if lm = 5 then 8 else 6) 0) (nxP B n p)) = (0, ((unP B n (if lm = 5 then 8 else 6) 0) (nxP B n p)).2.1, ((unP B n (if lm = 5 then 8 else 6) 0) (nxP B n p)).2.2 ++ [2000]) := if_neg (not_not_intro hr)
      rw [hv2] at hQ
      obtain ⟨y1, y2, y3, y4⟩ := hgu.1 hr
      refine r_aloadR0 dX12_readUnit_0 ?_
      refine m_getV (x := (f A 12)) zf_RX12_112 rfl dX12_readUnit_1 (shM_k hs) (rfl) ?_
      refine t_ifeq (t := 8) dX12_readUnit_4 (by decide) (fun h4 => ?_) (fun h4 => False.elim (by omega))
      refine r_aloadR0 dX12_readUnit_8 ?_
      refine k_ldc (hld _ (List.mem_of_getElem? (i := 2) rfl)) dX12_readUnit_9 ?_
      refine q_callV1 zm_RX12_127 dX12_readUnit_11 (shM_k hs) (by decide) rfl (Nat.le_of_ble_eq_true rfl) (Nat.le_of_ble_eq_true rfl) (Nat.le_of_ble_eq_true rfl) (Nat.le_of_ble_eq_true rfl) (Nat.le_of_ble_eq_true rfl) (s_X12_isWord (i := 8) G hs kw (by decide) htp hps (fun r11 e11_z => ?_))
      have e11b : r11.toInt = 1 := e11_z.elim (fun h_z => h_z.1) (fun h_z => absurd hw h_z.2)
      refine t_ifeq (t := 44) dX12_readUnit_14 (by decide) (fun h14 => False.elim (by omega)) (fun h14 => ?_)
      refine r_aloadR0 dX12_readUnit_17 ?_
      refine q_callV0 zm_RX12_172 dX12_readUnit_18 (shM_k hs) (by decide) rfl (Nat.le_of_ble_eq_true rfl) (Nat.le_of_ble_eq_true rfl) (Nat.le_of_ble_eq_true rfl) (Nat.le_of_ble_eq_true rfl) (Nat.le_of_ble_eq_true rfl) (s_X12_goesIn (d := 5) G hs htp hps hd16 (by decide) (by rw [hwt.1]; decide) (fun g18 o18 a18 b18 c18 => ?_))
      have p18 := c18 (by decide)
      have htp18 := tpM_of htp (o18.2.1 5 (by decide) (by decide) (by decide)) (o18.2.2 7 (by decide))
      have w18 : g18 (A + 2) = f (A + 2) := o18.2.1 2 (by decide) (by decide) (by decide)
      refine r_aloadR0 dX12_readUnit_21 ?_
      refine q_callV0 zm_RX12_165 dX12_readUnit_22 (shM_k hs) (by decide) rfl (Nat.le_of_ble_eq_true rfl) (Nat.le_of_ble_eq_true rfl) (Nat.le_of_ble_eq_true rfl) (Nat.le_of_ble_eq_true rfl) (Nat.le_of_ble_eq_true rfl) (s_X12_readUnit_0 (lm := lm) (la := la) (u := u) G hs kw hld htp18 p18 (by rw [a18]; rfl) (by rw [o18.2.2 17 (by decide)]; exact hlm) (by rw [o18.2.2 18 (by decide)]; exact hla) (by rw [w18]; exact hu) h5 h29 h99 (by omega) (fun g22 o22 d22 p22 k22 => ?_))
      have of22 : frM A [2] [8, 9, 10, 11, 12, 13, 16] f g22 := frM_tr (frM_su o18 (by decide) (by decide)) o22
      refine r_aloadR0 dX12_readUnit_25 ?_
      refine n_bipush dX12_readUnit_26 (by decide) (fun r26 e26_z => ?_)
      refine q_callV1 zm_RX12_162 dX12_readUnit_28 (shM_k hs) (by decide) rfl (Nat.le_of_ble_eq_true rfl) (Nat.le_of_ble_eq_true rfl) (Nat.le_of_ble_eq_true rfl) (Nat.le_of_ble_eq_true rfl) (Nat.le_of_ble_eq_true rfl) (s_X12_laysStep (lm := lm) (la := la) (u := u + ((unP B n (if lm = 5 then 8 else 6) 0) (nxP B n p)).2.2.length) G hs (by have := p22.1; rw [hr] at this; exact this) (by rw [of22.2.2 17 (by decide)]; exact hlm) (by rw [of22.2.2 18 (by decide)]; exact hla) (k22 hr).1 h5 h29 (by omega) (fun g28 o28 a28 b28 c28 => ?_))
      have d28 : (g28 A 16).toInt = 6 := by rw [o28.2.2 16 (by decide)]; exact d22
      have p22b := p22
      rw [hr] at p22b
      refine r_aloadR0 dX12_readUnit_31 ?_
      refine r_dup dX12_readUnit_32 rfl ?_
      refine m_getV (x := (g28 A 16)) zf_RX12_154 rfl dX12_readUnit_33 (shM_k hs) (rfl) ?_
      refine n_iconst dX12_readUnit_36 (by decide) (fun r36 e36 => ?_)
      refine n_isub dX12_readUnit_37 (by omega) (fun r37 e37 => ?_)
      refine m_putI zf_RX12_154 (by intro C T N h_z; cases h_z; rfl) rfl dX12_readUnit_38 (shM_k hs) ?_
      obtain ⟨g38, hg38⟩ : ∃ g9, g9 = zu g28 A 16 r37 := ⟨_, rfl⟩
      rw [← hg38]
      have og38 : frM A [] [16] g28 g38 := by rw [hg38]; exact frM_zk frM_rf (by decide)
      have vg38 : g38 A 16 = r37 := by rw [hg38]; exact zu_at
      have vt38 : (g38 A 16).toInt = r37.toInt := by rw [vg38]
      refine r_goto (t := 155) dX12_readUnit_41 (by decide) ?_
      refine r_vret dX12_readUnit_155 rfl (Nat.le_of_ble_eq_true rfl) (Nat.le_of_ble_eq_true rfl) ?_
      exact hQ _ (frM_tr (frM_tr of22 (frM_su o28 (by decide) (by decide))) (frM_su og38 (by decide) (by decide))) (by rw [vt38]; omega) (psM_of (psM_of p22b (o28.2.2 8 (by decide)) (o28.2.2 9 (by decide)) (o28.2.2 10 (by decide)) (o28.2.2 11 (by decide)) (o28.2.2 12 (by decide)) (o28.2.2 13 (by decide))) (og38.2.2 8 (by decide)) (og38.2.2 9 (by decide)) (og38.2.2 10 (by decide)) (og38.2.2 11 (by decide)) (og38.2.2 12 (by decide)) (og38.2.2 13 (by decide))) (fun _ => okM_cg (okM_ap (by omega) (by omega) (k22 hr) (okM_one (by omega) a28 b28 c28 (by rw [e26_z]; rfl))) w18 (og38.2.1 2 (by decide) (by decide) (by decide)))
    · have hv2 : noP ((unP B n (if lm = 5 then 8 else 6) 0) (nxP B n p)) = ((unP B n (if lm = 5 then 8 else 6) 0) (nxP B n p)) := if_pos hr
      rw [hv2] at hQ
      refine r_aloadR0 dX12_readUnit_0 ?_
      refine m_getV (x := (f A 12)) zf_RX12_112 rfl dX12_readUnit_1 (shM_k hs) (rfl) ?_
      refine t_ifeq (t := 8) dX12_readUnit_4 (by decide) (fun h4 => ?_) (fun h4 => False.elim (by omega))
      refine r_aloadR0 dX12_readUnit_8 ?_
      refine k_ldc (hld _ (List.mem_of_getElem? (i := 2) rfl)) dX12_readUnit_9 ?_
      refine q_callV1 zm_RX12_127 dX12_readUnit_11 (shM_k hs) (by decide) rfl (Nat.le_of_ble_eq_true rfl) (Nat.le_of_ble_eq_true rfl) (Nat.le_of_ble_eq_true rfl) (Nat.le_of_ble_eq_true rfl) (Nat.le_of_ble_eq_true rfl) (s_X12_isWord (i := 8) G hs kw (by decide) htp hps (fun r11 e11_z => ?_))
      have e11b : r11.toInt = 1 := e11_z.elim (fun h_z => h_z.1) (fun h_z => absurd hw h_z.2)
      refine t_ifeq (t := 44) dX12_readUnit_14 (by decide) (fun h14 => False.elim (by omega)) (fun h14 => ?_)
      refine r_aloadR0 dX12_readUnit_17 ?_
      refine q_callV0 zm_RX12_172 dX12_readUnit_18 (shM_k hs) (by decide) rfl (Nat.le_of_ble_eq_true rfl) (Nat.le_of_ble_eq_true rfl) (Nat.le_of_ble_eq_true rfl) (Nat.le_of_ble_eq_true rfl) (Nat.le_of_ble_eq_true rfl) (s_X12_goesIn (d := 5) G hs htp hps hd16 (by decide) (by rw [hwt.1]; decide) (fun g18 o18 a18 b18 c18 => ?_))
      have p18 := c18 (by decide)
      have htp18 := tpM_of htp (o18.2.1 5 (by decide) (by decide) (by decide)) (o18.2.2 7 (by decide))
      have w18 : g18 (A + 2) = f (A + 2) := o18.2.1 2 (by decide) (by decide) (by decide)
      refine r_aloadR0 dX12_readUnit_21 ?_
      refine q_callV0 zm_RX12_165 dX12_readUnit_22 (shM_k hs) (by decide) rfl (Nat.le_of_ble_eq_true rfl) (Nat.le_of_ble_eq_true rfl) (Nat.le_of_ble_eq_true rfl) (Nat.le_of_ble_eq_true rfl) (Nat.le_of_ble_eq_true rfl) (s_X12_readUnit_0 (lm := lm) (la := la) (u := u) G hs kw hld htp18 p18 (by rw [a18]; rfl) (by rw [o18.2.2 17 (by decide)]; exact hlm) (by rw [o18.2.2 18 (by decide)]; exact hla) (by rw [w18]; exact hu) h5 h29 h99 (by omega) (fun g22 o22 d22 p22 k22 => ?_))
      have of22 : frM A [2] [8, 9, 10, 11, 12, 13, 16] f g22 := frM_tr (frM_su o18 (by decide) (by decide)) o22
      refine r_aloadR0 dX12_readUnit_25 ?_
      refine n_bipush dX12_readUnit_26 (by decide) (fun r26 e26_z => ?_)
      refine q_callV1 zm_RX12_162 dX12_readUnit_28 (shM_k hs) (by decide) rfl (Nat.le_of_ble_eq_true rfl) (Nat.le_of_ble_eq_true rfl) (Nat.le_of_ble_eq_true rfl) (Nat.le_of_ble_eq_true rfl) (Nat.le_of_ble_eq_true rfl) (s_X12_laysStep_x G hs (by rw [p22.1]; omega) ?_)
      have d22b : (g22 A 16).toInt = 6 := d22
      refine r_aloadR0 dX12_readUnit_31 ?_
      refine r_dup dX12_readUnit_32 rfl ?_
      refine m_getV (x := (g22 A 16)) zf_RX12_154 rfl dX12_readUnit_33 (shM_k hs) (rfl) ?_
      refine n_iconst dX12_readUnit_36 (by decide) (fun r36 e36 => ?_)
      refine n_isub dX12_readUnit_37 (by omega) (fun r37 e37 => ?_)
      refine m_putI zf_RX12_154 (by intro C T N h_z; cases h_z; rfl) rfl dX12_readUnit_38 (shM_k hs) ?_
      obtain ⟨g38, hg38⟩ : ∃ g9, g9 = zu g22 A 16 r37 := ⟨_, rfl⟩
      rw [← hg38]
      have og38 : frM A [] [16] g22 g38 := by rw [hg38]; exact frM_zk frM_rf (by decide)
      have vg38 : g38 A 16 = r37 := by rw [hg38]; exact zu_at
      have vt38 : (g38 A 16).toInt = r37.toInt := by rw [vg38]
      refine r_goto (t := 155) dX12_readUnit_41 (by decide) ?_
      refine r_vret dX12_readUnit_155 rfl (Nat.le_of_ble_eq_true rfl) (Nat.le_of_ble_eq_true rfl) ?_
      exact hQ _ (frM_tr of22 (frM_su og38 (by decide) (by decide))) (by rw [vt38]; omega) (psM_of p22 (og38.2.2 8 (by decide)) (og38.2.2 9 (by decide)) (og38.2.2 10 (by decide)) (og38.2.2 11 (by decide)) (og38.2.2 12 (by decide)) (og38.2.2 13 (by decide))) (fun h_z => absurd h_z hr)
  have hrk := rk4 (B := B) (n := n) (s := p) (c := 91) (by decide)
  by_cases hp : tkP B n p = 91
  · have hv : unP B n (if lm = 5 then 8 else 6) 1 p = clP B n 93 (trU B n (unP B n (if lm = 5 then 8 else 6) 0) (nxP B n p)) := (if_neg hw).trans (if_pos hp)
    rw [hv] at hQ
    have h10b := hrk.mpr hp
    have hpn := tk_lt (B := B) (n := n) (s := p) (by rw [hp]; decide)
    have hnx := nxP_gt (B := B) hpn
    by_cases hr : (trU B n (unP B n (if lm = 5 then 8 else 6) 0) (nxP B n p)).1 = 0
    · by_cases h93 : tkP B n (trU B n (unP B n (if lm = 5 then 8 else 6) 0) (nxP B n p)).2.1 = 93
      · have hv2 : clP B n 93 (trU B n (unP B n (if lm = 5 then 8 else 6) 0) (nxP B n p)) = (0, nxP B n (trU B n (unP B n (if lm = 5 then 8 else 6) 0) (nxP B n p)).2.1, (trU B n (unP B n (if lm = 5 then 8 else 6) 0) (nxP B n p)).2.2) := (if_neg (not_not_intro hr)).trans (if_pos h93)
        rw [hv2] at hQ
        refine r_aloadR0 dX12_readUnit_0 ?_
        refine m_getV (x := (f A 12)) zf_RX12_112 rfl dX12_readUnit_1 (shM_k hs) (rfl) ?_
        refine t_ifeq (t := 8) dX12_readUnit_4 (by decide) (fun h4 => ?_) (fun h4 => False.elim (by omega))
        refine r_aloadR0 dX12_readUnit_8 ?_
        refine k_ldc (hld _ (List.mem_of_getElem? (i := 2) rfl)) dX12_readUnit_9 ?_
        refine q_callV1 zm_RX12_127 dX12_readUnit_11 (shM_k hs) (by decide) rfl (Nat.le_of_ble_eq_true rfl) (Nat.le_of_ble_eq_true rfl) (Nat.le_of_ble_eq_true rfl) (Nat.le_of_ble_eq_true rfl) (Nat.le_of_ble_eq_true rfl) (s_X12_isWord (i := 8) G hs kw (by decide) htp hps (fun r11 e11_z => ?_))
        have e11b : r11.toInt = 0 := e11_z.elim (fun h_z => absurd h_z.2 hw) (fun h_z => h_z.1)
        refine t_ifeq (t := 44) dX12_readUnit_14 (by decide) (fun h14 => ?_) (fun h14 => False.elim (by omega))
        refine r_aloadR0 dX12_readUnit_44 ?_
        refine n_bipush dX12_readUnit_45 (by decide) (fun r45 e45 => ?_)
        refine q_callV1 zm_RX12_175 dX12_readUnit_47 (shM_k hs) (by decide) rfl (Nat.le_of_ble_eq_true rfl) (Nat.le_of_ble_eq_true rfl) (Nat.le_of_ble_eq_true rfl) (Nat.le_of_ble_eq_true rfl) (Nat.le_of_ble_eq_true rfl) (s_X12_isSign G hs (fun r47 e47 => ?_))
        refine t_ifeq (t := 80) dX12_readUnit_50 (by decide) (fun h50 => False.elim (by omega)) (fun h50 => ?_)
        refine r_aloadR0 dX12_readUnit_53 ?_
        refine q_callV0 zm_RX12_172 dX12_readUnit_54 (shM_k hs) (by decide) rfl (Nat.le_of_ble_eq_true rfl) (Nat.le_of_ble_eq_true rfl) (Nat.le_of_ble_eq_true rfl) (Nat.le_of_ble_eq_true rfl) (Nat.le_of_ble_eq_true rfl) (s_X12_goesIn (d := 5) G hs htp hps hd16 (by decide) (by rw [hp]; decide) (fun g54 o54 a54 b54 c54 => ?_))
        have p54 := c54 (by decide)
        have htp54 := tpM_of htp (o54.2.1 5 (by decide) (by decide) (by decide)) (o54.2.2 7 (by decide))
        have w54 : g54 (A + 2) = f (A + 2) := o54.2.1 2 (by decide) (by decide) (by decide)
        refine r_aloadR0 dX12_readUnit_57 ?_
        refine q_callV0 zm_RX12_178 dX12_readUnit_58 (shM_k hs) (by decide) rfl (Nat.le_of_ble_eq_true rfl) (Nat.le_of_ble_eq_true rfl) (Nat.le_of_ble_eq_true rfl) (Nat.le_of_ble_eq_true rfl) (Nat.le_of_ble_eq_true rfl) (s_X12_readTruth_0 (lm := lm) (la := la) (u := u) G hs kw hld htp54 p54 (by rw [a54]; rfl) (by rw [o54.2.2 17 (by decide)]; exact hlm) (by rw [o54.2.2 18 (by decide)]; exact hla) (by rw [w54]; exact hu) h5 h29 h99 (by omega) (fun g58 o58 d58 p58 k58 => ?_))
        have p58b : psM B n g58 A (trU B n (unP B n (if lm = 5 then 8 else 6) 0) (nxP B n p)).1 (trU B n (unP B n (if lm = 5 then 8 else 6) 0) (nxP B n p)).2.1 := p58
        have of58 : frM A [2] [8, 9, 10, 11, 12, 13, 16] f g58 := frM_tr (frM_su o54 (by decide) (by decide)) o58
        have htp58 := tpM_of htp (of58.2.1 5 (by decide) (by decide) (by decide)) (of58.2.2 7 (by decide))
        have p58c := p58b
        rw [hr] at p58c
        refine r_aloadR0 dX12_readUnit_61 ?_
        refine n_bipush dX12_readUnit_62 (by decide) (fun r62 e62 => ?_)
        refine q_callV1 zm_RX12_151 dX12_readUnit_64 (shM_k hs) (by decide) rfl (Nat.le_of_ble_eq_true rfl) (Nat.le_of_ble_eq_true rfl) (Nat.le_of_ble_eq_true rfl) (Nat.le_of_ble_eq_true rfl) (Nat.le_of_ble_eq_true rfl) (s_X12_mustSign (p := (trU B n (unP B n (if lm = 5 then 8 else 6) 0) (nxP B n p)).2.1) (c := 93) G hs htp58 p58c e62 (by decide) (fun g64 o64 a64 b64 => ?_))
        have d64 : (g64 A 16).toInt = 6 := by rw [o64.2.2 16 (by decide)]; exact d58
        refine r_aloadR0 dX12_readUnit_67 ?_
        refine r_dup dX12_readUnit_68 rfl ?_
        refine m_getV (x := (g64 A 16)) zf_RX12_154 rfl dX12_readUnit_69 (shM_k hs) (rfl) ?_
        refine n_iconst dX12_readUnit_72 (by decide) (fun r72 e72_z => ?_)
        refine n_isub dX12_readUnit_73 (by omega) (fun r73 e73 => ?_)
        refine m_putI zf_RX12_154 (by intro C T N h_z; cases h_z; rfl) rfl dX12_readUnit_74 (shM_k hs) ?_
        obtain ⟨g74, hg74⟩ : ∃ g9, g9 = zu g64 A 16 r73 := ⟨_, rfl⟩
        rw [← hg74]
        have og74 : frM A [] [16] g64 g74 := by rw [hg74]; exact frM_zk frM_rf (by decide)
        have vg74 : g74 A 16 = r73 := by rw [hg74]; exact zu_at
        have vt74 : (g74 A 16).toInt = r73.toInt := by rw [vg74]
        refine r_goto (t := 155) dX12_readUnit_77 (by decide) ?_
        refine r_vret dX12_readUnit_155 rfl (Nat.le_of_ble_eq_true rfl) (Nat.le_of_ble_eq_true rfl) ?_
        exact hQ _ (frM_tr (frM_tr of58 (frM_su o64 (by decide) (by decide))) (frM_su og74 (by decide) (by decide))) (by rw [vt74]; omega) (psM_of (a64 h93) (og74.2.2 8 (by decide)) (og74.2.2 9 (by decide)) (og74.2.2 10 (by decide)) (og74.2.2 11 (by decide)) (og74.2.2 12 (by decide)) (og74.2.2 13 (by decide))) (fun _ => okM_cg (k58 hr) w54 ((og74.2.1 2 (by decide) (by decide) (by decide)).trans (o64.2.1 2 (by decide) (by decide) (by decide))))
      · have hv2 : clP B n 93 (trU B n (unP B n (if lm = 5 then 8 else 6) 0) (nxP B n p)) = (baP B n (trU B n (unP B n (if lm = 5 then 8 else 6) 0) (nxP B n p)).2.1, (trU B n (unP B n (if lm = 5 then 8 else 6) 0) (nxP B n p)).2.1, []) := (if_neg (not_not_intro hr)).trans (if_neg h93)
        rw [hv2] at hQ
        refine r_aloadR0 dX12_readUnit_0 ?_
        refine m_getV (x := (f A 12)) zf_RX12_112 rfl dX12_readUnit_1 (shM_k hs) (rfl) ?_
        refine t_ifeq (t := 8) dX12_readUnit_4 (by decide) (fun h4 => ?_) (fun h4 => False.elim (by omega))
        refine r_aloadR0 dX12_readUnit_8 ?_
        refine k_ldc (hld _ (List.mem_of_getElem? (i := 2) rfl)) dX12_readUnit_9 ?_
        refine q_callV1 zm_RX12_127 dX12_readUnit_11 (shM_k hs) (by decide) rfl (Nat.le_of_ble_eq_true rfl) (Nat.le_of_ble_eq_true rfl) (Nat.le_of_ble_eq_true rfl) (Nat.le_of_ble_eq_true rfl) (Nat.le_of_ble_eq_true rfl) (s_X12_isWord (i := 8) G hs kw (by decide) htp hps (fun r11 e11_z => ?_))
        have e11b : r11.toInt = 0 := e11_z.elim (fun h_z => absurd h_z.2 hw) (fun h_z => h_z.1)
        refine t_ifeq (t := 44) dX12_readUnit_14 (by decide) (fun h14 => ?_) (fun h14 => False.elim (by omega))
        refine r_aloadR0 dX12_readUnit_44 ?_
        refine n_bipush dX12_readUnit_45 (by decide) (fun r45 e45 => ?_)
        refine q_callV1 zm_RX12_175 dX12_readUnit_47 (shM_k hs) (by decide) rfl (Nat.le_of_ble_eq_true rfl) (Nat.le_of_ble_eq_true rfl) (Nat.le_of_ble_eq_true rfl) (Nat.le_of_ble_eq_true rfl) (Nat.le_of_ble_eq_true rfl) (s_X12_isSign G hs (fun r47 e47 => ?_))
        refine t_ifeq (t := 80) dX12_readUnit_50 (by decide) (fun h50 => False.elim (by omega)) (fun h50 => ?_)
        refine r_aloadR0 dX12_readUnit_53 ?_
        refine q_callV0 zm_RX12_172 dX12_readUnit_54 (shM_k hs) (by decide) rfl (Nat.le_of_ble_eq_true rfl) (Nat.le_of_ble_eq_true rfl) (Nat.le_of_ble_eq_true rfl) (Nat.le_of_ble_eq_true rfl) (Nat.le_of_ble_eq_true rfl) (s_X12_goesIn (d := 5) G hs htp hps hd16 (by decide) (by rw [hp]; decide) (fun g54 o54 a54 b54 c54 => ?_))
        have p54 := c54 (by decide)
        have htp54 := tpM_of htp (o54.2.1 5 (by decide) (by decide) (by decide)) (o54.2.2 7 (by decide))
        have w54 : g54 (A + 2) = f (A + 2) := o54.2.1 2 (by decide) (by decide) (by decide)
        refine r_aloadR0 dX12_readUnit_57 ?_
        refine q_callV0 zm_RX12_178 dX12_readUnit_58 (shM_k hs) (by decide) rfl (Nat.le_of_ble_eq_true rfl) (Nat.le_of_ble_eq_true rfl) (Nat.le_of_ble_eq_true rfl) (Nat.le_of_ble_eq_true rfl) (Nat.le_of_ble_eq_true rfl) (s_X12_readTruth_0 (lm := lm) (la := la) (u := u) G hs kw hld htp54 p54 (by rw [a54]; rfl) (by rw [o54.2.2 17 (by decide)]; exact hlm) (by rw [o54.2.2 18 (by decide)]; exact hla) (by rw [w54]; exact hu) h5 h29 h99 (by omega) (fun g58 o58 d58 p58 k58 => ?_))
        have p58b : psM B n g58 A (trU B n (unP B n (if lm = 5 then 8 else 6) 0) (nxP B n p)).1 (trU B n (unP B n (if lm = 5 then 8 else 6) 0) (nxP B n p)).2.1 := p58
        have of58 : frM A [2] [8, 9, 10, 11, 12, 13, 16] f g58 := frM_tr (frM_su o54 (by decide) (by decide)) o58
        have htp58 := tpM_of htp (of58.2.1 5 (by decide) (by decide) (by decide)) (of58.2.2 7 (by decide))
        have p58c := p58b
        rw [hr] at p58c
        refine r_aloadR0 dX12_readUnit_61 ?_
        refine n_bipush dX12_readUnit_62 (by decide) (fun r62 e62 => ?_)
        refine q_callV1 zm_RX12_151 dX12_readUnit_64 (shM_k hs) (by decide) rfl (Nat.le_of_ble_eq_true rfl) (Nat.le_of_ble_eq_true rfl) (Nat.le_of_ble_eq_true rfl) (Nat.le_of_ble_eq_true rfl) (Nat.le_of_ble_eq_true rfl) (s_X12_mustSign (p := (trU B n (unP B n (if lm = 5 then 8 else 6) 0) (nxP B n p)).2.1) (c := 93) G hs htp58 p58c e62 (by decide) (fun g64 o64 a64 b64 => ?_))
        have d64 : (g64 A 16).toInt = 6 := by rw [o64.2.2 16 (by decide)]; exact d58
        refine r_aloadR0 dX12_readUnit_67 ?_
        refine r_dup dX12_readUnit_68 rfl ?_
        refine m_getV (x := (g64 A 16)) zf_RX12_154 rfl dX12_readUnit_69 (shM_k hs) (rfl) ?_
        refine n_iconst dX12_readUnit_72 (by decide) (fun r72 e72_z => ?_)
        refine n_isub dX12_readUnit_73 (by omega) (fun r73 e73 => ?_)
        refine m_putI zf_RX12_154 (by intro C T N h_z; cases h_z; rfl) rfl dX12_readUnit_74 (shM_k hs) ?_
        obtain ⟨g74, hg74⟩ : ∃ g9, g9 = zu g64 A 16 r73 := ⟨_, rfl⟩
        rw [← hg74]
        have og74 : frM A [] [16] g64 g74 := by rw [hg74]; exact frM_zk frM_rf (by decide)
        have vg74 : g74 A 16 = r73 := by rw [hg74]; exact zu_at
        have vt74 : (g74 A 16).toInt = r73.toInt := by rw [vg74]
        refine r_goto (t := 155) dX12_readUnit_77 (by decide) ?_
        refine r_vret dX12_readUnit_155 rfl (Nat.le_of_ble_eq_true rfl) (Nat.le_of_ble_eq_true rfl) ?_
        exact hQ _ (frM_tr (frM_tr of58 (frM_su o64 (by decide) (by decide))) (frM_su og74 (by decide) (by decide))) (by rw [vt74]; omega) (psM_of (b64 h93) (og74.2.2 8 (by decide)) (og74.2.2 9 (by decide)) (og74.2.2 10 (by decide)) (og74.2.2 11 (by decide)) (og74.2.2 12 (by decide)) (og74.2.2 13 (by decide))) (fun h_z => absurd h_z ba_bd.1)
    · have hv2 : clP B n 93 (trU B n (unP B n (if lm = 5 then 8 else 6) 0) (nxP B n p)) = (trU B n (unP B n (if lm = 5 then 8 else 6) 0) (nxP B n p)) := if_pos hr
      rw [hv2] at hQ
      refine r_aloadR0 dX12_readUnit_0 ?_
      refine m_getV (x := (f A 12)) zf_RX12_112 rfl dX12_readUnit_1 (shM_k hs) (rfl) ?_
      refine t_ifeq (t := 8) dX12_readUnit_4 (by decide) (fun h4 => ?_) (fun h4 => False.elim (by omega))
      refine r_aloadR0 dX12_readUnit_8 ?_
      refine k_ldc (hld _ (List.mem_of_getElem? (i := 2) rfl)) dX12_readUnit_9 ?_
      refine q_callV1 zm_RX12_127 dX12_readUnit_11 (shM_k hs) (by decide) rfl (Nat.le_of_ble_eq_true rfl) (Nat.le_of_ble_eq_true rfl) (Nat.le_of_ble_eq_true rfl) (Nat.le_of_ble_eq_true rfl) (Nat.le_of_ble_eq_true rfl) (s_X12_isWord (i := 8) G hs kw (by decide) htp hps (fun r11 e11_z => ?_))
      have e11b : r11.toInt = 0 := e11_z.elim (fun h_z => absurd h_z.2 hw) (fun h_z => h_z.1)
      refine t_ifeq (t := 44) dX12_readUnit_14 (by decide) (fun h14 => ?_) (fun h14 => False.elim (by omega))
      refine r_aloadR0 dX12_readUnit_44 ?_
      refine n_bipush dX12_readUnit_45 (by decide) (fun r45 e45 => ?_)
      refine q_callV1 zm_RX12_175 dX12_readUnit_47 (shM_k hs) (by decide) rfl (Nat.le_of_ble_eq_true rfl) (Nat.le_of_ble_eq_true rfl) (Nat.le_of_ble_eq_true rfl) (Nat.le_of_ble_eq_true rfl) (Nat.le_of_ble_eq_true rfl) (s_X12_isSign G hs (fun r47 e47 => ?_))
      refine t_ifeq (t := 80) dX12_readUnit_50 (by decide) (fun h50 => False.elim (by omega)) (fun h50 => ?_)
      refine r_aloadR0 dX12_readUnit_53 ?_
      refine q_callV0 zm_RX12_172 dX12_readUnit_54 (shM_k hs) (by decide) rfl (Nat.le_of_ble_eq_true rfl) (Nat.le_of_ble_eq_true rfl) (Nat.le_of_ble_eq_true rfl) (Nat.le_of_ble_eq_true rfl) (Nat.le_of_ble_eq_true rfl) (s_X12_goesIn (d := 5) G hs htp hps hd16 (by decide) (by rw [hp]; decide) (fun g54 o54 a54 b54 c54 => ?_))
      have p54 := c54 (by decide)
      have htp54 := tpM_of htp (o54.2.1 5 (by decide) (by decide) (by decide)) (o54.2.2 7 (by decide))
      have w54 : g54 (A + 2) = f (A + 2) := o54.2.1 2 (by decide) (by decide) (by decide)
      refine r_aloadR0 dX12_readUnit_57 ?_
      refine q_callV0 zm_RX12_178 dX12_readUnit_58 (shM_k hs) (by decide) rfl (Nat.le_of_ble_eq_true rfl) (Nat.le_of_ble_eq_true rfl) (Nat.le_of_ble_eq_true rfl) (Nat.le_of_ble_eq_true rfl) (Nat.le_of_ble_eq_true rfl) (s_X12_readTruth_0 (lm := lm) (la := la) (u := u) G hs kw hld htp54 p54 (by rw [a54]; rfl) (by rw [o54.2.2 17 (by decide)]; exact hlm) (by rw [o54.2.2 18 (by decide)]; exact hla) (by rw [w54]; exact hu) h5 h29 h99 (by omega) (fun g58 o58 d58 p58 k58 => ?_))
      have p58b : psM B n g58 A (trU B n (unP B n (if lm = 5 then 8 else 6) 0) (nxP B n p)).1 (trU B n (unP B n (if lm = 5 then 8 else 6) 0) (nxP B n p)).2.1 := p58
      have of58 : frM A [2] [8, 9, 10, 11, 12, 13, 16] f g58 := frM_tr (frM_su o54 (by decide) (by decide)) o58
      have htp58 := tpM_of htp (of58.2.1 5 (by decide) (by decide) (by decide)) (of58.2.2 7 (by decide))
      have nb : (g58 A 12).toInt ≠ 0 := by rw [p58b.1]; omega
      have d58b : (g58 A 16).toInt = 6 := d58
      refine r_aloadR0 dX12_readUnit_61 ?_
      refine n_bipush dX12_readUnit_62 (by decide) (fun r62 e62 => ?_)
      refine q_callV1 zm_RX12_151 dX12_readUnit_64 (shM_k hs) (by decide) rfl (Nat.le_of_ble_eq_true rfl) (Nat.le_of_ble_eq_true rfl) (Nat.le_of_ble_eq_true rfl) (Nat.le_of_ble_eq_true rfl) (Nat.le_of_ble_eq_true rfl) (s_X12_mustSign_x G hs nb ?_)
      refine r_aloadR0 dX12_readUnit_67 ?_
      refine r_dup dX12_readUnit_68 rfl ?_
      refine m_getV (x := (g58 A 16)) zf_RX12_154 rfl dX12_readUnit_69 (shM_k hs) (rfl) ?_
      refine n_iconst dX12_readUnit_72 (by decide) (fun r72 e72_z => ?_)
      refine n_isub dX12_readUnit_73 (by omega) (fun r73 e73 => ?_)
      refine m_putI zf_RX12_154 (by intro C T N h_z; cases h_z; rfl) rfl dX12_readUnit_74 (shM_k hs) ?_
      obtain ⟨g74, hg74⟩ : ∃ g9, g9 = zu g58 A 16 r73 := ⟨_, rfl⟩
      rw [← hg74]
      have og74 : frM A [] [16] g58 g74 := by rw [hg74]; exact frM_zk frM_rf (by decide)
      have vg74 : g74 A 16 = r73 := by rw [hg74]; exact zu_at
      have vt74 : (g74 A 16).toInt = r73.toInt := by rw [vg74]
      refine r_goto (t := 155) dX12_readUnit_77 (by decide) ?_
      refine r_vret dX12_readUnit_155 rfl (Nat.le_of_ble_eq_true rfl) (Nat.le_of_ble_eq_true rfl) ?_
      exact hQ _ (frM_tr of58 (frM_su og74 (by decide) (by decide))) (by rw [vt74]; omega) (psM_of p58b (og74.2.2 8 (by decide)) (og74.2.2 9 (by decide)) (og74.2.2 10 (by decide)) (og74.2.2 11 (by decide)) (og74.2.2 12 (by decide)) (og74.2.2 13 (by decide))) (fun h_z => absurd h_z hr)
  have hrk2 : rkP B n p ≠ 91 := fun h_z => hp (hrk.mp h_z)
  have hv0 : unP B n (if lm = 5 then 8 else 6) 1 p = cmP B n (smP B n (if lm = 5 then 8 else 6) 1) p := (if_neg hw).trans (if_neg hp)
  rw [hv0] at hQ
  by_cases hr : (smP B n (if lm = 5 then 8 else 6) 1 p).1 = 0
  · have p81c : ∀ g, psM B n g A (smP B n (if lm = 5 then 8 else 6) 1 p).1 (smP B n (if lm = 5 then 8 else 6) 1 p).2.1 → psM B n g A 0 (smP B n (if lm = 5 then 8 else 6) 1 p).2.1 := fun g h_z => by rw [hr] at h_z; exact h_z
    obtain ⟨y1, y2, y3, y4⟩ := (hsm p ht.1).1 hr
    have q61 := rk4 (B := B) (n := n) (s := (smP B n (if lm = 5 then 8 else 6) 1 p).2.1) (c := 61) (by decide)
    have q60 := rk4 (B := B) (n := n) (s := (smP B n (if lm = 5 then 8 else 6) 1 p).2.1) (c := 60) (by decide)
    have q62 := rk4 (B := B) (n := n) (s := (smP B n (if lm = 5 then 8 else 6) 1 p).2.1) (c := 62) (by decide)
    by_cases hc_z : tkP B n (smP B n (if lm = 5 then 8 else 6) 1 p).2.1 = 61
    · have h10c := q61.mpr hc_z
      have hop : opC B n (smP B n (if lm = 5 then 8 else 6) 1 p).2.1 = 2006 := if_pos hc_z
      have hop0 : opC B n (smP B n (if lm = 5 then 8 else 6) 1 p).2.1 ≠ 0 := by rw [hop]; decide
      have hln := tk_lt (B := B) (n := n) (s := (smP B n (if lm = 5 then 8 else 6) 1 p).2.1) (by rw [hc_z]; decide)
      have hnx := nxP_gt (B := B) hln
      by_cases hq : (smP B n (if lm = 5 then 8 else 6) 1 (nxP B n (smP B n (if lm = 5 then 8 else 6) 1 p).2.1)).1 = 0
      · obtain ⟨z1, z2, z3, z4⟩ := (hsm _ hnx.2).1 hq
        have hv : cmP B n (smP B n (if lm = 5 then 8 else 6) 1) p = (0, (smP B n (if lm = 5 then 8 else 6) 1 (nxP B n (smP B n (if lm = 5 then 8 else 6) 1 p).2.1)).2.1, (smP B n (if lm = 5 then 8 else 6) 1 p).2.2 ++ (smP B n (if lm = 5 then 8 else 6) 1 (nxP B n (smP B n (if lm = 5 then 8 else 6) 1 p).2.1)).2.2 ++ [opC B n (smP B n (if lm = 5 then 8 else 6) 1 p).2.1]) := (if_neg (not_not_intro hr)).trans ((if_neg hop0).trans (if_neg (not_not_intro hq)))
        rw [hv, hop] at hQ
        refine r_aloadR0 dX12_readUnit_0 ?_
        refine m_getV (x := (f A 12)) zf_RX12_112 rfl dX12_readUnit_1 (shM_k hs) (rfl) ?_
        refine t_ifeq (t := 8) dX12_readUnit_4 (by decide) (fun h4 => ?_) (fun h4 => False.elim (by omega))
        refine r_aloadR0 dX12_readUnit_8 ?_
        refine k_ldc (hld _ (List.mem_of_getElem? (i := 2) rfl)) dX12_readUnit_9 ?_
        refine q_callV1 zm_RX12_127 dX12_readUnit_11 (shM_k hs) (by decide) rfl (Nat.le_of_ble_eq_true rfl) (Nat.le_of_ble_eq_true rfl) (Nat.le_of_ble_eq_true rfl) (Nat.le_of_ble_eq_true rfl) (Nat.le_of_ble_eq_true rfl) (s_X12_isWord (i := 8) G hs kw (by decide) htp hps (fun r11 e11_z => ?_))
        have e11b : r11.toInt = 0 := e11_z.elim (fun h_z => absurd h_z.2 hw) (fun h_z => h_z.1)
        refine t_ifeq (t := 44) dX12_readUnit_14 (by decide) (fun h14 => ?_) (fun h14 => False.elim (by omega))
        refine r_aloadR0 dX12_readUnit_44 ?_
        refine n_bipush dX12_readUnit_45 (by decide) (fun r45 e45 => ?_)
        refine q_callV1 zm_RX12_175 dX12_readUnit_47 (shM_k hs) (by decide) rfl (Nat.le_of_ble_eq_true rfl) (Nat.le_of_ble_eq_true rfl) (Nat.le_of_ble_eq_true rfl) (Nat.le_of_ble_eq_true rfl) (Nat.le_of_ble_eq_true rfl) (s_X12_isSign G hs (fun r47 e47 => ?_))
        refine t_ifeq (t := 80) dX12_readUnit_50 (by decide) (fun h50 => ?_) (fun h50 => False.elim (by omega))
        refine r_aloadR0 dX12_readUnit_80 ?_
        refine q_callV0 zm_RX12_181 dX12_readUnit_81 (shM_k hs) (by decide) rfl (Nat.le_of_ble_eq_true rfl) (Nat.le_of_ble_eq_true rfl) (Nat.le_of_ble_eq_true rfl) (Nat.le_of_ble_eq_true rfl) (Nat.le_of_ble_eq_true rfl) (s_X12_readSum_1 (lm := lm) (la := la) (u := u) G hs kw hld htp hps hd16 hlm hla hu h5 h29 h99 hup (fun g81 o81 d81 p81 k81 => ?_))
        have p81b : psM B n g81 A (smP B n (if lm = 5 then 8 else 6) 1 p).1 (smP B n (if lm = 5 then 8 else 6) 1 p).2.1 := p81
        have k81b : (smP B n (if lm = 5 then 8 else 6) 1 p).1 = 0 → okM f g81 A lm la u (smP B n (if lm = 5 then 8 else 6) 1 p).2.2 := k81
        have p81d := p81c _ p81b
        have t81 := p81d.2.1 rfl
        have h81 := t81.2.2.2.1
        have b81 := p81d.1
        have hte81 := teP_le (B := B) t81.1
        have htp81 := tpM_of htp (o81.2.1 5 (by decide) (by decide) (by decide)) (o81.2.2 7 (by decide))
        have k81c := k81b hr
        refine r_aloadR0 dX12_readUnit_84 ?_
        refine m_getV (x := (g81 A 10)) zf_RX12_92 rfl dX12_readUnit_85 (shM_k hs) (rfl) ?_
        refine r_istore1 dX12_readUnit_88 rfl ?_
        refine r_iload1 dX12_readUnit_89 ?_
        refine n_bipush dX12_readUnit_90 (by decide) (fun r90 e90_z => ?_)
        refine t_iceq (t := 112) dX12_readUnit_92 (by decide) (fun h92 => ?_) (fun h92 => False.elim (by omega))
        refine r_aloadR0 dX12_readUnit_112 ?_
        refine m_getV (x := (g81 A 12)) zf_RX12_112 rfl dX12_readUnit_113 (shM_k hs) (rfl) ?_
        refine t_ifne (t := 123) dX12_readUnit_116 (by decide) (fun h116 => False.elim (by omega)) (fun h116 => ?_)
        refine r_aloadR0 dX12_readUnit_119 ?_
        refine q_callV0 zm_RX12_131 dX12_readUnit_120 (shM_k hs) (by decide) rfl (Nat.le_of_ble_eq_true rfl) (Nat.le_of_ble_eq_true rfl) (Nat.le_of_ble_eq_true rfl) (Nat.le_of_ble_eq_true rfl) (Nat.le_of_ble_eq_true rfl) (s_X12_readsOn (p := teP B n (smP B n (if lm = 5 then 8 else 6) 1 p).2.1) G hs htp81 t81.2.1 hte81 (fun g120 o120 t120 => ?_))
        have htp120 := tpM_of htp81 (o120.2.1 5 (by decide) (by decide) (by decide)) (o120.2.2 7 (by decide))
        have hp120 : psM B n g120 A 0 (nxP B n (smP B n (if lm = 5 then 8 else 6) 1 p).2.1) := ⟨by rw [o120.2.2 12 (by decide)]; exact b81, fun _ => t120, fun h_z => absurd rfl h_z⟩
        have w120 : g120 (A + 2) = g81 (A + 2) := o120.2.1 2 (by decide) (by decide) (by decide)
        refine r_aloadR0 dX12_readUnit_123 ?_
        refine q_callV0 zm_RX12_181 dX12_readUnit_124 (shM_k hs) (by decide) rfl (Nat.le_of_ble_eq_true rfl) (Nat.le_of_ble_eq_true rfl) (Nat.le_of_ble_eq_true rfl) (Nat.le_of_ble_eq_true rfl) (Nat.le_of_ble_eq_true rfl) (s_X12_readSum_1 (lm := lm) (la := la) (u := u + (smP B n (if lm = 5 then 8 else 6) 1 p).2.2.length) G hs kw hld htp120 hp120 (by rw [o120.2.2 16 (by decide)]; exact d81) (by rw [o120.2.2 17 (by decide), o81.2.2 17 (by decide)]; exact hlm) (by rw [o120.2.2 18 (by decide), o81.2.2 18 (by decide)]; exact hla) (by rw [w120]; exact k81c.1) h5 h29 h99 (by omega) (fun g124 o124 d124 p124 k124 => ?_))
        have of124 : frM A [2] [8, 9, 10, 11, 12, 13, 16] f g124 := frM_tr o81 (frM_tr (frM_su o120 (by decide) (by decide)) o124)
        have p124b : psM B n g124 A (smP B n (if lm = 5 then 8 else 6) 1 (nxP B n (smP B n (if lm = 5 then 8 else 6) 1 p).2.1)).1 (smP B n (if lm = 5 then 8 else 6) 1 (nxP B n (smP B n (if lm = 5 then 8 else 6) 1 p).2.1)).2.1 := p124
        have k124b : (smP B n (if lm = 5 then 8 else 6) 1 (nxP B n (smP B n (if lm = 5 then 8 else 6) 1 p).2.1)).1 = 0 → okM g120 g124 A lm la (u + (smP B n (if lm = 5 then 8 else 6) 1 p).2.2.length) (smP B n (if lm = 5 then 8 else 6) 1 (nxP B n (smP B n (if lm = 5 then 8 else 6) 1 p).2.1)).2.2 := k124
        refine r_aloadR0 dX12_readUnit_127 ?_
        refine r_iload1 dX12_readUnit_128 ?_
        refine n_bipush dX12_readUnit_129 (by decide) (fun r129 e129 => ?_)
        refine t_icne (t := 139) dX12_readUnit_131 (by decide) (fun h131 => False.elim (by omega)) (fun h131 => ?_)
        refine n_bipush dX12_readUnit_134 (by decide) (fun r134 e134 => ?_)
        refine r_goto (t := 152) dX12_readUnit_136 (by decide) ?_
        refine q_callV1 zm_RX12_162 dX12_readUnit_152 (shM_k hs) (by decide) rfl (Nat.le_of_ble_eq_true rfl) (Nat.le_of_ble_eq_true rfl) (Nat.le_of_ble_eq_true rfl) (Nat.le_of_ble_eq_true rfl) (Nat.le_of_ble_eq_true rfl) (s_X12_laysStep (lm := lm) (la := la) (u := u + (smP B n (if lm = 5 then 8 else 6) 1 p).2.2.length + (smP B n (if lm = 5 then 8 else 6) 1 (nxP B n (smP B n (if lm = 5 then 8 else 6) 1 p).2.1)).2.2.length) G hs (by have := p124b.1; rw [hq] at this; exact this) (by rw [of124.2.2 17 (by decide)]; exact hlm) (by rw [of124.2.2 18 (by decide)]; exact hla) (k124b hq).1 h5 h29 (by omega) (fun g152 o152 a152 b152 c152 => ?_))
        have p124c := p124b
        rw [hq] at p124c
        refine r_vret dX12_readUnit_155 rfl (Nat.le_of_ble_eq_true rfl) (Nat.le_of_ble_eq_true rfl) ?_
        refine hQ _ (frM_tr of124 (frM_su o152 (by decide) (by decide))) (by rw [o152.2.2 16 (by decide)]; exact d124) (psM_of p124c (o152.2.2 8 (by decide)) (o152.2.2 9 (by decide)) (o152.2.2 10 (by decide)) (o152.2.2 11 (by decide)) (o152.2.2 12 (by decide)) (o152.2.2 13 (by decide))) (fun _ => okM_ap (by omega) (by rw [List.length_append]; omega) (okM_ap (by omega) (by omega) k81c (okM_cg (k124b hq) w120 rfl)) ?_)
        rw [List.length_append, ← Nat.add_assoc]
        exact okM_one (by omega) a152 b152 c152 (by rw [e134]; rfl)
      · have hv : cmP B n (smP B n (if lm = 5 then 8 else 6) 1) p = (smP B n (if lm = 5 then 8 else 6) 1 (nxP B n (smP B n (if lm = 5 then 8 else 6) 1 p).2.1)) := (if_neg (not_not_intro hr)).trans ((if_neg hop0).trans (if_pos hq))
        rw [hv] at hQ
        refine r_aloadR0 dX12_readUnit_0 ?_
        refine m_getV (x := (f A 12)) zf_RX12_112 rfl dX12_readUnit_1 (shM_k hs) (rfl) ?_
        refine t_ifeq (t := 8) dX12_readUnit_4 (by decide) (fun h4 => ?_) (fun h4 => False.elim (by omega))
        refine r_aloadR0 dX12_readUnit_8 ?_
        refine k_ldc (hld _ (List.mem_of_getElem? (i := 2) rfl)) dX12_readUnit_9 ?_
        refine q_callV1 zm_RX12_127 dX12_readUnit_11 (shM_k hs) (by decide) rfl (Nat.le_of_ble_eq_true rfl) (Nat.le_of_ble_eq_true rfl) (Nat.le_of_ble_eq_true rfl) (Nat.le_of_ble_eq_true rfl) (Nat.le_of_ble_eq_true rfl) (s_X12_isWord (i := 8) G hs kw (by decide) htp hps (fun r11 e11_z => ?_))
        have e11b : r11.toInt = 0 := e11_z.elim (fun h_z => absurd h_z.2 hw) (fun h_z => h_z.1)
        refine t_ifeq (t := 44) dX12_readUnit_14 (by decide) (fun h14 => ?_) (fun h14 => False.elim (by omega))
        refine r_aloadR0 dX12_readUnit_44 ?_
        refine n_bipush dX12_readUnit_45 (by decide) (fun r45 e45 => ?_)
        refine q_callV1 zm_RX12_175 dX12_readUnit_47 (shM_k hs) (by decide) rfl (Nat.le_of_ble_eq_true rfl) (Nat.le_of_ble_eq_true rfl) (Nat.le_of_ble_eq_true rfl) (Nat.le_of_ble_eq_true rfl) (Nat.le_of_ble_eq_true rfl) (s_X12_isSign G hs (fun r47 e47 => ?_))
        refine t_ifeq (t := 80) dX12_readUnit_50 (by decide) (fun h50 => ?_) (fun h50 => False.elim (by omega))
        refine r_aloadR0 dX12_readUnit_80 ?_
        refine q_callV0 zm_RX12_181 dX12_readUnit_81 (shM_k hs) (by decide) rfl (Nat.le_of_ble_eq_true rfl) (Nat.le_of_ble_eq_true rfl) (Nat.le_of_ble_eq_true rfl) (Nat.le_of_ble_eq_true rfl) (Nat.le_of_ble_eq_true rfl) (s_X12_readSum_1 (lm := lm) (la := la) (u := u) G hs kw hld htp hps hd16 hlm hla hu h5 h29 h99 hup (fun g81 o81 d81 p81 k81 => ?_))
        have p81b : psM B n g81 A (smP B n (if lm = 5 then 8 else 6) 1 p).1 (smP B n (if lm = 5 then 8 else 6) 1 p).2.1 := p81
        have k81b : (smP B n (if lm = 5 then 8 else 6) 1 p).1 = 0 → okM f g81 A lm la u (smP B n (if lm = 5 then 8 else 6) 1 p).2.2 := k81
        have p81d := p81c _ p81b
        have t81 := p81d.2.1 rfl
        have h81 := t81.2.2.2.1
        have b81 := p81d.1
        have hte81 := teP_le (B := B) t81.1
        have htp81 := tpM_of htp (o81.2.1 5 (by decide) (by decide) (by decide)) (o81.2.2 7 (by decide))
        have k81c := k81b hr
        refine r_aloadR0 dX12_readUnit_84 ?_
        refine m_getV (x := (g81 A 10)) zf_RX12_92 rfl dX12_readUnit_85 (shM_k hs) (rfl) ?_
        refine r_istore1 dX12_readUnit_88 rfl ?_
        refine r_iload1 dX12_readUnit_89 ?_
        refine n_bipush dX12_readUnit_90 (by decide) (fun r90 e90_z => ?_)
        refine t_iceq (t := 112) dX12_readUnit_92 (by decide) (fun h92 => ?_) (fun h92 => False.elim (by omega))
        refine r_aloadR0 dX12_readUnit_112 ?_
        refine m_getV (x := (g81 A 12)) zf_RX12_112 rfl dX12_readUnit_113 (shM_k hs) (rfl) ?_
        refine t_ifne (t := 123) dX12_readUnit_116 (by decide) (fun h116 => False.elim (by omega)) (fun h116 => ?_)
        refine r_aloadR0 dX12_readUnit_119 ?_
        refine q_callV0 zm_RX12_131 dX12_readUnit_120 (shM_k hs) (by decide) rfl (Nat.le_of_ble_eq_true rfl) (Nat.le_of_ble_eq_true rfl) (Nat.le_of_ble_eq_true rfl) (Nat.le_of_ble_eq_true rfl) (Nat.le_of_ble_eq_true rfl) (s_X12_readsOn (p := teP B n (smP B n (if lm = 5 then 8 else 6) 1 p).2.1) G hs htp81 t81.2.1 hte81 (fun g120 o120 t120 => ?_))
        have htp120 := tpM_of htp81 (o120.2.1 5 (by decide) (by decide) (by decide)) (o120.2.2 7 (by decide))
        have hp120 : psM B n g120 A 0 (nxP B n (smP B n (if lm = 5 then 8 else 6) 1 p).2.1) := ⟨by rw [o120.2.2 12 (by decide)]; exact b81, fun _ => t120, fun h_z => absurd rfl h_z⟩
        have w120 : g120 (A + 2) = g81 (A + 2) := o120.2.1 2 (by decide) (by decide) (by decide)
        refine r_aloadR0 dX12_readUnit_123 ?_
        refine q_callV0 zm_RX12_181 dX12_readUnit_124 (shM_k hs) (by decide) rfl (Nat.le_of_ble_eq_true rfl) (Nat.le_of_ble_eq_true rfl) (Nat.le_of_ble_eq_true rfl) (Nat.le_of_ble_eq_true rfl) (Nat.le_of_ble_eq_true rfl) (s_X12_readSum_1 (lm := lm) (la := la) (u := u + (smP B n (if lm = 5 then 8 else 6) 1 p).2.2.length) G hs kw hld htp120 hp120 (by rw [o120.2.2 16 (by decide)]; exact d81) (by rw [o120.2.2 17 (by decide), o81.2.2 17 (by decide)]; exact hlm) (by rw [o120.2.2 18 (by decide), o81.2.2 18 (by decide)]; exact hla) (by rw [w120]; exact k81c.1) h5 h29 h99 (by omega) (fun g124 o124 d124 p124 k124 => ?_))
        have of124 : frM A [2] [8, 9, 10, 11, 12, 13, 16] f g124 := frM_tr o81 (frM_tr (frM_su o120 (by decide) (by decide)) o124)
        have p124b : psM B n g124 A (smP B n (if lm = 5 then 8 else 6) 1 (nxP B n (smP B n (if lm = 5 then 8 else 6) 1 p).2.1)).1 (smP B n (if lm = 5 then 8 else 6) 1 (nxP B n (smP B n (if lm = 5 then 8 else 6) 1 p).2.1)).2.1 := p124
        have k124b : (smP B n (if lm = 5 then 8 else 6) 1 (nxP B n (smP B n (if lm = 5 then 8 else 6) 1 p).2.1)).1 = 0 → okM g120 g124 A lm la (u + (smP B n (if lm = 5 then 8 else 6) 1 p).2.2.length) (smP B n (if lm = 5 then 8 else 6) 1 (nxP B n (smP B n (if lm = 5 then 8 else 6) 1 p).2.1)).2.2 := k124
        refine r_aloadR0 dX12_readUnit_127 ?_
        refine r_iload1 dX12_readUnit_128 ?_
        refine n_bipush dX12_readUnit_129 (by decide) (fun r129 e129 => ?_)
        refine t_icne (t := 139) dX12_readUnit_131 (by decide) (fun h131 => False.elim (by omega)) (fun h131 => ?_)
        refine n_bipush dX12_readUnit_134 (by decide) (fun r134 e134 => ?_)
        refine r_goto (t := 152) dX12_readUnit_136 (by decide) ?_
        refine q_callV1 zm_RX12_162 dX12_readUnit_152 (shM_k hs) (by decide) rfl (Nat.le_of_ble_eq_true rfl) (Nat.le_of_ble_eq_true rfl) (Nat.le_of_ble_eq_true rfl) (Nat.le_of_ble_eq_true rfl) (Nat.le_of_ble_eq_true rfl) (s_X12_laysStep_x G hs (by rw [p124b.1]; omega) ?_)
        refine r_vret dX12_readUnit_155 rfl (Nat.le_of_ble_eq_true rfl) (Nat.le_of_ble_eq_true rfl) ?_
        exact hQ _ of124 d124 p124b (fun h_z => absurd h_z hq)
    have hn61 := hc_z
    have hm61 : rkP B n (smP B n (if lm = 5 then 8 else 6) 1 p).2.1 ≠ 61 := fun h_z => hc_z (q61.mp h_z)
    clear hc_z
    by_cases hc_z : tkP B n (smP B n (if lm = 5 then 8 else 6) 1 p).2.1 = 60
    · have h10c := q60.mpr hc_z
      have hop : opC B n (smP B n (if lm = 5 then 8 else 6) 1 p).2.1 = 2007 := (if_neg (by omega)).trans (if_pos hc_z)
      have hop0 : opC B n (smP B n (if lm = 5 then 8 else 6) 1 p).2.1 ≠ 0 := by rw [hop]; decide
      have hln := tk_lt (B := B) (n := n) (s := (smP B n (if lm = 5 then 8 else 6) 1 p).2.1) (by rw [hc_z]; decide)
      have hnx := nxP_gt (B := B) hln
      by_cases hq : (smP B n (if lm = 5 then 8 else 6) 1 (nxP B n (smP B n (if lm = 5 then 8 else 6) 1 p).2.1)).1 = 0
      · obtain ⟨z1, z2, z3, z4⟩ := (hsm _ hnx.2).1 hq
        have hv : cmP B n (smP B n (if lm = 5 then 8 else 6) 1) p = (0, (smP B n (if lm = 5 then 8 else 6) 1 (nxP B n (smP B n (if lm = 5 then 8 else 6) 1 p).2.1)).2.1, (smP B n (if lm = 5 then 8 else 6) 1 p).2.2 ++ (smP B n (if lm = 5 then 8 else 6) 1 (nxP B n (smP B n (if lm = 5 then 8 else 6) 1 p).2.1)).2.2 ++ [opC B n (smP B n (if lm = 5 then 8 else 6) 1 p).2.1]) := (if_neg (not_not_intro hr)).trans ((if_neg hop0).trans (if_neg (not_not_intro hq)))
        rw [hv, hop] at hQ
        refine r_aloadR0 dX12_readUnit_0 ?_
        refine m_getV (x := (f A 12)) zf_RX12_112 rfl dX12_readUnit_1 (shM_k hs) (rfl) ?_
        refine t_ifeq (t := 8) dX12_readUnit_4 (by decide) (fun h4 => ?_) (fun h4 => False.elim (by omega))
        refine r_aloadR0 dX12_readUnit_8 ?_
        refine k_ldc (hld _ (List.mem_of_getElem? (i := 2) rfl)) dX12_readUnit_9 ?_
        refine q_callV1 zm_RX12_127 dX12_readUnit_11 (shM_k hs) (by decide) rfl (Nat.le_of_ble_eq_true rfl) (Nat.le_of_ble_eq_true rfl) (Nat.le_of_ble_eq_true rfl) (Nat.le_of_ble_eq_true rfl) (Nat.le_of_ble_eq_true rfl) (s_X12_isWord (i := 8) G hs kw (by decide) htp hps (fun r11 e11_z => ?_))
        have e11b : r11.toInt = 0 := e11_z.elim (fun h_z => absurd h_z.2 hw) (fun h_z => h_z.1)
        refine t_ifeq (t := 44) dX12_readUnit_14 (by decide) (fun h14 => ?_) (fun h14 => False.elim (by omega))
        refine r_aloadR0 dX12_readUnit_44 ?_
        refine n_bipush dX12_readUnit_45 (by decide) (fun r45 e45 => ?_)
        refine q_callV1 zm_RX12_175 dX12_readUnit_47 (shM_k hs) (by decide) rfl (Nat.le_of_ble_eq_true rfl) (Nat.le_of_ble_eq_true rfl) (Nat.le_of_ble_eq_true rfl) (Nat.le_of_ble_eq_true rfl) (Nat.le_of_ble_eq_true rfl) (s_X12_isSign G hs (fun r47 e47 => ?_))
        refine t_ifeq (t := 80) dX12_readUnit_50 (by decide) (fun h50 => ?_) (fun h50 => False.elim (by omega))
        refine r_aloadR0 dX12_readUnit_80 ?_
        refine q_callV0 zm_RX12_181 dX12_readUnit_81 (shM_k hs) (by decide) rfl (Nat.le_of_ble_eq_true rfl) (Nat.le_of_ble_eq_true rfl) (Nat.le_of_ble_eq_true rfl) (Nat.le_of_ble_eq_true rfl) (Nat.le_of_ble_eq_true rfl) (s_X12_readSum_1 (lm := lm) (la := la) (u := u) G hs kw hld htp hps hd16 hlm hla hu h5 h29 h99 hup (fun g81 o81 d81 p81 k81 => ?_))
        have p81b : psM B n g81 A (smP B n (if lm = 5 then 8 else 6) 1 p).1 (smP B n (if lm = 5 then 8 else 6) 1 p).2.1 := p81
        have k81b : (smP B n (if lm = 5 then 8 else 6) 1 p).1 = 0 → okM f g81 A lm la u (smP B n (if lm = 5 then 8 else 6) 1 p).2.2 := k81
        have p81d := p81c _ p81b
        have t81 := p81d.2.1 rfl
        have h81 := t81.2.2.2.1
        have b81 := p81d.1
        have hte81 := teP_le (B := B) t81.1
        have htp81 := tpM_of htp (o81.2.1 5 (by decide) (by decide) (by decide)) (o81.2.2 7 (by decide))
        have k81c := k81b hr
        refine r_aloadR0 dX12_readUnit_84 ?_
        refine m_getV (x := (g81 A 10)) zf_RX12_92 rfl dX12_readUnit_85 (shM_k hs) (rfl) ?_
        refine r_istore1 dX12_readUnit_88 rfl ?_
        refine r_iload1 dX12_readUnit_89 ?_
        refine n_bipush dX12_readUnit_90 (by decide) (fun r90 e90_z => ?_)
        refine t_iceq (t := 112) dX12_readUnit_92 (by decide) (fun h92 => False.elim (by omega)) (fun h92 => ?_)
        refine r_iload1 dX12_readUnit_95 ?_
        refine n_bipush dX12_readUnit_96 (by decide) (fun r96 e96 => ?_)
        refine t_iceq (t := 112) dX12_readUnit_98 (by decide) (fun h98 => ?_) (fun h98 => False.elim (by omega))
        refine r_aloadR0 dX12_readUnit_112 ?_
        refine m_getV (x := (g81 A 12)) zf_RX12_112 rfl dX12_readUnit_113 (shM_k hs) (rfl) ?_
        refine t_ifne (t := 123) dX12_readUnit_116 (by decide) (fun h116 => False.elim (by omega)) (fun h116 => ?_)
        refine r_aloadR0 dX12_readUnit_119 ?_
        refine q_callV0 zm_RX12_131 dX12_readUnit_120 (shM_k hs) (by decide) rfl (Nat.le_of_ble_eq_true rfl) (Nat.le_of_ble_eq_true rfl) (Nat.le_of_ble_eq_true rfl) (Nat.le_of_ble_eq_true rfl) (Nat.le_of_ble_eq_true rfl) (s_X12_readsOn (p := teP B n (smP B n (if lm = 5 then 8 else 6) 1 p).2.1) G hs htp81 t81.2.1 hte81 (fun g120 o120 t120 => ?_))
        have htp120 := tpM_of htp81 (o120.2.1 5 (by decide) (by decide) (by decide)) (o120.2.2 7 (by decide))
        have hp120 : psM B n g120 A 0 (nxP B n (smP B n (if lm = 5 then 8 else 6) 1 p).2.1) := ⟨by rw [o120.2.2 12 (by decide)]; exact b81, fun _ => t120, fun h_z => absurd rfl h_z⟩
        have w120 : g120 (A + 2) = g81 (A + 2) := o120.2.1 2 (by decide) (by decide) (by decide)
        refine r_aloadR0 dX12_readUnit_123 ?_
        refine q_callV0 zm_RX12_181 dX12_readUnit_124 (shM_k hs) (by decide) rfl (Nat.le_of_ble_eq_true rfl) (Nat.le_of_ble_eq_true rfl) (Nat.le_of_ble_eq_true rfl) (Nat.le_of_ble_eq_true rfl) (Nat.le_of_ble_eq_true rfl) (s_X12_readSum_1 (lm := lm) (la := la) (u := u + (smP B n (if lm = 5 then 8 else 6) 1 p).2.2.length) G hs kw hld htp120 hp120 (by rw [o120.2.2 16 (by decide)]; exact d81) (by rw [o120.2.2 17 (by decide), o81.2.2 17 (by decide)]; exact hlm) (by rw [o120.2.2 18 (by decide), o81.2.2 18 (by decide)]; exact hla) (by rw [w120]; exact k81c.1) h5 h29 h99 (by omega) (fun g124 o124 d124 p124 k124 => ?_))
        have of124 : frM A [2] [8, 9, 10, 11, 12, 13, 16] f g124 := frM_tr o81 (frM_tr (frM_su o120 (by decide) (by decide)) o124)
        have p124b : psM B n g124 A (smP B n (if lm = 5 then 8 else 6) 1 (nxP B n (smP B n (if lm = 5 then 8 else 6) 1 p).2.1)).1 (smP B n (if lm = 5 then 8 else 6) 1 (nxP B n (smP B n (if lm = 5 then 8 else 6) 1 p).2.1)).2.1 := p124
        have k124b : (smP B n (if lm = 5 then 8 else 6) 1 (nxP B n (smP B n (if lm = 5 then 8 else 6) 1 p).2.1)).1 = 0 → okM g120 g124 A lm la (u + (smP B n (if lm = 5 then 8 else 6) 1 p).2.2.length) (smP B n (if lm = 5 then 8 else 6) 1 (nxP B n (smP B n (if lm = 5 then 8 else 6) 1 p).2.1)).2.2 := k124
        refine r_aloadR0 dX12_readUnit_127 ?_
        refine r_iload1 dX12_readUnit_128 ?_
        refine n_bipush dX12_readUnit_129 (by decide) (fun r129 e129 => ?_)
        refine t_icne (t := 139) dX12_readUnit_131 (by decide) (fun h131 => ?_) (fun h131 => False.elim (by omega))
        refine r_iload1 dX12_readUnit_139 ?_
        refine n_bipush dX12_readUnit_140 (by decide) (fun r140 e140 => ?_)
        refine t_icne (t := 150) dX12_readUnit_142 (by decide) (fun h142 => False.elim (by omega)) (fun h142 => ?_)
        refine n_bipush dX12_readUnit_145 (by decide) (fun r145 e145 => ?_)
        refine r_goto (t := 152) dX12_readUnit_147 (by decide) ?_
        refine q_callV1 zm_RX12_162 dX12_readUnit_152 (shM_k hs) (by decide) rfl (Nat.le_of_ble_eq_true rfl) (Nat.le_of_ble_eq_true rfl) (Nat.le_of_ble_eq_true rfl) (Nat.le_of_ble_eq_true rfl) (Nat.le_of_ble_eq_true rfl) (s_X12_laysStep (lm := lm) (la := la) (u := u + (smP B n (if lm = 5 then 8 else 6) 1 p).2.2.length + (smP B n (if lm = 5 then 8 else 6) 1 (nxP B n (smP B n (if lm = 5 then 8 else 6) 1 p).2.1)).2.2.length) G hs (by have := p124b.1; rw [hq] at this; exact this) (by rw [of124.2.2 17 (by decide)]; exact hlm) (by rw [of124.2.2 18 (by decide)]; exact hla) (k124b hq).1 h5 h29 (by omega) (fun g152 o152 a152 b152 c152 => ?_))
        have p124c := p124b
        rw [hq] at p124c
        refine r_vret dX12_readUnit_155 rfl (Nat.le_of_ble_eq_true rfl) (Nat.le_of_ble_eq_true rfl) ?_
        refine hQ _ (frM_tr of124 (frM_su o152 (by decide) (by decide))) (by rw [o152.2.2 16 (by decide)]; exact d124) (psM_of p124c (o152.2.2 8 (by decide)) (o152.2.2 9 (by decide)) (o152.2.2 10 (by decide)) (o152.2.2 11 (by decide)) (o152.2.2 12 (by decide)) (o152.2.2 13 (by decide))) (fun _ => okM_ap (by omega) (by rw [List.length_append]; omega) (okM_ap (by omega) (by omega) k81c (okM_cg (k124b hq) w120 rfl)) ?_)
        rw [List.length_append, ← Nat.add_assoc]
        exact okM_one (by omega) a152 b152 c152 (by rw [e145]; rfl)
      · have hv : cmP B n (smP B n (if lm = 5 then 8 else 6) 1) p = (smP B n (if lm = 5 then 8 else 6) 1 (nxP B n (smP B n (if lm = 5 then 8 else 6) 1 p).2.1)) := (if_neg (not_not_intro hr)).trans ((if_neg hop0).trans (if_pos hq))
        rw [hv] at hQ
        refine r_aloadR0 dX12_readUnit_0 ?_
        refine m_getV (x := (f A 12)) zf_RX12_112 rfl dX12_readUnit_1 (shM_k hs) (rfl) ?_
        refine t_ifeq (t := 8) dX12_readUnit_4 (by decide) (fun h4 => ?_) (fun h4 => False.elim (by omega))
        refine r_aloadR0 dX12_readUnit_8 ?_
        refine k_ldc (hld _ (List.mem_of_getElem? (i := 2) rfl)) dX12_readUnit_9 ?_
        refine q_callV1 zm_RX12_127 dX12_readUnit_11 (shM_k hs) (by decide) rfl (Nat.le_of_ble_eq_true rfl) (Nat.le_of_ble_eq_true rfl) (Nat.le_of_ble_eq_true rfl) (Nat.le_of_ble_eq_true rfl) (Nat.le_of_ble_eq_true rfl) (s_X12_isWord (i := 8) G hs kw (by decide) htp hps (fun r11 e11_z => ?_))
        have e11b : r11.toInt = 0 := e11_z.elim (fun h_z => absurd h_z.2 hw) (fun h_z => h_z.1)
        refine t_ifeq (t := 44) dX12_readUnit_14 (by decide) (fun h14 => ?_) (fun h14 => False.elim (by omega))
        refine r_aloadR0 dX12_readUnit_44 ?_
        refine n_bipush dX12_readUnit_45 (by decide) (fun r45 e45 => ?_)
        refine q_callV1 zm_RX12_175 dX12_readUnit_47 (shM_k hs) (by decide) rfl (Nat.le_of_ble_eq_true rfl) (Nat.le_of_ble_eq_true rfl) (Nat.le_of_ble_eq_true rfl) (Nat.le_of_ble_eq_true rfl) (Nat.le_of_ble_eq_true rfl) (s_X12_isSign G hs (fun r47 e47 => ?_))
        refine t_ifeq (t := 80) dX12_readUnit_50 (by decide) (fun h50 => ?_) (fun h50 => False.elim (by omega))
        refine r_aloadR0 dX12_readUnit_80 ?_
        refine q_callV0 zm_RX12_181 dX12_readUnit_81 (shM_k hs) (by decide) rfl (Nat.le_of_ble_eq_true rfl) (Nat.le_of_ble_eq_true rfl) (Nat.le_of_ble_eq_true rfl) (Nat.le_of_ble_eq_true rfl) (Nat.le_of_ble_eq_true rfl) (s_X12_readSum_1 (lm := lm) (la := la) (u := u) G hs kw hld htp hps hd16 hlm hla hu h5 h29 h99 hup (fun g81 o81 d81 p81 k81 => ?_))
        have p81b : psM B n g81 A (smP B n (if lm = 5 then 8 else 6) 1 p).1 (smP B n (if lm = 5 then 8 else 6) 1 p).2.1 := p81
        have k81b : (smP B n (if lm = 5 then 8 else 6) 1 p).1 = 0 → okM f g81 A lm la u (smP B n (if lm = 5 then 8 else 6) 1 p).2.2 := k81
        have p81d := p81c _ p81b
        have t81 := p81d.2.1 rfl
        have h81 := t81.2.2.2.1
        have b81 := p81d.1
        have hte81 := teP_le (B := B) t81.1
        have htp81 := tpM_of htp (o81.2.1 5 (by decide) (by decide) (by decide)) (o81.2.2 7 (by decide))
        have k81c := k81b hr
        refine r_aloadR0 dX12_readUnit_84 ?_
        refine m_getV (x := (g81 A 10)) zf_RX12_92 rfl dX12_readUnit_85 (shM_k hs) (rfl) ?_
        refine r_istore1 dX12_readUnit_88 rfl ?_
        refine r_iload1 dX12_readUnit_89 ?_
        refine n_bipush dX12_readUnit_90 (by decide) (fun r90 e90_z => ?_)
        refine t_iceq (t := 112) dX12_readUnit_92 (by decide) (fun h92 => False.elim (by omega)) (fun h92 => ?_)
        refine r_iload1 dX12_readUnit_95 ?_
        refine n_bipush dX12_readUnit_96 (by decide) (fun r96 e96 => ?_)
        refine t_iceq (t := 112) dX12_readUnit_98 (by decide) (fun h98 => ?_) (fun h98 => False.elim (by omega))
        refine r_aloadR0 dX12_readUnit_112 ?_
        refine m_getV (x := (g81 A 12)) zf_RX12_112 rfl dX12_readUnit_113 (shM_k hs) (rfl) ?_
        refine t_ifne (t := 123) dX12_readUnit_116 (by decide) (fun h116 => False.elim (by omega)) (fun h116 => ?_)
        refine r_aloadR0 dX12_readUnit_119 ?_
        refine q_callV0 zm_RX12_131 dX12_readUnit_120 (shM_k hs) (by decide) rfl (Nat.le_of_ble_eq_true rfl) (Nat.le_of_ble_eq_true rfl) (Nat.le_of_ble_eq_true rfl) (Nat.le_of_ble_eq_true rfl) (Nat.le_of_ble_eq_true rfl) (s_X12_readsOn (p := teP B n (smP B n (if lm = 5 then 8 else 6) 1 p).2.1) G hs htp81 t81.2.1 hte81 (fun g120 o120 t120 => ?_))
        have htp120 := tpM_of htp81 (o120.2.1 5 (by decide) (by decide) (by decide)) (o120.2.2 7 (by decide))
        have hp120 : psM B n g120 A 0 (nxP B n (smP B n (if lm = 5 then 8 else 6) 1 p).2.1) := ⟨by rw [o120.2.2 12 (by decide)]; exact b81, fun _ => t120, fun h_z => absurd rfl h_z⟩
        have w120 : g120 (A + 2) = g81 (A + 2) := o120.2.1 2 (by decide) (by decide) (by decide)
        refine r_aloadR0 dX12_readUnit_123 ?_
        refine q_callV0 zm_RX12_181 dX12_readUnit_124 (shM_k hs) (by decide) rfl (Nat.le_of_ble_eq_true rfl) (Nat.le_of_ble_eq_true rfl) (Nat.le_of_ble_eq_true rfl) (Nat.le_of_ble_eq_true rfl) (Nat.le_of_ble_eq_true rfl) (s_X12_readSum_1 (lm := lm) (la := la) (u := u + (smP B n (if lm = 5 then 8 else 6) 1 p).2.2.length) G hs kw hld htp120 hp120 (by rw [o120.2.2 16 (by decide)]; exact d81) (by rw [o120.2.2 17 (by decide), o81.2.2 17 (by decide)]; exact hlm) (by rw [o120.2.2 18 (by decide), o81.2.2 18 (by decide)]; exact hla) (by rw [w120]; exact k81c.1) h5 h29 h99 (by omega) (fun g124 o124 d124 p124 k124 => ?_))
        have of124 : frM A [2] [8, 9, 10, 11, 12, 13, 16] f g124 := frM_tr o81 (frM_tr (frM_su o120 (by decide) (by decide)) o124)
        have p124b : psM B n g124 A (smP B n (if lm = 5 then 8 else 6) 1 (nxP B n (smP B n (if lm = 5 then 8 else 6) 1 p).2.1)).1 (smP B n (if lm = 5 then 8 else 6) 1 (nxP B n (smP B n (if lm = 5 then 8 else 6) 1 p).2.1)).2.1 := p124
        have k124b : (smP B n (if lm = 5 then 8 else 6) 1 (nxP B n (smP B n (if lm = 5 then 8 else 6) 1 p).2.1)).1 = 0 → okM g120 g124 A lm la (u + (smP B n (if lm = 5 then 8 else 6) 1 p).2.2.length) (smP B n (if lm = 5 then 8 else 6) 1 (nxP B n (smP B n (if lm = 5 then 8 else 6) 1 p).2.1)).2.2 := k124
        refine r_aloadR0 dX12_readUnit_127 ?_
        refine r_iload1 dX12_readUnit_128 ?_
        refine n_bipush dX12_readUnit_129 (by decide) (fun r129 e129 => ?_)
        refine t_icne (t := 139) dX12_readUnit_131 (by decide) (fun h131 => ?_) (fun h131 => False.elim (by omega))
        refine r_iload1 dX12_readUnit_139 ?_
        refine n_bipush dX12_readUnit_140 (by decide) (fun r140 e140 => ?_)
        refine t_icne (t := 150) dX12_readUnit_142 (by decide) (fun h142 => False.elim (by omega)) (fun h142 => ?_)
        refine n_bipush dX12_readUnit_145 (by decide) (fun r145 e145 => ?_)
        refine r_goto (t := 152) dX12_readUnit_147 (by decide) ?_
        refine q_callV1 zm_RX12_162 dX12_readUnit_152 (shM_k hs) (by decide) rfl (Nat.le_of_ble_eq_true rfl) (Nat.le_of_ble_eq_true rfl) (Nat.le_of_ble_eq_true rfl) (Nat.le_of_ble_eq_true rfl) (Nat.le_of_ble_eq_true rfl) (s_X12_laysStep_x G hs (by rw [p124b.1]; omega) ?_)
        refine r_vret dX12_readUnit_155 rfl (Nat.le_of_ble_eq_true rfl) (Nat.le_of_ble_eq_true rfl) ?_
        exact hQ _ of124 d124 p124b (fun h_z => absurd h_z hq)
    have hn60 := hc_z
    have hm60 : rkP B n (smP B n (if lm = 5 then 8 else 6) 1 p).2.1 ≠ 60 := fun h_z => hc_z (q60.mp h_z)
    clear hc_z
    by_cases hc_z : tkP B n (smP B n (if lm = 5 then 8 else 6) 1 p).2.1 = 62
    · have h10c := q62.mpr hc_z
      have hop : opC B n (smP B n (if lm = 5 then 8 else 6) 1 p).2.1 = 2008 := (if_neg (by omega)).trans ((if_neg (by omega)).trans (if_pos hc_z))
      have hop0 : opC B n (smP B n (if lm = 5 then 8 else 6) 1 p).2.1 ≠ 0 := by rw [hop]; decide
      have hln := tk_lt (B := B) (n := n) (s := (smP B n (if lm = 5 then 8 else 6) 1 p).2.1) (by rw [hc_z]; decide)
      have hnx := nxP_gt (B := B) hln
      by_cases hq : (smP B n (if lm = 5 then 8 else 6) 1 (nxP B n (smP B n (if lm = 5 then 8 else 6) 1 p).2.1)).1 = 0
      · obtain ⟨z1, z2, z3, z4⟩ := (hsm _ hnx.2).1 hq
        have hv : cmP B n (smP B n (if lm = 5 then 8 else 6) 1) p = (0, (smP B n (if lm = 5 then 8 else 6) 1 (nxP B n (smP B n (if lm = 5 then 8 else 6) 1 p).2.1)).2.1, (smP B n (if lm = 5 then 8 else 6) 1 p).2.2 ++ (smP B n (if lm = 5 then 8 else 6) 1 (nxP B n (smP B n (if lm = 5 then 8 else 6) 1 p).2.1)).2.2 ++ [opC B n (smP B n (if lm = 5 then 8 else 6) 1 p).2.1]) := (if_neg (not_not_intro hr)).trans ((if_neg hop0).trans (if_neg (not_not_intro hq)))
        rw [hv, hop] at hQ
        refine r_aloadR0 dX12_readUnit_0 ?_
        refine m_getV (x := (f A 12)) zf_RX12_112 rfl dX12_readUnit_1 (shM_k hs) (rfl) ?_
        refine t_ifeq (t := 8) dX12_readUnit_4 (by decide) (fun h4 => ?_) (fun h4 => False.elim (by omega))
        refine r_aloadR0 dX12_readUnit_8 ?_
        refine k_ldc (hld _ (List.mem_of_getElem? (i := 2) rfl)) dX12_readUnit_9 ?_
        refine q_callV1 zm_RX12_127 dX12_readUnit_11 (shM_k hs) (by decide) rfl (Nat.le_of_ble_eq_true rfl) (Nat.le_of_ble_eq_true rfl) (Nat.le_of_ble_eq_true rfl) (Nat.le_of_ble_eq_true rfl) (Nat.le_of_ble_eq_true rfl) (s_X12_isWord (i := 8) G hs kw (by decide) htp hps (fun r11 e11_z => ?_))
        have e11b : r11.toInt = 0 := e11_z.elim (fun h_z => absurd h_z.2 hw) (fun h_z => h_z.1)
        refine t_ifeq (t := 44) dX12_readUnit_14 (by decide) (fun h14 => ?_) (fun h14 => False.elim (by omega))
        refine r_aloadR0 dX12_readUnit_44 ?_
        refine n_bipush dX12_readUnit_45 (by decide) (fun r45 e45 => ?_)
        refine q_callV1 zm_RX12_175 dX12_readUnit_47 (shM_k hs) (by decide) rfl (Nat.le_of_ble_eq_true rfl) (Nat.le_of_ble_eq_true rfl) (Nat.le_of_ble_eq_true rfl) (Nat.le_of_ble_eq_true rfl) (Nat.le_of_ble_eq_true rfl) (s_X12_isSign G hs (fun r47 e47 => ?_))
        refine t_ifeq (t := 80) dX12_readUnit_50 (by decide) (fun h50 => ?_) (fun h50 => False.elim (by omega))
        refine r_aloadR0 dX12_readUnit_80 ?_
        refine q_callV0 zm_RX12_181 dX12_readUnit_81 (shM_k hs) (by decide) rfl (Nat.le_of_ble_eq_true rfl) (Nat.le_of_ble_eq_true rfl) (Nat.le_of_ble_eq_true rfl) (Nat.le_of_ble_eq_true rfl) (Nat.le_of_ble_eq_true rfl) (s_X12_readSum_1 (lm := lm) (la := la) (u := u) G hs kw hld htp hps hd16 hlm hla hu h5 h29 h99 hup (fun g81 o81 d81 p81 k81 => ?_))
        have p81b : psM B n g81 A (smP B n (if lm = 5 then 8 else 6) 1 p).1 (smP B n (if lm = 5 then 8 else 6) 1 p).2.1 := p81
        have k81b : (smP B n (if lm = 5 then 8 else 6) 1 p).1 = 0 → okM f g81 A lm la u (smP B n (if lm = 5 then 8 else 6) 1 p).2.2 := k81
        have p81d := p81c _ p81b
        have t81 := p81d.2.1 rfl
        have h81 := t81.2.2.2.1
        have b81 := p81d.1
        have hte81 := teP_le (B := B) t81.1
        have htp81 := tpM_of htp (o81.2.1 5 (by decide) (by decide) (by decide)) (o81.2.2 7 (by decide))
        have k81c := k81b hr
        refine r_aloadR0 dX12_readUnit_84 ?_
        refine m_getV (x := (g81 A 10)) zf_RX12_92 rfl dX12_readUnit_85 (shM_k hs) (rfl) ?_
        refine r_istore1 dX12_readUnit_88 rfl ?_
        refine r_iload1 dX12_readUnit_89 ?_
        refine n_bipush dX12_readUnit_90 (by decide) (fun r90 e90_z => ?_)
        refine t_iceq (t := 112) dX12_readUnit_92 (by decide) (fun h92 => False.elim (by omega)) (fun h92 => ?_)
        refine r_iload1 dX12_readUnit_95 ?_
        refine n_bipush dX12_readUnit_96 (by decide) (fun r96 e96 => ?_)
        refine t_iceq (t := 112) dX12_readUnit_98 (by decide) (fun h98 => False.elim (by omega)) (fun h98 => ?_)
        refine r_iload1 dX12_readUnit_101 ?_
        refine n_bipush dX12_readUnit_102 (by decide) (fun r102 e102_z => ?_)
        refine t_iceq (t := 112) dX12_readUnit_104 (by decide) (fun h104 => ?_) (fun h104 => False.elim (by omega))
        refine r_aloadR0 dX12_readUnit_112 ?_
        refine m_getV (x := (g81 A 12)) zf_RX12_112 rfl dX12_readUnit_113 (shM_k hs) (rfl) ?_
        refine t_ifne (t := 123) dX12_readUnit_116 (by decide) (fun h116 => False.elim (by omega)) (fun h116 => ?_)
        refine r_aloadR0 dX12_readUnit_119 ?_
        refine q_callV0 zm_RX12_131 dX12_readUnit_120 (shM_k hs) (by decide) rfl (Nat.le_of_ble_eq_true rfl) (Nat.le_of_ble_eq_true rfl) (Nat.le_of_ble_eq_true rfl) (Nat.le_of_ble_eq_true rfl) (Nat.le_of_ble_eq_true rfl) (s_X12_readsOn (p := teP B n (smP B n (if lm = 5 then 8 else 6) 1 p).2.1) G hs htp81 t81.2.1 hte81 (fun g120 o120 t120 => ?_))
        have htp120 := tpM_of htp81 (o120.2.1 5 (by decide) (by decide) (by decide)) (o120.2.2 7 (by decide))
        have hp120 : psM B n g120 A 0 (nxP B n (smP B n (if lm = 5 then 8 else 6) 1 p).2.1) := ⟨by rw [o120.2.2 12 (by decide)]; exact b81, fun _ => t120, fun h_z => absurd rfl h_z⟩
        have w120 : g120 (A + 2) = g81 (A + 2) := o120.2.1 2 (by decide) (by decide) (by decide)
        refine r_aloadR0 dX12_readUnit_123 ?_
        refine q_callV0 zm_RX12_181 dX12_readUnit_124 (shM_k hs) (by decide) rfl (Nat.le_of_ble_eq_true rfl) (Nat.le_of_ble_eq_true rfl) (Nat.le_of_ble_eq_true rfl) (Nat.le_of_ble_eq_true rfl) (Nat.le_of_ble_eq_true rfl) (s_X12_readSum_1 (lm := lm) (la := la) (u := u + (smP B n (if lm = 5 then 8 else 6) 1 p).2.2.length) G hs kw hld htp120 hp120 (by rw [o120.2.2 16 (by decide)]; exact d81) (by rw [o120.2.2 17 (by decide), o81.2.2 17 (by decide)]; exact hlm) (by rw [o120.2.2 18 (by decide), o81.2.2 18 (by decide)]; exact hla) (by rw [w120]; exact k81c.1) h5 h29 h99 (by omega) (fun g124 o124 d124 p124 k124 => ?_))
        have of124 : frM A [2] [8, 9, 10, 11, 12, 13, 16] f g124 := frM_tr o81 (frM_tr (frM_su o120 (by decide) (by decide)) o124)
        have p124b : psM B n g124 A (smP B n (if lm = 5 then 8 else 6) 1 (nxP B n (smP B n (if lm = 5 then 8 else 6) 1 p).2.1)).1 (smP B n (if lm = 5 then 8 else 6) 1 (nxP B n (smP B n (if lm = 5 then 8 else 6) 1 p).2.1)).2.1 := p124
        have k124b : (smP B n (if lm = 5 then 8 else 6) 1 (nxP B n (smP B n (if lm = 5 then 8 else 6) 1 p).2.1)).1 = 0 → okM g120 g124 A lm la (u + (smP B n (if lm = 5 then 8 else 6) 1 p).2.2.length) (smP B n (if lm = 5 then 8 else 6) 1 (nxP B n (smP B n (if lm = 5 then 8 else 6) 1 p).2.1)).2.2 := k124
        refine r_aloadR0 dX12_readUnit_127 ?_
        refine r_iload1 dX12_readUnit_128 ?_
        refine n_bipush dX12_readUnit_129 (by decide) (fun r129 e129 => ?_)
        refine t_icne (t := 139) dX12_readUnit_131 (by decide) (fun h131 => ?_) (fun h131 => False.elim (by omega))
        refine r_iload1 dX12_readUnit_139 ?_
        refine n_bipush dX12_readUnit_140 (by decide) (fun r140 e140 => ?_)
        refine t_icne (t := 150) dX12_readUnit_142 (by decide) (fun h142 => ?_) (fun h142 => False.elim (by omega))
        refine n_bipush dX12_readUnit_150 (by decide) (fun r150 e150 => ?_)
        refine q_callV1 zm_RX12_162 dX12_readUnit_152 (shM_k hs) (by decide) rfl (Nat.le_of_ble_eq_true rfl) (Nat.le_of_ble_eq_true rfl) (Nat.le_of_ble_eq_true rfl) (Nat.le_of_ble_eq_true rfl) (Nat.le_of_ble_eq_true rfl) (s_X12_laysStep (lm := lm) (la := la) (u := u + (smP B n (if lm = 5 then 8 else 6) 1 p).2.2.length + (smP B n (if lm = 5 then 8 else 6) 1 (nxP B n (smP B n (if lm = 5 then 8 else 6) 1 p).2.1)).2.2.length) G hs (by have := p124b.1; rw [hq] at this; exact this) (by rw [of124.2.2 17 (by decide)]; exact hlm) (by rw [of124.2.2 18 (by decide)]; exact hla) (k124b hq).1 h5 h29 (by omega) (fun g152 o152 a152 b152 c152 => ?_))
        have p124c := p124b
        rw [hq] at p124c
        refine r_vret dX12_readUnit_155 rfl (Nat.le_of_ble_eq_true rfl) (Nat.le_of_ble_eq_true rfl) ?_
        refine hQ _ (frM_tr of124 (frM_su o152 (by decide) (by decide))) (by rw [o152.2.2 16 (by decide)]; exact d124) (psM_of p124c (o152.2.2 8 (by decide)) (o152.2.2 9 (by decide)) (o152.2.2 10 (by decide)) (o152.2.2 11 (by decide)) (o152.2.2 12 (by decide)) (o152.2.2 13 (by decide))) (fun _ => okM_ap (by omega) (by rw [List.length_append]; omega) (okM_ap (by omega) (by omega) k81c (okM_cg (k124b hq) w120 rfl)) ?_)
        rw [List.length_append, ← Nat.add_assoc]
        exact okM_one (by omega) a152 b152 c152 (by rw [e150]; rfl)
      · have hv : cmP B n (smP B n (if lm = 5 then 8 else 6) 1) p = (smP B n (if lm = 5 then 8 else 6) 1 (nxP B n (smP B n (if lm = 5 then 8 else 6) 1 p).2.1)) := (if_neg (not_not_intro hr)).trans ((if_neg hop0).trans (if_pos hq))
        rw [hv] at hQ
        refine r_aloadR0 dX12_readUnit_0 ?_
        refine m_getV (x := (f A 12)) zf_RX12_112 rfl dX12_readUnit_1 (shM_k hs) (rfl) ?_
        refine t_ifeq (t := 8) dX12_readUnit_4 (by decide) (fun h4 => ?_) (fun h4 => False.elim (by omega))
        refine r_aloadR0 dX12_readUnit_8 ?_
        refine k_ldc (hld _ (List.mem_of_getElem? (i := 2) rfl)) dX12_readUnit_9 ?_
        refine q_callV1 zm_RX12_127 dX12_readUnit_11 (shM_k hs) (by decide) rfl (Nat.le_of_ble_eq_true rfl) (Nat.le_of_ble_eq_true rfl) (Nat.le_of_ble_eq_true rfl) (Nat.le_of_ble_eq_true rfl) (Nat.le_of_ble_eq_true rfl) (s_X12_isWord (i := 8) G hs kw (by decide) htp hps (fun r11 e11_z => ?_))
        have e11b : r11.toInt = 0 := e11_z.elim (fun h_z => absurd h_z.2 hw) (fun h_z => h_z.1)
        refine t_ifeq (t := 44) dX12_readUnit_14 (by decide) (fun h14 => ?_) (fun h14 => False.elim (by omega))
        refine r_aloadR0 dX12_readUnit_44 ?_
        refine n_bipush dX12_readUnit_45 (by decide) (fun r45 e45 => ?_)
        refine q_callV1 zm_RX12_175 dX12_readUnit_47 (shM_k hs) (by decide) rfl (Nat.le_of_ble_eq_true rfl) (Nat.le_of_ble_eq_true rfl) (Nat.le_of_ble_eq_true rfl) (Nat.le_of_ble_eq_true rfl) (Nat.le_of_ble_eq_true rfl) (s_X12_isSign G hs (fun r47 e47 => ?_))
        refine t_ifeq (t := 80) dX12_readUnit_50 (by decide) (fun h50 => ?_) (fun h50 => False.elim (by omega))
        refine r_aloadR0 dX12_readUnit_80 ?_
        refine q_callV0 zm_RX12_181 dX12_readUnit_81 (shM_k hs) (by decide) rfl (Nat.le_of_ble_eq_true rfl) (Nat.le_of_ble_eq_true rfl) (Nat.le_of_ble_eq_true rfl) (Nat.le_of_ble_eq_true rfl) (Nat.le_of_ble_eq_true rfl) (s_X12_readSum_1 (lm := lm) (la := la) (u := u) G hs kw hld htp hps hd16 hlm hla hu h5 h29 h99 hup (fun g81 o81 d81 p81 k81 => ?_))
        have p81b : psM B n g81 A (smP B n (if lm = 5 then 8 else 6) 1 p).1 (smP B n (if lm = 5 then 8 else 6) 1 p).2.1 := p81
        have k81b : (smP B n (if lm = 5 then 8 else 6) 1 p).1 = 0 → okM f g81 A lm la u (smP B n (if lm = 5 then 8 else 6) 1 p).2.2 := k81
        have p81d := p81c _ p81b
        have t81 := p81d.2.1 rfl
        have h81 := t81.2.2.2.1
        have b81 := p81d.1
        have hte81 := teP_le (B := B) t81.1
        have htp81 := tpM_of htp (o81.2.1 5 (by decide) (by decide) (by decide)) (o81.2.2 7 (by decide))
        have k81c := k81b hr
        refine r_aloadR0 dX12_readUnit_84 ?_
        refine m_getV (x := (g81 A 10)) zf_RX12_92 rfl dX12_readUnit_85 (shM_k hs) (rfl) ?_
        refine r_istore1 dX12_readUnit_88 rfl ?_
        refine r_iload1 dX12_readUnit_89 ?_
        refine n_bipush dX12_readUnit_90 (by decide) (fun r90 e90_z => ?_)
        refine t_iceq (t := 112) dX12_readUnit_92 (by decide) (fun h92 => False.elim (by omega)) (fun h92 => ?_)
        refine r_iload1 dX12_readUnit_95 ?_
        refine n_bipush dX12_readUnit_96 (by decide) (fun r96 e96 => ?_)
        refine t_iceq (t := 112) dX12_readUnit_98 (by decide) (fun h98 => False.elim (by omega)) (fun h98 => ?_)
        refine r_iload1 dX12_readUnit_101 ?_
        refine n_bipush dX12_readUnit_102 (by decide) (fun r102 e102_z => ?_)
        refine t_iceq (t := 112) dX12_readUnit_104 (by decide) (fun h104 => ?_) (fun h104 => False.elim (by omega))
        refine r_aloadR0 dX12_readUnit_112 ?_
        refine m_getV (x := (g81 A 12)) zf_RX12_112 rfl dX12_readUnit_113 (shM_k hs) (rfl) ?_
        refine t_ifne (t := 123) dX12_readUnit_116 (by decide) (fun h116 => False.elim (by omega)) (fun h116 => ?_)
        refine r_aloadR0 dX12_readUnit_119 ?_
        refine q_callV0 zm_RX12_131 dX12_readUnit_120 (shM_k hs) (by decide) rfl (Nat.le_of_ble_eq_true rfl) (Nat.le_of_ble_eq_true rfl) (Nat.le_of_ble_eq_true rfl) (Nat.le_of_ble_eq_true rfl) (Nat.le_of_ble_eq_true rfl) (s_X12_readsOn (p := teP B n (smP B n (if lm = 5 then 8 else 6) 1 p).2.1) G hs htp81 t81.2.1 hte81 (fun g120 o120 t120 => ?_))
        have htp120 := tpM_of htp81 (o120.2.1 5 (by decide) (by decide) (by decide)) (o120.2.2 7 (by decide))
        have hp120 : psM B n g120 A 0 (nxP B n (smP B n (if lm = 5 then 8 else 6) 1 p).2.1) := ⟨by rw [o120.2.2 12 (by decide)]; exact b81, fun _ => t120, fun h_z => absurd rfl h_z⟩
        have w120 : g120 (A + 2) = g81 (A + 2) := o120.2.1 2 (by decide) (by decide) (by decide)
        refine r_aloadR0 dX12_readUnit_123 ?_
        refine q_callV0 zm_RX12_181 dX12_readUnit_124 (shM_k hs) (by decide) rfl (Nat.le_of_ble_eq_true rfl) (Nat.le_of_ble_eq_true rfl) (Nat.le_of_ble_eq_true rfl) (Nat.le_of_ble_eq_true rfl) (Nat.le_of_ble_eq_true rfl) (s_X12_readSum_1 (lm := lm) (la := la) (u := u + (smP B n (if lm = 5 then 8 else 6) 1 p).2.2.length) G hs kw hld htp120 hp120 (by rw [o120.2.2 16 (by decide)]; exact d81) (by rw [o120.2.2 17 (by decide), o81.2.2 17 (by decide)]; exact hlm) (by rw [o120.2.2 18 (by decide), o81.2.2 18 (by decide)]; exact hla) (by rw [w120]; exact k81c.1) h5 h29 h99 (by omega) (fun g124 o124 d124 p124 k124 => ?_))
        have of124 : frM A [2] [8, 9, 10, 11, 12, 13, 16] f g124 := frM_tr o81 (frM_tr (frM_su o120 (by decide) (by decide)) o124)
        have p124b : psM B n g124 A (smP B n (if lm = 5 then 8 else 6) 1 (nxP B n (smP B n (if lm = 5 then 8 else 6) 1 p).2.1)).1 (smP B n (if lm = 5 then 8 else 6) 1 (nxP B n (smP B n (if lm = 5 then 8 else 6) 1 p).2.1)).2.1 := p124
        have k124b : (smP B n (if lm = 5 then 8 else 6) 1 (nxP B n (smP B n (if lm = 5 then 8 else 6) 1 p).2.1)).1 = 0 → okM g120 g124 A lm la (u + (smP B n (if lm = 5 then 8 else 6) 1 p).2.2.length) (smP B n (if lm = 5 then 8 else 6) 1 (nxP B n (smP B n (if lm = 5 then 8 else 6) 1 p).2.1)).2.2 := k124
        refine r_aloadR0 dX12_readUnit_127 ?_
        refine r_iload1 dX12_readUnit_128 ?_
        refine n_bipush dX12_readUnit_129 (by decide) (fun r129 e129 => ?_)
        refine t_icne (t := 139) dX12_readUnit_131 (by decide) (fun h131 => ?_) (fun h131 => False.elim (by omega))
        refine r_iload1 dX12_readUnit_139 ?_
        refine n_bipush dX12_readUnit_140 (by decide) (fun r140 e140 => ?_)
        refine t_icne (t := 150) dX12_readUnit_142 (by decide) (fun h142 => ?_) (fun h142 => False.elim (by omega))
        refine n_bipush dX12_readUnit_150 (by decide) (fun r150 e150 => ?_)
        refine q_callV1 zm_RX12_162 dX12_readUnit_152 (shM_k hs) (by decide) rfl (Nat.le_of_ble_eq_true rfl) (Nat.le_of_ble_eq_true rfl) (Nat.le_of_ble_eq_true rfl) (Nat.le_of_ble_eq_true rfl) (Nat.le_of_ble_eq_true rfl) (s_X12_laysStep_x G hs (by rw [p124b.1]; omega) ?_)
        refine r_vret dX12_readUnit_155 rfl (Nat.le_of_ble_eq_true rfl) (Nat.le_of_ble_eq_true rfl) ?_
        exact hQ _ of124 d124 p124b (fun h_z => absurd h_z hq)
    have hn62 := hc_z
    have hm62 : rkP B n (smP B n (if lm = 5 then 8 else 6) 1 p).2.1 ≠ 62 := fun h_z => hc_z (q62.mp h_z)
    clear hc_z
    have hop : opC B n (smP B n (if lm = 5 then 8 else 6) 1 p).2.1 = 0 := (if_neg hn61).trans ((if_neg hn60).trans (if_neg hn62))
    have hv : cmP B n (smP B n (if lm = 5 then 8 else 6) 1) p = (baP B n (smP B n (if lm = 5 then 8 else 6) 1 p).2.1, (smP B n (if lm = 5 then 8 else 6) 1 p).2.1, []) := (if_neg (not_not_intro hr)).trans (if_pos hop)
    rw [hv] at hQ
    refine r_aloadR0 dX12_readUnit_0 ?_
    refine m_getV (x := (f A 12)) zf_RX12_112 rfl dX12_readUnit_1 (shM_k hs) (rfl) ?_
    refine t_ifeq (t := 8) dX12_readUnit_4 (by decide) (fun h4 => ?_) (fun h4 => False.elim (by omega))
    refine r_aloadR0 dX12_readUnit_8 ?_
    refine k_ldc (hld _ (List.mem_of_getElem? (i := 2) rfl)) dX12_readUnit_9 ?_
    refine q_callV1 zm_RX12_127 dX12_readUnit_11 (shM_k hs) (by decide) rfl (Nat.le_of_ble_eq_true rfl) (Nat.le_of_ble_eq_true rfl) (Nat.le_of_ble_eq_true rfl) (Nat.le_of_ble_eq_true rfl) (Nat.le_of_ble_eq_true rfl) (s_X12_isWord (i := 8) G hs kw (by decide) htp hps (fun r11 e11_z => ?_))
    have e11b : r11.toInt = 0 := e11_z.elim (fun h_z => absurd h_z.2 hw) (fun h_z => h_z.1)
    refine t_ifeq (t := 44) dX12_readUnit_14 (by decide) (fun h14 => ?_) (fun h14 => False.elim (by omega))
    refine r_aloadR0 dX12_readUnit_44 ?_
    refine n_bipush dX12_readUnit_45 (by decide) (fun r45 e45 => ?_)
    refine q_callV1 zm_RX12_175 dX12_readUnit_47 (shM_k hs) (by decide) rfl (Nat.le_of_ble_eq_true rfl) (Nat.le_of_ble_eq_true rfl) (Nat.le_of_ble_eq_true rfl) (Nat.le_of_ble_eq_true rfl) (Nat.le_of_ble_eq_true rfl) (s_X12_isSign G hs (fun r47 e47 => ?_))
    refine t_ifeq (t := 80) dX12_readUnit_50 (by decide) (fun h50 => ?_) (fun h50 => False.elim (by omega))
    refine r_aloadR0 dX12_readUnit_80 ?_
    refine q_callV0 zm_RX12_181 dX12_readUnit_81 (shM_k hs) (by decide) rfl (Nat.le_of_ble_eq_true rfl) (Nat.le_of_ble_eq_true rfl) (Nat.le_of_ble_eq_true rfl) (Nat.le_of_ble_eq_true rfl) (Nat.le_of_ble_eq_true rfl) (s_X12_readSum_1 (lm := lm) (la := la) (u := u) G hs kw hld htp hps hd16 hlm hla hu h5 h29 h99 hup (fun g81 o81 d81 p81 k81 => ?_))
    have p81b : psM B n g81 A (smP B n (if lm = 5 then 8 else 6) 1 p).1 (smP B n (if lm = 5 then 8 else 6) 1 p).2.1 := p81
    have k81b : (smP B n (if lm = 5 then 8 else 6) 1 p).1 = 0 → okM f g81 A lm la u (smP B n (if lm = 5 then 8 else 6) 1 p).2.2 := k81
    have p81d := p81c _ p81b
    have t81 := p81d.2.1 rfl
    have h81 := t81.2.2.2.1
    have b81 := p81d.1
    have hte81 := teP_le (B := B) t81.1
    have htp81 := tpM_of htp (o81.2.1 5 (by decide) (by decide) (by decide)) (o81.2.2 7 (by decide))
    have k81c := k81b hr
    refine r_aloadR0 dX12_readUnit_84 ?_
    refine m_getV (x := (g81 A 10)) zf_RX12_92 rfl dX12_readUnit_85 (shM_k hs) (rfl) ?_
    refine r_istore1 dX12_readUnit_88 rfl ?_
    refine r_iload1 dX12_readUnit_89 ?_
    refine n_bipush dX12_readUnit_90 (by decide) (fun r90 e90_z => ?_)
    refine t_iceq (t := 112) dX12_readUnit_92 (by decide) (fun h92 => False.elim (by omega)) (fun h92 => ?_)
    refine r_iload1 dX12_readUnit_95 ?_
    refine n_bipush dX12_readUnit_96 (by decide) (fun r96 e96 => ?_)
    refine t_iceq (t := 112) dX12_readUnit_98 (by decide) (fun h98 => False.elim (by omega)) (fun h98 => ?_)
    refine r_iload1 dX12_readUnit_101 ?_
    refine n_bipush dX12_readUnit_102 (by decide) (fun r102 e102_z => ?_)
    refine t_iceq (t := 112) dX12_readUnit_104 (by decide) (fun h104 => False.elim (by omega)) (fun h104 => ?_)
    refine r_aloadR0 dX12_readUnit_107 ?_
    refine n_iconst dX12_readUnit_108 (by decide) (fun r108 e108 => ?_)
    refine q_callV1 zm_RX12_134 dX12_readUnit_109 (shM_k hs) (by decide) rfl (Nat.le_of_ble_eq_true rfl) (Nat.le_of_ble_eq_true rfl) (Nat.le_of_ble_eq_true rfl) (Nat.le_of_ble_eq_true rfl) (Nat.le_of_ble_eq_true rfl) (s_X12_blames (k := 2) G hs b81 t81 e108 (fun g109 o109 a109 b109 => ?_))
    have hpb := ps_ba a109 b109
    have hba := ba_bd (B := B) (n := n) (s := (smP B n (if lm = 5 then 8 else 6) 1 p).2.1)
    have nb : (g109 A 12).toInt ≠ 0 := by rw [hpb.1]; omega
    refine r_aloadR0 dX12_readUnit_112 ?_
    refine m_getV (x := (g109 A 12)) zf_RX12_112 rfl dX12_readUnit_113 (shM_k hs) (rfl) ?_
    refine t_ifne (t := 123) dX12_readUnit_116 (by decide) (fun h116 => ?_) (fun h116 => False.elim (by omega))
    refine r_aloadR0 dX12_readUnit_123 ?_
    refine q_callV0 zm_RX12_181 dX12_readUnit_124 (shM_k hs) (by decide) rfl (Nat.le_of_ble_eq_true rfl) (Nat.le_of_ble_eq_true rfl) (Nat.le_of_ble_eq_true rfl) (Nat.le_of_ble_eq_true rfl) (Nat.le_of_ble_eq_true rfl) (s_X12_readSum_x G hs nb ?_)
    refine r_aloadR0 dX12_readUnit_127 ?_
    refine r_iload1 dX12_readUnit_128 ?_
    refine n_bipush dX12_readUnit_129 (by decide) (fun r129 e129 => ?_)
    refine t_icne (t := 139) dX12_readUnit_131 (by decide) (fun h131 => ?_) (fun h131 => False.elim (by omega))
    refine r_iload1 dX12_readUnit_139 ?_
    refine n_bipush dX12_readUnit_140 (by decide) (fun r140 e140 => ?_)
    refine t_icne (t := 150) dX12_readUnit_142 (by decide) (fun h142 => ?_) (fun h142 => False.elim (by omega))
    refine n_bipush dX12_readUnit_150 (by decide) (fun r150 e150 => ?_)
    refine q_callV1 zm_RX12_162 dX12_readUnit_152 (shM_k hs) (by decide) rfl (Nat.le_of_ble_eq_true rfl) (Nat.le_of_ble_eq_true rfl) (Nat.le_of_ble_eq_true rfl) (Nat.le_of_ble_eq_true rfl) (Nat.le_of_ble_eq_true rfl) (s_X12_laysStep_x G hs nb ?_)
    refine r_vret dX12_readUnit_155 rfl (Nat.le_of_ble_eq_true rfl) (Nat.le_of_ble_eq_true rfl) ?_
    exact hQ _ (frM_tr o81 (frM_su o109 (by decide) (by decide))) (by rw [o109.2.2 16 (by decide)]; exact d81) hpb (fun h_z => absurd h_z hba.1)
  · have hv : cmP B n (smP B n (if lm = 5 then 8 else 6) 1) p = (smP B n (if lm = 5 then 8 else 6) 1 p) := if_pos hr
    rw [hv] at hQ
    refine r_aloadR0 dX12_readUnit_0 ?_
    refine m_getV (x := (f A 12)) zf_RX12_112 rfl dX12_readUnit_1 (shM_k hs) (rfl) ?_
    refine t_ifeq (t := 8) dX12_readUnit_4 (by decide) (fun h4 => ?_) (fun h4 => False.elim (by omega))
    refine r_aloadR0 dX12_readUnit_8 ?_
    refine k_ldc (hld _ (List.mem_of_getElem? (i := 2) rfl)) dX12_readUnit_9 ?_
    refine q_callV1 zm_RX12_127 dX12_readUnit_11 (shM_k hs) (by decide) rfl (Nat.le_of_ble_eq_true rfl) (Nat.le_of_ble_eq_true rfl) (Nat.le_of_ble_eq_true rfl) (Nat.le_of_ble_eq_true rfl) (Nat.le_of_ble_eq_true rfl) (s_X12_isWord (i := 8) G hs kw (by decide) htp hps (fun r11 e11_z => ?_))
    have e11b : r11.toInt = 0 := e11_z.elim (fun h_z => absurd h_z.2 hw) (fun h_z => h_z.1)
    refine t_ifeq (t := 44) dX12_readUnit_14 (by decide) (fun h14 => ?_) (fun h14 => False.elim (by omega))
    refine r_aloadR0 dX12_readUnit_44 ?_
    refine n_bipush dX12_readUnit_45 (by decide) (fun r45 e45 => ?_)
    refine q_callV1 zm_RX12_175 dX12_readUnit_47 (shM_k hs) (by decide) rfl (Nat.le_of_ble_eq_true rfl) (Nat.le_of_ble_eq_true rfl) (Nat.le_of_ble_eq_true rfl) (Nat.le_of_ble_eq_true rfl) (Nat.le_of_ble_eq_true rfl) (s_X12_isSign G hs (fun r47 e47 => ?_))
    refine t_ifeq (t := 80) dX12_readUnit_50 (by decide) (fun h50 => ?_) (fun h50 => False.elim (by omega))
    refine r_aloadR0 dX12_readUnit_80 ?_
    refine q_callV0 zm_RX12_181 dX12_readUnit_81 (shM_k hs) (by decide) rfl (Nat.le_of_ble_eq_true rfl) (Nat.le_of_ble_eq_true rfl) (Nat.le_of_ble_eq_true rfl) (Nat.le_of_ble_eq_true rfl) (Nat.le_of_ble_eq_true rfl) (s_X12_readSum_1 (lm := lm) (la := la) (u := u) G hs kw hld htp hps hd16 hlm hla hu h5 h29 h99 hup (fun g81 o81 d81 p81 k81 => ?_))
    have p81b : psM B n g81 A (smP B n (if lm = 5 then 8 else 6) 1 p).1 (smP B n (if lm = 5 then 8 else 6) 1 p).2.1 := p81
    have k81b : (smP B n (if lm = 5 then 8 else 6) 1 p).1 = 0 → okM f g81 A lm la u (smP B n (if lm = 5 then 8 else 6) 1 p).2.2 := k81
    have nb : (g81 A 12).toInt ≠ 0 := by rw [p81b.1]; omega
    refine r_aloadR0 dX12_readUnit_84 ?_
    refine m_getV (x := (g81 A 10)) zf_RX12_92 rfl dX12_readUnit_85 (shM_k hs) (rfl) ?_
    refine r_istore1 dX12_readUnit_88 rfl ?_
    refine r_iload1 dX12_readUnit_89 ?_
    refine n_bipush dX12_readUnit_90 (by decide) (fun r90 e90_z => ?_)
    refine t_iceq (t := 112) dX12_readUnit_92 (by decide) (fun h92 => ?_) (fun h92 => ?_)
    · refine r_aloadR0 dX12_readUnit_112 ?_
      refine m_getV (x := (g81 A 12)) zf_RX12_112 rfl dX12_readUnit_113 (shM_k hs) (rfl) ?_
      refine t_ifne (t := 123) dX12_readUnit_116 (by decide) (fun h116 => ?_) (fun h116 => False.elim (by omega))
      refine r_aloadR0 dX12_readUnit_123 ?_
      refine q_callV0 zm_RX12_181 dX12_readUnit_124 (shM_k hs) (by decide) rfl (Nat.le_of_ble_eq_true rfl) (Nat.le_of_ble_eq_true rfl) (Nat.le_of_ble_eq_true rfl) (Nat.le_of_ble_eq_true rfl) (Nat.le_of_ble_eq_true rfl) (s_X12_readSum_x G hs nb ?_)
      refine r_aloadR0 dX12_readUnit_127 ?_
      refine r_iload1 dX12_readUnit_128 ?_
      refine n_bipush dX12_readUnit_129 (by decide) (fun r129 e129 => ?_)
      refine t_icne (t := 139) dX12_readUnit_131 (by decide) (fun h131 => ?_) (fun h131 => ?_)
      · refine r_iload1 dX12_readUnit_139 ?_
        refine n_bipush dX12_readUnit_140 (by decide) (fun r140 e140 => ?_)
        refine t_icne (t := 150) dX12_readUnit_142 (by decide) (fun h142 => ?_) (fun h142 => ?_)
        · refine n_bipush dX12_readUnit_150 (by decide) (fun r150 e150 => ?_)
          refine q_callV1 zm_RX12_162 dX12_readUnit_152 (shM_k hs) (by decide) rfl (Nat.le_of_ble_eq_true rfl) (Nat.le_of_ble_eq_true rfl) (Nat.le_of_ble_eq_true rfl) (Nat.le_of_ble_eq_true rfl) (Nat.le_of_ble_eq_true rfl) (s_X12_laysStep_x G hs nb ?_)
          refine r_vret dX12_readUnit_155 rfl (Nat.le_of_ble_eq_true rfl) (Nat.le_of_ble_eq_true rfl) ?_
          exact hQ _ o81 d81 p81b (fun h_z => absurd h_z hr)
        · refine n_bipush dX12_readUnit_145 (by decide) (fun r145 e145 => ?_)
          refine r_goto (t := 152) dX12_readUnit_147 (by decide) ?_
          refine q_callV1 zm_RX12_162 dX12_readUnit_152 (shM_k hs) (by decide) rfl (Nat.le_of_ble_eq_true rfl) (Nat.le_of_ble_eq_true rfl) (Nat.le_of_ble_eq_true rfl) (Nat.le_of_ble_eq_true rfl) (Nat.le_of_ble_eq_true rfl) (s_X12_laysStep_x G hs nb ?_)
          refine r_vret dX12_readUnit_155 rfl (Nat.le_of_ble_eq_true rfl) (Nat.le_of_ble_eq_true rfl) ?_
          exact hQ _ o81 d81 p81b (fun h_z => absurd h_z hr)
      · refine n_bipush dX12_readUnit_134 (by decide) (fun r134 e134 => ?_)
        refine r_goto (t := 152) dX12_readUnit_136 (by decide) ?_
        refine q_callV1 zm_RX12_162 dX12_readUnit_152 (shM_k hs) (by decide) rfl (Nat.le_of_ble_eq_true rfl) (Nat.le_of_ble_eq_true rfl) (Nat.le_of_ble_eq_true rfl) (Nat.le_of_ble_eq_true rfl) (Nat.le_of_ble_eq_true rfl) (s_X12_laysStep_x G hs nb ?_)
        refine r_vret dX12_readUnit_155 rfl (Nat.le_of_ble_eq_true rfl) (Nat.le_of_ble_eq_true rfl) ?_
        exact hQ _ o81 d81 p81b (fun h_z => absurd h_z hr)
    · refine r_iload1 dX12_readUnit_95 ?_
      refine n_bipush dX12_readUnit_96 (by decide) (fun r96 e96 => ?_)
      refine t_iceq (t := 112) dX12_readUnit_98 (by decide) (fun h98 => ?_) (fun h98 => ?_)
      · refine r_aloadR0 dX12_readUnit_112 ?_
        refine m_getV (x := (g81 A 12)) zf_RX12_112 rfl dX12_readUnit_113 (shM_k hs) (rfl) ?_
        refine t_ifne (t := 123) dX12_readUnit_116 (by decide) (fun h116 => ?_) (fun h116 => False.elim (by omega))
        refine r_aloadR0 dX12_readUnit_123 ?_
        refine q_callV0 zm_RX12_181 dX12_readUnit_124 (shM_k hs) (by decide) rfl (Nat.le_of_ble_eq_true rfl) (Nat.le_of_ble_eq_true rfl) (Nat.le_of_ble_eq_true rfl) (Nat.le_of_ble_eq_true rfl) (Nat.le_of_ble_eq_true rfl) (s_X12_readSum_x G hs nb ?_)
        refine r_aloadR0 dX12_readUnit_127 ?_
        refine r_iload1 dX12_readUnit_128 ?_
        refine n_bipush dX12_readUnit_129 (by decide) (fun r129 e129 => ?_)
        refine t_icne (t := 139) dX12_readUnit_131 (by decide) (fun h131 => ?_) (fun h131 => ?_)
        · refine r_iload1 dX12_readUnit_139 ?_
          refine n_bipush dX12_readUnit_140 (by decide) (fun r140 e140 => ?_)
          refine t_icne (t := 150) dX12_readUnit_142 (by decide) (fun h142 => ?_) (fun h142 => ?_)
          · refine n_bipush dX12_readUnit_150 (by decide) (fun r150 e150 => ?_)
            refine q_callV1 zm_RX12_162 dX12_readUnit_152 (shM_k hs) (by decide) rfl (Nat.le_of_ble_eq_true rfl) (Nat.le_of_ble_eq_true rfl) (Nat.le_of_ble_eq_true rfl) (Nat.le_of_ble_eq_true rfl) (Nat.le_of_ble_eq_true rfl) (s_X12_laysStep_x G hs nb ?_)
            refine r_vret dX12_readUnit_155 rfl (Nat.le_of_ble_eq_true rfl) (Nat.le_of_ble_eq_true rfl) ?_
            exact hQ _ o81 d81 p81b (fun h_z => absurd h_z hr)
          · refine n_bipush dX12_readUnit_145 (by decide) (fun r145 e145 => ?_)
            refine r_goto (t := 152) dX12_readUnit_147 (by decide) ?_
            refine q_callV1 zm_RX12_162 dX12_readUnit_152 (shM_k hs) (by decide) rfl (Nat.le_of_ble_eq_true rfl) (Nat.le_of_ble_eq_true rfl) (Nat.le_of_ble_eq_true rfl) (Nat.le_of_ble_eq_true rfl) (Nat.le_of_ble_eq_true rfl) (s_X12_laysStep_x G hs nb ?_)
            refine r_vret dX12_readUnit_155 rfl (Nat.le_of_ble_eq_true rfl) (Nat.le_of_ble_eq_true rfl) ?_
            exact hQ _ o81 d81 p81b (fun h_z => absurd h_z hr)
        · refine n_bipush dX12_readUnit_134 (by decide) (fun r134 e134 => ?_)
          refine r_goto (t := 152) dX12_readUnit_136 (by decide) ?_
          refine q_callV1 zm_RX12_162 dX12_readUnit_152 (shM_k hs) (by decide) rfl (Nat.le_of_ble_eq_true rfl) (Nat.le_of_ble_eq_true rfl) (Nat.le_of_ble_eq_true rfl) (Nat.le_of_ble_eq_true rfl) (Nat.le_of_ble_eq_true rfl) (s_X12_laysStep_x G hs nb ?_)
          refine r_vret dX12_readUnit_155 rfl (Nat.le_of_ble_eq_true rfl) (Nat.le_of_ble_eq_true rfl) ?_
          exact hQ _ o81 d81 p81b (fun h_z => absurd h_z hr)
      · refine r_iload1 dX12_readUnit_101 ?_
        refine n_bipush dX12_readUnit_102 (by decide) (fun r102 e102_z => ?_)
        refine t_iceq (t := 112) dX12_readUnit_104 (by decide) (fun h104 => ?_) (fun h104 => ?_)
        · refine r_aloadR0 dX12_readUnit_112 ?_
          refine m_getV (x := (g81 A 12)) zf_RX12_112 rfl dX12_readUnit_113 (shM_k hs) (rfl) ?_
          refine t_ifne (t := 123) dX12_readUnit_116 (by decide) (fun h116 => ?_) (fun h116 => False.elim (by omega))
          refine r_aloadR0 dX12_readUnit_123 ?_
          refine q_callV0 zm_RX12_181 dX12_readUnit_124 (shM_k hs) (by decide) rfl (Nat.le_of_ble_eq_true rfl) (Nat.le_of_ble_eq_true rfl) (Nat.le_of_ble_eq_true rfl) (Nat.le_of_ble_eq_true rfl) (Nat.le_of_ble_eq_true rfl) (s_X12_readSum_x G hs nb ?_)
          refine r_aloadR0 dX12_readUnit_127 ?_
          refine r_iload1 dX12_readUnit_128 ?_
          refine n_bipush dX12_readUnit_129 (by decide) (fun r129 e129 => ?_)
          refine t_icne (t := 139) dX12_readUnit_131 (by decide) (fun h131 => ?_) (fun h131 => ?_)
          · refine r_iload1 dX12_readUnit_139 ?_
            refine n_bipush dX12_readUnit_140 (by decide) (fun r140 e140 => ?_)
            refine t_icne (t := 150) dX12_readUnit_142 (by decide) (fun h142 => ?_) (fun h142 => ?_)
            · refine n_bipush dX12_readUnit_150 (by decide) (fun r150 e150 => ?_)
              refine q_callV1 zm_RX12_162 dX12_readUnit_152 (shM_k hs) (by decide) rfl (Nat.le_of_ble_eq_true rfl) (Nat.le_of_ble_eq_true rfl) (Nat.le_of_ble_eq_true rfl) (Nat.le_of_ble_eq_true rfl) (Nat.le_of_ble_eq_true rfl) (s_X12_laysStep_x G hs nb ?_)
              refine r_vret dX12_readUnit_155 rfl (Nat.le_of_ble_eq_true rfl) (Nat.le_of_ble_eq_true rfl) ?_
              exact hQ _ o81 d81 p81b (fun h_z => absurd h_z hr)
            · refine n_bipush dX12_readUnit_145 (by decide) (fun r145 e145 => ?_)
              refine r_goto (t := 152) dX12_readUnit_147 (by decide) ?_
              refine q_callV1 zm_RX12_162 dX12_readUnit_152 (shM_k hs) (by decide) rfl (Nat.le_of_ble_eq_true rfl) (Nat.le_of_ble_eq_true rfl) (Nat.le_of_ble_eq_true rfl) (Nat.le_of_ble_eq_true rfl) (Nat.le_of_ble_eq_true rfl) (s_X12_laysStep_x G hs nb ?_)
              refine r_vret dX12_readUnit_155 rfl (Nat.le_of_ble_eq_true rfl) (Nat.le_of_ble_eq_true rfl) ?_
              exact hQ _ o81 d81 p81b (fun h_z => absurd h_z hr)
          · refine n_bipush dX12_readUnit_134 (by decide) (fun r134 e134 => ?_)
            refine r_goto (t := 152) dX12_readUnit_136 (by decide) ?_
            refine q_callV1 zm_RX12_162 dX12_readUnit_152 (shM_k hs) (by decide) rfl (Nat.le_of_ble_eq_true rfl) (Nat.le_of_ble_eq_true rfl) (Nat.le_of_ble_eq_true rfl) (Nat.le_of_ble_eq_true rfl) (Nat.le_of_ble_eq_true rfl) (s_X12_laysStep_x G hs nb ?_)
            refine r_vret dX12_readUnit_155 rfl (Nat.le_of_ble_eq_true rfl) (Nat.le_of_ble_eq_true rfl) ?_
            exact hQ _ o81 d81 p81b (fun h_z => absurd h_z hr)
        · refine r_aloadR0 dX12_readUnit_107 ?_
          refine n_iconst dX12_readUnit_108 (by decide) (fun r108 e108 => ?_)
          refine q_callV1 zm_RX12_134 dX12_readUnit_109 (shM_k hs) (by decide) rfl (Nat.le_of_ble_eq_true rfl) (Nat.le_of_ble_eq_true rfl) (Nat.le_of_ble_eq_true rfl) (Nat.le_of_ble_eq_true rfl) (Nat.le_of_ble_eq_true rfl) (s_X12_blames_x G hs nb ?_)
          refine r_aloadR0 dX12_readUnit_112 ?_
          refine m_getV (x := (g81 A 12)) zf_RX12_112 rfl dX12_readUnit_113 (shM_k hs) (rfl) ?_
          refine t_ifne (t := 123) dX12_readUnit_116 (by decide) (fun h116 => ?_) (fun h116 => False.elim (by omega))
          refine r_aloadR0 dX12_readUnit_123 ?_
          refine q_callV0 zm_RX12_181 dX12_readUnit_124 (shM_k hs) (by decide) rfl (Nat.le_of_ble_eq_true rfl) (Nat.le_of_ble_eq_true rfl) (Nat.le_of_ble_eq_true rfl) (Nat.le_of_ble_eq_true rfl) (Nat.le_of_ble_eq_true rfl) (s_X12_readSum_x G hs nb ?_)
          refine r_aloadR0 dX12_readUnit_127 ?_
          refine r_iload1 dX12_readUnit_128 ?_
          refine n_bipush dX12_readUnit_129 (by decide) (fun r129 e129 => ?_)
          refine t_icne (t := 139) dX12_readUnit_131 (by decide) (fun h131 => ?_) (fun h131 => ?_)
          · refine r_iload1 dX12_readUnit_139 ?_
            refine n_bipush dX12_readUnit_140 (by decide) (fun r140 e140 => ?_)
            refine t_icne (t := 150) dX12_readUnit_142 (by decide) (fun h142 => ?_) (fun h142 => ?_)
            · refine n_bipush dX12_readUnit_150 (by decide) (fun r150 e150 => ?_)
              refine q_callV1 zm_RX12_162 dX12_readUnit_152 (shM_k hs) (by decide) rfl (Nat.le_of_ble_eq_true rfl) (Nat.le_of_ble_eq_true rfl) (Nat.le_of_ble_eq_true rfl) (Nat.le_of_ble_eq_true rfl) (Nat.le_of_ble_eq_true rfl) (s_X12_laysStep_x G hs nb ?_)
              refine r_vret dX12_readUnit_155 rfl (Nat.le_of_ble_eq_true rfl) (Nat.le_of_ble_eq_true rfl) ?_
              exact hQ _ o81 d81 p81b (fun h_z => absurd h_z hr)
            · refine n_bipush dX12_readUnit_145 (by decide) (fun r145 e145 => ?_)
              refine r_goto (t := 152) dX12_readUnit_147 (by decide) ?_
              refine q_callV1 zm_RX12_162 dX12_readUnit_152 (shM_k hs) (by decide) rfl (Nat.le_of_ble_eq_true rfl) (Nat.le_of_ble_eq_true rfl) (Nat.le_of_ble_eq_true rfl) (Nat.le_of_ble_eq_true rfl) (Nat.le_of_ble_eq_true rfl) (s_X12_laysStep_x G hs nb ?_)
              refine r_vret dX12_readUnit_155 rfl (Nat.le_of_ble_eq_true rfl) (Nat.le_of_ble_eq_true rfl) ?_
              exact hQ _ o81 d81 p81b (fun h_z => absurd h_z hr)
          · refine n_bipush dX12_readUnit_134 (by decide) (fun r134 e134 => ?_)
            refine r_goto (t := 152) dX12_readUnit_136 (by decide) ?_
            refine q_callV1 zm_RX12_162 dX12_readUnit_152 (shM_k hs) (by decide) rfl (Nat.le_of_ble_eq_true rfl) (Nat.le_of_ble_eq_true rfl) (Nat.le_of_ble_eq_true rfl) (Nat.le_of_ble_eq_true rfl) (Nat.le_of_ble_eq_true rfl) (s_X12_laysStep_x G hs nb ?_)
            refine r_vret dX12_readUnit_155 rfl (Nat.le_of_ble_eq_true rfl) (Nat.le_of_ble_eq_true rfl) ?_
            exact hQ _ o81 d81 p81b (fun h_z => absurd h_z hr)
set_option maxHeartbeats 4000000 in
set_option maxRecDepth 100000 in
theorem s_X12_readBoth_1 {g : zGT} {w : zW} {f : Nat → Nat → Int32} {j : Nat → Nat → Int64} {A : Nat} {B : Nat → Nat} {n : Nat} {wa wv : Nat → Nat} {kq : Nat} {p lm la u : Nat} {Q : Option Value → zW → Prop} {QX : String → zW → Prop} (G : zGok g) (hs : shM w A) (kw : kWd g wa wv kq) (hld : kLd g wa) (htp : tpM B n f A) (hps : psM B n f A 0 p) (hd16 : (f A 16).toInt = 5) (hlm : (f A 17).toInt = (lm : Nat)) (hla : (f A 18).toInt = (la : Nat)) (hu : (f (A + 2) lm).toInt = (u : Nat)) (h5 : lm ≤ 5) (h29 : 209 ≤ la) (h99 : la ≤ 2009) (hup : u ≤ p) (hQ : ∀ f2_z, frM A [2] [8, 9, 10, 11, 12, 13, 16] f f2_z → (f2_z A 16).toInt = 5 → psM B n f2_z A (chP B n (unP B n (if lm = 5 then 8 else 6) 1) (opA B n) p).1 (chP B n (unP B n (if lm = 5 then 8 else 6) 1) (opA B n) p).2.1 → ((chP B n (unP B n (if lm = 5 then 8 else 6) 1) (opA B n) p).1 = 0 → okM f f2_z A lm la u (chP B n (unP B n (if lm = 5 then 8 else 6) 1) (opA B n) p).2.2) → Q none (zM w f2_z j)) : zC g 45 yX12_readBoth cX12_readBoth 1 none [.ref A] (zM w f j) (0, 0) Q QX := by
  refine zC_of G (by decide +kernel) (Nat.le_of_ble_eq_true rfl) ?_
  have ht := hps.2.1 rfl
  have h12 := hps.1
  have h900 := htp.2.1
  have hgd : ∀ s, s ≤ n → gdP n true (if lm = 5 then 8 else 6) (4 + 2 * 1) s ((unP B n (if lm = 5 then 8 else 6) 1) s) := gd_un (by split <;> decide) 1
  have lp : ∀ (mz : Nat) (f2_z : Nat → Nat → Int32) (k : Nat) (r : zPR), frM A [2] [8, 9, 10, 11, 12, 13, 16] f f2_z → (f2_z A 16).toInt = 5 → psM B n f2_z A r.1 r.2.1 → (r.1 = 0 → okM f f2_z A lm la u r.2.2) → (r.1 = 0 → p ≤ r.2.1 ∧ r.2.1 ≤ n ∧ r.2.2.length + p ≤ r.2.1) → (r.1 = 0 → n ≤ k + r.2.1) → lpP B n (unP B n (if lm = 5 then 8 else 6) 1) (opA B n) k r = chP B n (unP B n (if lm = 5 then 8 else 6) 1) (opA B n) p → k < mz → zR (zV g 45 yX12_readBoth 1 none (0, 0) Q QX) cX12_readBoth yX12_readBoth.cls 4 [some (.ref A)] [] (zM w f2_z j) (0, 0) := by
    intro mz
    induction mz with
    | zero =>
      intro f2_z k r ofr hd2 hp2 hk2 hg2 hnk hR hmz
      exact absurd hmz (Nat.not_lt_zero _)
    | succ mz ih =>
      intro f2_z k r ofr hd2 hp2 hk2 hg2 hnk hR hmz
      by_cases hr : r.1 = 0
      · have hk3 := hk2 hr
        obtain ⟨q1_z, q2_z, q3_z⟩ := hg2 hr
        have hnk3 := hnk hr
        have hps2 := hp2
        rw [hr] at hps2
        have hb2 := hps2.1
        have htp2 := tpM_of htp (ofr.2.1 5 (by decide) (by decide) (by decide)) (ofr.2.2 7 (by decide))
        by_cases hc_z : isWd B n r.2.1 7 = true
        · have hop : (opA B n) r.2.1 = 2001 := if_pos hc_z
          have hop0 : (opA B n) r.2.1 ≠ 0 := by rw [hop]; decide
          have hln := tk_lt (B := B) (n := n) (s := r.2.1) (by rw [(isWd_tk hc_z).1]; decide)
          obtain ⟨k2_z, rfl⟩ : ∃ k2_z, k = k2_z + 1 := ⟨k - 1, by omega⟩
          have hnx := nxP_gt (B := B) hln
          have gq := hgd _ hnx.2
          by_cases hq : ((unP B n (if lm = 5 then 8 else 6) 1) (nxP B n r.2.1)).1 = 0
          · obtain ⟨y1, y2, y3, y4⟩ := gq.1 hq
            refine r_aloadR0 dX12_readBoth_4 ?_
            refine k_ldc (hld _ (List.mem_of_getElem? (i := 1) rfl)) dX12_readBoth_5 ?_
            refine q_callV1 zm_RX12_142 dX12_readBoth_7 (shM_k hs) (by decide) rfl (Nat.le_of_ble_eq_true rfl) (Nat.le_of_ble_eq_true rfl) (Nat.le_of_ble_eq_true rfl) (Nat.le_of_ble_eq_true rfl) (Nat.le_of_ble_eq_true rfl) (s_X12_took_t (i := 7) G hs kw (by decide) htp2 hps2 hc_z (fun r7 g7 e7_z o7 p7 => ?_))
            have htp7 := tpM_of htp2 (o7.2.1 5 (by decide) (by decide) (by decide)) (o7.2.2 7 (by decide))
            have w7 : g7 (A + 2) = f2_z (A + 2) := o7.2.1 2 (by decide) (by decide) (by decide)
            refine t_ifeq (t := 26) dX12_readBoth_10 (by decide) (fun h10 => False.elim (by omega)) (fun h10 => ?_)
            refine r_aloadR0 dX12_readBoth_13 ?_
            refine q_callV0 zm_RX12_165 dX12_readBoth_14 (shM_k hs) (by decide) rfl (Nat.le_of_ble_eq_true rfl) (Nat.le_of_ble_eq_true rfl) (Nat.le_of_ble_eq_true rfl) (Nat.le_of_ble_eq_true rfl) (Nat.le_of_ble_eq_true rfl) (s_X12_readUnit_1 (lm := lm) (la := la) (u := u + r.2.2.length) G hs kw hld htp7 p7 (by rw [o7.2.2 16 (by decide)]; exact hd2) (by rw [o7.2.2 17 (by decide), ofr.2.2 17 (by decide)]; exact hlm) (by rw [o7.2.2 18 (by decide), ofr.2.2 18 (by decide)]; exact hla) (by rw [w7]; exact hk3.1) h5 h29 h99 (by omega) (fun g14 o14 d14 p14 k14 => ?_))
            have of14 : frM A [2] [8, 9, 10, 11, 12, 13, 16] f g14 := frM_tr ofr (frM_tr (frM_su o7 (by decide) (by decide)) o14)
            have p14b : psM B n g14 A ((unP B n (if lm = 5 then 8 else 6) 1) (nxP B n r.2.1)).1 ((unP B n (if lm = 5 then 8 else 6) 1) (nxP B n r.2.1)).2.1 := p14
            have k14b : ((unP B n (if lm = 5 then 8 else 6) 1) (nxP B n r.2.1)).1 = 0 → okM g7 g14 A lm la (u + r.2.2.length) ((unP B n (if lm = 5 then 8 else 6) 1) (nxP B n r.2.1)).2.2 := k14
            refine r_aloadR0 dX12_readBoth_17 ?_
            refine n_bipush dX12_readBoth_18 (by decide) (fun r18 e18_z => ?_)
            refine q_callV1 zm_RX12_162 dX12_readBoth_20 (shM_k hs) (by decide) rfl (Nat.le_of_ble_eq_true rfl) (Nat.le_of_ble_eq_true rfl) (Nat.le_of_ble_eq_true rfl) (Nat.le_of_ble_eq_true rfl) (Nat.le_of_ble_eq_true rfl) (s_X12_laysStep (lm := lm) (la := la) (u := u + r.2.2.length + ((unP B n (if lm = 5 then 8 else 6) 1) (nxP B n r.2.1)).2.2.length) G hs (by have := p14b.1; rw [hq] at this; exact this) (by rw [of14.2.2 17 (by decide)]; exact hlm) (by rw [of14.2.2 18 (by decide)]; exact hla) (k14b hq).1 h5 h29 (by omega) (fun g20 o20 a20 b20 c20 => ?_))
            refine r_goto (t := 4) dX12_readBoth_23 (by decide) ?_
            have hp14 := p14b
            rw [hq] at hp14
            refine ih _ k2_z (0, ((unP B n (if lm = 5 then 8 else 6) 1) (nxP B n r.2.1)).2.1, r.2.2 ++ ((unP B n (if lm = 5 then 8 else 6) 1) (nxP B n r.2.1)).2.2 ++ [(opA B n) r.2.1]) (frM_tr of14 (frM_su o20 (by decide) (by decide))) (by rw [o20.2.2 16 (by decide)]; exact d14) (psM_of hp14 (o20.2.2 8 (by decide)) (o20.2.2 9 (by decide)) (o20.2.2 10 (by decide)) (o20.2.2 11 (by decide)) (o20.2.2 12 (by decide)) (o20.2.2 13 (by decide))) (fun _ => okM_ap (by omega) (by rw [List.length_append]; omega) (okM_ap (by omega) (by omega) hk3 (okM_cg (k14b hq) w7 rfl)) ?_) (fun _ => ?_) (fun _ => ?_) ?_ (by omega)
            · rw [List.length_append, ← Nat.add_assoc, hop]
              exact okM_one (by omega) a20 b20 c20 (by rw [e18_z]; rfl)
            · show p ≤ ((unP B n (if lm = 5 then 8 else 6) 1) (nxP B n r.2.1)).2.1 ∧ ((unP B n (if lm = 5 then 8 else 6) 1) (nxP B n r.2.1)).2.1 ≤ n ∧ (r.2.2 ++ ((unP B n (if lm = 5 then 8 else 6) 1) (nxP B n r.2.1)).2.2 ++ [(opA B n) r.2.1]).length + p ≤ ((unP B n (if lm = 5 then 8 else 6) 1) (nxP B n r.2.1)).2.1
              rw [List.length_append, List.length_append, List.length_singleton]
              omega
            · show n ≤ k2_z + ((unP B n (if lm = 5 then 8 else 6) 1) (nxP B n r.2.1)).2.1
              omega
            · exact (lpP_on hr hop0 hq).symm.trans hR
          · have nb : ∀ g : Nat → Nat → Int32, psM B n g A ((unP B n (if lm = 5 then 8 else 6) 1) (nxP B n r.2.1)).1 ((unP B n (if lm = 5 then 8 else 6) 1) (nxP B n r.2.1)).2.1 → (g A 12).toInt ≠ 0 := fun g h_z => by rw [h_z.1]; omega
            refine r_aloadR0 dX12_readBoth_4 ?_
            refine k_ldc (hld _ (List.mem_of_getElem? (i := 1) rfl)) dX12_readBoth_5 ?_
            refine q_callV1 zm_RX12_142 dX12_readBoth_7 (shM_k hs) (by decide) rfl (Nat.le_of_ble_eq_true rfl) (Nat.le_of_ble_eq_true rfl) (Nat.le_of_ble_eq_true rfl) (Nat.le_of_ble_eq_true rfl) (Nat.le_of_ble_eq_true rfl) (s_X12_took_t (i := 7) G hs kw (by decide) htp2 hps2 hc_z (fun r7 g7 e7_z o7 p7 => ?_))
            have htp7 := tpM_of htp2 (o7.2.1 5 (by decide) (by decide) (by decide)) (o7.2.2 7 (by decide))
            have w7 : g7 (A + 2) = f2_z (A + 2) := o7.2.1 2 (by decide) (by decide) (by decide)
            refine t_ifeq (t := 26) dX12_readBoth_10 (by decide) (fun h10 => False.elim (by omega)) (fun h10 => ?_)
            refine r_aloadR0 dX12_readBoth_13 ?_
            refine q_callV0 zm_RX12_165 dX12_readBoth_14 (shM_k hs) (by decide) rfl (Nat.le_of_ble_eq_true rfl) (Nat.le_of_ble_eq_true rfl) (Nat.le_of_ble_eq_true rfl) (Nat.le_of_ble_eq_true rfl) (Nat.le_of_ble_eq_true rfl) (s_X12_readUnit_1 (lm := lm) (la := la) (u := u + r.2.2.length) G hs kw hld htp7 p7 (by rw [o7.2.2 16 (by decide)]; exact hd2) (by rw [o7.2.2 17 (by decide), ofr.2.2 17 (by decide)]; exact hlm) (by rw [o7.2.2 18 (by decide), ofr.2.2 18 (by decide)]; exact hla) (by rw [w7]; exact hk3.1) h5 h29 h99 (by omega) (fun g14 o14 d14 p14 k14 => ?_))
            have of14 : frM A [2] [8, 9, 10, 11, 12, 13, 16] f g14 := frM_tr ofr (frM_tr (frM_su o7 (by decide) (by decide)) o14)
            have p14b : psM B n g14 A ((unP B n (if lm = 5 then 8 else 6) 1) (nxP B n r.2.1)).1 ((unP B n (if lm = 5 then 8 else 6) 1) (nxP B n r.2.1)).2.1 := p14
            have k14b : ((unP B n (if lm = 5 then 8 else 6) 1) (nxP B n r.2.1)).1 = 0 → okM g7 g14 A lm la (u + r.2.2.length) ((unP B n (if lm = 5 then 8 else 6) 1) (nxP B n r.2.1)).2.2 := k14
            refine r_aloadR0 dX12_readBoth_17 ?_
            refine n_bipush dX12_readBoth_18 (by decide) (fun r18 e18_z => ?_)
            refine q_callV1 zm_RX12_162 dX12_readBoth_20 (shM_k hs) (by decide) rfl (Nat.le_of_ble_eq_true rfl) (Nat.le_of_ble_eq_true rfl) (Nat.le_of_ble_eq_true rfl) (Nat.le_of_ble_eq_true rfl) (Nat.le_of_ble_eq_true rfl) (s_X12_laysStep_x G hs (nb _ p14b) ?_)
            refine r_goto (t := 4) dX12_readBoth_23 (by decide) ?_
            exact ih _ k2_z ((unP B n (if lm = 5 then 8 else 6) 1) (nxP B n r.2.1)) of14 d14 p14b (fun h_z => absurd h_z hq) (fun h_z => absurd h_z hq) (fun h_z => absurd h_z hq) ((lpP_bad hq).trans ((lpP_sub hr hop0 hq).symm.trans hR)) (by omega)
        · have hop : (opA B n) r.2.1 = 0 := if_neg hc_z
          have hv := (lpP_end (B := B) (n := n) (k := k) (sub := (unP B n (if lm = 5 then 8 else 6) 1)) hop).symm.trans hR
          refine r_aloadR0 dX12_readBoth_4 ?_
          refine k_ldc (hld _ (List.mem_of_getElem? (i := 1) rfl)) dX12_readBoth_5 ?_
          refine q_callV1 zm_RX12_142 dX12_readBoth_7 (shM_k hs) (by decide) rfl (Nat.le_of_ble_eq_true rfl) (Nat.le_of_ble_eq_true rfl) (Nat.le_of_ble_eq_true rfl) (Nat.le_of_ble_eq_true rfl) (Nat.le_of_ble_eq_true rfl) (s_X12_took_f (i := 7) G hs kw (by decide) htp2 hps2 hc_z (fun r7 e7_z => ?_))
          refine t_ifeq (t := 26) dX12_readBoth_10 (by decide) (fun h10 => ?_) (fun h10 => False.elim (by omega))
          refine r_vret dX12_readBoth_26 rfl (Nat.le_of_ble_eq_true rfl) (Nat.le_of_ble_eq_true rfl) ?_
          rw [← hv] at hQ
          exact hQ _ ofr hd2 hp2 hk2
      · have hb2 : (f2_z A 12).toInt ≠ 0 := by rw [hp2.1]; omega
        have hv := (lpP_bad (B := B) (n := n) (k := k) (sub := (unP B n (if lm = 5 then 8 else 6) 1)) (op := (opA B n)) hr).symm.trans hR
        refine r_aloadR0 dX12_readBoth_4 ?_
        refine k_ldc (hld _ (List.mem_of_getElem? (i := 1) rfl)) dX12_readBoth_5 ?_
        refine q_callV1 zm_RX12_142 dX12_readBoth_7 (shM_k hs) (by decide) rfl (Nat.le_of_ble_eq_true rfl) (Nat.le_of_ble_eq_true rfl) (Nat.le_of_ble_eq_true rfl) (Nat.le_of_ble_eq_true rfl) (Nat.le_of_ble_eq_true rfl) (s_X12_took_x (i := 7) (B := fun _ => 0) (n := 0) G hs kw (by decide) hb2 (fun r7 e7_z => ?_))
        refine t_ifeq (t := 26) dX12_readBoth_10 (by decide) (fun h10 => ?_) (fun h10 => False.elim (by omega))
        refine r_vret dX12_readBoth_26 rfl (Nat.le_of_ble_eq_true rfl) (Nat.le_of_ble_eq_true rfl) ?_
        rw [← hv] at hQ
        exact hQ _ ofr hd2 hp2 hk2
  refine r_aloadR0 dX12_readBoth_0 ?_
  refine q_callV0 zm_RX12_165 dX12_readBoth_1 (shM_k hs) (by decide) rfl (Nat.le_of_ble_eq_true rfl) (Nat.le_of_ble_eq_true rfl) (Nat.le_of_ble_eq_true rfl) (Nat.le_of_ble_eq_true rfl) (Nat.le_of_ble_eq_true rfl) (s_X12_readUnit_1 G hs kw hld htp hps hd16 hlm hla hu h5 h29 h99 hup (fun g1 o1 d1 p1 k1_z => ?_))
  have gp := hgd p ht.1
  exact lp _ g1 n ((unP B n (if lm = 5 then 8 else 6) 1) p) o1 d1 p1 k1_z (fun h_z => ⟨Nat.le_of_lt (gp.1 h_z).1, (gp.1 h_z).2.1, (gp.1 h_z).2.2.1⟩) (fun _ => Nat.le_add_right n _) rfl (Nat.lt_succ_self n)
set_option maxHeartbeats 4000000 in
set_option maxRecDepth 100000 in
theorem s_X12_readTruth_1 {g : zGT} {w : zW} {f : Nat → Nat → Int32} {j : Nat → Nat → Int64} {A : Nat} {B : Nat → Nat} {n : Nat} {wa wv : Nat → Nat} {kq : Nat} {p lm la u : Nat} {Q : Option Value → zW → Prop} {QX : String → zW → Prop} (G : zGok g) (hs : shM w A) (kw : kWd g wa wv kq) (hld : kLd g wa) (htp : tpM B n f A) (hps : psM B n f A 0 p) (hd16 : (f A 16).toInt = 5) (hlm : (f A 17).toInt = (lm : Nat)) (hla : (f A 18).toInt = (la : Nat)) (hu : (f (A + 2) lm).toInt = (u : Nat)) (h5 : lm ≤ 5) (h29 : 209 ≤ la) (h99 : la ≤ 2009) (hup : u ≤ p) (hQ : ∀ f2_z, frM A [2] [8, 9, 10, 11, 12, 13, 16] f f2_z → (f2_z A 16).toInt = 5 → psM B n f2_z A (chP B n (chP B n (unP B n (if lm = 5 then 8 else 6) 1) (opA B n)) (opO B n) p).1 (chP B n (chP B n (unP B n (if lm = 5 then 8 else 6) 1) (opA B n)) (opO B n) p).2.1 → ((chP B n (chP B n (unP B n (if lm = 5 then 8 else 6) 1) (opA B n)) (opO B n) p).1 = 0 → okM f f2_z A lm la u (chP B n (chP B n (unP B n (if lm = 5 then 8 else 6) 1) (opA B n)) (opO B n) p).2.2) → Q none (zM w f2_z j)) : zC g 46 yX12_readTruth cX12_readTruth 1 none [.ref A] (zM w f j) (0, 0) Q QX := by
  refine zC_of G (by decide +kernel) (Nat.le_of_ble_eq_true rfl) ?_
  have ht := hps.2.1 rfl
  have h12 := hps.1
  have h900 := htp.2.1
  have hgd : ∀ s, s ≤ n → gdP n true (if lm = 5 then 8 else 6) (4 + 2 * 1 + 1) s ((chP B n (unP B n (if lm = 5 then 8 else 6) 1) (opA B n)) s) := fun s hs9 => gd_ch (gd_un (by split <;> decide) 1) hop_A hs9
  have lp : ∀ (mz : Nat) (f2_z : Nat → Nat → Int32) (k : Nat) (r : zPR), frM A [2] [8, 9, 10, 11, 12, 13, 16] f f2_z → (f2_z A 16).toInt = 5 → psM B n f2_z A r.1 r.2.1 → (r.1 = 0 → okM f f2_z A lm la u r.2.2) → (r.1 = 0 → p ≤ r.2.1 ∧ r.2.1 ≤ n ∧ r.2.2.length + p ≤ r.2.1) → (r.1 = 0 → n ≤ k + r.2.1) → lpP B n (chP B n (unP B n (if lm = 5 then 8 else 6) 1) (opA B n)) (opO B n) k r = chP B n (chP B n (unP B n (if lm = 5 then 8 else 6) 1) (opA B n)) (opO B n) p → k < mz → zR (zV g 46 yX12_readTruth 1 none (0, 0) Q QX) cX12_readTruth yX12_readTruth.cls 4 [some (.ref A)] [] (zM w f2_z j) (0, 0) := by
    intro mz
    induction mz with
    | zero =>
      intro f2_z k r ofr hd2 hp2 hk2 hg2 hnk hR hmz
      exact absurd hmz (Nat.not_lt_zero _)
    | succ mz ih =>
      intro f2_z k r ofr hd2 hp2 hk2 hg2 hnk hR hmz
      by_cases hr : r.1 = 0
      · have hk3 := hk2 hr
        obtain ⟨q1_z, q2_z, q3_z⟩ := hg2 hr
        have hnk3 := hnk hr
        have hps2 := hp2
        rw [hr] at hps2
        have hb2 := hps2.1
        have htp2 := tpM_of htp (ofr.2.1 5 (by decide) (by decide) (by decide)) (ofr.2.2 7 (by decide))
        by_cases hc_z : isWd B n r.2.1 6 = true
        · have hop : (opO B n) r.2.1 = 2002 := if_pos hc_z
          have hop0 : (opO B n) r.2.1 ≠ 0 := by rw [hop]; decide
          have hln := tk_lt (B := B) (n := n) (s := r.2.1) (by rw [(isWd_tk hc_z).1]; decide)
          obtain ⟨k2_z, rfl⟩ : ∃ k2_z, k = k2_z + 1 := ⟨k - 1, by omega⟩
          have hnx := nxP_gt (B := B) hln
          have gq := hgd _ hnx.2
          by_cases hq : ((chP B n (unP B n (if lm = 5 then 8 else 6) 1) (opA B n)) (nxP B n r.2.1)).1 = 0
          · obtain ⟨y1, y2, y3, y4⟩ := gq.1 hq
            refine r_aloadR0 dX12_readTruth_4 ?_
            refine k_ldc (hld _ (List.mem_of_getElem? (i := 0) rfl)) dX12_readTruth_5 ?_
            refine q_callV1 zm_RX12_142 dX12_readTruth_7 (shM_k hs) (by decide) rfl (Nat.le_of_ble_eq_true rfl) (Nat.le_of_ble_eq_true rfl) (Nat.le_of_ble_eq_true rfl) (Nat.le_of_ble_eq_true rfl) (Nat.le_of_ble_eq_true rfl) (s_X12_took_t (i := 6) G hs kw (by decide) htp2 hps2 hc_z (fun r7 g7 e7_z o7 p7 => ?_))
            have htp7 := tpM_of htp2 (o7.2.1 5 (by decide) (by decide) (by decide)) (o7.2.2 7 (by decide))
            have w7 : g7 (A + 2) = f2_z (A + 2) := o7.2.1 2 (by decide) (by decide) (by decide)
            refine t_ifeq (t := 26) dX12_readTruth_10 (by decide) (fun h10 => False.elim (by omega)) (fun h10 => ?_)
            refine r_aloadR0 dX12_readTruth_13 ?_
            refine q_callV0 zm_RX12_157 dX12_readTruth_14 (shM_k hs) (by decide) rfl (Nat.le_of_ble_eq_true rfl) (Nat.le_of_ble_eq_true rfl) (Nat.le_of_ble_eq_true rfl) (Nat.le_of_ble_eq_true rfl) (Nat.le_of_ble_eq_true rfl) (s_X12_readBoth_1 (lm := lm) (la := la) (u := u + r.2.2.length) G hs kw hld htp7 p7 (by rw [o7.2.2 16 (by decide)]; exact hd2) (by rw [o7.2.2 17 (by decide), ofr.2.2 17 (by decide)]; exact hlm) (by rw [o7.2.2 18 (by decide), ofr.2.2 18 (by decide)]; exact hla) (by rw [w7]; exact hk3.1) h5 h29 h99 (by omega) (fun g14 o14 d14 p14 k14 => ?_))
            have of14 : frM A [2] [8, 9, 10, 11, 12, 13, 16] f g14 := frM_tr ofr (frM_tr (frM_su o7 (by decide) (by decide)) o14)
            have p14b : psM B n g14 A ((chP B n (unP B n (if lm = 5 then 8 else 6) 1) (opA B n)) (nxP B n r.2.1)).1 ((chP B n (unP B n (if lm = 5 then 8 else 6) 1) (opA B n)) (nxP B n r.2.1)).2.1 := p14
            have k14b : ((chP B n (unP B n (if lm = 5 then 8 else 6) 1) (opA B n)) (nxP B n r.2.1)).1 = 0 → okM g7 g14 A lm la (u + r.2.2.length) ((chP B n (unP B n (if lm = 5 then 8 else 6) 1) (opA B n)) (nxP B n r.2.1)).2.2 := k14
            refine r_aloadR0 dX12_readTruth_17 ?_
            refine n_bipush dX12_readTruth_18 (by decide) (fun r18 e18_z => ?_)
            refine q_callV1 zm_RX12_162 dX12_readTruth_20 (shM_k hs) (by decide) rfl (Nat.le_of_ble_eq_true rfl) (Nat.le_of_ble_eq_true rfl) (Nat.le_of_ble_eq_true rfl) (Nat.le_of_ble_eq_true rfl) (Nat.le_of_ble_eq_true rfl) (s_X12_laysStep (lm := lm) (la := la) (u := u + r.2.2.length + ((chP B n (unP B n (if lm = 5 then 8 else 6) 1) (opA B n)) (nxP B n r.2.1)).2.2.length) G hs (by have := p14b.1; rw [hq] at this; exact this) (by rw [of14.2.2 17 (by decide)]; exact hlm) (by rw [of14.2.2 18 (by decide)]; exact hla) (k14b hq).1 h5 h29 (by omega) (fun g20 o20 a20 b20 c20 => ?_))
            refine r_goto (t := 4) dX12_readTruth_23 (by decide) ?_
            have hp14 := p14b
            rw [hq] at hp14
            refine ih _ k2_z (0, ((chP B n (unP B n (if lm = 5 then 8 else 6) 1) (opA B n)) (nxP B n r.2.1)).2.1, r.2.2 ++ ((chP B n (unP B n (if lm = 5 then 8 else 6) 1) (opA B n)) (nxP B n r.2.1)).2.2 ++ [(opO B n) r.2.1]) (frM_tr of14 (frM_su o20 (by decide) (by decide))) (by rw [o20.2.2 16 (by decide)]; exact d14) (psM_of hp14 (o20.2.2 8 (by decide)) (o20.2.2 9 (by decide)) (o20.2.2 10 (by decide)) (o20.2.2 11 (by decide)) (o20.2.2 12 (by decide)) (o20.2.2 13 (by decide))) (fun _ => okM_ap (by omega) (by rw [List.length_append]; omega) (okM_ap (by omega) (by omega) hk3 (okM_cg (k14b hq) w7 rfl)) ?_) (fun _ => ?_) (fun _ => ?_) ?_ (by omega)
            · rw [List.length_append, ← Nat.add_assoc, hop]
              exact okM_one (by omega) a20 b20 c20 (by rw [e18_z]; rfl)
            · show p ≤ ((chP B n (unP B n (if lm = 5 then 8 else 6) 1) (opA B n)) (nxP B n r.2.1)).2.1 ∧ ((chP B n (unP B n (if lm = 5 then 8 else 6) 1) (opA B n)) (nxP B n r.2.1)).2.1 ≤ n ∧ (r.2.2 ++ ((chP B n (unP B n (if lm = 5 then 8 else 6) 1) (opA B n)) (nxP B n r.2.1)).2.2 ++ [(opO B n) r.2.1]).length + p ≤ ((chP B n (unP B n (if lm = 5 then 8 else 6) 1) (opA B n)) (nxP B n r.2.1)).2.1
              rw [List.length_append, List.length_append, List.length_singleton]
              omega
            · show n ≤ k2_z + ((chP B n (unP B n (if lm = 5 then 8 else 6) 1) (opA B n)) (nxP B n r.2.1)).2.1
              omega
            · exact (lpP_on hr hop0 hq).symm.trans hR
          · have nb : ∀ g : Nat → Nat → Int32, psM B n g A ((chP B n (unP B n (if lm = 5 then 8 else 6) 1) (opA B n)) (nxP B n r.2.1)).1 ((chP B n (unP B n (if lm = 5 then 8 else 6) 1) (opA B n)) (nxP B n r.2.1)).2.1 → (g A 12).toInt ≠ 0 := fun g h_z => by rw [h_z.1]; omega
            refine r_aloadR0 dX12_readTruth_4 ?_
            refine k_ldc (hld _ (List.mem_of_getElem? (i := 0) rfl)) dX12_readTruth_5 ?_
            refine q_callV1 zm_RX12_142 dX12_readTruth_7 (shM_k hs) (by decide) rfl (Nat.le_of_ble_eq_true rfl) (Nat.le_of_ble_eq_true rfl) (Nat.le_of_ble_eq_true rfl) (Nat.le_of_ble_eq_true rfl) (Nat.le_of_ble_eq_true rfl) (s_X12_took_t (i := 6) G hs kw (by decide) htp2 hps2 hc_z (fun r7 g7 e7_z o7 p7 => ?_))
            have htp7 := tpM_of htp2 (o7.2.1 5 (by decide) (by decide) (by decide)) (o7.2.2 7 (by decide))
            have w7 : g7 (A + 2) = f2_z (A + 2) := o7.2.1 2 (by decide) (by decide) (by decide)
            refine t_ifeq (t := 26) dX12_readTruth_10 (by decide) (fun h10 => False.elim (by omega)) (fun h10 => ?_)
            refine r_aloadR0 dX12_readTruth_13 ?_
            refine q_callV0 zm_RX12_157 dX12_readTruth_14 (shM_k hs) (by decide) rfl (Nat.le_of_ble_eq_true rfl) (Nat.le_of_ble_eq_true rfl) (Nat.le_of_ble_eq_true rfl) (Nat.le_of_ble_eq_true rfl) (Nat.le_of_ble_eq_true rfl) (s_X12_readBoth_1 (lm := lm) (la := la) (u := u + r.2.2.length) G hs kw hld htp7 p7 (by rw [o7.2.2 16 (by decide)]; exact hd2) (by rw [o7.2.2 17 (by decide), ofr.2.2 17 (by decide)]; exact hlm) (by rw [o7.2.2 18 (by decide), ofr.2.2 18 (by decide)]; exact hla) (by rw [w7]; exact hk3.1) h5 h29 h99 (by omega) (fun g14 o14 d14 p14 k14 => ?_))
            have of14 : frM A [2] [8, 9, 10, 11, 12, 13, 16] f g14 := frM_tr ofr (frM_tr (frM_su o7 (by decide) (by decide)) o14)
            have p14b : psM B n g14 A ((chP B n (unP B n (if lm = 5 then 8 else 6) 1) (opA B n)) (nxP B n r.2.1)).1 ((chP B n (unP B n (if lm = 5 then 8 else 6) 1) (opA B n)) (nxP B n r.2.1)).2.1 := p14
            have k14b : ((chP B n (unP B n (if lm = 5 then 8 else 6) 1) (opA B n)) (nxP B n r.2.1)).1 = 0 → okM g7 g14 A lm la (u + r.2.2.length) ((chP B n (unP B n (if lm = 5 then 8 else 6) 1) (opA B n)) (nxP B n r.2.1)).2.2 := k14
            refine r_aloadR0 dX12_readTruth_17 ?_
            refine n_bipush dX12_readTruth_18 (by decide) (fun r18 e18_z => ?_)
            refine q_callV1 zm_RX12_162 dX12_readTruth_20 (shM_k hs) (by decide) rfl (Nat.le_of_ble_eq_true rfl) (Nat.le_of_ble_eq_true rfl) (Nat.le_of_ble_eq_true rfl) (Nat.le_of_ble_eq_true rfl) (Nat.le_of_ble_eq_true rfl) (s_X12_laysStep_x G hs (nb _ p14b) ?_)
            refine r_goto (t := 4) dX12_readTruth_23 (by decide) ?_
            exact ih _ k2_z ((chP B n (unP B n (if lm = 5 then 8 else 6) 1) (opA B n)) (nxP B n r.2.1)) of14 d14 p14b (fun h_z => absurd h_z hq) (fun h_z => absurd h_z hq) (fun h_z => absurd h_z hq) ((lpP_bad hq).trans ((lpP_sub hr hop0 hq).symm.trans hR)) (by omega)
        · have hop : (opO B n) r.2.1 = 0 := if_neg hc_z
          have hv := (lpP_end (B := B) (n := n) (k := k) (sub := (chP B n (unP B n (if lm = 5 then 8 else 6) 1) (opA B n))) hop).symm.trans hR
          refine r_aloadR0 dX12_readTruth_4 ?_
          refine k_ldc (hld _ (List.mem_of_getElem? (i := 0) rfl)) dX12_readTruth_5 ?_
          refine q_callV1 zm_RX12_142 dX12_readTruth_7 (shM_k hs) (by decide) rfl (Nat.le_of_ble_eq_true rfl) (Nat.le_of_ble_eq_true rfl) (Nat.le_of_ble_eq_true rfl) (Nat.le_of_ble_eq_true rfl) (Nat.le_of_ble_eq_true rfl) (s_X12_took_f (i := 6) G hs kw (by decide) htp2 hps2 hc_z (fun r7 e7_z => ?_))
          refine t_ifeq (t := 26) dX12_readTruth_10 (by decide) (fun h10 => ?_) (fun h10 => False.elim (by omega))
          refine r_vret dX12_readTruth_26 rfl (Nat.le_of_ble_eq_true rfl) (Nat.le_of_ble_eq_true rfl) ?_
          rw [← hv] at hQ
          exact hQ _ ofr hd2 hp2 hk2
      · have hb2 : (f2_z A 12).toInt ≠ 0 := by rw [hp2.1]; omega
        have hv := (lpP_bad (B := B) (n := n) (k := k) (sub := (chP B n (unP B n (if lm = 5 then 8 else 6) 1) (opA B n))) (op := (opO B n)) hr).symm.trans hR
        refine r_aloadR0 dX12_readTruth_4 ?_
        refine k_ldc (hld _ (List.mem_of_getElem? (i := 0) rfl)) dX12_readTruth_5 ?_
        refine q_callV1 zm_RX12_142 dX12_readTruth_7 (shM_k hs) (by decide) rfl (Nat.le_of_ble_eq_true rfl) (Nat.le_of_ble_eq_true rfl) (Nat.le_of_ble_eq_true rfl) (Nat.le_of_ble_eq_true rfl) (Nat.le_of_ble_eq_true rfl) (s_X12_took_x (i := 6) (B := fun _ => 0) (n := 0) G hs kw (by decide) hb2 (fun r7 e7_z => ?_))
        refine t_ifeq (t := 26) dX12_readTruth_10 (by decide) (fun h10 => ?_) (fun h10 => False.elim (by omega))
        refine r_vret dX12_readTruth_26 rfl (Nat.le_of_ble_eq_true rfl) (Nat.le_of_ble_eq_true rfl) ?_
        rw [← hv] at hQ
        exact hQ _ ofr hd2 hp2 hk2
  refine r_aloadR0 dX12_readTruth_0 ?_
  refine q_callV0 zm_RX12_157 dX12_readTruth_1 (shM_k hs) (by decide) rfl (Nat.le_of_ble_eq_true rfl) (Nat.le_of_ble_eq_true rfl) (Nat.le_of_ble_eq_true rfl) (Nat.le_of_ble_eq_true rfl) (Nat.le_of_ble_eq_true rfl) (s_X12_readBoth_1 G hs kw hld htp hps hd16 hlm hla hu h5 h29 h99 hup (fun g1 o1 d1 p1 k1_z => ?_))
  have gp := hgd p ht.1
  exact lp _ g1 n ((chP B n (unP B n (if lm = 5 then 8 else 6) 1) (opA B n)) p) o1 d1 p1 k1_z (fun h_z => ⟨Nat.le_of_lt (gp.1 h_z).1, (gp.1 h_z).2.1, (gp.1 h_z).2.2.1⟩) (fun _ => Nat.le_add_right n _) rfl (Nat.lt_succ_self n)
set_option maxHeartbeats 4000000 in
set_option maxRecDepth 100000 in
theorem s_X12_readUnit_2 {g : zGT} {w : zW} {f : Nat → Nat → Int32} {j : Nat → Nat → Int64} {A : Nat} {B : Nat → Nat} {n : Nat} {wa wv : Nat → Nat} {kq : Nat} {p lm la u : Nat} {Q : Option Value → zW → Prop} {QX : String → zW → Prop} (G : zGok g) (hs : shM w A) (kw : kWd g wa wv kq) (hld : kLd g wa) (htp : tpM B n f A) (hps : psM B n f A 0 p) (hd16 : (f A 16).toInt = 4) (hlm : (f A 17).toInt = (lm : Nat)) (hla : (f A 18).toInt = (la : Nat)) (hu : (f (A + 2) lm).toInt = (u : Nat)) (h5 : lm ≤ 5) (h29 : 209 ≤ la) (h99 : la ≤ 2009) (hup : u ≤ p) (hQ : ∀ f2_z, frM A [2] [8, 9, 10, 11, 12, 13, 16] f f2_z → (f2_z A 16).toInt = 4 → psM B n f2_z A (unP B n (if lm = 5 then 8 else 6) 2 p).1 (unP B n (if lm = 5 then 8 else 6) 2 p).2.1 → ((unP B n (if lm = 5 then 8 else 6) 2 p).1 = 0 → okM f f2_z A lm la u (unP B n (if lm = 5 then 8 else 6) 2 p).2.2) → Q none (zM w f2_z j)) : zC g 48 yX12_readUnit cX12_readUnit 2 none [.ref A] (zM w f j) (0, 0) Q QX := by
  refine zC_of G (by decide +kernel) (Nat.le_of_ble_eq_true rfl) ?_
  have ht := hps.2.1 rfl
  have h12 := hps.1
  have hte := teP_le (B := B) ht.1
  have h900 := htp.2.1
  have h10 := ht.2.2.2.1
  have hsm : ∀ s, s ≤ n → gdP n false (if lm = 5 then 8 else 6) (1 + 2 * 2 + 2) s (smP B n (if lm = 5 then 8 else 6) 2 s) := fun s hs9 => gd_su (gd_at (by split <;> decide) 2) hs9
  by_cases hw : isWd B n p 8 = true
  · have hv : unP B n (if lm = 5 then 8 else 6) 2 p = noP ((unP B n (if lm = 5 then 8 else 6) 1) (nxP B n p)) := if_pos hw
    rw [hv] at hQ
    have hwt := isWd_tk hw
    have hpn := tk_lt (B := B) (n := n) (s := p) (by rw [hwt.1]; decide)
    have hnx := nxP_gt (B := B) hpn
    have hgu : gdP n true (if lm = 5 then 8 else 6) (4 + 2 * 1) (nxP B n p) ((unP B n (if lm = 5 then 8 else 6) 1) (nxP B n p)) := gd_un (by split <;> decide) 1 _ hnx.2
    by_cases hr : ((unP B n (if lm = 5 then 8 else 6) 1) (nxP B n p)).1 = 0
    · have hv2 : noP ((unP B n (if lm = 5 then 8 else 6) 1) (nxP B n p)) = (0, ((unP B n (if lm = 5 then 8 else 6) 1) (nxP B n p)).2.1, ((unP B n (if lm = 5 then 8 else 6) 1) (nxP B n p)).2.2 ++ [2000]) := if_neg (not_not_intro hr)
      rw [hv2] at hQ
      obtain ⟨y1, y2, y3, y4⟩ := hgu.1 hr
      refine r_aloadR0 dX12_readUnit_0 ?_
      refine m_getV (x := (f A 12)) zf_RX12_112 rfl dX12_readUnit_1 (shM_k hs) (rfl) ?_
      refine t_ifeq (t := 8) dX12_readUnit_4 (by decide) (fun h4 => ?_) (fun h4 => False.elim (by omega))
      refine r_aloadR0 dX12_readUnit_8 ?_
      refine k_ldc (hld _ (List.mem_of_getElem? (i := 2) rfl)) dX12_readUnit_9 ?_
      refine q_callV1 zm_RX12_127 dX12_readUnit_11 (shM_k hs) (by decide) rfl (Nat.le_of_ble_eq_true rfl) (Nat.le_of_ble_eq_true rfl) (Nat.le_of_ble_eq_true rfl) (Nat.le_of_ble_eq_true rfl) (Nat.le_of_ble_eq_true rfl) (s_X12_isWord (i := 8) G hs kw (by decide) htp hps (fun r11 e11_z => ?_))
      have e11b : r11.toInt = 1 := e11_z.elim (fun h_z => h_z.1) (fun h_z => absurd hw h_z.2)
      refine t_ifeq (t := 44) dX12_readUnit_14 (by decide) (fun h14 => False.elim (by omega)) (fun h14 => ?_)
      refine r_aloadR0 dX12_readUnit_17 ?_
      refine q_callV0 zm_RX12_172 dX12_readUnit_18 (shM_k hs) (by decide) rfl (Nat.le_of_ble_eq_true rfl) (Nat.le_of_ble_eq_true rfl) (Nat.le_of_ble_eq_true rfl) (Nat.le_of_ble_eq_true rfl) (Nat.le_of_ble_eq_true rfl) (s_X12_goesIn (d := 4) G hs htp hps hd16 (by decide) (by rw [hwt.1]; decide) (fun g18 o18 a18 b18 c18 => ?_))
      have p18 := c18 (by decide)
      have htp18 := tpM_of htp (o18.2.1 5 (by decide) (by decide) (by decide)) (o18.2.2 7 (by decide))
      have w18 : g18 (A + 2) = f (A + 2) := o18.2.1 2 (by decide) (by decide) (by decide)
      refine r_aloadR0 dX12_readUnit_21 ?_
      refine q_callV0 zm_RX12_165 dX12_readUnit_22 (shM_k hs) (by decide) rfl (Nat.le_of_ble_eq_true rfl) (Nat.le_of_ble_eq_true rfl) (Nat.le_of_ble_eq_true rfl) (Nat.le_of_ble_eq_true rfl) (Nat.le_of_ble_eq_true rfl) (s_X12_readUnit_1 (lm := lm) (la := la) (u := u) G hs kw hld htp18 p18 (by rw [a18]; rfl) (by rw [o18.2.2 17 (by decide)]; exact hlm) (by rw [o18.2.2 18 (by decide)]; exact hla) (by rw [w18]; exact hu) h5 h29 h99 (by omega) (fun g22 o22 d22 p22 k22 => ?_))
      have of22 : frM A [2] [8, 9, 10, 11, 12, 13, 16] f g22 := frM_tr (frM_su o18 (by decide) (by decide)) o22
      refine r_aloadR0 dX12_readUnit_25 ?_
      refine n_bipush dX12_readUnit_26 (by decide) (fun r26 e26_z => ?_)
      refine q_callV1 zm_RX12_162 dX12_readUnit_28 (shM_k hs) (by decide) rfl (Nat.le_of_ble_eq_true rfl) (Nat.le_of_ble_eq_true rfl) (Nat.le_of_ble_eq_true rfl) (Nat.le_of_ble_eq_true rfl) (Nat.le_of_ble_eq_true rfl) (s_X12_laysStep (lm := lm) (la := la) (u := u + ((unP B n (if lm = 5 then 8 else 6) 1) (nxP B n p)).2.2.length) G hs (by have := p22.1; rw [hr] at this; exact this) (by rw [of22.2.2 17 (by decide)]; exact hlm) (by rw [of22.2.2 18 (by decide)]; exact hla) (k22 hr).1 h5 h29 (by omega) (fun g28 o28 a28 b28 c28 => ?_))
      have d28 : (g28 A 16).toInt = 5 := by rw [o28.2.2 16 (by decide)]; exact d22
      have p22b := p22
      rw [hr] at p22b
      refine r_aloadR0 dX12_readUnit_31 ?_
      refine r_dup dX12_readUnit_32 rfl ?_
      refine m_getV (x := (g28 A 16)) zf_RX12_154 rfl dX12_readUnit_33 (shM_k hs) (rfl) ?_
      refine n_iconst dX12_readUnit_36 (by decide) (fun r36 e36 => ?_)
      refine n_isub dX12_readUnit_37 (by omega) (fun r37 e37 => ?_)
      refine m_putI zf_RX12_154 (by intro C T N h_z; cases h_z; rfl) rfl dX12_readUnit_38 (shM_k hs) ?_
      obtain ⟨g38, hg38⟩ : ∃ g9, g9 = zu g28 A 16 r37 := ⟨_, rfl⟩
      rw [← hg38]
      have og38 : frM A [] [16] g28 g38 := by rw [hg38]; exact frM_zk frM_rf (by decide)
      have vg38 : g38 A 16 = r37 := by rw [hg38]; exact zu_at
      have vt38 : (g38 A 16).toInt = r37.toInt := by rw [vg38]
      refine r_goto (t := 155) dX12_readUnit_41 (by decide) ?_
      refine r_vret dX12_readUnit_155 rfl (Nat.le_of_ble_eq_true rfl) (Nat.le_of_ble_eq_true rfl) ?_
      exact hQ _ (frM_tr (frM_tr of22 (frM_su o28 (by decide) (by decide))) (frM_su og38 (by decide) (by decide))) (by rw [vt38]; omega) (psM_of (psM_of p22b (o28.2.2 8 (by decide)) (o28.2.2 9 (by decide)) (o28.2.2 10 (by decide)) (o28.2.2 11 (by decide)) (o28.2.2 12 (by decide)) (o28.2.2 13 (by decide))) (og38.2.2 8 (by decide)) (og38.2.2 9 (by decide)) (og38.2.2 10 (by decide)) (og38.2.2 11 (by decide)) (og38.2.2 12 (by decide)) (og38.2.2 13 (by decide))) (fun _ => okM_cg (okM_ap (by omega) (by omega) (k22 hr) (okM_one (by omega) a28 b28 c28 (by rw [e26_z]; rfl))) w18 (og38.2.1 2 (by decide) (by decide) (by decide)))
    · have hv2 : noP ((unP B n (if lm = 5 then 8 else 6) 1) (nxP B n p)) = ((unP B n (if lm = 5 then 8 else 6) 1) (nxP B n p)) := if_pos hr
      rw [hv2] at hQ
      refine r_aloadR0 dX12_readUnit_0 ?_
      refine m_getV (x := (f A 12)) zf_RX12_112 rfl dX12_readUnit_1 (shM_k hs) (rfl) ?_
      refine t_ifeq (t := 8) dX12_readUnit_4 (by decide) (fun h4 => ?_) (fun h4 => False.elim (by omega))
      refine r_aloadR0 dX12_readUnit_8 ?_
      refine k_ldc (hld _ (List.mem_of_getElem? (i := 2) rfl)) dX12_readUnit_9 ?_
      refine q_callV1 zm_RX12_127 dX12_readUnit_11 (shM_k hs) (by decide) rfl (Nat.le_of_ble_eq_true rfl) (Nat.le_of_ble_eq_true rfl) (Nat.le_of_ble_eq_true rfl) (Nat.le_of_ble_eq_true rfl) (Nat.le_of_ble_eq_true rfl) (s_X12_isWord (i := 8) G hs kw (by decide) htp hps (fun r11 e11_z => ?_))
      have e11b : r11.toInt = 1 := e11_z.elim (fun h_z => h_z.1) (fun h_z => absurd hw h_z.2)
      refine t_ifeq (t := 44) dX12_readUnit_14 (by decide) (fun h14 => False.elim (by omega)) (fun h14 => ?_)
      refine r_aloadR0 dX12_readUnit_17 ?_
      refine q_callV0 zm_RX12_172 dX12_readUnit_18 (shM_k hs) (by decide) rfl (Nat.le_of_ble_eq_true rfl) (Nat.le_of_ble_eq_true rfl) (Nat.le_of_ble_eq_true rfl) (Nat.le_of_ble_eq_true rfl) (Nat.le_of_ble_eq_true rfl) (s_X12_goesIn (d := 4) G hs htp hps hd16 (by decide) (by rw [hwt.1]; decide) (fun g18 o18 a18 b18 c18 => ?_))
      have p18 := c18 (by decide)
      have htp18 := tpM_of htp (o18.2.1 5 (by decide) (by decide) (by decide)) (o18.2.2 7 (by decide))
      have w18 : g18 (A + 2) = f (A + 2) := o18.2.1 2 (by decide) (by decide) (by decide)
      refine r_aloadR0 dX12_readUnit_21 ?_
      refine q_callV0 zm_RX12_165 dX12_readUnit_22 (shM_k hs) (by decide) rfl (Nat.le_of_ble_eq_true rfl) (Nat.le_of_ble_eq_true rfl) (Nat.le_of_ble_eq_true rfl) (Nat.le_of_ble_eq_true rfl) (Nat.le_of_ble_eq_true rfl) (s_X12_readUnit_1 (lm := lm) (la := la) (u := u) G hs kw hld htp18 p18 (by rw [a18]; rfl) (by rw [o18.2.2 17 (by decide)]; exact hlm) (by rw [o18.2.2 18 (by decide)]; exact hla) (by rw [w18]; exact hu) h5 h29 h99 (by omega) (fun g22 o22 d22 p22 k22 => ?_))
      have of22 : frM A [2] [8, 9, 10, 11, 12, 13, 16] f g22 := frM_tr (frM_su o18 (by decide) (by decide)) o22
      refine r_aloadR0 dX12_readUnit_25 ?_
      refine n_bipush dX12_readUnit_26 (by decide) (fun r26 e26_z => ?_)
      refine q_callV1 zm_RX12_162 dX12_readUnit_28 (shM_k hs) (by decide) rfl (Nat.le_of_ble_eq_true rfl) (Nat.le_of_ble_eq_true rfl) (Nat.le_of_ble_eq_true rfl) (Nat.le_of_ble_eq_true rfl) (Nat.le_of_ble_eq_true rfl) (s_X12_laysStep_x G hs (by rw [p22.1]; omega) ?_)
      have d22b : (g22 A 16).toInt = 5 := d22
      refine r_aloadR0 dX12_readUnit_31 ?_
      refine r_dup dX12_readUnit_32 rfl ?_
      refine m_getV (x := (g22 A 16)) zf_RX12_154 rfl dX12_readUnit_33 (shM_k hs) (rfl) ?_
      refine n_iconst dX12_readUnit_36 (by decide) (fun r36 e36 => ?_)
      refine n_isub dX12_readUnit_37 (by omega) (fun r37 e37 => ?_)
      refine m_putI zf_RX12_154 (by intro C T N h_z; cases h_z; rfl) rfl dX12_readUnit_38 (shM_k hs) ?_
      obtain ⟨g38, hg38⟩ : ∃ g9, g9 = zu g22 A 16 r37 := ⟨_, rfl⟩
      rw [← hg38]
      have og38 : frM A [] [16] g22 g38 := by rw [hg38]; exact frM_zk frM_rf (by decide)
      have vg38 : g38 A 16 = r37 := by rw [hg38]; exact zu_at
      have vt38 : (g38 A 16).toInt = r37.toInt := by rw [vg38]
      refine r_goto (t := 155) dX12_readUnit_41 (by decide) ?_
      refine r_vret dX12_readUnit_155 rfl (Nat.le_of_ble_eq_true rfl) (Nat.le_of_ble_eq_true rfl) ?_
      exact hQ _ (frM_tr of22 (frM_su og38 (by decide) (by decide))) (by rw [vt38]; omega) (psM_of p22 (og38.2.2 8 (by decide)) (og38.2.2 9 (by decide)) (og38.2.2 10 (by decide)) (og38.2.2 11 (by decide)) (og38.2.2 12 (by decide)) (og38.2.2 13 (by decide))) (fun h_z => absurd h_z hr)
  have hrk := rk4 (B := B) (n := n) (s := p) (c := 91) (by decide)
  by_cases hp : tkP B n p = 91
  · have hv : unP B n (if lm = 5 then 8 else 6) 2 p = clP B n 93 (trU B n (unP B n (if lm = 5 then 8 else 6) 1) (nxP B n p)) := (if_neg hw).trans (if_pos hp)
    rw [hv] at hQ
    have h10b := hrk.mpr hp
    have hpn := tk_lt (B := B) (n := n) (s := p) (by rw [hp]; decide)
    have hnx := nxP_gt (B := B) hpn
    by_cases hr : (trU B n (unP B n (if lm = 5 then 8 else 6) 1) (nxP B n p)).1 = 0
    · by_cases h93 : tkP B n (trU B n (unP B n (if lm = 5 then 8 else 6) 1) (nxP B n p)).2.1 = 93
      · have hv2 : clP B n 93 (trU B n (unP B n (if lm = 5 then 8 else 6) 1) (nxP B n p)) = (0, nxP B n (trU B n (unP B n (if lm = 5 then 8 else 6) 1) (nxP B n p)).2.1, (trU B n (unP B n (if lm = 5 then 8 else 6) 1) (nxP B n p)).2.2) := (if_neg (not_not_intro hr)).trans (if_pos h93)
        rw [hv2] at hQ
        refine r_aloadR0 dX12_readUnit_0 ?_
        refine m_getV (x := (f A 12)) zf_RX12_112 rfl dX12_readUnit_1 (shM_k hs) (rfl) ?_
        refine t_ifeq (t := 8) dX12_readUnit_4 (by decide) (fun h4 => ?_) (fun h4 => False.elim (by omega))
        refine r_aloadR0 dX12_readUnit_8 ?_
        refine k_ldc (hld _ (List.mem_of_getElem? (i := 2) rfl)) dX12_readUnit_9 ?_
        refine q_callV1 zm_RX12_127 dX12_readUnit_11 (shM_k hs) (by decide) rfl (Nat.le_of_ble_eq_true rfl) (Nat.le_of_ble_eq_true rfl) (Nat.le_of_ble_eq_true rfl) (Nat.le_of_ble_eq_true rfl) (Nat.le_of_ble_eq_true rfl) (s_X12_isWord (i := 8) G hs kw (by decide) htp hps (fun r11 e11_z => ?_))
        have e11b : r11.toInt = 0 := e11_z.elim (fun h_z => absurd h_z.2 hw) (fun h_z => h_z.1)
        refine t_ifeq (t := 44) dX12_readUnit_14 (by decide) (fun h14 => ?_) (fun h14 => False.elim (by omega))
        refine r_aloadR0 dX12_readUnit_44 ?_
        refine n_bipush dX12_readUnit_45 (by decide) (fun r45 e45 => ?_)
        refine q_callV1 zm_RX12_175 dX12_readUnit_47 (shM_k hs) (by decide) rfl (Nat.le_of_ble_eq_true rfl) (Nat.le_of_ble_eq_true rfl) (Nat.le_of_ble_eq_true rfl) (Nat.le_of_ble_eq_true rfl) (Nat.le_of_ble_eq_true rfl) (s_X12_isSign G hs (fun r47 e47 => ?_))
        refine t_ifeq (t := 80) dX12_readUnit_50 (by decide) (fun h50 => False.elim (by omega)) (fun h50 => ?_)
        refine r_aloadR0 dX12_readUnit_53 ?_
        refine q_callV0 zm_RX12_172 dX12_readUnit_54 (shM_k hs) (by decide) rfl (Nat.le_of_ble_eq_true rfl) (Nat.le_of_ble_eq_true rfl) (Nat.le_of_ble_eq_true rfl) (Nat.le_of_ble_eq_true rfl) (Nat.le_of_ble_eq_true rfl) (s_X12_goesIn (d := 4) G hs htp hps hd16 (by decide) (by rw [hp]; decide) (fun g54 o54 a54 b54 c54 => ?_))
        have p54 := c54 (by decide)
        have htp54 := tpM_of htp (o54.2.1 5 (by decide) (by decide) (by decide)) (o54.2.2 7 (by decide))
        have w54 : g54 (A + 2) = f (A + 2) := o54.2.1 2 (by decide) (by decide) (by decide)
        refine r_aloadR0 dX12_readUnit_57 ?_
        refine q_callV0 zm_RX12_178 dX12_readUnit_58 (shM_k hs) (by decide) rfl (Nat.le_of_ble_eq_true rfl) (Nat.le_of_ble_eq_true rfl) (Nat.le_of_ble_eq_true rfl) (Nat.le_of_ble_eq_true rfl) (Nat.le_of_ble_eq_true rfl) (s_X12_readTruth_1 (lm := lm) (la := la) (u := u) G hs kw hld htp54 p54 (by rw [a54]; rfl) (by rw [o54.2.2 17 (by decide)]; exact hlm) (by rw [o54.2.2 18 (by decide)]; exact hla) (by rw [w54]; exact hu) h5 h29 h99 (by omega) (fun g58 o58 d58 p58 k58 => ?_))
        have p58b : psM B n g58 A (trU B n (unP B n (if lm = 5 then 8 else 6) 1) (nxP B n p)).1 (trU B n (unP B n (if lm = 5 then 8 else 6) 1) (nxP B n p)).2.1 := p58
        have of58 : frM A [2] [8, 9, 10, 11, 12, 13, 16] f g58 := frM_tr (frM_su o54 (by decide) (by decide)) o58
        have htp58 := tpM_of htp (of58.2.1 5 (by decide) (by decide) (by decide)) (of58.2.2 7 (by decide))
        have p58c := p58b
        rw [hr] at p58c
        refine r_aloadR0 dX12_readUnit_61 ?_
        refine n_bipush dX12_readUnit_62 (by decide) (fun r62 e62 => ?_)
        refine q_callV1 zm_RX12_151 dX12_readUnit_64 (shM_k hs) (by decide) rfl (Nat.le_of_ble_eq_true rfl) (Nat.le_of_ble_eq_true rfl) (Nat.le_of_ble_eq_true rfl) (Nat.le_of_ble_eq_true rfl) (Nat.le_of_ble_eq_true rfl) (s_X12_mustSign (p := (trU B n (unP B n (if lm = 5 then 8 else 6) 1) (nxP B n p)).2.1) (c := 93) G hs htp58 p58c e62 (by decide) (fun g64 o64 a64 b64 => ?_))
        have d64 : (g64 A 16).toInt = 5 := by rw [o64.2.2 16 (by decide)]; exact d58
        refine r_aloadR0 dX12_readUnit_67 ?_
        refine r_dup dX12_readUnit_68 rfl ?_
        refine m_getV (x := (g64 A 16)) zf_RX12_154 rfl dX12_readUnit_69 (shM_k hs) (rfl) ?_
        refine n_iconst dX12_readUnit_72 (by decide) (fun r72 e72_z => ?_)
        refine n_isub dX12_readUnit_73 (by omega) (fun r73 e73 => ?_)
        refine m_putI zf_RX12_154 (by intro C T N h_z; cases h_z; rfl) rfl dX12_readUnit_74 (shM_k hs) ?_
        obtain ⟨g74, hg74⟩ : ∃ g9, g9 = zu g64 A 16 r73 := ⟨_, rfl⟩
        rw [← hg74]
        have og74 : frM A [] [16] g64 g74 := by rw [hg74]; exact frM_zk frM_rf (by decide)
        have vg74 : g74 A 16 = r73 := by rw [hg74]; exact zu_at
        have vt74 : (g74 A 16).toInt = r73.toInt := by rw [vg74]
        refine r_goto (t := 155) dX12_readUnit_77 (by decide) ?_
        refine r_vret dX12_readUnit_155 rfl (Nat.le_of_ble_eq_true rfl) (Nat.le_of_ble_eq_true rfl) ?_
        exact hQ _ (frM_tr (frM_tr of58 (frM_su o64 (by decide) (by decide))) (frM_su og74 (by decide) (by decide))) (by rw [vt74]; omega) (psM_of (a64 h93) (og74.2.2 8 (by decide)) (og74.2.2 9 (by decide)) (og74.2.2 10 (by decide)) (og74.2.2 11 (by decide)) (og74.2.2 12 (by decide)) (og74.2.2 13 (by decide))) (fun _ => okM_cg (k58 hr) w54 ((og74.2.1 2 (by decide) (by decide) (by decide)).trans (o64.2.1 2 (by decide) (by decide) (by decide))))
      · have hv2 : clP B n 93 (trU B n (unP B n (if lm = 5 then 8 else 6) 1) (nxP B n p)) = (baP B n (trU B n (unP B n (if lm = 5 then 8 else 6) 1) (nxP B n p)).2.1, (trU B n (unP B n (if lm = 5 then 8 else 6) 1) (nxP B n p)).2.1, []) := (if_neg (not_not_intro hr)).trans (if_neg h93)
        rw [hv2] at hQ
        refine r_aloadR0 dX12_readUnit_0 ?_
        refine m_getV (x := (f A 12)) zf_RX12_112 rfl dX12_readUnit_1 (shM_k hs) (rfl) ?_
        refine t_ifeq (t := 8) dX12_readUnit_4 (by decide) (fun h4 => ?_) (fun h4 => False.elim (by omega))
        refine r_aloadR0 dX12_readUnit_8 ?_
        refine k_ldc (hld _ (List.mem_of_getElem? (i := 2) rfl)) dX12_readUnit_9 ?_
        refine q_callV1 zm_RX12_127 dX12_readUnit_11 (shM_k hs) (by decide) rfl (Nat.le_of_ble_eq_true rfl) (Nat.le_of_ble_eq_true rfl) (Nat.le_of_ble_eq_true rfl) (Nat.le_of_ble_eq_true rfl) (Nat.le_of_ble_eq_true rfl) (s_X12_isWord (i := 8) G hs kw (by decide) htp hps (fun r11 e11_z => ?_))
        have e11b : r11.toInt = 0 := e11_z.elim (fun h_z => absurd h_z.2 hw) (fun h_z => h_z.1)
        refine t_ifeq (t := 44) dX12_readUnit_14 (by decide) (fun h14 => ?_) (fun h14 => False.elim (by omega))
        refine r_aloadR0 dX12_readUnit_44 ?_
        refine n_bipush dX12_readUnit_45 (by decide) (fun r45 e45 => ?_)
        refine q_callV1 zm_RX12_175 dX12_readUnit_47 (shM_k hs) (by decide) rfl (Nat.le_of_ble_eq_true rfl) (Nat.le_of_ble_eq_true rfl) (Nat.le_of_ble_eq_true rfl) (Nat.le_of_ble_eq_true rfl) (Nat.le_of_ble_eq_true rfl) (s_X12_isSign G hs (fun r47 e47 => ?_))
        refine t_ifeq (t := 80) dX12_readUnit_50 (by decide) (fun h50 => False.elim (by omega)) (fun h50 => ?_)
        refine r_aloadR0 dX12_readUnit_53 ?_
        refine q_callV0 zm_RX12_172 dX12_readUnit_54 (shM_k hs) (by decide) rfl (Nat.le_of_ble_eq_true rfl) (Nat.le_of_ble_eq_true rfl) (Nat.le_of_ble_eq_true rfl) (Nat.le_of_ble_eq_true rfl) (Nat.le_of_ble_eq_true rfl) (s_X12_goesIn (d := 4) G hs htp hps hd16 (by decide) (by rw [hp]; decide) (fun g54 o54 a54 b54 c54 => ?_))
        have p54 := c54 (by decide)
        have htp54 := tpM_of htp (o54.2.1 5 (by decide) (by decide) (by decide)) (o54.2.2 7 (by decide))
        have w54 : g54 (A + 2) = f (A + 2) := o54.2.1 2 (by decide) (by decide) (by decide)
        refine r_aloadR0 dX12_readUnit_57 ?_
        refine q_callV0 zm_RX12_178 dX12_readUnit_58 (shM_k hs) (by decide) rfl (Nat.le_of_ble_eq_true rfl) (Nat.le_of_ble_eq_true rfl) (Nat.le_of_ble_eq_true rfl) (Nat.le_of_ble_eq_true rfl) (Nat.le_of_ble_eq_true rfl) (s_X12_readTruth_1 (lm := lm) (la := la) (u := u) G hs kw hld htp54 p54 (by rw [a54]; rfl) (by rw [o54.2.2 17 (by decide)]; exact hlm) (by rw [o54.2.2 18 (by decide)]; exact hla) (by rw [w54]; exact hu) h5 h29 h99 (by omega) (fun g58 o58 d58 p58 k58 => ?_))
        have p58b : psM B n g58 A (trU B n (unP B n (if lm = 5 then 8 else 6) 1) (nxP B n p)).1 (trU B n (unP B n (if lm = 5 then 8 else 6) 1) (nxP B n p)).2.1 := p58
        have of58 : frM A [2] [8, 9, 10, 11, 12, 13, 16] f g58 := frM_tr (frM_su o54 (by decide) (by decide)) o58
        have htp58 := tpM_of htp (of58.2.1 5 (by decide) (by decide) (by decide)) (of58.2.2 7 (by decide))
        have p58c := p58b
        rw [hr] at p58c
        refine r_aloadR0 dX12_readUnit_61 ?_
        refine n_bipush dX12_readUnit_62 (by decide) (fun r62 e62 => ?_)
        refine q_callV1 zm_RX12_151 dX12_readUnit_64 (shM_k hs) (by decide) rfl (Nat.le_of_ble_eq_true rfl) (Nat.le_of_ble_eq_true rfl) (Nat.le_of_ble_eq_true rfl) (Nat.le_of_ble_eq_true rfl) (Nat.le_of_ble_eq_true rfl) (s_X12_mustSign (p := (trU B n (unP B n (if lm = 5 then 8 else 6) 1) (nxP B n p)).2.1) (c := 93) G hs htp58 p58c e62 (by decide) (fun g64 o64 a64 b64 => ?_))
        have d64 : (g64 A 16).toInt = 5 := by rw [o64.2.2 16 (by decide)]; exact d58
        refine r_aloadR0 dX12_readUnit_67 ?_
        refine r_dup dX12_readUnit_68 rfl ?_
        refine m_getV (x := (g64 A 16)) zf_RX12_154 rfl dX12_readUnit_69 (shM_k hs) (rfl) ?_
        refine n_iconst dX12_readUnit_72 (by decide) (fun r72 e72_z => ?_)
        refine n_isub dX12_readUnit_73 (by omega) (fun r73 e73 => ?_)
        refine m_putI zf_RX12_154 (by intro C T N h_z; cases h_z; rfl) rfl dX12_readUnit_74 (shM_k hs) ?_
        obtain ⟨g74, hg74⟩ : ∃ g9, g9 = zu g64 A 16 r73 := ⟨_, rfl⟩
        rw [← hg74]
        have og74 : frM A [] [16] g64 g74 := by rw [hg74]; exact frM_zk frM_rf (by decide)
        have vg74 : g74 A 16 = r73 := by rw [hg74]; exact zu_at
        have vt74 : (g74 A 16).toInt = r73.toInt := by rw [vg74]
        refine r_goto (t := 155) dX12_readUnit_77 (by decide) ?_
        refine r_vret dX12_readUnit_155 rfl (Nat.le_of_ble_eq_true rfl) (Nat.le_of_ble_eq_true rfl) ?_
        exact hQ _ (frM_tr (frM_tr of58 (frM_su o64 (by decide) (by decide))) (frM_su og74 (by decide) (by decide))) (by rw [vt74]; omega) (psM_of (b64 h93) (og74.2.2 8 (by decide)) (og74.2.2 9 (by decide)) (og74.2.2 10 (by decide)) (og74.2.2 11 (by decide)) (og74.2.2 12 (by decide)) (og74.2.2 13 (by decide))) (fun h_z => absurd h_z ba_bd.1)
    · have hv2 : clP B n 93 (trU B n (unP B n (if lm = 5 then 8 else 6) 1) (nxP B n p)) = (trU B n (unP B n (if lm = 5 then 8 else 6) 1) (nxP B n p)) := if_pos hr
      rw [hv2] at hQ
      refine r_aloadR0 dX12_readUnit_0 ?_
      refine m_getV (x := (f A 12)) zf_RX12_112 rfl dX12_readUnit_1 (shM_k hs) (rfl) ?_
      refine t_ifeq (t := 8) dX12_readUnit_4 (by decide) (fun h4 => ?_) (fun h4 => False.elim (by omega))
      refine r_aloadR0 dX12_readUnit_8 ?_
      refine k_ldc (hld _ (List.mem_of_getElem? (i := 2) rfl)) dX12_readUnit_9 ?_
      refine q_callV1 zm_RX12_127 dX12_readUnit_11 (shM_k hs) (by decide) rfl (Nat.le_of_ble_eq_true rfl) (Nat.le_of_ble_eq_true rfl) (Nat.le_of_ble_eq_true rfl) (Nat.le_of_ble_eq_true rfl) (Nat.le_of_ble_eq_true rfl) (s_X12_isWord (i := 8) G hs kw (by decide) htp hps (fun r11 e11_z => ?_))
      have e11b : r11.toInt = 0 := e11_z.elim (fun h_z => absurd h_z.2 hw) (fun h_z => h_z.1)
      refine t_ifeq (t := 44) dX12_readUnit_14 (by decide) (fun h14 => ?_) (fun h14 => False.elim (by omega))
      refine r_aloadR0 dX12_readUnit_44 ?_
      refine n_bipush dX12_readUnit_45 (by decide) (fun r45 e45 => ?_)
      refine q_callV1 zm_RX12_175 dX12_readUnit_47 (shM_k hs) (by decide) rfl (Nat.le_of_ble_eq_true rfl) (Nat.le_of_ble_eq_true rfl) (Nat.le_of_ble_eq_true rfl) (Nat.le_of_ble_eq_true rfl) (Nat.le_of_ble_eq_true rfl) (s_X12_isSign G hs (fun r47 e47 => ?_))
      refine t_ifeq (t := 80) dX12_readUnit_50 (by decide) (fun h50 => False.elim (by omega)) (fun h50 => ?_)
      refine r_aloadR0 dX12_readUnit_53 ?_
      refine q_callV0 zm_RX12_172 dX12_readUnit_54 (shM_k hs) (by decide) rfl (Nat.le_of_ble_eq_true rfl) (Nat.le_of_ble_eq_true rfl) (Nat.le_of_ble_eq_true rfl) (Nat.le_of_ble_eq_true rfl) (Nat.le_of_ble_eq_true rfl) (s_X12_goesIn (d := 4) G hs htp hps hd16 (by decide) (by rw [hp]; decide) (fun g54 o54 a54 b54 c54 => ?_))
      have p54 := c54 (by decide)
      have htp54 := tpM_of htp (o54.2.1 5 (by decide) (by decide) (by decide)) (o54.2.2 7 (by decide))
      have w54 : g54 (A + 2) = f (A + 2) := o54.2.1 2 (by decide) (by decide) (by decide)
      refine r_aloadR0 dX12_readUnit_57 ?_
      refine q_callV0 zm_RX12_178 dX12_readUnit_58 (shM_k hs) (by decide) rfl (Nat.le_of_ble_eq_true rfl) (Nat.le_of_ble_eq_true rfl) (Nat.le_of_ble_eq_true rfl) (Nat.le_of_ble_eq_true rfl) (Nat.le_of_ble_eq_true rfl) (s_X12_readTruth_1 (lm := lm) (la := la) (u := u) G hs kw hld htp54 p54 (by rw [a54]; rfl) (by rw [o54.2.2 17 (by decide)]; exact hlm) (by rw [o54.2.2 18 (by decide)]; exact hla) (by rw [w54]; exact hu) h5 h29 h99 (by omega) (fun g58 o58 d58 p58 k58 => ?_))
      have p58b : psM B n g58 A (trU B n (unP B n (if lm = 5 then 8 else 6) 1) (nxP B n p)).1 (trU B n (unP B n (if lm = 5 then 8 else 6) 1) (nxP B n p)).2.1 := p58
      have of58 : frM A [2] [8, 9, 10, 11, 12, 13, 16] f g58 := frM_tr (frM_su o54 (by decide) (by decide)) o58
      have htp58 := tpM_of htp (of58.2.1 5 (by decide) (by decide) (by decide)) (of58.2.2 7 (by decide))
      have nb : (g58 A 12).toInt ≠ 0 := by rw [p58b.1]; omega
      have d58b : (g58 A 16).toInt = 5 := d58
      refine r_aloadR0 dX12_readUnit_61 ?_
      refine n_bipush dX12_readUnit_62 (by decide) (fun r62 e62 => ?_)
      refine q_callV1 zm_RX12_151 dX12_readUnit_64 (shM_k hs) (by decide) rfl (Nat.le_of_ble_eq_true rfl) (Nat.le_of_ble_eq_true rfl) (Nat.le_of_ble_eq_true rfl) (Nat.le_of_ble_eq_true rfl) (Nat.le_of_ble_eq_true rfl) (s_X12_mustSign_x G hs nb ?_)
      refine r_aloadR0 dX12_readUnit_67 ?_
      refine r_dup dX12_readUnit_68 rfl ?_
      refine m_getV (x := (g58 A 16)) zf_RX12_154 rfl dX12_readUnit_69 (shM_k hs) (rfl) ?_
      refine n_iconst dX12_readUnit_72 (by decide) (fun r72 e72_z => ?_)
      refine n_isub dX12_readUnit_73 (by omega) (fun r73 e73 => ?_)
      refine m_putI zf_RX12_154 (by intro C T N h_z; cases h_z; rfl) rfl dX12_readUnit_74 (shM_k hs) ?_
      obtain ⟨g74, hg74⟩ : ∃ g9, g9 = zu g58 A 16 r73 := ⟨_, rfl⟩
      rw [← hg74]
      have og74 : frM A [] [16] g58 g74 := by rw [hg74]; exact frM_zk frM_rf (by decide)
      have vg74 : g74 A 16 = r73 := by rw [hg74]; exact zu_at
      have vt74 : (g74 A 16).toInt = r73.toInt := by rw [vg74]
      refine r_goto (t := 155) dX12_readUnit_77 (by decide) ?_
      refine r_vret dX12_readUnit_155 rfl (Nat.le_of_ble_eq_true rfl) (Nat.le_of_ble_eq_true rfl) ?_
      exact hQ _ (frM_tr of58 (frM_su og74 (by decide) (by decide))) (by rw [vt74]; omega) (psM_of p58b (og74.2.2 8 (by decide)) (og74.2.2 9 (by decide)) (og74.2.2 10 (by decide)) (og74.2.2 11 (by decide)) (og74.2.2 12 (by decide)) (og74.2.2 13 (by decide))) (fun h_z => absurd h_z hr)
  have hrk2 : rkP B n p ≠ 91 := fun h_z => hp (hrk.mp h_z)
  have hv0 : unP B n (if lm = 5 then 8 else 6) 2 p = cmP B n (smP B n (if lm = 5 then 8 else 6) 2) p := (if_neg hw).trans (if_neg hp)
  rw [hv0] at hQ
  by_cases hr : (smP B n (if lm = 5 then 8 else 6) 2 p).1 = 0
  · have p81c : ∀ g, psM B n g A (smP B n (if lm = 5 then 8 else 6) 2 p).1 (smP B n (if lm = 5 then 8 else 6) 2 p).2.1 → psM B n g A 0 (smP B n (if lm = 5 then 8 else 6) 2 p).2.1 := fun g h_z => by rw [hr] at h_z; exact h_z
    obtain ⟨y1, y2, y3, y4⟩ := (hsm p ht.1).1 hr
    have q61 := rk4 (B := B) (n := n) (s := (smP B n (if lm = 5 then 8 else 6) 2 p).2.1) (c := 61) (by decide)
    have q60 := rk4 (B := B) (n := n) (s := (smP B n (if lm = 5 then 8 else 6) 2 p).2.1) (c := 60) (by decide)
    have q62 := rk4 (B := B) (n := n) (s := (smP B n (if lm = 5 then 8 else 6) 2 p).2.1) (c := 62) (by decide)
    by_cases hc_z : tkP B n (smP B n (if lm = 5 then 8 else 6) 2 p).2.1 = 61
    · have h10c := q61.mpr hc_z
      have hop : opC B n (smP B n (if lm = 5 then 8 else 6) 2 p).2.1 = 2006 := if_pos hc_z
      have hop0 : opC B n (smP B n (if lm = 5 then 8 else 6) 2 p).2.1 ≠ 0 := by rw [hop]; decide
      have hln := tk_lt (B := B) (n := n) (s := (smP B n (if lm = 5 then 8 else 6) 2 p).2.1) (by rw [hc_z]; decide)
      have hnx := nxP_gt (B := B) hln
      by_cases hq : (smP B n (if lm = 5 then 8 else 6) 2 (nxP B n (smP B n (if lm = 5 then 8 else 6) 2 p).2.1)).1 = 0
      · obtain ⟨z1, z2, z3, z4⟩ := (hsm _ hnx.2).1 hq
        have hv : cmP B n (smP B n (if lm = 5 then 8 else 6) 2) p = (0, (smP B n (if lm = 5 then 8 else 6) 2 (nxP B n (smP B n (if lm = 5 then 8 else 6) 2 p).2.1)).2.1, (smP B n (if lm = 5 then 8 else 6) 2 p).2.2 ++ (smP B n (if lm = 5 then 8 else 6) 2 (nxP B n (smP B n (if lm = 5 then 8 else 6) 2 p).2.1)).2.2 ++ [opC B n (smP B n (if lm = 5 then 8 else 6) 2 p).2.1]) := (if_neg (not_not_intro hr)).trans ((if_neg hop0).trans (if_neg (not_not_intro hq)))
        rw [hv, hop] at hQ
        refine r_aloadR0 dX12_readUnit_0 ?_
        refine m_getV (x := (f A 12)) zf_RX12_112 rfl dX12_readUnit_1 (shM_k hs) (rfl) ?_
        refine t_ifeq (t := 8) dX12_readUnit_4 (by decide) (fun h4 => ?_) (fun h4 => False.elim (by omega))
        refine r_aloadR0 dX12_readUnit_8 ?_
        refine k_ldc (hld _ (List.mem_of_getElem? (i := 2) rfl)) dX12_readUnit_9 ?_
        refine q_callV1 zm_RX12_127 dX12_readUnit_11 (shM_k hs) (by decide) rfl (Nat.le_of_ble_eq_true rfl) (Nat.le_of_ble_eq_true rfl) (Nat.le_of_ble_eq_true rfl) (Nat.le_of_ble_eq_true rfl) (Nat.le_of_ble_eq_true rfl) (s_X12_isWord (i := 8) G hs kw (by decide) htp hps (fun r11 e11_z => ?_))
        have e11b : r11.toInt = 0 := e11_z.elim (fun h_z => absurd h_z.2 hw) (fun h_z => h_z.1)
        refine t_ifeq (t := 44) dX12_readUnit_14 (by decide) (fun h14 => ?_) (fun h14 => False.elim (by omega))
        refine r_aloadR0 dX12_readUnit_44 ?_
        refine n_bipush dX12_readUnit_45 (by decide) (fun r45 e45 => ?_)
        refine q_callV1 zm_RX12_175 dX12_readUnit_47 (shM_k hs) (by decide) rfl (Nat.le_of_ble_eq_true rfl) (Nat.le_of_ble_eq_true rfl) (Nat.le_of_ble_eq_true rfl) (Nat.le_of_ble_eq_true rfl) (Nat.le_of_ble_eq_true rfl) (s_X12_isSign G hs (fun r47 e47 => ?_))
        refine t_ifeq (t := 80) dX12_readUnit_50 (by decide) (fun h50 => ?_) (fun h50 => False.elim (by omega))
        refine r_aloadR0 dX12_readUnit_80 ?_
        refine q_callV0 zm_RX12_181 dX12_readUnit_81 (shM_k hs) (by decide) rfl (Nat.le_of_ble_eq_true rfl) (Nat.le_of_ble_eq_true rfl) (Nat.le_of_ble_eq_true rfl) (Nat.le_of_ble_eq_true rfl) (Nat.le_of_ble_eq_true rfl) (s_X12_readSum_2 (lm := lm) (la := la) (u := u) G hs kw hld htp hps hd16 hlm hla hu h5 h29 h99 hup (fun g81 o81 d81 p81 k81 => ?_))
        have p81b : psM B n g81 A (smP B n (if lm = 5 then 8 else 6) 2 p).1 (smP B n (if lm = 5 then 8 else 6) 2 p).2.1 := p81
        have k81b : (smP B n (if lm = 5 then 8 else 6) 2 p).1 = 0 → okM f g81 A lm la u (smP B n (if lm = 5 then 8 else 6) 2 p).2.2 := k81
        have p81d := p81c _ p81b
        have t81 := p81d.2.1 rfl
        have h81 := t81.2.2.2.1
        have b81 := p81d.1
        have hte81 := teP_le (B := B) t81.1
        have htp81 := tpM_of htp (o81.2.1 5 (by decide) (by decide) (by decide)) (o81.2.2 7 (by decide))
        have k81c := k81b hr
        refine r_aloadR0 dX12_readUnit_84 ?_
        refine m_getV (x := (g81 A 10)) zf_RX12_92 rfl dX12_readUnit_85 (shM_k hs) (rfl) ?_
        refine r_istore1 dX12_readUnit_88 rfl ?_
        refine r_iload1 dX12_readUnit_89 ?_
        refine n_bipush dX12_readUnit_90 (by decide) (fun r90 e90_z => ?_)
        refine t_iceq (t := 112) dX12_readUnit_92 (by decide) (fun h92 => ?_) (fun h92 => False.elim (by omega))
        refine r_aloadR0 dX12_readUnit_112 ?_
        refine m_getV (x := (g81 A 12)) zf_RX12_112 rfl dX12_readUnit_113 (shM_k hs) (rfl) ?_
        refine t_ifne (t := 123) dX12_readUnit_116 (by decide) (fun h116 => False.elim (by omega)) (fun h116 => ?_)
        refine r_aloadR0 dX12_readUnit_119 ?_
        refine q_callV0 zm_RX12_131 dX12_readUnit_120 (shM_k hs) (by decide) rfl (Nat.le_of_ble_eq_true rfl) (Nat.le_of_ble_eq_true rfl) (Nat.le_of_ble_eq_true rfl) (Nat.le_of_ble_eq_true rfl) (Nat.le_of_ble_eq_true rfl) (s_X12_readsOn (p := teP B n (smP B n (if lm = 5 then 8 else 6) 2 p).2.1) G hs htp81 t81.2.1 hte81 (fun g120 o120 t120 => ?_))
        have htp120 := tpM_of htp81 (o120.2.1 5 (by decide) (by decide) (by decide)) (o120.2.2 7 (by decide))
        have hp120 : psM B n g120 A 0 (nxP B n (smP B n (if lm = 5 then 8 else 6) 2 p).2.1) := ⟨by rw [o120.2.2 12 (by decide)]; exact b81, fun _ => t120, fun h_z => absurd rfl h_z⟩
        have w120 : g120 (A + 2) = g81 (A + 2) := o120.2.1 2 (by decide) (by decide) (by decide)
        refine r_aloadR0 dX12_readUnit_123 ?_
        refine q_callV0 zm_RX12_181 dX12_readUnit_124 (shM_k hs) (by decide) rfl (Nat.le_of_ble_eq_true rfl) (Nat.le_of_ble_eq_true rfl) (Nat.le_of_ble_eq_true rfl) (Nat.le_of_ble_eq_true rfl) (Nat.le_of_ble_eq_true rfl) (s_X12_readSum_2 (lm := lm) (la := la) (u := u + (smP B n (if lm = 5 then 8 else 6) 2 p).2.2.length) G hs kw hld htp120 hp120 (by rw [o120.2.2 16 (by decide)]; exact d81) (by rw [o120.2.2 17 (by decide), o81.2.2 17 (by decide)]; exact hlm) (by rw [o120.2.2 18 (by decide), o81.2.2 18 (by decide)]; exact hla) (by rw [w120]; exact k81c.1) h5 h29 h99 (by omega) (fun g124 o124 d124 p124 k124 => ?_))
        have of124 : frM A [2] [8, 9, 10, 11, 12, 13, 16] f g124 := frM_tr o81 (frM_tr (frM_su o120 (by decide) (by decide)) o124)
        have p124b : psM B n g124 A (smP B n (if lm = 5 then 8 else 6) 2 (nxP B n (smP B n (if lm = 5 then 8 else 6) 2 p).2.1)).1 (smP B n (if lm = 5 then 8 else 6) 2 (nxP B n (smP B n (if lm = 5 then 8 else 6) 2 p).2.1)).2.1 := p124
        have k124b : (smP B n (if lm = 5 then 8 else 6) 2 (nxP B n (smP B n (if lm = 5 then 8 else 6) 2 p).2.1)).1 = 0 → okM g120 g124 A lm la (u + (smP B n (if lm = 5 then 8 else 6) 2 p).2.2.length) (smP B n (if lm = 5 then 8 else 6) 2 (nxP B n (smP B n (if lm = 5 then 8 else 6) 2 p).2.1)).2.2 := k124
        refine r_aloadR0 dX12_readUnit_127 ?_
        refine r_iload1 dX12_readUnit_128 ?_
        refine n_bipush dX12_readUnit_129 (by decide) (fun r129 e129 => ?_)
        refine t_icne (t := 139) dX12_readUnit_131 (by decide) (fun h131 => False.elim (by omega)) (fun h131 => ?_)
        refine n_bipush dX12_readUnit_134 (by decide) (fun r134 e134 => ?_)
        refine r_goto (t := 152) dX12_readUnit_136 (by decide) ?_
        refine q_callV1 zm_RX12_162 dX12_readUnit_152 (shM_k hs) (by decide) rfl (Nat.le_of_ble_eq_true rfl) (Nat.le_of_ble_eq_true rfl) (Nat.le_of_ble_eq_true rfl) (Nat.le_of_ble_eq_true rfl) (Nat.le_of_ble_eq_true rfl) (s_X12_laysStep (lm := lm) (la := la) (u := u + (smP B n (if lm = 5 then 8 else 6) 2 p).2.2.length + (smP B n (if lm = 5 then 8 else 6) 2 (nxP B n (smP B n (if lm = 5 then 8 else 6) 2 p).2.1)).2.2.length) G hs (by have := p124b.1; rw [hq] at this; exact this) (by rw [of124.2.2 17 (by decide)]; exact hlm) (by rw [of124.2.2 18 (by decide)]; exact hla) (k124b hq).1 h5 h29 (by omega) (fun g152 o152 a152 b152 c152 => ?_))
        have p124c := p124b
        rw [hq] at p124c
        refine r_vret dX12_readUnit_155 rfl (Nat.le_of_ble_eq_true rfl) (Nat.le_of_ble_eq_true rfl) ?_
        refine hQ _ (frM_tr of124 (frM_su o152 (by decide) (by decide))) (by rw [o152.2.2 16 (by decide)]; exact d124) (psM_of p124c (o152.2.2 8 (by decide)) (o152.2.2 9 (by decide)) (o152.2.2 10 (by decide)) (o152.2.2 11 (by decide)) (o152.2.2 12 (by decide)) (o152.2.2 13 (by decide))) (fun _ => okM_ap (by omega) (by rw [List.length_append]; omega) (okM_ap (by omega) (by omega) k81c (okM_cg (k124b hq) w120 rfl)) ?_)
        rw [List.length_append, ← Nat.add_assoc]
        exact okM_one (by omega) a152 b152 c152 (by rw [e134]; rfl)
      · have hv : cmP B n (smP B n (if lm = 5 then 8 else 6) 2) p = (smP B n (if lm = 5 then 8 else 6) 2 (nxP B n (smP B n (if lm = 5 then 8 else 6) 2 p).2.1)) := (if_neg (not_not_intro hr)).trans ((if_neg hop0).trans (if_pos hq))
        rw [hv] at hQ
        refine r_aloadR0 dX12_readUnit_0 ?_
        refine m_getV (x := (f A 12)) zf_RX12_112 rfl dX12_readUnit_1 (shM_k hs) (rfl) ?_
        refine t_ifeq (t := 8) dX12_readUnit_4 (by decide) (fun h4 => ?_) (fun h4 => False.elim (by omega))
        refine r_aloadR0 dX12_readUnit_8 ?_
        refine k_ldc (hld _ (List.mem_of_getElem? (i := 2) rfl)) dX12_readUnit_9 ?_
        refine q_callV1 zm_RX12_127 dX12_readUnit_11 (shM_k hs) (by decide) rfl (Nat.le_of_ble_eq_true rfl) (Nat.le_of_ble_eq_true rfl) (Nat.le_of_ble_eq_true rfl) (Nat.le_of_ble_eq_true rfl) (Nat.le_of_ble_eq_true rfl) (s_X12_isWord (i := 8) G hs kw (by decide) htp hps (fun r11 e11_z => ?_))
        have e11b : r11.toInt = 0 := e11_z.elim (fun h_z => absurd h_z.2 hw) (fun h_z => h_z.1)
        refine t_ifeq (t := 44) dX12_readUnit_14 (by decide) (fun h14 => ?_) (fun h14 => False.elim (by omega))
        refine r_aloadR0 dX12_readUnit_44 ?_
        refine n_bipush dX12_readUnit_45 (by decide) (fun r45 e45 => ?_)
        refine q_callV1 zm_RX12_175 dX12_readUnit_47 (shM_k hs) (by decide) rfl (Nat.le_of_ble_eq_true rfl) (Nat.le_of_ble_eq_true rfl) (Nat.le_of_ble_eq_true rfl) (Nat.le_of_ble_eq_true rfl) (Nat.le_of_ble_eq_true rfl) (s_X12_isSign G hs (fun r47 e47 => ?_))
        refine t_ifeq (t := 80) dX12_readUnit_50 (by decide) (fun h50 => ?_) (fun h50 => False.elim (by omega))
        refine r_aloadR0 dX12_readUnit_80 ?_
        refine q_callV0 zm_RX12_181 dX12_readUnit_81 (shM_k hs) (by decide) rfl (Nat.le_of_ble_eq_true rfl) (Nat.le_of_ble_eq_true rfl) (Nat.le_of_ble_eq_true rfl) (Nat.le_of_ble_eq_true rfl) (Nat.le_of_ble_eq_true rfl) (s_X12_readSum_2 (lm := lm) (la := la) (u := u) G hs kw hld htp hps hd16 hlm hla hu h5 h29 h99 hup (fun g81 o81 d81 p81 k81 => ?_))
        have p81b : psM B n g81 A (smP B n (if lm = 5 then 8 else 6) 2 p).1 (smP B n (if lm = 5 then 8 else 6) 2 p).2.1 := p81
        have k81b : (smP B n (if lm = 5 then 8 else 6) 2 p).1 = 0 → okM f g81 A lm la u (smP B n (if lm = 5 then 8 else 6) 2 p).2.2 := k81
        have p81d := p81c _ p81b
        have t81 := p81d.2.1 rfl
        have h81 := t81.2.2.2.1
        have b81 := p81d.1
        have hte81 := teP_le (B := B) t81.1
        have htp81 := tpM_of htp (o81.2.1 5 (by decide) (by decide) (by decide)) (o81.2.2 7 (by decide))
        have k81c := k81b hr
        refine r_aloadR0 dX12_readUnit_84 ?_
        refine m_getV (x := (g81 A 10)) zf_RX12_92 rfl dX12_readUnit_85 (shM_k hs) (rfl) ?_
        refine r_istore1 dX12_readUnit_88 rfl ?_
        refine r_iload1 dX12_readUnit_89 ?_
        refine n_bipush dX12_readUnit_90 (by decide) (fun r90 e90_z => ?_)
        refine t_iceq (t := 112) dX12_readUnit_92 (by decide) (fun h92 => ?_) (fun h92 => False.elim (by omega))
        refine r_aloadR0 dX12_readUnit_112 ?_
        refine m_getV (x := (g81 A 12)) zf_RX12_112 rfl dX12_readUnit_113 (shM_k hs) (rfl) ?_
        refine t_ifne (t := 123) dX12_readUnit_116 (by decide) (fun h116 => False.elim (by omega)) (fun h116 => ?_)
        refine r_aloadR0 dX12_readUnit_119 ?_
        refine q_callV0 zm_RX12_131 dX12_readUnit_120 (shM_k hs) (by decide) rfl (Nat.le_of_ble_eq_true rfl) (Nat.le_of_ble_eq_true rfl) (Nat.le_of_ble_eq_true rfl) (Nat.le_of_ble_eq_true rfl) (Nat.le_of_ble_eq_true rfl) (s_X12_readsOn (p := teP B n (smP B n (if lm = 5 then 8 else 6) 2 p).2.1) G hs htp81 t81.2.1 hte81 (fun g120 o120 t120 => ?_))
        have htp120 := tpM_of htp81 (o120.2.1 5 (by decide) (by decide) (by decide)) (o120.2.2 7 (by decide))
        have hp120 : psM B n g120 A 0 (nxP B n (smP B n (if lm = 5 then 8 else 6) 2 p).2.1) := ⟨by rw [o120.2.2 12 (by decide)]; exact b81, fun _ => t120, fun h_z => absurd rfl h_z⟩
        have w120 : g120 (A + 2) = g81 (A + 2) := o120.2.1 2 (by decide) (by decide) (by decide)
        refine r_aloadR0 dX12_readUnit_123 ?_
        refine q_callV0 zm_RX12_181 dX12_readUnit_124 (shM_k hs) (by decide) rfl (Nat.le_of_ble_eq_true rfl) (Nat.le_of_ble_eq_true rfl) (Nat.le_of_ble_eq_true rfl) (Nat.le_of_ble_eq_true rfl) (Nat.le_of_ble_eq_true rfl) (s_X12_readSum_2 (lm := lm) (la := la) (u := u + (smP B n (if lm = 5 then 8 else 6) 2 p).2.2.length) G hs kw hld htp120 hp120 (by rw [o120.2.2 16 (by decide)]; exact d81) (by rw [o120.2.2 17 (by decide), o81.2.2 17 (by decide)]; exact hlm) (by rw [o120.2.2 18 (by decide), o81.2.2 18 (by decide)]; exact hla) (by rw [w120]; exact k81c.1) h5 h29 h99 (by omega) (fun g124 o124 d124 p124 k124 => ?_))
        have of124 : frM A [2] [8, 9, 10, 11, 12, 13, 16] f g124 := frM_tr o81 (frM_tr (frM_su o120 (by decide) (by decide)) o124)
        have p124b : psM B n g124 A (smP B n (if lm = 5 then 8 else 6) 2 (nxP B n (smP B n (if lm = 5 then 8 else 6) 2 p).2.1)).1 (smP B n (if lm = 5 then 8 else 6) 2 (nxP B n (smP B n (if lm = 5 then 8 else 6) 2 p).2.1)).2.1 := p124
        have k124b : (smP B n (if lm = 5 then 8 else 6) 2 (nxP B n (smP B n (if lm = 5 then 8 else 6) 2 p).2.1)).1 = 0 → okM g120 g124 A lm la (u + (smP B n (if lm = 5 then 8 else 6) 2 p).2.2.length) (smP B n (if lm = 5 then 8 else 6) 2 (nxP B n (smP B n (if lm = 5 then 8 else 6) 2 p).2.1)).2.2 := k124
        refine r_aloadR0 dX12_readUnit_127 ?_
        refine r_iload1 dX12_readUnit_128 ?_
        refine n_bipush dX12_readUnit_129 (by decide) (fun r129 e129 => ?_)
        refine t_icne (t := 139) dX12_readUnit_131 (by decide) (fun h131 => False.elim (by omega)) (fun h131 => ?_)
        refine n_bipush dX12_readUnit_134 (by decide) (fun r134 e134 => ?_)
        refine r_goto (t := 152) dX12_readUnit_136 (by decide) ?_
        refine q_callV1 zm_RX12_162 dX12_readUnit_152 (shM_k hs) (by decide) rfl (Nat.le_of_ble_eq_true rfl) (Nat.le_of_ble_eq_true rfl) (Nat.le_of_ble_eq_true rfl) (Nat.le_of_ble_eq_true rfl) (Nat.le_of_ble_eq_true rfl) (s_X12_laysStep_x G hs (by rw [p124b.1]; omega) ?_)
        refine r_vret dX12_readUnit_155 rfl (Nat.le_of_ble_eq_true rfl) (Nat.le_of_ble_eq_true rfl) ?_
        exact hQ _ of124 d124 p124b (fun h_z => absurd h_z hq)
    have hn61 := hc_z
    have hm61 : rkP B n (smP B n (if lm = 5 then 8 else 6) 2 p).2.1 ≠ 61 := fun h_z => hc_z (q61.mp h_z)
    clear hc_z
    by_cases hc_z : tkP B n (smP B n (if lm = 5 then 8 else 6) 2 p).2.1 = 60
    · have h10c := q60.mpr hc_z
      have hop : opC B n (smP B n (if lm = 5 then 8 else 6) 2 p).2.1 = 2007 := (if_neg (by omega)).trans (if_pos hc_z)
      have hop0 : opC B n (smP B n (if lm = 5 then 8 else 6) 2 p).2.1 ≠ 0 := by rw [hop]; decide
      have hln := tk_lt (B := B) (n := n) (s := (smP B n (if lm = 5 then 8 else 6) 2 p).2.1) (by rw [hc_z]; decide)
      have hnx := nxP_gt (B := B) hln
      by_cases hq : (smP B n (if lm = 5 then 8 else 6) 2 (nxP B n (smP B n (if lm = 5 then 8 else 6) 2 p).2.1)).1 = 0
      · obtain ⟨z1, z2, z3, z4⟩ := (hsm _ hnx.2).1 hq
        have hv : cmP B n (smP B n (if lm = 5 then 8 else 6) 2) p = (0, (smP B n (if lm = 5 then 8 else 6) 2 (nxP B n (smP B n (if lm = 5 then 8 else 6) 2 p).2.1)).2.1, (smP B n (if lm = 5 then 8 else 6) 2 p).2.2 ++ (smP B n (if lm = 5 then 8 else 6) 2 (nxP B n (smP B n (if lm = 5 then 8 else 6) 2 p).2.1)).2.2 ++ [opC B n (smP B n (if lm = 5 then 8 else 6) 2 p).2.1]) := (if_neg (not_not_intro hr)).trans ((if_neg hop0).trans (if_neg (not_not_intro hq)))
        rw [hv, hop] at hQ
        refine r_aloadR0 dX12_readUnit_0 ?_
        refine m_getV (x := (f A 12)) zf_RX12_112 rfl dX12_readUnit_1 (shM_k hs) (rfl) ?_
        refine t_ifeq (t := 8) dX12_readUnit_4 (by decide) (fun h4 => ?_) (fun h4 => False.elim (by omega))
        refine r_aloadR0 dX12_readUnit_8 ?_
        refine k_ldc (hld _ (List.mem_of_getElem? (i := 2) rfl)) dX12_readUnit_9 ?_
        refine q_callV1 zm_RX12_127 dX12_readUnit_11 (shM_k hs) (by decide) rfl (Nat.le_of_ble_eq_true rfl) (Nat.le_of_ble_eq_true rfl) (Nat.le_of_ble_eq_true rfl) (Nat.le_of_ble_eq_true rfl) (Nat.le_of_ble_eq_true rfl) (s_X12_isWord (i := 8) G hs kw (by decide) htp hps (fun r11 e11_z => ?_))
        have e11b : r11.toInt = 0 := e11_z.elim (fun h_z => absurd h_z.2 hw) (fun h_z => h_z.1)
        refine t_ifeq (t := 44) dX12_readUnit_14 (by decide) (fun h14 => ?_) (fun h14 => False.elim (by omega))
        refine r_aloadR0 dX12_readUnit_44 ?_
        refine n_bipush dX12_readUnit_45 (by decide) (fun r45 e45 => ?_)
        refine q_callV1 zm_RX12_175 dX12_readUnit_47 (shM_k hs) (by decide) rfl (Nat.le_of_ble_eq_true rfl) (Nat.le_of_ble_eq_true rfl) (Nat.le_of_ble_eq_true rfl) (Nat.le_of_ble_eq_true rfl) (Nat.le_of_ble_eq_true rfl) (s_X12_isSign G hs (fun r47 e47 => ?_))
        refine t_ifeq (t := 80) dX12_readUnit_50 (by decide) (fun h50 => ?_) (fun h50 => False.elim (by omega))
        refine r_aloadR0 dX12_readUnit_80 ?_
        refine q_callV0 zm_RX12_181 dX12_readUnit_81 (shM_k hs) (by decide) rfl (Nat.le_of_ble_eq_true rfl) (Nat.le_of_ble_eq_true rfl) (Nat.le_of_ble_eq_true rfl) (Nat.le_of_ble_eq_true rfl) (Nat.le_of_ble_eq_true rfl) (s_X12_readSum_2 (lm := lm) (la := la) (u := u) G hs kw hld htp hps hd16 hlm hla hu h5 h29 h99 hup (fun g81 o81 d81 p81 k81 => ?_))
        have p81b : psM B n g81 A (smP B n (if lm = 5 then 8 else 6) 2 p).1 (smP B n (if lm = 5 then 8 else 6) 2 p).2.1 := p81
        have k81b : (smP B n (if lm = 5 then 8 else 6) 2 p).1 = 0 → okM f g81 A lm la u (smP B n (if lm = 5 then 8 else 6) 2 p).2.2 := k81
        have p81d := p81c _ p81b
        have t81 := p81d.2.1 rfl
        have h81 := t81.2.2.2.1
        have b81 := p81d.1
        have hte81 := teP_le (B := B) t81.1
        have htp81 := tpM_of htp (o81.2.1 5 (by decide) (by decide) (by decide)) (o81.2.2 7 (by decide))
        have k81c := k81b hr
        refine r_aloadR0 dX12_readUnit_84 ?_
        refine m_getV (x := (g81 A 10)) zf_RX12_92 rfl dX12_readUnit_85 (shM_k hs) (rfl) ?_
        refine r_istore1 dX12_readUnit_88 rfl ?_
        refine r_iload1 dX12_readUnit_89 ?_
        refine n_bipush dX12_readUnit_90 (by decide) (fun r90 e90_z => ?_)
        refine t_iceq (t := 112) dX12_readUnit_92 (by decide) (fun h92 => False.elim (by omega)) (fun h92 => ?_)
        refine r_iload1 dX12_readUnit_95 ?_
        refine n_bipush dX12_readUnit_96 (by decide) (fun r96 e96 => ?_)
        refine t_iceq (t := 112) dX12_readUnit_98 (by decide) (fun h98 => ?_) (fun h98 => False.elim (by omega))
        refine r_aloadR0 dX12_readUnit_112 ?_
        refine m_getV (x := (g81 A 12)) zf_RX12_112 rfl dX12_readUnit_113 (shM_k hs) (rfl) ?_
        refine t_ifne (t := 123) dX12_readUnit_116 (by decide) (fun h116 => False.elim (by omega)) (fun h116 => ?_)
        refine r_aloadR0 dX12_readUnit_119 ?_
        refine q_callV0 zm_RX12_131 dX12_readUnit_120 (shM_k hs) (by decide) rfl (Nat.le_of_ble_eq_true rfl) (Nat.le_of_ble_eq_true rfl) (Nat.le_of_ble_eq_true rfl) (Nat.le_of_ble_eq_true rfl) (Nat.le_of_ble_eq_true rfl) (s_X12_readsOn (p := teP B n (smP B n (if lm = 5 then 8 else 6) 2 p).2.1) G hs htp81 t81.2.1 hte81 (fun g120 o120 t120 => ?_))
        have htp120 := tpM_of htp81 (o120.2.1 5 (by decide) (by decide) (by decide)) (o120.2.2 7 (by decide))
        have hp120 : psM B n g120 A 0 (nxP B n (smP B n (if lm = 5 then 8 else 6) 2 p).2.1) := ⟨by rw [o120.2.2 12 (by decide)]; exact b81, fun _ => t120, fun h_z => absurd rfl h_z⟩
        have w120 : g120 (A + 2) = g81 (A + 2) := o120.2.1 2 (by decide) (by decide) (by decide)
        refine r_aloadR0 dX12_readUnit_123 ?_
        refine q_callV0 zm_RX12_181 dX12_readUnit_124 (shM_k hs) (by decide) rfl (Nat.le_of_ble_eq_true rfl) (Nat.le_of_ble_eq_true rfl) (Nat.le_of_ble_eq_true rfl) (Nat.le_of_ble_eq_true rfl) (Nat.le_of_ble_eq_true rfl) (s_X12_readSum_2 (lm := lm) (la := la) (u := u + (smP B n (if lm = 5 then 8 else 6) 2 p).2.2.length) G hs kw hld htp120 hp120 (by rw [o120.2.2 16 (by decide)]; exact d81) (by rw [o120.2.2 17 (by decide), o81.2.2 17 (by decide)]; exact hlm) (by rw [o120.2.2 18 (by decide), o81.2.2 18 (by decide)]; exact hla) (by rw [w120]; exact k81c.1) h5 h29 h99 (by omega) (fun g124 o124 d124 p124 k124 => ?_))
        have of124 : frM A [2] [8, 9, 10, 11, 12, 13, 16] f g124 := frM_tr o81 (frM_tr (frM_su o120 (by decide) (by decide)) o124)
        have p124b : psM B n g124 A (smP B n (if lm = 5 then 8 else 6) 2 (nxP B n (smP B n (if lm = 5 then 8 else 6) 2 p).2.1)).1 (smP B n (if lm = 5 then 8 else 6) 2 (nxP B n (smP B n (if lm = 5 then 8 else 6) 2 p).2.1)).2.1 := p124
        have k124b : (smP B n (if lm = 5 then 8 else 6) 2 (nxP B n (smP B n (if lm = 5 then 8 else 6) 2 p).2.1)).1 = 0 → okM g120 g124 A lm la (u + (smP B n (if lm = 5 then 8 else 6) 2 p).2.2.length) (smP B n (if lm = 5 then 8 else 6) 2 (nxP B n (smP B n (if lm = 5 then 8 else 6) 2 p).2.1)).2.2 := k124
        refine r_aloadR0 dX12_readUnit_127 ?_
        refine r_iload1 dX12_readUnit_128 ?_
        refine n_bipush dX12_readUnit_129 (by decide) (fun r129 e129 => ?_)
        refine t_icne (t := 139) dX12_readUnit_131 (by decide) (fun h131 => ?_) (fun h131 => False.elim (by omega))
        refine r_iload1 dX12_readUnit_139 ?_
        refine n_bipush dX12_readUnit_140 (by decide) (fun r140 e140 => ?_)
        refine t_icne (t := 150) dX12_readUnit_142 (by decide) (fun h142 => False.elim (by omega)) (fun h142 => ?_)
        refine n_bipush dX12_readUnit_145 (by decide) (fun r145 e145 => ?_)
        refine r_goto (t := 152) dX12_readUnit_147 (by decide) ?_
        refine q_callV1 zm_RX12_162 dX12_readUnit_152 (shM_k hs) (by decide) rfl (Nat.le_of_ble_eq_true rfl) (Nat.le_of_ble_eq_true rfl) (Nat.le_of_ble_eq_true rfl) (Nat.le_of_ble_eq_true rfl) (Nat.le_of_ble_eq_true rfl) (s_X12_laysStep (lm := lm) (la := la) (u := u + (smP B n (if lm = 5 then 8 else 6) 2 p).2.2.length + (smP B n (if lm = 5 then 8 else 6) 2 (nxP B n (smP B n (if lm = 5 then 8 else 6) 2 p).2.1)).2.2.length) G hs (by have := p124b.1; rw [hq] at this; exact this) (by rw [of124.2.2 17 (by decide)]; exact hlm) (by rw [of124.2.2 18 (by decide)]; exact hla) (k124b hq).1 h5 h29 (by omega) (fun g152 o152 a152 b152 c152 => ?_))
        have p124c := p124b
        rw [hq] at p124c
        refine r_vret dX12_readUnit_155 rfl (Nat.le_of_ble_eq_true rfl) (Nat.le_of_ble_eq_true rfl) ?_
        refine hQ _ (frM_tr of124 (frM_su o152 (by decide) (by decide))) (by rw [o152.2.2 16 (by decide)]; exact d124) (psM_of p124c (o152.2.2 8 (by decide)) (o152.2.2 9 (by decide)) (o152.2.2 10 (by decide)) (o152.2.2 11 (by decide)) (o152.2.2 12 (by decide)) (o152.2.2 13 (by decide))) (fun _ => okM_ap (by omega) (by rw [List.length_append]; omega) (okM_ap (by omega) (by omega) k81c (okM_cg (k124b hq) w120 rfl)) ?_)
        rw [List.length_append, ← Nat.add_assoc]
        exact okM_one (by omega) a152 b152 c152 (by rw [e145]; rfl)
      · have hv : cmP B n (smP B n (if lm = 5 then 8 else 6) 2) p = (smP B n (if lm = 5 then 8 else 6) 2 (nxP B n (smP B n (if lm = 5 then 8 else 6) 2 p).2.1)) := (if_neg (not_not_intro hr)).trans ((if_neg hop0).trans (if_pos hq))
        rw [hv] at hQ
        refine r_aloadR0 dX12_readUnit_0 ?_
        refine m_getV (x := (f A 12)) zf_RX12_112 rfl dX12_readUnit_1 (shM_k hs) (rfl) ?_
        refine t_ifeq (t := 8) dX12_readUnit_4 (by decide) (fun h4 => ?_) (fun h4 => False.elim (by omega))
        refine r_aloadR0 dX12_readUnit_8 ?_
        refine k_ldc (hld _ (List.mem_of_getElem? (i := 2) rfl)) dX12_readUnit_9 ?_
        refine q_callV1 zm_RX12_127 dX12_readUnit_11 (shM_k hs) (by decide) rfl (Nat.le_of_ble_eq_true rfl) (Nat.le_of_ble_eq_true rfl) (Nat.le_of_ble_eq_true rfl) (Nat.le_of_ble_eq_true rfl) (Nat.le_of_ble_eq_true rfl) (s_X12_isWord (i := 8) G hs kw (by decide) htp hps (fun r11 e11_z => ?_))
        have e11b : r11.toInt = 0 := e11_z.elim (fun h_z => absurd h_z.2 hw) (fun h_z => h_z.1)
        refine t_ifeq (t := 44) dX12_readUnit_14 (by decide) (fun h14 => ?_) (fun h14 => False.elim (by omega))
        refine r_aloadR0 dX12_readUnit_44 ?_
        refine n_bipush dX12_readUnit_45 (by decide) (fun r45 e45 => ?_)
        refine q_callV1 zm_RX12_175 dX12_readUnit_47 (shM_k hs) (by decide) rfl (Nat.le_of_ble_eq_true rfl) (Nat.le_of_ble_eq_true rfl) (Nat.le_of_ble_eq_true rfl) (Nat.le_of_ble_eq_true rfl) (Nat.le_of_ble_eq_true rfl) (s_X12_isSign G hs (fun r47 e47 => ?_))
        refine t_ifeq (t := 80) dX12_readUnit_50 (by decide) (fun h50 => ?_) (fun h50 => False.elim (by omega))
        refine r_aloadR0 dX12_readUnit_80 ?_
        refine q_callV0 zm_RX12_181 dX12_readUnit_81 (shM_k hs) (by decide) rfl (Nat.le_of_ble_eq_true rfl) (Nat.le_of_ble_eq_true rfl) (Nat.le_of_ble_eq_true rfl) (Nat.le_of_ble_eq_true rfl) (Nat.le_of_ble_eq_true rfl) (s_X12_readSum_2 (lm := lm) (la := la) (u := u) G hs kw hld htp hps hd16 hlm hla hu h5 h29 h99 hup (fun g81 o81 d81 p81 k81 => ?_))
        have p81b : psM B n g81 A (smP B n (if lm = 5 then 8 else 6) 2 p).1 (smP B n (if lm = 5 then 8 else 6) 2 p).2.1 := p81
        have k81b : (smP B n (if lm = 5 then 8 else 6) 2 p).1 = 0 → okM f g81 A lm la u (smP B n (if lm = 5 then 8 else 6) 2 p).2.2 := k81
        have p81d := p81c _ p81b
        have t81 := p81d.2.1 rfl
        have h81 := t81.2.2.2.1
        have b81 := p81d.1
        have hte81 := teP_le (B := B) t81.1
        have htp81 := tpM_of htp (o81.2.1 5 (by decide) (by decide) (by decide)) (o81.2.2 7 (by decide))
        have k81c := k81b hr
        refine r_aloadR0 dX12_readUnit_84 ?_
        refine m_getV (x := (g81 A 10)) zf_RX12_92 rfl dX12_readUnit_85 (shM_k hs) (rfl) ?_
        refine r_istore1 dX12_readUnit_88 rfl ?_
        refine r_iload1 dX12_readUnit_89 ?_
        refine n_bipush dX12_readUnit_90 (by decide) (fun r90 e90_z => ?_)
        refine t_iceq (t := 112) dX12_readUnit_92 (by decide) (fun h92 => False.elim (by omega)) (fun h92 => ?_)
        refine r_iload1 dX12_readUnit_95 ?_
        refine n_bipush dX12_readUnit_96 (by decide) (fun r96 e96 => ?_)
        refine t_iceq (t := 112) dX12_readUnit_98 (by decide) (fun h98 => ?_) (fun h98 => False.elim (by omega))
        refine r_aloadR0 dX12_readUnit_112 ?_
        refine m_getV (x := (g81 A 12)) zf_RX12_112 rfl dX12_readUnit_113 (shM_k hs) (rfl) ?_
        refine t_ifne (t := 123) dX12_readUnit_116 (by decide) (fun h116 => False.elim (by omega)) (fun h116 => ?_)
        refine r_aloadR0 dX12_readUnit_119 ?_
        refine q_callV0 zm_RX12_131 dX12_readUnit_120 (shM_k hs) (by decide) rfl (Nat.le_of_ble_eq_true rfl) (Nat.le_of_ble_eq_true rfl) (Nat.le_of_ble_eq_true rfl) (Nat.le_of_ble_eq_true rfl) (Nat.le_of_ble_eq_true rfl) (s_X12_readsOn (p := teP B n (smP B n (if lm = 5 then 8 else 6) 2 p).2.1) G hs htp81 t81.2.1 hte81 (fun g120 o120 t120 => ?_))
        have htp120 := tpM_of htp81 (o120.2.1 5 (by decide) (by decide) (by decide)) (o120.2.2 7 (by decide))
        have hp120 : psM B n g120 A 0 (nxP B n (smP B n (if lm = 5 then 8 else 6) 2 p).2.1) := ⟨by rw [o120.2.2 12 (by decide)]; exact b81, fun _ => t120, fun h_z => absurd rfl h_z⟩
        have w120 : g120 (A + 2) = g81 (A + 2) := o120.2.1 2 (by decide) (by decide) (by decide)
        refine r_aloadR0 dX12_readUnit_123 ?_
        refine q_callV0 zm_RX12_181 dX12_readUnit_124 (shM_k hs) (by decide) rfl (Nat.le_of_ble_eq_true rfl) (Nat.le_of_ble_eq_true rfl) (Nat.le_of_ble_eq_true rfl) (Nat.le_of_ble_eq_true rfl) (Nat.le_of_ble_eq_true rfl) (s_X12_readSum_2 (lm := lm) (la := la) (u := u + (smP B n (if lm = 5 then 8 else 6) 2 p).2.2.length) G hs kw hld htp120 hp120 (by rw [o120.2.2 16 (by decide)]; exact d81) (by rw [o120.2.2 17 (by decide), o81.2.2 17 (by decide)]; exact hlm) (by rw [o120.2.2 18 (by decide), o81.2.2 18 (by decide)]; exact hla) (by rw [w120]; exact k81c.1) h5 h29 h99 (by omega) (fun g124 o124 d124 p124 k124 => ?_))
        have of124 : frM A [2] [8, 9, 10, 11, 12, 13, 16] f g124 := frM_tr o81 (frM_tr (frM_su o120 (by decide) (by decide)) o124)
        have p124b : psM B n g124 A (smP B n (if lm = 5 then 8 else 6) 2 (nxP B n (smP B n (if lm = 5 then 8 else 6) 2 p).2.1)).1 (smP B n (if lm = 5 then 8 else 6) 2 (nxP B n (smP B n (if lm = 5 then 8 else 6) 2 p).2.1)).2.1 := p124
        have k124b : (smP B n (if lm = 5 then 8 else 6) 2 (nxP B n (smP B n (if lm = 5 then 8 else 6) 2 p).2.1)).1 = 0 → okM g120 g124 A lm la (u + (smP B n (if lm = 5 then 8 else 6) 2 p).2.2.length) (smP B n (if lm = 5 then 8 else 6) 2 (nxP B n (smP B n (if lm = 5 then 8 else 6) 2 p).2.1)).2.2 := k124
        refine r_aloadR0 dX12_readUnit_127 ?_
        refine r_iload1 dX12_readUnit_128 ?_
        refine n_bipush dX12_readUnit_129 (by decide) (fun r129 e129 => ?_)
        refine t_icne (t := 139) dX12_readUnit_131 (by decide) (fun h131 => ?_) (fun h131 => False.elim (by omega))
        refine r_iload1 dX12_readUnit_139 ?_
        refine n_bipush dX12_readUnit_140 (by decide) (fun r140 e140 => ?_)
        refine t_icne (t := 150) dX12_readUnit_142 (by decide) (fun h142 => False.elim (by omega)) (fun h142 => ?_)
        refine n_bipush dX12_readUnit_145 (by decide) (fun r145 e145 => ?_)
        refine r_goto (t := 152) dX12_readUnit_147 (by decide) ?_
        refine q_callV1 zm_RX12_162 dX12_readUnit_152 (shM_k hs) (by decide) rfl (Nat.le_of_ble_eq_true rfl) (Nat.le_of_ble_eq_true rfl) (Nat.le_of_ble_eq_true rfl) (Nat.le_of_ble_eq_true rfl) (Nat.le_of_ble_eq_true rfl) (s_X12_laysStep_x G hs (by rw [p124b.1]; omega) ?_)
        refine r_vret dX12_readUnit_155 rfl (Nat.le_of_ble_eq_true rfl) (Nat.le_of_ble_eq_true rfl) ?_
        exact hQ _ of124 d124 p124b (fun h_z => absurd h_z hq)
    have hn60 := hc_z
    have hm60 : rkP B n (smP B n (if lm = 5 then 8 else 6) 2 p).2.1 ≠ 60 := fun h_z => hc_z (q60.mp h_z)
    clear hc_z
    by_cases hc_z : tkP B n (smP B n (if lm = 5 then 8 else 6) 2 p).2.1 = 62
    · have h10c := q62.mpr hc_z
      have hop : opC B n (smP B n (if lm = 5 then 8 else 6) 2 p).2.1 = 2008 := (if_neg (by omega)).trans ((if_neg (by omega)).trans (if_pos hc_z))
      have hop0 : opC B n (smP B n (if lm = 5 then 8 else 6) 2 p).2.1 ≠ 0 := by rw [hop]; decide
      have hln := tk_lt (B := B) (n := n) (s := (smP B n (if lm = 5 then 8 else 6) 2 p).2.1) (by rw [hc_z]; decide)
      have hnx := nxP_gt (B := B) hln
      by_cases hq : (smP B n (if lm = 5 then 8 else 6) 2 (nxP B n (smP B n (if lm = 5 then 8 else 6) 2 p).2.1)).1 = 0
      · obtain ⟨z1, z2, z3, z4⟩ := (hsm _ hnx.2).1 hq
        have hv : cmP B n (smP B n (if lm = 5 then 8 else 6) 2) p = (0, (smP B n (if lm = 5 then 8 else 6) 2 (nxP B n (smP B n (if lm = 5 then 8 else 6) 2 p).2.1)).2.1, (smP B n (if lm = 5 then 8 else 6) 2 p).2.2 ++ (smP B n (if lm = 5 then 8 else 6) 2 (nxP B n (smP B n (if lm = 5 then 8 else 6) 2 p).2.1)).2.2 ++ [opC B n (smP B n (if lm = 5 then 8 else 6) 2 p).2.1]) := (if_neg (not_not_intro hr)).trans ((if_neg hop0).trans (if_neg (not_not_intro hq)))
        rw [hv, hop] at hQ
        refine r_aloadR0 dX12_readUnit_0 ?_
        refine m_getV (x := (f A 12)) zf_RX12_112 rfl dX12_readUnit_1 (shM_k hs) (rfl) ?_
        refine t_ifeq (t := 8) dX12_readUnit_4 (by decide) (fun h4 => ?_) (fun h4 => False.elim (by omega))
        refine r_aloadR0 dX12_readUnit_8 ?_
        refine k_ldc (hld _ (List.mem_of_getElem? (i := 2) rfl)) dX12_readUnit_9 ?_
        refine q_callV1 zm_RX12_127 dX12_readUnit_11 (shM_k hs) (by decide) rfl (Nat.le_of_ble_eq_true rfl) (Nat.le_of_ble_eq_true rfl) (Nat.le_of_ble_eq_true rfl) (Nat.le_of_ble_eq_true rfl) (Nat.le_of_ble_eq_true rfl) (s_X12_isWord (i := 8) G hs kw (by decide) htp hps (fun r11 e11_z => ?_))
        have e11b : r11.toInt = 0 := e11_z.elim (fun h_z => absurd h_z.2 hw) (fun h_z => h_z.1)
        refine t_ifeq (t := 44) dX12_readUnit_14 (by decide) (fun h14 => ?_) (fun h14 => False.elim (by omega))
        refine r_aloadR0 dX12_readUnit_44 ?_
        refine n_bipush dX12_readUnit_45 (by decide) (fun r45 e45 => ?_)
        refine q_callV1 zm_RX12_175 dX12_readUnit_47 (shM_k hs) (by decide) rfl (Nat.le_of_ble_eq_true rfl) (Nat.le_of_ble_eq_true rfl) (Nat.le_of_ble_eq_true rfl) (Nat.le_of_ble_eq_true rfl) (Nat.le_of_ble_eq_true rfl) (s_X12_isSign G hs (fun r47 e47 => ?_))
        refine t_ifeq (t := 80) dX12_readUnit_50 (by decide) (fun h50 => ?_) (fun h50 => False.elim (by omega))
        refine r_aloadR0 dX12_readUnit_80 ?_
        refine q_callV0 zm_RX12_181 dX12_readUnit_81 (shM_k hs) (by decide) rfl (Nat.le_of_ble_eq_true rfl) (Nat.le_of_ble_eq_true rfl) (Nat.le_of_ble_eq_true rfl) (Nat.le_of_ble_eq_true rfl) (Nat.le_of_ble_eq_true rfl) (s_X12_readSum_2 (lm := lm) (la := la) (u := u) G hs kw hld htp hps hd16 hlm hla hu h5 h29 h99 hup (fun g81 o81 d81 p81 k81 => ?_))
        have p81b : psM B n g81 A (smP B n (if lm = 5 then 8 else 6) 2 p).1 (smP B n (if lm = 5 then 8 else 6) 2 p).2.1 := p81
        have k81b : (smP B n (if lm = 5 then 8 else 6) 2 p).1 = 0 → okM f g81 A lm la u (smP B n (if lm = 5 then 8 else 6) 2 p).2.2 := k81
        have p81d := p81c _ p81b
        have t81 := p81d.2.1 rfl
        have h81 := t81.2.2.2.1
        have b81 := p81d.1
        have hte81 := teP_le (B := B) t81.1
        have htp81 := tpM_of htp (o81.2.1 5 (by decide) (by decide) (by decide)) (o81.2.2 7 (by decide))
        have k81c := k81b hr
        refine r_aloadR0 dX12_readUnit_84 ?_
        refine m_getV (x := (g81 A 10)) zf_RX12_92 rfl dX12_readUnit_85 (shM_k hs) (rfl) ?_
        refine r_istore1 dX12_readUnit_88 rfl ?_
        refine r_iload1 dX12_readUnit_89 ?_
        refine n_bipush dX12_readUnit_90 (by decide) (fun r90 e90_z => ?_)
        refine t_iceq (t := 112) dX12_readUnit_92 (by decide) (fun h92 => False.elim (by omega)) (fun h92 => ?_)
        refine r_iload1 dX12_readUnit_95 ?_
        refine n_bipush dX12_readUnit_96 (by decide) (fun r96 e96 => ?_)
        refine t_iceq (t := 112) dX12_readUnit_98 (by decide) (fun h98 => False.elim (by omega)) (fun h98 => ?_)
        refine r_iload1 dX12_readUnit_101 ?_
        refine n_bipush dX12_readUnit_102 (by decide) (fun r102 e102_z => ?_)
        refine t_iceq (t := 112) dX12_readUnit_104 (by decide) (fun h104 => ?_) (fun h104 => False.elim (by omega))
        refine r_aloadR0 dX12_readUnit_112 ?_
        refine m_getV (x := (g81 A 12)) zf_RX12_112 rfl dX12_readUnit_113 (shM_k hs) (rfl) ?_
        refine t_ifne (t := 123) dX12_readUnit_116 (by decide) (fun h116 => False.elim (by omega)) (fun h116 => ?_)
        refine r_aloadR0 dX12_readUnit_119 ?_
        refine q_callV0 zm_RX12_131 dX12_readUnit_120 (shM_k hs) (by decide) rfl (Nat.le_of_ble_eq_true rfl) (Nat.le_of_ble_eq_true rfl) (Nat.le_of_ble_eq_true rfl) (Nat.le_of_ble_eq_true rfl) (Nat.le_of_ble_eq_true rfl) (s_X12_readsOn (p := teP B n (smP B n (if lm = 5 then 8 else 6) 2 p).2.1) G hs htp81 t81.2.1 hte81 (fun g120 o120 t120 => ?_))
        have htp120 := tpM_of htp81 (o120.2.1 5 (by decide) (by decide) (by decide)) (o120.2.2 7 (by decide))
        have hp120 : psM B n g120 A 0 (nxP B n (smP B n (if lm = 5 then 8 else 6) 2 p).2.1) := ⟨by rw [o120.2.2 12 (by decide)]; exact b81, fun _ => t120, fun h_z => absurd rfl h_z⟩
        have w120 : g120 (A + 2) = g81 (A + 2) := o120.2.1 2 (by decide) (by decide) (by decide)
        refine r_aloadR0 dX12_readUnit_123 ?_
        refine q_callV0 zm_RX12_181 dX12_readUnit_124 (shM_k hs) (by decide) rfl (Nat.le_of_ble_eq_true rfl) (Nat.le_of_ble_eq_true rfl) (Nat.le_of_ble_eq_true rfl) (Nat.le_of_ble_eq_true rfl) (Nat.le_of_ble_eq_true rfl) (s_X12_readSum_2 (lm := lm) (la := la) (u := u + (smP B n (if lm = 5 then 8 else 6) 2 p).2.2.length) G hs kw hld htp120 hp120 (by rw [o120.2.2 16 (by decide)]; exact d81) (by rw [o120.2.2 17 (by decide), o81.2.2 17 (by decide)]; exact hlm) (by rw [o120.2.2 18 (by decide), o81.2.2 18 (by decide)]; exact hla) (by rw [w120]; exact k81c.1) h5 h29 h99 (by omega) (fun g124 o124 d124 p124 k124 => ?_))
        have of124 : frM A [2] [8, 9, 10, 11, 12, 13, 16] f g124 := frM_tr o81 (frM_tr (frM_su o120 (by decide) (by decide)) o124)
        have p124b : psM B n g124 A (smP B n (if lm = 5 then 8 else 6) 2 (nxP B n (smP B n (if lm = 5 then 8 else 6) 2 p).2.1)).1 (smP B n (if lm = 5 then 8 else 6) 2 (nxP B n (smP B n (if lm = 5 then 8 else 6) 2 p).2.1)).2.1 := p124
        have k124b : (smP B n (if lm = 5 then 8 else 6) 2 (nxP B n (smP B n (if lm = 5 then 8 else 6) 2 p).2.1)).1 = 0 → okM g120 g124 A lm la (u + (smP B n (if lm = 5 then 8 else 6) 2 p).2.2.length) (smP B n (if lm = 5 then 8 else 6) 2 (nxP B n (smP B n (if lm = 5 then 8 else 6) 2 p).2.1)).2.2 := k124
        refine r_aloadR0 dX12_readUnit_127 ?_
        refine r_iload1 dX12_readUnit_128 ?_
        refine n_bipush dX12_readUnit_129 (by decide) (fun r129 e129 => ?_)
        refine t_icne (t := 139) dX12_readUnit_131 (by decide) (fun h131 => ?_) (fun h131 => False.elim (by omega))
        refine r_iload1 dX12_readUnit_139 ?_
        refine n_bipush dX12_readUnit_140 (by decide) (fun r140 e140 => ?_)
        refine t_icne (t := 150) dX12_readUnit_142 (by decide) (fun h142 => ?_) (fun h142 => False.elim (by omega))
        refine n_bipush dX12_readUnit_150 (by decide) (fun r150 e150 => ?_)
        refine q_callV1 zm_RX12_162 dX12_readUnit_152 (shM_k hs) (by decide) rfl (Nat.le_of_ble_eq_true rfl) (Nat.le_of_ble_eq_true rfl) (Nat.le_of_ble_eq_true rfl) (Nat.le_of_ble_eq_true rfl) (Nat.le_of_ble_eq_true rfl) (s_X12_laysStep (lm := lm) (la := la) (u := u + (smP B n (if lm = 5 then 8 else 6) 2 p).2.2.length + (smP B n (if lm = 5 then 8 else 6) 2 (nxP B n (smP B n (if lm = 5 then 8 else 6) 2 p).2.1)).2.2.length) G hs (by have := p124b.1; rw [hq] at this; exact this) (by rw [of124.2.2 17 (by decide)]; exact hlm) (by rw [of124.2.2 18 (by decide)]; exact hla) (k124b hq).1 h5 h29 (by omega) (fun g152 o152 a152 b152 c152 => ?_))
        have p124c := p124b
        rw [hq] at p124c
        refine r_vret dX12_readUnit_155 rfl (Nat.le_of_ble_eq_true rfl) (Nat.le_of_ble_eq_true rfl) ?_
        refine hQ _ (frM_tr of124 (frM_su o152 (by decide) (by decide))) (by rw [o152.2.2 16 (by decide)]; exact d124) (psM_of p124c (o152.2.2 8 (by decide)) (o152.2.2 9 (by decide)) (o152.2.2 10 (by decide)) (o152.2.2 11 (by decide)) (o152.2.2 12 (by decide)) (o152.2.2 13 (by decide))) (fun _ => okM_ap (by omega) (by rw [List.length_append]; omega) (okM_ap (by omega) (by omega) k81c (okM_cg (k124b hq) w120 rfl)) ?_)
        rw [List.length_append, ← Nat.add_assoc]
        exact okM_one (by omega) a152 b152 c152 (by rw [e150]; rfl)
      · have hv : cmP B n (smP B n (if lm = 5 then 8 else 6) 2) p = (smP B n (if lm = 5 then 8 else 6) 2 (nxP B n (smP B n (if lm = 5 then 8 else 6) 2 p).2.1)) := (if_neg (not_not_intro hr)).trans ((if_neg hop0).trans (if_pos hq))
        rw [hv] at hQ
        refine r_aloadR0 dX12_readUnit_0 ?_
        refine m_getV (x := (f A 12)) zf_RX12_112 rfl dX12_readUnit_1 (shM_k hs) (rfl) ?_
        refine t_ifeq (t := 8) dX12_readUnit_4 (by decide) (fun h4 => ?_) (fun h4 => False.elim (by omega))
        refine r_aloadR0 dX12_readUnit_8 ?_
        refine k_ldc (hld _ (List.mem_of_getElem? (i := 2) rfl)) dX12_readUnit_9 ?_
        refine q_callV1 zm_RX12_127 dX12_readUnit_11 (shM_k hs) (by decide) rfl (Nat.le_of_ble_eq_true rfl) (Nat.le_of_ble_eq_true rfl) (Nat.le_of_ble_eq_true rfl) (Nat.le_of_ble_eq_true rfl) (Nat.le_of_ble_eq_true rfl) (s_X12_isWord (i := 8) G hs kw (by decide) htp hps (fun r11 e11_z => ?_))
        have e11b : r11.toInt = 0 := e11_z.elim (fun h_z => absurd h_z.2 hw) (fun h_z => h_z.1)
        refine t_ifeq (t := 44) dX12_readUnit_14 (by decide) (fun h14 => ?_) (fun h14 => False.elim (by omega))
        refine r_aloadR0 dX12_readUnit_44 ?_
        refine n_bipush dX12_readUnit_45 (by decide) (fun r45 e45 => ?_)
        refine q_callV1 zm_RX12_175 dX12_readUnit_47 (shM_k hs) (by decide) rfl (Nat.le_of_ble_eq_true rfl) (Nat.le_of_ble_eq_true rfl) (Nat.le_of_ble_eq_true rfl) (Nat.le_of_ble_eq_true rfl) (Nat.le_of_ble_eq_true rfl) (s_X12_isSign G hs (fun r47 e47 => ?_))
        refine t_ifeq (t := 80) dX12_readUnit_50 (by decide) (fun h50 => ?_) (fun h50 => False.elim (by omega))
        refine r_aloadR0 dX12_readUnit_80 ?_
        refine q_callV0 zm_RX12_181 dX12_readUnit_81 (shM_k hs) (by decide) rfl (Nat.le_of_ble_eq_true rfl) (Nat.le_of_ble_eq_true rfl) (Nat.le_of_ble_eq_true rfl) (Nat.le_of_ble_eq_true rfl) (Nat.le_of_ble_eq_true rfl) (s_X12_readSum_2 (lm := lm) (la := la) (u := u) G hs kw hld htp hps hd16 hlm hla hu h5 h29 h99 hup (fun g81 o81 d81 p81 k81 => ?_))
        have p81b : psM B n g81 A (smP B n (if lm = 5 then 8 else 6) 2 p).1 (smP B n (if lm = 5 then 8 else 6) 2 p).2.1 := p81
        have k81b : (smP B n (if lm = 5 then 8 else 6) 2 p).1 = 0 → okM f g81 A lm la u (smP B n (if lm = 5 then 8 else 6) 2 p).2.2 := k81
        have p81d := p81c _ p81b
        have t81 := p81d.2.1 rfl
        have h81 := t81.2.2.2.1
        have b81 := p81d.1
        have hte81 := teP_le (B := B) t81.1
        have htp81 := tpM_of htp (o81.2.1 5 (by decide) (by decide) (by decide)) (o81.2.2 7 (by decide))
        have k81c := k81b hr
        refine r_aloadR0 dX12_readUnit_84 ?_
        refine m_getV (x := (g81 A 10)) zf_RX12_92 rfl dX12_readUnit_85 (shM_k hs) (rfl) ?_
        refine r_istore1 dX12_readUnit_88 rfl ?_
        refine r_iload1 dX12_readUnit_89 ?_
        refine n_bipush dX12_readUnit_90 (by decide) (fun r90 e90_z => ?_)
        refine t_iceq (t := 112) dX12_readUnit_92 (by decide) (fun h92 => False.elim (by omega)) (fun h92 => ?_)
        refine r_iload1 dX12_readUnit_95 ?_
        refine n_bipush dX12_readUnit_96 (by decide) (fun r96 e96 => ?_)
        refine t_iceq (t := 112) dX12_readUnit_98 (by decide) (fun h98 => False.elim (by omega)) (fun h98 => ?_)
        refine r_iload1 dX12_readUnit_101 ?_
        refine n_bipush dX12_readUnit_102 (by decide) (fun r102 e102_z => ?_)
        refine t_iceq (t := 112) dX12_readUnit_104 (by decide) (fun h104 => ?_) (fun h104 => False.elim (by omega))
        refine r_aloadR0 dX12_readUnit_112 ?_
        refine m_getV (x := (g81 A 12)) zf_RX12_112 rfl dX12_readUnit_113 (shM_k hs) (rfl) ?_
        refine t_ifne (t := 123) dX12_readUnit_116 (by decide) (fun h116 => False.elim (by omega)) (fun h116 => ?_)
        refine r_aloadR0 dX12_readUnit_119 ?_
        refine q_callV0 zm_RX12_131 dX12_readUnit_120 (shM_k hs) (by decide) rfl (Nat.le_of_ble_eq_true rfl) (Nat.le_of_ble_eq_true rfl) (Nat.le_of_ble_eq_true rfl) (Nat.le_of_ble_eq_true rfl) (Nat.le_of_ble_eq_true rfl) (s_X12_readsOn (p := teP B n (smP B n (if lm = 5 then 8 else 6) 2 p).2.1) G hs htp81 t81.2.1 hte81 (fun g120 o120 t120 => ?_))
        have htp120 := tpM_of htp81 (o120.2.1 5 (by decide) (by decide) (by decide)) (o120.2.2 7 (by decide))
        have hp120 : psM B n g120 A 0 (nxP B n (smP B n (if lm = 5 then 8 else 6) 2 p).2.1) := ⟨by rw [o120.2.2 12 (by decide)]; exact b81, fun _ => t120, fun h_z => absurd rfl h_z⟩
        have w120 : g120 (A + 2) = g81 (A + 2) := o120.2.1 2 (by decide) (by decide) (by decide)
        refine r_aloadR0 dX12_readUnit_123 ?_
        refine q_callV0 zm_RX12_181 dX12_readUnit_124 (shM_k hs) (by decide) rfl (Nat.le_of_ble_eq_true rfl) (Nat.le_of_ble_eq_true rfl) (Nat.le_of_ble_eq_true rfl) (Nat.le_of_ble_eq_true rfl) (Nat.le_of_ble_eq_true rfl) (s_X12_readSum_2 (lm := lm) (la := la) (u := u + (smP B n (if lm = 5 then 8 else 6) 2 p).2.2.length) G hs kw hld htp120 hp120 (by rw [o120.2.2 16 (by decide)]; exact d81) (by rw [o120.2.2 17 (by decide), o81.2.2 17 (by decide)]; exact hlm) (by rw [o120.2.2 18 (by decide), o81.2.2 18 (by decide)]; exact hla) (by rw [w120]; exact k81c.1) h5 h29 h99 (by omega) (fun g124 o124 d124 p124 k124 => ?_))
        have of124 : frM A [2] [8, 9, 10, 11, 12, 13, 16] f g124 := frM_tr o81 (frM_tr (frM_su o120 (by decide) (by decide)) o124)
        have p124b : psM B n g124 A (smP B n (if lm = 5 then 8 else 6) 2 (nxP B n (smP B n (if lm = 5 then 8 else 6) 2 p).2.1)).1 (smP B n (if lm = 5 then 8 else 6) 2 (nxP B n (smP B n (if lm = 5 then 8 else 6) 2 p).2.1)).2.1 := p124
        have k124b : (smP B n (if lm = 5 then 8 else 6) 2 (nxP B n (smP B n (if lm = 5 then 8 else 6) 2 p).2.1)).1 = 0 → okM g120 g124 A lm la (u + (smP B n (if lm = 5 then 8 else 6) 2 p).2.2.length) (smP B n (if lm = 5 then 8 else 6) 2 (nxP B n (smP B n (if lm = 5 then 8 else 6) 2 p).2.1)).2.2 := k124
        refine r_aloadR0 dX12_readUnit_127 ?_
        refine r_iload1 dX12_readUnit_128 ?_
        refine n_bipush dX12_readUnit_129 (by decide) (fun r129 e129 => ?_)
        refine t_icne (t := 139) dX12_readUnit_131 (by decide) (fun h131 => ?_) (fun h131 => False.elim (by omega))
        refine r_iload1 dX12_readUnit_139 ?_
        refine n_bipush dX12_readUnit_140 (by decide) (fun r140 e140 => ?_)
        refine t_icne (t := 150) dX12_readUnit_142 (by decide) (fun h142 => ?_) (fun h142 => False.elim (by omega))
        refine n_bipush dX12_readUnit_150 (by decide) (fun r150 e150 => ?_)
        refine q_callV1 zm_RX12_162 dX12_readUnit_152 (shM_k hs) (by decide) rfl (Nat.le_of_ble_eq_true rfl) (Nat.le_of_ble_eq_true rfl) (Nat.le_of_ble_eq_true rfl) (Nat.le_of_ble_eq_true rfl) (Nat.le_of_ble_eq_true rfl) (s_X12_laysStep_x G hs (by rw [p124b.1]; omega) ?_)
        refine r_vret dX12_readUnit_155 rfl (Nat.le_of_ble_eq_true rfl) (Nat.le_of_ble_eq_true rfl) ?_
        exact hQ _ of124 d124 p124b (fun h_z => absurd h_z hq)
    have hn62 := hc_z
    have hm62 : rkP B n (smP B n (if lm = 5 then 8 else 6) 2 p).2.1 ≠ 62 := fun h_z => hc_z (q62.mp h_z)
    clear hc_z
    have hop : opC B n (smP B n (if lm = 5 then 8 else 6) 2 p).2.1 = 0 := (if_neg hn61).trans ((if_neg hn60).trans (if_neg hn62))
    have hv : cmP B n (smP B n (if lm = 5 then 8 else 6) 2) p = (baP B n (smP B n (if lm = 5 then 8 else 6) 2 p).2.1, (smP B n (if lm = 5 then 8 else 6) 2 p).2.1, []) := (if_neg (not_not_intro hr)).trans (if_pos hop)
    rw [hv] at hQ
    refine r_aloadR0 dX12_readUnit_0 ?_
    refine m_getV (x := (f A 12)) zf_RX12_112 rfl dX12_readUnit_1 (shM_k hs) (rfl) ?_
    refine t_ifeq (t := 8) dX12_readUnit_4 (by decide) (fun h4 => ?_) (fun h4 => False.elim (by omega))
    refine r_aloadR0 dX12_readUnit_8 ?_
    refine k_ldc (hld _ (List.mem_of_getElem? (i := 2) rfl)) dX12_readUnit_9 ?_
    refine q_callV1 zm_RX12_127 dX12_readUnit_11 (shM_k hs) (by decide) rfl (Nat.le_of_ble_eq_true rfl) (Nat.le_of_ble_eq_true rfl) (Nat.le_of_ble_eq_true rfl) (Nat.le_of_ble_eq_true rfl) (Nat.le_of_ble_eq_true rfl) (s_X12_isWord (i := 8) G hs kw (by decide) htp hps (fun r11 e11_z => ?_))
    have e11b : r11.toInt = 0 := e11_z.elim (fun h_z => absurd h_z.2 hw) (fun h_z => h_z.1)
    refine t_ifeq (t := 44) dX12_readUnit_14 (by decide) (fun h14 => ?_) (fun h14 => False.elim (by omega))
    refine r_aloadR0 dX12_readUnit_44 ?_
    refine n_bipush dX12_readUnit_45 (by decide) (fun r45 e45 => ?_)
    refine q_callV1 zm_RX12_175 dX12_readUnit_47 (shM_k hs) (by decide) rfl (Nat.le_of_ble_eq_true rfl) (Nat.le_of_ble_eq_true rfl) (Nat.le_of_ble_eq_true rfl) (Nat.le_of_ble_eq_true rfl) (Nat.le_of_ble_eq_true rfl) (s_X12_isSign G hs (fun r47 e47 => ?_))
    refine t_ifeq (t := 80) dX12_readUnit_50 (by decide) (fun h50 => ?_) (fun h50 => False.elim (by omega))
    refine r_aloadR0 dX12_readUnit_80 ?_
    refine q_callV0 zm_RX12_181 dX12_readUnit_81 (shM_k hs) (by decide) rfl (Nat.le_of_ble_eq_true rfl) (Nat.le_of_ble_eq_true rfl) (Nat.le_of_ble_eq_true rfl) (Nat.le_of_ble_eq_true rfl) (Nat.le_of_ble_eq_true rfl) (s_X12_readSum_2 (lm := lm) (la := la) (u := u) G hs kw hld htp hps hd16 hlm hla hu h5 h29 h99 hup (fun g81 o81 d81 p81 k81 => ?_))
    have p81b : psM B n g81 A (smP B n (if lm = 5 then 8 else 6) 2 p).1 (smP B n (if lm = 5 then 8 else 6) 2 p).2.1 := p81
    have k81b : (smP B n (if lm = 5 then 8 else 6) 2 p).1 = 0 → okM f g81 A lm la u (smP B n (if lm = 5 then 8 else 6) 2 p).2.2 := k81
    have p81d := p81c _ p81b
    have t81 := p81d.2.1 rfl
    have h81 := t81.2.2.2.1
    have b81 := p81d.1
    have hte81 := teP_le (B := B) t81.1
    have htp81 := tpM_of htp (o81.2.1 5 (by decide) (by decide) (by decide)) (o81.2.2 7 (by decide))
    have k81c := k81b hr
    refine r_aloadR0 dX12_readUnit_84 ?_
    refine m_getV (x := (g81 A 10)) zf_RX12_92 rfl dX12_readUnit_85 (shM_k hs) (rfl) ?_
    refine r_istore1 dX12_readUnit_88 rfl ?_
    refine r_iload1 dX12_readUnit_89 ?_
    refine n_bipush dX12_readUnit_90 (by decide) (fun r90 e90_z => ?_)
    refine t_iceq (t := 112) dX12_readUnit_92 (by decide) (fun h92 => False.elim (by omega)) (fun h92 => ?_)
    refine r_iload1 dX12_readUnit_95 ?_
    refine n_bipush dX12_readUnit_96 (by decide) (fun r96 e96 => ?_)
    refine t_iceq (t := 112) dX12_readUnit_98 (by decide) (fun h98 => False.elim (by omega)) (fun h98 => ?_)
    refine r_iload1 dX12_readUnit_101 ?_
    refine n_bipush dX12_readUnit_102 (by decide) (fun r102 e102_z => ?_)
    refine t_iceq (t := 112) dX12_readUnit_104 (by decide) (fun h104 => False.elim (by omega)) (fun h104 => ?_)
    refine r_aloadR0 dX12_readUnit_107 ?_
    refine n_iconst dX12_readUnit_108 (by decide) (fun r108 e108 => ?_)
    refine q_callV1 zm_RX12_134 dX12_readUnit_109 (shM_k hs) (by decide) rfl (Nat.le_of_ble_eq_true rfl) (Nat.le_of_ble_eq_true rfl) (Nat.le_of_ble_eq_true rfl) (Nat.le_of_ble_eq_true rfl) (Nat.le_of_ble_eq_true rfl) (s_X12_blames (k := 2) G hs b81 t81 e108 (fun g109 o109 a109 b109 => ?_))
    have hpb := ps_ba a109 b109
    have hba := ba_bd (B := B) (n := n) (s := (smP B n (if lm = 5 then 8 else 6) 2 p).2.1)
    have nb : (g109 A 12).toInt ≠ 0 := by rw [hpb.1]; omega
    refine r_aloadR0 dX12_readUnit_112 ?_
    refine m_getV (x := (g109 A 12)) zf_RX12_112 rfl dX12_readUnit_113 (shM_k hs) (rfl) ?_
    refine t_ifne (t := 123) dX12_readUnit_116 (by decide) (fun h116 => ?_) (fun h116 => False.elim (by omega))
    refine r_aloadR0 dX12_readUnit_123 ?_
    refine q_callV0 zm_RX12_181 dX12_readUnit_124 (shM_k hs) (by decide) rfl (Nat.le_of_ble_eq_true rfl) (Nat.le_of_ble_eq_true rfl) (Nat.le_of_ble_eq_true rfl) (Nat.le_of_ble_eq_true rfl) (Nat.le_of_ble_eq_true rfl) (s_X12_readSum_x G hs nb ?_)
    refine r_aloadR0 dX12_readUnit_127 ?_
    refine r_iload1 dX12_readUnit_128 ?_
    refine n_bipush dX12_readUnit_129 (by decide) (fun r129 e129 => ?_)
    refine t_icne (t := 139) dX12_readUnit_131 (by decide) (fun h131 => ?_) (fun h131 => False.elim (by omega))
    refine r_iload1 dX12_readUnit_139 ?_
    refine n_bipush dX12_readUnit_140 (by decide) (fun r140 e140 => ?_)
    refine t_icne (t := 150) dX12_readUnit_142 (by decide) (fun h142 => ?_) (fun h142 => False.elim (by omega))
    refine n_bipush dX12_readUnit_150 (by decide) (fun r150 e150 => ?_)
    refine q_callV1 zm_RX12_162 dX12_readUnit_152 (shM_k hs) (by decide) rfl (Nat.le_of_ble_eq_true rfl) (Nat.le_of_ble_eq_true rfl) (Nat.le_of_ble_eq_true rfl) (Nat.le_of_ble_eq_true rfl) (Nat.le_of_ble_eq_true rfl) (s_X12_laysStep_x G hs nb ?_)
    refine r_vret dX12_readUnit_155 rfl (Nat.le_of_ble_eq_true rfl) (Nat.le_of_ble_eq_true rfl) ?_
    exact hQ _ (frM_tr o81 (frM_su o109 (by decide) (by decide))) (by rw [o109.2.2 16 (by decide)]; exact d81) hpb (fun h_z => absurd h_z hba.1)
  · have hv : cmP B n (smP B n (if lm = 5 then 8 else 6) 2) p = (smP B n (if lm = 5 then 8 else 6) 2 p) := if_pos hr
    rw [hv] at hQ
    refine r_aloadR0 dX12_readUnit_0 ?_
    refine m_getV (x := (f A 12)) zf_RX12_112 rfl dX12_readUnit_1 (shM_k hs) (rfl) ?_
    refine t_ifeq (t := 8) dX12_readUnit_4 (by decide) (fun h4 => ?_) (fun h4 => False.elim (by omega))
    refine r_aloadR0 dX12_readUnit_8 ?_
    refine k_ldc (hld _ (List.mem_of_getElem? (i := 2) rfl)) dX12_readUnit_9 ?_
    refine q_callV1 zm_RX12_127 dX12_readUnit_11 (shM_k hs) (by decide) rfl (Nat.le_of_ble_eq_true rfl) (Nat.le_of_ble_eq_true rfl) (Nat.le_of_ble_eq_true rfl) (Nat.le_of_ble_eq_true rfl) (Nat.le_of_ble_eq_true rfl) (s_X12_isWord (i := 8) G hs kw (by decide) htp hps (fun r11 e11_z => ?_))
    have e11b : r11.toInt = 0 := e11_z.elim (fun h_z => absurd h_z.2 hw) (fun h_z => h_z.1)
    refine t_ifeq (t := 44) dX12_readUnit_14 (by decide) (fun h14 => ?_) (fun h14 => False.elim (by omega))
    refine r_aloadR0 dX12_readUnit_44 ?_
    refine n_bipush dX12_readUnit_45 (by decide) (fun r45 e45 => ?_)
    refine q_callV1 zm_RX12_175 dX12_readUnit_47 (shM_k hs) (by decide) rfl (Nat.le_of_ble_eq_true rfl) (Nat.le_of_ble_eq_true rfl) (Nat.le_of_ble_eq_true rfl) (Nat.le_of_ble_eq_true rfl) (Nat.le_of_ble_eq_true rfl) (s_X12_isSign G hs (fun r47 e47 => ?_))
    refine t_ifeq (t := 80) dX12_readUnit_50 (by decide) (fun h50 => ?_) (fun h50 => False.elim (by omega))
    refine r_aloadR0 dX12_readUnit_80 ?_
    refine q_callV0 zm_RX12_181 dX12_readUnit_81 (shM_k hs) (by decide) rfl (Nat.le_of_ble_eq_true rfl) (Nat.le_of_ble_eq_true rfl) (Nat.le_of_ble_eq_true rfl) (Nat.le_of_ble_eq_true rfl) (Nat.le_of_ble_eq_true rfl) (s_X12_readSum_2 (lm := lm) (la := la) (u := u) G hs kw hld htp hps hd16 hlm hla hu h5 h29 h99 hup (fun g81 o81 d81 p81 k81 => ?_))
    have p81b : psM B n g81 A (smP B n (if lm = 5 then 8 else 6) 2 p).1 (smP B n (if lm = 5 then 8 else 6) 2 p).2.1 := p81
    have k81b : (smP B n (if lm = 5 then 8 else 6) 2 p).1 = 0 → okM f g81 A lm la u (smP B n (if lm = 5 then 8 else 6) 2 p).2.2 := k81
    have nb : (g81 A 12).toInt ≠ 0 := by rw [p81b.1]; omega
    refine r_aloadR0 dX12_readUnit_84 ?_
    refine m_getV (x := (g81 A 10)) zf_RX12_92 rfl dX12_readUnit_85 (shM_k hs) (rfl) ?_
    refine r_istore1 dX12_readUnit_88 rfl ?_
    refine r_iload1 dX12_readUnit_89 ?_
    refine n_bipush dX12_readUnit_90 (by decide) (fun r90 e90_z => ?_)
    refine t_iceq (t := 112) dX12_readUnit_92 (by decide) (fun h92 => ?_) (fun h92 => ?_)
    · refine r_aloadR0 dX12_readUnit_112 ?_
      refine m_getV (x := (g81 A 12)) zf_RX12_112 rfl dX12_readUnit_113 (shM_k hs) (rfl) ?_
      refine t_ifne (t := 123) dX12_readUnit_116 (by decide) (fun h116 => ?_) (fun h116 => False.elim (by omega))
      refine r_aloadR0 dX12_readUnit_123 ?_
      refine q_callV0 zm_RX12_181 dX12_readUnit_124 (shM_k hs) (by decide) rfl (Nat.le_of_ble_eq_true rfl) (Nat.le_of_ble_eq_true rfl) (Nat.le_of_ble_eq_true rfl) (Nat.le_of_ble_eq_true rfl) (Nat.le_of_ble_eq_true rfl) (s_X12_readSum_x G hs nb ?_)
      refine r_aloadR0 dX12_readUnit_127 ?_
      refine r_iload1 dX12_readUnit_128 ?_
      refine n_bipush dX12_readUnit_129 (by decide) (fun r129 e129 => ?_)
      refine t_icne (t := 139) dX12_readUnit_131 (by decide) (fun h131 => ?_) (fun h131 => ?_)
      · refine r_iload1 dX12_readUnit_139 ?_
        refine n_bipush dX12_readUnit_140 (by decide) (fun r140 e140 => ?_)
        refine t_icne (t := 150) dX12_readUnit_142 (by decide) (fun h142 => ?_) (fun h142 => ?_)
        · refine n_bipush dX12_readUnit_150 (by decide) (fun r150 e150 => ?_)
          refine q_callV1 zm_RX12_162 dX12_readUnit_152 (shM_k hs) (by decide) rfl (Nat.le_of_ble_eq_true rfl) (Nat.le_of_ble_eq_true rfl) (Nat.le_of_ble_eq_true rfl) (Nat.le_of_ble_eq_true rfl) (Nat.le_of_ble_eq_true rfl) (s_X12_laysStep_x G hs nb ?_)
          refine r_vret dX12_readUnit_155 rfl (Nat.le_of_ble_eq_true rfl) (Nat.le_of_ble_eq_true rfl) ?_
          exact hQ _ o81 d81 p81b (fun h_z => absurd h_z hr)
        · refine n_bipush dX12_readUnit_145 (by decide) (fun r145 e145 => ?_)
          refine r_goto (t := 152) dX12_readUnit_147 (by decide) ?_
          refine q_callV1 zm_RX12_162 dX12_readUnit_152 (shM_k hs) (by decide) rfl (Nat.le_of_ble_eq_true rfl) (Nat.le_of_ble_eq_true rfl) (Nat.le_of_ble_eq_true rfl) (Nat.le_of_ble_eq_true rfl) (Nat.le_of_ble_eq_true rfl) (s_X12_laysStep_x G hs nb ?_)
          refine r_vret dX12_readUnit_155 rfl (Nat.le_of_ble_eq_true rfl) (Nat.le_of_ble_eq_true rfl) ?_
          exact hQ _ o81 d81 p81b (fun h_z => absurd h_z hr)
      · refine n_bipush dX12_readUnit_134 (by decide) (fun r134 e134 => ?_)
        refine r_goto (t := 152) dX12_readUnit_136 (by decide) ?_
        refine q_callV1 zm_RX12_162 dX12_readUnit_152 (shM_k hs) (by decide) rfl (Nat.le_of_ble_eq_true rfl) (Nat.le_of_ble_eq_true rfl) (Nat.le_of_ble_eq_true rfl) (Nat.le_of_ble_eq_true rfl) (Nat.le_of_ble_eq_true rfl) (s_X12_laysStep_x G hs nb ?_)
        refine r_vret dX12_readUnit_155 rfl (Nat.le_of_ble_eq_true rfl) (Nat.le_of_ble_eq_true rfl) ?_
        exact hQ _ o81 d81 p81b (fun h_z => absurd h_z hr)
    · refine r_iload1 dX12_readUnit_95 ?_
      refine n_bipush dX12_readUnit_96 (by decide) (fun r96 e96 => ?_)
      refine t_iceq (t := 112) dX12_readUnit_98 (by decide) (fun h98 => ?_) (fun h98 => ?_)
      · refine r_aloadR0 dX12_readUnit_112 ?_
        refine m_getV (x := (g81 A 12)) zf_RX12_112 rfl dX12_readUnit_113 (shM_k hs) (rfl) ?_
        refine t_ifne (t := 123) dX12_readUnit_116 (by decide) (fun h116 => ?_) (fun h116 => False.elim (by omega))
        refine r_aloadR0 dX12_readUnit_123 ?_
        refine q_callV0 zm_RX12_181 dX12_readUnit_124 (shM_k hs) (by decide) rfl (Nat.le_of_ble_eq_true rfl) (Nat.le_of_ble_eq_true rfl) (Nat.le_of_ble_eq_true rfl) (Nat.le_of_ble_eq_true rfl) (Nat.le_of_ble_eq_true rfl) (s_X12_readSum_x G hs nb ?_)
        refine r_aloadR0 dX12_readUnit_127 ?_
        refine r_iload1 dX12_readUnit_128 ?_
        refine n_bipush dX12_readUnit_129 (by decide) (fun r129 e129 => ?_)
        refine t_icne (t := 139) dX12_readUnit_131 (by decide) (fun h131 => ?_) (fun h131 => ?_)
        · refine r_iload1 dX12_readUnit_139 ?_
          refine n_bipush dX12_readUnit_140 (by decide) (fun r140 e140 => ?_)
          refine t_icne (t := 150) dX12_readUnit_142 (by decide) (fun h142 => ?_) (fun h142 => ?_)
          · refine n_bipush dX12_readUnit_150 (by decide) (fun r150 e150 => ?_)
            refine q_callV1 zm_RX12_162 dX12_readUnit_152 (shM_k hs) (by decide) rfl (Nat.le_of_ble_eq_true rfl) (Nat.le_of_ble_eq_true rfl) (Nat.le_of_ble_eq_true rfl) (Nat.le_of_ble_eq_true rfl) (Nat.le_of_ble_eq_true rfl) (s_X12_laysStep_x G hs nb ?_)
            refine r_vret dX12_readUnit_155 rfl (Nat.le_of_ble_eq_true rfl) (Nat.le_of_ble_eq_true rfl) ?_
            exact hQ _ o81 d81 p81b (fun h_z => absurd h_z hr)
          · refine n_bipush dX12_readUnit_145 (by decide) (fun r145 e145 => ?_)
            refine r_goto (t := 152) dX12_readUnit_147 (by decide) ?_
            refine q_callV1 zm_RX12_162 dX12_readUnit_152 (shM_k hs) (by decide) rfl (Nat.le_of_ble_eq_true rfl) (Nat.le_of_ble_eq_true rfl) (Nat.le_of_ble_eq_true rfl) (Nat.le_of_ble_eq_true rfl) (Nat.le_of_ble_eq_true rfl) (s_X12_laysStep_x G hs nb ?_)
            refine r_vret dX12_readUnit_155 rfl (Nat.le_of_ble_eq_true rfl) (Nat.le_of_ble_eq_true rfl) ?_
            exact hQ _ o81 d81 p81b (fun h_z => absurd h_z hr)
        · refine n_bipush dX12_readUnit_134 (by decide) (fun r134 e134 => ?_)
          refine r_goto (t := 152) dX12_readUnit_136 (by decide) ?_
          refine q_callV1 zm_RX12_162 dX12_readUnit_152 (shM_k hs) (by decide) rfl (Nat.le_of_ble_eq_true rfl) (Nat.le_of_ble_eq_true rfl) (Nat.le_of_ble_eq_true rfl) (Nat.le_of_ble_eq_true rfl) (Nat.le_of_ble_eq_true rfl) (s_X12_laysStep_x G hs nb ?_)
          refine r_vret dX12_readUnit_155 rfl (Nat.le_of_ble_eq_true rfl) (Nat.le_of_ble_eq_true rfl) ?_
          exact hQ _ o81 d81 p81b (fun h_z => absurd h_z hr)
      · refine r_iload1 dX12_readUnit_101 ?_
        refine n_bipush dX12_readUnit_102 (by decide) (fun r102 e102_z => ?_)
        refine t_iceq (t := 112) dX12_readUnit_104 (by decide) (fun h104 => ?_) (fun h104 => ?_)
        · refine r_aloadR0 dX12_readUnit_112 ?_
          refine m_getV (x := (g81 A 12)) zf_RX12_112 rfl dX12_readUnit_113 (shM_k hs) (rfl) ?_
          refine t_ifne (t := 123) dX12_readUnit_116 (by decide) (fun h116 => ?_) (fun h116 => False.elim (by omega))
          refine r_aloadR0 dX12_readUnit_123 ?_
          refine q_callV0 zm_RX12_181 dX12_readUnit_124 (shM_k hs) (by decide) rfl (Nat.le_of_ble_eq_true rfl) (Nat.le_of_ble_eq_true rfl) (Nat.le_of_ble_eq_true rfl) (Nat.le_of_ble_eq_true rfl) (Nat.le_of_ble_eq_true rfl) (s_X12_readSum_x G hs nb ?_)
          refine r_aloadR0 dX12_readUnit_127 ?_
          refine r_iload1 dX12_readUnit_128 ?_
          refine n_bipush dX12_readUnit_129 (by decide) (fun r129 e129 => ?_)
          refine t_icne (t := 139) dX12_readUnit_131 (by decide) (fun h131 => ?_) (fun h131 => ?_)
          · refine r_iload1 dX12_readUnit_139 ?_
            refine n_bipush dX12_readUnit_140 (by decide) (fun r140 e140 => ?_)
            refine t_icne (t := 150) dX12_readUnit_142 (by decide) (fun h142 => ?_) (fun h142 => ?_)
            · refine n_bipush dX12_readUnit_150 (by decide) (fun r150 e150 => ?_)
              refine q_callV1 zm_RX12_162 dX12_readUnit_152 (shM_k hs) (by decide) rfl (Nat.le_of_ble_eq_true rfl) (Nat.le_of_ble_eq_true rfl) (Nat.le_of_ble_eq_true rfl) (Nat.le_of_ble_eq_true rfl) (Nat.le_of_ble_eq_true rfl) (s_X12_laysStep_x G hs nb ?_)
              refine r_vret dX12_readUnit_155 rfl (Nat.le_of_ble_eq_true rfl) (Nat.le_of_ble_eq_true rfl) ?_
              exact hQ _ o81 d81 p81b (fun h_z => absurd h_z hr)
            · refine n_bipush dX12_readUnit_145 (by decide) (fun r145 e145 => ?_)
              refine r_goto (t := 152) dX12_readUnit_147 (by decide) ?_
              refine q_callV1 zm_RX12_162 dX12_readUnit_152 (shM_k hs) (by decide) rfl (Nat.le_of_ble_eq_true rfl) (Nat.le_of_ble_eq_true rfl) (Nat.le_of_ble_eq_true rfl) (Nat.le_of_ble_eq_true rfl) (Nat.le_of_ble_eq_true rfl) (s_X12_laysStep_x G hs nb ?_)
              refine r_vret dX12_readUnit_155 rfl (Nat.le_of_ble_eq_true rfl) (Nat.le_of_ble_eq_true rfl) ?_
              exact hQ _ o81 d81 p81b (fun h_z => absurd h_z hr)
          · refine n_bipush dX12_readUnit_134 (by decide) (fun r134 e134 => ?_)
            refine r_goto (t := 152) dX12_readUnit_136 (by decide) ?_
            refine q_callV1 zm_RX12_162 dX12_readUnit_152 (shM_k hs) (by decide) rfl (Nat.le_of_ble_eq_true rfl) (Nat.le_of_ble_eq_true rfl) (Nat.le_of_ble_eq_true rfl) (Nat.le_of_ble_eq_true rfl) (Nat.le_of_ble_eq_true rfl) (s_X12_laysStep_x G hs nb ?_)
            refine r_vret dX12_readUnit_155 rfl (Nat.le_of_ble_eq_true rfl) (Nat.le_of_ble_eq_true rfl) ?_
            exact hQ _ o81 d81 p81b (fun h_z => absurd h_z hr)
        · refine r_aloadR0 dX12_readUnit_107 ?_
          refine n_iconst dX12_readUnit_108 (by decide) (fun r108 e108 => ?_)
          refine q_callV1 zm_RX12_134 dX12_readUnit_109 (shM_k hs) (by decide) rfl (Nat.le_of_ble_eq_true rfl) (Nat.le_of_ble_eq_true rfl) (Nat.le_of_ble_eq_true rfl) (Nat.le_of_ble_eq_true rfl) (Nat.le_of_ble_eq_true rfl) (s_X12_blames_x G hs nb ?_)
          refine r_aloadR0 dX12_readUnit_112 ?_
          refine m_getV (x := (g81 A 12)) zf_RX12_112 rfl dX12_readUnit_113 (shM_k hs) (rfl) ?_
          refine t_ifne (t := 123) dX12_readUnit_116 (by decide) (fun h116 => ?_) (fun h116 => False.elim (by omega))
          refine r_aloadR0 dX12_readUnit_123 ?_
          refine q_callV0 zm_RX12_181 dX12_readUnit_124 (shM_k hs) (by decide) rfl (Nat.le_of_ble_eq_true rfl) (Nat.le_of_ble_eq_true rfl) (Nat.le_of_ble_eq_true rfl) (Nat.le_of_ble_eq_true rfl) (Nat.le_of_ble_eq_true rfl) (s_X12_readSum_x G hs nb ?_)
          refine r_aloadR0 dX12_readUnit_127 ?_
          refine r_iload1 dX12_readUnit_128 ?_
          refine n_bipush dX12_readUnit_129 (by decide) (fun r129 e129 => ?_)
          refine t_icne (t := 139) dX12_readUnit_131 (by decide) (fun h131 => ?_) (fun h131 => ?_)
          · refine r_iload1 dX12_readUnit_139 ?_
            refine n_bipush dX12_readUnit_140 (by decide) (fun r140 e140 => ?_)
            refine t_icne (t := 150) dX12_readUnit_142 (by decide) (fun h142 => ?_) (fun h142 => ?_)
            · refine n_bipush dX12_readUnit_150 (by decide) (fun r150 e150 => ?_)
              refine q_callV1 zm_RX12_162 dX12_readUnit_152 (shM_k hs) (by decide) rfl (Nat.le_of_ble_eq_true rfl) (Nat.le_of_ble_eq_true rfl) (Nat.le_of_ble_eq_true rfl) (Nat.le_of_ble_eq_true rfl) (Nat.le_of_ble_eq_true rfl) (s_X12_laysStep_x G hs nb ?_)
              refine r_vret dX12_readUnit_155 rfl (Nat.le_of_ble_eq_true rfl) (Nat.le_of_ble_eq_true rfl) ?_
              exact hQ _ o81 d81 p81b (fun h_z => absurd h_z hr)
            · refine n_bipush dX12_readUnit_145 (by decide) (fun r145 e145 => ?_)
              refine r_goto (t := 152) dX12_readUnit_147 (by decide) ?_
              refine q_callV1 zm_RX12_162 dX12_readUnit_152 (shM_k hs) (by decide) rfl (Nat.le_of_ble_eq_true rfl) (Nat.le_of_ble_eq_true rfl) (Nat.le_of_ble_eq_true rfl) (Nat.le_of_ble_eq_true rfl) (Nat.le_of_ble_eq_true rfl) (s_X12_laysStep_x G hs nb ?_)
              refine r_vret dX12_readUnit_155 rfl (Nat.le_of_ble_eq_true rfl) (Nat.le_of_ble_eq_true rfl) ?_
              exact hQ _ o81 d81 p81b (fun h_z => absurd h_z hr)
          · refine n_bipush dX12_readUnit_134 (by decide) (fun r134 e134 => ?_)
            refine r_goto (t := 152) dX12_readUnit_136 (by decide) ?_
            refine q_callV1 zm_RX12_162 dX12_readUnit_152 (shM_k hs) (by decide) rfl (Nat.le_of_ble_eq_true rfl) (Nat.le_of_ble_eq_true rfl) (Nat.le_of_ble_eq_true rfl) (Nat.le_of_ble_eq_true rfl) (Nat.le_of_ble_eq_true rfl) (s_X12_laysStep_x G hs nb ?_)
            refine r_vret dX12_readUnit_155 rfl (Nat.le_of_ble_eq_true rfl) (Nat.le_of_ble_eq_true rfl) ?_
            exact hQ _ o81 d81 p81b (fun h_z => absurd h_z hr)
set_option maxHeartbeats 4000000 in
set_option maxRecDepth 100000 in
theorem s_X12_readBoth_2 {g : zGT} {w : zW} {f : Nat → Nat → Int32} {j : Nat → Nat → Int64} {A : Nat} {B : Nat → Nat} {n : Nat} {wa wv : Nat → Nat} {kq : Nat} {p lm la u : Nat} {Q : Option Value → zW → Prop} {QX : String → zW → Prop} (G : zGok g) (hs : shM w A) (kw : kWd g wa wv kq) (hld : kLd g wa) (htp : tpM B n f A) (hps : psM B n f A 0 p) (hd16 : (f A 16).toInt = 4) (hlm : (f A 17).toInt = (lm : Nat)) (hla : (f A 18).toInt = (la : Nat)) (hu : (f (A + 2) lm).toInt = (u : Nat)) (h5 : lm ≤ 5) (h29 : 209 ≤ la) (h99 : la ≤ 2009) (hup : u ≤ p) (hQ : ∀ f2_z, frM A [2] [8, 9, 10, 11, 12, 13, 16] f f2_z → (f2_z A 16).toInt = 4 → psM B n f2_z A (chP B n (unP B n (if lm = 5 then 8 else 6) 2) (opA B n) p).1 (chP B n (unP B n (if lm = 5 then 8 else 6) 2) (opA B n) p).2.1 → ((chP B n (unP B n (if lm = 5 then 8 else 6) 2) (opA B n) p).1 = 0 → okM f f2_z A lm la u (chP B n (unP B n (if lm = 5 then 8 else 6) 2) (opA B n) p).2.2) → Q none (zM w f2_z j)) : zC g 49 yX12_readBoth cX12_readBoth 1 none [.ref A] (zM w f j) (0, 0) Q QX := by
  refine zC_of G (by decide +kernel) (Nat.le_of_ble_eq_true rfl) ?_
  have ht := hps.2.1 rfl
  have h12 := hps.1
  have h900 := htp.2.1
  have hgd : ∀ s, s ≤ n → gdP n true (if lm = 5 then 8 else 6) (4 + 2 * 2) s ((unP B n (if lm = 5 then 8 else 6) 2) s) := gd_un (by split <;> decide) 2
  have lp : ∀ (mz : Nat) (f2_z : Nat → Nat → Int32) (k : Nat) (r : zPR), frM A [2] [8, 9, 10, 11, 12, 13, 16] f f2_z → (f2_z A 16).toInt = 4 → psM B n f2_z A r.1 r.2.1 → (r.1 = 0 → okM f f2_z A lm la u r.2.2) → (r.1 = 0 → p ≤ r.2.1 ∧ r.2.1 ≤ n ∧ r.2.2.length + p ≤ r.2.1) → (r.1 = 0 → n ≤ k + r.2.1) → lpP B n (unP B n (if lm = 5 then 8 else 6) 2) (opA B n) k r = chP B n (unP B n (if lm = 5 then 8 else 6) 2) (opA B n) p → k < mz → zR (zV g 49 yX12_readBoth 1 none (0, 0) Q QX) cX12_readBoth yX12_readBoth.cls 4 [some (.ref A)] [] (zM w f2_z j) (0, 0) := by
    intro mz
    induction mz with
    | zero =>
      intro f2_z k r ofr hd2 hp2 hk2 hg2 hnk hR hmz
      exact absurd hmz (Nat.not_lt_zero _)
    | succ mz ih =>
      intro f2_z k r ofr hd2 hp2 hk2 hg2 hnk hR hmz
      by_cases hr : r.1 = 0
      · have hk3 := hk2 hr
        obtain ⟨q1_z, q2_z, q3_z⟩ := hg2 hr
        have hnk3 := hnk hr
        have hps2 := hp2
        rw [hr] at hps2
        have hb2 := hps2.1
        have htp2 := tpM_of htp (ofr.2.1 5 (by decide) (by decide) (by decide)) (ofr.2.2 7 (by decide))
        by_cases hc_z : isWd B n r.2.1 7 = true
        · have hop : (opA B n) r.2.1 = 2001 := if_pos hc_z
          have hop0 : (opA B n) r.2.1 ≠ 0 := by rw [hop]; decide
          have hln := tk_lt (B := B) (n := n) (s := r.2.1) (by rw [(isWd_tk hc_z).1]; decide)
          obtain ⟨k2_z, rfl⟩ : ∃ k2_z, k = k2_z + 1 := ⟨k - 1, by omega⟩
          have hnx := nxP_gt (B := B) hln
          have gq := hgd _ hnx.2
          by_cases hq : ((unP B n (if lm = 5 then 8 else 6) 2) (nxP B n r.2.1)).1 = 0
          · obtain ⟨y1, y2, y3, y4⟩ := gq.1 hq
            refine r_aloadR0 dX12_readBoth_4 ?_
            refine k_ldc (hld _ (List.mem_of_getElem? (i := 1) rfl)) dX12_readBoth_5 ?_
            refine q_callV1 zm_RX12_142 dX12_readBoth_7 (shM_k hs) (by decide) rfl (Nat.le_of_ble_eq_true rfl) (Nat.le_of_ble_eq_true rfl) (Nat.le_of_ble_eq_true rfl) (Nat.le_of_ble_eq_true rfl) (Nat.le_of_ble_eq_true rfl) (s_X12_took_t (i := 7) G hs kw (by decide) htp2 hps2 hc_z (fun r7 g7 e7_z o7 p7 => ?_))
            have htp7 := tpM_of htp2 (o7.2.1 5 (by decide) (by decide) (by decide)) (o7.2.2 7 (by decide))
            have w7 : g7 (A + 2) = f2_z (A + 2) := o7.2.1 2 (by decide) (by decide) (by decide)
            refine t_ifeq (t := 26) dX12_readBoth_10 (by decide) (fun h10 => False.elim (by omega)) (fun h10 => ?_)
            refine r_aloadR0 dX12_readBoth_13 ?_
            refine q_callV0 zm_RX12_165 dX12_readBoth_14 (shM_k hs) (by decide) rfl (Nat.le_of_ble_eq_true rfl) (Nat.le_of_ble_eq_true rfl) (Nat.le_of_ble_eq_true rfl) (Nat.le_of_ble_eq_true rfl) (Nat.le_of_ble_eq_true rfl) (s_X12_readUnit_2 (lm := lm) (la := la) (u := u + r.2.2.length) G hs kw hld htp7 p7 (by rw [o7.2.2 16 (by decide)]; exact hd2) (by rw [o7.2.2 17 (by decide), ofr.2.2 17 (by decide)]; exact hlm) (by rw [o7.2.2 18 (by decide), ofr.2.2 18 (by decide)]; exact hla) (by rw [w7]; exact hk3.1) h5 h29 h99 (by omega) (fun g14 o14 d14 p14 k14 => ?_))
            have of14 : frM A [2] [8, 9, 10, 11, 12, 13, 16] f g14 := frM_tr ofr (frM_tr (frM_su o7 (by decide) (by decide)) o14)
            have p14b : psM B n g14 A ((unP B n (if lm = 5 then 8 else 6) 2) (nxP B n r.2.1)).1 ((unP B n (if lm = 5 then 8 else 6) 2) (nxP B n r.2.1)).2.1 := p14
            have k14b : ((unP B n (if lm = 5 then 8 else 6) 2) (nxP B n r.2.1)).1 = 0 → okM g7 g14 A lm la (u + r.2.2.length) ((unP B n (if lm = 5 then 8 else 6) 2) (nxP B n r.2.1)).2.2 := k14
            refine r_aloadR0 dX12_readBoth_17 ?_
            refine n_bipush dX12_readBoth_18 (by decide) (fun r18 e18_z => ?_)
            refine q_callV1 zm_RX12_162 dX12_readBoth_20 (shM_k hs) (by decide) rfl (Nat.le_of_ble_eq_true rfl) (Nat.le_of_ble_eq_true rfl) (Nat.le_of_ble_eq_true rfl) (Nat.le_of_ble_eq_true rfl) (Nat.le_of_ble_eq_true rfl) (s_X12_laysStep (lm := lm) (la := la) (u := u + r.2.2.length + ((unP B n (if lm = 5 then 8 else 6) 2) (nxP B n r.2.1)).2.2.length) G hs (by have := p14b.1; rw [hq] at this; exact this) (by rw [of14.2.2 17 (by decide)]; exact hlm) (by rw [of14.2.2 18 (by decide)]; exact hla) (k14b hq).1 h5 h29 (by omega) (fun g20 o20 a20 b20 c20 => ?_))
            refine r_goto (t := 4) dX12_readBoth_23 (by decide) ?_
            have hp14 := p14b
            rw [hq] at hp14
            refine ih _ k2_z (0, ((unP B n (if lm = 5 then 8 else 6) 2) (nxP B n r.2.1)).2.1, r.2.2 ++ ((unP B n (if lm = 5 then 8 else 6) 2) (nxP B n r.2.1)).2.2 ++ [(opA B n) r.2.1]) (frM_tr of14 (frM_su o20 (by decide) (by decide))) (by rw [o20.2.2 16 (by decide)]; exact d14) (psM_of hp14 (o20.2.2 8 (by decide)) (o20.2.2 9 (by decide)) (o20.2.2 10 (by decide)) (o20.2.2 11 (by decide)) (o20.2.2 12 (by decide)) (o20.2.2 13 (by decide))) (fun _ => okM_ap (by omega) (by rw [List.length_append]; omega) (okM_ap (by omega) (by omega) hk3 (okM_cg (k14b hq) w7 rfl)) ?_) (fun _ => ?_) (fun _ => ?_) ?_ (by omega)
            · rw [List.length_append, ← Nat.add_assoc, hop]
              exact okM_one (by omega) a20 b20 c20 (by rw [e18_z]; rfl)
            · show p ≤ ((unP B n (if lm = 5 then 8 else 6) 2) (nxP B n r.2.1)).2.1 ∧ ((unP B n (if lm = 5 then 8 else 6) 2) (nxP B n r.2.1)).2.1 ≤ n ∧ (r.2.2 ++ ((unP B n (if lm = 5 then 8 else 6) 2) (nxP B n r.2.1)).2.2 ++ [(opA B n) r.2.1]).length + p ≤ ((unP B n (if lm = 5 then 8 else 6) 2) (nxP B n r.2.1)).2.1
              rw [List.length_append, List.length_append, List.length_singleton]
              omega
            · show n ≤ k2_z + ((unP B n (if lm = 5 then 8 else 6) 2) (nxP B n r.2.1)).2.1
              omega
            · exact (lpP_on hr hop0 hq).symm.trans hR
          · have nb : ∀ g : Nat → Nat → Int32, psM B n g A ((unP B n (if lm = 5 then 8 else 6) 2) (nxP B n r.2.1)).1 ((unP B n (if lm = 5 then 8 else 6) 2) (nxP B n r.2.1)).2.1 → (g A 12).toInt ≠ 0 := fun g h_z => by rw [h_z.1]; omega
            refine r_aloadR0 dX12_readBoth_4 ?_
            refine k_ldc (hld _ (List.mem_of_getElem? (i := 1) rfl)) dX12_readBoth_5 ?_
            refine q_callV1 zm_RX12_142 dX12_readBoth_7 (shM_k hs) (by decide) rfl (Nat.le_of_ble_eq_true rfl) (Nat.le_of_ble_eq_true rfl) (Nat.le_of_ble_eq_true rfl) (Nat.le_of_ble_eq_true rfl) (Nat.le_of_ble_eq_true rfl) (s_X12_took_t (i := 7) G hs kw (by decide) htp2 hps2 hc_z (fun r7 g7 e7_z o7 p7 => ?_))
            have htp7 := tpM_of htp2 (o7.2.1 5 (by decide) (by decide) (by decide)) (o7.2.2 7 (by decide))
            have w7 : g7 (A + 2) = f2_z (A + 2) := o7.2.1 2 (by decide) (by decide) (by decide)
            refine t_ifeq (t := 26) dX12_readBoth_10 (by decide) (fun h10 => False.elim (by omega)) (fun h10 => ?_)
            refine r_aloadR0 dX12_readBoth_13 ?_
            refine q_callV0 zm_RX12_165 dX12_readBoth_14 (shM_k hs) (by decide) rfl (Nat.le_of_ble_eq_true rfl) (Nat.le_of_ble_eq_true rfl) (Nat.le_of_ble_eq_true rfl) (Nat.le_of_ble_eq_true rfl) (Nat.le_of_ble_eq_true rfl) (s_X12_readUnit_2 (lm := lm) (la := la) (u := u + r.2.2.length) G hs kw hld htp7 p7 (by rw [o7.2.2 16 (by decide)]; exact hd2) (by rw [o7.2.2 17 (by decide), ofr.2.2 17 (by decide)]; exact hlm) (by rw [o7.2.2 18 (by decide), ofr.2.2 18 (by decide)]; exact hla) (by rw [w7]; exact hk3.1) h5 h29 h99 (by omega) (fun g14 o14 d14 p14 k14 => ?_))
            have of14 : frM A [2] [8, 9, 10, 11, 12, 13, 16] f g14 := frM_tr ofr (frM_tr (frM_su o7 (by decide) (by decide)) o14)
            have p14b : psM B n g14 A ((unP B n (if lm = 5 then 8 else 6) 2) (nxP B n r.2.1)).1 ((unP B n (if lm = 5 then 8 else 6) 2) (nxP B n r.2.1)).2.1 := p14
            have k14b : ((unP B n (if lm = 5 then 8 else 6) 2) (nxP B n r.2.1)).1 = 0 → okM g7 g14 A lm la (u + r.2.2.length) ((unP B n (if lm = 5 then 8 else 6) 2) (nxP B n r.2.1)).2.2 := k14
            refine r_aloadR0 dX12_readBoth_17 ?_
            refine n_bipush dX12_readBoth_18 (by decide) (fun r18 e18_z => ?_)
            refine q_callV1 zm_RX12_162 dX12_readBoth_20 (shM_k hs) (by decide) rfl (Nat.le_of_ble_eq_true rfl) (Nat.le_of_ble_eq_true rfl) (Nat.le_of_ble_eq_true rfl) (Nat.le_of_ble_eq_true rfl) (Nat.le_of_ble_eq_true rfl) (s_X12_laysStep_x G hs (nb _ p14b) ?_)
            refine r_goto (t := 4) dX12_readBoth_23 (by decide) ?_
            exact ih _ k2_z ((unP B n (if lm = 5 then 8 else 6) 2) (nxP B n r.2.1)) of14 d14 p14b (fun h_z => absurd h_z hq) (fun h_z => absurd h_z hq) (fun h_z => absurd h_z hq) ((lpP_bad hq).trans ((lpP_sub hr hop0 hq).symm.trans hR)) (by omega)
        · have hop : (opA B n) r.2.1 = 0 := if_neg hc_z
          have hv := (lpP_end (B := B) (n := n) (k := k) (sub := (unP B n (if lm = 5 then 8 else 6) 2)) hop).symm.trans hR
          refine r_aloadR0 dX12_readBoth_4 ?_
          refine k_ldc (hld _ (List.mem_of_getElem? (i := 1) rfl)) dX12_readBoth_5 ?_
          refine q_callV1 zm_RX12_142 dX12_readBoth_7 (shM_k hs) (by decide) rfl (Nat.le_of_ble_eq_true rfl) (Nat.le_of_ble_eq_true rfl) (Nat.le_of_ble_eq_true rfl) (Nat.le_of_ble_eq_true rfl) (Nat.le_of_ble_eq_true rfl) (s_X12_took_f (i := 7) G hs kw (by decide) htp2 hps2 hc_z (fun r7 e7_z => ?_))
          refine t_ifeq (t := 26) dX12_readBoth_10 (by decide) (fun h10 => ?_) (fun h10 => False.elim (by omega))
          refine r_vret dX12_readBoth_26 rfl (Nat.le_of_ble_eq_true rfl) (Nat.le_of_ble_eq_true rfl) ?_
          rw [← hv] at hQ
          exact hQ _ ofr hd2 hp2 hk2
      · have hb2 : (f2_z A 12).toInt ≠ 0 := by rw [hp2.1]; omega
        have hv := (lpP_bad (B := B) (n := n) (k := k) (sub := (unP B n (if lm = 5 then 8 else 6) 2)) (op := (opA B n)) hr).symm.trans hR
        refine r_aloadR0 dX12_readBoth_4 ?_
        refine k_ldc (hld _ (List.mem_of_getElem? (i := 1) rfl)) dX12_readBoth_5 ?_
        refine q_callV1 zm_RX12_142 dX12_readBoth_7 (shM_k hs) (by decide) rfl (Nat.le_of_ble_eq_true rfl) (Nat.le_of_ble_eq_true rfl) (Nat.le_of_ble_eq_true rfl) (Nat.le_of_ble_eq_true rfl) (Nat.le_of_ble_eq_true rfl) (s_X12_took_x (i := 7) (B := fun _ => 0) (n := 0) G hs kw (by decide) hb2 (fun r7 e7_z => ?_))
        refine t_ifeq (t := 26) dX12_readBoth_10 (by decide) (fun h10 => ?_) (fun h10 => False.elim (by omega))
        refine r_vret dX12_readBoth_26 rfl (Nat.le_of_ble_eq_true rfl) (Nat.le_of_ble_eq_true rfl) ?_
        rw [← hv] at hQ
        exact hQ _ ofr hd2 hp2 hk2
  refine r_aloadR0 dX12_readBoth_0 ?_
  refine q_callV0 zm_RX12_165 dX12_readBoth_1 (shM_k hs) (by decide) rfl (Nat.le_of_ble_eq_true rfl) (Nat.le_of_ble_eq_true rfl) (Nat.le_of_ble_eq_true rfl) (Nat.le_of_ble_eq_true rfl) (Nat.le_of_ble_eq_true rfl) (s_X12_readUnit_2 G hs kw hld htp hps hd16 hlm hla hu h5 h29 h99 hup (fun g1 o1 d1 p1 k1_z => ?_))
  have gp := hgd p ht.1
  exact lp _ g1 n ((unP B n (if lm = 5 then 8 else 6) 2) p) o1 d1 p1 k1_z (fun h_z => ⟨Nat.le_of_lt (gp.1 h_z).1, (gp.1 h_z).2.1, (gp.1 h_z).2.2.1⟩) (fun _ => Nat.le_add_right n _) rfl (Nat.lt_succ_self n)
set_option maxHeartbeats 4000000 in
set_option maxRecDepth 100000 in
theorem s_X12_readTruth_2 {g : zGT} {w : zW} {f : Nat → Nat → Int32} {j : Nat → Nat → Int64} {A : Nat} {B : Nat → Nat} {n : Nat} {wa wv : Nat → Nat} {kq : Nat} {p lm la u : Nat} {Q : Option Value → zW → Prop} {QX : String → zW → Prop} (G : zGok g) (hs : shM w A) (kw : kWd g wa wv kq) (hld : kLd g wa) (htp : tpM B n f A) (hps : psM B n f A 0 p) (hd16 : (f A 16).toInt = 4) (hlm : (f A 17).toInt = (lm : Nat)) (hla : (f A 18).toInt = (la : Nat)) (hu : (f (A + 2) lm).toInt = (u : Nat)) (h5 : lm ≤ 5) (h29 : 209 ≤ la) (h99 : la ≤ 2009) (hup : u ≤ p) (hQ : ∀ f2_z, frM A [2] [8, 9, 10, 11, 12, 13, 16] f f2_z → (f2_z A 16).toInt = 4 → psM B n f2_z A (chP B n (chP B n (unP B n (if lm = 5 then 8 else 6) 2) (opA B n)) (opO B n) p).1 (chP B n (chP B n (unP B n (if lm = 5 then 8 else 6) 2) (opA B n)) (opO B n) p).2.1 → ((chP B n (chP B n (unP B n (if lm = 5 then 8 else 6) 2) (opA B n)) (opO B n) p).1 = 0 → okM f f2_z A lm la u (chP B n (chP B n (unP B n (if lm = 5 then 8 else 6) 2) (opA B n)) (opO B n) p).2.2) → Q none (zM w f2_z j)) : zC g 50 yX12_readTruth cX12_readTruth 1 none [.ref A] (zM w f j) (0, 0) Q QX := by
  refine zC_of G (by decide +kernel) (Nat.le_of_ble_eq_true rfl) ?_
  have ht := hps.2.1 rfl
  have h12 := hps.1
  have h900 := htp.2.1
  have hgd : ∀ s, s ≤ n → gdP n true (if lm = 5 then 8 else 6) (4 + 2 * 2 + 1) s ((chP B n (unP B n (if lm = 5 then 8 else 6) 2) (opA B n)) s) := fun s hs9 => gd_ch (gd_un (by split <;> decide) 2) hop_A hs9
  have lp : ∀ (mz : Nat) (f2_z : Nat → Nat → Int32) (k : Nat) (r : zPR), frM A [2] [8, 9, 10, 11, 12, 13, 16] f f2_z → (f2_z A 16).toInt = 4 → psM B n f2_z A r.1 r.2.1 → (r.1 = 0 → okM f f2_z A lm la u r.2.2) → (r.1 = 0 → p ≤ r.2.1 ∧ r.2.1 ≤ n ∧ r.2.2.length + p ≤ r.2.1) → (r.1 = 0 → n ≤ k + r.2.1) → lpP B n (chP B n (unP B n (if lm = 5 then 8 else 6) 2) (opA B n)) (opO B n) k r = chP B n (chP B n (unP B n (if lm = 5 then 8 else 6) 2) (opA B n)) (opO B n) p → k < mz → zR (zV g 50 yX12_readTruth 1 none (0, 0) Q QX) cX12_readTruth yX12_readTruth.cls 4 [some (.ref A)] [] (zM w f2_z j) (0, 0) := by
    intro mz
    induction mz with
    | zero =>
      intro f2_z k r ofr hd2 hp2 hk2 hg2 hnk hR hmz
      exact absurd hmz (Nat.not_lt_zero _)
    | succ mz ih =>
      intro f2_z k r ofr hd2 hp2 hk2 hg2 hnk hR hmz
      by_cases hr : r.1 = 0
      · have hk3 := hk2 hr
        obtain ⟨q1_z, q2_z, q3_z⟩ := hg2 hr
        have hnk3 := hnk hr
        have hps2 := hp2
        rw [hr] at hps2
        have hb2 := hps2.1
        have htp2 := tpM_of htp (ofr.2.1 5 (by decide) (by decide) (by decide)) (ofr.2.2 7 (by decide))
        by_cases hc_z : isWd B n r.2.1 6 = true
        · have hop : (opO B n) r.2.1 = 2002 := if_pos hc_z
          have hop0 : (opO B n) r.2.1 ≠ 0 := by rw [hop]; decide
          have hln := tk_lt (B := B) (n := n) (s := r.2.1) (by rw [(isWd_tk hc_z).1]; decide)
          obtain ⟨k2_z, rfl⟩ : ∃ k2_z, k = k2_z + 1 := ⟨k - 1, by omega⟩
          have hnx := nxP_gt (B := B) hln
          have gq := hgd _ hnx.2
          by_cases hq : ((chP B n (unP B n (if lm = 5 then 8 else 6) 2) (opA B n)) (nxP B n r.2.1)).1 = 0
          · obtain ⟨y1, y2, y3, y4⟩ := gq.1 hq
            refine r_aloadR0 dX12_readTruth_4 ?_
            refine k_ldc (hld _ (List.mem_of_getElem? (i := 0) rfl)) dX12_readTruth_5 ?_
            refine q_callV1 zm_RX12_142 dX12_readTruth_7 (shM_k hs) (by decide) rfl (Nat.le_of_ble_eq_true rfl) (Nat.le_of_ble_eq_true rfl) (Nat.le_of_ble_eq_true rfl) (Nat.le_of_ble_eq_true rfl) (Nat.le_of_ble_eq_true rfl) (s_X12_took_t (i := 6) G hs kw (by decide) htp2 hps2 hc_z (fun r7 g7 e7_z o7 p7 => ?_))
            have htp7 := tpM_of htp2 (o7.2.1 5 (by decide) (by decide) (by decide)) (o7.2.2 7 (by decide))
            have w7 : g7 (A + 2) = f2_z (A + 2) := o7.2.1 2 (by decide) (by decide) (by decide)
            refine t_ifeq (t := 26) dX12_readTruth_10 (by decide) (fun h10 => False.elim (by omega)) (fun h10 => ?_)
            refine r_aloadR0 dX12_readTruth_13 ?_
            refine q_callV0 zm_RX12_157 dX12_readTruth_14 (shM_k hs) (by decide) rfl (Nat.le_of_ble_eq_true rfl) (Nat.le_of_ble_eq_true rfl) (Nat.le_of_ble_eq_true rfl) (Nat.le_of_ble_eq_true rfl) (Nat.le_of_ble_eq_true rfl) (s_X12_readBoth_2 (lm := lm) (la := la) (u := u + r.2.2.length) G hs kw hld htp7 p7 (by rw [o7.2.2 16 (by decide)]; exact hd2) (by rw [o7.2.2 17 (by decide), ofr.2.2 17 (by decide)]; exact hlm) (by rw [o7.2.2 18 (by decide), ofr.2.2 18 (by decide)]; exact hla) (by rw [w7]; exact hk3.1) h5 h29 h99 (by omega) (fun g14 o14 d14 p14 k14 => ?_))
            have of14 : frM A [2] [8, 9, 10, 11, 12, 13, 16] f g14 := frM_tr ofr (frM_tr (frM_su o7 (by decide) (by decide)) o14)
            have p14b : psM B n g14 A ((chP B n (unP B n (if lm = 5 then 8 else 6) 2) (opA B n)) (nxP B n r.2.1)).1 ((chP B n (unP B n (if lm = 5 then 8 else 6) 2) (opA B n)) (nxP B n r.2.1)).2.1 := p14
            have k14b : ((chP B n (unP B n (if lm = 5 then 8 else 6) 2) (opA B n)) (nxP B n r.2.1)).1 = 0 → okM g7 g14 A lm la (u + r.2.2.length) ((chP B n (unP B n (if lm = 5 then 8 else 6) 2) (opA B n)) (nxP B n r.2.1)).2.2 := k14
            refine r_aloadR0 dX12_readTruth_17 ?_
            refine n_bipush dX12_readTruth_18 (by decide) (fun r18 e18_z => ?_)
            refine q_callV1 zm_RX12_162 dX12_readTruth_20 (shM_k hs) (by decide) rfl (Nat.le_of_ble_eq_true rfl) (Nat.le_of_ble_eq_true rfl) (Nat.le_of_ble_eq_true rfl) (Nat.le_of_ble_eq_true rfl) (Nat.le_of_ble_eq_true rfl) (s_X12_laysStep (lm := lm) (la := la) (u := u + r.2.2.length + ((chP B n (unP B n (if lm = 5 then 8 else 6) 2) (opA B n)) (nxP B n r.2.1)).2.2.length) G hs (by have := p14b.1; rw [hq] at this; exact this) (by rw [of14.2.2 17 (by decide)]; exact hlm) (by rw [of14.2.2 18 (by decide)]; exact hla) (k14b hq).1 h5 h29 (by omega) (fun g20 o20 a20 b20 c20 => ?_))
            refine r_goto (t := 4) dX12_readTruth_23 (by decide) ?_
            have hp14 := p14b
            rw [hq] at hp14
            refine ih _ k2_z (0, ((chP B n (unP B n (if lm = 5 then 8 else 6) 2) (opA B n)) (nxP B n r.2.1)).2.1, r.2.2 ++ ((chP B n (unP B n (if lm = 5 then 8 else 6) 2) (opA B n)) (nxP B n r.2.1)).2.2 ++ [(opO B n) r.2.1]) (frM_tr of14 (frM_su o20 (by decide) (by decide))) (by rw [o20.2.2 16 (by decide)]; exact d14) (psM_of hp14 (o20.2.2 8 (by decide)) (o20.2.2 9 (by decide)) (o20.2.2 10 (by decide)) (o20.2.2 11 (by decide)) (o20.2.2 12 (by decide)) (o20.2.2 13 (by decide))) (fun _ => okM_ap (by omega) (by rw [List.length_append]; omega) (okM_ap (by omega) (by omega) hk3 (okM_cg (k14b hq) w7 rfl)) ?_) (fun _ => ?_) (fun _ => ?_) ?_ (by omega)
            · rw [List.length_append, ← Nat.add_assoc, hop]
              exact okM_one (by omega) a20 b20 c20 (by rw [e18_z]; rfl)
            · show p ≤ ((chP B n (unP B n (if lm = 5 then 8 else 6) 2) (opA B n)) (nxP B n r.2.1)).2.1 ∧ ((chP B n (unP B n (if lm = 5 then 8 else 6) 2) (opA B n)) (nxP B n r.2.1)).2.1 ≤ n ∧ (r.2.2 ++ ((chP B n (unP B n (if lm = 5 then 8 else 6) 2) (opA B n)) (nxP B n r.2.1)).2.2 ++ [(opO B n) r.2.1]).length + p ≤ ((chP B n (unP B n (if lm = 5 then 8 else 6) 2) (opA B n)) (nxP B n r.2.1)).2.1
              rw [List.length_append, List.length_append, List.length_singleton]
              omega
            · show n ≤ k2_z + ((chP B n (unP B n (if lm = 5 then 8 else 6) 2) (opA B n)) (nxP B n r.2.1)).2.1
              omega
            · exact (lpP_on hr hop0 hq).symm.trans hR
          · have nb : ∀ g : Nat → Nat → Int32, psM B n g A ((chP B n (unP B n (if lm = 5 then 8 else 6) 2) (opA B n)) (nxP B n r.2.1)).1 ((chP B n (unP B n (if lm = 5 then 8 else 6) 2) (opA B n)) (nxP B n r.2.1)).2.1 → (g A 12).toInt ≠ 0 := fun g h_z => by rw [h_z.1]; omega
            refine r_aloadR0 dX12_readTruth_4 ?_
            refine k_ldc (hld _ (List.mem_of_getElem? (i := 0) rfl)) dX12_readTruth_5 ?_
            refine q_callV1 zm_RX12_142 dX12_readTruth_7 (shM_k hs) (by decide) rfl (Nat.le_of_ble_eq_true rfl) (Nat.le_of_ble_eq_true rfl) (Nat.le_of_ble_eq_true rfl) (Nat.le_of_ble_eq_true rfl) (Nat.le_of_ble_eq_true rfl) (s_X12_took_t (i := 6) G hs kw (by decide) htp2 hps2 hc_z (fun r7 g7 e7_z o7 p7 => ?_))
            have htp7 := tpM_of htp2 (o7.2.1 5 (by decide) (by decide) (by decide)) (o7.2.2 7 (by decide))
            have w7 : g7 (A + 2) = f2_z (A + 2) := o7.2.1 2 (by decide) (by decide) (by decide)
            refine t_ifeq (t := 26) dX12_readTruth_10 (by decide) (fun h10 => False.elim (by omega)) (fun h10 => ?_)
            refine r_aloadR0 dX12_readTruth_13 ?_
            refine q_callV0 zm_RX12_157 dX12_readTruth_14 (shM_k hs) (by decide) rfl (Nat.le_of_ble_eq_true rfl) (Nat.le_of_ble_eq_true rfl) (Nat.le_of_ble_eq_true rfl) (Nat.le_of_ble_eq_true rfl) (Nat.le_of_ble_eq_true rfl) (s_X12_readBoth_2 (lm := lm) (la := la) (u := u + r.2.2.length) G hs kw hld htp7 p7 (by rw [o7.2.2 16 (by decide)]; exact hd2) (by rw [o7.2.2 17 (by decide), ofr.2.2 17 (by decide)]; exact hlm) (by rw [o7.2.2 18 (by decide), ofr.2.2 18 (by decide)]; exact hla) (by rw [w7]; exact hk3.1) h5 h29 h99 (by omega) (fun g14 o14 d14 p14 k14 => ?_))
            have of14 : frM A [2] [8, 9, 10, 11, 12, 13, 16] f g14 := frM_tr ofr (frM_tr (frM_su o7 (by decide) (by decide)) o14)
            have p14b : psM B n g14 A ((chP B n (unP B n (if lm = 5 then 8 else 6) 2) (opA B n)) (nxP B n r.2.1)).1 ((chP B n (unP B n (if lm = 5 then 8 else 6) 2) (opA B n)) (nxP B n r.2.1)).2.1 := p14
            have k14b : ((chP B n (unP B n (if lm = 5 then 8 else 6) 2) (opA B n)) (nxP B n r.2.1)).1 = 0 → okM g7 g14 A lm la (u + r.2.2.length) ((chP B n (unP B n (if lm = 5 then 8 else 6) 2) (opA B n)) (nxP B n r.2.1)).2.2 := k14
            refine r_aloadR0 dX12_readTruth_17 ?_
            refine n_bipush dX12_readTruth_18 (by decide) (fun r18 e18_z => ?_)
            refine q_callV1 zm_RX12_162 dX12_readTruth_20 (shM_k hs) (by decide) rfl (Nat.le_of_ble_eq_true rfl) (Nat.le_of_ble_eq_true rfl) (Nat.le_of_ble_eq_true rfl) (Nat.le_of_ble_eq_true rfl) (Nat.le_of_ble_eq_true rfl) (s_X12_laysStep_x G hs (nb _ p14b) ?_)
            refine r_goto (t := 4) dX12_readTruth_23 (by decide) ?_
            exact ih _ k2_z ((chP B n (unP B n (if lm = 5 then 8 else 6) 2) (opA B n)) (nxP B n r.2.1)) of14 d14 p14b (fun h_z => absurd h_z hq) (fun h_z => absurd h_z hq) (fun h_z => absurd h_z hq) ((lpP_bad hq).trans ((lpP_sub hr hop0 hq).symm.trans hR)) (by omega)
        · have hop : (opO B n) r.2.1 = 0 := if_neg hc_z
          have hv := (lpP_end (B := B) (n := n) (k := k) (sub := (chP B n (unP B n (if lm = 5 then 8 else 6) 2) (opA B n))) hop).symm.trans hR
          refine r_aloadR0 dX12_readTruth_4 ?_
          refine k_ldc (hld _ (List.mem_of_getElem? (i := 0) rfl)) dX12_readTruth_5 ?_
          refine q_callV1 zm_RX12_142 dX12_readTruth_7 (shM_k hs) (by decide) rfl (Nat.le_of_ble_eq_true rfl) (Nat.le_of_ble_eq_true rfl) (Nat.le_of_ble_eq_true rfl) (Nat.le_of_ble_eq_true rfl) (Nat.le_of_ble_eq_true rfl) (s_X12_took_f (i := 6) G hs kw (by decide) htp2 hps2 hc_z (fun r7 e7_z => ?_))
          refine t_ifeq (t := 26) dX12_readTruth_10 (by decide) (fun h10 => ?_) (fun h10 => False.elim (by omega))
          refine r_vret dX12_readTruth_26 rfl (Nat.le_of_ble_eq_true rfl) (Nat.le_of_ble_eq_true rfl) ?_
          rw [← hv] at hQ
          exact hQ _ ofr hd2 hp2 hk2
      · have hb2 : (f2_z A 12).toInt ≠ 0 := by rw [hp2.1]; omega
        have hv := (lpP_bad (B := B) (n := n) (k := k) (sub := (chP B n (unP B n (if lm = 5 then 8 else 6) 2) (opA B n))) (op := (opO B n)) hr).symm.trans hR
        refine r_aloadR0 dX12_readTruth_4 ?_
        refine k_ldc (hld _ (List.mem_of_getElem? (i := 0) rfl)) dX12_readTruth_5 ?_
        refine q_callV1 zm_RX12_142 dX12_readTruth_7 (shM_k hs) (by decide) rfl (Nat.le_of_ble_eq_true rfl) (Nat.le_of_ble_eq_true rfl) (Nat.le_of_ble_eq_true rfl) (Nat.le_of_ble_eq_true rfl) (Nat.le_of_ble_eq_true rfl) (s_X12_took_x (i := 6) (B := fun _ => 0) (n := 0) G hs kw (by decide) hb2 (fun r7 e7_z => ?_))
        refine t_ifeq (t := 26) dX12_readTruth_10 (by decide) (fun h10 => ?_) (fun h10 => False.elim (by omega))
        refine r_vret dX12_readTruth_26 rfl (Nat.le_of_ble_eq_true rfl) (Nat.le_of_ble_eq_true rfl) ?_
        rw [← hv] at hQ
        exact hQ _ ofr hd2 hp2 hk2
  refine r_aloadR0 dX12_readTruth_0 ?_
  refine q_callV0 zm_RX12_157 dX12_readTruth_1 (shM_k hs) (by decide) rfl (Nat.le_of_ble_eq_true rfl) (Nat.le_of_ble_eq_true rfl) (Nat.le_of_ble_eq_true rfl) (Nat.le_of_ble_eq_true rfl) (Nat.le_of_ble_eq_true rfl) (s_X12_readBoth_2 G hs kw hld htp hps hd16 hlm hla hu h5 h29 h99 hup (fun g1 o1 d1 p1 k1_z => ?_))
  have gp := hgd p ht.1
  exact lp _ g1 n ((chP B n (unP B n (if lm = 5 then 8 else 6) 2) (opA B n)) p) o1 d1 p1 k1_z (fun h_z => ⟨Nat.le_of_lt (gp.1 h_z).1, (gp.1 h_z).2.1, (gp.1 h_z).2.2.1⟩) (fun _ => Nat.le_add_right n _) rfl (Nat.lt_succ_self n)
set_option maxHeartbeats 4000000 in
set_option maxRecDepth 100000 in
theorem s_X12_readUnit_3 {g : zGT} {w : zW} {f : Nat → Nat → Int32} {j : Nat → Nat → Int64} {A : Nat} {B : Nat → Nat} {n : Nat} {wa wv : Nat → Nat} {kq : Nat} {p lm la u : Nat} {Q : Option Value → zW → Prop} {QX : String → zW → Prop} (G : zGok g) (hs : shM w A) (kw : kWd g wa wv kq) (hld : kLd g wa) (htp : tpM B n f A) (hps : psM B n f A 0 p) (hd16 : (f A 16).toInt = 3) (hlm : (f A 17).toInt = (lm : Nat)) (hla : (f A 18).toInt = (la : Nat)) (hu : (f (A + 2) lm).toInt = (u : Nat)) (h5 : lm ≤ 5) (h29 : 209 ≤ la) (h99 : la ≤ 2009) (hup : u ≤ p) (hQ : ∀ f2_z, frM A [2] [8, 9, 10, 11, 12, 13, 16] f f2_z → (f2_z A 16).toInt = 3 → psM B n f2_z A (unP B n (if lm = 5 then 8 else 6) 3 p).1 (unP B n (if lm = 5 then 8 else 6) 3 p).2.1 → ((unP B n (if lm = 5 then 8 else 6) 3 p).1 = 0 → okM f f2_z A lm la u (unP B n (if lm = 5 then 8 else 6) 3 p).2.2) → Q none (zM w f2_z j)) : zC g 52 yX12_readUnit cX12_readUnit 2 none [.ref A] (zM w f j) (0, 0) Q QX := by
  refine zC_of G (by decide +kernel) (Nat.le_of_ble_eq_true rfl) ?_
  have ht := hps.2.1 rfl
  have h12 := hps.1
  have hte := teP_le (B := B) ht.1
  have h900 := htp.2.1
  have h10 := ht.2.2.2.1
  have hsm : ∀ s, s ≤ n → gdP n false (if lm = 5 then 8 else 6) (1 + 2 * 3 + 2) s (smP B n (if lm = 5 then 8 else 6) 3 s) := fun s hs9 => gd_su (gd_at (by split <;> decide) 3) hs9
  by_cases hw : isWd B n p 8 = true
  · have hv : unP B n (if lm = 5 then 8 else 6) 3 p = noP ((unP B n (if lm = 5 then 8 else 6) 2) (nxP B n p)) := if_pos hw
    rw [hv] at hQ
    have hwt := isWd_tk hw
    have hpn := tk_lt (B := B) (n := n) (s := p) (by rw [hwt.1]; decide)
    have hnx := nxP_gt (B := B) hpn
    have hgu : gdP n true (if lm = 5 then 8 else 6) (4 + 2 * 2) (nxP B n p) ((unP B n (if lm = 5 then 8 else 6) 2) (nxP B n p)) := gd_un (by split <;> decide) 2 _ hnx.2
    by_cases hr : ((unP B n (if lm = 5 then 8 else 6) 2) (nxP B n p)).1 = 0
    · have hv2 : noP ((unP B n (if lm = 5 then 8 else 6) 2) (nxP B n p)) = (0, ((unP B n (if lm = 5 then 8 else 6) 2) (nxP B n p)).2.1, ((unP B n (if lm = 5 then 8 else 6) 2) (nxP B n p)).2.2 ++ [2000]) := if_neg (not_not_intro hr)
      rw [hv2] at hQ
      obtain ⟨y1, y2, y3, y4⟩ := hgu.1 hr
      refine r_aloadR0 dX12_readUnit_0 ?_
      refine m_getV (x := (f A 12)) zf_RX12_112 rfl dX12_readUnit_1 (shM_k hs) (rfl) ?_
      refine t_ifeq (t := 8) dX12_readUnit_4 (by decide) (fun h4 => ?_) (fun h4 => False.elim (by omega))
      refine r_aloadR0 dX12_readUnit_8 ?_
      refine k_ldc (hld _ (List.mem_of_getElem? (i := 2) rfl)) dX12_readUnit_9 ?_
      refine q_callV1 zm_RX12_127 dX12_readUnit_11 (shM_k hs) (by decide) rfl (Nat.le_of_ble_eq_true rfl) (Nat.le_of_ble_eq_true rfl) (Nat.le_of_ble_eq_true rfl) (Nat.le_of_ble_eq_true rfl) (Nat.le_of_ble_eq_true rfl) (s_X12_isWord (i := 8) G hs kw (by decide) htp hps (fun r11 e11_z => ?_))
      have e11b : r11.toInt = 1 := e11_z.elim (fun h_z => h_z.1) (fun h_z => absurd hw h_z.2)
      refine t_ifeq (t := 44) dX12_readUnit_14 (by decide) (fun h14 => False.elim (by omega)) (fun h14 => ?_)
      refine r_aloadR0 dX12_readUnit_17 ?_
      refine q_callV0 zm_RX12_172 dX12_readUnit_18 (shM_k hs) (by decide) rfl (Nat.le_of_ble_eq_true rfl) (Nat.le_of_ble_eq_true rfl) (Nat.le_of_ble_eq_true rfl) (Nat.le_of_ble_eq_true rfl) (Nat.le_of_ble_eq_true rfl) (s_X12_goesIn (d := 3) G hs htp hps hd16 (by decide) (by rw [hwt.1]; decide) (fun g18 o18 a18 b18 c18 => ?_))
      have p18 := c18 (by decide)
      have htp18 := tpM_of htp (o18.2.1 5 (by decide) (by decide) (by decide)) (o18.2.2 7 (by decide))
      have w18 : g18 (A + 2) = f (A + 2) := o18.2.1 2 (by decide) (by decide) (by decide)
      refine r_aloadR0 dX12_readUnit_21 ?_
      refine q_callV0 zm_RX12_165 dX12_readUnit_22 (shM_k hs) (by decide) rfl (Nat.le_of_ble_eq_true rfl) (Nat.le_of_ble_eq_true rfl) (Nat.le_of_ble_eq_true rfl) (Nat.le_of_ble_eq_true rfl) (Nat.le_of_ble_eq_true rfl) (s_X12_readUnit_2 (lm := lm) (la := la) (u := u) G hs kw hld htp18 p18 (by rw [a18]; rfl) (by rw [o18.2.2 17 (by decide)]; exact hlm) (by rw [o18.2.2 18 (by decide)]; exact hla) (by rw [w18]; exact hu) h5 h29 h99 (by omega) (fun g22 o22 d22 p22 k22 => ?_))
      have of22 : frM A [2] [8, 9, 10, 11, 12, 13, 16] f g22 := frM_tr (frM_su o18 (by decide) (by decide)) o22
      refine r_aloadR0 dX12_readUnit_25 ?_
      refine n_bipush dX12_readUnit_26 (by decide) (fun r26 e26_z => ?_)
      refine q_callV1 zm_RX12_162 dX12_readUnit_28 (shM_k hs) (by decide) rfl (Nat.le_of_ble_eq_true rfl) (Nat.le_of_ble_eq_true rfl) (Nat.le_of_ble_eq_true rfl) (Nat.le_of_ble_eq_true rfl) (Nat.le_of_ble_eq_true rfl) (s_X12_laysStep (lm := lm) (la := la) (u := u + ((unP B n (if lm = 5 then 8 else 6) 2) (nxP B n p)).2.2.length) G hs (by have := p22.1; rw [hr] at this; exact this) (by rw [of22.2.2 17 (by decide)]; exact hlm) (by rw [of22.2.2 18 (by decide)]; exact hla) (k22 hr).1 h5 h29 (by omega) (fun g28 o28 a28 b28 c28 => ?_))
      have d28 : (g28 A 16).toInt = 4 := by rw [o28.2.2 16 (by decide)]; exact d22
      have p22b := p22
      rw [hr] at p22b
      refine r_aloadR0 dX12_readUnit_31 ?_
      refine r_dup dX12_readUnit_32 rfl ?_
      refine m_getV (x := (g28 A 16)) zf_RX12_154 rfl dX12_readUnit_33 (shM_k hs) (rfl) ?_
      refine n_iconst dX12_readUnit_36 (by decide) (fun r36 e36 => ?_)
      refine n_isub dX12_readUnit_37 (by omega) (fun r37 e37 => ?_)
      refine m_putI zf_RX12_154 (by intro C T N h_z; cases h_z; rfl) rfl dX12_readUnit_38 (shM_k hs) ?_
      obtain ⟨g38, hg38⟩ : ∃ g9, g9 = zu g28 A 16 r37 := ⟨_, rfl⟩
      rw [← hg38]
      have og38 : frM A [] [16] g28 g38 := by rw [hg38]; exact frM_zk frM_rf (by decide)
      have vg38 : g38 A 16 = r37 := by rw [hg38]; exact zu_at
      have vt38 : (g38 A 16).toInt = r37.toInt := by rw [vg38]
      refine r_goto (t := 155) dX12_readUnit_41 (by decide) ?_
      refine r_vret dX12_readUnit_155 rfl (Nat.le_of_ble_eq_true rfl) (Nat.le_of_ble_eq_true rfl) ?_
      exact hQ _ (frM_tr (frM_tr of22 (frM_su o28 (by decide) (by decide))) (frM_su og38 (by decide) (by decide))) (by rw [vt38]; omega) (psM_of (psM_of p22b (o28.2.2 8 (by decide)) (o28.2.2 9 (by decide)) (o28.2.2 10 (by decide)) (o28.2.2 11 (by decide)) (o28.2.2 12 (by decide)) (o28.2.2 13 (by decide))) (og38.2.2 8 (by decide)) (og38.2.2 9 (by decide)) (og38.2.2 10 (by decide)) (og38.2.2 11 (by decide)) (og38.2.2 12 (by decide)) (og38.2.2 13 (by decide))) (fun _ => okM_cg (okM_ap (by omega) (by omega) (k22 hr) (okM_one (by omega) a28 b28 c28 (by rw [e26_z]; rfl))) w18 (og38.2.1 2 (by decide) (by decide) (by decide)))
    · have hv2 : noP ((unP B n (if lm = 5 then 8 else 6) 2) (nxP B n p)) = ((unP B n (if lm = 5 then 8 else 6) 2) (nxP B n p)) := if_pos hr
      rw [hv2] at hQ
      refine r_aloadR0 dX12_readUnit_0 ?_
      refine m_getV (x := (f A 12)) zf_RX12_112 rfl dX12_readUnit_1 (shM_k hs) (rfl) ?_
      refine t_ifeq (t := 8) dX12_readUnit_4 (by decide) (fun h4 => ?_) (fun h4 => False.elim (by omega))
      refine r_aloadR0 dX12_readUnit_8 ?_
      refine k_ldc (hld _ (List.mem_of_getElem? (i := 2) rfl)) dX12_readUnit_9 ?_
      refine q_callV1 zm_RX12_127 dX12_readUnit_11 (shM_k hs) (by decide) rfl (Nat.le_of_ble_eq_true rfl) (Nat.le_of_ble_eq_true rfl) (Nat.le_of_ble_eq_true rfl) (Nat.le_of_ble_eq_true rfl) (Nat.le_of_ble_eq_true rfl) (s_X12_isWord (i := 8) G hs kw (by decide) htp hps (fun r11 e11_z => ?_))
      have e11b : r11.toInt = 1 := e11_z.elim (fun h_z => h_z.1) (fun h_z => absurd hw h_z.2)
      refine t_ifeq (t := 44) dX12_readUnit_14 (by decide) (fun h14 => False.elim (by omega)) (fun h14 => ?_)
      refine r_aloadR0 dX12_readUnit_17 ?_
      refine q_callV0 zm_RX12_172 dX12_readUnit_18 (shM_k hs) (by decide) rfl (Nat.le_of_ble_eq_true rfl) (Nat.le_of_ble_eq_true rfl) (Nat.le_of_ble_eq_true rfl) (Nat.le_of_ble_eq_true rfl) (Nat.le_of_ble_eq_true rfl) (s_X12_goesIn (d := 3) G hs htp hps hd16 (by decide) (by rw [hwt.1]; decide) (fun g18 o18 a18 b18 c18 => ?_))
      have p18 := c18 (by decide)
      have htp18 := tpM_of htp (o18.2.1 5 (by decide) (by decide) (by decide)) (o18.2.2 7 (by decide))
      have w18 : g18 (A + 2) = f (A + 2) := o18.2.1 2 (by decide) (by decide) (by decide)
      refine r_aloadR0 dX12_readUnit_21 ?_
      refine q_callV0 zm_RX12_165 dX12_readUnit_22 (shM_k hs) (by decide) rfl (Nat.le_of_ble_eq_true rfl) (Nat.le_of_ble_eq_true rfl) (Nat.le_of_ble_eq_true rfl) (Nat.le_of_ble_eq_true rfl) (Nat.le_of_ble_eq_true rfl) (s_X12_readUnit_2 (lm := lm) (la := la) (u := u) G hs kw hld htp18 p18 (by rw [a18]; rfl) (by rw [o18.2.2 17 (by decide)]; exact hlm) (by rw [o18.2.2 18 (by decide)]; exact hla) (by rw [w18]; exact hu) h5 h29 h99 (by omega) (fun g22 o22 d22 p22 k22 => ?_))
      have of22 : frM A [2] [8, 9, 10, 11, 12, 13, 16] f g22 := frM_tr (frM_su o18 (by decide) (by decide)) o22
      refine r_aloadR0 dX12_readUnit_25 ?_
      refine n_bipush dX12_readUnit_26 (by decide) (fun r26 e26_z => ?_)
      refine q_callV1 zm_RX12_162 dX12_readUnit_28 (shM_k hs) (by decide) rfl (Nat.le_of_ble_eq_true rfl) (Nat.le_of_ble_eq_true rfl) (Nat.le_of_ble_eq_true rfl) (Nat.le_of_ble_eq_true rfl) (Nat.le_of_ble_eq_true rfl) (s_X12_laysStep_x G hs (by rw [p22.1]; omega) ?_)
      have d22b : (g22 A 16).toInt = 4 := d22
      refine r_aloadR0 dX12_readUnit_31 ?_
      refine r_dup dX12_readUnit_32 rfl ?_
      refine m_getV (x := (g22 A 16)) zf_RX12_154 rfl dX12_readUnit_33 (shM_k hs) (rfl) ?_
      refine n_iconst dX12_readUnit_36 (by decide) (fun r36 e36 => ?_)
      refine n_isub dX12_readUnit_37 (by omega) (fun r37 e37 => ?_)
      refine m_putI zf_RX12_154 (by intro C T N h_z; cases h_z; rfl) rfl dX12_readUnit_38 (shM_k hs) ?_
      obtain ⟨g38, hg38⟩ : ∃ g9, g9 = zu g22 A 16 r37 := ⟨_, rfl⟩
      rw [← hg38]
      have og38 : frM A [] [16] g22 g38 := by rw [hg38]; exact frM_zk frM_rf (by decide)
      have vg38 : g38 A 16 = r37 := by rw [hg38]; exact zu_at
      have vt38 : (g38 A 16).toInt = r37.toInt := by rw [vg38]
      refine r_goto (t := 155) dX12_readUnit_41 (by decide) ?_
      refine r_vret dX12_readUnit_155 rfl (Nat.le_of_ble_eq_true rfl) (Nat.le_of_ble_eq_true rfl) ?_
      exact hQ _ (frM_tr of22 (frM_su og38 (by decide) (by decide))) (by rw [vt38]; omega) (psM_of p22 (og38.2.2 8 (by decide)) (og38.2.2 9 (by decide)) (og38.2.2 10 (by decide)) (og38.2.2 11 (by decide)) (og38.2.2 12 (by decide)) (og38.2.2 13 (by decide))) (fun h_z => absurd h_z hr)
  have hrk := rk4 (B := B) (n := n) (s := p) (c := 91) (by decide)
  by_cases hp : tkP B n p = 91
  · have hv : unP B n (if lm = 5 then 8 else 6) 3 p = clP B n 93 (trU B n (unP B n (if lm = 5 then 8 else 6) 2) (nxP B n p)) := (if_neg hw).trans (if_pos hp)
    rw [hv] at hQ
    have h10b := hrk.mpr hp
    have hpn := tk_lt (B := B) (n := n) (s := p) (by rw [hp]; decide)
    have hnx := nxP_gt (B := B) hpn
    by_cases hr : (trU B n (unP B n (if lm = 5 then 8 else 6) 2) (nxP B n p)).1 = 0
    · by_cases h93 : tkP B n (trU B n (unP B n (if lm = 5 then 8 else 6) 2) (nxP B n p)).2.1 = 93
      · have hv2 : clP B n 93 (trU B n (unP B n (if lm = 5 then 8 else 6) 2) (nxP B n p)) = (0, nxP B n (trU B n (unP B n (if lm = 5 then 8 else 6) 2) (nxP B n p)).2.1, (trU B n (unP B n (if lm = 5 then 8 else 6) 2) (nxP B n p)).2.2) := (if_neg (not_not_intro hr)).trans (if_pos h93)
        rw [hv2] at hQ
        refine r_aloadR0 dX12_readUnit_0 ?_
        refine m_getV (x := (f A 12)) zf_RX12_112 rfl dX12_readUnit_1 (shM_k hs) (rfl) ?_
        refine t_ifeq (t := 8) dX12_readUnit_4 (by decide) (fun h4 => ?_) (fun h4 => False.elim (by omega))
        refine r_aloadR0 dX12_readUnit_8 ?_
        refine k_ldc (hld _ (List.mem_of_getElem? (i := 2) rfl)) dX12_readUnit_9 ?_
        refine q_callV1 zm_RX12_127 dX12_readUnit_11 (shM_k hs) (by decide) rfl (Nat.le_of_ble_eq_true rfl) (Nat.le_of_ble_eq_true rfl) (Nat.le_of_ble_eq_true rfl) (Nat.le_of_ble_eq_true rfl) (Nat.le_of_ble_eq_true rfl) (s_X12_isWord (i := 8) G hs kw (by decide) htp hps (fun r11 e11_z => ?_))
        have e11b : r11.toInt = 0 := e11_z.elim (fun h_z => absurd h_z.2 hw) (fun h_z => h_z.1)
        refine t_ifeq (t := 44) dX12_readUnit_14 (by decide) (fun h14 => ?_) (fun h14 => False.elim (by omega))
        refine r_aloadR0 dX12_readUnit_44 ?_
        refine n_bipush dX12_readUnit_45 (by decide) (fun r45 e45 => ?_)
        refine q_callV1 zm_RX12_175 dX12_readUnit_47 (shM_k hs) (by decide) rfl (Nat.le_of_ble_eq_true rfl) (Nat.le_of_ble_eq_true rfl) (Nat.le_of_ble_eq_true rfl) (Nat.le_of_ble_eq_true rfl) (Nat.le_of_ble_eq_true rfl) (s_X12_isSign G hs (fun r47 e47 => ?_))
        refine t_ifeq (t := 80) dX12_readUnit_50 (by decide) (fun h50 => False.elim (by omega)) (fun h50 => ?_)
        refine r_aloadR0 dX12_readUnit_53 ?_
        refine q_callV0 zm_RX12_172 dX12_readUnit_54 (shM_k hs) (by decide) rfl (Nat.le_of_ble_eq_true rfl) (Nat.le_of_ble_eq_true rfl) (Nat.le_of_ble_eq_true rfl) (Nat.le_of_ble_eq_true rfl) (Nat.le_of_ble_eq_true rfl) (s_X12_goesIn (d := 3) G hs htp hps hd16 (by decide) (by rw [hp]; decide) (fun g54 o54 a54 b54 c54 => ?_))
        have p54 := c54 (by decide)
        have htp54 := tpM_of htp (o54.2.1 5 (by decide) (by decide) (by decide)) (o54.2.2 7 (by decide))
        have w54 : g54 (A + 2) = f (A + 2) := o54.2.1 2 (by decide) (by decide) (by decide)
        refine r_aloadR0 dX12_readUnit_57 ?_
        refine q_callV0 zm_RX12_178 dX12_readUnit_58 (shM_k hs) (by decide) rfl (Nat.le_of_ble_eq_true rfl) (Nat.le_of_ble_eq_true rfl) (Nat.le_of_ble_eq_true rfl) (Nat.le_of_ble_eq_true rfl) (Nat.le_of_ble_eq_true rfl) (s_X12_readTruth_2 (lm := lm) (la := la) (u := u) G hs kw hld htp54 p54 (by rw [a54]; rfl) (by rw [o54.2.2 17 (by decide)]; exact hlm) (by rw [o54.2.2 18 (by decide)]; exact hla) (by rw [w54]; exact hu) h5 h29 h99 (by omega) (fun g58 o58 d58 p58 k58 => ?_))
        have p58b : psM B n g58 A (trU B n (unP B n (if lm = 5 then 8 else 6) 2) (nxP B n p)).1 (trU B n (unP B n (if lm = 5 then 8 else 6) 2) (nxP B n p)).2.1 := p58
        have of58 : frM A [2] [8, 9, 10, 11, 12, 13, 16] f g58 := frM_tr (frM_su o54 (by decide) (by decide)) o58
        have htp58 := tpM_of htp (of58.2.1 5 (by decide) (by decide) (by decide)) (of58.2.2 7 (by decide))
        have p58c := p58b
        rw [hr] at p58c
        refine r_aloadR0 dX12_readUnit_61 ?_
        refine n_bipush dX12_readUnit_62 (by decide) (fun r62 e62 => ?_)
        refine q_callV1 zm_RX12_151 dX12_readUnit_64 (shM_k hs) (by decide) rfl (Nat.le_of_ble_eq_true rfl) (Nat.le_of_ble_eq_true rfl) (Nat.le_of_ble_eq_true rfl) (Nat.le_of_ble_eq_true rfl) (Nat.le_of_ble_eq_true rfl) (s_X12_mustSign (p := (trU B n (unP B n (if lm = 5 then 8 else 6) 2) (nxP B n p)).2.1) (c := 93) G hs htp58 p58c e62 (by decide) (fun g64 o64 a64 b64 => ?_))
        have d64 : (g64 A 16).toInt = 4 := by rw [o64.2.2 16 (by decide)]; exact d58
        refine r_aloadR0 dX12_readUnit_67 ?_
        refine r_dup dX12_readUnit_68 rfl ?_
        refine m_getV (x := (g64 A 16)) zf_RX12_154 rfl dX12_readUnit_69 (shM_k hs) (rfl) ?_
        refine n_iconst dX12_readUnit_72 (by decide) (fun r72 e72_z => ?_)
        refine n_isub dX12_readUnit_73 (by omega) (fun r73 e73 => ?_)
        refine m_putI zf_RX12_154 (by intro C T N h_z; cases h_z; rfl) rfl dX12_readUnit_74 (shM_k hs) ?_
        obtain ⟨g74, hg74⟩ : ∃ g9, g9 = zu g64 A 16 r73 := ⟨_, rfl⟩
        rw [← hg74]
        have og74 : frM A [] [16] g64 g74 := by rw [hg74]; exact frM_zk frM_rf (by decide)
        have vg74 : g74 A 16 = r73 := by rw [hg74]; exact zu_at
        have vt74 : (g74 A 16).toInt = r73.toInt := by rw [vg74]
        refine r_goto (t := 155) dX12_readUnit_77 (by decide) ?_
        refine r_vret dX12_readUnit_155 rfl (Nat.le_of_ble_eq_true rfl) (Nat.le_of_ble_eq_true rfl) ?_
        exact hQ _ (frM_tr (frM_tr of58 (frM_su o64 (by decide) (by decide))) (frM_su og74 (by decide) (by decide))) (by rw [vt74]; omega) (psM_of (a64 h93) (og74.2.2 8 (by decide)) (og74.2.2 9 (by decide)) (og74.2.2 10 (by decide)) (og74.2.2 11 (by decide)) (og74.2.2 12 (by decide)) (og74.2.2 13 (by decide))) (fun _ => okM_cg (k58 hr) w54 ((og74.2.1 2 (by decide) (by decide) (by decide)).trans (o64.2.1 2 (by decide) (by decide) (by decide))))
      · have hv2 : clP B n 93 (trU B n (unP B n (if lm = 5 then 8 else 6) 2) (nxP B n p)) = (baP B n (trU B n (unP B n (if lm = 5 then 8 else 6) 2) (nxP B n p)).2.1, (trU B n (unP B n (if lm = 5 then 8 else 6) 2) (nxP B n p)).2.1, []) := (if_neg (not_not_intro hr)).trans (if_neg h93)
        rw [hv2] at hQ
        refine r_aloadR0 dX12_readUnit_0 ?_
        refine m_getV (x := (f A 12)) zf_RX12_112 rfl dX12_readUnit_1 (shM_k hs) (rfl) ?_
        refine t_ifeq (t := 8) dX12_readUnit_4 (by decide) (fun h4 => ?_) (fun h4 => False.elim (by omega))
        refine r_aloadR0 dX12_readUnit_8 ?_
        refine k_ldc (hld _ (List.mem_of_getElem? (i := 2) rfl)) dX12_readUnit_9 ?_
        refine q_callV1 zm_RX12_127 dX12_readUnit_11 (shM_k hs) (by decide) rfl (Nat.le_of_ble_eq_true rfl) (Nat.le_of_ble_eq_true rfl) (Nat.le_of_ble_eq_true rfl) (Nat.le_of_ble_eq_true rfl) (Nat.le_of_ble_eq_true rfl) (s_X12_isWord (i := 8) G hs kw (by decide) htp hps (fun r11 e11_z => ?_))
        have e11b : r11.toInt = 0 := e11_z.elim (fun h_z => absurd h_z.2 hw) (fun h_z => h_z.1)
        refine t_ifeq (t := 44) dX12_readUnit_14 (by decide) (fun h14 => ?_) (fun h14 => False.elim (by omega))
        refine r_aloadR0 dX12_readUnit_44 ?_
        refine n_bipush dX12_readUnit_45 (by decide) (fun r45 e45 => ?_)
        refine q_callV1 zm_RX12_175 dX12_readUnit_47 (shM_k hs) (by decide) rfl (Nat.le_of_ble_eq_true rfl) (Nat.le_of_ble_eq_true rfl) (Nat.le_of_ble_eq_true rfl) (Nat.le_of_ble_eq_true rfl) (Nat.le_of_ble_eq_true rfl) (s_X12_isSign G hs (fun r47 e47 => ?_))
        refine t_ifeq (t := 80) dX12_readUnit_50 (by decide) (fun h50 => False.elim (by omega)) (fun h50 => ?_)
        refine r_aloadR0 dX12_readUnit_53 ?_
        refine q_callV0 zm_RX12_172 dX12_readUnit_54 (shM_k hs) (by decide) rfl (Nat.le_of_ble_eq_true rfl) (Nat.le_of_ble_eq_true rfl) (Nat.le_of_ble_eq_true rfl) (Nat.le_of_ble_eq_true rfl) (Nat.le_of_ble_eq_true rfl) (s_X12_goesIn (d := 3) G hs htp hps hd16 (by decide) (by rw [hp]; decide) (fun g54 o54 a54 b54 c54 => ?_))
        have p54 := c54 (by decide)
        have htp54 := tpM_of htp (o54.2.1 5 (by decide) (by decide) (by decide)) (o54.2.2 7 (by decide))
        have w54 : g54 (A + 2) = f (A + 2) := o54.2.1 2 (by decide) (by decide) (by decide)
        refine r_aloadR0 dX12_readUnit_57 ?_
        refine q_callV0 zm_RX12_178 dX12_readUnit_58 (shM_k hs) (by decide) rfl (Nat.le_of_ble_eq_true rfl) (Nat.le_of_ble_eq_true rfl) (Nat.le_of_ble_eq_true rfl) (Nat.le_of_ble_eq_true rfl) (Nat.le_of_ble_eq_true rfl) (s_X12_readTruth_2 (lm := lm) (la := la) (u := u) G hs kw hld htp54 p54 (by rw [a54]; rfl) (by rw [o54.2.2 17 (by decide)]; exact hlm) (by rw [o54.2.2 18 (by decide)]; exact hla) (by rw [w54]; exact hu) h5 h29 h99 (by omega) (fun g58 o58 d58 p58 k58 => ?_))
        have p58b : psM B n g58 A (trU B n (unP B n (if lm = 5 then 8 else 6) 2) (nxP B n p)).1 (trU B n (unP B n (if lm = 5 then 8 else 6) 2) (nxP B n p)).2.1 := p58
        have of58 : frM A [2] [8, 9, 10, 11, 12, 13, 16] f g58 := frM_tr (frM_su o54 (by decide) (by decide)) o58
        have htp58 := tpM_of htp (of58.2.1 5 (by decide) (by decide) (by decide)) (of58.2.2 7 (by decide))
        have p58c := p58b
        rw [hr] at p58c
        refine r_aloadR0 dX12_readUnit_61 ?_
        refine n_bipush dX12_readUnit_62 (by decide) (fun r62 e62 => ?_)
        refine q_callV1 zm_RX12_151 dX12_readUnit_64 (shM_k hs) (by decide) rfl (Nat.le_of_ble_eq_true rfl) (Nat.le_of_ble_eq_true rfl) (Nat.le_of_ble_eq_true rfl) (Nat.le_of_ble_eq_true rfl) (Nat.le_of_ble_eq_true rfl) (s_X12_mustSign (p := (trU B n (unP B n (if lm = 5 then 8 else 6) 2) (nxP B n p)).2.1) (c := 93) G hs htp58 p58c e62 (by decide) (fun g64 o64 a64 b64 => ?_))
        have d64 : (g64 A 16).toInt = 4 := by rw [o64.2.2 16 (by decide)]; exact d58
        refine r_aloadR0 dX12_readUnit_67 ?_
        refine r_dup dX12_readUnit_68 rfl ?_
        refine m_getV (x := (g64 A 16)) zf_RX12_154 rfl dX12_readUnit_69 (shM_k hs) (rfl) ?_
        refine n_iconst dX12_readUnit_72 (by decide) (fun r72 e72_z => ?_)
        refine n_isub dX12_readUnit_73 (by omega) (fun r73 e73 => ?_)
        refine m_putI zf_RX12_154 (by intro C T N h_z; cases h_z; rfl) rfl dX12_readUnit_74 (shM_k hs) ?_
        obtain ⟨g74, hg74⟩ : ∃ g9, g9 = zu g64 A 16 r73 := ⟨_, rfl⟩
        rw [← hg74]
        have og74 : frM A [] [16] g64 g74 := by rw [hg74]; exact frM_zk frM_rf (by decide)
        have vg74 : g74 A 16 = r73 := by rw [hg74]; exact zu_at
        have vt74 : (g74 A 16).toInt = r73.toInt := by rw [vg74]
        refine r_goto (t := 155) dX12_readUnit_77 (by decide) ?_
        refine r_vret dX12_readUnit_155 rfl (Nat.le_of_ble_eq_true rfl) (Nat.le_of_ble_eq_true rfl) ?_
        exact hQ _ (frM_tr (frM_tr of58 (frM_su o64 (by decide) (by decide))) (frM_su og74 (by decide) (by decide))) (by rw [vt74]; omega) (psM_of (b64 h93) (og74.2.2 8 (by decide)) (og74.2.2 9 (by decide)) (og74.2.2 10 (by decide)) (og74.2.2 11 (by decide)) (og74.2.2 12 (by decide)) (og74.2.2 13 (by decide))) (fun h_z => absurd h_z ba_bd.1)
    · have hv2 : clP B n 93 (trU B n (unP B n (if lm = 5 then 8 else 6) 2) (nxP B n p)) = (trU B n (unP B n (if lm = 5 then 8 else 6) 2) (nxP B n p)) := if_pos hr
      rw [hv2] at hQ
      refine r_aloadR0 dX12_readUnit_0 ?_
      refine m_getV (x := (f A 12)) zf_RX12_112 rfl dX12_readUnit_1 (shM_k hs) (rfl) ?_
      refine t_ifeq (t := 8) dX12_readUnit_4 (by decide) (fun h4 => ?_) (fun h4 => False.elim (by omega))
      refine r_aloadR0 dX12_readUnit_8 ?_
      refine k_ldc (hld _ (List.mem_of_getElem? (i := 2) rfl)) dX12_readUnit_9 ?_
      refine q_callV1 zm_RX12_127 dX12_readUnit_11 (shM_k hs) (by decide) rfl (Nat.le_of_ble_eq_true rfl) (Nat.le_of_ble_eq_true rfl) (Nat.le_of_ble_eq_true rfl) (Nat.le_of_ble_eq_true rfl) (Nat.le_of_ble_eq_true rfl) (s_X12_isWord (i := 8) G hs kw (by decide) htp hps (fun r11 e11_z => ?_))
      have e11b : r11.toInt = 0 := e11_z.elim (fun h_z => absurd h_z.2 hw) (fun h_z => h_z.1)
      refine t_ifeq (t := 44) dX12_readUnit_14 (by decide) (fun h14 => ?_) (fun h14 => False.elim (by omega))
      refine r_aloadR0 dX12_readUnit_44 ?_
      refine n_bipush dX12_readUnit_45 (by decide) (fun r45 e45 => ?_)
      refine q_callV1 zm_RX12_175 dX12_readUnit_47 (shM_k hs) (by decide) rfl (Nat.le_of_ble_eq_true rfl) (Nat.le_of_ble_eq_true rfl) (Nat.le_of_ble_eq_true rfl) (Nat.le_of_ble_eq_true rfl) (Nat.le_of_ble_eq_true rfl) (s_X12_isSign G hs (fun r47 e47 => ?_))
      refine t_ifeq (t := 80) dX12_readUnit_50 (by decide) (fun h50 => False.elim (by omega)) (fun h50 => ?_)
      refine r_aloadR0 dX12_readUnit_53 ?_
      refine q_callV0 zm_RX12_172 dX12_readUnit_54 (shM_k hs) (by decide) rfl (Nat.le_of_ble_eq_true rfl) (Nat.le_of_ble_eq_true rfl) (Nat.le_of_ble_eq_true rfl) (Nat.le_of_ble_eq_true rfl) (Nat.le_of_ble_eq_true rfl) (s_X12_goesIn (d := 3) G hs htp hps hd16 (by decide) (by rw [hp]; decide) (fun g54 o54 a54 b54 c54 => ?_))
      have p54 := c54 (by decide)
      have htp54 := tpM_of htp (o54.2.1 5 (by decide) (by decide) (by decide)) (o54.2.2 7 (by decide))
      have w54 : g54 (A + 2) = f (A + 2) := o54.2.1 2 (by decide) (by decide) (by decide)
      refine r_aloadR0 dX12_readUnit_57 ?_
      refine q_callV0 zm_RX12_178 dX12_readUnit_58 (shM_k hs) (by decide) rfl (Nat.le_of_ble_eq_true rfl) (Nat.le_of_ble_eq_true rfl) (Nat.le_of_ble_eq_true rfl) (Nat.le_of_ble_eq_true rfl) (Nat.le_of_ble_eq_true rfl) (s_X12_readTruth_2 (lm := lm) (la := la) (u := u) G hs kw hld htp54 p54 (by rw [a54]; rfl) (by rw [o54.2.2 17 (by decide)]; exact hlm) (by rw [o54.2.2 18 (by decide)]; exact hla) (by rw [w54]; exact hu) h5 h29 h99 (by omega) (fun g58 o58 d58 p58 k58 => ?_))
      have p58b : psM B n g58 A (trU B n (unP B n (if lm = 5 then 8 else 6) 2) (nxP B n p)).1 (trU B n (unP B n (if lm = 5 then 8 else 6) 2) (nxP B n p)).2.1 := p58
      have of58 : frM A [2] [8, 9, 10, 11, 12, 13, 16] f g58 := frM_tr (frM_su o54 (by decide) (by decide)) o58
      have htp58 := tpM_of htp (of58.2.1 5 (by decide) (by decide) (by decide)) (of58.2.2 7 (by decide))
      have nb : (g58 A 12).toInt ≠ 0 := by rw [p58b.1]; omega
      have d58b : (g58 A 16).toInt = 4 := d58
      refine r_aloadR0 dX12_readUnit_61 ?_
      refine n_bipush dX12_readUnit_62 (by decide) (fun r62 e62 => ?_)
      refine q_callV1 zm_RX12_151 dX12_readUnit_64 (shM_k hs) (by decide) rfl (Nat.le_of_ble_eq_true rfl) (Nat.le_of_ble_eq_true rfl) (Nat.le_of_ble_eq_true rfl) (Nat.le_of_ble_eq_true rfl) (Nat.le_of_ble_eq_true rfl) (s_X12_mustSign_x G hs nb ?_)
      refine r_aloadR0 dX12_readUnit_67 ?_
      refine r_dup dX12_readUnit_68 rfl ?_
      refine m_getV (x := (g58 A 16)) zf_RX12_154 rfl dX12_readUnit_69 (shM_k hs) (rfl) ?_
      refine n_iconst dX12_readUnit_72 (by decide) (fun r72 e72_z => ?_)
      refine n_isub dX12_readUnit_73 (by omega) (fun r73 e73 => ?_)
      refine m_putI zf_RX12_154 (by intro C T N h_z; cases h_z; rfl) rfl dX12_readUnit_74 (shM_k hs) ?_
      obtain ⟨g74, hg74⟩ : ∃ g9, g9 = zu g58 A 16 r73 := ⟨_, rfl⟩
      rw [← hg74]
      have og74 : frM A [] [16] g58 g74 := by rw [hg74]; exact frM_zk frM_rf (by decide)
      have vg74 : g74 A 16 = r73 := by rw [hg74]; exact zu_at
      have vt74 : (g74 A 16).toInt = r73.toInt := by rw [vg74]
      refine r_goto (t := 155) dX12_readUnit_77 (by decide) ?_
      refine r_vret dX12_readUnit_155 rfl (Nat.le_of_ble_eq_true rfl) (Nat.le_of_ble_eq_true rfl) ?_
      exact hQ _ (frM_tr of58 (frM_su og74 (by decide) (by decide))) (by rw [vt74]; omega) (psM_of p58b (og74.2.2 8 (by decide)) (og74.2.2 9 (by decide)) (og74.2.2 10 (by decide)) (og74.2.2 11 (by decide)) (og74.2.2 12 (by decide)) (og74.2.2 13 (by decide))) (fun h_z => absurd h_z hr)
  have hrk2 : rkP B n p ≠ 91 := fun h_z => hp (hrk.mp h_z)
  have hv0 : unP B n (if lm = 5 then 8 else 6) 3 p = cmP B n (smP B n (if lm = 5 then 8 else 6) 3) p := (if_neg hw).trans (if_neg hp)
  rw [hv0] at hQ
  by_cases hr : (smP B n (if lm = 5 then 8 else 6) 3 p).1 = 0
  · have p81c : ∀ g, psM B n g A (smP B n (if lm = 5 then 8 else 6) 3 p).1 (smP B n (if lm = 5 then 8 else 6) 3 p).2.1 → psM B n g A 0 (smP B n (if lm = 5 then 8 else 6) 3 p).2.1 := fun g h_z => by rw [hr] at h_z; exact h_z
    obtain ⟨y1, y2, y3, y4⟩ := (hsm p ht.1).1 hr
    have q61 := rk4 (B := B) (n := n) (s := (smP B n (if lm = 5 then 8 else 6) 3 p).2.1) (c := 61) (by decide)
    have q60 := rk4 (B := B) (n := n) (s := (smP B n (if lm = 5 then 8 else 6) 3 p).2.1) (c := 60) (by decide)
    have q62 := rk4 (B := B) (n := n) (s := (smP B n (if lm = 5 then 8 else 6) 3 p).2.1) (c := 62) (by decide)
    by_cases hc_z : tkP B n (smP B n (if lm = 5 then 8 else 6) 3 p).2.1 = 61
    · have h10c := q61.mpr hc_z
      have hop : opC B n (smP B n (if lm = 5 then 8 else 6) 3 p).2.1 = 2006 := if_pos hc_z
      have hop0 : opC B n (smP B n (if lm = 5 then 8 else 6) 3 p).2.1 ≠ 0 := by rw [hop]; decide
      have hln := tk_lt (B := B) (n := n) (s := (smP B n (if lm = 5 then 8 else 6) 3 p).2.1) (by rw [hc_z]; decide)
      have hnx := nxP_gt (B := B) hln
      by_cases hq : (smP B n (if lm = 5 then 8 else 6) 3 (nxP B n (smP B n (if lm = 5 then 8 else 6) 3 p).2.1)).1 = 0
      · obtain ⟨z1, z2, z3, z4⟩ := (hsm _ hnx.2).1 hq
        have hv : cmP B n (smP B n (if lm = 5 then 8 else 6) 3) p = (0, (smP B n (if lm = 5 then 8 else 6) 3 (nxP B n (smP B n (if lm = 5 then 8 else 6) 3 p).2.1)).2.1, (smP B n (if lm = 5 then 8 else 6) 3 p).2.2 ++ (smP B n (if lm = 5 then 8 else 6) 3 (nxP B n (smP B n (if lm = 5 then 8 else 6) 3 p).2.1)).2.2 ++ [opC B n (smP B n (if lm = 5 then 8 else 6) 3 p).2.1]) := (if_neg (not_not_intro hr)).trans ((if_neg hop0).trans (if_neg (not_not_intro hq)))
        rw [hv, hop] at hQ
        refine r_aloadR0 dX12_readUnit_0 ?_
        refine m_getV (x := (f A 12)) zf_RX12_112 rfl dX12_readUnit_1 (shM_k hs) (rfl) ?_
        refine t_ifeq (t := 8) dX12_readUnit_4 (by decide) (fun h4 => ?_) (fun h4 => False.elim (by omega))
        refine r_aloadR0 dX12_readUnit_8 ?_
        refine k_ldc (hld _ (List.mem_of_getElem? (i := 2) rfl)) dX12_readUnit_9 ?_
        refine q_callV1 zm_RX12_127 dX12_readUnit_11 (shM_k hs) (by decide) rfl (Nat.le_of_ble_eq_true rfl) (Nat.le_of_ble_eq_true rfl) (Nat.le_of_ble_eq_true rfl) (Nat.le_of_ble_eq_true rfl) (Nat.le_of_ble_eq_true rfl) (s_X12_isWord (i := 8) G hs kw (by decide) htp hps (fun r11 e11_z => ?_))
        have e11b : r11.toInt = 0 := e11_z.elim (fun h_z => absurd h_z.2 hw) (fun h_z => h_z.1)
        refine t_ifeq (t := 44) dX12_readUnit_14 (by decide) (fun h14 => ?_) (fun h14 => False.elim (by omega))
        refine r_aloadR0 dX12_readUnit_44 ?_
        refine n_bipush dX12_readUnit_45 (by decide) (fun r45 e45 => ?_)
        refine q_callV1 zm_RX12_175 dX12_readUnit_47 (shM_k hs) (by decide) rfl (Nat.le_of_ble_eq_true rfl) (Nat.le_of_ble_eq_true rfl) (Nat.le_of_ble_eq_true rfl) (Nat.le_of_ble_eq_true rfl) (Nat.le_of_ble_eq_true rfl) (s_X12_isSign G hs (fun r47 e47 => ?_))
        refine t_ifeq (t := 80) dX12_readUnit_50 (by decide) (fun h50 => ?_) (fun h50 => False.elim (by omega))
        refine r_aloadR0 dX12_readUnit_80 ?_
        refine q_callV0 zm_RX12_181 dX12_readUnit_81 (shM_k hs) (by decide) rfl (Nat.le_of_ble_eq_true rfl) (Nat.le_of_ble_eq_true rfl) (Nat.le_of_ble_eq_true rfl) (Nat.le_of_ble_eq_true rfl) (Nat.le_of_ble_eq_true rfl) (s_X12_readSum_3 (lm := lm) (la := la) (u := u) G hs kw hld htp hps hd16 hlm hla hu h5 h29 h99 hup (fun g81 o81 d81 p81 k81 => ?_))
        have p81b : psM B n g81 A (smP B n (if lm = 5 then 8 else 6) 3 p).1 (smP B n (if lm = 5 then 8 else 6) 3 p).2.1 := p81
        have k81b : (smP B n (if lm = 5 then 8 else 6) 3 p).1 = 0 → okM f g81 A lm la u (smP B n (if lm = 5 then 8 else 6) 3 p).2.2 := k81
        have p81d := p81c _ p81b
        have t81 := p81d.2.1 rfl
        have h81 := t81.2.2.2.1
        have b81 := p81d.1
        have hte81 := teP_le (B := B) t81.1
        have htp81 := tpM_of htp (o81.2.1 5 (by decide) (by decide) (by decide)) (o81.2.2 7 (by decide))
        have k81c := k81b hr
        refine r_aloadR0 dX12_readUnit_84 ?_
        refine m_getV (x := (g81 A 10)) zf_RX12_92 rfl dX12_readUnit_85 (shM_k hs) (rfl) ?_
        refine r_istore1 dX12_readUnit_88 rfl ?_
        refine r_iload1 dX12_readUnit_89 ?_
        refine n_bipush dX12_readUnit_90 (by decide) (fun r90 e90_z => ?_)
        refine t_iceq (t := 112) dX12_readUnit_92 (by decide) (fun h92 => ?_) (fun h92 => False.elim (by omega))
        refine r_aloadR0 dX12_readUnit_112 ?_
        refine m_getV (x := (g81 A 12)) zf_RX12_112 rfl dX12_readUnit_113 (shM_k hs) (rfl) ?_
        refine t_ifne (t := 123) dX12_readUnit_116 (by decide) (fun h116 => False.elim (by omega)) (fun h116 => ?_)
        refine r_aloadR0 dX12_readUnit_119 ?_
        refine q_callV0 zm_RX12_131 dX12_readUnit_120 (shM_k hs) (by decide) rfl (Nat.le_of_ble_eq_true rfl) (Nat.le_of_ble_eq_true rfl) (Nat.le_of_ble_eq_true rfl) (Nat.le_of_ble_eq_true rfl) (Nat.le_of_ble_eq_true rfl) (s_X12_readsOn (p := teP B n (smP B n (if lm = 5 then 8 else 6) 3 p).2.1) G hs htp81 t81.2.1 hte81 (fun g120 o120 t120 => ?_))
        have htp120 := tpM_of htp81 (o120.2.1 5 (by decide) (by decide) (by decide)) (o120.2.2 7 (by decide))
        have hp120 : psM B n g120 A 0 (nxP B n (smP B n (if lm = 5 then 8 else 6) 3 p).2.1) := ⟨by rw [o120.2.2 12 (by decide)]; exact b81, fun _ => t120, fun h_z => absurd rfl h_z⟩
        have w120 : g120 (A + 2) = g81 (A + 2) := o120.2.1 2 (by decide) (by decide) (by decide)
        refine r_aloadR0 dX12_readUnit_123 ?_
        refine q_callV0 zm_RX12_181 dX12_readUnit_124 (shM_k hs) (by decide) rfl (Nat.le_of_ble_eq_true rfl) (Nat.le_of_ble_eq_true rfl) (Nat.le_of_ble_eq_true rfl) (Nat.le_of_ble_eq_true rfl) (Nat.le_of_ble_eq_true rfl) (s_X12_readSum_3 (lm := lm) (la := la) (u := u + (smP B n (if lm = 5 then 8 else 6) 3 p).2.2.length) G hs kw hld htp120 hp120 (by rw [o120.2.2 16 (by decide)]; exact d81) (by rw [o120.2.2 17 (by decide), o81.2.2 17 (by decide)]; exact hlm) (by rw [o120.2.2 18 (by decide), o81.2.2 18 (by decide)]; exact hla) (by rw [w120]; exact k81c.1) h5 h29 h99 (by omega) (fun g124 o124 d124 p124 k124 => ?_))
        have of124 : frM A [2] [8, 9, 10, 11, 12, 13, 16] f g124 := frM_tr o81 (frM_tr (frM_su o120 (by decide) (by decide)) o124)
        have p124b : psM B n g124 A (smP B n (if lm = 5 then 8 else 6) 3 (nxP B n (smP B n (if lm = 5 then 8 else 6) 3 p).2.1)).1 (smP B n (if lm = 5 then 8 else 6) 3 (nxP B n (smP B n (if lm = 5 then 8 else 6) 3 p).2.1)).2.1 := p124
        have k124b : (smP B n (if lm = 5 then 8 else 6) 3 (nxP B n (smP B n (if lm = 5 then 8 else 6) 3 p).2.1)).1 = 0 → okM g120 g124 A lm la (u + (smP B n (if lm = 5 then 8 else 6) 3 p).2.2.length) (smP B n (if lm = 5 then 8 else 6) 3 (nxP B n (smP B n (if lm = 5 then 8 else 6) 3 p).2.1)).2.2 := k124
        refine r_aloadR0 dX12_readUnit_127 ?_
        refine r_iload1 dX12_readUnit_128 ?_
        refine n_bipush dX12_readUnit_129 (by decide) (fun r129 e129 => ?_)
        refine t_icne (t := 139) dX12_readUnit_131 (by decide) (fun h131 => False.elim (by omega)) (fun h131 => ?_)
        refine n_bipush dX12_readUnit_134 (by decide) (fun r134 e134 => ?_)
        refine r_goto (t := 152) dX12_readUnit_136 (by decide) ?_
        refine q_callV1 zm_RX12_162 dX12_readUnit_152 (shM_k hs) (by decide) rfl (Nat.le_of_ble_eq_true rfl) (Nat.le_of_ble_eq_true rfl) (Nat.le_of_ble_eq_true rfl) (Nat.le_of_ble_eq_true rfl) (Nat.le_of_ble_eq_true rfl) (s_X12_laysStep (lm := lm) (la := la) (u := u + (smP B n (if lm = 5 then 8 else 6) 3 p).2.2.length + (smP B n (if lm = 5 then 8 else 6) 3 (nxP B n (smP B n (if lm = 5 then 8 else 6) 3 p).2.1)).2.2.length) G hs (by have := p124b.1; rw [hq] at this; exact this) (by rw [of124.2.2 17 (by decide)]; exact hlm) (by rw [of124.2.2 18 (by decide)]; exact hla) (k124b hq).1 h5 h29 (by omega) (fun g152 o152 a152 b152 c152 => ?_))
        have p124c := p124b
        rw [hq] at p124c
        refine r_vret dX12_readUnit_155 rfl (Nat.le_of_ble_eq_true rfl) (Nat.le_of_ble_eq_true rfl) ?_
        refine hQ _ (frM_tr of124 (frM_su o152 (by decide) (by decide))) (by rw [o152.2.2 16 (by decide)]; exact d124) (psM_of p124c (o152.2.2 8 (by decide)) (o152.2.2 9 (by decide)) (o152.2.2 10 (by decide)) (o152.2.2 11 (by decide)) (o152.2.2 12 (by decide)) (o152.2.2 13 (by decide))) (fun _ => okM_ap (by omega) (by rw [List.length_append]; omega) (okM_ap (by omega) (by omega) k81c (okM_cg (k124b hq) w120 rfl)) ?_)
        rw [List.length_append, ← Nat.add_assoc]
        exact okM_one (by omega) a152 b152 c152 (by rw [e134]; rfl)
      · have hv : cmP B n (smP B n (if lm = 5 then 8 else 6) 3) p = (smP B n (if lm = 5 then 8 else 6) 3 (nxP B n (smP B n (if lm = 5 then 8 else 6) 3 p).2.1)) := (if_neg (not_not_intro hr)).trans ((if_neg hop0).trans (if_pos hq))
        rw [hv] at hQ
        refine r_aloadR0 dX12_readUnit_0 ?_
        refine m_getV (x := (f A 12)) zf_RX12_112 rfl dX12_readUnit_1 (shM_k hs) (rfl) ?_
        refine t_ifeq (t := 8) dX12_readUnit_4 (by decide) (fun h4 => ?_) (fun h4 => False.elim (by omega))
        refine r_aloadR0 dX12_readUnit_8 ?_
        refine k_ldc (hld _ (List.mem_of_getElem? (i := 2) rfl)) dX12_readUnit_9 ?_
        refine q_callV1 zm_RX12_127 dX12_readUnit_11 (shM_k hs) (by decide) rfl (Nat.le_of_ble_eq_true rfl) (Nat.le_of_ble_eq_true rfl) (Nat.le_of_ble_eq_true rfl) (Nat.le_of_ble_eq_true rfl) (Nat.le_of_ble_eq_true rfl) (s_X12_isWord (i := 8) G hs kw (by decide) htp hps (fun r11 e11_z => ?_))
        have e11b : r11.toInt = 0 := e11_z.elim (fun h_z => absurd h_z.2 hw) (fun h_z => h_z.1)
        refine t_ifeq (t := 44) dX12_readUnit_14 (by decide) (fun h14 => ?_) (fun h14 => False.elim (by omega))
        refine r_aloadR0 dX12_readUnit_44 ?_
        refine n_bipush dX12_readUnit_45 (by decide) (fun r45 e45 => ?_)
        refine q_callV1 zm_RX12_175 dX12_readUnit_47 (shM_k hs) (by decide) rfl (Nat.le_of_ble_eq_true rfl) (Nat.le_of_ble_eq_true rfl) (Nat.le_of_ble_eq_true rfl) (Nat.le_of_ble_eq_true rfl) (Nat.le_of_ble_eq_true rfl) (s_X12_isSign G hs (fun r47 e47 => ?_))
        refine t_ifeq (t := 80) dX12_readUnit_50 (by decide) (fun h50 => ?_) (fun h50 => False.elim (by omega))
        refine r_aloadR0 dX12_readUnit_80 ?_
        refine q_callV0 zm_RX12_181 dX12_readUnit_81 (shM_k hs) (by decide) rfl (Nat.le_of_ble_eq_true rfl) (Nat.le_of_ble_eq_true rfl) (Nat.le_of_ble_eq_true rfl) (Nat.le_of_ble_eq_true rfl) (Nat.le_of_ble_eq_true rfl) (s_X12_readSum_3 (lm := lm) (la := la) (u := u) G hs kw hld htp hps hd16 hlm hla hu h5 h29 h99 hup (fun g81 o81 d81 p81 k81 => ?_))
        have p81b : psM B n g81 A (smP B n (if lm = 5 then 8 else 6) 3 p).1 (smP B n (if lm = 5 then 8 else 6) 3 p).2.1 := p81
        have k81b : (smP B n (if lm = 5 then 8 else 6) 3 p).1 = 0 → okM f g81 A lm la u (smP B n (if lm = 5 then 8 else 6) 3 p).2.2 := k81
        have p81d := p81c _ p81b
        have t81 := p81d.2.1 rfl
        have h81 := t81.2.2.2.1
        have b81 := p81d.1
        have hte81 := teP_le (B := B) t81.1
        have htp81 := tpM_of htp (o81.2.1 5 (by decide) (by decide) (by decide)) (o81.2.2 7 (by decide))
        have k81c := k81b hr
        refine r_aloadR0 dX12_readUnit_84 ?_
        refine m_getV (x := (g81 A 10)) zf_RX12_92 rfl dX12_readUnit_85 (shM_k hs) (rfl) ?_
        refine r_istore1 dX12_readUnit_88 rfl ?_
        refine r_iload1 dX12_readUnit_89 ?_
        refine n_bipush dX12_readUnit_90 (by decide) (fun r90 e90_z => ?_)
        refine t_iceq (t := 112) dX12_readUnit_92 (by decide) (fun h92 => ?_) (fun h92 => False.elim (by omega))
        refine r_aloadR0 dX12_readUnit_112 ?_
        refine m_getV (x := (g81 A 12)) zf_RX12_112 rfl dX12_readUnit_113 (shM_k hs) (rfl) ?_
        refine t_ifne (t := 123) dX12_readUnit_116 (by decide) (fun h116 => False.elim (by omega)) (fun h116 => ?_)
        refine r_aloadR0 dX12_readUnit_119 ?_
        refine q_callV0 zm_RX12_131 dX12_readUnit_120 (shM_k hs) (by decide) rfl (Nat.le_of_ble_eq_true rfl) (Nat.le_of_ble_eq_true rfl) (Nat.le_of_ble_eq_true rfl) (Nat.le_of_ble_eq_true rfl) (Nat.le_of_ble_eq_true rfl) (s_X12_readsOn (p := teP B n (smP B n (if lm = 5 then 8 else 6) 3 p).2.1) G hs htp81 t81.2.1 hte81 (fun g120 o120 t120 => ?_))
        have htp120 := tpM_of htp81 (o120.2.1 5 (by decide) (by decide) (by decide)) (o120.2.2 7 (by decide))
        have hp120 : psM B n g120 A 0 (nxP B n (smP B n (if lm = 5 then 8 else 6) 3 p).2.1) := ⟨by rw [o120.2.2 12 (by decide)]; exact b81, fun _ => t120, fun h_z => absurd rfl h_z⟩
        have w120 : g120 (A + 2) = g81 (A + 2) := o120.2.1 2 (by decide) (by decide) (by decide)
        refine r_aloadR0 dX12_readUnit_123 ?_
        refine q_callV0 zm_RX12_181 dX12_readUnit_124 (shM_k hs) (by decide) rfl (Nat.le_of_ble_eq_true rfl) (Nat.le_of_ble_eq_true rfl) (Nat.le_of_ble_eq_true rfl) (Nat.le_of_ble_eq_true rfl) (Nat.le_of_ble_eq_true rfl) (s_X12_readSum_3 (lm := lm) (la := la) (u := u + (smP B n (if lm = 5 then 8 else 6) 3 p).2.2.length) G hs kw hld htp120 hp120 (by rw [o120.2.2 16 (by decide)]; exact d81) (by rw [o120.2.2 17 (by decide), o81.2.2 17 (by decide)]; exact hlm) (by rw [o120.2.2 18 (by decide), o81.2.2 18 (by decide)]; exact hla) (by rw [w120]; exact k81c.1) h5 h29 h99 (by omega) (fun g124 o124 d124 p124 k124 => ?_))
        have of124 : frM A [2] [8, 9, 10, 11, 12, 13, 16] f g124 := frM_tr o81 (frM_tr (frM_su o120 (by decide) (by decide)) o124)
        have p124b : psM B n g124 A (smP B n (if lm = 5 then 8 else 6) 3 (nxP B n (smP B n (if lm = 5 then 8 else 6) 3 p).2.1)).1 (smP B n (if lm = 5 then 8 else 6) 3 (nxP B n (smP B n (if lm = 5 then 8 else 6) 3 p).2.1)).2.1 := p124
        have k124b : (smP B n (if lm = 5 then 8 else 6) 3 (nxP B n (smP B n (if lm = 5 then 8 else 6) 3 p).2.1)).1 = 0 → okM g120 g124 A lm la (u + (smP B n (if lm = 5 then 8 else 6) 3 p).2.2.length) (smP B n (if lm = 5 then 8 else 6) 3 (nxP B n (smP B n (if lm = 5 then 8 else 6) 3 p).2.1)).2.2 := k124
        refine r_aloadR0 dX12_readUnit_127 ?_
        refine r_iload1 dX12_readUnit_128 ?_
        refine n_bipush dX12_readUnit_129 (by decide) (fun r129 e129 => ?_)
        refine t_icne (t := 139) dX12_readUnit_131 (by decide) (fun h131 => False.elim (by omega)) (fun h131 => ?_)
        refine n_bipush dX12_readUnit_134 (by decide) (fun r134 e134 => ?_)
        refine r_goto (t := 152) dX12_readUnit_136 (by decide) ?_
        refine q_callV1 zm_RX12_162 dX12_readUnit_152 (shM_k hs) (by decide) rfl (Nat.le_of_ble_eq_true rfl) (Nat.le_of_ble_eq_true rfl) (Nat.le_of_ble_eq_true rfl) (Nat.le_of_ble_eq_true rfl) (Nat.le_of_ble_eq_true rfl) (s_X12_laysStep_x G hs (by rw [p124b.1]; omega) ?_)
        refine r_vret dX12_readUnit_155 rfl (Nat.le_of_ble_eq_true rfl) (Nat.le_of_ble_eq_true rfl) ?_
        exact hQ _ of124 d124 p124b (fun h_z => absurd h_z hq)
    have hn61 := hc_z
    have hm61 : rkP B n (smP B n (if lm = 5 then 8 else 6) 3 p).2.1 ≠ 61 := fun h_z => hc_z (q61.mp h_z)
    clear hc_z
    by_cases hc_z : tkP B n (smP B n (if lm = 5 then 8 else 6) 3 p).2.1 = 60
    · have h10c := q60.mpr hc_z
      have hop : opC B n (smP B n (if lm = 5 then 8 else 6) 3 p).2.1 = 2007 := (if_neg (by omega)).trans (if_pos hc_z)
      have hop0 : opC B n (smP B n (if lm = 5 then 8 else 6) 3 p).2.1 ≠ 0 := by rw [hop]; decide
      have hln := tk_lt (B := B) (n := n) (s := (smP B n (if lm = 5 then 8 else 6) 3 p).2.1) (by rw [hc_z]; decide)
      have hnx := nxP_gt (B := B) hln
      by_cases hq : (smP B n (if lm = 5 then 8 else 6) 3 (nxP B n (smP B n (if lm = 5 then 8 else 6) 3 p).2.1)).1 = 0
      · obtain ⟨z1, z2, z3, z4⟩ := (hsm _ hnx.2).1 hq
        have hv : cmP B n (smP B n (if lm = 5 then 8 else 6) 3) p = (0, (smP B n (if lm = 5 then 8 else 6) 3 (nxP B n (smP B n (if lm = 5 then 8 else 6) 3 p).2.1)).2.1, (smP B n (if lm = 5 then 8 else 6) 3 p).2.2 ++ (smP B n (if lm = 5 then 8 else 6) 3 (nxP B n (smP B n (if lm = 5 then 8 else 6) 3 p).2.1)).2.2 ++ [opC B n (smP B n (if lm = 5 then 8 else 6) 3 p).2.1]) := (if_neg (not_not_intro hr)).trans ((if_neg hop0).trans (if_neg (not_not_intro hq)))
        rw [hv, hop] at hQ
        refine r_aloadR0 dX12_readUnit_0 ?_
        refine m_getV (x := (f A 12)) zf_RX12_112 rfl dX12_readUnit_1 (shM_k hs) (rfl) ?_
        refine t_ifeq (t := 8) dX12_readUnit_4 (by decide) (fun h4 => ?_) (fun h4 => False.elim (by omega))
        refine r_aloadR0 dX12_readUnit_8 ?_
        refine k_ldc (hld _ (List.mem_of_getElem? (i := 2) rfl)) dX12_readUnit_9 ?_
        refine q_callV1 zm_RX12_127 dX12_readUnit_11 (shM_k hs) (by decide) rfl (Nat.le_of_ble_eq_true rfl) (Nat.le_of_ble_eq_true rfl) (Nat.le_of_ble_eq_true rfl) (Nat.le_of_ble_eq_true rfl) (Nat.le_of_ble_eq_true rfl) (s_X12_isWord (i := 8) G hs kw (by decide) htp hps (fun r11 e11_z => ?_))
        have e11b : r11.toInt = 0 := e11_z.elim (fun h_z => absurd h_z.2 hw) (fun h_z => h_z.1)
        refine t_ifeq (t := 44) dX12_readUnit_14 (by decide) (fun h14 => ?_) (fun h14 => False.elim (by omega))
        refine r_aloadR0 dX12_readUnit_44 ?_
        refine n_bipush dX12_readUnit_45 (by decide) (fun r45 e45 => ?_)
        refine q_callV1 zm_RX12_175 dX12_readUnit_47 (shM_k hs) (by decide) rfl (Nat.le_of_ble_eq_true rfl) (Nat.le_of_ble_eq_true rfl) (Nat.le_of_ble_eq_true rfl) (Nat.le_of_ble_eq_true rfl) (Nat.le_of_ble_eq_true rfl) (s_X12_isSign G hs (fun r47 e47 => ?_))
        refine t_ifeq (t := 80) dX12_readUnit_50 (by decide) (fun h50 => ?_) (fun h50 => False.elim (by omega))
        refine r_aloadR0 dX12_readUnit_80 ?_
        refine q_callV0 zm_RX12_181 dX12_readUnit_81 (shM_k hs) (by decide) rfl (Nat.le_of_ble_eq_true rfl) (Nat.le_of_ble_eq_true rfl) (Nat.le_of_ble_eq_true rfl) (Nat.le_of_ble_eq_true rfl) (Nat.le_of_ble_eq_true rfl) (s_X12_readSum_3 (lm := lm) (la := la) (u := u) G hs kw hld htp hps hd16 hlm hla hu h5 h29 h99 hup (fun g81 o81 d81 p81 k81 => ?_))
        have p81b : psM B n g81 A (smP B n (if lm = 5 then 8 else 6) 3 p).1 (smP B n (if lm = 5 then 8 else 6) 3 p).2.1 := p81
        have k81b : (smP B n (if lm = 5 then 8 else 6) 3 p).1 = 0 → okM f g81 A lm la u (smP B n (if lm = 5 then 8 else 6) 3 p).2.2 := k81
        have p81d := p81c _ p81b
        have t81 := p81d.2.1 rfl
        have h81 := t81.2.2.2.1
        have b81 := p81d.1
        have hte81 := teP_le (B := B) t81.1
        have htp81 := tpM_of htp (o81.2.1 5 (by decide) (by decide) (by decide)) (o81.2.2 7 (by decide))
        have k81c := k81b hr
        refine r_aloadR0 dX12_readUnit_84 ?_
        refine m_getV (x := (g81 A 10)) zf_RX12_92 rfl dX12_readUnit_85 (shM_k hs) (rfl) ?_
        refine r_istore1 dX12_readUnit_88 rfl ?_
        refine r_iload1 dX12_readUnit_89 ?_
        refine n_bipush dX12_readUnit_90 (by decide) (fun r90 e90_z => ?_)
        refine t_iceq (t := 112) dX12_readUnit_92 (by decide) (fun h92 => False.elim (by omega)) (fun h92 => ?_)
        refine r_iload1 dX12_readUnit_95 ?_
        refine n_bipush dX12_readUnit_96 (by decide) (fun r96 e96 => ?_)
        refine t_iceq (t := 112) dX12_readUnit_98 (by decide) (fun h98 => ?_) (fun h98 => False.elim (by omega))
        refine r_aloadR0 dX12_readUnit_112 ?_
        refine m_getV (x := (g81 A 12)) zf_RX12_112 rfl dX12_readUnit_113 (shM_k hs) (rfl) ?_
        refine t_ifne (t := 123) dX12_readUnit_116 (by decide) (fun h116 => False.elim (by omega)) (fun h116 => ?_)
        refine r_aloadR0 dX12_readUnit_119 ?_
        refine q_callV0 zm_RX12_131 dX12_readUnit_120 (shM_k hs) (by decide) rfl (Nat.le_of_ble_eq_true rfl) (Nat.le_of_ble_eq_true rfl) (Nat.le_of_ble_eq_true rfl) (Nat.le_of_ble_eq_true rfl) (Nat.le_of_ble_eq_true rfl) (s_X12_readsOn (p := teP B n (smP B n (if lm = 5 then 8 else 6) 3 p).2.1) G hs htp81 t81.2.1 hte81 (fun g120 o120 t120 => ?_))
        have htp120 := tpM_of htp81 (o120.2.1 5 (by decide) (by decide) (by decide)) (o120.2.2 7 (by decide))
        have hp120 : psM B n g120 A 0 (nxP B n (smP B n (if lm = 5 then 8 else 6) 3 p).2.1) := ⟨by rw [o120.2.2 12 (by decide)]; exact b81, fun _ => t120, fun h_z => absurd rfl h_z⟩
        have w120 : g120 (A + 2) = g81 (A + 2) := o120.2.1 2 (by decide) (by decide) (by decide)
        refine r_aloadR0 dX12_readUnit_123 ?_
        refine q_callV0 zm_RX12_181 dX12_readUnit_124 (shM_k hs) (by decide) rfl (Nat.le_of_ble_eq_true rfl) (Nat.le_of_ble_eq_true rfl) (Nat.le_of_ble_eq_true rfl) (Nat.le_of_ble_eq_true rfl) (Nat.le_of_ble_eq_true rfl) (s_X12_readSum_3 (lm := lm) (la := la) (u := u + (smP B n (if lm = 5 then 8 else 6) 3 p).2.2.length) G hs kw hld htp120 hp120 (by rw [o120.2.2 16 (by decide)]; exact d81) (by rw [o120.2.2 17 (by decide), o81.2.2 17 (by decide)]; exact hlm) (by rw [o120.2.2 18 (by decide), o81.2.2 18 (by decide)]; exact hla) (by rw [w120]; exact k81c.1) h5 h29 h99 (by omega) (fun g124 o124 d124 p124 k124 => ?_))
        have of124 : frM A [2] [8, 9, 10, 11, 12, 13, 16] f g124 := frM_tr o81 (frM_tr (frM_su o120 (by decide) (by decide)) o124)
        have p124b : psM B n g124 A (smP B n (if lm = 5 then 8 else 6) 3 (nxP B n (smP B n (if lm = 5 then 8 else 6) 3 p).2.1)).1 (smP B n (if lm = 5 then 8 else 6) 3 (nxP B n (smP B n (if lm = 5 then 8 else 6) 3 p).2.1)).2.1 := p124
        have k124b : (smP B n (if lm = 5 then 8 else 6) 3 (nxP B n (smP B n (if lm = 5 then 8 else 6) 3 p).2.1)).1 = 0 → okM g120 g124 A lm la (u + (smP B n (if lm = 5 then 8 else 6) 3 p).2.2.length) (smP B n (if lm = 5 then 8 else 6) 3 (nxP B n (smP B n (if lm = 5 then 8 else 6) 3 p).2.1)).2.2 := k124
        refine r_aloadR0 dX12_readUnit_127 ?_
        refine r_iload1 dX12_readUnit_128 ?_
        refine n_bipush dX12_readUnit_129 (by decide) (fun r129 e129 => ?_)
        refine t_icne (t := 139) dX12_readUnit_131 (by decide) (fun h131 => ?_) (fun h131 => False.elim (by omega))
        refine r_iload1 dX12_readUnit_139 ?_
        refine n_bipush dX12_readUnit_140 (by decide) (fun r140 e140 => ?_)
        refine t_icne (t := 150) dX12_readUnit_142 (by decide) (fun h142 => False.elim (by omega)) (fun h142 => ?_)
        refine n_bipush dX12_readUnit_145 (by decide) (fun r145 e145 => ?_)
        refine r_goto (t := 152) dX12_readUnit_147 (by decide) ?_
        refine q_callV1 zm_RX12_162 dX12_readUnit_152 (shM_k hs) (by decide) rfl (Nat.le_of_ble_eq_true rfl) (Nat.le_of_ble_eq_true rfl) (Nat.le_of_ble_eq_true rfl) (Nat.le_of_ble_eq_true rfl) (Nat.le_of_ble_eq_true rfl) (s_X12_laysStep (lm := lm) (la := la) (u := u + (smP B n (if lm = 5 then 8 else 6) 3 p).2.2.length + (smP B n (if lm = 5 then 8 else 6) 3 (nxP B n (smP B n (if lm = 5 then 8 else 6) 3 p).2.1)).2.2.length) G hs (by have := p124b.1; rw [hq] at this; exact this) (by rw [of124.2.2 17 (by decide)]; exact hlm) (by rw [of124.2.2 18 (by decide)]; exact hla) (k124b hq).1 h5 h29 (by omega) (fun g152 o152 a152 b152 c152 => ?_))
        have p124c := p124b
        rw [hq] at p124c
        refine r_vret dX12_readUnit_155 rfl (Nat.le_of_ble_eq_true rfl) (Nat.le_of_ble_eq_true rfl) ?_
        refine hQ _ (frM_tr of124 (frM_su o152 (by decide) (by decide))) (by rw [o152.2.2 16 (by decide)]; exact d124) (psM_of p124c (o152.2.2 8 (by decide)) (o152.2.2 9 (by decide)) (o152.2.2 10 (by decide)) (o152.2.2 11 (by decide)) (o152.2.2 12 (by decide)) (o152.2.2 13 (by decide))) (fun _ => okM_ap (by omega) (by rw [List.length_append]; omega) (okM_ap (by omega) (by omega) k81c (okM_cg (k124b hq) w120 rfl)) ?_)
        rw [List.length_append, ← Nat.add_assoc]
        exact okM_one (by omega) a152 b152 c152 (by rw [e145]; rfl)
      · have hv : cmP B n (smP B n (if lm = 5 then 8 else 6) 3) p = (smP B n (if lm = 5 then 8 else 6) 3 (nxP B n (smP B n (if lm = 5 then 8 else 6) 3 p).2.1)) := (if_neg (not_not_intro hr)).trans ((if_neg hop0).trans (if_pos hq))
        rw [hv] at hQ
        refine r_aloadR0 dX12_readUnit_0 ?_
        refine m_getV (x := (f A 12)) zf_RX12_112 rfl dX12_readUnit_1 (shM_k hs) (rfl) ?_
        refine t_ifeq (t := 8) dX12_readUnit_4 (by decide) (fun h4 => ?_) (fun h4 => False.elim (by omega))
        refine r_aloadR0 dX12_readUnit_8 ?_
        refine k_ldc (hld _ (List.mem_of_getElem? (i := 2) rfl)) dX12_readUnit_9 ?_
        refine q_callV1 zm_RX12_127 dX12_readUnit_11 (shM_k hs) (by decide) rfl (Nat.le_of_ble_eq_true rfl) (Nat.le_of_ble_eq_true rfl) (Nat.le_of_ble_eq_true rfl) (Nat.le_of_ble_eq_true rfl) (Nat.le_of_ble_eq_true rfl) (s_X12_isWord (i := 8) G hs kw (by decide) htp hps (fun r11 e11_z => ?_))
        have e11b : r11.toInt = 0 := e11_z.elim (fun h_z => absurd h_z.2 hw) (fun h_z => h_z.1)
        refine t_ifeq (t := 44) dX12_readUnit_14 (by decide) (fun h14 => ?_) (fun h14 => False.elim (by omega))
        refine r_aloadR0 dX12_readUnit_44 ?_
        refine n_bipush dX12_readUnit_45 (by decide) (fun r45 e45 => ?_)
        refine q_callV1 zm_RX12_175 dX12_readUnit_47 (shM_k hs) (by decide) rfl (Nat.le_of_ble_eq_true rfl) (Nat.le_of_ble_eq_true rfl) (Nat.le_of_ble_eq_true rfl) (Nat.le_of_ble_eq_true rfl) (Nat.le_of_ble_eq_true rfl) (s_X12_isSign G hs (fun r47 e47 => ?_))
        refine t_ifeq (t := 80) dX12_readUnit_50 (by decide) (fun h50 => ?_) (fun h50 => False.elim (by omega))
        refine r_aloadR0 dX12_readUnit_80 ?_
        refine q_callV0 zm_RX12_181 dX12_readUnit_81 (shM_k hs) (by decide) rfl (Nat.le_of_ble_eq_true rfl) (Nat.le_of_ble_eq_true rfl) (Nat.le_of_ble_eq_true rfl) (Nat.le_of_ble_eq_true rfl) (Nat.le_of_ble_eq_true rfl) (s_X12_readSum_3 (lm := lm) (la := la) (u := u) G hs kw hld htp hps hd16 hlm hla hu h5 h29 h99 hup (fun g81 o81 d81 p81 k81 => ?_))
        have p81b : psM B n g81 A (smP B n (if lm = 5 then 8 else 6) 3 p).1 (smP B n (if lm = 5 then 8 else 6) 3 p).2.1 := p81
        have k81b : (smP B n (if lm = 5 then 8 else 6) 3 p).1 = 0 → okM f g81 A lm la u (smP B n (if lm = 5 then 8 else 6) 3 p).2.2 := k81
        have p81d := p81c _ p81b
        have t81 := p81d.2.1 rfl
        have h81 := t81.2.2.2.1
        have b81 := p81d.1
        have hte81 := teP_le (B := B) t81.1
        have htp81 := tpM_of htp (o81.2.1 5 (by decide) (by decide) (by decide)) (o81.2.2 7 (by decide))
        have k81c := k81b hr
        refine r_aloadR0 dX12_readUnit_84 ?_
        refine m_getV (x := (g81 A 10)) zf_RX12_92 rfl dX12_readUnit_85 (shM_k hs) (rfl) ?_
        refine r_istore1 dX12_readUnit_88 rfl ?_
        refine r_iload1 dX12_readUnit_89 ?_
        refine n_bipush dX12_readUnit_90 (by decide) (fun r90 e90_z => ?_)
        refine t_iceq (t := 112) dX12_readUnit_92 (by decide) (fun h92 => False.elim (by omega)) (fun h92 => ?_)
        refine r_iload1 dX12_readUnit_95 ?_
        refine n_bipush dX12_readUnit_96 (by decide) (fun r96 e96 => ?_)
        refine t_iceq (t := 112) dX12_readUnit_98 (by decide) (fun h98 => ?_) (fun h98 => False.elim (by omega))
        refine r_aloadR0 dX12_readUnit_112 ?_
        refine m_getV (x := (g81 A 12)) zf_RX12_112 rfl dX12_readUnit_113 (shM_k hs) (rfl) ?_
        refine t_ifne (t := 123) dX12_readUnit_116 (by decide) (fun h116 => False.elim (by omega)) (fun h116 => ?_)
        refine r_aloadR0 dX12_readUnit_119 ?_
        refine q_callV0 zm_RX12_131 dX12_readUnit_120 (shM_k hs) (by decide) rfl (Nat.le_of_ble_eq_true rfl) (Nat.le_of_ble_eq_true rfl) (Nat.le_of_ble_eq_true rfl) (Nat.le_of_ble_eq_true rfl) (Nat.le_of_ble_eq_true rfl) (s_X12_readsOn (p := teP B n (smP B n (if lm = 5 then 8 else 6) 3 p).2.1) G hs htp81 t81.2.1 hte81 (fun g120 o120 t120 => ?_))
        have htp120 := tpM_of htp81 (o120.2.1 5 (by decide) (by decide) (by decide)) (o120.2.2 7 (by decide))
        have hp120 : psM B n g120 A 0 (nxP B n (smP B n (if lm = 5 then 8 else 6) 3 p).2.1) := ⟨by rw [o120.2.2 12 (by decide)]; exact b81, fun _ => t120, fun h_z => absurd rfl h_z⟩
        have w120 : g120 (A + 2) = g81 (A + 2) := o120.2.1 2 (by decide) (by decide) (by decide)
        refine r_aloadR0 dX12_readUnit_123 ?_
        refine q_callV0 zm_RX12_181 dX12_readUnit_124 (shM_k hs) (by decide) rfl (Nat.le_of_ble_eq_true rfl) (Nat.le_of_ble_eq_true rfl) (Nat.le_of_ble_eq_true rfl) (Nat.le_of_ble_eq_true rfl) (Nat.le_of_ble_eq_true rfl) (s_X12_readSum_3 (lm := lm) (la := la) (u := u + (smP B n (if lm = 5 then 8 else 6) 3 p).2.2.length) G hs kw hld htp120 hp120 (by rw [o120.2.2 16 (by decide)]; exact d81) (by rw [o120.2.2 17 (by decide), o81.2.2 17 (by decide)]; exact hlm) (by rw [o120.2.2 18 (by decide), o81.2.2 18 (by decide)]; exact hla) (by rw [w120]; exact k81c.1) h5 h29 h99 (by omega) (fun g124 o124 d124 p124 k124 => ?_))
        have of124 : frM A [2] [8, 9, 10, 11, 12, 13, 16] f g124 := frM_tr o81 (frM_tr (frM_su o120 (by decide) (by decide)) o124)
        have p124b : psM B n g124 A (smP B n (if lm = 5 then 8 else 6) 3 (nxP B n (smP B n (if lm = 5 then 8 else 6) 3 p).2.1)).1 (smP B n (if lm = 5 then 8 else 6) 3 (nxP B n (smP B n (if lm = 5 then 8 else 6) 3 p).2.1)).2.1 := p124
        have k124b : (smP B n (if lm = 5 then 8 else 6) 3 (nxP B n (smP B n (if lm = 5 then 8 else 6) 3 p).2.1)).1 = 0 → okM g120 g124 A lm la (u + (smP B n (if lm = 5 then 8 else 6) 3 p).2.2.length) (smP B n (if lm = 5 then 8 else 6) 3 (nxP B n (smP B n (if lm = 5 then 8 else 6) 3 p).2.1)).2.2 := k124
        refine r_aloadR0 dX12_readUnit_127 ?_
        refine r_iload1 dX12_readUnit_128 ?_
        refine n_bipush dX12_readUnit_129 (by decide) (fun r129 e129 => ?_)
        refine t_icne (t := 139) dX12_readUnit_131 (by decide) (fun h131 => ?_) (fun h131 => False.elim (by omega))
        refine r_iload1 dX12_readUnit_139 ?_
        refine n_bipush dX12_readUnit_140 (by decide) (fun r140 e140 => ?_)
        refine t_icne (t := 150) dX12_readUnit_142 (by decide) (fun h142 => False.elim (by omega)) (fun h142 => ?_)
        refine n_bipush dX12_readUnit_145 (by decide) (fun r145 e145 => ?_)
        refine r_goto (t := 152) dX12_readUnit_147 (by decide) ?_
        refine q_callV1 zm_RX12_162 dX12_readUnit_152 (shM_k hs) (by decide) rfl (Nat.le_of_ble_eq_true rfl) (Nat.le_of_ble_eq_true rfl) (Nat.le_of_ble_eq_true rfl) (Nat.le_of_ble_eq_true rfl) (Nat.le_of_ble_eq_true rfl) (s_X12_laysStep_x G hs (by rw [p124b.1]; omega) ?_)
        refine r_vret dX12_readUnit_155 rfl (Nat.le_of_ble_eq_true rfl) (Nat.le_of_ble_eq_true rfl) ?_
        exact hQ _ of124 d124 p124b (fun h_z => absurd h_z hq)
    have hn60 := hc_z
    have hm60 : rkP B n (smP B n (if lm = 5 then 8 else 6) 3 p).2.1 ≠ 60 := fun h_z => hc_z (q60.mp h_z)
    clear hc_z
    by_cases hc_z : tkP B n (smP B n (if lm = 5 then 8 else 6) 3 p).2.1 = 62
    · have h10c := q62.mpr hc_z
      have hop : opC B n (smP B n (if lm = 5 then 8 else 6) 3 p).2.1 = 2008 := (if_neg (by omega)).trans ((if_neg (by omega)).trans (if_pos hc_z))
      have hop0 : opC B n (smP B n (if lm = 5 then 8 else 6) 3 p).2.1 ≠ 0 := by rw [hop]; decide
      have hln := tk_lt (B := B) (n := n) (s := (smP B n (if lm = 5 then 8 else 6) 3 p).2.1) (by rw [hc_z]; decide)
      have hnx := nxP_gt (B := B) hln
      by_cases hq : (smP B n (if lm = 5 then 8 else 6) 3 (nxP B n (smP B n (if lm = 5 then 8 else 6) 3 p).2.1)).1 = 0
      · obtain ⟨z1, z2, z3, z4⟩ := (hsm _ hnx.2).1 hq
        have hv : cmP B n (smP B n (if lm = 5 then 8 else 6) 3) p = (0, (smP B n (if lm = 5 then 8 else 6) 3 (nxP B n (smP B n (if lm = 5 then 8 else 6) 3 p).2.1)).2.1, (smP B n (if lm = 5 then 8 else 6) 3 p).2.2 ++ (smP B n (if lm = 5 then 8 else 6) 3 (nxP B n (smP B n (if lm = 5 then 8 else 6) 3 p).2.1)).2.2 ++ [opC B n (smP B n (if lm = 5 then 8 else 6) 3 p).2.1]) := (if_neg (not_not_intro hr)).trans ((if_neg hop0).trans (if_neg (not_not_intro hq)))
        rw [hv, hop] at hQ
        refine r_aloadR0 dX12_readUnit_0 ?_
        refine m_getV (x := (f A 12)) zf_RX12_112 rfl dX12_readUnit_1 (shM_k hs) (rfl) ?_
        refine t_ifeq (t := 8) dX12_readUnit_4 (by decide) (fun h4 => ?_) (fun h4 => False.elim (by omega))
        refine r_aloadR0 dX12_readUnit_8 ?_
        refine k_ldc (hld _ (List.mem_of_getElem? (i := 2) rfl)) dX12_readUnit_9 ?_
        refine q_callV1 zm_RX12_127 dX12_readUnit_11 (shM_k hs) (by decide) rfl (Nat.le_of_ble_eq_true rfl) (Nat.le_of_ble_eq_true rfl) (Nat.le_of_ble_eq_true rfl) (Nat.le_of_ble_eq_true rfl) (Nat.le_of_ble_eq_true rfl) (s_X12_isWord (i := 8) G hs kw (by decide) htp hps (fun r11 e11_z => ?_))
        have e11b : r11.toInt = 0 := e11_z.elim (fun h_z => absurd h_z.2 hw) (fun h_z => h_z.1)
        refine t_ifeq (t := 44) dX12_readUnit_14 (by decide) (fun h14 => ?_) (fun h14 => False.elim (by omega))
        refine r_aloadR0 dX12_readUnit_44 ?_
        refine n_bipush dX12_readUnit_45 (by decide) (fun r45 e45 => ?_)
        refine q_callV1 zm_RX12_175 dX12_readUnit_47 (shM_k hs) (by decide) rfl (Nat.le_of_ble_eq_true rfl) (Nat.le_of_ble_eq_true rfl) (Nat.le_of_ble_eq_true rfl) (Nat.le_of_ble_eq_true rfl) (Nat.le_of_ble_eq_true rfl) (s_X12_isSign G hs (fun r47 e47 => ?_))
        refine t_ifeq (t := 80) dX12_readUnit_50 (by decide) (fun h50 => ?_) (fun h50 => False.elim (by omega))
        refine r_aloadR0 dX12_readUnit_80 ?_
        refine q_callV0 zm_RX12_181 dX12_readUnit_81 (shM_k hs) (by decide) rfl (Nat.le_of_ble_eq_true rfl) (Nat.le_of_ble_eq_true rfl) (Nat.le_of_ble_eq_true rfl) (Nat.le_of_ble_eq_true rfl) (Nat.le_of_ble_eq_true rfl) (s_X12_readSum_3 (lm := lm) (la := la) (u := u) G hs kw hld htp hps hd16 hlm hla hu h5 h29 h99 hup (fun g81 o81 d81 p81 k81 => ?_))
        have p81b : psM B n g81 A (smP B n (if lm = 5 then 8 else 6) 3 p).1 (smP B n (if lm = 5 then 8 else 6) 3 p).2.1 := p81
        have k81b : (smP B n (if lm = 5 then 8 else 6) 3 p).1 = 0 → okM f g81 A lm la u (smP B n (if lm = 5 then 8 else 6) 3 p).2.2 := k81
        have p81d := p81c _ p81b
        have t81 := p81d.2.1 rfl
        have h81 := t81.2.2.2.1
        have b81 := p81d.1
        have hte81 := teP_le (B := B) t81.1
        have htp81 := tpM_of htp (o81.2.1 5 (by decide) (by decide) (by decide)) (o81.2.2 7 (by decide))
        have k81c := k81b hr
        refine r_aloadR0 dX12_readUnit_84 ?_
        refine m_getV (x := (g81 A 10)) zf_RX12_92 rfl dX12_readUnit_85 (shM_k hs) (rfl) ?_
        refine r_istore1 dX12_readUnit_88 rfl ?_
        refine r_iload1 dX12_readUnit_89 ?_
        refine n_bipush dX12_readUnit_90 (by decide) (fun r90 e90_z => ?_)
        refine t_iceq (t := 112) dX12_readUnit_92 (by decide) (fun h92 => False.elim (by omega)) (fun h92 => ?_)
        refine r_iload1 dX12_readUnit_95 ?_
        refine n_bipush dX12_readUnit_96 (by decide) (fun r96 e96 => ?_)
        refine t_iceq (t := 112) dX12_readUnit_98 (by decide) (fun h98 => False.elim (by omega)) (fun h98 => ?_)
        refine r_iload1 dX12_readUnit_101 ?_
        refine n_bipush dX12_readUnit_102 (by decide) (fun r102 e102_z => ?_)
        refine t_iceq (t := 112) dX12_readUnit_104 (by decide) (fun h104 => ?_) (fun h104 => False.elim (by omega))
        refine r_aloadR0 dX12_readUnit_112 ?_
        refine m_getV (x := (g81 A 12)) zf_RX12_112 rfl dX12_readUnit_113 (shM_k hs) (rfl) ?_
        refine t_ifne (t := 123) dX12_readUnit_116 (by decide) (fun h116 => False.elim (by omega)) (fun h116 => ?_)
        refine r_aloadR0 dX12_readUnit_119 ?_
        refine q_callV0 zm_RX12_131 dX12_readUnit_120 (shM_k hs) (by decide) rfl (Nat.le_of_ble_eq_true rfl) (Nat.le_of_ble_eq_true rfl) (Nat.le_of_ble_eq_true rfl) (Nat.le_of_ble_eq_true rfl) (Nat.le_of_ble_eq_true rfl) (s_X12_readsOn (p := teP B n (smP B n (if lm = 5 then 8 else 6) 3 p).2.1) G hs htp81 t81.2.1 hte81 (fun g120 o120 t120 => ?_))
        have htp120 := tpM_of htp81 (o120.2.1 5 (by decide) (by decide) (by decide)) (o120.2.2 7 (by decide))
        have hp120 : psM B n g120 A 0 (nxP B n (smP B n (if lm = 5 then 8 else 6) 3 p).2.1) := ⟨by rw [o120.2.2 12 (by decide)]; exact b81, fun _ => t120, fun h_z => absurd rfl h_z⟩
        have w120 : g120 (A + 2) = g81 (A + 2) := o120.2.1 2 (by decide) (by decide) (by decide)
        refine r_aloadR0 dX12_readUnit_123 ?_
        refine q_callV0 zm_RX12_181 dX12_readUnit_124 (shM_k hs) (by decide) rfl (Nat.le_of_ble_eq_true rfl) (Nat.le_of_ble_eq_true rfl) (Nat.le_of_ble_eq_true rfl) (Nat.le_of_ble_eq_true rfl) (Nat.le_of_ble_eq_true rfl) (s_X12_readSum_3 (lm := lm) (la := la) (u := u + (smP B n (if lm = 5 then 8 else 6) 3 p).2.2.length) G hs kw hld htp120 hp120 (by rw [o120.2.2 16 (by decide)]; exact d81) (by rw [o120.2.2 17 (by decide), o81.2.2 17 (by decide)]; exact hlm) (by rw [o120.2.2 18 (by decide), o81.2.2 18 (by decide)]; exact hla) (by rw [w120]; exact k81c.1) h5 h29 h99 (by omega) (fun g124 o124 d124 p124 k124 => ?_))
        have of124 : frM A [2] [8, 9, 10, 11, 12, 13, 16] f g124 := frM_tr o81 (frM_tr (frM_su o120 (by decide) (by decide)) o124)
        have p124b : psM B n g124 A (smP B n (if lm = 5 then 8 else 6) 3 (nxP B n (smP B n (if lm = 5 then 8 else 6) 3 p).2.1)).1 (smP B n (if lm = 5 then 8 else 6) 3 (nxP B n (smP B n (if lm = 5 then 8 else 6) 3 p).2.1)).2.1 := p124
        have k124b : (smP B n (if lm = 5 then 8 else 6) 3 (nxP B n (smP B n (if lm = 5 then 8 else 6) 3 p).2.1)).1 = 0 → okM g120 g124 A lm la (u + (smP B n (if lm = 5 then 8 else 6) 3 p).2.2.length) (smP B n (if lm = 5 then 8 else 6) 3 (nxP B n (smP B n (if lm = 5 then 8 else 6) 3 p).2.1)).2.2 := k124
        refine r_aloadR0 dX12_readUnit_127 ?_
        refine r_iload1 dX12_readUnit_128 ?_
        refine n_bipush dX12_readUnit_129 (by decide) (fun r129 e129 => ?_)
        refine t_icne (t := 139) dX12_readUnit_131 (by decide) (fun h131 => ?_) (fun h131 => False.elim (by omega))
        refine r_iload1 dX12_readUnit_139 ?_
        refine n_bipush dX12_readUnit_140 (by decide) (fun r140 e140 => ?_)
        refine t_icne (t := 150) dX12_readUnit_142 (by decide) (fun h142 => ?_) (fun h142 => False.elim (by omega))
        refine n_bipush dX12_readUnit_150 (by decide) (fun r150 e150 => ?_)
        refine q_callV1 zm_RX12_162 dX12_readUnit_152 (shM_k hs) (by decide) rfl (Nat.le_of_ble_eq_true rfl) (Nat.le_of_ble_eq_true rfl) (Nat.le_of_ble_eq_true rfl) (Nat.le_of_ble_eq_true rfl) (Nat.le_of_ble_eq_true rfl) (s_X12_laysStep (lm := lm) (la := la) (u := u + (smP B n (if lm = 5 then 8 else 6) 3 p).2.2.length + (smP B n (if lm = 5 then 8 else 6) 3 (nxP B n (smP B n (if lm = 5 then 8 else 6) 3 p).2.1)).2.2.length) G hs (by have := p124b.1; rw [hq] at this; exact this) (by rw [of124.2.2 17 (by decide)]; exact hlm) (by rw [of124.2.2 18 (by decide)]; exact hla) (k124b hq).1 h5 h29 (by omega) (fun g152 o152 a152 b152 c152 => ?_))
        have p124c := p124b
        rw [hq] at p124c
        refine r_vret dX12_readUnit_155 rfl (Nat.le_of_ble_eq_true rfl) (Nat.le_of_ble_eq_true rfl) ?_
        refine hQ _ (frM_tr of124 (frM_su o152 (by decide) (by decide))) (by rw [o152.2.2 16 (by decide)]; exact d124) (psM_of p124c (o152.2.2 8 (by decide)) (o152.2.2 9 (by decide)) (o152.2.2 10 (by decide)) (o152.2.2 11 (by decide)) (o152.2.2 12 (by decide)) (o152.2.2 13 (by decide))) (fun _ => okM_ap (by omega) (by rw [List.length_append]; omega) (okM_ap (by omega) (by omega) k81c (okM_cg (k124b hq) w120 rfl)) ?_)
        rw [List.length_append, ← Nat.add_assoc]
        exact okM_one (by omega) a152 b152 c152 (by rw [e150]; rfl)
      · have hv : cmP B n (smP B n (if lm = 5 then 8 else 6) 3) p = (smP B n (if lm = 5 then 8 else 6) 3 (nxP B n (smP B n (if lm = 5 then 8 else 6) 3 p).2.1)) := (if_neg (not_not_intro hr)).trans ((if_neg hop0).trans (if_pos hq))
        rw [hv] at hQ
        refine r_aloadR0 dX12_readUnit_0 ?_
        refine m_getV (x := (f A 12)) zf_RX12_112 rfl dX12_readUnit_1 (shM_k hs) (rfl) ?_
        refine t_ifeq (t := 8) dX12_readUnit_4 (by decide) (fun h4 => ?_) (fun h4 => False.elim (by omega))
        refine r_aloadR0 dX12_readUnit_8 ?_
        refine k_ldc (hld _ (List.mem_of_getElem? (i := 2) rfl)) dX12_readUnit_9 ?_
        refine q_callV1 zm_RX12_127 dX12_readUnit_11 (shM_k hs) (by decide) rfl (Nat.le_of_ble_eq_true rfl) (Nat.le_of_ble_eq_true rfl) (Nat.le_of_ble_eq_true rfl) (Nat.le_of_ble_eq_true rfl) (Nat.le_of_ble_eq_true rfl) (s_X12_isWord (i := 8) G hs kw (by decide) htp hps (fun r11 e11_z => ?_))
        have e11b : r11.toInt = 0 := e11_z.elim (fun h_z => absurd h_z.2 hw) (fun h_z => h_z.1)
        refine t_ifeq (t := 44) dX12_readUnit_14 (by decide) (fun h14 => ?_) (fun h14 => False.elim (by omega))
        refine r_aloadR0 dX12_readUnit_44 ?_
        refine n_bipush dX12_readUnit_45 (by decide) (fun r45 e45 => ?_)
        refine q_callV1 zm_RX12_175 dX12_readUnit_47 (shM_k hs) (by decide) rfl (Nat.le_of_ble_eq_true rfl) (Nat.le_of_ble_eq_true rfl) (Nat.le_of_ble_eq_true rfl) (Nat.le_of_ble_eq_true rfl) (Nat.le_of_ble_eq_true rfl) (s_X12_isSign G hs (fun r47 e47 => ?_))
        refine t_ifeq (t := 80) dX12_readUnit_50 (by decide) (fun h50 => ?_) (fun h50 => False.elim (by omega))
        refine r_aloadR0 dX12_readUnit_80 ?_
        refine q_callV0 zm_RX12_181 dX12_readUnit_81 (shM_k hs) (by decide) rfl (Nat.le_of_ble_eq_true rfl) (Nat.le_of_ble_eq_true rfl) (Nat.le_of_ble_eq_true rfl) (Nat.le_of_ble_eq_true rfl) (Nat.le_of_ble_eq_true rfl) (s_X12_readSum_3 (lm := lm) (la := la) (u := u) G hs kw hld htp hps hd16 hlm hla hu h5 h29 h99 hup (fun g81 o81 d81 p81 k81 => ?_))
        have p81b : psM B n g81 A (smP B n (if lm = 5 then 8 else 6) 3 p).1 (smP B n (if lm = 5 then 8 else 6) 3 p).2.1 := p81
        have k81b : (smP B n (if lm = 5 then 8 else 6) 3 p).1 = 0 → okM f g81 A lm la u (smP B n (if lm = 5 then 8 else 6) 3 p).2.2 := k81
        have p81d := p81c _ p81b
        have t81 := p81d.2.1 rfl
        have h81 := t81.2.2.2.1
        have b81 := p81d.1
        have hte81 := teP_le (B := B) t81.1
        have htp81 := tpM_of htp (o81.2.1 5 (by decide) (by decide) (by decide)) (o81.2.2 7 (by decide))
        have k81c := k81b hr
        refine r_aloadR0 dX12_readUnit_84 ?_
        refine m_getV (x := (g81 A 10)) zf_RX12_92 rfl dX12_readUnit_85 (shM_k hs) (rfl) ?_
        refine r_istore1 dX12_readUnit_88 rfl ?_
        refine r_iload1 dX12_readUnit_89 ?_
        refine n_bipush dX12_readUnit_90 (by decide) (fun r90 e90_z => ?_)
        refine t_iceq (t := 112) dX12_readUnit_92 (by decide) (fun h92 => False.elim (by omega)) (fun h92 => ?_)
        refine r_iload1 dX12_readUnit_95 ?_
        refine n_bipush dX12_readUnit_96 (by decide) (fun r96 e96 => ?_)
        refine t_iceq (t := 112) dX12_readUnit_98 (by decide) (fun h98 => False.elim (by omega)) (fun h98 => ?_)
        refine r_iload1 dX12_readUnit_101 ?_
        refine n_bipush dX12_readUnit_102 (by decide) (fun r102 e102_z => ?_)
        refine t_iceq (t := 112) dX12_readUnit_104 (by decide) (fun h104 => ?_) (fun h104 => False.elim (by omega))
        refine r_aloadR0 dX12_readUnit_112 ?_
        refine m_getV (x := (g81 A 12)) zf_RX12_112 rfl dX12_readUnit_113 (shM_k hs) (rfl) ?_
        refine t_ifne (t := 123) dX12_readUnit_116 (by decide) (fun h116 => False.elim (by omega)) (fun h116 => ?_)
        refine r_aloadR0 dX12_readUnit_119 ?_
        refine q_callV0 zm_RX12_131 dX12_readUnit_120 (shM_k hs) (by decide) rfl (Nat.le_of_ble_eq_true rfl) (Nat.le_of_ble_eq_true rfl) (Nat.le_of_ble_eq_true rfl) (Nat.le_of_ble_eq_true rfl) (Nat.le_of_ble_eq_true rfl) (s_X12_readsOn (p := teP B n (smP B n (if lm = 5 then 8 else 6) 3 p).2.1) G hs htp81 t81.2.1 hte81 (fun g120 o120 t120 => ?_))
        have htp120 := tpM_of htp81 (o120.2.1 5 (by decide) (by decide) (by decide)) (o120.2.2 7 (by decide))
        have hp120 : psM B n g120 A 0 (nxP B n (smP B n (if lm = 5 then 8 else 6) 3 p).2.1) := ⟨by rw [o120.2.2 12 (by decide)]; exact b81, fun _ => t120, fun h_z => absurd rfl h_z⟩
        have w120 : g120 (A + 2) = g81 (A + 2) := o120.2.1 2 (by decide) (by decide) (by decide)
        refine r_aloadR0 dX12_readUnit_123 ?_
        refine q_callV0 zm_RX12_181 dX12_readUnit_124 (shM_k hs) (by decide) rfl (Nat.le_of_ble_eq_true rfl) (Nat.le_of_ble_eq_true rfl) (Nat.le_of_ble_eq_true rfl) (Nat.le_of_ble_eq_true rfl) (Nat.le_of_ble_eq_true rfl) (s_X12_readSum_3 (lm := lm) (la := la) (u := u + (smP B n (if lm = 5 then 8 else 6) 3 p).2.2.length) G hs kw hld htp120 hp120 (by rw [o120.2.2 16 (by decide)]; exact d81) (by rw [o120.2.2 17 (by decide), o81.2.2 17 (by decide)]; exact hlm) (by rw [o120.2.2 18 (by decide), o81.2.2 18 (by decide)]; exact hla) (by rw [w120]; exact k81c.1) h5 h29 h99 (by omega) (fun g124 o124 d124 p124 k124 => ?_))
        have of124 : frM A [2] [8, 9, 10, 11, 12, 13, 16] f g124 := frM_tr o81 (frM_tr (frM_su o120 (by decide) (by decide)) o124)
        have p124b : psM B n g124 A (smP B n (if lm = 5 then 8 else 6) 3 (nxP B n (smP B n (if lm = 5 then 8 else 6) 3 p).2.1)).1 (smP B n (if lm = 5 then 8 else 6) 3 (nxP B n (smP B n (if lm = 5 then 8 else 6) 3 p).2.1)).2.1 := p124
        have k124b : (smP B n (if lm = 5 then 8 else 6) 3 (nxP B n (smP B n (if lm = 5 then 8 else 6) 3 p).2.1)).1 = 0 → okM g120 g124 A lm la (u + (smP B n (if lm = 5 then 8 else 6) 3 p).2.2.length) (smP B n (if lm = 5 then 8 else 6) 3 (nxP B n (smP B n (if lm = 5 then 8 else 6) 3 p).2.1)).2.2 := k124
        refine r_aloadR0 dX12_readUnit_127 ?_
        refine r_iload1 dX12_readUnit_128 ?_
        refine n_bipush dX12_readUnit_129 (by decide) (fun r129 e129 => ?_)
        refine t_icne (t := 139) dX12_readUnit_131 (by decide) (fun h131 => ?_) (fun h131 => False.elim (by omega))
        refine r_iload1 dX12_readUnit_139 ?_
        refine n_bipush dX12_readUnit_140 (by decide) (fun r140 e140 => ?_)
        refine t_icne (t := 150) dX12_readUnit_142 (by decide) (fun h142 => ?_) (fun h142 => False.elim (by omega))
        refine n_bipush dX12_readUnit_150 (by decide) (fun r150 e150 => ?_)
        refine q_callV1 zm_RX12_162 dX12_readUnit_152 (shM_k hs) (by decide) rfl (Nat.le_of_ble_eq_true rfl) (Nat.le_of_ble_eq_true rfl) (Nat.le_of_ble_eq_true rfl) (Nat.le_of_ble_eq_true rfl) (Nat.le_of_ble_eq_true rfl) (s_X12_laysStep_x G hs (by rw [p124b.1]; omega) ?_)
        refine r_vret dX12_readUnit_155 rfl (Nat.le_of_ble_eq_true rfl) (Nat.le_of_ble_eq_true rfl) ?_
        exact hQ _ of124 d124 p124b (fun h_z => absurd h_z hq)
    have hn62 := hc_z
    have hm62 : rkP B n (smP B n (if lm = 5 then 8 else 6) 3 p).2.1 ≠ 62 := fun h_z => hc_z (q62.mp h_z)
    clear hc_z
    have hop : opC B n (smP B n (if lm = 5 then 8 else 6) 3 p).2.1 = 0 := (if_neg hn61).trans ((if_neg hn60).trans (if_neg hn62))
    have hv : cmP B n (smP B n (if lm = 5 then 8 else 6) 3) p = (baP B n (smP B n (if lm = 5 then 8 else 6) 3 p).2.1, (smP B n (if lm = 5 then 8 else 6) 3 p).2.1, []) := (if_neg (not_not_intro hr)).trans (if_pos hop)
    rw [hv] at hQ
    refine r_aloadR0 dX12_readUnit_0 ?_
    refine m_getV (x := (f A 12)) zf_RX12_112 rfl dX12_readUnit_1 (shM_k hs) (rfl) ?_
    refine t_ifeq (t := 8) dX12_readUnit_4 (by decide) (fun h4 => ?_) (fun h4 => False.elim (by omega))
    refine r_aloadR0 dX12_readUnit_8 ?_
    refine k_ldc (hld _ (List.mem_of_getElem? (i := 2) rfl)) dX12_readUnit_9 ?_
    refine q_callV1 zm_RX12_127 dX12_readUnit_11 (shM_k hs) (by decide) rfl (Nat.le_of_ble_eq_true rfl) (Nat.le_of_ble_eq_true rfl) (Nat.le_of_ble_eq_true rfl) (Nat.le_of_ble_eq_true rfl) (Nat.le_of_ble_eq_true rfl) (s_X12_isWord (i := 8) G hs kw (by decide) htp hps (fun r11 e11_z => ?_))
    have e11b : r11.toInt = 0 := e11_z.elim (fun h_z => absurd h_z.2 hw) (fun h_z => h_z.1)
    refine t_ifeq (t := 44) dX12_readUnit_14 (by decide) (fun h14 => ?_) (fun h14 => False.elim (by omega))
    refine r_aloadR0 dX12_readUnit_44 ?_
    refine n_bipush dX12_readUnit_45 (by decide) (fun r45 e45 => ?_)
    refine q_callV1 zm_RX12_175 dX12_readUnit_47 (shM_k hs) (by decide) rfl (Nat.le_of_ble_eq_true rfl) (Nat.le_of_ble_eq_true rfl) (Nat.le_of_ble_eq_true rfl) (Nat.le_of_ble_eq_true rfl) (Nat.le_of_ble_eq_true rfl) (s_X12_isSign G hs (fun r47 e47 => ?_))
    refine t_ifeq (t := 80) dX12_readUnit_50 (by decide) (fun h50 => ?_) (fun h50 => False.elim (by omega))
    refine r_aloadR0 dX12_readUnit_80 ?_
    refine q_callV0 zm_RX12_181 dX12_readUnit_81 (shM_k hs) (by decide) rfl (Nat.le_of_ble_eq_true rfl) (Nat.le_of_ble_eq_true rfl) (Nat.le_of_ble_eq_true rfl) (Nat.le_of_ble_eq_true rfl) (Nat.le_of_ble_eq_true rfl) (s_X12_readSum_3 (lm := lm) (la := la) (u := u) G hs kw hld htp hps hd16 hlm hla hu h5 h29 h99 hup (fun g81 o81 d81 p81 k81 => ?_))
    have p81b : psM B n g81 A (smP B n (if lm = 5 then 8 else 6) 3 p).1 (smP B n (if lm = 5 then 8 else 6) 3 p).2.1 := p81
    have k81b : (smP B n (if lm = 5 then 8 else 6) 3 p).1 = 0 → okM f g81 A lm la u (smP B n (if lm = 5 then 8 else 6) 3 p).2.2 := k81
    have p81d := p81c _ p81b
    have t81 := p81d.2.1 rfl
    have h81 := t81.2.2.2.1
    have b81 := p81d.1
    have hte81 := teP_le (B := B) t81.1
    have htp81 := tpM_of htp (o81.2.1 5 (by decide) (by decide) (by decide)) (o81.2.2 7 (by decide))
    have k81c := k81b hr
    refine r_aloadR0 dX12_readUnit_84 ?_
    refine m_getV (x := (g81 A 10)) zf_RX12_92 rfl dX12_readUnit_85 (shM_k hs) (rfl) ?_
    refine r_istore1 dX12_readUnit_88 rfl ?_
    refine r_iload1 dX12_readUnit_89 ?_
    refine n_bipush dX12_readUnit_90 (by decide) (fun r90 e90_z => ?_)
    refine t_iceq (t := 112) dX12_readUnit_92 (by decide) (fun h92 => False.elim (by omega)) (fun h92 => ?_)
    refine r_iload1 dX12_readUnit_95 ?_
    refine n_bipush dX12_readUnit_96 (by decide) (fun r96 e96 => ?_)
    refine t_iceq (t := 112) dX12_readUnit_98 (by decide) (fun h98 => False.elim (by omega)) (fun h98 => ?_)
    refine r_iload1 dX12_readUnit_101 ?_
    refine n_bipush dX12_readUnit_102 (by decide) (fun r102 e102_z => ?_)
    refine t_iceq (t := 112) dX12_readUnit_104 (by decide) (fun h104 => False.elim (by omega)) (fun h104 => ?_)
    refine r_aloadR0 dX12_readUnit_107 ?_
    refine n_iconst dX12_readUnit_108 (by decide) (fun r108 e108 => ?_)
    refine q_callV1 zm_RX12_134 dX12_readUnit_109 (shM_k hs) (by decide) rfl (Nat.le_of_ble_eq_true rfl) (Nat.le_of_ble_eq_true rfl) (Nat.le_of_ble_eq_true rfl) (Nat.le_of_ble_eq_true rfl) (Nat.le_of_ble_eq_true rfl) (s_X12_blames (k := 2) G hs b81 t81 e108 (fun g109 o109 a109 b109 => ?_))
    have hpb := ps_ba a109 b109
    have hba := ba_bd (B := B) (n := n) (s := (smP B n (if lm = 5 then 8 else 6) 3 p).2.1)
    have nb : (g109 A 12).toInt ≠ 0 := by rw [hpb.1]; omega
    refine r_aloadR0 dX12_readUnit_112 ?_
    refine m_getV (x := (g109 A 12)) zf_RX12_112 rfl dX12_readUnit_113 (shM_k hs) (rfl) ?_
    refine t_ifne (t := 123) dX12_readUnit_116 (by decide) (fun h116 => ?_) (fun h116 => False.elim (by omega))
    refine r_aloadR0 dX12_readUnit_123 ?_
    refine q_callV0 zm_RX12_181 dX12_readUnit_124 (shM_k hs) (by decide) rfl (Nat.le_of_ble_eq_true rfl) (Nat.le_of_ble_eq_true rfl) (Nat.le_of_ble_eq_true rfl) (Nat.le_of_ble_eq_true rfl) (Nat.le_of_ble_eq_true rfl) (s_X12_readSum_x G hs nb ?_)
    refine r_aloadR0 dX12_readUnit_127 ?_
    refine r_iload1 dX12_readUnit_128 ?_
    refine n_bipush dX12_readUnit_129 (by decide) (fun r129 e129 => ?_)
    refine t_icne (t := 139) dX12_readUnit_131 (by decide) (fun h131 => ?_) (fun h131 => False.elim (by omega))
    refine r_iload1 dX12_readUnit_139 ?_
    refine n_bipush dX12_readUnit_140 (by decide) (fun r140 e140 => ?_)
    refine t_icne (t := 150) dX12_readUnit_142 (by decide) (fun h142 => ?_) (fun h142 => False.elim (by omega))
    refine n_bipush dX12_readUnit_150 (by decide) (fun r150 e150 => ?_)
    refine q_callV1 zm_RX12_162 dX12_readUnit_152 (shM_k hs) (by decide) rfl (Nat.le_of_ble_eq_true rfl) (Nat.le_of_ble_eq_true rfl) (Nat.le_of_ble_eq_true rfl) (Nat.le_of_ble_eq_true rfl) (Nat.le_of_ble_eq_true rfl) (s_X12_laysStep_x G hs nb ?_)
    refine r_vret dX12_readUnit_155 rfl (Nat.le_of_ble_eq_true rfl) (Nat.le_of_ble_eq_true rfl) ?_
    exact hQ _ (frM_tr o81 (frM_su o109 (by decide) (by decide))) (by rw [o109.2.2 16 (by decide)]; exact d81) hpb (fun h_z => absurd h_z hba.1)
  · have hv : cmP B n (smP B n (if lm = 5 then 8 else 6) 3) p = (smP B n (if lm = 5 then 8 else 6) 3 p) := if_pos hr
    rw [hv] at hQ
    refine r_aloadR0 dX12_readUnit_0 ?_
    refine m_getV (x := (f A 12)) zf_RX12_112 rfl dX12_readUnit_1 (shM_k hs) (rfl) ?_
    refine t_ifeq (t := 8) dX12_readUnit_4 (by decide) (fun h4 => ?_) (fun h4 => False.elim (by omega))
    refine r_aloadR0 dX12_readUnit_8 ?_
    refine k_ldc (hld _ (List.mem_of_getElem? (i := 2) rfl)) dX12_readUnit_9 ?_
    refine q_callV1 zm_RX12_127 dX12_readUnit_11 (shM_k hs) (by decide) rfl (Nat.le_of_ble_eq_true rfl) (Nat.le_of_ble_eq_true rfl) (Nat.le_of_ble_eq_true rfl) (Nat.le_of_ble_eq_true rfl) (Nat.le_of_ble_eq_true rfl) (s_X12_isWord (i := 8) G hs kw (by decide) htp hps (fun r11 e11_z => ?_))
    have e11b : r11.toInt = 0 := e11_z.elim (fun h_z => absurd h_z.2 hw) (fun h_z => h_z.1)
    refine t_ifeq (t := 44) dX12_readUnit_14 (by decide) (fun h14 => ?_) (fun h14 => False.elim (by omega))
    refine r_aloadR0 dX12_readUnit_44 ?_
    refine n_bipush dX12_readUnit_45 (by decide) (fun r45 e45 => ?_)
    refine q_callV1 zm_RX12_175 dX12_readUnit_47 (shM_k hs) (by decide) rfl (Nat.le_of_ble_eq_true rfl) (Nat.le_of_ble_eq_true rfl) (Nat.le_of_ble_eq_true rfl) (Nat.le_of_ble_eq_true rfl) (Nat.le_of_ble_eq_true rfl) (s_X12_isSign G hs (fun r47 e47 => ?_))
    refine t_ifeq (t := 80) dX12_readUnit_50 (by decide) (fun h50 => ?_) (fun h50 => False.elim (by omega))
    refine r_aloadR0 dX12_readUnit_80 ?_
    refine q_callV0 zm_RX12_181 dX12_readUnit_81 (shM_k hs) (by decide) rfl (Nat.le_of_ble_eq_true rfl) (Nat.le_of_ble_eq_true rfl) (Nat.le_of_ble_eq_true rfl) (Nat.le_of_ble_eq_true rfl) (Nat.le_of_ble_eq_true rfl) (s_X12_readSum_3 (lm := lm) (la := la) (u := u) G hs kw hld htp hps hd16 hlm hla hu h5 h29 h99 hup (fun g81 o81 d81 p81 k81 => ?_))
    have p81b : psM B n g81 A (smP B n (if lm = 5 then 8 else 6) 3 p).1 (smP B n (if lm = 5 then 8 else 6) 3 p).2.1 := p81
    have k81b : (smP B n (if lm = 5 then 8 else 6) 3 p).1 = 0 → okM f g81 A lm la u (smP B n (if lm = 5 then 8 else 6) 3 p).2.2 := k81
    have nb : (g81 A 12).toInt ≠ 0 := by rw [p81b.1]; omega
    refine r_aloadR0 dX12_readUnit_84 ?_
    refine m_getV (x := (g81 A 10)) zf_RX12_92 rfl dX12_readUnit_85 (shM_k hs) (rfl) ?_
    refine r_istore1 dX12_readUnit_88 rfl ?_
    refine r_iload1 dX12_readUnit_89 ?_
    refine n_bipush dX12_readUnit_90 (by decide) (fun r90 e90_z => ?_)
    refine t_iceq (t := 112) dX12_readUnit_92 (by decide) (fun h92 => ?_) (fun h92 => ?_)
    · refine r_aloadR0 dX12_readUnit_112 ?_
      refine m_getV (x := (g81 A 12)) zf_RX12_112 rfl dX12_readUnit_113 (shM_k hs) (rfl) ?_
      refine t_ifne (t := 123) dX12_readUnit_116 (by decide) (fun h116 => ?_) (fun h116 => False.elim (by omega))
      refine r_aloadR0 dX12_readUnit_123 ?_
      refine q_callV0 zm_RX12_181 dX12_readUnit_124 (shM_k hs) (by decide) rfl (Nat.le_of_ble_eq_true rfl) (Nat.le_of_ble_eq_true rfl) (Nat.le_of_ble_eq_true rfl) (Nat.le_of_ble_eq_true rfl) (Nat.le_of_ble_eq_true rfl) (s_X12_readSum_x G hs nb ?_)
      refine r_aloadR0 dX12_readUnit_127 ?_
      refine r_iload1 dX12_readUnit_128 ?_
      refine n_bipush dX12_readUnit_129 (by decide) (fun r129 e129 => ?_)
      refine t_icne (t := 139) dX12_readUnit_131 (by decide) (fun h131 => ?_) (fun h131 => ?_)
      · refine r_iload1 dX12_readUnit_139 ?_
        refine n_bipush dX12_readUnit_140 (by decide) (fun r140 e140 => ?_)
        refine t_icne (t := 150) dX12_readUnit_142 (by decide) (fun h142 => ?_) (fun h142 => ?_)
        · refine n_bipush dX12_readUnit_150 (by decide) (fun r150 e150 => ?_)
          refine q_callV1 zm_RX12_162 dX12_readUnit_152 (shM_k hs) (by decide) rfl (Nat.le_of_ble_eq_true rfl) (Nat.le_of_ble_eq_true rfl) (Nat.le_of_ble_eq_true rfl) (Nat.le_of_ble_eq_true rfl) (Nat.le_of_ble_eq_true rfl) (s_X12_laysStep_x G hs nb ?_)
          refine r_vret dX12_readUnit_155 rfl (Nat.le_of_ble_eq_true rfl) (Nat.le_of_ble_eq_true rfl) ?_
          exact hQ _ o81 d81 p81b (fun h_z => absurd h_z hr)
        · refine n_bipush dX12_readUnit_145 (by decide) (fun r145 e145 => ?_)
          refine r_goto (t := 152) dX12_readUnit_147 (by decide) ?_
          refine q_callV1 zm_RX12_162 dX12_readUnit_152 (shM_k hs) (by decide) rfl (Nat.le_of_ble_eq_true rfl) (Nat.le_of_ble_eq_true rfl) (Nat.le_of_ble_eq_true rfl) (Nat.le_of_ble_eq_true rfl) (Nat.le_of_ble_eq_true rfl) (s_X12_laysStep_x G hs nb ?_)
          refine r_vret dX12_readUnit_155 rfl (Nat.le_of_ble_eq_true rfl) (Nat.le_of_ble_eq_true rfl) ?_
          exact hQ _ o81 d81 p81b (fun h_z => absurd h_z hr)
      · refine n_bipush dX12_readUnit_134 (by decide) (fun r134 e134 => ?_)
        refine r_goto (t := 152) dX12_readUnit_136 (by decide) ?_
        refine q_callV1 zm_RX12_162 dX12_readUnit_152 (shM_k hs) (by decide) rfl (Nat.le_of_ble_eq_true rfl) (Nat.le_of_ble_eq_true rfl) (Nat.le_of_ble_eq_true rfl) (Nat.le_of_ble_eq_true rfl) (Nat.le_of_ble_eq_true rfl) (s_X12_laysStep_x G hs nb ?_)
        refine r_vret dX12_readUnit_155 rfl (Nat.le_of_ble_eq_true rfl) (Nat.le_of_ble_eq_true rfl) ?_
        exact hQ _ o81 d81 p81b (fun h_z => absurd h_z hr)
    · refine r_iload1 dX12_readUnit_95 ?_
      refine n_bipush dX12_readUnit_96 (by decide) (fun r96 e96 => ?_)
      refine t_iceq (t := 112) dX12_readUnit_98 (by decide) (fun h98 => ?_) (fun h98 => ?_)
      · refine r_aloadR0 dX12_readUnit_112 ?_
        refine m_getV (x := (g81 A 12)) zf_RX12_112 rfl dX12_readUnit_113 (shM_k hs) (rfl) ?_
        refine t_ifne (t := 123) dX12_readUnit_116 (by decide) (fun h116 => ?_) (fun h116 => False.elim (by omega))
        refine r_aloadR0 dX12_readUnit_123 ?_
        refine q_callV0 zm_RX12_181 dX12_readUnit_124 (shM_k hs) (by decide) rfl (Nat.le_of_ble_eq_true rfl) (Nat.le_of_ble_eq_true rfl) (Nat.le_of_ble_eq_true rfl) (Nat.le_of_ble_eq_true rfl) (Nat.le_of_ble_eq_true rfl) (s_X12_readSum_x G hs nb ?_)
        refine r_aloadR0 dX12_readUnit_127 ?_
        refine r_iload1 dX12_readUnit_128 ?_
        refine n_bipush dX12_readUnit_129 (by decide) (fun r129 e129 => ?_)
        refine t_icne (t := 139) dX12_readUnit_131 (by decide) (fun h131 => ?_) (fun h131 => ?_)
        · refine r_iload1 dX12_readUnit_139 ?_
          refine n_bipush dX12_readUnit_140 (by decide) (fun r140 e140 => ?_)
          refine t_icne (t := 150) dX12_readUnit_142 (by decide) (fun h142 => ?_) (fun h142 => ?_)
          · refine n_bipush dX12_readUnit_150 (by decide) (fun r150 e150 => ?_)
            refine q_callV1 zm_RX12_162 dX12_readUnit_152 (shM_k hs) (by decide) rfl (Nat.le_of_ble_eq_true rfl) (Nat.le_of_ble_eq_true rfl) (Nat.le_of_ble_eq_true rfl) (Nat.le_of_ble_eq_true rfl) (Nat.le_of_ble_eq_true rfl) (s_X12_laysStep_x G hs nb ?_)
            refine r_vret dX12_readUnit_155 rfl (Nat.le_of_ble_eq_true rfl) (Nat.le_of_ble_eq_true rfl) ?_
            exact hQ _ o81 d81 p81b (fun h_z => absurd h_z hr)
          · refine n_bipush dX12_readUnit_145 (by decide) (fun r145 e145 => ?_)
            refine r_goto (t := 152) dX12_readUnit_147 (by decide) ?_
            refine q_callV1 zm_RX12_162 dX12_readUnit_152 (shM_k hs) (by decide) rfl (Nat.le_of_ble_eq_true rfl) (Nat.le_of_ble_eq_true rfl) (Nat.le_of_ble_eq_true rfl) (Nat.le_of_ble_eq_true rfl) (Nat.le_of_ble_eq_true rfl) (s_X12_laysStep_x G hs nb ?_)
            refine r_vret dX12_readUnit_155 rfl (Nat.le_of_ble_eq_true rfl) (Nat.le_of_ble_eq_true rfl) ?_
            exact hQ _ o81 d81 p81b (fun h_z => absurd h_z hr)
        · refine n_bipush dX12_readUnit_134 (by decide) (fun r134 e134 => ?_)
          refine r_goto (t := 152) dX12_readUnit_136 (by decide) ?_
          refine q_callV1 zm_RX12_162 dX12_readUnit_152 (shM_k hs) (by decide) rfl (Nat.le_of_ble_eq_true rfl) (Nat.le_of_ble_eq_true rfl) (Nat.le_of_ble_eq_true rfl) (Nat.le_of_ble_eq_true rfl) (Nat.le_of_ble_eq_true rfl) (s_X12_laysStep_x G hs nb ?_)
          refine r_vret dX12_readUnit_155 rfl (Nat.le_of_ble_eq_true rfl) (Nat.le_of_ble_eq_true rfl) ?_
          exact hQ _ o81 d81 p81b (fun h_z => absurd h_z hr)
      · refine r_iload1 dX12_readUnit_101 ?_
        refine n_bipush dX12_readUnit_102 (by decide) (fun r102 e102_z => ?_)
        refine t_iceq (t := 112) dX12_readUnit_104 (by decide) (fun h104 => ?_) (fun h104 => ?_)
        · refine r_aloadR0 dX12_readUnit_112 ?_
          refine m_getV (x := (g81 A 12)) zf_RX12_112 rfl dX12_readUnit_113 (shM_k hs) (rfl) ?_
          refine t_ifne (t := 123) dX12_readUnit_116 (by decide) (fun h116 => ?_) (fun h116 => False.elim (by omega))
          refine r_aloadR0 dX12_readUnit_123 ?_
          refine q_callV0 zm_RX12_181 dX12_readUnit_124 (shM_k hs) (by decide) rfl (Nat.le_of_ble_eq_true rfl) (Nat.le_of_ble_eq_true rfl) (Nat.le_of_ble_eq_true rfl) (Nat.le_of_ble_eq_true rfl) (Nat.le_of_ble_eq_true rfl) (s_X12_readSum_x G hs nb ?_)
          refine r_aloadR0 dX12_readUnit_127 ?_
          refine r_iload1 dX12_readUnit_128 ?_
          refine n_bipush dX12_readUnit_129 (by decide) (fun r129 e129 => ?_)
          refine t_icne (t := 139) dX12_readUnit_131 (by decide) (fun h131 => ?_) (fun h131 => ?_)
          · refine r_iload1 dX12_readUnit_139 ?_
            refine n_bipush dX12_readUnit_140 (by decide) (fun r140 e140 => ?_)
            refine t_icne (t := 150) dX12_readUnit_142 (by decide) (fun h142 => ?_) (fun h142 => ?_)
            · refine n_bipush dX12_readUnit_150 (by decide) (fun r150 e150 => ?_)
              refine q_callV1 zm_RX12_162 dX12_readUnit_152 (shM_k hs) (by decide) rfl (Nat.le_of_ble_eq_true rfl) (Nat.le_of_ble_eq_true rfl) (Nat.le_of_ble_eq_true rfl) (Nat.le_of_ble_eq_true rfl) (Nat.le_of_ble_eq_true rfl) (s_X12_laysStep_x G hs nb ?_)
              refine r_vret dX12_readUnit_155 rfl (Nat.le_of_ble_eq_true rfl) (Nat.le_of_ble_eq_true rfl) ?_
              exact hQ _ o81 d81 p81b (fun h_z => absurd h_z hr)
            · refine n_bipush dX12_readUnit_145 (by decide) (fun r145 e145 => ?_)
              refine r_goto (t := 152) dX12_readUnit_147 (by decide) ?_
              refine q_callV1 zm_RX12_162 dX12_readUnit_152 (shM_k hs) (by decide) rfl (Nat.le_of_ble_eq_true rfl) (Nat.le_of_ble_eq_true rfl) (Nat.le_of_ble_eq_true rfl) (Nat.le_of_ble_eq_true rfl) (Nat.le_of_ble_eq_true rfl) (s_X12_laysStep_x G hs nb ?_)
              refine r_vret dX12_readUnit_155 rfl (Nat.le_of_ble_eq_true rfl) (Nat.le_of_ble_eq_true rfl) ?_
              exact hQ _ o81 d81 p81b (fun h_z => absurd h_z hr)
          · refine n_bipush dX12_readUnit_134 (by decide) (fun r134 e134 => ?_)
            refine r_goto (t := 152) dX12_readUnit_136 (by decide) ?_
            refine q_callV1 zm_RX12_162 dX12_readUnit_152 (shM_k hs) (by decide) rfl (Nat.le_of_ble_eq_true rfl) (Nat.le_of_ble_eq_true rfl) (Nat.le_of_ble_eq_true rfl) (Nat.le_of_ble_eq_true rfl) (Nat.le_of_ble_eq_true rfl) (s_X12_laysStep_x G hs nb ?_)
            refine r_vret dX12_readUnit_155 rfl (Nat.le_of_ble_eq_true rfl) (Nat.le_of_ble_eq_true rfl) ?_
            exact hQ _ o81 d81 p81b (fun h_z => absurd h_z hr)
        · refine r_aloadR0 dX12_readUnit_107 ?_
          refine n_iconst dX12_readUnit_108 (by decide) (fun r108 e108 => ?_)
          refine q_callV1 zm_RX12_134 dX12_readUnit_109 (shM_k hs) (by decide) rfl (Nat.le_of_ble_eq_true rfl) (Nat.le_of_ble_eq_true rfl) (Nat.le_of_ble_eq_true rfl) (Nat.le_of_ble_eq_true rfl) (Nat.le_of_ble_eq_true rfl) (s_X12_blames_x G hs nb ?_)
          refine r_aloadR0 dX12_readUnit_112 ?_
          refine m_getV (x := (g81 A 12)) zf_RX12_112 rfl dX12_readUnit_113 (shM_k hs) (rfl) ?_
          refine t_ifne (t := 123) dX12_readUnit_116 (by decide) (fun h116 => ?_) (fun h116 => False.elim (by omega))
          refine r_aloadR0 dX12_readUnit_123 ?_
          refine q_callV0 zm_RX12_181 dX12_readUnit_124 (shM_k hs) (by decide) rfl (Nat.le_of_ble_eq_true rfl) (Nat.le_of_ble_eq_true rfl) (Nat.le_of_ble_eq_true rfl) (Nat.le_of_ble_eq_true rfl) (Nat.le_of_ble_eq_true rfl) (s_X12_readSum_x G hs nb ?_)
          refine r_aloadR0 dX12_readUnit_127 ?_
          refine r_iload1 dX12_readUnit_128 ?_
          refine n_bipush dX12_readUnit_129 (by decide) (fun r129 e129 => ?_)
          refine t_icne (t := 139) dX12_readUnit_131 (by decide) (fun h131 => ?_) (fun h131 => ?_)
          · refine r_iload1 dX12_readUnit_139 ?_
            refine n_bipush dX12_readUnit_140 (by decide) (fun r140 e140 => ?_)
            refine t_icne (t := 150) dX12_readUnit_142 (by decide) (fun h142 => ?_) (fun h142 => ?_)
            · refine n_bipush dX12_readUnit_150 (by decide) (fun r150 e150 => ?_)
              refine q_callV1 zm_RX12_162 dX12_readUnit_152 (shM_k hs) (by decide) rfl (Nat.le_of_ble_eq_true rfl) (Nat.le_of_ble_eq_true rfl) (Nat.le_of_ble_eq_true rfl) (Nat.le_of_ble_eq_true rfl) (Nat.le_of_ble_eq_true rfl) (s_X12_laysStep_x G hs nb ?_)
              refine r_vret dX12_readUnit_155 rfl (Nat.le_of_ble_eq_true rfl) (Nat.le_of_ble_eq_true rfl) ?_
              exact hQ _ o81 d81 p81b (fun h_z => absurd h_z hr)
            · refine n_bipush dX12_readUnit_145 (by decide) (fun r145 e145 => ?_)
              refine r_goto (t := 152) dX12_readUnit_147 (by decide) ?_
              refine q_callV1 zm_RX12_162 dX12_readUnit_152 (shM_k hs) (by decide) rfl (Nat.le_of_ble_eq_true rfl) (Nat.le_of_ble_eq_true rfl) (Nat.le_of_ble_eq_true rfl) (Nat.le_of_ble_eq_true rfl) (Nat.le_of_ble_eq_true rfl) (s_X12_laysStep_x G hs nb ?_)
              refine r_vret dX12_readUnit_155 rfl (Nat.le_of_ble_eq_true rfl) (Nat.le_of_ble_eq_true rfl) ?_
              exact hQ _ o81 d81 p81b (fun h_z => absurd h_z hr)
          · refine n_bipush dX12_readUnit_134 (by decide) (fun r134 e134 => ?_)
            refine r_goto (t := 152) dX12_readUnit_136 (by decide) ?_
            refine q_callV1 zm_RX12_162 dX12_readUnit_152 (shM_k hs) (by decide) rfl (Nat.le_of_ble_eq_true rfl) (Nat.le_of_ble_eq_true rfl) (Nat.le_of_ble_eq_true rfl) (Nat.le_of_ble_eq_true rfl) (Nat.le_of_ble_eq_true rfl) (s_X12_laysStep_x G hs nb ?_)
            refine r_vret dX12_readUnit_155 rfl (Nat.le_of_ble_eq_true rfl) (Nat.le_of_ble_eq_true rfl) ?_
            exact hQ _ o81 d81 p81b (fun h_z => absurd h_z hr)
set_option maxHeartbeats 4000000 in
set_option maxRecDepth 100000 in
theorem s_X12_readBoth_3 {g : zGT} {w : zW} {f : Nat → Nat → Int32} {j : Nat → Nat → Int64} {A : Nat} {B : Nat → Nat} {n : Nat} {wa wv : Nat → Nat} {kq : Nat} {p lm la u : Nat} {Q : Option Value → zW → Prop} {QX : String → zW → Prop} (G : zGok g) (hs : shM w A) (kw : kWd g wa wv kq) (hld : kLd g wa) (htp : tpM B n f A) (hps : psM B n f A 0 p) (hd16 : (f A 16).toInt = 3) (hlm : (f A 17).toInt = (lm : Nat)) (hla : (f A 18).toInt = (la : Nat)) (hu : (f (A + 2) lm).toInt = (u : Nat)) (h5 : lm ≤ 5) (h29 : 209 ≤ la) (h99 : la ≤ 2009) (hup : u ≤ p) (hQ : ∀ f2_z, frM A [2] [8, 9, 10, 11, 12, 13, 16] f f2_z → (f2_z A 16).toInt = 3 → psM B n f2_z A (chP B n (unP B n (if lm = 5 then 8 else 6) 3) (opA B n) p).1 (chP B n (unP B n (if lm = 5 then 8 else 6) 3) (opA B n) p).2.1 → ((chP B n (unP B n (if lm = 5 then 8 else 6) 3) (opA B n) p).1 = 0 → okM f f2_z A lm la u (chP B n (unP B n (if lm = 5 then 8 else 6) 3) (opA B n) p).2.2) → Q none (zM w f2_z j)) : zC g 53 yX12_readBoth cX12_readBoth 1 none [.ref A] (zM w f j) (0, 0) Q QX := by
  refine zC_of G (by decide +kernel) (Nat.le_of_ble_eq_true rfl) ?_
  have ht := hps.2.1 rfl
  have h12 := hps.1
  have h900 := htp.2.1
  have hgd : ∀ s, s ≤ n → gdP n true (if lm = 5 then 8 else 6) (4 + 2 * 3) s ((unP B n (if lm = 5 then 8 else 6) 3) s) := gd_un (by split <;> decide) 3
  have lp : ∀ (mz : Nat) (f2_z : Nat → Nat → Int32) (k : Nat) (r : zPR), frM A [2] [8, 9, 10, 11, 12, 13, 16] f f2_z → (f2_z A 16).toInt = 3 → psM B n f2_z A r.1 r.2.1 → (r.1 = 0 → okM f f2_z A lm la u r.2.2) → (r.1 = 0 → p ≤ r.2.1 ∧ r.2.1 ≤ n ∧ r.2.2.length + p ≤ r.2.1) → (r.1 = 0 → n ≤ k + r.2.1) → lpP B n (unP B n (if lm = 5 then 8 else 6) 3) (opA B n) k r = chP B n (unP B n (if lm = 5 then 8 else 6) 3) (opA B n) p → k < mz → zR (zV g 53 yX12_readBoth 1 none (0, 0) Q QX) cX12_readBoth yX12_readBoth.cls 4 [some (.ref A)] [] (zM w f2_z j) (0, 0) := by
    intro mz
    induction mz with
    | zero =>
      intro f2_z k r ofr hd2 hp2 hk2 hg2 hnk hR hmz
      exact absurd hmz (Nat.not_lt_zero _)
    | succ mz ih =>
      intro f2_z k r ofr hd2 hp2 hk2 hg2 hnk hR hmz
      by_cases hr : r.1 = 0
      · have hk3 := hk2 hr
        obtain ⟨q1_z, q2_z, q3_z⟩ := hg2 hr
        have hnk3 := hnk hr
        have hps2 := hp2
        rw [hr] at hps2
        have hb2 := hps2.1
        have htp2 := tpM_of htp (ofr.2.1 5 (by decide) (by decide) (by decide)) (ofr.2.2 7 (by decide))
        by_cases hc_z : isWd B n r.2.1 7 = true
        · have hop : (opA B n) r.2.1 = 2001 := if_pos hc_z
          have hop0 : (opA B n) r.2.1 ≠ 0 := by rw [hop]; decide
          have hln := tk_lt (B := B) (n := n) (s := r.2.1) (by rw [(isWd_tk hc_z).1]; decide)
          obtain ⟨k2_z, rfl⟩ : ∃ k2_z, k = k2_z + 1 := ⟨k - 1, by omega⟩
          have hnx := nxP_gt (B := B) hln
          have gq := hgd _ hnx.2
          by_cases hq : ((unP B n (if lm = 5 then 8 else 6) 3) (nxP B n r.2.1)).1 = 0
          · obtain ⟨y1, y2, y3, y4⟩ := gq.1 hq
            refine r_aloadR0 dX12_readBoth_4 ?_
            refine k_ldc (hld _ (List.mem_of_getElem? (i := 1) rfl)) dX12_readBoth_5 ?_
            refine q_callV1 zm_RX12_142 dX12_readBoth_7 (shM_k hs) (by decide) rfl (Nat.le_of_ble_eq_true rfl) (Nat.le_of_ble_eq_true rfl) (Nat.le_of_ble_eq_true rfl) (Nat.le_of_ble_eq_true rfl) (Nat.le_of_ble_eq_true rfl) (s_X12_took_t (i := 7) G hs kw (by decide) htp2 hps2 hc_z (fun r7 g7 e7_z o7 p7 => ?_))
            have htp7 := tpM_of htp2 (o7.2.1 5 (by decide) (by decide) (by decide)) (o7.2.2 7 (by decide))
            have w7 : g7 (A + 2) = f2_z (A + 2) := o7.2.1 2 (by decide) (by decide) (by decide)
            refine t_ifeq (t := 26) dX12_readBoth_10 (by decide) (fun h10 => False.elim (by omega)) (fun h10 => ?_)
            refine r_aloadR0 dX12_readBoth_13 ?_
            refine q_callV0 zm_RX12_165 dX12_readBoth_14 (shM_k hs) (by decide) rfl (Nat.le_of_ble_eq_true rfl) (Nat.le_of_ble_eq_true rfl) (Nat.le_of_ble_eq_true rfl) (Nat.le_of_ble_eq_true rfl) (Nat.le_of_ble_eq_true rfl) (s_X12_readUnit_3 (lm := lm) (la := la) (u := u + r.2.2.length) G hs kw hld htp7 p7 (by rw [o7.2.2 16 (by decide)]; exact hd2) (by rw [o7.2.2 17 (by decide), ofr.2.2 17 (by decide)]; exact hlm) (by rw [o7.2.2 18 (by decide), ofr.2.2 18 (by decide)]; exact hla) (by rw [w7]; exact hk3.1) h5 h29 h99 (by omega) (fun g14 o14 d14 p14 k14 => ?_))
            have of14 : frM A [2] [8, 9, 10, 11, 12, 13, 16] f g14 := frM_tr ofr (frM_tr (frM_su o7 (by decide) (by decide)) o14)
            have p14b : psM B n g14 A ((unP B n (if lm = 5 then 8 else 6) 3) (nxP B n r.2.1)).1 ((unP B n (if lm = 5 then 8 else 6) 3) (nxP B n r.2.1)).2.1 := p14
            have k14b : ((unP B n (if lm = 5 then 8 else 6) 3) (nxP B n r.2.1)).1 = 0 → okM g7 g14 A lm la (u + r.2.2.length) ((unP B n (if lm = 5 then 8 else 6) 3) (nxP B n r.2.1)).2.2 := k14
            refine r_aloadR0 dX12_readBoth_17 ?_
            refine n_bipush dX12_readBoth_18 (by decide) (fun r18 e18_z => ?_)
            refine q_callV1 zm_RX12_162 dX12_readBoth_20 (shM_k hs) (by decide) rfl (Nat.le_of_ble_eq_true rfl) (Nat.le_of_ble_eq_true rfl) (Nat.le_of_ble_eq_true rfl) (Nat.le_of_ble_eq_true rfl) (Nat.le_of_ble_eq_true rfl) (s_X12_laysStep (lm := lm) (la := la) (u := u + r.2.2.length + ((unP B n (if lm = 5 then 8 else 6) 3) (nxP B n r.2.1)).2.2.length) G hs (by have := p14b.1; rw [hq] at this; exact this) (by rw [of14.2.2 17 (by decide)]; exact hlm) (by rw [of14.2.2 18 (by decide)]; exact hla) (k14b hq).1 h5 h29 (by omega) (fun g20 o20 a20 b20 c20 => ?_))
            refine r_goto (t := 4) dX12_readBoth_23 (by decide) ?_
            have hp14 := p14b
            rw [hq] at hp14
            refine ih _ k2_z (0, ((unP B n (if lm = 5 then 8 else 6) 3) (nxP B n r.2.1)).2.1, r.2.2 ++ ((unP B n (if lm = 5 then 8 else 6) 3) (nxP B n r.2.1)).2.2 ++ [(opA B n) r.2.1]) (frM_tr of14 (frM_su o20 (by decide) (by decide))) (by rw [o20.2.2 16 (by decide)]; exact d14) (psM_of hp14 (o20.2.2 8 (by decide)) (o20.2.2 9 (by decide)) (o20.2.2 10 (by decide)) (o20.2.2 11 (by decide)) (o20.2.2 12 (by decide)) (o20.2.2 13 (by decide))) (fun _ => okM_ap (by omega) (by rw [List.length_append]; omega) (okM_ap (by omega) (by omega) hk3 (okM_cg (k14b hq) w7 rfl)) ?_) (fun _ => ?_) (fun _ => ?_) ?_ (by omega)
            · rw [List.length_append, ← Nat.add_assoc, hop]
              exact okM_one (by omega) a20 b20 c20 (by rw [e18_z]; rfl)
            · show p ≤ ((unP B n (if lm = 5 then 8 else 6) 3) (nxP B n r.2.1)).2.1 ∧ ((unP B n (if lm = 5 then 8 else 6) 3) (nxP B n r.2.1)).2.1 ≤ n ∧ (r.2.2 ++ ((unP B n (if lm = 5 then 8 else 6) 3) (nxP B n r.2.1)).2.2 ++ [(opA B n) r.2.1]).length + p ≤ ((unP B n (if lm = 5 then 8 else 6) 3) (nxP B n r.2.1)).2.1
              rw [List.length_append, List.length_append, List.length_singleton]
              omega
            · show n ≤ k2_z + ((unP B n (if lm = 5 then 8 else 6) 3) (nxP B n r.2.1)).2.1
              omega
            · exact (lpP_on hr hop0 hq).symm.trans hR
          · have nb : ∀ g : Nat → Nat → Int32, psM B n g A ((unP B n (if lm = 5 then 8 else 6) 3) (nxP B n r.2.1)).1 ((unP B n (if lm = 5 then 8 else 6) 3) (nxP B n r.2.1)).2.1 → (g A 12).toInt ≠ 0 := fun g h_z => by rw [h_z.1]; omega
            refine r_aloadR0 dX12_readBoth_4 ?_
            refine k_ldc (hld _ (List.mem_of_getElem? (i := 1) rfl)) dX12_readBoth_5 ?_
            refine q_callV1 zm_RX12_142 dX12_readBoth_7 (shM_k hs) (by decide) rfl (Nat.le_of_ble_eq_true rfl) (Nat.le_of_ble_eq_true rfl) (Nat.le_of_ble_eq_true rfl) (Nat.le_of_ble_eq_true rfl) (Nat.le_of_ble_eq_true rfl) (s_X12_took_t (i := 7) G hs kw (by decide) htp2 hps2 hc_z (fun r7 g7 e7_z o7 p7 => ?_))
            have htp7 := tpM_of htp2 (o7.2.1 5 (by decide) (by decide) (by decide)) (o7.2.2 7 (by decide))
            have w7 : g7 (A + 2) = f2_z (A + 2) := o7.2.1 2 (by decide) (by decide) (by decide)
            refine t_ifeq (t := 26) dX12_readBoth_10 (by decide) (fun h10 => False.elim (by omega)) (fun h10 => ?_)
            refine r_aloadR0 dX12_readBoth_13 ?_
            refine q_callV0 zm_RX12_165 dX12_readBoth_14 (shM_k hs) (by decide) rfl (Nat.le_of_ble_eq_true rfl) (Nat.le_of_ble_eq_true rfl) (Nat.le_of_ble_eq_true rfl) (Nat.le_of_ble_eq_true rfl) (Nat.le_of_ble_eq_true rfl) (s_X12_readUnit_3 (lm := lm) (la := la) (u := u + r.2.2.length) G hs kw hld htp7 p7 (by rw [o7.2.2 16 (by decide)]; exact hd2) (by rw [o7.2.2 17 (by decide), ofr.2.2 17 (by decide)]; exact hlm) (by rw [o7.2.2 18 (by decide), ofr.2.2 18 (by decide)]; exact hla) (by rw [w7]; exact hk3.1) h5 h29 h99 (by omega) (fun g14 o14 d14 p14 k14 => ?_))
            have of14 : frM A [2] [8, 9, 10, 11, 12, 13, 16] f g14 := frM_tr ofr (frM_tr (frM_su o7 (by decide) (by decide)) o14)
            have p14b : psM B n g14 A ((unP B n (if lm = 5 then 8 else 6) 3) (nxP B n r.2.1)).1 ((unP B n (if lm = 5 then 8 else 6) 3) (nxP B n r.2.1)).2.1 := p14
            have k14b : ((unP B n (if lm = 5 then 8 else 6) 3) (nxP B n r.2.1)).1 = 0 → okM g7 g14 A lm la (u + r.2.2.length) ((unP B n (if lm = 5 then 8 else 6) 3) (nxP B n r.2.1)).2.2 := k14
            refine r_aloadR0 dX12_readBoth_17 ?_
            refine n_bipush dX12_readBoth_18 (by decide) (fun r18 e18_z => ?_)
            refine q_callV1 zm_RX12_162 dX12_readBoth_20 (shM_k hs) (by decide) rfl (Nat.le_of_ble_eq_true rfl) (Nat.le_of_ble_eq_true rfl) (Nat.le_of_ble_eq_true rfl) (Nat.le_of_ble_eq_true rfl) (Nat.le_of_ble_eq_true rfl) (s_X12_laysStep_x G hs (nb _ p14b) ?_)
            refine r_goto (t := 4) dX12_readBoth_23 (by decide) ?_
            exact ih _ k2_z ((unP B n (if lm = 5 then 8 else 6) 3) (nxP B n r.2.1)) of14 d14 p14b (fun h_z => absurd h_z hq) (fun h_z => absurd h_z hq) (fun h_z => absurd h_z hq) ((lpP_bad hq).trans ((lpP_sub hr hop0 hq).symm.trans hR)) (by omega)
        · have hop : (opA B n) r.2.1 = 0 := if_neg hc_z
          have hv := (lpP_end (B := B) (n := n) (k := k) (sub := (unP B n (if lm = 5 then 8 else 6) 3)) hop).symm.trans hR
          refine r_aloadR0 dX12_readBoth_4 ?_
          refine k_ldc (hld _ (List.mem_of_getElem? (i := 1) rfl)) dX12_readBoth_5 ?_
          refine q_callV1 zm_RX12_142 dX12_readBoth_7 (shM_k hs) (by decide) rfl (Nat.le_of_ble_eq_true rfl) (Nat.le_of_ble_eq_true rfl) (Nat.le_of_ble_eq_true rfl) (Nat.le_of_ble_eq_true rfl) (Nat.le_of_ble_eq_true rfl) (s_X12_took_f (i := 7) G hs kw (by decide) htp2 hps2 hc_z (fun r7 e7_z => ?_))
          refine t_ifeq (t := 26) dX12_readBoth_10 (by decide) (fun h10 => ?_) (fun h10 => False.elim (by omega))
          refine r_vret dX12_readBoth_26 rfl (Nat.le_of_ble_eq_true rfl) (Nat.le_of_ble_eq_true rfl) ?_
          rw [← hv] at hQ
          exact hQ _ ofr hd2 hp2 hk2
      · have hb2 : (f2_z A 12).toInt ≠ 0 := by rw [hp2.1]; omega
        have hv := (lpP_bad (B := B) (n := n) (k := k) (sub := (unP B n (if lm = 5 then 8 else 6) 3)) (op := (opA B n)) hr).symm.trans hR
        refine r_aloadR0 dX12_readBoth_4 ?_
        refine k_ldc (hld _ (List.mem_of_getElem? (i := 1) rfl)) dX12_readBoth_5 ?_
        refine q_callV1 zm_RX12_142 dX12_readBoth_7 (shM_k hs) (by decide) rfl (Nat.le_of_ble_eq_true rfl) (Nat.le_of_ble_eq_true rfl) (Nat.le_of_ble_eq_true rfl) (Nat.le_of_ble_eq_true rfl) (Nat.le_of_ble_eq_true rfl) (s_X12_took_x (i := 7) (B := fun _ => 0) (n := 0) G hs kw (by decide) hb2 (fun r7 e7_z => ?_))
        refine t_ifeq (t := 26) dX12_readBoth_10 (by decide) (fun h10 => ?_) (fun h10 => False.elim (by omega))
        refine r_vret dX12_readBoth_26 rfl (Nat.le_of_ble_eq_true rfl) (Nat.le_of_ble_eq_true rfl) ?_
        rw [← hv] at hQ
        exact hQ _ ofr hd2 hp2 hk2
  refine r_aloadR0 dX12_readBoth_0 ?_
  refine q_callV0 zm_RX12_165 dX12_readBoth_1 (shM_k hs) (by decide) rfl (Nat.le_of_ble_eq_true rfl) (Nat.le_of_ble_eq_true rfl) (Nat.le_of_ble_eq_true rfl) (Nat.le_of_ble_eq_true rfl) (Nat.le_of_ble_eq_true rfl) (s_X12_readUnit_3 G hs kw hld htp hps hd16 hlm hla hu h5 h29 h99 hup (fun g1 o1 d1 p1 k1_z => ?_))
  have gp := hgd p ht.1
  exact lp _ g1 n ((unP B n (if lm = 5 then 8 else 6) 3) p) o1 d1 p1 k1_z (fun h_z => ⟨Nat.le_of_lt (gp.1 h_z).1, (gp.1 h_z).2.1, (gp.1 h_z).2.2.1⟩) (fun _ => Nat.le_add_right n _) rfl (Nat.lt_succ_self n)
set_option maxHeartbeats 4000000 in
set_option maxRecDepth 100000 in
theorem s_X12_readTruth_3 {g : zGT} {w : zW} {f : Nat → Nat → Int32} {j : Nat → Nat → Int64} {A : Nat} {B : Nat → Nat} {n : Nat} {wa wv : Nat → Nat} {kq : Nat} {p lm la u : Nat} {Q : Option Value → zW → Prop} {QX : String → zW → Prop} (G : zGok g) (hs : shM w A) (kw : kWd g wa wv kq) (hld : kLd g wa) (htp : tpM B n f A) (hps : psM B n f A 0 p) (hd16 : (f A 16).toInt = 3) (hlm : (f A 17).toInt = (lm : Nat)) (hla : (f A 18).toInt = (la : Nat)) (hu : (f (A + 2) lm).toInt = (u : Nat)) (h5 : lm ≤ 5) (h29 : 209 ≤ la) (h99 : la ≤ 2009) (hup : u ≤ p) (hQ : ∀ f2_z, frM A [2] [8, 9, 10, 11, 12, 13, 16] f f2_z → (f2_z A 16).toInt = 3 → psM B n f2_z A (chP B n (chP B n (unP B n (if lm = 5 then 8 else 6) 3) (opA B n)) (opO B n) p).1 (chP B n (chP B n (unP B n (if lm = 5 then 8 else 6) 3) (opA B n)) (opO B n) p).2.1 → ((chP B n (chP B n (unP B n (if lm = 5 then 8 else 6) 3) (opA B n)) (opO B n) p).1 = 0 → okM f f2_z A lm la u (chP B n (chP B n (unP B n (if lm = 5 then 8 else 6) 3) (opA B n)) (opO B n) p).2.2) → Q none (zM w f2_z j)) : zC g 54 yX12_readTruth cX12_readTruth 1 none [.ref A] (zM w f j) (0, 0) Q QX := by
  refine zC_of G (by decide +kernel) (Nat.le_of_ble_eq_true rfl) ?_
  have ht := hps.2.1 rfl
  have h12 := hps.1
  have h900 := htp.2.1
  have hgd : ∀ s, s ≤ n → gdP n true (if lm = 5 then 8 else 6) (4 + 2 * 3 + 1) s ((chP B n (unP B n (if lm = 5 then 8 else 6) 3) (opA B n)) s) := fun s hs9 => gd_ch (gd_un (by split <;> decide) 3) hop_A hs9
  have lp : ∀ (mz : Nat) (f2_z : Nat → Nat → Int32) (k : Nat) (r : zPR), frM A [2] [8, 9, 10, 11, 12, 13, 16] f f2_z → (f2_z A 16).toInt = 3 → psM B n f2_z A r.1 r.2.1 → (r.1 = 0 → okM f f2_z A lm la u r.2.2) → (r.1 = 0 → p ≤ r.2.1 ∧ r.2.1 ≤ n ∧ r.2.2.length + p ≤ r.2.1) → (r.1 = 0 → n ≤ k + r.2.1) → lpP B n (chP B n (unP B n (if lm = 5 then 8 else 6) 3) (opA B n)) (opO B n) k r = chP B n (chP B n (unP B n (if lm = 5 then 8 else 6) 3) (opA B n)) (opO B n) p → k < mz → zR (zV g 54 yX12_readTruth 1 none (0, 0) Q QX) cX12_readTruth yX12_readTruth.cls 4 [some (.ref A)] [] (zM w f2_z j) (0, 0) := by
    intro mz
    induction mz with
    | zero =>
      intro f2_z k r ofr hd2 hp2 hk2 hg2 hnk hR hmz
      exact absurd hmz (Nat.not_lt_zero _)
    | succ mz ih =>
      intro f2_z k r ofr hd2 hp2 hk2 hg2 hnk hR hmz
      by_cases hr : r.1 = 0
      · have hk3 := hk2 hr
        obtain ⟨q1_z, q2_z, q3_z⟩ := hg2 hr
        have hnk3 := hnk hr
        have hps2 := hp2
        rw [hr] at hps2
        have hb2 := hps2.1
        have htp2 := tpM_of htp (ofr.2.1 5 (by decide) (by decide) (by decide)) (ofr.2.2 7 (by decide))
        by_cases hc_z : isWd B n r.2.1 6 = true
        · have hop : (opO B n) r.2.1 = 2002 := if_pos hc_z
          have hop0 : (opO B n) r.2.1 ≠ 0 := by rw [hop]; decide
          have hln := tk_lt (B := B) (n := n) (s := r.2.1) (by rw [(isWd_tk hc_z).1]; decide)
          obtain ⟨k2_z, rfl⟩ : ∃ k2_z, k = k2_z + 1 := ⟨k - 1, by omega⟩
          have hnx := nxP_gt (B := B) hln
          have gq := hgd _ hnx.2
          by_cases hq : ((chP B n (unP B n (if lm = 5 then 8 else 6) 3) (opA B n)) (nxP B n r.2.1)).1 = 0
          · obtain ⟨y1, y2, y3, y4⟩ := gq.1 hq
            refine r_aloadR0 dX12_readTruth_4 ?_
            refine k_ldc (hld _ (List.mem_of_getElem? (i := 0) rfl)) dX12_readTruth_5 ?_
            refine q_callV1 zm_RX12_142 dX12_readTruth_7 (shM_k hs) (by decide) rfl (Nat.le_of_ble_eq_true rfl) (Nat.le_of_ble_eq_true rfl) (Nat.le_of_ble_eq_true rfl) (Nat.le_of_ble_eq_true rfl) (Nat.le_of_ble_eq_true rfl) (s_X12_took_t (i := 6) G hs kw (by decide) htp2 hps2 hc_z (fun r7 g7 e7_z o7 p7 => ?_))
            have htp7 := tpM_of htp2 (o7.2.1 5 (by decide) (by decide) (by decide)) (o7.2.2 7 (by decide))
            have w7 : g7 (A + 2) = f2_z (A + 2) := o7.2.1 2 (by decide) (by decide) (by decide)
            refine t_ifeq (t := 26) dX12_readTruth_10 (by decide) (fun h10 => False.elim (by omega)) (fun h10 => ?_)
            refine r_aloadR0 dX12_readTruth_13 ?_
            refine q_callV0 zm_RX12_157 dX12_readTruth_14 (shM_k hs) (by decide) rfl (Nat.le_of_ble_eq_true rfl) (Nat.le_of_ble_eq_true rfl) (Nat.le_of_ble_eq_true rfl) (Nat.le_of_ble_eq_true rfl) (Nat.le_of_ble_eq_true rfl) (s_X12_readBoth_3 (lm := lm) (la := la) (u := u + r.2.2.length) G hs kw hld htp7 p7 (by rw [o7.2.2 16 (by decide)]; exact hd2) (by rw [o7.2.2 17 (by decide), ofr.2.2 17 (by decide)]; exact hlm) (by rw [o7.2.2 18 (by decide), ofr.2.2 18 (by decide)]; exact hla) (by rw [w7]; exact hk3.1) h5 h29 h99 (by omega) (fun g14 o14 d14 p14 k14 => ?_))
            have of14 : frM A [2] [8, 9, 10, 11, 12, 13, 16] f g14 := frM_tr ofr (frM_tr (frM_su o7 (by decide) (by decide)) o14)
            have p14b : psM B n g14 A ((chP B n (unP B n (if lm = 5 then 8 else 6) 3) (opA B n)) (nxP B n r.2.1)).1 ((chP B n (unP B n (if lm = 5 then 8 else 6) 3) (opA B n)) (nxP B n r.2.1)).2.1 := p14
            have k14b : ((chP B n (unP B n (if lm = 5 then 8 else 6) 3) (opA B n)) (nxP B n r.2.1)).1 = 0 → okM g7 g14 A lm la (u + r.2.2.length) ((chP B n (unP B n (if lm = 5 then 8 else 6) 3) (opA B n)) (nxP B n r.2.1)).2.2 := k14
            refine r_aloadR0 dX12_readTruth_17 ?_
            refine n_bipush dX12_readTruth_18 (by decide) (fun r18 e18_z => ?_)
            refine q_callV1 zm_RX12_162 dX12_readTruth_20 (shM_k hs) (by decide) rfl (Nat.le_of_ble_eq_true rfl) (Nat.le_of_ble_eq_true rfl) (Nat.le_of_ble_eq_true rfl) (Nat.le_of_ble_eq_true rfl) (Nat.le_of_ble_eq_true rfl) (s_X12_laysStep (lm := lm) (la := la) (u := u + r.2.2.length + ((chP B n (unP B n (if lm = 5 then 8 else 6) 3) (opA B n)) (nxP B n r.2.1)).2.2.length) G hs (by have := p14b.1; rw [hq] at this; exact this) (by rw [of14.2.2 17 (by decide)]; exact hlm) (by rw [of14.2.2 18 (by decide)]; exact hla) (k14b hq).1 h5 h29 (by omega) (fun g20 o20 a20 b20 c20 => ?_))
            refine r_goto (t := 4) dX12_readTruth_23 (by decide) ?_
            have hp14 := p14b
            rw [hq] at hp14
            refine ih _ k2_z (0, ((chP B n (unP B n (if lm = 5 then 8 else 6) 3) (opA B n)) (nxP B n r.2.1)).2.1, r.2.2 ++ ((chP B n (unP B n (if lm = 5 then 8 else 6) 3) (opA B n)) (nxP B n r.2.1)).2.2 ++ [(opO B n) r.2.1]) (frM_tr of14 (frM_su o20 (by decide) (by decide))) (by rw [o20.2.2 16 (by decide)]; exact d14) (psM_of hp14 (o20.2.2 8 (by decide)) (o20.2.2 9 (by decide)) (o20.2.2 10 (by decide)) (o20.2.2 11 (by decide)) (o20.2.2 12 (by decide)) (o20.2.2 13 (by decide))) (fun _ => okM_ap (by omega) (by rw [List.length_append]; omega) (okM_ap (by omega) (by omega) hk3 (okM_cg (k14b hq) w7 rfl)) ?_) (fun _ => ?_) (fun _ => ?_) ?_ (by omega)
            · rw [List.length_append, ← Nat.add_assoc, hop]
              exact okM_one (by omega) a20 b20 c20 (by rw [e18_z]; rfl)
            · show p ≤ ((chP B n (unP B n (if lm = 5 then 8 else 6) 3) (opA B n)) (nxP B n r.2.1)).2.1 ∧ ((chP B n (unP B n (if lm = 5 then 8 else 6) 3) (opA B n)) (nxP B n r.2.1)).2.1 ≤ n ∧ (r.2.2 ++ ((chP B n (unP B n (if lm = 5 then 8 else 6) 3) (opA B n)) (nxP B n r.2.1)).2.2 ++ [(opO B n) r.2.1]).length + p ≤ ((chP B n (unP B n (if lm = 5 then 8 else 6) 3) (opA B n)) (nxP B n r.2.1)).2.1
              rw [List.length_append, List.length_append, List.length_singleton]
              omega
            · show n ≤ k2_z + ((chP B n (unP B n (if lm = 5 then 8 else 6) 3) (opA B n)) (nxP B n r.2.1)).2.1
              omega
            · exact (lpP_on hr hop0 hq).symm.trans hR
          · have nb : ∀ g : Nat → Nat → Int32, psM B n g A ((chP B n (unP B n (if lm = 5 then 8 else 6) 3) (opA B n)) (nxP B n r.2.1)).1 ((chP B n (unP B n (if lm = 5 then 8 else 6) 3) (opA B n)) (nxP B n r.2.1)).2.1 → (g A 12).toInt ≠ 0 := fun g h_z => by rw [h_z.1]; omega
            refine r_aloadR0 dX12_readTruth_4 ?_
            refine k_ldc (hld _ (List.mem_of_getElem? (i := 0) rfl)) dX12_readTruth_5 ?_
            refine q_callV1 zm_RX12_142 dX12_readTruth_7 (shM_k hs) (by decide) rfl (Nat.le_of_ble_eq_true rfl) (Nat.le_of_ble_eq_true rfl) (Nat.le_of_ble_eq_true rfl) (Nat.le_of_ble_eq_true rfl) (Nat.le_of_ble_eq_true rfl) (s_X12_took_t (i := 6) G hs kw (by decide) htp2 hps2 hc_z (fun r7 g7 e7_z o7 p7 => ?_))
            have htp7 := tpM_of htp2 (o7.2.1 5 (by decide) (by decide) (by decide)) (o7.2.2 7 (by decide))
            have w7 : g7 (A + 2) = f2_z (A + 2) := o7.2.1 2 (by decide) (by decide) (by decide)
            refine t_ifeq (t := 26) dX12_readTruth_10 (by decide) (fun h10 => False.elim (by omega)) (fun h10 => ?_)
            refine r_aloadR0 dX12_readTruth_13 ?_
            refine q_callV0 zm_RX12_157 dX12_readTruth_14 (shM_k hs) (by decide) rfl (Nat.le_of_ble_eq_true rfl) (Nat.le_of_ble_eq_true rfl) (Nat.le_of_ble_eq_true rfl) (Nat.le_of_ble_eq_true rfl) (Nat.le_of_ble_eq_true rfl) (s_X12_readBoth_3 (lm := lm) (la := la) (u := u + r.2.2.length) G hs kw hld htp7 p7 (by rw [o7.2.2 16 (by decide)]; exact hd2) (by rw [o7.2.2 17 (by decide), ofr.2.2 17 (by decide)]; exact hlm) (by rw [o7.2.2 18 (by decide), ofr.2.2 18 (by decide)]; exact hla) (by rw [w7]; exact hk3.1) h5 h29 h99 (by omega) (fun g14 o14 d14 p14 k14 => ?_))
            have of14 : frM A [2] [8, 9, 10, 11, 12, 13, 16] f g14 := frM_tr ofr (frM_tr (frM_su o7 (by decide) (by decide)) o14)
            have p14b : psM B n g14 A ((chP B n (unP B n (if lm = 5 then 8 else 6) 3) (opA B n)) (nxP B n r.2.1)).1 ((chP B n (unP B n (if lm = 5 then 8 else 6) 3) (opA B n)) (nxP B n r.2.1)).2.1 := p14
            have k14b : ((chP B n (unP B n (if lm = 5 then 8 else 6) 3) (opA B n)) (nxP B n r.2.1)).1 = 0 → okM g7 g14 A lm la (u + r.2.2.length) ((chP B n (unP B n (if lm = 5 then 8 else 6) 3) (opA B n)) (nxP B n r.2.1)).2.2 := k14
            refine r_aloadR0 dX12_readTruth_17 ?_
            refine n_bipush dX12_readTruth_18 (by decide) (fun r18 e18_z => ?_)
            refine q_callV1 zm_RX12_162 dX12_readTruth_20 (shM_k hs) (by decide) rfl (Nat.le_of_ble_eq_true rfl) (Nat.le_of_ble_eq_true rfl) (Nat.le_of_ble_eq_true rfl) (Nat.le_of_ble_eq_true rfl) (Nat.le_of_ble_eq_true rfl) (s_X12_laysStep_x G hs (nb _ p14b) ?_)
            refine r_goto (t := 4) dX12_readTruth_23 (by decide) ?_
            exact ih _ k2_z ((chP B n (unP B n (if lm = 5 then 8 else 6) 3) (opA B n)) (nxP B n r.2.1)) of14 d14 p14b (fun h_z => absurd h_z hq) (fun h_z => absurd h_z hq) (fun h_z => absurd h_z hq) ((lpP_bad hq).trans ((lpP_sub hr hop0 hq).symm.trans hR)) (by omega)
        · have hop : (opO B n) r.2.1 = 0 := if_neg hc_z
          have hv := (lpP_end (B := B) (n := n) (k := k) (sub := (chP B n (unP B n (if lm = 5 then 8 else 6) 3) (opA B n))) hop).symm.trans hR
          refine r_aloadR0 dX12_readTruth_4 ?_
          refine k_ldc (hld _ (List.mem_of_getElem? (i := 0) rfl)) dX12_readTruth_5 ?_
          refine q_callV1 zm_RX12_142 dX12_readTruth_7 (shM_k hs) (by decide) rfl (Nat.le_of_ble_eq_true rfl) (Nat.le_of_ble_eq_true rfl) (Nat.le_of_ble_eq_true rfl) (Nat.le_of_ble_eq_true rfl) (Nat.le_of_ble_eq_true rfl) (s_X12_took_f (i := 6) G hs kw (by decide) htp2 hps2 hc_z (fun r7 e7_z => ?_))
          refine t_ifeq (t := 26) dX12_readTruth_10 (by decide) (fun h10 => ?_) (fun h10 => False.elim (by omega))
          refine r_vret dX12_readTruth_26 rfl (Nat.le_of_ble_eq_true rfl) (Nat.le_of_ble_eq_true rfl) ?_
          rw [← hv] at hQ
          exact hQ _ ofr hd2 hp2 hk2
      · have hb2 : (f2_z A 12).toInt ≠ 0 := by rw [hp2.1]; omega
        have hv := (lpP_bad (B := B) (n := n) (k := k) (sub := (chP B n (unP B n (if lm = 5 then 8 else 6) 3) (opA B n))) (op := (opO B n)) hr).symm.trans hR
        refine r_aloadR0 dX12_readTruth_4 ?_
        refine k_ldc (hld _ (List.mem_of_getElem? (i := 0) rfl)) dX12_readTruth_5 ?_
        refine q_callV1 zm_RX12_142 dX12_readTruth_7 (shM_k hs) (by decide) rfl (Nat.le_of_ble_eq_true rfl) (Nat.le_of_ble_eq_true rfl) (Nat.le_of_ble_eq_true rfl) (Nat.le_of_ble_eq_true rfl) (Nat.le_of_ble_eq_true rfl) (s_X12_took_x (i := 6) (B := fun _ => 0) (n := 0) G hs kw (by decide) hb2 (fun r7 e7_z => ?_))
        refine t_ifeq (t := 26) dX12_readTruth_10 (by decide) (fun h10 => ?_) (fun h10 => False.elim (by omega))
        refine r_vret dX12_readTruth_26 rfl (Nat.le_of_ble_eq_true rfl) (Nat.le_of_ble_eq_true rfl) ?_
        rw [← hv] at hQ
        exact hQ _ ofr hd2 hp2 hk2
  refine r_aloadR0 dX12_readTruth_0 ?_
  refine q_callV0 zm_RX12_157 dX12_readTruth_1 (shM_k hs) (by decide) rfl (Nat.le_of_ble_eq_true rfl) (Nat.le_of_ble_eq_true rfl) (Nat.le_of_ble_eq_true rfl) (Nat.le_of_ble_eq_true rfl) (Nat.le_of_ble_eq_true rfl) (s_X12_readBoth_3 G hs kw hld htp hps hd16 hlm hla hu h5 h29 h99 hup (fun g1 o1 d1 p1 k1_z => ?_))
  have gp := hgd p ht.1
  exact lp _ g1 n ((chP B n (unP B n (if lm = 5 then 8 else 6) 3) (opA B n)) p) o1 d1 p1 k1_z (fun h_z => ⟨Nat.le_of_lt (gp.1 h_z).1, (gp.1 h_z).2.1, (gp.1 h_z).2.2.1⟩) (fun _ => Nat.le_add_right n _) rfl (Nat.lt_succ_self n)
set_option maxHeartbeats 4000000 in
set_option maxRecDepth 100000 in
theorem s_X12_readUnit_4 {g : zGT} {w : zW} {f : Nat → Nat → Int32} {j : Nat → Nat → Int64} {A : Nat} {B : Nat → Nat} {n : Nat} {wa wv : Nat → Nat} {kq : Nat} {p lm la u : Nat} {Q : Option Value → zW → Prop} {QX : String → zW → Prop} (G : zGok g) (hs : shM w A) (kw : kWd g wa wv kq) (hld : kLd g wa) (htp : tpM B n f A) (hps : psM B n f A 0 p) (hd16 : (f A 16).toInt = 2) (hlm : (f A 17).toInt = (lm : Nat)) (hla : (f A 18).toInt = (la : Nat)) (hu : (f (A + 2) lm).toInt = (u : Nat)) (h5 : lm ≤ 5) (h29 : 209 ≤ la) (h99 : la ≤ 2009) (hup : u ≤ p) (hQ : ∀ f2_z, frM A [2] [8, 9, 10, 11, 12, 13, 16] f f2_z → (f2_z A 16).toInt = 2 → psM B n f2_z A (unP B n (if lm = 5 then 8 else 6) 4 p).1 (unP B n (if lm = 5 then 8 else 6) 4 p).2.1 → ((unP B n (if lm = 5 then 8 else 6) 4 p).1 = 0 → okM f f2_z A lm la u (unP B n (if lm = 5 then 8 else 6) 4 p).2.2) → Q none (zM w f2_z j)) : zC g 56 yX12_readUnit cX12_readUnit 2 none [.ref A] (zM w f j) (0, 0) Q QX := by
  refine zC_of G (by decide +kernel) (Nat.le_of_ble_eq_true rfl) ?_
  have ht := hps.2.1 rfl
  have h12 := hps.1
  have hte := teP_le (B := B) ht.1
  have h900 := htp.2.1
  have h10 := ht.2.2.2.1
  have hsm : ∀ s, s ≤ n → gdP n false (if lm = 5 then 8 else 6) (1 + 2 * 4 + 2) s (smP B n (if lm = 5 then 8 else 6) 4 s) := fun s hs9 => gd_su (gd_at (by split <;> decide) 4) hs9
  by_cases hw : isWd B n p 8 = true
  · have hv : unP B n (if lm = 5 then 8 else 6) 4 p = noP ((unP B n (if lm = 5 then 8 else 6) 3) (nxP B n p)) := if_pos hw
    rw [hv] at hQ
    have hwt := isWd_tk hw
    have hpn := tk_lt (B := B) (n := n) (s := p) (by rw [hwt.1]; decide)
    have hnx := nxP_gt (B := B) hpn
    have hgu : gdP n true (if lm = 5 then 8 else 6) (4 + 2 * 3) (nxP B n p) ((unP B n (if lm = 5 then 8 else 6) 3) (nxP B n p)) := gd_un (by split <;> decide) 3 _ hnx.2
    by_cases hr : ((unP B n (if lm = 5 then 8 else 6) 3) (nxP B n p)).1 = 0
    · have hv2 : noP ((unP B n (if lm = 5 then 8 else 6) 3) (nxP B n p)) = (0, ((unP B n (if lm = 5 then 8 else 6) 3) (nxP B n p)).2.1, ((unP B n (if lm = 5 then 8 else 6) 3) (nxP B n p)).2.2 ++ [2000]) := if_neg (not_not_intro hr)
      rw [hv2] at hQ
      obtain ⟨y1, y2, y3, y4⟩ := hgu.1 hr
      refine r_aloadR0 dX12_readUnit_0 ?_
      refine m_getV (x := (f A 12)) zf_RX12_112 rfl dX12_readUnit_1 (shM_k hs) (rfl) ?_
      refine t_ifeq (t := 8) dX12_readUnit_4 (by decide) (fun h4 => ?_) (fun h4 => False.elim (by omega))
      refine r_aloadR0 dX12_readUnit_8 ?_
      refine k_ldc (hld _ (List.mem_of_getElem? (i := 2) rfl)) dX12_readUnit_9 ?_
      refine q_callV1 zm_RX12_127 dX12_readUnit_11 (shM_k hs) (by decide) rfl (Nat.le_of_ble_eq_true rfl) (Nat.le_of_ble_eq_true rfl) (Nat.le_of_ble_eq_true rfl) (Nat.le_of_ble_eq_true rfl) (Nat.le_of_ble_eq_true rfl) (s_X12_isWord (i := 8) G hs kw (by decide) htp hps (fun r11 e11_z => ?_))
      have e11b : r11.toInt = 1 := e11_z.elim (fun h_z => h_z.1) (fun h_z => absurd hw h_z.2)
      refine t_ifeq (t := 44) dX12_readUnit_14 (by decide) (fun h14 => False.elim (by omega)) (fun h14 => ?_)
      refine r_aloadR0 dX12_readUnit_17 ?_
      refine q_callV0 zm_RX12_172 dX12_readUnit_18 (shM_k hs) (by decide) rfl (Nat.le_of_ble_eq_true rfl) (Nat.le_of_ble_eq_true rfl) (Nat.le_of_ble_eq_true rfl) (Nat.le_of_ble_eq_true rfl) (Nat.le_of_ble_eq_true rfl) (s_X12_goesIn (d := 2) G hs htp hps hd16 (by decide) (by rw [hwt.1]; decide) (fun g18 o18 a18 b18 c18 => ?_))
      have p18 := c18 (by decide)
      have htp18 := tpM_of htp (o18.2.1 5 (by decide) (by decide) (by decide)) (o18.2.2 7 (by decide))
      have w18 : g18 (A + 2) = f (A + 2) := o18.2.1 2 (by decide) (by decide) (by decide)
      refine r_aloadR0 dX12_readUnit_21 ?_
      refine q_callV0 zm_RX12_165 dX12_readUnit_22 (shM_k hs) (by decide) rfl (Nat.le_of_ble_eq_true rfl) (Nat.le_of_ble_eq_true rfl) (Nat.le_of_ble_eq_true rfl) (Nat.le_of_ble_eq_true rfl) (Nat.le_of_ble_eq_true rfl) (s_X12_readUnit_3 (lm := lm) (la := la) (u := u) G hs kw hld htp18 p18 (by rw [a18]; rfl) (by rw [o18.2.2 17 (by decide)]; exact hlm) (by rw [o18.2.2 18 (by decide)]; exact hla) (by rw [w18]; exact hu) h5 h29 h99 (by omega) (fun g22 o22 d22 p22 k22 => ?_))
      have of22 : frM A [2] [8, 9, 10, 11, 12, 13, 16] f g22 := frM_tr (frM_su o18 (by decide) (by decide)) o22
      refine r_aloadR0 dX12_readUnit_25 ?_
      refine n_bipush dX12_readUnit_26 (by decide) (fun r26 e26_z => ?_)
      refine q_callV1 zm_RX12_162 dX12_readUnit_28 (shM_k hs) (by decide) rfl (Nat.le_of_ble_eq_true rfl) (Nat.le_of_ble_eq_true rfl) (Nat.le_of_ble_eq_true rfl) (Nat.le_of_ble_eq_true rfl) (Nat.le_of_ble_eq_true rfl) (s_X12_laysStep (lm := lm) (la := la) (u := u + ((unP B n (if lm = 5 then 8 else 6) 3) (nxP B n p)).2.2.length) G hs (by have := p22.1; rw [hr] at this; exact this) (by rw [of22.2.2 17 (by decide)]; exact hlm) (by rw [of22.2.2 18 (by decide)]; exact hla) (k22 hr).1 h5 h29 (by omega) (fun g28 o28 a28 b28 c28 => ?_))
      have d28 : (g28 A 16).toInt = 3 := by rw [o28.2.2 16 (by decide)]; exact d22
      have p22b := p22
      rw [hr] at p22b
      refine r_aloadR0 dX12_readUnit_31 ?_
      refine r_dup dX12_readUnit_32 rfl ?_
      refine m_getV (x := (g28 A 16)) zf_RX12_154 rfl dX12_readUnit_33 (shM_k hs) (rfl) ?_
      refine n_iconst dX12_readUnit_36 (by decide) (fun r36 e36 => ?_)
      refine n_isub dX12_readUnit_37 (by omega) (fun r37 e37 => ?_)
      refine m_putI zf_RX12_154 (by intro C T N h_z; cases h_z; rfl) rfl dX12_readUnit_38 (shM_k hs) ?_
      obtain ⟨g38, hg38⟩ : ∃ g9, g9 = zu g28 A 16 r37 := ⟨_, rfl⟩
      rw [← hg38]
      have og38 : frM A [] [16] g28 g38 := by rw [hg38]; exact frM_zk frM_rf (by decide)
      have vg38 : g38 A 16 = r37 := by rw [hg38]; exact zu_at
      have vt38 : (g38 A 16).toInt = r37.toInt := by rw [vg38]
      refine r_goto (t := 155) dX12_readUnit_41 (by decide) ?_
      refine r_vret dX12_readUnit_155 rfl (Nat.le_of_ble_eq_true rfl) (Nat.le_of_ble_eq_true rfl) ?_
      exact hQ _ (frM_tr (frM_tr of22 (frM_su o28 (by decide) (by decide))) (frM_su og38 (by decide) (by decide))) (by rw [vt38]; omega) (psM_of (psM_of p22b (o28.2.2 8 (by decide)) (o28.2.2 9 (by decide)) (o28.2.2 10 (by decide)) (o28.2.2 11 (by decide)) (o28.2.2 12 (by decide)) (o28.2.2 13 (by decide))) (og38.2.2 8 (by decide)) (og38.2.2 9 (by decide)) (og38.2.2 10 (by decide)) (og38.2.2 11 (by decide)) (og38.2.2 12 (by decide)) (og38.2.2 13 (by decide))) (fun _ => okM_cg (okM_ap (by omega) (by omega) (k22 hr) (okM_one (by omega) a28 b28 c28 (by rw [e26_z]; rfl))) w18 (og38.2.1 2 (by decide) (by decide) (by decide)))
    · have hv2 : noP ((unP B n (if lm = 5 then 8 else 6) 3) (nxP B n p)) = ((unP B n (if lm = 5 then 8 else 6) 3) (nxP B n p)) := if_pos hr
      rw [hv2] at hQ
      refine r_aloadR0 dX12_readUnit_0 ?_
      refine m_getV (x := (f A 12)) zf_RX12_112 rfl dX12_readUnit_1 (shM_k hs) (rfl) ?_
      refine t_ifeq (t := 8) dX12_readUnit_4 (by decide) (fun h4 => ?_) (fun h4 => False.elim (by omega))
      refine r_aloadR0 dX12_readUnit_8 ?_
      refine k_ldc (hld _ (List.mem_of_getElem? (i := 2) rfl)) dX12_readUnit_9 ?_
      refine q_callV1 zm_RX12_127 dX12_readUnit_11 (shM_k hs) (by decide) rfl (Nat.le_of_ble_eq_true rfl) (Nat.le_of_ble_eq_true rfl) (Nat.le_of_ble_eq_true rfl) (Nat.le_of_ble_eq_true rfl) (Nat.le_of_ble_eq_true rfl) (s_X12_isWord (i := 8) G hs kw (by decide) htp hps (fun r11 e11_z => ?_))
      have e11b : r11.toInt = 1 := e11_z.elim (fun h_z => h_z.1) (fun h_z => absurd hw h_z.2)
      refine t_ifeq (t := 44) dX12_readUnit_14 (by decide) (fun h14 => False.elim (by omega)) (fun h14 => ?_)
      refine r_aloadR0 dX12_readUnit_17 ?_
      refine q_callV0 zm_RX12_172 dX12_readUnit_18 (shM_k hs) (by decide) rfl (Nat.le_of_ble_eq_true rfl) (Nat.le_of_ble_eq_true rfl) (Nat.le_of_ble_eq_true rfl) (Nat.le_of_ble_eq_true rfl) (Nat.le_of_ble_eq_true rfl) (s_X12_goesIn (d := 2) G hs htp hps hd16 (by decide) (by rw [hwt.1]; decide) (fun g18 o18 a18 b18 c18 => ?_))
      have p18 := c18 (by decide)
      have htp18 := tpM_of htp (o18.2.1 5 (by decide) (by decide) (by decide)) (o18.2.2 7 (by decide))
      have w18 : g18 (A + 2) = f (A + 2) := o18.2.1 2 (by decide) (by decide) (by decide)
      refine r_aloadR0 dX12_readUnit_21 ?_
      refine q_callV0 zm_RX12_165 dX12_readUnit_22 (shM_k hs) (by decide) rfl (Nat.le_of_ble_eq_true rfl) (Nat.le_of_ble_eq_true rfl) (Nat.le_of_ble_eq_true rfl) (Nat.le_of_ble_eq_true rfl) (Nat.le_of_ble_eq_true rfl) (s_X12_readUnit_3 (lm := lm) (la := la) (u := u) G hs kw hld htp18 p18 (by rw [a18]; rfl) (by rw [o18.2.2 17 (by decide)]; exact hlm) (by rw [o18.2.2 18 (by decide)]; exact hla) (by rw [w18]; exact hu) h5 h29 h99 (by omega) (fun g22 o22 d22 p22 k22 => ?_))
      have of22 : frM A [2] [8, 9, 10, 11, 12, 13, 16] f g22 := frM_tr (frM_su o18 (by decide) (by decide)) o22
      refine r_aloadR0 dX12_readUnit_25 ?_
      refine n_bipush dX12_readUnit_26 (by decide) (fun r26 e26_z => ?_)
      refine q_callV1 zm_RX12_162 dX12_readUnit_28 (shM_k hs) (by decide) rfl (Nat.le_of_ble_eq_true rfl) (Nat.le_of_ble_eq_true rfl) (Nat.le_of_ble_eq_true rfl) (Nat.le_of_ble_eq_true rfl) (Nat.le_of_ble_eq_true rfl) (s_X12_laysStep_x G hs (by rw [p22.1]; omega) ?_)
      have d22b : (g22 A 16).toInt = 3 := d22
      refine r_aloadR0 dX12_readUnit_31 ?_
      refine r_dup dX12_readUnit_32 rfl ?_
      refine m_getV (x := (g22 A 16)) zf_RX12_154 rfl dX12_readUnit_33 (shM_k hs) (rfl) ?_
      refine n_iconst dX12_readUnit_36 (by decide) (fun r36 e36 => ?_)
      refine n_isub dX12_readUnit_37 (by omega) (fun r37 e37 => ?_)
      refine m_putI zf_RX12_154 (by intro C T N h_z; cases h_z; rfl) rfl dX12_readUnit_38 (shM_k hs) ?_
      obtain ⟨g38, hg38⟩ : ∃ g9, g9 = zu g22 A 16 r37 := ⟨_, rfl⟩
      rw [← hg38]
      have og38 : frM A [] [16] g22 g38 := by rw [hg38]; exact frM_zk frM_rf (by decide)
      have vg38 : g38 A 16 = r37 := by rw [hg38]; exact zu_at
      have vt38 : (g38 A 16).toInt = r37.toInt := by rw [vg38]
      refine r_goto (t := 155) dX12_readUnit_41 (by decide) ?_
      refine r_vret dX12_readUnit_155 rfl (Nat.le_of_ble_eq_true rfl) (Nat.le_of_ble_eq_true rfl) ?_
      exact hQ _ (frM_tr of22 (frM_su og38 (by decide) (by decide))) (by rw [vt38]; omega) (psM_of p22 (og38.2.2 8 (by decide)) (og38.2.2 9 (by decide)) (og38.2.2 10 (by decide)) (og38.2.2 11 (by decide)) (og38.2.2 12 (by decide)) (og38.2.2 13 (by decide))) (fun h_z => absurd h_z hr)
  have hrk := rk4 (B := B) (n := n) (s := p) (c := 91) (by decide)
  by_cases hp : tkP B n p = 91
  · have hv : unP B n (if lm = 5 then 8 else 6) 4 p = clP B n 93 (trU B n (unP B n (if lm = 5 then 8 else 6) 3) (nxP B n p)) := (if_neg hw).trans (if_pos hp)
    rw [hv] at hQ
    have h10b := hrk.mpr hp
    have hpn := tk_lt (B := B) (n := n) (s := p) (by rw [hp]; decide)
    have hnx := nxP_gt (B := B) hpn
    by_cases hr : (trU B n (unP B n (if lm = 5 then 8 else 6) 3) (nxP B n p)).1 = 0
    · by_cases h93 : tkP B n (trU B n (unP B n (if lm = 5 then 8 else 6) 3) (nxP B n p)).2.1 = 93
      · have hv2 : clP B n 93 (trU B n (unP B n (if lm = 5 then 8 else 6) 3) (nxP B n p)) = (0, nxP B n (trU B n (unP B n (if lm = 5 then 8 else 6) 3) (nxP B n p)).2.1, (trU B n (unP B n (if lm = 5 then 8 else 6) 3) (nxP B n p)).2.2) := (if_neg (not_not_intro hr)).trans (if_pos h93)
        rw [hv2] at hQ
        refine r_aloadR0 dX12_readUnit_0 ?_
        refine m_getV (x := (f A 12)) zf_RX12_112 rfl dX12_readUnit_1 (shM_k hs) (rfl) ?_
        refine t_ifeq (t := 8) dX12_readUnit_4 (by decide) (fun h4 => ?_) (fun h4 => False.elim (by omega))
        refine r_aloadR0 dX12_readUnit_8 ?_
        refine k_ldc (hld _ (List.mem_of_getElem? (i := 2) rfl)) dX12_readUnit_9 ?_
        refine q_callV1 zm_RX12_127 dX12_readUnit_11 (shM_k hs) (by decide) rfl (Nat.le_of_ble_eq_true rfl) (Nat.le_of_ble_eq_true rfl) (Nat.le_of_ble_eq_true rfl) (Nat.le_of_ble_eq_true rfl) (Nat.le_of_ble_eq_true rfl) (s_X12_isWord (i := 8) G hs kw (by decide) htp hps (fun r11 e11_z => ?_))
        have e11b : r11.toInt = 0 := e11_z.elim (fun h_z => absurd h_z.2 hw) (fun h_z => h_z.1)
        refine t_ifeq (t := 44) dX12_readUnit_14 (by decide) (fun h14 => ?_) (fun h14 => False.elim (by omega))
        refine r_aloadR0 dX12_readUnit_44 ?_
        refine n_bipush dX12_readUnit_45 (by decide) (fun r45 e45 => ?_)
        refine q_callV1 zm_RX12_175 dX12_readUnit_47 (shM_k hs) (by decide) rfl (Nat.le_of_ble_eq_true rfl) (Nat.le_of_ble_eq_true rfl) (Nat.le_of_ble_eq_true rfl) (Nat.le_of_ble_eq_true rfl) (Nat.le_of_ble_eq_true rfl) (s_X12_isSign G hs (fun r47 e47 => ?_))
        refine t_ifeq (t := 80) dX12_readUnit_50 (by decide) (fun h50 => False.elim (by omega)) (fun h50 => ?_)
        refine r_aloadR0 dX12_readUnit_53 ?_
        refine q_callV0 zm_RX12_172 dX12_readUnit_54 (shM_k hs) (by decide) rfl (Nat.le_of_ble_eq_true rfl) (Nat.le_of_ble_eq_true rfl) (Nat.le_of_ble_eq_true rfl) (Nat.le_of_ble_eq_true rfl) (Nat.le_of_ble_eq_true rfl) (s_X12_goesIn (d := 2) G hs htp hps hd16 (by decide) (by rw [hp]; decide) (fun g54 o54 a54 b54 c54 => ?_))
        have p54 := c54 (by decide)
        have htp54 := tpM_of htp (o54.2.1 5 (by decide) (by decide) (by decide)) (o54.2.2 7 (by decide))
        have w54 : g54 (A + 2) = f (A + 2) := o54.2.1 2 (by decide) (by decide) (by decide)
        refine r_aloadR0 dX12_readUnit_57 ?_
        refine q_callV0 zm_RX12_178 dX12_readUnit_58 (shM_k hs) (by decide) rfl (Nat.le_of_ble_eq_true rfl) (Nat.le_of_ble_eq_true rfl) (Nat.le_of_ble_eq_true rfl) (Nat.le_of_ble_eq_true rfl) (Nat.le_of_ble_eq_true rfl) (s_X12_readTruth_3 (lm := lm) (la := la) (u := u) G hs kw hld htp54 p54 (by rw [a54]; rfl) (by rw [o54.2.2 17 (by decide)]; exact hlm) (by rw [o54.2.2 18 (by decide)]; exact hla) (by rw [w54]; exact hu) h5 h29 h99 (by omega) (fun g58 o58 d58 p58 k58 => ?_))
        have p58b : psM B n g58 A (trU B n (unP B n (if lm = 5 then 8 else 6) 3) (nxP B n p)).1 (trU B n (unP B n (if lm = 5 then 8 else 6) 3) (nxP B n p)).2.1 := p58
        have of58 : frM A [2] [8, 9, 10, 11, 12, 13, 16] f g58 := frM_tr (frM_su o54 (by decide) (by decide)) o58
        have htp58 := tpM_of htp (of58.2.1 5 (by decide) (by decide) (by decide)) (of58.2.2 7 (by decide))
        have p58c := p58b
        rw [hr] at p58c
        refine r_aloadR0 dX12_readUnit_61 ?_
        refine n_bipush dX12_readUnit_62 (by decide) (fun r62 e62 => ?_)
        refine q_callV1 zm_RX12_151 dX12_readUnit_64 (shM_k hs) (by decide) rfl (Nat.le_of_ble_eq_true rfl) (Nat.le_of_ble_eq_true rfl) (Nat.le_of_ble_eq_true rfl) (Nat.le_of_ble_eq_true rfl) (Nat.le_of_ble_eq_true rfl) (s_X12_mustSign (p := (trU B n (unP B n (if lm = 5 then 8 else 6) 3) (nxP B n p)).2.1) (c := 93) G hs htp58 p58c e62 (by decide) (fun g64 o64 a64 b64 => ?_))
        have d64 : (g64 A 16).toInt = 3 := by rw [o64.2.2 16 (by decide)]; exact d58
        refine r_aloadR0 dX12_readUnit_67 ?_
        refine r_dup dX12_readUnit_68 rfl ?_
        refine m_getV (x := (g64 A 16)) zf_RX12_154 rfl dX12_readUnit_69 (shM_k hs) (rfl) ?_
        refine n_iconst dX12_readUnit_72 (by decide) (fun r72 e72_z => ?_)
        refine n_isub dX12_readUnit_73 (by omega) (fun r73 e73 => ?_)
        refine m_putI zf_RX12_154 (by intro C T N h_z; cases h_z; rfl) rfl dX12_readUnit_74 (shM_k hs) ?_
        obtain ⟨g74, hg74⟩ : ∃ g9, g9 = zu g64 A 16 r73 := ⟨_, rfl⟩
        rw [← hg74]
        have og74 : frM A [] [16] g64 g74 := by rw [hg74]; exact frM_zk frM_rf (by decide)
        have vg74 : g74 A 16 = r73 := by rw [hg74]; exact zu_at
        have vt74 : (g74 A 16).toInt = r73.toInt := by rw [vg74]
        refine r_goto (t := 155) dX12_readUnit_77 (by decide) ?_
        refine r_vret dX12_readUnit_155 rfl (Nat.le_of_ble_eq_true rfl) (Nat.le_of_ble_eq_true rfl) ?_
        exact hQ _ (frM_tr (frM_tr of58 (frM_su o64 (by decide) (by decide))) (frM_su og74 (by decide) (by decide))) (by rw [vt74]; omega) (psM_of (a64 h93) (og74.2.2 8 (by decide)) (og74.2.2 9 (by decide)) (og74.2.2 10 (by decide)) (og74.2.2 11 (by decide)) (og74.2.2 12 (by decide)) (og74.2.2 13 (by decide))) (fun _ => okM_cg (k58 hr) w54 ((og74.2.1 2 (by decide) (by decide) (by decide)).trans (o64.2.1 2 (by decide) (by decide) (by decide))))
      · have hv2 : clP B n 93 (trU B n (unP B n (if lm = 5 then 8 else 6) 3) (nxP B n p)) = (baP B n (trU B n (unP B n (if lm = 5 then 8 else 6) 3) (nxP B n p)).2.1, (trU B n (unP B n (if lm = 5 then 8 else 6) 3) (nxP B n p)).2.1, []) := (if_neg (not_not_intro hr)).trans (if_neg h93)
        rw [hv2] at hQ
        refine r_aloadR0 dX12_readUnit_0 ?_
        refine m_getV (x := (f A 12)) zf_RX12_112 rfl dX12_readUnit_1 (shM_k hs) (rfl) ?_
        refine t_ifeq (t := 8) dX12_readUnit_4 (by decide) (fun h4 => ?_) (fun h4 => False.elim (by omega))
        refine r_aloadR0 dX12_readUnit_8 ?_
        refine k_ldc (hld _ (List.mem_of_getElem? (i := 2) rfl)) dX12_readUnit_9 ?_
        refine q_callV1 zm_RX12_127 dX12_readUnit_11 (shM_k hs) (by decide) rfl (Nat.le_of_ble_eq_true rfl) (Nat.le_of_ble_eq_true rfl) (Nat.le_of_ble_eq_true rfl) (Nat.le_of_ble_eq_true rfl) (Nat.le_of_ble_eq_true rfl) (s_X12_isWord (i := 8) G hs kw (by decide) htp hps (fun r11 e11_z => ?_))
        have e11b : r11.toInt = 0 := e11_z.elim (fun h_z => absurd h_z.2 hw) (fun h_z => h_z.1)
        refine t_ifeq (t := 44) dX12_readUnit_14 (by decide) (fun h14 => ?_) (fun h14 => False.elim (by omega))
        refine r_aloadR0 dX12_readUnit_44 ?_
        refine n_bipush dX12_readUnit_45 (by decide) (fun r45 e45 => ?_)
        refine q_callV1 zm_RX12_175 dX12_readUnit_47 (shM_k hs) (by decide) rfl (Nat.le_of_ble_eq_true rfl) (Nat.le_of_ble_eq_true rfl) (Nat.le_of_ble_eq_true rfl) (Nat.le_of_ble_eq_true rfl) (Nat.le_of_ble_eq_true rfl) (s_X12_isSign G hs (fun r47 e47 => ?_))
        refine t_ifeq (t := 80) dX12_readUnit_50 (by decide) (fun h50 => False.elim (by omega)) (fun h50 => ?_)
        refine r_aloadR0 dX12_readUnit_53 ?_
        refine q_callV0 zm_RX12_172 dX12_readUnit_54 (shM_k hs) (by decide) rfl (Nat.le_of_ble_eq_true rfl) (Nat.le_of_ble_eq_true rfl) (Nat.le_of_ble_eq_true rfl) (Nat.le_of_ble_eq_true rfl) (Nat.le_of_ble_eq_true rfl) (s_X12_goesIn (d := 2) G hs htp hps hd16 (by decide) (by rw [hp]; decide) (fun g54 o54 a54 b54 c54 => ?_))
        have p54 := c54 (by decide)
        have htp54 := tpM_of htp (o54.2.1 5 (by decide) (by decide) (by decide)) (o54.2.2 7 (by decide))
        have w54 : g54 (A + 2) = f (A + 2) := o54.2.1 2 (by decide) (by decide) (by decide)
        refine r_aloadR0 dX12_readUnit_57 ?_
        refine q_callV0 zm_RX12_178 dX12_readUnit_58 (shM_k hs) (by decide) rfl (Nat.le_of_ble_eq_true rfl) (Nat.le_of_ble_eq_true rfl) (Nat.le_of_ble_eq_true rfl) (Nat.le_of_ble_eq_true rfl) (Nat.le_of_ble_eq_true rfl) (s_X12_readTruth_3 (lm := lm) (la := la) (u := u) G hs kw hld htp54 p54 (by rw [a54]; rfl) (by rw [o54.2.2 17 (by decide)]; exact hlm) (by rw [o54.2.2 18 (by decide)]; exact hla) (by rw [w54]; exact hu) h5 h29 h99 (by omega) (fun g58 o58 d58 p58 k58 => ?_))
        have p58b : psM B n g58 A (trU B n (unP B n (if lm = 5 then 8 else 6) 3) (nxP B n p)).1 (trU B n (unP B n (if lm = 5 then 8 else 6) 3) (nxP B n p)).2.1 := p58
        have of58 : frM A [2] [8, 9, 10, 11, 12, 13, 16] f g58 := frM_tr (frM_su o54 (by decide) (by decide)) o58
        have htp58 := tpM_of htp (of58.2.1 5 (by decide) (by decide) (by decide)) (of58.2.2 7 (by decide))
        have p58c := p58b
        rw [hr] at p58c
        refine r_aloadR0 dX12_readUnit_61 ?_
        refine n_bipush dX12_readUnit_62 (by decide) (fun r62 e62 => ?_)
        refine q_callV1 zm_RX12_151 dX12_readUnit_64 (shM_k hs) (by decide) rfl (Nat.le_of_ble_eq_true rfl) (Nat.le_of_ble_eq_true rfl) (Nat.le_of_ble_eq_true rfl) (Nat.le_of_ble_eq_true rfl) (Nat.le_of_ble_eq_true rfl) (s_X12_mustSign (p := (trU B n (unP B n (if lm = 5 then 8 else 6) 3) (nxP B n p)).2.1) (c := 93) G hs htp58 p58c e62 (by decide) (fun g64 o64 a64 b64 => ?_))
        have d64 : (g64 A 16).toInt = 3 := by rw [o64.2.2 16 (by decide)]; exact d58
        refine r_aloadR0 dX12_readUnit_67 ?_
        refine r_dup dX12_readUnit_68 rfl ?_
        refine m_getV (x := (g64 A 16)) zf_RX12_154 rfl dX12_readUnit_69 (shM_k hs) (rfl) ?_
        refine n_iconst dX12_readUnit_72 (by decide) (fun r72 e72_z => ?_)
        refine n_isub dX12_readUnit_73 (by omega) (fun r73 e73 => ?_)
        refine m_putI zf_RX12_154 (by intro C T N h_z; cases h_z; rfl) rfl dX12_readUnit_74 (shM_k hs) ?_
        obtain ⟨g74, hg74⟩ : ∃ g9, g9 = zu g64 A 16 r73 := ⟨_, rfl⟩
        rw [← hg74]
        have og74 : frM A [] [16] g64 g74 := by rw [hg74]; exact frM_zk frM_rf (by decide)
        have vg74 : g74 A 16 = r73 := by rw [hg74]; exact zu_at
        have vt74 : (g74 A 16).toInt = r73.toInt := by rw [vg74]
        refine r_goto (t := 155) dX12_readUnit_77 (by decide) ?_
        refine r_vret dX12_readUnit_155 rfl (Nat.le_of_ble_eq_true rfl) (Nat.le_of_ble_eq_true rfl) ?_
        exact hQ _ (frM_tr (frM_tr of58 (frM_su o64 (by decide) (by decide))) (frM_su og74 (by decide) (by decide))) (by rw [vt74]; omega) (psM_of (b64 h93) (og74.2.2 8 (by decide)) (og74.2.2 9 (by decide)) (og74.2.2 10 (by decide)) (og74.2.2 11 (by decide)) (og74.2.2 12 (by decide)) (og74.2.2 13 (by decide))) (fun h_z => absurd h_z ba_bd.1)
    · have hv2 : clP B n 93 (trU B n (unP B n (if lm = 5 then 8 else 6) 3) (nxP B n p)) = (trU B n (unP B n (if lm = 5 then 8 else 6) 3) (nxP B n p)) := if_pos hr
      rw [hv2] at hQ
      refine r_aloadR0 dX12_readUnit_0 ?_
      refine m_getV (x := (f A 12)) zf_RX12_112 rfl dX12_readUnit_1 (shM_k hs) (rfl) ?_
      refine t_ifeq (t := 8) dX12_readUnit_4 (by decide) (fun h4 => ?_) (fun h4 => False.elim (by omega))
      refine r_aloadR0 dX12_readUnit_8 ?_
      refine k_ldc (hld _ (List.mem_of_getElem? (i := 2) rfl)) dX12_readUnit_9 ?_
      refine q_callV1 zm_RX12_127 dX12_readUnit_11 (shM_k hs) (by decide) rfl (Nat.le_of_ble_eq_true rfl) (Nat.le_of_ble_eq_true rfl) (Nat.le_of_ble_eq_true rfl) (Nat.le_of_ble_eq_true rfl) (Nat.le_of_ble_eq_true rfl) (s_X12_isWord (i := 8) G hs kw (by decide) htp hps (fun r11 e11_z => ?_))
      have e11b : r11.toInt = 0 := e11_z.elim (fun h_z => absurd h_z.2 hw) (fun h_z => h_z.1)
      refine t_ifeq (t := 44) dX12_readUnit_14 (by decide) (fun h14 => ?_) (fun h14 => False.elim (by omega))
      refine r_aloadR0 dX12_readUnit_44 ?_
      refine n_bipush dX12_readUnit_45 (by decide) (fun r45 e45 => ?_)
      refine q_callV1 zm_RX12_175 dX12_readUnit_47 (shM_k hs) (by decide) rfl (Nat.le_of_ble_eq_true rfl) (Nat.le_of_ble_eq_true rfl) (Nat.le_of_ble_eq_true rfl) (Nat.le_of_ble_eq_true rfl) (Nat.le_of_ble_eq_true rfl) (s_X12_isSign G hs (fun r47 e47 => ?_))
      refine t_ifeq (t := 80) dX12_readUnit_50 (by decide) (fun h50 => False.elim (by omega)) (fun h50 => ?_)
      refine r_aloadR0 dX12_readUnit_53 ?_
      refine q_callV0 zm_RX12_172 dX12_readUnit_54 (shM_k hs) (by decide) rfl (Nat.le_of_ble_eq_true rfl) (Nat.le_of_ble_eq_true rfl) (Nat.le_of_ble_eq_true rfl) (Nat.le_of_ble_eq_true rfl) (Nat.le_of_ble_eq_true rfl) (s_X12_goesIn (d := 2) G hs htp hps hd16 (by decide) (by rw [hp]; decide) (fun g54 o54 a54 b54 c54 => ?_))
      have p54 := c54 (by decide)
      have htp54 := tpM_of htp (o54.2.1 5 (by decide) (by decide) (by decide)) (o54.2.2 7 (by decide))
      have w54 : g54 (A + 2) = f (A + 2) := o54.2.1 2 (by decide) (by decide) (by decide)
      refine r_aloadR0 dX12_readUnit_57 ?_
      refine q_callV0 zm_RX12_178 dX12_readUnit_58 (shM_k hs) (by decide) rfl (Nat.le_of_ble_eq_true rfl) (Nat.le_of_ble_eq_true rfl) (Nat.le_of_ble_eq_true rfl) (Nat.le_of_ble_eq_true rfl) (Nat.le_of_ble_eq_true rfl) (s_X12_readTruth_3 (lm := lm) (la := la) (u := u) G hs kw hld htp54 p54 (by rw [a54]; rfl) (by rw [o54.2.2 17 (by decide)]; exact hlm) (by rw [o54.2.2 18 (by decide)]; exact hla) (by rw [w54]; exact hu) h5 h29 h99 (by omega) (fun g58 o58 d58 p58 k58 => ?_))
      have p58b : psM B n g58 A (trU B n (unP B n (if lm = 5 then 8 else 6) 3) (nxP B n p)).1 (trU B n (unP B n (if lm = 5 then 8 else 6) 3) (nxP B n p)).2.1 := p58
      have of58 : frM A [2] [8, 9, 10, 11, 12, 13, 16] f g58 := frM_tr (frM_su o54 (by decide) (by decide)) o58
      have htp58 := tpM_of htp (of58.2.1 5 (by decide) (by decide) (by decide)) (of58.2.2 7 (by decide))
      have nb : (g58 A 12).toInt ≠ 0 := by rw [p58b.1]; omega
      have d58b : (g58 A 16).toInt = 3 := d58
      refine r_aloadR0 dX12_readUnit_61 ?_
      refine n_bipush dX12_readUnit_62 (by decide) (fun r62 e62 => ?_)
      refine q_callV1 zm_RX12_151 dX12_readUnit_64 (shM_k hs) (by decide) rfl (Nat.le_of_ble_eq_true rfl) (Nat.le_of_ble_eq_true rfl) (Nat.le_of_ble_eq_true rfl) (Nat.le_of_ble_eq_true rfl) (Nat.le_of_ble_eq_true rfl) (s_X12_mustSign_x G hs nb ?_)
      refine r_aloadR0 dX12_readUnit_67 ?_
      refine r_dup dX12_readUnit_68 rfl ?_
      refine m_getV (x := (g58 A 16)) zf_RX12_154 rfl dX12_readUnit_69 (shM_k hs) (rfl) ?_
      refine n_iconst dX12_readUnit_72 (by decide) (fun r72 e72_z => ?_)
      refine n_isub dX12_readUnit_73 (by omega) (fun r73 e73 => ?_)
      refine m_putI zf_RX12_154 (by intro C T N h_z; cases h_z; rfl) rfl dX12_readUnit_74 (shM_k hs) ?_
      obtain ⟨g74, hg74⟩ : ∃ g9, g9 = zu g58 A 16 r73 := ⟨_, rfl⟩
      rw [← hg74]
      have og74 : frM A [] [16] g58 g74 := by rw [hg74]; exact frM_zk frM_rf (by decide)
      have vg74 : g74 A 16 = r73 := by rw [hg74]; exact zu_at
      have vt74 : (g74 A 16).toInt = r73.toInt := by rw [vg74]
      refine r_goto (t := 155) dX12_readUnit_77 (by decide) ?_
      refine r_vret dX12_readUnit_155 rfl (Nat.le_of_ble_eq_true rfl) (Nat.le_of_ble_eq_true rfl) ?_
      exact hQ _ (frM_tr of58 (frM_su og74 (by decide) (by decide))) (by rw [vt74]; omega) (psM_of p58b (og74.2.2 8 (by decide)) (og74.2.2 9 (by decide)) (og74.2.2 10 (by decide)) (og74.2.2 11 (by decide)) (og74.2.2 12 (by decide)) (og74.2.2 13 (by decide))) (fun h_z => absurd h_z hr)
  have hrk2 : rkP B n p ≠ 91 := fun h_z => hp (hrk.mp h_z)
  have hv0 : unP B n (if lm = 5 then 8 else 6) 4 p = cmP B n (smP B n (if lm = 5 then 8 else 6) 4) p := (if_neg hw).trans (if_neg hp)
  rw [hv0] at hQ
  by_cases hr : (smP B n (if lm = 5 then 8 else 6) 4 p).1 = 0
  · have p81c : ∀ g, psM B n g A (smP B n (if lm = 5 then 8 else 6) 4 p).1 (smP B n (if lm = 5 then 8 else 6) 4 p).2.1 → psM B n g A 0 (smP B n (if lm = 5 then 8 else 6) 4 p).2.1 := fun g h_z => by rw [hr] at h_z; exact h_z
    obtain ⟨y1, y2, y3, y4⟩ := (hsm p ht.1).1 hr
    have q61 := rk4 (B := B) (n := n) (s := (smP B n (if lm = 5 then 8 else 6) 4 p).2.1) (c := 61) (by decide)
    have q60 := rk4 (B := B) (n := n) (s := (smP B n (if lm = 5 then 8 else 6) 4 p).2.1) (c := 60) (by decide)
    have q62 := rk4 (B := B) (n := n) (s := (smP B n (if lm = 5 then 8 else 6) 4 p).2.1) (c := 62) (by decide)
    by_cases hc_z : tkP B n (smP B n (if lm = 5 then 8 else 6) 4 p).2.1 = 61
    · have h10c := q61.mpr hc_z
      have hop : opC B n (smP B n (if lm = 5 then 8 else 6) 4 p).2.1 = 2006 := if_pos hc_z
      have hop0 : opC B n (smP B n (if lm = 5 then 8 else 6) 4 p).2.1 ≠ 0 := by rw [hop]; decide
      have hln := tk_lt (B := B) (n := n) (s := (smP B n (if lm = 5 then 8 else 6) 4 p).2.1) (by rw [hc_z]; decide)
      have hnx := nxP_gt (B := B) hln
      by_cases hq : (smP B n (if lm = 5 then 8 else 6) 4 (nxP B n (smP B n (if lm = 5 then 8 else 6) 4 p).2.1)).1 = 0
      · obtain ⟨z1, z2, z3, z4⟩ := (hsm _ hnx.2).1 hq
        have hv : cmP B n (smP B n (if lm = 5 then 8 else 6) 4) p = (0, (smP B n (if lm = 5 then 8 else 6) 4 (nxP B n (smP B n (if lm = 5 then 8 else 6) 4 p).2.1)).2.1, (smP B n (if lm = 5 then 8 else 6) 4 p).2.2 ++ (smP B n (if lm = 5 then 8 else 6) 4 (nxP B n (smP B n (if lm = 5 then 8 else 6) 4 p).2.1)).2.2 ++ [opC B n (smP B n (if lm = 5 then 8 else 6) 4 p).2.1]) := (if_neg (not_not_intro hr)).trans ((if_neg hop0).trans (if_neg (not_not_intro hq)))
        rw [hv, hop] at hQ
        refine r_aloadR0 dX12_readUnit_0 ?_
        refine m_getV (x := (f A 12)) zf_RX12_112 rfl dX12_readUnit_1 (shM_k hs) (rfl) ?_
        refine t_ifeq (t := 8) dX12_readUnit_4 (by decide) (fun h4 => ?_) (fun h4 => False.elim (by omega))
        refine r_aloadR0 dX12_readUnit_8 ?_
        refine k_ldc (hld _ (List.mem_of_getElem? (i := 2) rfl)) dX12_readUnit_9 ?_
        refine q_callV1 zm_RX12_127 dX12_readUnit_11 (shM_k hs) (by decide) rfl (Nat.le_of_ble_eq_true rfl) (Nat.le_of_ble_eq_true rfl) (Nat.le_of_ble_eq_true rfl) (Nat.le_of_ble_eq_true rfl) (Nat.le_of_ble_eq_true rfl) (s_X12_isWord (i := 8) G hs kw (by decide) htp hps (fun r11 e11_z => ?_))
        have e11b : r11.toInt = 0 := e11_z.elim (fun h_z => absurd h_z.2 hw) (fun h_z => h_z.1)
        refine t_ifeq (t := 44) dX12_readUnit_14 (by decide) (fun h14 => ?_) (fun h14 => False.elim (by omega))
        refine r_aloadR0 dX12_readUnit_44 ?_
        refine n_bipush dX12_readUnit_45 (by decide) (fun r45 e45 => ?_)
        refine q_callV1 zm_RX12_175 dX12_readUnit_47 (shM_k hs) (by decide) rfl (Nat.le_of_ble_eq_true rfl) (Nat.le_of_ble_eq_true rfl) (Nat.le_of_ble_eq_true rfl) (Nat.le_of_ble_eq_true rfl) (Nat.le_of_ble_eq_true rfl) (s_X12_isSign G hs (fun r47 e47 => ?_))
        refine t_ifeq (t := 80) dX12_readUnit_50 (by decide) (fun h50 => ?_) (fun h50 => False.elim (by omega))
        refine r_aloadR0 dX12_readUnit_80 ?_
        refine q_callV0 zm_RX12_181 dX12_readUnit_81 (shM_k hs) (by decide) rfl (Nat.le_of_ble_eq_true rfl) (Nat.le_of_ble_eq_true rfl) (Nat.le_of_ble_eq_true rfl) (Nat.le_of_ble_eq_true rfl) (Nat.le_of_ble_eq_true rfl) (s_X12_readSum_4 (lm := lm) (la := la) (u := u) G hs kw hld htp hps hd16 hlm hla hu h5 h29 h99 hup (fun g81 o81 d81 p81 k81 => ?_))
        have p81b : psM B n g81 A (smP B n (if lm = 5 then 8 else 6) 4 p).1 (smP B n (if lm = 5 then 8 else 6) 4 p).2.1 := p81
        have k81b : (smP B n (if lm = 5 then 8 else 6) 4 p).1 = 0 → okM f g81 A lm la u (smP B n (if lm = 5 then 8 else 6) 4 p).2.2 := k81
        have p81d := p81c _ p81b
        have t81 := p81d.2.1 rfl
        have h81 := t81.2.2.2.1
        have b81 := p81d.1
        have hte81 := teP_le (B := B) t81.1
        have htp81 := tpM_of htp (o81.2.1 5 (by decide) (by decide) (by decide)) (o81.2.2 7 (by decide))
        have k81c := k81b hr
        refine r_aloadR0 dX12_readUnit_84 ?_
        refine m_getV (x := (g81 A 10)) zf_RX12_92 rfl dX12_readUnit_85 (shM_k hs) (rfl) ?_
        refine r_istore1 dX12_readUnit_88 rfl ?_
        refine r_iload1 dX12_readUnit_89 ?_
        refine n_bipush dX12_readUnit_90 (by decide) (fun r90 e90_z => ?_)
        refine t_iceq (t := 112) dX12_readUnit_92 (by decide) (fun h92 => ?_) (fun h92 => False.elim (by omega))
        refine r_aloadR0 dX12_readUnit_112 ?_
        refine m_getV (x := (g81 A 12)) zf_RX12_112 rfl dX12_readUnit_113 (shM_k hs) (rfl) ?_
        refine t_ifne (t := 123) dX12_readUnit_116 (by decide) (fun h116 => False.elim (by omega)) (fun h116 => ?_)
        refine r_aloadR0 dX12_readUnit_119 ?_
        refine q_callV0 zm_RX12_131 dX12_readUnit_120 (shM_k hs) (by decide) rfl (Nat.le_of_ble_eq_true rfl) (Nat.le_of_ble_eq_true rfl) (Nat.le_of_ble_eq_true rfl) (Nat.le_of_ble_eq_true rfl) (Nat.le_of_ble_eq_true rfl) (s_X12_readsOn (p := teP B n (smP B n (if lm = 5 then 8 else 6) 4 p).2.1) G hs htp81 t81.2.1 hte81 (fun g120 o120 t120 => ?_))
        have htp120 := tpM_of htp81 (o120.2.1 5 (by decide) (by decide) (by decide)) (o120.2.2 7 (by decide))
        have hp120 : psM B n g120 A 0 (nxP B n (smP B n (if lm = 5 then 8 else 6) 4 p).2.1) := ⟨by rw [o120.2.2 12 (by decide)]; exact b81, fun _ => t120, fun h_z => absurd rfl h_z⟩
        have w120 : g120 (A + 2) = g81 (A + 2) := o120.2.1 2 (by decide) (by decide) (by decide)
        refine r_aloadR0 dX12_readUnit_123 ?_
        refine q_callV0 zm_RX12_181 dX12_readUnit_124 (shM_k hs) (by decide) rfl (Nat.le_of_ble_eq_true rfl) (Nat.le_of_ble_eq_true rfl) (Nat.le_of_ble_eq_true rfl) (Nat.le_of_ble_eq_true rfl) (Nat.le_of_ble_eq_true rfl) (s_X12_readSum_4 (lm := lm) (la := la) (u := u + (smP B n (if lm = 5 then 8 else 6) 4 p).2.2.length) G hs kw hld htp120 hp120 (by rw [o120.2.2 16 (by decide)]; exact d81) (by rw [o120.2.2 17 (by decide), o81.2.2 17 (by decide)]; exact hlm) (by rw [o120.2.2 18 (by decide), o81.2.2 18 (by decide)]; exact hla) (by rw [w120]; exact k81c.1) h5 h29 h99 (by omega) (fun g124 o124 d124 p124 k124 => ?_))
        have of124 : frM A [2] [8, 9, 10, 11, 12, 13, 16] f g124 := frM_tr o81 (frM_tr (frM_su o120 (by decide) (by decide)) o124)
        have p124b : psM B n g124 A (smP B n (if lm = 5 then 8 else 6) 4 (nxP B n (smP B n (if lm = 5 then 8 else 6) 4 p).2.1)).1 (smP B n (if lm = 5 then 8 else 6) 4 (nxP B n (smP B n (if lm = 5 then 8 else 6) 4 p).2.1)).2.1 := p124
        have k124b : (smP B n (if lm = 5 then 8 else 6) 4 (nxP B n (smP B n (if lm = 5 then 8 else 6) 4 p).2.1)).1 = 0 → okM g120 g124 A lm la (u + (smP B n (if lm = 5 then 8 else 6) 4 p).2.2.length) (smP B n (if lm = 5 then 8 else 6) 4 (nxP B n (smP B n (if lm = 5 then 8 else 6) 4 p).2.1)).2.2 := k124
        refine r_aloadR0 dX12_readUnit_127 ?_
        refine r_iload1 dX12_readUnit_128 ?_
        refine n_bipush dX12_readUnit_129 (by decide) (fun r129 e129 => ?_)
        refine t_icne (t := 139) dX12_readUnit_131 (by decide) (fun h131 => False.elim (by omega)) (fun h131 => ?_)
        refine n_bipush dX12_readUnit_134 (by decide) (fun r134 e134 => ?_)
        refine r_goto (t := 152) dX12_readUnit_136 (by decide) ?_
        refine q_callV1 zm_RX12_162 dX12_readUnit_152 (shM_k hs) (by decide) rfl (Nat.le_of_ble_eq_true rfl) (Nat.le_of_ble_eq_true rfl) (Nat.le_of_ble_eq_true rfl) (Nat.le_of_ble_eq_true rfl) (Nat.le_of_ble_eq_true rfl) (s_X12_laysStep (lm := lm) (la := la) (u := u + (smP B n (if lm = 5 then 8 else 6) 4 p).2.2.length + (smP B n (if lm = 5 then 8 else 6) 4 (nxP B n (smP B n (if lm = 5 then 8 else 6) 4 p).2.1)).2.2.length) G hs (by have := p124b.1; rw [hq] at this; exact this) (by rw [of124.2.2 17 (by decide)]; exact hlm) (by rw [of124.2.2 18 (by decide)]; exact hla) (k124b hq).1 h5 h29 (by omega) (fun g152 o152 a152 b152 c152 => ?_))
        have p124c := p124b
        rw [hq] at p124c
        refine r_vret dX12_readUnit_155 rfl (Nat.le_of_ble_eq_true rfl) (Nat.le_of_ble_eq_true rfl) ?_
        refine hQ _ (frM_tr of124 (frM_su o152 (by decide) (by decide))) (by rw [o152.2.2 16 (by decide)]; exact d124) (psM_of p124c (o152.2.2 8 (by decide)) (o152.2.2 9 (by decide)) (o152.2.2 10 (by decide)) (o152.2.2 11 (by decide)) (o152.2.2 12 (by decide)) (o152.2.2 13 (by decide))) (fun _ => okM_ap (by omega) (by rw [List.length_append]; omega) (okM_ap (by omega) (by omega) k81c (okM_cg (k124b hq) w120 rfl)) ?_)
        rw [List.length_append, ← Nat.add_assoc]
        exact okM_one (by omega) a152 b152 c152 (by rw [e134]; rfl)
      · have hv : cmP B n (smP B n (if lm = 5 then 8 else 6) 4) p = (smP B n (if lm = 5 then 8 else 6) 4 (nxP B n (smP B n (if lm = 5 then 8 else 6) 4 p).2.1)) := (if_neg (not_not_intro hr)).trans ((if_neg hop0).trans (if_pos hq))
        rw [hv] at hQ
        refine r_aloadR0 dX12_readUnit_0 ?_
        refine m_getV (x := (f A 12)) zf_RX12_112 rfl dX12_readUnit_1 (shM_k hs) (rfl) ?_
        refine t_ifeq (t := 8) dX12_readUnit_4 (by decide) (fun h4 => ?_) (fun h4 => False.elim (by omega))
        refine r_aloadR0 dX12_readUnit_8 ?_
        refine k_ldc (hld _ (List.mem_of_getElem? (i := 2) rfl)) dX12_readUnit_9 ?_
        refine q_callV1 zm_RX12_127 dX12_readUnit_11 (shM_k hs) (by decide) rfl (Nat.le_of_ble_eq_true rfl) (Nat.le_of_ble_eq_true rfl) (Nat.le_of_ble_eq_true rfl) (Nat.le_of_ble_eq_true rfl) (Nat.le_of_ble_eq_true rfl) (s_X12_isWord (i := 8) G hs kw (by decide) htp hps (fun r11 e11_z => ?_))
        have e11b : r11.toInt = 0 := e11_z.elim (fun h_z => absurd h_z.2 hw) (fun h_z => h_z.1)
        refine t_ifeq (t := 44) dX12_readUnit_14 (by decide) (fun h14 => ?_) (fun h14 => False.elim (by omega))
        refine r_aloadR0 dX12_readUnit_44 ?_
        refine n_bipush dX12_readUnit_45 (by decide) (fun r45 e45 => ?_)
        refine q_callV1 zm_RX12_175 dX12_readUnit_47 (shM_k hs) (by decide) rfl (Nat.le_of_ble_eq_true rfl) (Nat.le_of_ble_eq_true rfl) (Nat.le_of_ble_eq_true rfl) (Nat.le_of_ble_eq_true rfl) (Nat.le_of_ble_eq_true rfl) (s_X12_isSign G hs (fun r47 e47 => ?_))
        refine t_ifeq (t := 80) dX12_readUnit_50 (by decide) (fun h50 => ?_) (fun h50 => False.elim (by omega))
        refine r_aloadR0 dX12_readUnit_80 ?_
        refine q_callV0 zm_RX12_181 dX12_readUnit_81 (shM_k hs) (by decide) rfl (Nat.le_of_ble_eq_true rfl) (Nat.le_of_ble_eq_true rfl) (Nat.le_of_ble_eq_true rfl) (Nat.le_of_ble_eq_true rfl) (Nat.le_of_ble_eq_true rfl) (s_X12_readSum_4 (lm := lm) (la := la) (u := u) G hs kw hld htp hps hd16 hlm hla hu h5 h29 h99 hup (fun g81 o81 d81 p81 k81 => ?_))
        have p81b : psM B n g81 A (smP B n (if lm = 5 then 8 else 6) 4 p).1 (smP B n (if lm = 5 then 8 else 6) 4 p).2.1 := p81
        have k81b : (smP B n (if lm = 5 then 8 else 6) 4 p).1 = 0 → okM f g81 A lm la u (smP B n (if lm = 5 then 8 else 6) 4 p).2.2 := k81
        have p81d := p81c _ p81b
        have t81 := p81d.2.1 rfl
        have h81 := t81.2.2.2.1
        have b81 := p81d.1
        have hte81 := teP_le (B := B) t81.1
        have htp81 := tpM_of htp (o81.2.1 5 (by decide) (by decide) (by decide)) (o81.2.2 7 (by decide))
        have k81c := k81b hr
        refine r_aloadR0 dX12_readUnit_84 ?_
        refine m_getV (x := (g81 A 10)) zf_RX12_92 rfl dX12_readUnit_85 (shM_k hs) (rfl) ?_
        refine r_istore1 dX12_readUnit_88 rfl ?_
        refine r_iload1 dX12_readUnit_89 ?_
        refine n_bipush dX12_readUnit_90 (by decide) (fun r90 e90_z => ?_)
        refine t_iceq (t := 112) dX12_readUnit_92 (by decide) (fun h92 => ?_) (fun h92 => False.elim (by omega))
        refine r_aloadR0 dX12_readUnit_112 ?_
        refine m_getV (x := (g81 A 12)) zf_RX12_112 rfl dX12_readUnit_113 (shM_k hs) (rfl) ?_
        refine t_ifne (t := 123) dX12_readUnit_116 (by decide) (fun h116 => False.elim (by omega)) (fun h116 => ?_)
        refine r_aloadR0 dX12_readUnit_119 ?_
        refine q_callV0 zm_RX12_131 dX12_readUnit_120 (shM_k hs) (by decide) rfl (Nat.le_of_ble_eq_true rfl) (Nat.le_of_ble_eq_true rfl) (Nat.le_of_ble_eq_true rfl) (Nat.le_of_ble_eq_true rfl) (Nat.le_of_ble_eq_true rfl) (s_X12_readsOn (p := teP B n (smP B n (if lm = 5 then 8 else 6) 4 p).2.1) G hs htp81 t81.2.1 hte81 (fun g120 o120 t120 => ?_))
        have htp120 := tpM_of htp81 (o120.2.1 5 (by decide) (by decide) (by decide)) (o120.2.2 7 (by decide))
        have hp120 : psM B n g120 A 0 (nxP B n (smP B n (if lm = 5 then 8 else 6) 4 p).2.1) := ⟨by rw [o120.2.2 12 (by decide)]; exact b81, fun _ => t120, fun h_z => absurd rfl h_z⟩
        have w120 : g120 (A + 2) = g81 (A + 2) := o120.2.1 2 (by decide) (by decide) (by decide)
        refine r_aloadR0 dX12_readUnit_123 ?_
        refine q_callV0 zm_RX12_181 dX12_readUnit_124 (shM_k hs) (by decide) rfl (Nat.le_of_ble_eq_true rfl) (Nat.le_of_ble_eq_true rfl) (Nat.le_of_ble_eq_true rfl) (Nat.le_of_ble_eq_true rfl) (Nat.le_of_ble_eq_true rfl) (s_X12_readSum_4 (lm := lm) (la := la) (u := u + (smP B n (if lm = 5 then 8 else 6) 4 p).2.2.length) G hs kw hld htp120 hp120 (by rw [o120.2.2 16 (by decide)]; exact d81) (by rw [o120.2.2 17 (by decide), o81.2.2 17 (by decide)]; exact hlm) (by rw [o120.2.2 18 (by decide), o81.2.2 18 (by decide)]; exact hla) (by rw [w120]; exact k81c.1) h5 h29 h99 (by omega) (fun g124 o124 d124 p124 k124 => ?_))
        have of124 : frM A [2] [8, 9, 10, 11, 12, 13, 16] f g124 := frM_tr o81 (frM_tr (frM_su o120 (by decide) (by decide)) o124)
        have p124b : psM B n g124 A (smP B n (if lm = 5 then 8 else 6) 4 (nxP B n (smP B n (if lm = 5 then 8 else 6) 4 p).2.1)).1 (smP B n (if lm = 5 then 8 else 6) 4 (nxP B n (smP B n (if lm = 5 then 8 else 6) 4 p).2.1)).2.1 := p124
        have k124b : (smP B n (if lm = 5 then 8 else 6) 4 (nxP B n (smP B n (if lm = 5 then 8 else 6) 4 p).2.1)).1 = 0 → okM g120 g124 A lm la (u + (smP B n (if lm = 5 then 8 else 6) 4 p).2.2.length) (smP B n (if lm = 5 then 8 else 6) 4 (nxP B n (smP B n (if lm = 5 then 8 else 6) 4 p).2.1)).2.2 := k124
        refine r_aloadR0 dX12_readUnit_127 ?_
        refine r_iload1 dX12_readUnit_128 ?_
        refine n_bipush dX12_readUnit_129 (by decide) (fun r129 e129 => ?_)
        refine t_icne (t := 139) dX12_readUnit_131 (by decide) (fun h131 => False.elim (by omega)) (fun h131 => ?_)
        refine n_bipush dX12_readUnit_134 (by decide) (fun r134 e134 => ?_)
        refine r_goto (t := 152) dX12_readUnit_136 (by decide) ?_
        refine q_callV1 zm_RX12_162 dX12_readUnit_152 (shM_k hs) (by decide) rfl (Nat.le_of_ble_eq_true rfl) (Nat.le_of_ble_eq_true rfl) (Nat.le_of_ble_eq_true rfl) (Nat.le_of_ble_eq_true rfl) (Nat.le_of_ble_eq_true rfl) (s_X12_laysStep_x G hs (by rw [p124b.1]; omega) ?_)
        refine r_vret dX12_readUnit_155 rfl (Nat.le_of_ble_eq_true rfl) (Nat.le_of_ble_eq_true rfl) ?_
        exact hQ _ of124 d124 p124b (fun h_z => absurd h_z hq)
    have hn61 := hc_z
    have hm61 : rkP B n (smP B n (if lm = 5 then 8 else 6) 4 p).2.1 ≠ 61 := fun h_z => hc_z (q61.mp h_z)
    clear hc_z
    by_cases hc_z : tkP B n (smP B n (if lm = 5 then 8 else 6) 4 p).2.1 = 60
    · have h10c := q60.mpr hc_z
      have hop : opC B n (smP B n (if lm = 5 then 8 else 6) 4 p).2.1 = 2007 := (if_neg (by omega)).trans (if_pos hc_z)
      have hop0 : opC B n (smP B n (if lm = 5 then 8 else 6) 4 p).2.1 ≠ 0 := by rw [hop]; decide
      have hln := tk_lt (B := B) (n := n) (s := (smP B n (if lm = 5 then 8 else 6) 4 p).2.1) (by rw [hc_z]; decide)
      have hnx := nxP_gt (B := B) hln
      by_cases hq : (smP B n (if lm = 5 then 8 else 6) 4 (nxP B n (smP B n (if lm = 5 then 8 else 6) 4 p).2.1)).1 = 0
      · obtain ⟨z1, z2, z3, z4⟩ := (hsm _ hnx.2).1 hq
        have hv : cmP B n (smP B n (if lm = 5 then 8 else 6) 4) p = (0, (smP B n (if lm = 5 then 8 else 6) 4 (nxP B n (smP B n (if lm = 5 then 8 else 6) 4 p).2.1)).2.1, (smP B n (if lm = 5 then 8 else 6) 4 p).2.2 ++ (smP B n (if lm = 5 then 8 else 6) 4 (nxP B n (smP B n (if lm = 5 then 8 else 6) 4 p).2.1)).2.2 ++ [opC B n (smP B n (if lm = 5 then 8 else 6) 4 p).2.1]) := (if_neg (not_not_intro hr)).trans ((if_neg hop0).trans (if_neg (not_not_intro hq)))
        rw [hv, hop] at hQ
        refine r_aloadR0 dX12_readUnit_0 ?_
        refine m_getV (x := (f A 12)) zf_RX12_112 rfl dX12_readUnit_1 (shM_k hs) (rfl) ?_
        refine t_ifeq (t := 8) dX12_readUnit_4 (by decide) (fun h4 => ?_) (fun h4 => False.elim (by omega))
        refine r_aloadR0 dX12_readUnit_8 ?_
        refine k_ldc (hld _ (List.mem_of_getElem? (i := 2) rfl)) dX12_readUnit_9 ?_
        refine q_callV1 zm_RX12_127 dX12_readUnit_11 (shM_k hs) (by decide) rfl (Nat.le_of_ble_eq_true rfl) (Nat.le_of_ble_eq_true rfl) (Nat.le_of_ble_eq_true rfl) (Nat.le_of_ble_eq_true rfl) (Nat.le_of_ble_eq_true rfl) (s_X12_isWord (i := 8) G hs kw (by decide) htp hps (fun r11 e11_z => ?_))
        have e11b : r11.toInt = 0 := e11_z.elim (fun h_z => absurd h_z.2 hw) (fun h_z => h_z.1)
        refine t_ifeq (t := 44) dX12_readUnit_14 (by decide) (fun h14 => ?_) (fun h14 => False.elim (by omega))
        refine r_aloadR0 dX12_readUnit_44 ?_
        refine n_bipush dX12_readUnit_45 (by decide) (fun r45 e45 => ?_)
        refine q_callV1 zm_RX12_175 dX12_readUnit_47 (shM_k hs) (by decide) rfl (Nat.le_of_ble_eq_true rfl) (Nat.le_of_ble_eq_true rfl) (Nat.le_of_ble_eq_true rfl) (Nat.le_of_ble_eq_true rfl) (Nat.le_of_ble_eq_true rfl) (s_X12_isSign G hs (fun r47 e47 => ?_))
        refine t_ifeq (t := 80) dX12_readUnit_50 (by decide) (fun h50 => ?_) (fun h50 => False.elim (by omega))
        refine r_aloadR0 dX12_readUnit_80 ?_
        refine q_callV0 zm_RX12_181 dX12_readUnit_81 (shM_k hs) (by decide) rfl (Nat.le_of_ble_eq_true rfl) (Nat.le_of_ble_eq_true rfl) (Nat.le_of_ble_eq_true rfl) (Nat.le_of_ble_eq_true rfl) (Nat.le_of_ble_eq_true rfl) (s_X12_readSum_4 (lm := lm) (la := la) (u := u) G hs kw hld htp hps hd16 hlm hla hu h5 h29 h99 hup (fun g81 o81 d81 p81 k81 => ?_))
        have p81b : psM B n g81 A (smP B n (if lm = 5 then 8 else 6) 4 p).1 (smP B n (if lm = 5 then 8 else 6) 4 p).2.1 := p81
        have k81b : (smP B n (if lm = 5 then 8 else 6) 4 p).1 = 0 → okM f g81 A lm la u (smP B n (if lm = 5 then 8 else 6) 4 p).2.2 := k81
        have p81d := p81c _ p81b
        have t81 := p81d.2.1 rfl
        have h81 := t81.2.2.2.1
        have b81 := p81d.1
        have hte81 := teP_le (B := B) t81.1
        have htp81 := tpM_of htp (o81.2.1 5 (by decide) (by decide) (by decide)) (o81.2.2 7 (by decide))
        have k81c := k81b hr
        refine r_aloadR0 dX12_readUnit_84 ?_
        refine m_getV (x := (g81 A 10)) zf_RX12_92 rfl dX12_readUnit_85 (shM_k hs) (rfl) ?_
        refine r_istore1 dX12_readUnit_88 rfl ?_
        refine r_iload1 dX12_readUnit_89 ?_
        refine n_bipush dX12_readUnit_90 (by decide) (fun r90 e90_z => ?_)
        refine t_iceq (t := 112) dX12_readUnit_92 (by decide) (fun h92 => False.elim (by omega)) (fun h92 => ?_)
        refine r_iload1 dX12_readUnit_95 ?_
        refine n_bipush dX12_readUnit_96 (by decide) (fun r96 e96 => ?_)
        refine t_iceq (t := 112) dX12_readUnit_98 (by decide) (fun h98 => ?_) (fun h98 => False.elim (by omega))
        refine r_aloadR0 dX12_readUnit_112 ?_
        refine m_getV (x := (g81 A 12)) zf_RX12_112 rfl dX12_readUnit_113 (shM_k hs) (rfl) ?_
        refine t_ifne (t := 123) dX12_readUnit_116 (by decide) (fun h116 => False.elim (by omega)) (fun h116 => ?_)
        refine r_aloadR0 dX12_readUnit_119 ?_
        refine q_callV0 zm_RX12_131 dX12_readUnit_120 (shM_k hs) (by decide) rfl (Nat.le_of_ble_eq_true rfl) (Nat.le_of_ble_eq_true rfl) (Nat.le_of_ble_eq_true rfl) (Nat.le_of_ble_eq_true rfl) (Nat.le_of_ble_eq_true rfl) (s_X12_readsOn (p := teP B n (smP B n (if lm = 5 then 8 else 6) 4 p).2.1) G hs htp81 t81.2.1 hte81 (fun g120 o120 t120 => ?_))
        have htp120 := tpM_of htp81 (o120.2.1 5 (by decide) (by decide) (by decide)) (o120.2.2 7 (by decide))
        have hp120 : psM B n g120 A 0 (nxP B n (smP B n (if lm = 5 then 8 else 6) 4 p).2.1) := ⟨by rw [o120.2.2 12 (by decide)]; exact b81, fun _ => t120, fun h_z => absurd rfl h_z⟩
        have w120 : g120 (A + 2) = g81 (A + 2) := o120.2.1 2 (by decide) (by decide) (by decide)
        refine r_aloadR0 dX12_readUnit_123 ?_
        refine q_callV0 zm_RX12_181 dX12_readUnit_124 (shM_k hs) (by decide) rfl (Nat.le_of_ble_eq_true rfl) (Nat.le_of_ble_eq_true rfl) (Nat.le_of_ble_eq_true rfl) (Nat.le_of_ble_eq_true rfl) (Nat.le_of_ble_eq_true rfl) (s_X12_readSum_4 (lm := lm) (la := la) (u := u + (smP B n (if lm = 5 then 8 else 6) 4 p).2.2.length) G hs kw hld htp120 hp120 (by rw [o120.2.2 16 (by decide)]; exact d81) (by rw [o120.2.2 17 (by decide), o81.2.2 17 (by decide)]; exact hlm) (by rw [o120.2.2 18 (by decide), o81.2.2 18 (by decide)]; exact hla) (by rw [w120]; exact k81c.1) h5 h29 h99 (by omega) (fun g124 o124 d124 p124 k124 => ?_))
        have of124 : frM A [2] [8, 9, 10, 11, 12, 13, 16] f g124 := frM_tr o81 (frM_tr (frM_su o120 (by decide) (by decide)) o124)
        have p124b : psM B n g124 A (smP B n (if lm = 5 then 8 else 6) 4 (nxP B n (smP B n (if lm = 5 then 8 else 6) 4 p).2.1)).1 (smP B n (if lm = 5 then 8 else 6) 4 (nxP B n (smP B n (if lm = 5 then 8 else 6) 4 p).2.1)).2.1 := p124
        have k124b : (smP B n (if lm = 5 then 8 else 6) 4 (nxP B n (smP B n (if lm = 5 then 8 else 6) 4 p).2.1)).1 = 0 → okM g120 g124 A lm la (u + (smP B n (if lm = 5 then 8 else 6) 4 p).2.2.length) (smP B n (if lm = 5 then 8 else 6) 4 (nxP B n (smP B n (if lm = 5 then 8 else 6) 4 p).2.1)).2.2 := k124
        refine r_aloadR0 dX12_readUnit_127 ?_
        refine r_iload1 dX12_readUnit_128 ?_
        refine n_bipush dX12_readUnit_129 (by decide) (fun r129 e129 => ?_)
        refine t_icne (t := 139) dX12_readUnit_131 (by decide) (fun h131 => ?_) (fun h131 => False.elim (by omega))
        refine r_iload1 dX12_readUnit_139 ?_
        refine n_bipush dX12_readUnit_140 (by decide) (fun r140 e140 => ?_)
        refine t_icne (t := 150) dX12_readUnit_142 (by decide) (fun h142 => False.elim (by omega)) (fun h142 => ?_)
        refine n_bipush dX12_readUnit_145 (by decide) (fun r145 e145 => ?_)
        refine r_goto (t := 152) dX12_readUnit_147 (by decide) ?_
        refine q_callV1 zm_RX12_162 dX12_readUnit_152 (shM_k hs) (by decide) rfl (Nat.le_of_ble_eq_true rfl) (Nat.le_of_ble_eq_true rfl) (Nat.le_of_ble_eq_true rfl) (Nat.le_of_ble_eq_true rfl) (Nat.le_of_ble_eq_true rfl) (s_X12_laysStep (lm := lm) (la := la) (u := u + (smP B n (if lm = 5 then 8 else 6) 4 p).2.2.length + (smP B n (if lm = 5 then 8 else 6) 4 (nxP B n (smP B n (if lm = 5 then 8 else 6) 4 p).2.1)).2.2.length) G hs (by have := p124b.1; rw [hq] at this; exact this) (by rw [of124.2.2 17 (by decide)]; exact hlm) (by rw [of124.2.2 18 (by decide)]; exact hla) (k124b hq).1 h5 h29 (by omega) (fun g152 o152 a152 b152 c152 => ?_))
        have p124c := p124b
        rw [hq] at p124c
        refine r_vret dX12_readUnit_155 rfl (Nat.le_of_ble_eq_true rfl) (Nat.le_of_ble_eq_true rfl) ?_
        refine hQ _ (frM_tr of124 (frM_su o152 (by decide) (by decide))) (by rw [o152.2.2 16 (by decide)]; exact d124) (psM_of p124c (o152.2.2 8 (by decide)) (o152.2.2 9 (by decide)) (o152.2.2 10 (by decide)) (o152.2.2 11 (by decide)) (o152.2.2 12 (by decide)) (o152.2.2 13 (by decide))) (fun _ => okM_ap (by omega) (by rw [List.length_append]; omega) (okM_ap (by omega) (by omega) k81c (okM_cg (k124b hq) w120 rfl)) ?_)
        rw [List.length_append, ← Nat.add_assoc]
        exact okM_one (by omega) a152 b152 c152 (by rw [e145]; rfl)
      · have hv : cmP B n (smP B n (if lm = 5 then 8 else 6) 4) p = (smP B n (if lm = 5 then 8 else 6) 4 (nxP B n (smP B n (if lm = 5 then 8 else 6) 4 p).2.1)) := (if_neg (not_not_intro hr)).trans ((if_neg hop0).trans (if_pos hq))
        rw [hv] at hQ
        refine r_aloadR0 dX12_readUnit_0 ?_
        refine m_getV (x := (f A 12)) zf_RX12_112 rfl dX12_readUnit_1 (shM_k hs) (rfl) ?_
        refine t_ifeq (t := 8) dX12_readUnit_4 (by decide) (fun h4 => ?_) (fun h4 => False.elim (by omega))
        refine r_aloadR0 dX12_readUnit_8 ?_
        refine k_ldc (hld _ (List.mem_of_getElem? (i := 2) rfl)) dX12_readUnit_9 ?_
        refine q_callV1 zm_RX12_127 dX12_readUnit_11 (shM_k hs) (by decide) rfl (Nat.le_of_ble_eq_true rfl) (Nat.le_of_ble_eq_true rfl) (Nat.le_of_ble_eq_true rfl) (Nat.le_of_ble_eq_true rfl) (Nat.le_of_ble_eq_true rfl) (s_X12_isWord (i := 8) G hs kw (by decide) htp hps (fun r11 e11_z => ?_))
        have e11b : r11.toInt = 0 := e11_z.elim (fun h_z => absurd h_z.2 hw) (fun h_z => h_z.1)
        refine t_ifeq (t := 44) dX12_readUnit_14 (by decide) (fun h14 => ?_) (fun h14 => False.elim (by omega))
        refine r_aloadR0 dX12_readUnit_44 ?_
        refine n_bipush dX12_readUnit_45 (by decide) (fun r45 e45 => ?_)
        refine q_callV1 zm_RX12_175 dX12_readUnit_47 (shM_k hs) (by decide) rfl (Nat.le_of_ble_eq_true rfl) (Nat.le_of_ble_eq_true rfl) (Nat.le_of_ble_eq_true rfl) (Nat.le_of_ble_eq_true rfl) (Nat.le_of_ble_eq_true rfl) (s_X12_isSign G hs (fun r47 e47 => ?_))
        refine t_ifeq (t := 80) dX12_readUnit_50 (by decide) (fun h50 => ?_) (fun h50 => False.elim (by omega))
        refine r_aloadR0 dX12_readUnit_80 ?_
        refine q_callV0 zm_RX12_181 dX12_readUnit_81 (shM_k hs) (by decide) rfl (Nat.le_of_ble_eq_true rfl) (Nat.le_of_ble_eq_true rfl) (Nat.le_of_ble_eq_true rfl) (Nat.le_of_ble_eq_true rfl) (Nat.le_of_ble_eq_true rfl) (s_X12_readSum_4 (lm := lm) (la := la) (u := u) G hs kw hld htp hps hd16 hlm hla hu h5 h29 h99 hup (fun g81 o81 d81 p81 k81 => ?_))
        have p81b : psM B n g81 A (smP B n (if lm = 5 then 8 else 6) 4 p).1 (smP B n (if lm = 5 then 8 else 6) 4 p).2.1 := p81
        have k81b : (smP B n (if lm = 5 then 8 else 6) 4 p).1 = 0 → okM f g81 A lm la u (smP B n (if lm = 5 then 8 else 6) 4 p).2.2 := k81
        have p81d := p81c _ p81b
        have t81 := p81d.2.1 rfl
        have h81 := t81.2.2.2.1
        have b81 := p81d.1
        have hte81 := teP_le (B := B) t81.1
        have htp81 := tpM_of htp (o81.2.1 5 (by decide) (by decide) (by decide)) (o81.2.2 7 (by decide))
        have k81c := k81b hr
        refine r_aloadR0 dX12_readUnit_84 ?_
        refine m_getV (x := (g81 A 10)) zf_RX12_92 rfl dX12_readUnit_85 (shM_k hs) (rfl) ?_
        refine r_istore1 dX12_readUnit_88 rfl ?_
        refine r_iload1 dX12_readUnit_89 ?_
        refine n_bipush dX12_readUnit_90 (by decide) (fun r90 e90_z => ?_)
        refine t_iceq (t := 112) dX12_readUnit_92 (by decide) (fun h92 => False.elim (by omega)) (fun h92 => ?_)
        refine r_iload1 dX12_readUnit_95 ?_
        refine n_bipush dX12_readUnit_96 (by decide) (fun r96 e96 => ?_)
        refine t_iceq (t := 112) dX12_readUnit_98 (by decide) (fun h98 => ?_) (fun h98 => False.elim (by omega))
        refine r_aloadR0 dX12_readUnit_112 ?_
        refine m_getV (x := (g81 A 12)) zf_RX12_112 rfl dX12_readUnit_113 (shM_k hs) (rfl) ?_
        refine t_ifne (t := 123) dX12_readUnit_116 (by decide) (fun h116 => False.elim (by omega)) (fun h116 => ?_)
        refine r_aloadR0 dX12_readUnit_119 ?_
        refine q_callV0 zm_RX12_131 dX12_readUnit_120 (shM_k hs) (by decide) rfl (Nat.le_of_ble_eq_true rfl) (Nat.le_of_ble_eq_true rfl) (Nat.le_of_ble_eq_true rfl) (Nat.le_of_ble_eq_true rfl) (Nat.le_of_ble_eq_true rfl) (s_X12_readsOn (p := teP B n (smP B n (if lm = 5 then 8 else 6) 4 p).2.1) G hs htp81 t81.2.1 hte81 (fun g120 o120 t120 => ?_))
        have htp120 := tpM_of htp81 (o120.2.1 5 (by decide) (by decide) (by decide)) (o120.2.2 7 (by decide))
        have hp120 : psM B n g120 A 0 (nxP B n (smP B n (if lm = 5 then 8 else 6) 4 p).2.1) := ⟨by rw [o120.2.2 12 (by decide)]; exact b81, fun _ => t120, fun h_z => absurd rfl h_z⟩
        have w120 : g120 (A + 2) = g81 (A + 2) := o120.2.1 2 (by decide) (by decide) (by decide)
        refine r_aloadR0 dX12_readUnit_123 ?_
        refine q_callV0 zm_RX12_181 dX12_readUnit_124 (shM_k hs) (by decide) rfl (Nat.le_of_ble_eq_true rfl) (Nat.le_of_ble_eq_true rfl) (Nat.le_of_ble_eq_true rfl) (Nat.le_of_ble_eq_true rfl) (Nat.le_of_ble_eq_true rfl) (s_X12_readSum_4 (lm := lm) (la := la) (u := u + (smP B n (if lm = 5 then 8 else 6) 4 p).2.2.length) G hs kw hld htp120 hp120 (by rw [o120.2.2 16 (by decide)]; exact d81) (by rw [o120.2.2 17 (by decide), o81.2.2 17 (by decide)]; exact hlm) (by rw [o120.2.2 18 (by decide), o81.2.2 18 (by decide)]; exact hla) (by rw [w120]; exact k81c.1) h5 h29 h99 (by omega) (fun g124 o124 d124 p124 k124 => ?_))
        have of124 : frM A [2] [8, 9, 10, 11, 12, 13, 16] f g124 := frM_tr o81 (frM_tr (frM_su o120 (by decide) (by decide)) o124)
        have p124b : psM B n g124 A (smP B n (if lm = 5 then 8 else 6) 4 (nxP B n (smP B n (if lm = 5 then 8 else 6) 4 p).2.1)).1 (smP B n (if lm = 5 then 8 else 6) 4 (nxP B n (smP B n (if lm = 5 then 8 else 6) 4 p).2.1)).2.1 := p124
        have k124b : (smP B n (if lm = 5 then 8 else 6) 4 (nxP B n (smP B n (if lm = 5 then 8 else 6) 4 p).2.1)).1 = 0 → okM g120 g124 A lm la (u + (smP B n (if lm = 5 then 8 else 6) 4 p).2.2.length) (smP B n (if lm = 5 then 8 else 6) 4 (nxP B n (smP B n (if lm = 5 then 8 else 6) 4 p).2.1)).2.2 := k124
        refine r_aloadR0 dX12_readUnit_127 ?_
        refine r_iload1 dX12_readUnit_128 ?_
        refine n_bipush dX12_readUnit_129 (by decide) (fun r129 e129 => ?_)
        refine t_icne (t := 139) dX12_readUnit_131 (by decide) (fun h131 => ?_) (fun h131 => False.elim (by omega))
        refine r_iload1 dX12_readUnit_139 ?_
        refine n_bipush dX12_readUnit_140 (by decide) (fun r140 e140 => ?_)
        refine t_icne (t := 150) dX12_readUnit_142 (by decide) (fun h142 => False.elim (by omega)) (fun h142 => ?_)
        refine n_bipush dX12_readUnit_145 (by decide) (fun r145 e145 => ?_)
        refine r_goto (t := 152) dX12_readUnit_147 (by decide) ?_
        refine q_callV1 zm_RX12_162 dX12_readUnit_152 (shM_k hs) (by decide) rfl (Nat.le_of_ble_eq_true rfl) (Nat.le_of_ble_eq_true rfl) (Nat.le_of_ble_eq_true rfl) (Nat.le_of_ble_eq_true rfl) (Nat.le_of_ble_eq_true rfl) (s_X12_laysStep_x G hs (by rw [p124b.1]; omega) ?_)
        refine r_vret dX12_readUnit_155 rfl (Nat.le_of_ble_eq_true rfl) (Nat.le_of_ble_eq_true rfl) ?_
        exact hQ _ of124 d124 p124b (fun h_z => absurd h_z hq)
    have hn60 := hc_z
    have hm60 : rkP B n (smP B n (if lm = 5 then 8 else 6) 4 p).2.1 ≠ 60 := fun h_z => hc_z (q60.mp h_z)
    clear hc_z
    by_cases hc_z : tkP B n (smP B n (if lm = 5 then 8 else 6) 4 p).2.1 = 62
    · have h10c := q62.mpr hc_z
      have hop : opC B n (smP B n (if lm = 5 then 8 else 6) 4 p).2.1 = 2008 := (if_neg (by omega)).trans ((if_neg (by omega)).trans (if_pos hc_z))
      have hop0 : opC B n (smP B n (if lm = 5 then 8 else 6) 4 p).2.1 ≠ 0 := by rw [hop]; decide
      have hln := tk_lt (B := B) (n := n) (s := (smP B n (if lm = 5 then 8 else 6) 4 p).2.1) (by rw [hc_z]; decide)
      have hnx := nxP_gt (B := B) hln
      by_cases hq : (smP B n (if lm = 5 then 8 else 6) 4 (nxP B n (smP B n (if lm = 5 then 8 else 6) 4 p).2.1)).1 = 0
      · obtain ⟨z1, z2, z3, z4⟩ := (hsm _ hnx.2).1 hq
        have hv : cmP B n (smP B n (if lm = 5 then 8 else 6) 4) p = (0, (smP B n (if lm = 5 then 8 else 6) 4 (nxP B n (smP B n (if lm = 5 then 8 else 6) 4 p).2.1)).2.1, (smP B n (if lm = 5 then 8 else 6) 4 p).2.2 ++ (smP B n (if lm = 5 then 8 else 6) 4 (nxP B n (smP B n (if lm = 5 then 8 else 6) 4 p).2.1)).2.2 ++ [opC B n (smP B n (if lm = 5 then 8 else 6) 4 p).2.1]) := (if_neg (not_not_intro hr)).trans ((if_neg hop0).trans (if_neg (not_not_intro hq)))
        rw [hv, hop] at hQ
        refine r_aloadR0 dX12_readUnit_0 ?_
        refine m_getV (x := (f A 12)) zf_RX12_112 rfl dX12_readUnit_1 (shM_k hs) (rfl) ?_
        refine t_ifeq (t := 8) dX12_readUnit_4 (by decide) (fun h4 => ?_) (fun h4 => False.elim (by omega))
        refine r_aloadR0 dX12_readUnit_8 ?_
        refine k_ldc (hld _ (List.mem_of_getElem? (i := 2) rfl)) dX12_readUnit_9 ?_
        refine q_callV1 zm_RX12_127 dX12_readUnit_11 (shM_k hs) (by decide) rfl (Nat.le_of_ble_eq_true rfl) (Nat.le_of_ble_eq_true rfl) (Nat.le_of_ble_eq_true rfl) (Nat.le_of_ble_eq_true rfl) (Nat.le_of_ble_eq_true rfl) (s_X12_isWord (i := 8) G hs kw (by decide) htp hps (fun r11 e11_z => ?_))
        have e11b : r11.toInt = 0 := e11_z.elim (fun h_z => absurd h_z.2 hw) (fun h_z => h_z.1)
        refine t_ifeq (t := 44) dX12_readUnit_14 (by decide) (fun h14 => ?_) (fun h14 => False.elim (by omega))
        refine r_aloadR0 dX12_readUnit_44 ?_
        refine n_bipush dX12_readUnit_45 (by decide) (fun r45 e45 => ?_)
        refine q_callV1 zm_RX12_175 dX12_readUnit_47 (shM_k hs) (by decide) rfl (Nat.le_of_ble_eq_true rfl) (Nat.le_of_ble_eq_true rfl) (Nat.le_of_ble_eq_true rfl) (Nat.le_of_ble_eq_true rfl) (Nat.le_of_ble_eq_true rfl) (s_X12_isSign G hs (fun r47 e47 => ?_))
        refine t_ifeq (t := 80) dX12_readUnit_50 (by decide) (fun h50 => ?_) (fun h50 => False.elim (by omega))
        refine r_aloadR0 dX12_readUnit_80 ?_
        refine q_callV0 zm_RX12_181 dX12_readUnit_81 (shM_k hs) (by decide) rfl (Nat.le_of_ble_eq_true rfl) (Nat.le_of_ble_eq_true rfl) (Nat.le_of_ble_eq_true rfl) (Nat.le_of_ble_eq_true rfl) (Nat.le_of_ble_eq_true rfl) (s_X12_readSum_4 (lm := lm) (la := la) (u := u) G hs kw hld htp hps hd16 hlm hla hu h5 h29 h99 hup (fun g81 o81 d81 p81 k81 => ?_))
        have p81b : psM B n g81 A (smP B n (if lm = 5 then 8 else 6) 4 p).1 (smP B n (if lm = 5 then 8 else 6) 4 p).2.1 := p81
        have k81b : (smP B n (if lm = 5 then 8 else 6) 4 p).1 = 0 → okM f g81 A lm la u (smP B n (if lm = 5 then 8 else 6) 4 p).2.2 := k81
        have p81d := p81c _ p81b
        have t81 := p81d.2.1 rfl
        have h81 := t81.2.2.2.1
        have b81 := p81d.1
        have hte81 := teP_le (B := B) t81.1
        have htp81 := tpM_of htp (o81.2.1 5 (by decide) (by decide) (by decide)) (o81.2.2 7 (by decide))
        have k81c := k81b hr
        refine r_aloadR0 dX12_readUnit_84 ?_
        refine m_getV (x := (g81 A 10)) zf_RX12_92 rfl dX12_readUnit_85 (shM_k hs) (rfl) ?_
        refine r_istore1 dX12_readUnit_88 rfl ?_
        refine r_iload1 dX12_readUnit_89 ?_
        refine n_bipush dX12_readUnit_90 (by decide) (fun r90 e90_z => ?_)
        refine t_iceq (t := 112) dX12_readUnit_92 (by decide) (fun h92 => False.elim (by omega)) (fun h92 => ?_)
        refine r_iload1 dX12_readUnit_95 ?_
        refine n_bipush dX12_readUnit_96 (by decide) (fun r96 e96 => ?_)
        refine t_iceq (t := 112) dX12_readUnit_98 (by decide) (fun h98 => False.elim (by omega)) (fun h98 => ?_)
        refine r_iload1 dX12_readUnit_101 ?_
        refine n_bipush dX12_readUnit_102 (by decide) (fun r102 e102_z => ?_)
        refine t_iceq (t := 112) dX12_readUnit_104 (by decide) (fun h104 => ?_) (fun h104 => False.elim (by omega))
        refine r_aloadR0 dX12_readUnit_112 ?_
        refine m_getV (x := (g81 A 12)) zf_RX12_112 rfl dX12_readUnit_113 (shM_k hs) (rfl) ?_
        refine t_ifne (t := 123) dX12_readUnit_116 (by decide) (fun h116 => False.elim (by omega)) (fun h116 => ?_)
        refine r_aloadR0 dX12_readUnit_119 ?_
        refine q_callV0 zm_RX12_131 dX12_readUnit_120 (shM_k hs) (by decide) rfl (Nat.le_of_ble_eq_true rfl) (Nat.le_of_ble_eq_true rfl) (Nat.le_of_ble_eq_true rfl) (Nat.le_of_ble_eq_true rfl) (Nat.le_of_ble_eq_true rfl) (s_X12_readsOn (p := teP B n (smP B n (if lm = 5 then 8 else 6) 4 p).2.1) G hs htp81 t81.2.1 hte81 (fun g120 o120 t120 => ?_))
        have htp120 := tpM_of htp81 (o120.2.1 5 (by decide) (by decide) (by decide)) (o120.2.2 7 (by decide))
        have hp120 : psM B n g120 A 0 (nxP B n (smP B n (if lm = 5 then 8 else 6) 4 p).2.1) := ⟨by rw [o120.2.2 12 (by decide)]; exact b81, fun _ => t120, fun h_z => absurd rfl h_z⟩
        have w120 : g120 (A + 2) = g81 (A + 2) := o120.2.1 2 (by decide) (by decide) (by decide)
        refine r_aloadR0 dX12_readUnit_123 ?_
        refine q_callV0 zm_RX12_181 dX12_readUnit_124 (shM_k hs) (by decide) rfl (Nat.le_of_ble_eq_true rfl) (Nat.le_of_ble_eq_true rfl) (Nat.le_of_ble_eq_true rfl) (Nat.le_of_ble_eq_true rfl) (Nat.le_of_ble_eq_true rfl) (s_X12_readSum_4 (lm := lm) (la := la) (u := u + (smP B n (if lm = 5 then 8 else 6) 4 p).2.2.length) G hs kw hld htp120 hp120 (by rw [o120.2.2 16 (by decide)]; exact d81) (by rw [o120.2.2 17 (by decide), o81.2.2 17 (by decide)]; exact hlm) (by rw [o120.2.2 18 (by decide), o81.2.2 18 (by decide)]; exact hla) (by rw [w120]; exact k81c.1) h5 h29 h99 (by omega) (fun g124 o124 d124 p124 k124 => ?_))
        have of124 : frM A [2] [8, 9, 10, 11, 12, 13, 16] f g124 := frM_tr o81 (frM_tr (frM_su o120 (by decide) (by decide)) o124)
        have p124b : psM B n g124 A (smP B n (if lm = 5 then 8 else 6) 4 (nxP B n (smP B n (if lm = 5 then 8 else 6) 4 p).2.1)).1 (smP B n (if lm = 5 then 8 else 6) 4 (nxP B n (smP B n (if lm = 5 then 8 else 6) 4 p).2.1)).2.1 := p124
        have k124b : (smP B n (if lm = 5 then 8 else 6) 4 (nxP B n (smP B n (if lm = 5 then 8 else 6) 4 p).2.1)).1 = 0 → okM g120 g124 A lm la (u + (smP B n (if lm = 5 then 8 else 6) 4 p).2.2.length) (smP B n (if lm = 5 then 8 else 6) 4 (nxP B n (smP B n (if lm = 5 then 8 else 6) 4 p).2.1)).2.2 := k124
        refine r_aloadR0 dX12_readUnit_127 ?_
        refine r_iload1 dX12_readUnit_128 ?_
        refine n_bipush dX12_readUnit_129 (by decide) (fun r129 e129 => ?_)
        refine t_icne (t := 139) dX12_readUnit_131 (by decide) (fun h131 => ?_) (fun h131 => False.elim (by omega))
        refine r_iload1 dX12_readUnit_139 ?_
        refine n_bipush dX12_readUnit_140 (by decide) (fun r140 e140 => ?_)
        refine t_icne (t := 150) dX12_readUnit_142 (by decide) (fun h142 => ?_) (fun h142 => False.elim (by omega))
        refine n_bipush dX12_readUnit_150 (by decide) (fun r150 e150 => ?_)
        refine q_callV1 zm_RX12_162 dX12_readUnit_152 (shM_k hs) (by decide) rfl (Nat.le_of_ble_eq_true rfl) (Nat.le_of_ble_eq_true rfl) (Nat.le_of_ble_eq_true rfl) (Nat.le_of_ble_eq_true rfl) (Nat.le_of_ble_eq_true rfl) (s_X12_laysStep (lm := lm) (la := la) (u := u + (smP B n (if lm = 5 then 8 else 6) 4 p).2.2.length + (smP B n (if lm = 5 then 8 else 6) 4 (nxP B n (smP B n (if lm = 5 then 8 else 6) 4 p).2.1)).2.2.length) G hs (by have := p124b.1; rw [hq] at this; exact this) (by rw [of124.2.2 17 (by decide)]; exact hlm) (by rw [of124.2.2 18 (by decide)]; exact hla) (k124b hq).1 h5 h29 (by omega) (fun g152 o152 a152 b152 c152 => ?_))
        have p124c := p124b
        rw [hq] at p124c
        refine r_vret dX12_readUnit_155 rfl (Nat.le_of_ble_eq_true rfl) (Nat.le_of_ble_eq_true rfl) ?_
        refine hQ _ (frM_tr of124 (frM_su o152 (by decide) (by decide))) (by rw [o152.2.2 16 (by decide)]; exact d124) (psM_of p124c (o152.2.2 8 (by decide)) (o152.2.2 9 (by decide)) (o152.2.2 10 (by decide)) (o152.2.2 11 (by decide)) (o152.2.2 12 (by decide)) (o152.2.2 13 (by decide))) (fun _ => okM_ap (by omega) (by rw [List.length_append]; omega) (okM_ap (by omega) (by omega) k81c (okM_cg (k124b hq) w120 rfl)) ?_)
        rw [List.length_append, ← Nat.add_assoc]
        exact okM_one (by omega) a152 b152 c152 (by rw [e150]; rfl)
      · have hv : cmP B n (smP B n (if lm = 5 then 8 else 6) 4) p = (smP B n (if lm = 5 then 8 else 6) 4 (nxP B n (smP B n (if lm = 5 then 8 else 6) 4 p).2.1)) := (if_neg (not_not_intro hr)).trans ((if_neg hop0).trans (if_pos hq))
        rw [hv] at hQ
        refine r_aloadR0 dX12_readUnit_0 ?_
        refine m_getV (x := (f A 12)) zf_RX12_112 rfl dX12_readUnit_1 (shM_k hs) (rfl) ?_
        refine t_ifeq (t := 8) dX12_readUnit_4 (by decide) (fun h4 => ?_) (fun h4 => False.elim (by omega))
        refine r_aloadR0 dX12_readUnit_8 ?_
        refine k_ldc (hld _ (List.mem_of_getElem? (i := 2) rfl)) dX12_readUnit_9 ?_
        refine q_callV1 zm_RX12_127 dX12_readUnit_11 (shM_k hs) (by decide) rfl (Nat.le_of_ble_eq_true rfl) (Nat.le_of_ble_eq_true rfl) (Nat.le_of_ble_eq_true rfl) (Nat.le_of_ble_eq_true rfl) (Nat.le_of_ble_eq_true rfl) (s_X12_isWord (i := 8) G hs kw (by decide) htp hps (fun r11 e11_z => ?_))
        have e11b : r11.toInt = 0 := e11_z.elim (fun h_z => absurd h_z.2 hw) (fun h_z => h_z.1)
        refine t_ifeq (t := 44) dX12_readUnit_14 (by decide) (fun h14 => ?_) (fun h14 => False.elim (by omega))
        refine r_aloadR0 dX12_readUnit_44 ?_
        refine n_bipush dX12_readUnit_45 (by decide) (fun r45 e45 => ?_)
        refine q_callV1 zm_RX12_175 dX12_readUnit_47 (shM_k hs) (by decide) rfl (Nat.le_of_ble_eq_true rfl) (Nat.le_of_ble_eq_true rfl) (Nat.le_of_ble_eq_true rfl) (Nat.le_of_ble_eq_true rfl) (Nat.le_of_ble_eq_true rfl) (s_X12_isSign G hs (fun r47 e47 => ?_))
        refine t_ifeq (t := 80) dX12_readUnit_50 (by decide) (fun h50 => ?_) (fun h50 => False.elim (by omega))
        refine r_aloadR0 dX12_readUnit_80 ?_
        refine q_callV0 zm_RX12_181 dX12_readUnit_81 (shM_k hs) (by decide) rfl (Nat.le_of_ble_eq_true rfl) (Nat.le_of_ble_eq_true rfl) (Nat.le_of_ble_eq_true rfl) (Nat.le_of_ble_eq_true rfl) (Nat.le_of_ble_eq_true rfl) (s_X12_readSum_4 (lm := lm) (la := la) (u := u) G hs kw hld htp hps hd16 hlm hla hu h5 h29 h99 hup (fun g81 o81 d81 p81 k81 => ?_))
        have p81b : psM B n g81 A (smP B n (if lm = 5 then 8 else 6) 4 p).1 (smP B n (if lm = 5 then 8 else 6) 4 p).2.1 := p81
        have k81b : (smP B n (if lm = 5 then 8 else 6) 4 p).1 = 0 → okM f g81 A lm la u (smP B n (if lm = 5 then 8 else 6) 4 p).2.2 := k81
        have p81d := p81c _ p81b
        have t81 := p81d.2.1 rfl
        have h81 := t81.2.2.2.1
        have b81 := p81d.1
        have hte81 := teP_le (B := B) t81.1
        have htp81 := tpM_of htp (o81.2.1 5 (by decide) (by decide) (by decide)) (o81.2.2 7 (by decide))
        have k81c := k81b hr
        refine r_aloadR0 dX12_readUnit_84 ?_
        refine m_getV (x := (g81 A 10)) zf_RX12_92 rfl dX12_readUnit_85 (shM_k hs) (rfl) ?_
        refine r_istore1 dX12_readUnit_88 rfl ?_
        refine r_iload1 dX12_readUnit_89 ?_
        refine n_bipush dX12_readUnit_90 (by decide) (fun r90 e90_z => ?_)
        refine t_iceq (t := 112) dX12_readUnit_92 (by decide) (fun h92 => False.elim (by omega)) (fun h92 => ?_)
        refine r_iload1 dX12_readUnit_95 ?_
        refine n_bipush dX12_readUnit_96 (by decide) (fun r96 e96 => ?_)
        refine t_iceq (t := 112) dX12_readUnit_98 (by decide) (fun h98 => False.elim (by omega)) (fun h98 => ?_)
        refine r_iload1 dX12_readUnit_101 ?_
        refine n_bipush dX12_readUnit_102 (by decide) (fun r102 e102_z => ?_)
        refine t_iceq (t := 112) dX12_readUnit_104 (by decide) (fun h104 => ?_) (fun h104 => False.elim (by omega))
        refine r_aloadR0 dX12_readUnit_112 ?_
        refine m_getV (x := (g81 A 12)) zf_RX12_112 rfl dX12_readUnit_113 (shM_k hs) (rfl) ?_
        refine t_ifne (t := 123) dX12_readUnit_116 (by decide) (fun h116 => False.elim (by omega)) (fun h116 => ?_)
        refine r_aloadR0 dX12_readUnit_119 ?_
        refine q_callV0 zm_RX12_131 dX12_readUnit_120 (shM_k hs) (by decide) rfl (Nat.le_of_ble_eq_true rfl) (Nat.le_of_ble_eq_true rfl) (Nat.le_of_ble_eq_true rfl) (Nat.le_of_ble_eq_true rfl) (Nat.le_of_ble_eq_true rfl) (s_X12_readsOn (p := teP B n (smP B n (if lm = 5 then 8 else 6) 4 p).2.1) G hs htp81 t81.2.1 hte81 (fun g120 o120 t120 => ?_))
        have htp120 := tpM_of htp81 (o120.2.1 5 (by decide) (by decide) (by decide)) (o120.2.2 7 (by decide))
        have hp120 : psM B n g120 A 0 (nxP B n (smP B n (if lm = 5 then 8 else 6) 4 p).2.1) := ⟨by rw [o120.2.2 12 (by decide)]; exact b81, fun _ => t120, fun h_z => absurd rfl h_z⟩
        have w120 : g120 (A + 2) = g81 (A + 2) := o120.2.1 2 (by decide) (by decide) (by decide)
        refine r_aloadR0 dX12_readUnit_123 ?_
        refine q_callV0 zm_RX12_181 dX12_readUnit_124 (shM_k hs) (by decide) rfl (Nat.le_of_ble_eq_true rfl) (Nat.le_of_ble_eq_true rfl) (Nat.le_of_ble_eq_true rfl) (Nat.le_of_ble_eq_true rfl) (Nat.le_of_ble_eq_true rfl) (s_X12_readSum_4 (lm := lm) (la := la) (u := u + (smP B n (if lm = 5 then 8 else 6) 4 p).2.2.length) G hs kw hld htp120 hp120 (by rw [o120.2.2 16 (by decide)]; exact d81) (by rw [o120.2.2 17 (by decide), o81.2.2 17 (by decide)]; exact hlm) (by rw [o120.2.2 18 (by decide), o81.2.2 18 (by decide)]; exact hla) (by rw [w120]; exact k81c.1) h5 h29 h99 (by omega) (fun g124 o124 d124 p124 k124 => ?_))
        have of124 : frM A [2] [8, 9, 10, 11, 12, 13, 16] f g124 := frM_tr o81 (frM_tr (frM_su o120 (by decide) (by decide)) o124)
        have p124b : psM B n g124 A (smP B n (if lm = 5 then 8 else 6) 4 (nxP B n (smP B n (if lm = 5 then 8 else 6) 4 p).2.1)).1 (smP B n (if lm = 5 then 8 else 6) 4 (nxP B n (smP B n (if lm = 5 then 8 else 6) 4 p).2.1)).2.1 := p124
        have k124b : (smP B n (if lm = 5 then 8 else 6) 4 (nxP B n (smP B n (if lm = 5 then 8 else 6) 4 p).2.1)).1 = 0 → okM g120 g124 A lm la (u + (smP B n (if lm = 5 then 8 else 6) 4 p).2.2.length) (smP B n (if lm = 5 then 8 else 6) 4 (nxP B n (smP B n (if lm = 5 then 8 else 6) 4 p).2.1)).2.2 := k124
        refine r_aloadR0 dX12_readUnit_127 ?_
        refine r_iload1 dX12_readUnit_128 ?_
        refine n_bipush dX12_readUnit_129 (by decide) (fun r129 e129 => ?_)
        refine t_icne (t := 139) dX12_readUnit_131 (by decide) (fun h131 => ?_) (fun h131 => False.elim (by omega))
        refine r_iload1 dX12_readUnit_139 ?_
        refine n_bipush dX12_readUnit_140 (by decide) (fun r140 e140 => ?_)
        refine t_icne (t := 150) dX12_readUnit_142 (by decide) (fun h142 => ?_) (fun h142 => False.elim (by omega))
        refine n_bipush dX12_readUnit_150 (by decide) (fun r150 e150 => ?_)
        refine q_callV1 zm_RX12_162 dX12_readUnit_152 (shM_k hs) (by decide) rfl (Nat.le_of_ble_eq_true rfl) (Nat.le_of_ble_eq_true rfl) (Nat.le_of_ble_eq_true rfl) (Nat.le_of_ble_eq_true rfl) (Nat.le_of_ble_eq_true rfl) (s_X12_laysStep_x G hs (by rw [p124b.1]; omega) ?_)
        refine r_vret dX12_readUnit_155 rfl (Nat.le_of_ble_eq_true rfl) (Nat.le_of_ble_eq_true rfl) ?_
        exact hQ _ of124 d124 p124b (fun h_z => absurd h_z hq)
    have hn62 := hc_z
    have hm62 : rkP B n (smP B n (if lm = 5 then 8 else 6) 4 p).2.1 ≠ 62 := fun h_z => hc_z (q62.mp h_z)
    clear hc_z
    have hop : opC B n (smP B n (if lm = 5 then 8 else 6) 4 p).2.1 = 0 := (if_neg hn61).trans ((if_neg hn60).trans (if_neg hn62))
    have hv : cmP B n (smP B n (if lm = 5 then 8 else 6) 4) p = (baP B n (smP B n (if lm = 5 then 8 else 6) 4 p).2.1, (smP B n (if lm = 5 then 8 else 6) 4 p).2.1, []) := (if_neg (not_not_intro hr)).trans (if_pos hop)
    rw [hv] at hQ
    refine r_aloadR0 dX12_readUnit_0 ?_
    refine m_getV (x := (f A 12)) zf_RX12_112 rfl dX12_readUnit_1 (shM_k hs) (rfl) ?_
    refine t_ifeq (t := 8) dX12_readUnit_4 (by decide) (fun h4 => ?_) (fun h4 => False.elim (by omega))
    refine r_aloadR0 dX12_readUnit_8 ?_
    refine k_ldc (hld _ (List.mem_of_getElem? (i := 2) rfl)) dX12_readUnit_9 ?_
    refine q_callV1 zm_RX12_127 dX12_readUnit_11 (shM_k hs) (by decide) rfl (Nat.le_of_ble_eq_true rfl) (Nat.le_of_ble_eq_true rfl) (Nat.le_of_ble_eq_true rfl) (Nat.le_of_ble_eq_true rfl) (Nat.le_of_ble_eq_true rfl) (s_X12_isWord (i := 8) G hs kw (by decide) htp hps (fun r11 e11_z => ?_))
    have e11b : r11.toInt = 0 := e11_z.elim (fun h_z => absurd h_z.2 hw) (fun h_z => h_z.1)
    refine t_ifeq (t := 44) dX12_readUnit_14 (by decide) (fun h14 => ?_) (fun h14 => False.elim (by omega))
    refine r_aloadR0 dX12_readUnit_44 ?_
    refine n_bipush dX12_readUnit_45 (by decide) (fun r45 e45 => ?_)
    refine q_callV1 zm_RX12_175 dX12_readUnit_47 (shM_k hs) (by decide) rfl (Nat.le_of_ble_eq_true rfl) (Nat.le_of_ble_eq_true rfl) (Nat.le_of_ble_eq_true rfl) (Nat.le_of_ble_eq_true rfl) (Nat.le_of_ble_eq_true rfl) (s_X12_isSign G hs (fun r47 e47 => ?_))
    refine t_ifeq (t := 80) dX12_readUnit_50 (by decide) (fun h50 => ?_) (fun h50 => False.elim (by omega))
    refine r_aloadR0 dX12_readUnit_80 ?_
    refine q_callV0 zm_RX12_181 dX12_readUnit_81 (shM_k hs) (by decide) rfl (Nat.le_of_ble_eq_true rfl) (Nat.le_of_ble_eq_true rfl) (Nat.le_of_ble_eq_true rfl) (Nat.le_of_ble_eq_true rfl) (Nat.le_of_ble_eq_true rfl) (s_X12_readSum_4 (lm := lm) (la := la) (u := u) G hs kw hld htp hps hd16 hlm hla hu h5 h29 h99 hup (fun g81 o81 d81 p81 k81 => ?_))
    have p81b : psM B n g81 A (smP B n (if lm = 5 then 8 else 6) 4 p).1 (smP B n (if lm = 5 then 8 else 6) 4 p).2.1 := p81
    have k81b : (smP B n (if lm = 5 then 8 else 6) 4 p).1 = 0 → okM f g81 A lm la u (smP B n (if lm = 5 then 8 else 6) 4 p).2.2 := k81
    have p81d := p81c _ p81b
    have t81 := p81d.2.1 rfl
    have h81 := t81.2.2.2.1
    have b81 := p81d.1
    have hte81 := teP_le (B := B) t81.1
    have htp81 := tpM_of htp (o81.2.1 5 (by decide) (by decide) (by decide)) (o81.2.2 7 (by decide))
    have k81c := k81b hr
    refine r_aloadR0 dX12_readUnit_84 ?_
    refine m_getV (x := (g81 A 10)) zf_RX12_92 rfl dX12_readUnit_85 (shM_k hs) (rfl) ?_
    refine r_istore1 dX12_readUnit_88 rfl ?_
    refine r_iload1 dX12_readUnit_89 ?_
    refine n_bipush dX12_readUnit_90 (by decide) (fun r90 e90_z => ?_)
    refine t_iceq (t := 112) dX12_readUnit_92 (by decide) (fun h92 => False.elim (by omega)) (fun h92 => ?_)
    refine r_iload1 dX12_readUnit_95 ?_
    refine n_bipush dX12_readUnit_96 (by decide) (fun r96 e96 => ?_)
    refine t_iceq (t := 112) dX12_readUnit_98 (by decide) (fun h98 => False.elim (by omega)) (fun h98 => ?_)
    refine r_iload1 dX12_readUnit_101 ?_
    refine n_bipush dX12_readUnit_102 (by decide) (fun r102 e102_z => ?_)
    refine t_iceq (t := 112) dX12_readUnit_104 (by decide) (fun h104 => False.elim (by omega)) (fun h104 => ?_)
    refine r_aloadR0 dX12_readUnit_107 ?_
    refine n_iconst dX12_readUnit_108 (by decide) (fun r108 e108 => ?_)
    refine q_callV1 zm_RX12_134 dX12_readUnit_109 (shM_k hs) (by decide) rfl (Nat.le_of_ble_eq_true rfl) (Nat.le_of_ble_eq_true rfl) (Nat.le_of_ble_eq_true rfl) (Nat.le_of_ble_eq_true rfl) (Nat.le_of_ble_eq_true rfl) (s_X12_blames (k := 2) G hs b81 t81 e108 (fun g109 o109 a109 b109 => ?_))
    have hpb := ps_ba a109 b109
    have hba := ba_bd (B := B) (n := n) (s := (smP B n (if lm = 5 then 8 else 6) 4 p).2.1)
    have nb : (g109 A 12).toInt ≠ 0 := by rw [hpb.1]; omega
    refine r_aloadR0 dX12_readUnit_112 ?_
    refine m_getV (x := (g109 A 12)) zf_RX12_112 rfl dX12_readUnit_113 (shM_k hs) (rfl) ?_
    refine t_ifne (t := 123) dX12_readUnit_116 (by decide) (fun h116 => ?_) (fun h116 => False.elim (by omega))
    refine r_aloadR0 dX12_readUnit_123 ?_
    refine q_callV0 zm_RX12_181 dX12_readUnit_124 (shM_k hs) (by decide) rfl (Nat.le_of_ble_eq_true rfl) (Nat.le_of_ble_eq_true rfl) (Nat.le_of_ble_eq_true rfl) (Nat.le_of_ble_eq_true rfl) (Nat.le_of_ble_eq_true rfl) (s_X12_readSum_x G hs nb ?_)
    refine r_aloadR0 dX12_readUnit_127 ?_
    refine r_iload1 dX12_readUnit_128 ?_
    refine n_bipush dX12_readUnit_129 (by decide) (fun r129 e129 => ?_)
    refine t_icne (t := 139) dX12_readUnit_131 (by decide) (fun h131 => ?_) (fun h131 => False.elim (by omega))
    refine r_iload1 dX12_readUnit_139 ?_
    refine n_bipush dX12_readUnit_140 (by decide) (fun r140 e140 => ?_)
    refine t_icne (t := 150) dX12_readUnit_142 (by decide) (fun h142 => ?_) (fun h142 => False.elim (by omega))
    refine n_bipush dX12_readUnit_150 (by decide) (fun r150 e150 => ?_)
    refine q_callV1 zm_RX12_162 dX12_readUnit_152 (shM_k hs) (by decide) rfl (Nat.le_of_ble_eq_true rfl) (Nat.le_of_ble_eq_true rfl) (Nat.le_of_ble_eq_true rfl) (Nat.le_of_ble_eq_true rfl) (Nat.le_of_ble_eq_true rfl) (s_X12_laysStep_x G hs nb ?_)
    refine r_vret dX12_readUnit_155 rfl (Nat.le_of_ble_eq_true rfl) (Nat.le_of_ble_eq_true rfl) ?_
    exact hQ _ (frM_tr o81 (frM_su o109 (by decide) (by decide))) (by rw [o109.2.2 16 (by decide)]; exact d81) hpb (fun h_z => absurd h_z hba.1)
  · have hv : cmP B n (smP B n (if lm = 5 then 8 else 6) 4) p = (smP B n (if lm = 5 then 8 else 6) 4 p) := if_pos hr
    rw [hv] at hQ
    refine r_aloadR0 dX12_readUnit_0 ?_
    refine m_getV (x := (f A 12)) zf_RX12_112 rfl dX12_readUnit_1 (shM_k hs) (rfl) ?_
    refine t_ifeq (t := 8) dX12_readUnit_4 (by decide) (fun h4 => ?_) (fun h4 => False.elim (by omega))
    refine r_aloadR0 dX12_readUnit_8 ?_
    refine k_ldc (hld _ (List.mem_of_getElem? (i := 2) rfl)) dX12_readUnit_9 ?_
    refine q_callV1 zm_RX12_127 dX12_readUnit_11 (shM_k hs) (by decide) rfl (Nat.le_of_ble_eq_true rfl) (Nat.le_of_ble_eq_true rfl) (Nat.le_of_ble_eq_true rfl) (Nat.le_of_ble_eq_true rfl) (Nat.le_of_ble_eq_true rfl) (s_X12_isWord (i := 8) G hs kw (by decide) htp hps (fun r11 e11_z => ?_))
    have e11b : r11.toInt = 0 := e11_z.elim (fun h_z => absurd h_z.2 hw) (fun h_z => h_z.1)
    refine t_ifeq (t := 44) dX12_readUnit_14 (by decide) (fun h14 => ?_) (fun h14 => False.elim (by omega))
    refine r_aloadR0 dX12_readUnit_44 ?_
    refine n_bipush dX12_readUnit_45 (by decide) (fun r45 e45 => ?_)
    refine q_callV1 zm_RX12_175 dX12_readUnit_47 (shM_k hs) (by decide) rfl (Nat.le_of_ble_eq_true rfl) (Nat.le_of_ble_eq_true rfl) (Nat.le_of_ble_eq_true rfl) (Nat.le_of_ble_eq_true rfl) (Nat.le_of_ble_eq_true rfl) (s_X12_isSign G hs (fun r47 e47 => ?_))
    refine t_ifeq (t := 80) dX12_readUnit_50 (by decide) (fun h50 => ?_) (fun h50 => False.elim (by omega))
    refine r_aloadR0 dX12_readUnit_80 ?_
    refine q_callV0 zm_RX12_181 dX12_readUnit_81 (shM_k hs) (by decide) rfl (Nat.le_of_ble_eq_true rfl) (Nat.le_of_ble_eq_true rfl) (Nat.le_of_ble_eq_true rfl) (Nat.le_of_ble_eq_true rfl) (Nat.le_of_ble_eq_true rfl) (s_X12_readSum_4 (lm := lm) (la := la) (u := u) G hs kw hld htp hps hd16 hlm hla hu h5 h29 h99 hup (fun g81 o81 d81 p81 k81 => ?_))
    have p81b : psM B n g81 A (smP B n (if lm = 5 then 8 else 6) 4 p).1 (smP B n (if lm = 5 then 8 else 6) 4 p).2.1 := p81
    have k81b : (smP B n (if lm = 5 then 8 else 6) 4 p).1 = 0 → okM f g81 A lm la u (smP B n (if lm = 5 then 8 else 6) 4 p).2.2 := k81
    have nb : (g81 A 12).toInt ≠ 0 := by rw [p81b.1]; omega
    refine r_aloadR0 dX12_readUnit_84 ?_
    refine m_getV (x := (g81 A 10)) zf_RX12_92 rfl dX12_readUnit_85 (shM_k hs) (rfl) ?_
    refine r_istore1 dX12_readUnit_88 rfl ?_
    refine r_iload1 dX12_readUnit_89 ?_
    refine n_bipush dX12_readUnit_90 (by decide) (fun r90 e90_z => ?_)
    refine t_iceq (t := 112) dX12_readUnit_92 (by decide) (fun h92 => ?_) (fun h92 => ?_)
    · refine r_aloadR0 dX12_readUnit_112 ?_
      refine m_getV (x := (g81 A 12)) zf_RX12_112 rfl dX12_readUnit_113 (shM_k hs) (rfl) ?_
      refine t_ifne (t := 123) dX12_readUnit_116 (by decide) (fun h116 => ?_) (fun h116 => False.elim (by omega))
      refine r_aloadR0 dX12_readUnit_123 ?_
      refine q_callV0 zm_RX12_181 dX12_readUnit_124 (shM_k hs) (by decide) rfl (Nat.le_of_ble_eq_true rfl) (Nat.le_of_ble_eq_true rfl) (Nat.le_of_ble_eq_true rfl) (Nat.le_of_ble_eq_true rfl) (Nat.le_of_ble_eq_true rfl) (s_X12_readSum_x G hs nb ?_)
      refine r_aloadR0 dX12_readUnit_127 ?_
      refine r_iload1 dX12_readUnit_128 ?_
      refine n_bipush dX12_readUnit_129 (by decide) (fun r129 e129 => ?_)
      refine t_icne (t := 139) dX12_readUnit_131 (by decide) (fun h131 => ?_) (fun h131 => ?_)
      · refine r_iload1 dX12_readUnit_139 ?_
        refine n_bipush dX12_readUnit_140 (by decide) (fun r140 e140 => ?_)
        refine t_icne (t := 150) dX12_readUnit_142 (by decide) (fun h142 => ?_) (fun h142 => ?_)
        · refine n_bipush dX12_readUnit_150 (by decide) (fun r150 e150 => ?_)
          refine q_callV1 zm_RX12_162 dX12_readUnit_152 (shM_k hs) (by decide) rfl (Nat.le_of_ble_eq_true rfl) (Nat.le_of_ble_eq_true rfl) (Nat.le_of_ble_eq_true rfl) (Nat.le_of_ble_eq_true rfl) (Nat.le_of_ble_eq_true rfl) (s_X12_laysStep_x G hs nb ?_)
          refine r_vret dX12_readUnit_155 rfl (Nat.le_of_ble_eq_true rfl) (Nat.le_of_ble_eq_true rfl) ?_
          exact hQ _ o81 d81 p81b (fun h_z => absurd h_z hr)
        · refine n_bipush dX12_readUnit_145 (by decide) (fun r145 e145 => ?_)
          refine r_goto (t := 152) dX12_readUnit_147 (by decide) ?_
          refine q_callV1 zm_RX12_162 dX12_readUnit_152 (shM_k hs) (by decide) rfl (Nat.le_of_ble_eq_true rfl) (Nat.le_of_ble_eq_true rfl) (Nat.le_of_ble_eq_true rfl) (Nat.le_of_ble_eq_true rfl) (Nat.le_of_ble_eq_true rfl) (s_X12_laysStep_x G hs nb ?_)
          refine r_vret dX12_readUnit_155 rfl (Nat.le_of_ble_eq_true rfl) (Nat.le_of_ble_eq_true rfl) ?_
          exact hQ _ o81 d81 p81b (fun h_z => absurd h_z hr)
      · refine n_bipush dX12_readUnit_134 (by decide) (fun r134 e134 => ?_)
        refine r_goto (t := 152) dX12_readUnit_136 (by decide) ?_
        refine q_callV1 zm_RX12_162 dX12_readUnit_152 (shM_k hs) (by decide) rfl (Nat.le_of_ble_eq_true rfl) (Nat.le_of_ble_eq_true rfl) (Nat.le_of_ble_eq_true rfl) (Nat.le_of_ble_eq_true rfl) (Nat.le_of_ble_eq_true rfl) (s_X12_laysStep_x G hs nb ?_)
        refine r_vret dX12_readUnit_155 rfl (Nat.le_of_ble_eq_true rfl) (Nat.le_of_ble_eq_true rfl) ?_
        exact hQ _ o81 d81 p81b (fun h_z => absurd h_z hr)
    · refine r_iload1 dX12_readUnit_95 ?_
      refine n_bipush dX12_readUnit_96 (by decide) (fun r96 e96 => ?_)
      refine t_iceq (t := 112) dX12_readUnit_98 (by decide) (fun h98 => ?_) (fun h98 => ?_)
      · refine r_aloadR0 dX12_readUnit_112 ?_
        refine m_getV (x := (g81 A 12)) zf_RX12_112 rfl dX12_readUnit_113 (shM_k hs) (rfl) ?_
        refine t_ifne (t := 123) dX12_readUnit_116 (by decide) (fun h116 => ?_) (fun h116 => False.elim (by omega))
        refine r_aloadR0 dX12_readUnit_123 ?_
        refine q_callV0 zm_RX12_181 dX12_readUnit_124 (shM_k hs) (by decide) rfl (Nat.le_of_ble_eq_true rfl) (Nat.le_of_ble_eq_true rfl) (Nat.le_of_ble_eq_true rfl) (Nat.le_of_ble_eq_true rfl) (Nat.le_of_ble_eq_true rfl) (s_X12_readSum_x G hs nb ?_)
        refine r_aloadR0 dX12_readUnit_127 ?_
        refine r_iload1 dX12_readUnit_128 ?_
        refine n_bipush dX12_readUnit_129 (by decide) (fun r129 e129 => ?_)
        refine t_icne (t := 139) dX12_readUnit_131 (by decide) (fun h131 => ?_) (fun h131 => ?_)
        · refine r_iload1 dX12_readUnit_139 ?_
          refine n_bipush dX12_readUnit_140 (by decide) (fun r140 e140 => ?_)
          refine t_icne (t := 150) dX12_readUnit_142 (by decide) (fun h142 => ?_) (fun h142 => ?_)
          · refine n_bipush dX12_readUnit_150 (by decide) (fun r150 e150 => ?_)
            refine q_callV1 zm_RX12_162 dX12_readUnit_152 (shM_k hs) (by decide) rfl (Nat.le_of_ble_eq_true rfl) (Nat.le_of_ble_eq_true rfl) (Nat.le_of_ble_eq_true rfl) (Nat.le_of_ble_eq_true rfl) (Nat.le_of_ble_eq_true rfl) (s_X12_laysStep_x G hs nb ?_)
            refine r_vret dX12_readUnit_155 rfl (Nat.le_of_ble_eq_true rfl) (Nat.le_of_ble_eq_true rfl) ?_
            exact hQ _ o81 d81 p81b (fun h_z => absurd h_z hr)
          · refine n_bipush dX12_readUnit_145 (by decide) (fun r145 e145 => ?_)
            refine r_goto (t := 152) dX12_readUnit_147 (by decide) ?_
            refine q_callV1 zm_RX12_162 dX12_readUnit_152 (shM_k hs) (by decide) rfl (Nat.le_of_ble_eq_true rfl) (Nat.le_of_ble_eq_true rfl) (Nat.le_of_ble_eq_true rfl) (Nat.le_of_ble_eq_true rfl) (Nat.le_of_ble_eq_true rfl) (s_X12_laysStep_x G hs nb ?_)
            refine r_vret dX12_readUnit_155 rfl (Nat.le_of_ble_eq_true rfl) (Nat.le_of_ble_eq_true rfl) ?_
            exact hQ _ o81 d81 p81b (fun h_z => absurd h_z hr)
        · refine n_bipush dX12_readUnit_134 (by decide) (fun r134 e134 => ?_)
          refine r_goto (t := 152) dX12_readUnit_136 (by decide) ?_
          refine q_callV1 zm_RX12_162 dX12_readUnit_152 (shM_k hs) (by decide) rfl (Nat.le_of_ble_eq_true rfl) (Nat.le_of_ble_eq_true rfl) (Nat.le_of_ble_eq_true rfl) (Nat.le_of_ble_eq_true rfl) (Nat.le_of_ble_eq_true rfl) (s_X12_laysStep_x G hs nb ?_)
          refine r_vret dX12_readUnit_155 rfl (Nat.le_of_ble_eq_true rfl) (Nat.le_of_ble_eq_true rfl) ?_
          exact hQ _ o81 d81 p81b (fun h_z => absurd h_z hr)
      · refine r_iload1 dX12_readUnit_101 ?_
        refine n_bipush dX12_readUnit_102 (by decide) (fun r102 e102_z => ?_)
        refine t_iceq (t := 112) dX12_readUnit_104 (by decide) (fun h104 => ?_) (fun h104 => ?_)
        · refine r_aloadR0 dX12_readUnit_112 ?_
          refine m_getV (x := (g81 A 12)) zf_RX12_112 rfl dX12_readUnit_113 (shM_k hs) (rfl) ?_
          refine t_ifne (t := 123) dX12_readUnit_116 (by decide) (fun h116 => ?_) (fun h116 => False.elim (by omega))
          refine r_aloadR0 dX12_readUnit_123 ?_
          refine q_callV0 zm_RX12_181 dX12_readUnit_124 (shM_k hs) (by decide) rfl (Nat.le_of_ble_eq_true rfl) (Nat.le_of_ble_eq_true rfl) (Nat.le_of_ble_eq_true rfl) (Nat.le_of_ble_eq_true rfl) (Nat.le_of_ble_eq_true rfl) (s_X12_readSum_x G hs nb ?_)
          refine r_aloadR0 dX12_readUnit_127 ?_
          refine r_iload1 dX12_readUnit_128 ?_
          refine n_bipush dX12_readUnit_129 (by decide) (fun r129 e129 => ?_)
          refine t_icne (t := 139) dX12_readUnit_131 (by decide) (fun h131 => ?_) (fun h131 => ?_)
          · refine r_iload1 dX12_readUnit_139 ?_
            refine n_bipush dX12_readUnit_140 (by decide) (fun r140 e140 => ?_)
            refine t_icne (t := 150) dX12_readUnit_142 (by decide) (fun h142 => ?_) (fun h142 => ?_)
            · refine n_bipush dX12_readUnit_150 (by decide) (fun r150 e150 => ?_)
              refine q_callV1 zm_RX12_162 dX12_readUnit_152 (shM_k hs) (by decide) rfl (Nat.le_of_ble_eq_true rfl) (Nat.le_of_ble_eq_true rfl) (Nat.le_of_ble_eq_true rfl) (Nat.le_of_ble_eq_true rfl) (Nat.le_of_ble_eq_true rfl) (s_X12_laysStep_x G hs nb ?_)
              refine r_vret dX12_readUnit_155 rfl (Nat.le_of_ble_eq_true rfl) (Nat.le_of_ble_eq_true rfl) ?_
              exact hQ _ o81 d81 p81b (fun h_z => absurd h_z hr)
            · refine n_bipush dX12_readUnit_145 (by decide) (fun r145 e145 => ?_)
              refine r_goto (t := 152) dX12_readUnit_147 (by decide) ?_
              refine q_callV1 zm_RX12_162 dX12_readUnit_152 (shM_k hs) (by decide) rfl (Nat.le_of_ble_eq_true rfl) (Nat.le_of_ble_eq_true rfl) (Nat.le_of_ble_eq_true rfl) (Nat.le_of_ble_eq_true rfl) (Nat.le_of_ble_eq_true rfl) (s_X12_laysStep_x G hs nb ?_)
              refine r_vret dX12_readUnit_155 rfl (Nat.le_of_ble_eq_true rfl) (Nat.le_of_ble_eq_true rfl) ?_
              exact hQ _ o81 d81 p81b (fun h_z => absurd h_z hr)
          · refine n_bipush dX12_readUnit_134 (by decide) (fun r134 e134 => ?_)
            refine r_goto (t := 152) dX12_readUnit_136 (by decide) ?_
            refine q_callV1 zm_RX12_162 dX12_readUnit_152 (shM_k hs) (by decide) rfl (Nat.le_of_ble_eq_true rfl) (Nat.le_of_ble_eq_true rfl) (Nat.le_of_ble_eq_true rfl) (Nat.le_of_ble_eq_true rfl) (Nat.le_of_ble_eq_true rfl) (s_X12_laysStep_x G hs nb ?_)
            refine r_vret dX12_readUnit_155 rfl (Nat.le_of_ble_eq_true rfl) (Nat.le_of_ble_eq_true rfl) ?_
            exact hQ _ o81 d81 p81b (fun h_z => absurd h_z hr)
        · refine r_aloadR0 dX12_readUnit_107 ?_
          refine n_iconst dX12_readUnit_108 (by decide) (fun r108 e108 => ?_)
          refine q_callV1 zm_RX12_134 dX12_readUnit_109 (shM_k hs) (by decide) rfl (Nat.le_of_ble_eq_true rfl) (Nat.le_of_ble_eq_true rfl) (Nat.le_of_ble_eq_true rfl) (Nat.le_of_ble_eq_true rfl) (Nat.le_of_ble_eq_true rfl) (s_X12_blames_x G hs nb ?_)
          refine r_aloadR0 dX12_readUnit_112 ?_
          refine m_getV (x := (g81 A 12)) zf_RX12_112 rfl dX12_readUnit_113 (shM_k hs) (rfl) ?_
          refine t_ifne (t := 123) dX12_readUnit_116 (by decide) (fun h116 => ?_) (fun h116 => False.elim (by omega))
          refine r_aloadR0 dX12_readUnit_123 ?_
          refine q_callV0 zm_RX12_181 dX12_readUnit_124 (shM_k hs) (by decide) rfl (Nat.le_of_ble_eq_true rfl) (Nat.le_of_ble_eq_true rfl) (Nat.le_of_ble_eq_true rfl) (Nat.le_of_ble_eq_true rfl) (Nat.le_of_ble_eq_true rfl) (s_X12_readSum_x G hs nb ?_)
          refine r_aloadR0 dX12_readUnit_127 ?_
          refine r_iload1 dX12_readUnit_128 ?_
          refine n_bipush dX12_readUnit_129 (by decide) (fun r129 e129 => ?_)
          refine t_icne (t := 139) dX12_readUnit_131 (by decide) (fun h131 => ?_) (fun h131 => ?_)
          · refine r_iload1 dX12_readUnit_139 ?_
            refine n_bipush dX12_readUnit_140 (by decide) (fun r140 e140 => ?_)
            refine t_icne (t := 150) dX12_readUnit_142 (by decide) (fun h142 => ?_) (fun h142 => ?_)
            · refine n_bipush dX12_readUnit_150 (by decide) (fun r150 e150 => ?_)
              refine q_callV1 zm_RX12_162 dX12_readUnit_152 (shM_k hs) (by decide) rfl (Nat.le_of_ble_eq_true rfl) (Nat.le_of_ble_eq_true rfl) (Nat.le_of_ble_eq_true rfl) (Nat.le_of_ble_eq_true rfl) (Nat.le_of_ble_eq_true rfl) (s_X12_laysStep_x G hs nb ?_)
              refine r_vret dX12_readUnit_155 rfl (Nat.le_of_ble_eq_true rfl) (Nat.le_of_ble_eq_true rfl) ?_
              exact hQ _ o81 d81 p81b (fun h_z => absurd h_z hr)
            · refine n_bipush dX12_readUnit_145 (by decide) (fun r145 e145 => ?_)
              refine r_goto (t := 152) dX12_readUnit_147 (by decide) ?_
              refine q_callV1 zm_RX12_162 dX12_readUnit_152 (shM_k hs) (by decide) rfl (Nat.le_of_ble_eq_true rfl) (Nat.le_of_ble_eq_true rfl) (Nat.le_of_ble_eq_true rfl) (Nat.le_of_ble_eq_true rfl) (Nat.le_of_ble_eq_true rfl) (s_X12_laysStep_x G hs nb ?_)
              refine r_vret dX12_readUnit_155 rfl (Nat.le_of_ble_eq_true rfl) (Nat.le_of_ble_eq_true rfl) ?_
              exact hQ _ o81 d81 p81b (fun h_z => absurd h_z hr)
          · refine n_bipush dX12_readUnit_134 (by decide) (fun r134 e134 => ?_)
            refine r_goto (t := 152) dX12_readUnit_136 (by decide) ?_
            refine q_callV1 zm_RX12_162 dX12_readUnit_152 (shM_k hs) (by decide) rfl (Nat.le_of_ble_eq_true rfl) (Nat.le_of_ble_eq_true rfl) (Nat.le_of_ble_eq_true rfl) (Nat.le_of_ble_eq_true rfl) (Nat.le_of_ble_eq_true rfl) (s_X12_laysStep_x G hs nb ?_)
            refine r_vret dX12_readUnit_155 rfl (Nat.le_of_ble_eq_true rfl) (Nat.le_of_ble_eq_true rfl) ?_
            exact hQ _ o81 d81 p81b (fun h_z => absurd h_z hr)
set_option maxHeartbeats 4000000 in
set_option maxRecDepth 100000 in
theorem s_X12_readBoth_4 {g : zGT} {w : zW} {f : Nat → Nat → Int32} {j : Nat → Nat → Int64} {A : Nat} {B : Nat → Nat} {n : Nat} {wa wv : Nat → Nat} {kq : Nat} {p lm la u : Nat} {Q : Option Value → zW → Prop} {QX : String → zW → Prop} (G : zGok g) (hs : shM w A) (kw : kWd g wa wv kq) (hld : kLd g wa) (htp : tpM B n f A) (hps : psM B n f A 0 p) (hd16 : (f A 16).toInt = 2) (hlm : (f A 17).toInt = (lm : Nat)) (hla : (f A 18).toInt = (la : Nat)) (hu : (f (A + 2) lm).toInt = (u : Nat)) (h5 : lm ≤ 5) (h29 : 209 ≤ la) (h99 : la ≤ 2009) (hup : u ≤ p) (hQ : ∀ f2_z, frM A [2] [8, 9, 10, 11, 12, 13, 16] f f2_z → (f2_z A 16).toInt = 2 → psM B n f2_z A (chP B n (unP B n (if lm = 5 then 8 else 6) 4) (opA B n) p).1 (chP B n (unP B n (if lm = 5 then 8 else 6) 4) (opA B n) p).2.1 → ((chP B n (unP B n (if lm = 5 then 8 else 6) 4) (opA B n) p).1 = 0 → okM f f2_z A lm la u (chP B n (unP B n (if lm = 5 then 8 else 6) 4) (opA B n) p).2.2) → Q none (zM w f2_z j)) : zC g 57 yX12_readBoth cX12_readBoth 1 none [.ref A] (zM w f j) (0, 0) Q QX := by
  refine zC_of G (by decide +kernel) (Nat.le_of_ble_eq_true rfl) ?_
  have ht := hps.2.1 rfl
  have h12 := hps.1
  have h900 := htp.2.1
  have hgd : ∀ s, s ≤ n → gdP n true (if lm = 5 then 8 else 6) (4 + 2 * 4) s ((unP B n (if lm = 5 then 8 else 6) 4) s) := gd_un (by split <;> decide) 4
  have lp : ∀ (mz : Nat) (f2_z : Nat → Nat → Int32) (k : Nat) (r : zPR), frM A [2] [8, 9, 10, 11, 12, 13, 16] f f2_z → (f2_z A 16).toInt = 2 → psM B n f2_z A r.1 r.2.1 → (r.1 = 0 → okM f f2_z A lm la u r.2.2) → (r.1 = 0 → p ≤ r.2.1 ∧ r.2.1 ≤ n ∧ r.2.2.length + p ≤ r.2.1) → (r.1 = 0 → n ≤ k + r.2.1) → lpP B n (unP B n (if lm = 5 then 8 else 6) 4) (opA B n) k r = chP B n (unP B n (if lm = 5 then 8 else 6) 4) (opA B n) p → k < mz → zR (zV g 57 yX12_readBoth 1 none (0, 0) Q QX) cX12_readBoth yX12_readBoth.cls 4 [some (.ref A)] [] (zM w f2_z j) (0, 0) := by
    intro mz
    induction mz with
    | zero =>
      intro f2_z k r ofr hd2 hp2 hk2 hg2 hnk hR hmz
      exact absurd hmz (Nat.not_lt_zero _)
    | succ mz ih =>
      intro f2_z k r ofr hd2 hp2 hk2 hg2 hnk hR hmz
      by_cases hr : r.1 = 0
      · have hk3 := hk2 hr
        obtain ⟨q1_z, q2_z, q3_z⟩ := hg2 hr
        have hnk3 := hnk hr
        have hps2 := hp2
        rw [hr] at hps2
        have hb2 := hps2.1
        have htp2 := tpM_of htp (ofr.2.1 5 (by decide) (by decide) (by decide)) (ofr.2.2 7 (by decide))
        by_cases hc_z : isWd B n r.2.1 7 = true
        · have hop : (opA B n) r.2.1 = 2001 := if_pos hc_z
          have hop0 : (opA B n) r.2.1 ≠ 0 := by rw [hop]; decide
          have hln := tk_lt (B := B) (n := n) (s := r.2.1) (by rw [(isWd_tk hc_z).1]; decide)
          obtain ⟨k2_z, rfl⟩ : ∃ k2_z, k = k2_z + 1 := ⟨k - 1, by omega⟩
          have hnx := nxP_gt (B := B) hln
          have gq := hgd _ hnx.2
          by_cases hq : ((unP B n (if lm = 5 then 8 else 6) 4) (nxP B n r.2.1)).1 = 0
          · obtain ⟨y1, y2, y3, y4⟩ := gq.1 hq
            refine r_aloadR0 dX12_readBoth_4 ?_
            refine k_ldc (hld _ (List.mem_of_getElem? (i := 1) rfl)) dX12_readBoth_5 ?_
            refine q_callV1 zm_RX12_142 dX12_readBoth_7 (shM_k hs) (by decide) rfl (Nat.le_of_ble_eq_true rfl) (Nat.le_of_ble_eq_true rfl) (Nat.le_of_ble_eq_true rfl) (Nat.le_of_ble_eq_true rfl) (Nat.le_of_ble_eq_true rfl) (s_X12_took_t (i := 7) G hs kw (by decide) htp2 hps2 hc_z (fun r7 g7 e7_z o7 p7 => ?_))
            have htp7 := tpM_of htp2 (o7.2.1 5 (by decide) (by decide) (by decide)) (o7.2.2 7 (by decide))
            have w7 : g7 (A + 2) = f2_z (A + 2) := o7.2.1 2 (by decide) (by decide) (by decide)
            refine t_ifeq (t := 26) dX12_readBoth_10 (by decide) (fun h10 => False.elim (by omega)) (fun h10 => ?_)
            refine r_aloadR0 dX12_readBoth_13 ?_
            refine q_callV0 zm_RX12_165 dX12_readBoth_14 (shM_k hs) (by decide) rfl (Nat.le_of_ble_eq_true rfl) (Nat.le_of_ble_eq_true rfl) (Nat.le_of_ble_eq_true rfl) (Nat.le_of_ble_eq_true rfl) (Nat.le_of_ble_eq_true rfl) (s_X12_readUnit_4 (lm := lm) (la := la) (u := u + r.2.2.length) G hs kw hld htp7 p7 (by rw [o7.2.2 16 (by decide)]; exact hd2) (by rw [o7.2.2 17 (by decide), ofr.2.2 17 (by decide)]; exact hlm) (by rw [o7.2.2 18 (by decide), ofr.2.2 18 (by decide)]; exact hla) (by rw [w7]; exact hk3.1) h5 h29 h99 (by omega) (fun g14 o14 d14 p14 k14 => ?_))
            have of14 : frM A [2] [8, 9, 10, 11, 12, 13, 16] f g14 := frM_tr ofr (frM_tr (frM_su o7 (by decide) (by decide)) o14)
            have p14b : psM B n g14 A ((unP B n (if lm = 5 then 8 else 6) 4) (nxP B n r.2.1)).1 ((unP B n (if lm = 5 then 8 else 6) 4) (nxP B n r.2.1)).2.1 := p14
            have k14b : ((unP B n (if lm = 5 then 8 else 6) 4) (nxP B n r.2.1)).1 = 0 → okM g7 g14 A lm la (u + r.2.2.length) ((unP B n (if lm = 5 then 8 else 6) 4) (nxP B n r.2.1)).2.2 := k14
            refine r_aloadR0 dX12_readBoth_17 ?_
            refine n_bipush dX12_readBoth_18 (by decide) (fun r18 e18_z => ?_)
            refine q_callV1 zm_RX12_162 dX12_readBoth_20 (shM_k hs) (by decide) rfl (Nat.le_of_ble_eq_true rfl) (Nat.le_of_ble_eq_true rfl) (Nat.le_of_ble_eq_true rfl) (Nat.le_of_ble_eq_true rfl) (Nat.le_of_ble_eq_true rfl) (s_X12_laysStep (lm := lm) (la := la) (u := u + r.2.2.length + ((unP B n (if lm = 5 then 8 else 6) 4) (nxP B n r.2.1)).2.2.length) G hs (by have := p14b.1; rw [hq] at this; exact this) (by rw [of14.2.2 17 (by decide)]; exact hlm) (by rw [of14.2.2 18 (by decide)]; exact hla) (k14b hq).1 h5 h29 (by omega) (fun g20 o20 a20 b20 c20 => ?_))
            refine r_goto (t := 4) dX12_readBoth_23 (by decide) ?_
            have hp14 := p14b
            rw [hq] at hp14
            refine ih _ k2_z (0, ((unP B n (if lm = 5 then 8 else 6) 4) (nxP B n r.2.1)).2.1, r.2.2 ++ ((unP B n (if lm = 5 then 8 else 6) 4) (nxP B n r.2.1)).2.2 ++ [(opA B n) r.2.1]) (frM_tr of14 (frM_su o20 (by decide) (by decide))) (by rw [o20.2.2 16 (by decide)]; exact d14) (psM_of hp14 (o20.2.2 8 (by decide)) (o20.2.2 9 (by decide)) (o20.2.2 10 (by decide)) (o20.2.2 11 (by decide)) (o20.2.2 12 (by decide)) (o20.2.2 13 (by decide))) (fun _ => okM_ap (by omega) (by rw [List.length_append]; omega) (okM_ap (by omega) (by omega) hk3 (okM_cg (k14b hq) w7 rfl)) ?_) (fun _ => ?_) (fun _ => ?_) ?_ (by omega)
            · rw [List.length_append, ← Nat.add_assoc, hop]
              exact okM_one (by omega) a20 b20 c20 (by rw [e18_z]; rfl)
            · show p ≤ ((unP B n (if lm = 5 then 8 else 6) 4) (nxP B n r.2.1)).2.1 ∧ ((unP B n (if lm = 5 then 8 else 6) 4) (nxP B n r.2.1)).2.1 ≤ n ∧ (r.2.2 ++ ((unP B n (if lm = 5 then 8 else 6) 4) (nxP B n r.2.1)).2.2 ++ [(opA B n) r.2.1]).length + p ≤ ((unP B n (if lm = 5 then 8 else 6) 4) (nxP B n r.2.1)).2.1
              rw [List.length_append, List.length_append, List.length_singleton]
              omega
            · show n ≤ k2_z + ((unP B n (if lm = 5 then 8 else 6) 4) (nxP B n r.2.1)).2.1
              omega
            · exact (lpP_on hr hop0 hq).symm.trans hR
          · have nb : ∀ g : Nat → Nat → Int32, psM B n g A ((unP B n (if lm = 5 then 8 else 6) 4) (nxP B n r.2.1)).1 ((unP B n (if lm = 5 then 8 else 6) 4) (nxP B n r.2.1)).2.1 → (g A 12).toInt ≠ 0 := fun g h_z => by rw [h_z.1]; omega
            refine r_aloadR0 dX12_readBoth_4 ?_
            refine k_ldc (hld _ (List.mem_of_getElem? (i := 1) rfl)) dX12_readBoth_5 ?_
            refine q_callV1 zm_RX12_142 dX12_readBoth_7 (shM_k hs) (by decide) rfl (Nat.le_of_ble_eq_true rfl) (Nat.le_of_ble_eq_true rfl) (Nat.le_of_ble_eq_true rfl) (Nat.le_of_ble_eq_true rfl) (Nat.le_of_ble_eq_true rfl) (s_X12_took_t (i := 7) G hs kw (by decide) htp2 hps2 hc_z (fun r7 g7 e7_z o7 p7 => ?_))
            have htp7 := tpM_of htp2 (o7.2.1 5 (by decide) (by decide) (by decide)) (o7.2.2 7 (by decide))
            have w7 : g7 (A + 2) = f2_z (A + 2) := o7.2.1 2 (by decide) (by decide) (by decide)
            refine t_ifeq (t := 26) dX12_readBoth_10 (by decide) (fun h10 => False.elim (by omega)) (fun h10 => ?_)
            refine r_aloadR0 dX12_readBoth_13 ?_
            refine q_callV0 zm_RX12_165 dX12_readBoth_14 (shM_k hs) (by decide) rfl (Nat.le_of_ble_eq_true rfl) (Nat.le_of_ble_eq_true rfl) (Nat.le_of_ble_eq_true rfl) (Nat.le_of_ble_eq_true rfl) (Nat.le_of_ble_eq_true rfl) (s_X12_readUnit_4 (lm := lm) (la := la) (u := u + r.2.2.length) G hs kw hld htp7 p7 (by rw [o7.2.2 16 (by decide)]; exact hd2) (by rw [o7.2.2 17 (by decide), ofr.2.2 17 (by decide)]; exact hlm) (by rw [o7.2.2 18 (by decide), ofr.2.2 18 (by decide)]; exact hla) (by rw [w7]; exact hk3.1) h5 h29 h99 (by omega) (fun g14 o14 d14 p14 k14 => ?_))
            have of14 : frM A [2] [8, 9, 10, 11, 12, 13, 16] f g14 := frM_tr ofr (frM_tr (frM_su o7 (by decide) (by decide)) o14)
            have p14b : psM B n g14 A ((unP B n (if lm = 5 then 8 else 6) 4) (nxP B n r.2.1)).1 ((unP B n (if lm = 5 then 8 else 6) 4) (nxP B n r.2.1)).2.1 := p14
            have k14b : ((unP B n (if lm = 5 then 8 else 6) 4) (nxP B n r.2.1)).1 = 0 → okM g7 g14 A lm la (u + r.2.2.length) ((unP B n (if lm = 5 then 8 else 6) 4) (nxP B n r.2.1)).2.2 := k14
            refine r_aloadR0 dX12_readBoth_17 ?_
            refine n_bipush dX12_readBoth_18 (by decide) (fun r18 e18_z => ?_)
            refine q_callV1 zm_RX12_162 dX12_readBoth_20 (shM_k hs) (by decide) rfl (Nat.le_of_ble_eq_true rfl) (Nat.le_of_ble_eq_true rfl) (Nat.le_of_ble_eq_true rfl) (Nat.le_of_ble_eq_true rfl) (Nat.le_of_ble_eq_true rfl) (s_X12_laysStep_x G hs (nb _ p14b) ?_)
            refine r_goto (t := 4) dX12_readBoth_23 (by decide) ?_
            exact ih _ k2_z ((unP B n (if lm = 5 then 8 else 6) 4) (nxP B n r.2.1)) of14 d14 p14b (fun h_z => absurd h_z hq) (fun h_z => absurd h_z hq) (fun h_z => absurd h_z hq) ((lpP_bad hq).trans ((lpP_sub hr hop0 hq).symm.trans hR)) (by omega)
        · have hop : (opA B n) r.2.1 = 0 := if_neg hc_z
          have hv := (lpP_end (B := B) (n := n) (k := k) (sub := (unP B n (if lm = 5 then 8 else 6) 4)) hop).symm.trans hR
          refine r_aloadR0 dX12_readBoth_4 ?_
          refine k_ldc (hld _ (List.mem_of_getElem? (i := 1) rfl)) dX12_readBoth_5 ?_
          refine q_callV1 zm_RX12_142 dX12_readBoth_7 (shM_k hs) (by decide) rfl (Nat.le_of_ble_eq_true rfl) (Nat.le_of_ble_eq_true rfl) (Nat.le_of_ble_eq_true rfl) (Nat.le_of_ble_eq_true rfl) (Nat.le_of_ble_eq_true rfl) (s_X12_took_f (i := 7) G hs kw (by decide) htp2 hps2 hc_z (fun r7 e7_z => ?_))
          refine t_ifeq (t := 26) dX12_readBoth_10 (by decide) (fun h10 => ?_) (fun h10 => False.elim (by omega))
          refine r_vret dX12_readBoth_26 rfl (Nat.le_of_ble_eq_true rfl) (Nat.le_of_ble_eq_true rfl) ?_
          rw [← hv] at hQ
          exact hQ _ ofr hd2 hp2 hk2
      · have hb2 : (f2_z A 12).toInt ≠ 0 := by rw [hp2.1]; omega
        have hv := (lpP_bad (B := B) (n := n) (k := k) (sub := (unP B n (if lm = 5 then 8 else 6) 4)) (op := (opA B n)) hr).symm.trans hR
        refine r_aloadR0 dX12_readBoth_4 ?_
        refine k_ldc (hld _ (List.mem_of_getElem? (i := 1) rfl)) dX12_readBoth_5 ?_
        refine q_callV1 zm_RX12_142 dX12_readBoth_7 (shM_k hs) (by decide) rfl (Nat.le_of_ble_eq_true rfl) (Nat.le_of_ble_eq_true rfl) (Nat.le_of_ble_eq_true rfl) (Nat.le_of_ble_eq_true rfl) (Nat.le_of_ble_eq_true rfl) (s_X12_took_x (i := 7) (B := fun _ => 0) (n := 0) G hs kw (by decide) hb2 (fun r7 e7_z => ?_))
        refine t_ifeq (t := 26) dX12_readBoth_10 (by decide) (fun h10 => ?_) (fun h10 => False.elim (by omega))
        refine r_vret dX12_readBoth_26 rfl (Nat.le_of_ble_eq_true rfl) (Nat.le_of_ble_eq_true rfl) ?_
        rw [← hv] at hQ
        exact hQ _ ofr hd2 hp2 hk2
  refine r_aloadR0 dX12_readBoth_0 ?_
  refine q_callV0 zm_RX12_165 dX12_readBoth_1 (shM_k hs) (by decide) rfl (Nat.le_of_ble_eq_true rfl) (Nat.le_of_ble_eq_true rfl) (Nat.le_of_ble_eq_true rfl) (Nat.le_of_ble_eq_true rfl) (Nat.le_of_ble_eq_true rfl) (s_X12_readUnit_4 G hs kw hld htp hps hd16 hlm hla hu h5 h29 h99 hup (fun g1 o1 d1 p1 k1_z => ?_))
  have gp := hgd p ht.1
  exact lp _ g1 n ((unP B n (if lm = 5 then 8 else 6) 4) p) o1 d1 p1 k1_z (fun h_z => ⟨Nat.le_of_lt (gp.1 h_z).1, (gp.1 h_z).2.1, (gp.1 h_z).2.2.1⟩) (fun _ => Nat.le_add_right n _) rfl (Nat.lt_succ_self n)
set_option maxHeartbeats 4000000 in
set_option maxRecDepth 100000 in
theorem s_X12_readTruth_4 {g : zGT} {w : zW} {f : Nat → Nat → Int32} {j : Nat → Nat → Int64} {A : Nat} {B : Nat → Nat} {n : Nat} {wa wv : Nat → Nat} {kq : Nat} {p lm la u : Nat} {Q : Option Value → zW → Prop} {QX : String → zW → Prop} (G : zGok g) (hs : shM w A) (kw : kWd g wa wv kq) (hld : kLd g wa) (htp : tpM B n f A) (hps : psM B n f A 0 p) (hd16 : (f A 16).toInt = 2) (hlm : (f A 17).toInt = (lm : Nat)) (hla : (f A 18).toInt = (la : Nat)) (hu : (f (A + 2) lm).toInt = (u : Nat)) (h5 : lm ≤ 5) (h29 : 209 ≤ la) (h99 : la ≤ 2009) (hup : u ≤ p) (hQ : ∀ f2_z, frM A [2] [8, 9, 10, 11, 12, 13, 16] f f2_z → (f2_z A 16).toInt = 2 → psM B n f2_z A (chP B n (chP B n (unP B n (if lm = 5 then 8 else 6) 4) (opA B n)) (opO B n) p).1 (chP B n (chP B n (unP B n (if lm = 5 then 8 else 6) 4) (opA B n)) (opO B n) p).2.1 → ((chP B n (chP B n (unP B n (if lm = 5 then 8 else 6) 4) (opA B n)) (opO B n) p).1 = 0 → okM f f2_z A lm la u (chP B n (chP B n (unP B n (if lm = 5 then 8 else 6) 4) (opA B n)) (opO B n) p).2.2) → Q none (zM w f2_z j)) : zC g 58 yX12_readTruth cX12_readTruth 1 none [.ref A] (zM w f j) (0, 0) Q QX := by
  refine zC_of G (by decide +kernel) (Nat.le_of_ble_eq_true rfl) ?_
  have ht := hps.2.1 rfl
  have h12 := hps.1
  have h900 := htp.2.1
  have hgd : ∀ s, s ≤ n → gdP n true (if lm = 5 then 8 else 6) (4 + 2 * 4 + 1) s ((chP B n (unP B n (if lm = 5 then 8 else 6) 4) (opA B n)) s) := fun s hs9 => gd_ch (gd_un (by split <;> decide) 4) hop_A hs9
  have lp : ∀ (mz : Nat) (f2_z : Nat → Nat → Int32) (k : Nat) (r : zPR), frM A [2] [8, 9, 10, 11, 12, 13, 16] f f2_z → (f2_z A 16).toInt = 2 → psM B n f2_z A r.1 r.2.1 → (r.1 = 0 → okM f f2_z A lm la u r.2.2) → (r.1 = 0 → p ≤ r.2.1 ∧ r.2.1 ≤ n ∧ r.2.2.length + p ≤ r.2.1) → (r.1 = 0 → n ≤ k + r.2.1) → lpP B n (chP B n (unP B n (if lm = 5 then 8 else 6) 4) (opA B n)) (opO B n) k r = chP B n (chP B n (unP B n (if lm = 5 then 8 else 6) 4) (opA B n)) (opO B n) p → k < mz → zR (zV g 58 yX12_readTruth 1 none (0, 0) Q QX) cX12_readTruth yX12_readTruth.cls 4 [some (.ref A)] [] (zM w f2_z j) (0, 0) := by
    intro mz
    induction mz with
    | zero =>
      intro f2_z k r ofr hd2 hp2 hk2 hg2 hnk hR hmz
      exact absurd hmz (Nat.not_lt_zero _)
    | succ mz ih =>
      intro f2_z k r ofr hd2 hp2 hk2 hg2 hnk hR hmz
      by_cases hr : r.1 = 0
      · have hk3 := hk2 hr
        obtain ⟨q1_z, q2_z, q3_z⟩ := hg2 hr
        have hnk3 := hnk hr
        have hps2 := hp2
        rw [hr] at hps2
        have hb2 := hps2.1
        have htp2 := tpM_of htp (ofr.2.1 5 (by decide) (by decide) (by decide)) (ofr.2.2 7 (by decide))
        by_cases hc_z : isWd B n r.2.1 6 = true
        · have hop : (opO B n) r.2.1 = 2002 := if_pos hc_z
          have hop0 : (opO B n) r.2.1 ≠ 0 := by rw [hop]; decide
          have hln := tk_lt (B := B) (n := n) (s := r.2.1) (by rw [(isWd_tk hc_z).1]; decide)
          obtain ⟨k2_z, rfl⟩ : ∃ k2_z, k = k2_z + 1 := ⟨k - 1, by omega⟩
          have hnx := nxP_gt (B := B) hln
          have gq := hgd _ hnx.2
          by_cases hq : ((chP B n (unP B n (if lm = 5 then 8 else 6) 4) (opA B n)) (nxP B n r.2.1)).1 = 0
          · obtain ⟨y1, y2, y3, y4⟩ := gq.1 hq
            refine r_aloadR0 dX12_readTruth_4 ?_
            refine k_ldc (hld _ (List.mem_of_getElem? (i := 0) rfl)) dX12_readTruth_5 ?_
            refine q_callV1 zm_RX12_142 dX12_readTruth_7 (shM_k hs) (by decide) rfl (Nat.le_of_ble_eq_true rfl) (Nat.le_of_ble_eq_true rfl) (Nat.le_of_ble_eq_true rfl) (Nat.le_of_ble_eq_true rfl) (Nat.le_of_ble_eq_true rfl) (s_X12_took_t (i := 6) G hs kw (by decide) htp2 hps2 hc_z (fun r7 g7 e7_z o7 p7 => ?_))
            have htp7 := tpM_of htp2 (o7.2.1 5 (by decide) (by decide) (by decide)) (o7.2.2 7 (by decide))
            have w7 : g7 (A + 2) = f2_z (A + 2) := o7.2.1 2 (by decide) (by decide) (by decide)
            refine t_ifeq (t := 26) dX12_readTruth_10 (by decide) (fun h10 => False.elim (by omega)) (fun h10 => ?_)
            refine r_aloadR0 dX12_readTruth_13 ?_
            refine q_callV0 zm_RX12_157 dX12_readTruth_14 (shM_k hs) (by decide) rfl (Nat.le_of_ble_eq_true rfl) (Nat.le_of_ble_eq_true rfl) (Nat.le_of_ble_eq_true rfl) (Nat.le_of_ble_eq_true rfl) (Nat.le_of_ble_eq_true rfl) (s_X12_readBoth_4 (lm := lm) (la := la) (u := u + r.2.2.length) G hs kw hld htp7 p7 (by rw [o7.2.2 16 (by decide)]; exact hd2) (by rw [o7.2.2 17 (by decide), ofr.2.2 17 (by decide)]; exact hlm) (by rw [o7.2.2 18 (by decide), ofr.2.2 18 (by decide)]; exact hla) (by rw [w7]; exact hk3.1) h5 h29 h99 (by omega) (fun g14 o14 d14 p14 k14 => ?_))
            have of14 : frM A [2] [8, 9, 10, 11, 12, 13, 16] f g14 := frM_tr ofr (frM_tr (frM_su o7 (by decide) (by decide)) o14)
            have p14b : psM B n g14 A ((chP B n (unP B n (if lm = 5 then 8 else 6) 4) (opA B n)) (nxP B n r.2.1)).1 ((chP B n (unP B n (if lm = 5 then 8 else 6) 4) (opA B n)) (nxP B n r.2.1)).2.1 := p14
            have k14b : ((chP B n (unP B n (if lm = 5 then 8 else 6) 4) (opA B n)) (nxP B n r.2.1)).1 = 0 → okM g7 g14 A lm la (u + r.2.2.length) ((chP B n (unP B n (if lm = 5 then 8 else 6) 4) (opA B n)) (nxP B n r.2.1)).2.2 := k14
            refine r_aloadR0 dX12_readTruth_17 ?_
            refine n_bipush dX12_readTruth_18 (by decide) (fun r18 e18_z => ?_)
            refine q_callV1 zm_RX12_162 dX12_readTruth_20 (shM_k hs) (by decide) rfl (Nat.le_of_ble_eq_true rfl) (Nat.le_of_ble_eq_true rfl) (Nat.le_of_ble_eq_true rfl) (Nat.le_of_ble_eq_true rfl) (Nat.le_of_ble_eq_true rfl) (s_X12_laysStep (lm := lm) (la := la) (u := u + r.2.2.length + ((chP B n (unP B n (if lm = 5 then 8 else 6) 4) (opA B n)) (nxP B n r.2.1)).2.2.length) G hs (by have := p14b.1; rw [hq] at this; exact this) (by rw [of14.2.2 17 (by decide)]; exact hlm) (by rw [of14.2.2 18 (by decide)]; exact hla) (k14b hq).1 h5 h29 (by omega) (fun g20 o20 a20 b20 c20 => ?_))
            refine r_goto (t := 4) dX12_readTruth_23 (by decide) ?_
            have hp14 := p14b
            rw [hq] at hp14
            refine ih _ k2_z (0, ((chP B n (unP B n (if lm = 5 then 8 else 6) 4) (opA B n)) (nxP B n r.2.1)).2.1, r.2.2 ++ ((chP B n (unP B n (if lm = 5 then 8 else 6) 4) (opA B n)) (nxP B n r.2.1)).2.2 ++ [(opO B n) r.2.1]) (frM_tr of14 (frM_su o20 (by decide) (by decide))) (by rw [o20.2.2 16 (by decide)]; exact d14) (psM_of hp14 (o20.2.2 8 (by decide)) (o20.2.2 9 (by decide)) (o20.2.2 10 (by decide)) (o20.2.2 11 (by decide)) (o20.2.2 12 (by decide)) (o20.2.2 13 (by decide))) (fun _ => okM_ap (by omega) (by rw [List.length_append]; omega) (okM_ap (by omega) (by omega) hk3 (okM_cg (k14b hq) w7 rfl)) ?_) (fun _ => ?_) (fun _ => ?_) ?_ (by omega)
            · rw [List.length_append, ← Nat.add_assoc, hop]
              exact okM_one (by omega) a20 b20 c20 (by rw [e18_z]; rfl)
            · show p ≤ ((chP B n (unP B n (if lm = 5 then 8 else 6) 4) (opA B n)) (nxP B n r.2.1)).2.1 ∧ ((chP B n (unP B n (if lm = 5 then 8 else 6) 4) (opA B n)) (nxP B n r.2.1)).2.1 ≤ n ∧ (r.2.2 ++ ((chP B n (unP B n (if lm = 5 then 8 else 6) 4) (opA B n)) (nxP B n r.2.1)).2.2 ++ [(opO B n) r.2.1]).length + p ≤ ((chP B n (unP B n (if lm = 5 then 8 else 6) 4) (opA B n)) (nxP B n r.2.1)).2.1
              rw [List.length_append, List.length_append, List.length_singleton]
              omega
            · show n ≤ k2_z + ((chP B n (unP B n (if lm = 5 then 8 else 6) 4) (opA B n)) (nxP B n r.2.1)).2.1
              omega
            · exact (lpP_on hr hop0 hq).symm.trans hR
          · have nb : ∀ g : Nat → Nat → Int32, psM B n g A ((chP B n (unP B n (if lm = 5 then 8 else 6) 4) (opA B n)) (nxP B n r.2.1)).1 ((chP B n (unP B n (if lm = 5 then 8 else 6) 4) (opA B n)) (nxP B n r.2.1)).2.1 → (g A 12).toInt ≠ 0 := fun g h_z => by rw [h_z.1]; omega
            refine r_aloadR0 dX12_readTruth_4 ?_
            refine k_ldc (hld _ (List.mem_of_getElem? (i := 0) rfl)) dX12_readTruth_5 ?_
            refine q_callV1 zm_RX12_142 dX12_readTruth_7 (shM_k hs) (by decide) rfl (Nat.le_of_ble_eq_true rfl) (Nat.le_of_ble_eq_true rfl) (Nat.le_of_ble_eq_true rfl) (Nat.le_of_ble_eq_true rfl) (Nat.le_of_ble_eq_true rfl) (s_X12_took_t (i := 6) G hs kw (by decide) htp2 hps2 hc_z (fun r7 g7 e7_z o7 p7 => ?_))
            have htp7 := tpM_of htp2 (o7.2.1 5 (by decide) (by decide) (by decide)) (o7.2.2 7 (by decide))
            have w7 : g7 (A + 2) = f2_z (A + 2) := o7.2.1 2 (by decide) (by decide) (by decide)
            refine t_ifeq (t := 26) dX12_readTruth_10 (by decide) (fun h10 => False.elim (by omega)) (fun h10 => ?_)
            refine r_aloadR0 dX12_readTruth_13 ?_
            refine q_callV0 zm_RX12_157 dX12_readTruth_14 (shM_k hs) (by decide) rfl (Nat.le_of_ble_eq_true rfl) (Nat.le_of_ble_eq_true rfl) (Nat.le_of_ble_eq_true rfl) (Nat.le_of_ble_eq_true rfl) (Nat.le_of_ble_eq_true rfl) (s_X12_readBoth_4 (lm := lm) (la := la) (u := u + r.2.2.length) G hs kw hld htp7 p7 (by rw [o7.2.2 16 (by decide)]; exact hd2) (by rw [o7.2.2 17 (by decide), ofr.2.2 17 (by decide)]; exact hlm) (by rw [o7.2.2 18 (by decide), ofr.2.2 18 (by decide)]; exact hla) (by rw [w7]; exact hk3.1) h5 h29 h99 (by omega) (fun g14 o14 d14 p14 k14 => ?_))
            have of14 : frM A [2] [8, 9, 10, 11, 12, 13, 16] f g14 := frM_tr ofr (frM_tr (frM_su o7 (by decide) (by decide)) o14)
            have p14b : psM B n g14 A ((chP B n (unP B n (if lm = 5 then 8 else 6) 4) (opA B n)) (nxP B n r.2.1)).1 ((chP B n (unP B n (if lm = 5 then 8 else 6) 4) (opA B n)) (nxP B n r.2.1)).2.1 := p14
            have k14b : ((chP B n (unP B n (if lm = 5 then 8 else 6) 4) (opA B n)) (nxP B n r.2.1)).1 = 0 → okM g7 g14 A lm la (u + r.2.2.length) ((chP B n (unP B n (if lm = 5 then 8 else 6) 4) (opA B n)) (nxP B n r.2.1)).2.2 := k14
            refine r_aloadR0 dX12_readTruth_17 ?_
            refine n_bipush dX12_readTruth_18 (by decide) (fun r18 e18_z => ?_)
            refine q_callV1 zm_RX12_162 dX12_readTruth_20 (shM_k hs) (by decide) rfl (Nat.le_of_ble_eq_true rfl) (Nat.le_of_ble_eq_true rfl) (Nat.le_of_ble_eq_true rfl) (Nat.le_of_ble_eq_true rfl) (Nat.le_of_ble_eq_true rfl) (s_X12_laysStep_x G hs (nb _ p14b) ?_)
            refine r_goto (t := 4) dX12_readTruth_23 (by decide) ?_
            exact ih _ k2_z ((chP B n (unP B n (if lm = 5 then 8 else 6) 4) (opA B n)) (nxP B n r.2.1)) of14 d14 p14b (fun h_z => absurd h_z hq) (fun h_z => absurd h_z hq) (fun h_z => absurd h_z hq) ((lpP_bad hq).trans ((lpP_sub hr hop0 hq).symm.trans hR)) (by omega)
        · have hop : (opO B n) r.2.1 = 0 := if_neg hc_z
          have hv := (lpP_end (B := B) (n := n) (k := k) (sub := (chP B n (unP B n (if lm = 5 then 8 else 6) 4) (opA B n))) hop).symm.trans hR
          refine r_aloadR0 dX12_readTruth_4 ?_
          refine k_ldc (hld _ (List.mem_of_getElem? (i := 0) rfl)) dX12_readTruth_5 ?_
          refine q_callV1 zm_RX12_142 dX12_readTruth_7 (shM_k hs) (by decide) rfl (Nat.le_of_ble_eq_true rfl) (Nat.le_of_ble_eq_true rfl) (Nat.le_of_ble_eq_true rfl) (Nat.le_of_ble_eq_true rfl) (Nat.le_of_ble_eq_true rfl) (s_X12_took_f (i := 6) G hs kw (by decide) htp2 hps2 hc_z (fun r7 e7_z => ?_))
          refine t_ifeq (t := 26) dX12_readTruth_10 (by decide) (fun h10 => ?_) (fun h10 => False.elim (by omega))
          refine r_vret dX12_readTruth_26 rfl (Nat.le_of_ble_eq_true rfl) (Nat.le_of_ble_eq_true rfl) ?_
          rw [← hv] at hQ
          exact hQ _ ofr hd2 hp2 hk2
      · have hb2 : (f2_z A 12).toInt ≠ 0 := by rw [hp2.1]; omega
        have hv := (lpP_bad (B := B) (n := n) (k := k) (sub := (chP B n (unP B n (if lm = 5 then 8 else 6) 4) (opA B n))) (op := (opO B n)) hr).symm.trans hR
        refine r_aloadR0 dX12_readTruth_4 ?_
        refine k_ldc (hld _ (List.mem_of_getElem? (i := 0) rfl)) dX12_readTruth_5 ?_
        refine q_callV1 zm_RX12_142 dX12_readTruth_7 (shM_k hs) (by decide) rfl (Nat.le_of_ble_eq_true rfl) (Nat.le_of_ble_eq_true rfl) (Nat.le_of_ble_eq_true rfl) (Nat.le_of_ble_eq_true rfl) (Nat.le_of_ble_eq_true rfl) (s_X12_took_x (i := 6) (B := fun _ => 0) (n := 0) G hs kw (by decide) hb2 (fun r7 e7_z => ?_))
        refine t_ifeq (t := 26) dX12_readTruth_10 (by decide) (fun h10 => ?_) (fun h10 => False.elim (by omega))
        refine r_vret dX12_readTruth_26 rfl (Nat.le_of_ble_eq_true rfl) (Nat.le_of_ble_eq_true rfl) ?_
        rw [← hv] at hQ
        exact hQ _ ofr hd2 hp2 hk2
  refine r_aloadR0 dX12_readTruth_0 ?_
  refine q_callV0 zm_RX12_157 dX12_readTruth_1 (shM_k hs) (by decide) rfl (Nat.le_of_ble_eq_true rfl) (Nat.le_of_ble_eq_true rfl) (Nat.le_of_ble_eq_true rfl) (Nat.le_of_ble_eq_true rfl) (Nat.le_of_ble_eq_true rfl) (s_X12_readBoth_4 G hs kw hld htp hps hd16 hlm hla hu h5 h29 h99 hup (fun g1 o1 d1 p1 k1_z => ?_))
  have gp := hgd p ht.1
  exact lp _ g1 n ((chP B n (unP B n (if lm = 5 then 8 else 6) 4) (opA B n)) p) o1 d1 p1 k1_z (fun h_z => ⟨Nat.le_of_lt (gp.1 h_z).1, (gp.1 h_z).2.1, (gp.1 h_z).2.2.1⟩) (fun _ => Nat.le_add_right n _) rfl (Nat.lt_succ_self n)
set_option maxHeartbeats 4000000 in
set_option maxRecDepth 100000 in
theorem s_X12_readUnit_5 {g : zGT} {w : zW} {f : Nat → Nat → Int32} {j : Nat → Nat → Int64} {A : Nat} {B : Nat → Nat} {n : Nat} {wa wv : Nat → Nat} {kq : Nat} {p lm la u : Nat} {Q : Option Value → zW → Prop} {QX : String → zW → Prop} (G : zGok g) (hs : shM w A) (kw : kWd g wa wv kq) (hld : kLd g wa) (htp : tpM B n f A) (hps : psM B n f A 0 p) (hd16 : (f A 16).toInt = 1) (hlm : (f A 17).toInt = (lm : Nat)) (hla : (f A 18).toInt = (la : Nat)) (hu : (f (A + 2) lm).toInt = (u : Nat)) (h5 : lm ≤ 5) (h29 : 209 ≤ la) (h99 : la ≤ 2009) (hup : u ≤ p) (hQ : ∀ f2_z, frM A [2] [8, 9, 10, 11, 12, 13, 16] f f2_z → (f2_z A 16).toInt = 1 → psM B n f2_z A (unP B n (if lm = 5 then 8 else 6) 5 p).1 (unP B n (if lm = 5 then 8 else 6) 5 p).2.1 → ((unP B n (if lm = 5 then 8 else 6) 5 p).1 = 0 → okM f f2_z A lm la u (unP B n (if lm = 5 then 8 else 6) 5 p).2.2) → Q none (zM w f2_z j)) : zC g 60 yX12_readUnit cX12_readUnit 2 none [.ref A] (zM w f j) (0, 0) Q QX := by
  refine zC_of G (by decide +kernel) (Nat.le_of_ble_eq_true rfl) ?_
  have ht := hps.2.1 rfl
  have h12 := hps.1
  have hte := teP_le (B := B) ht.1
  have h900 := htp.2.1
  have h10 := ht.2.2.2.1
  have hsm : ∀ s, s ≤ n → gdP n false (if lm = 5 then 8 else 6) (1 + 2 * 5 + 2) s (smP B n (if lm = 5 then 8 else 6) 5 s) := fun s hs9 => gd_su (gd_at (by split <;> decide) 5) hs9
  by_cases hw : isWd B n p 8 = true
  · have hv : unP B n (if lm = 5 then 8 else 6) 5 p = noP ((unP B n (if lm = 5 then 8 else 6) 4) (nxP B n p)) := if_pos hw
    rw [hv] at hQ
    have hwt := isWd_tk hw
    have hpn := tk_lt (B := B) (n := n) (s := p) (by rw [hwt.1]; decide)
    have hnx := nxP_gt (B := B) hpn
    have hgu : gdP n true (if lm = 5 then 8 else 6) (4 + 2 * 4) (nxP B n p) ((unP B n (if lm = 5 then 8 else 6) 4) (nxP B n p)) := gd_un (by split <;> decide) 4 _ hnx.2
    by_cases hr : ((unP B n (if lm = 5 then 8 else 6) 4) (nxP B n p)).1 = 0
    · have hv2 : noP ((unP B n (if lm = 5 then 8 else 6) 4) (nxP B n p)) = (0, ((unP B n (if lm = 5 then 8 else 6) 4) (nxP B n p)).2.1, ((unP B n (if lm = 5 then 8 else 6) 4) (nxP B n p)).2.2 ++ [2000]) := if_neg (not_not_intro hr)
      rw [hv2] at hQ
      obtain ⟨y1, y2, y3, y4⟩ := hgu.1 hr
      refine r_aloadR0 dX12_readUnit_0 ?_
      refine m_getV (x := (f A 12)) zf_RX12_112 rfl dX12_readUnit_1 (shM_k hs) (rfl) ?_
      refine t_ifeq (t := 8) dX12_readUnit_4 (by decide) (fun h4 => ?_) (fun h4 => False.elim (by omega))
      refine r_aloadR0 dX12_readUnit_8 ?_
      refine k_ldc (hld _ (List.mem_of_getElem? (i := 2) rfl)) dX12_readUnit_9 ?_
      refine q_callV1 zm_RX12_127 dX12_readUnit_11 (shM_k hs) (by decide) rfl (Nat.le_of_ble_eq_true rfl) (Nat.le_of_ble_eq_true rfl) (Nat.le_of_ble_eq_true rfl) (Nat.le_of_ble_eq_true rfl) (Nat.le_of_ble_eq_true rfl) (s_X12_isWord (i := 8) G hs kw (by decide) htp hps (fun r11 e11_z => ?_))
      have e11b : r11.toInt = 1 := e11_z.elim (fun h_z => h_z.1) (fun h_z => absurd hw h_z.2)
      refine t_ifeq (t := 44) dX12_readUnit_14 (by decide) (fun h14 => False.elim (by omega)) (fun h14 => ?_)
      refine r_aloadR0 dX12_readUnit_17 ?_
      refine q_callV0 zm_RX12_172 dX12_readUnit_18 (shM_k hs) (by decide) rfl (Nat.le_of_ble_eq_true rfl) (Nat.le_of_ble_eq_true rfl) (Nat.le_of_ble_eq_true rfl) (Nat.le_of_ble_eq_true rfl) (Nat.le_of_ble_eq_true rfl) (s_X12_goesIn (d := 1) G hs htp hps hd16 (by decide) (by rw [hwt.1]; decide) (fun g18 o18 a18 b18 c18 => ?_))
      have p18 := c18 (by decide)
      have htp18 := tpM_of htp (o18.2.1 5 (by decide) (by decide) (by decide)) (o18.2.2 7 (by decide))
      have w18 : g18 (A + 2) = f (A + 2) := o18.2.1 2 (by decide) (by decide) (by decide)
      refine r_aloadR0 dX12_readUnit_21 ?_
      refine q_callV0 zm_RX12_165 dX12_readUnit_22 (shM_k hs) (by decide) rfl (Nat.le_of_ble_eq_true rfl) (Nat.le_of_ble_eq_true rfl) (Nat.le_of_ble_eq_true rfl) (Nat.le_of_ble_eq_true rfl) (Nat.le_of_ble_eq_true rfl) (s_X12_readUnit_4 (lm := lm) (la := la) (u := u) G hs kw hld htp18 p18 (by rw [a18]; rfl) (by rw [o18.2.2 17 (by decide)]; exact hlm) (by rw [o18.2.2 18 (by decide)]; exact hla) (by rw [w18]; exact hu) h5 h29 h99 (by omega) (fun g22 o22 d22 p22 k22 => ?_))
      have of22 : frM A [2] [8, 9, 10, 11, 12, 13, 16] f g22 := frM_tr (frM_su o18 (by decide) (by decide)) o22
      refine r_aloadR0 dX12_readUnit_25 ?_
      refine n_bipush dX12_readUnit_26 (by decide) (fun r26 e26_z => ?_)
      refine q_callV1 zm_RX12_162 dX12_readUnit_28 (shM_k hs) (by decide) rfl (Nat.le_of_ble_eq_true rfl) (Nat.le_of_ble_eq_true rfl) (Nat.le_of_ble_eq_true rfl) (Nat.le_of_ble_eq_true rfl) (Nat.le_of_ble_eq_true rfl) (s_X12_laysStep (lm := lm) (la := la) (u := u + ((unP B n (if lm = 5 then 8 else 6) 4) (nxP B n p)).2.2.length) G hs (by have := p22.1; rw [hr] at this; exact this) (by rw [of22.2.2 17 (by decide)]; exact hlm) (by rw [of22.2.2 18 (by decide)]; exact hla) (k22 hr).1 h5 h29 (by omega) (fun g28 o28 a28 b28 c28 => ?_))
      have d28 : (g28 A 16).toInt = 2 := by rw [o28.2.2 16 (by decide)]; exact d22
      have p22b := p22
      rw [hr] at p22b
      refine r_aloadR0 dX12_readUnit_31 ?_
      refine r_dup dX12_readUnit_32 rfl ?_
      refine m_getV (x := (g28 A 16)) zf_RX12_154 rfl dX12_readUnit_33 (shM_k hs) (rfl) ?_
      refine n_iconst dX12_readUnit_36 (by decide) (fun r36 e36 => ?_)
      refine n_isub dX12_readUnit_37 (by omega) (fun r37 e37 => ?_)
      refine m_putI zf_RX12_154 (by intro C T N h_z; cases h_z; rfl) rfl dX12_readUnit_38 (shM_k hs) ?_
      obtain ⟨g38, hg38⟩ : ∃ g9, g9 = zu g28 A 16 r37 := ⟨_, rfl⟩
      rw [← hg38]
      have og38 : frM A [] [16] g28 g38 := by rw [hg38]; exact frM_zk frM_rf (by decide)
      have vg38 : g38 A 16 = r37 := by rw [hg38]; exact zu_at
      have vt38 : (g38 A 16).toInt = r37.toInt := by rw [vg38]
      refine r_goto (t := 155) dX12_readUnit_41 (by decide) ?_
      refine r_vret dX12_readUnit_155 rfl (Nat.le_of_ble_eq_true rfl) (Nat.le_of_ble_eq_true rfl) ?_
      exact hQ _ (frM_tr (frM_tr of22 (frM_su o28 (by decide) (by decide))) (frM_su og38 (by decide) (by decide))) (by rw [vt38]; omega) (psM_of (psM_of p22b (o28.2.2 8 (by decide)) (o28.2.2 9 (by decide)) (o28.2.2 10 (by decide)) (o28.2.2 11 (by decide)) (o28.2.2 12 (by decide)) (o28.2.2 13 (by decide))) (og38.2.2 8 (by decide)) (og38.2.2 9 (by decide)) (og38.2.2 10 (by decide)) (og38.2.2 11 (by decide)) (og38.2.2 12 (by decide)) (og38.2.2 13 (by decide))) (fun _ => okM_cg (okM_ap (by omega) (by omega) (k22 hr) (okM_one (by omega) a28 b28 c28 (by rw [e26_z]; rfl))) w18 (og38.2.1 2 (by decide) (by decide) (by decide)))
    · have hv2 : noP ((unP B n (if lm = 5 then 8 else 6) 4) (nxP B n p)) = ((unP B n (if lm = 5 then 8 else 6) 4) (nxP B n p)) := if_pos hr
      rw [hv2] at hQ
      refine r_aloadR0 dX12_readUnit_0 ?_
      refine m_getV (x := (f A 12)) zf_RX12_112 rfl dX12_readUnit_1 (shM_k hs) (rfl) ?_
      refine t_ifeq (t := 8) dX12_readUnit_4 (by decide) (fun h4 => ?_) (fun h4 => False.elim (by omega))
      refine r_aloadR0 dX12_readUnit_8 ?_
      refine k_ldc (hld _ (List.mem_of_getElem? (i := 2) rfl)) dX12_readUnit_9 ?_
      refine q_callV1 zm_RX12_127 dX12_readUnit_11 (shM_k hs) (by decide) rfl (Nat.le_of_ble_eq_true rfl) (Nat.le_of_ble_eq_true rfl) (Nat.le_of_ble_eq_true rfl) (Nat.le_of_ble_eq_true rfl) (Nat.le_of_ble_eq_true rfl) (s_X12_isWord (i := 8) G hs kw (by decide) htp hps (fun r11 e11_z => ?_))
      have e11b : r11.toInt = 1 := e11_z.elim (fun h_z => h_z.1) (fun h_z => absurd hw h_z.2)
      refine t_ifeq (t := 44) dX12_readUnit_14 (by decide) (fun h14 => False.elim (by omega)) (fun h14 => ?_)
      refine r_aloadR0 dX12_readUnit_17 ?_
      refine q_callV0 zm_RX12_172 dX12_readUnit_18 (shM_k hs) (by decide) rfl (Nat.le_of_ble_eq_true rfl) (Nat.le_of_ble_eq_true rfl) (Nat.le_of_ble_eq_true rfl) (Nat.le_of_ble_eq_true rfl) (Nat.le_of_ble_eq_true rfl) (s_X12_goesIn (d := 1) G hs htp hps hd16 (by decide) (by rw [hwt.1]; decide) (fun g18 o18 a18 b18 c18 => ?_))
      have p18 := c18 (by decide)
      have htp18 := tpM_of htp (o18.2.1 5 (by decide) (by decide) (by decide)) (o18.2.2 7 (by decide))
      have w18 : g18 (A + 2) = f (A + 2) := o18.2.1 2 (by decide) (by decide) (by decide)
      refine r_aloadR0 dX12_readUnit_21 ?_
      refine q_callV0 zm_RX12_165 dX12_readUnit_22 (shM_k hs) (by decide) rfl (Nat.le_of_ble_eq_true rfl) (Nat.le_of_ble_eq_true rfl) (Nat.le_of_ble_eq_true rfl) (Nat.le_of_ble_eq_true rfl) (Nat.le_of_ble_eq_true rfl) (s_X12_readUnit_4 (lm := lm) (la := la) (u := u) G hs kw hld htp18 p18 (by rw [a18]; rfl) (by rw [o18.2.2 17 (by decide)]; exact hlm) (by rw [o18.2.2 18 (by decide)]; exact hla) (by rw [w18]; exact hu) h5 h29 h99 (by omega) (fun g22 o22 d22 p22 k22 => ?_))
      have of22 : frM A [2] [8, 9, 10, 11, 12, 13, 16] f g22 := frM_tr (frM_su o18 (by decide) (by decide)) o22
      refine r_aloadR0 dX12_readUnit_25 ?_
      refine n_bipush dX12_readUnit_26 (by decide) (fun r26 e26_z => ?_)
      refine q_callV1 zm_RX12_162 dX12_readUnit_28 (shM_k hs) (by decide) rfl (Nat.le_of_ble_eq_true rfl) (Nat.le_of_ble_eq_true rfl) (Nat.le_of_ble_eq_true rfl) (Nat.le_of_ble_eq_true rfl) (Nat.le_of_ble_eq_true rfl) (s_X12_laysStep_x G hs (by rw [p22.1]; omega) ?_)
      have d22b : (g22 A 16).toInt = 2 := d22
      refine r_aloadR0 dX12_readUnit_31 ?_
      refine r_dup dX12_readUnit_32 rfl ?_
      refine m_getV (x := (g22 A 16)) zf_RX12_154 rfl dX12_readUnit_33 (shM_k hs) (rfl) ?_
      refine n_iconst dX12_readUnit_36 (by decide) (fun r36 e36 => ?_)
      refine n_isub dX12_readUnit_37 (by omega) (fun r37 e37 => ?_)
      refine m_putI zf_RX12_154 (by intro C T N h_z; cases h_z; rfl) rfl dX12_readUnit_38 (shM_k hs) ?_
      obtain ⟨g38, hg38⟩ : ∃ g9, g9 = zu g22 A 16 r37 := ⟨_, rfl⟩
      rw [← hg38]
      have og38 : frM A [] [16] g22 g38 := by rw [hg38]; exact frM_zk frM_rf (by decide)
      have vg38 : g38 A 16 = r37 := by rw [hg38]; exact zu_at
      have vt38 : (g38 A 16).toInt = r37.toInt := by rw [vg38]
      refine r_goto (t := 155) dX12_readUnit_41 (by decide) ?_
      refine r_vret dX12_readUnit_155 rfl (Nat.le_of_ble_eq_true rfl) (Nat.le_of_ble_eq_true rfl) ?_
      exact hQ _ (frM_tr of22 (frM_su og38 (by decide) (by decide))) (by rw [vt38]; omega) (psM_of p22 (og38.2.2 8 (by decide)) (og38.2.2 9 (by decide)) (og38.2.2 10 (by decide)) (og38.2.2 11 (by decide)) (og38.2.2 12 (by decide)) (og38.2.2 13 (by decide))) (fun h_z => absurd h_z hr)
  have hrk := rk4 (B := B) (n := n) (s := p) (c := 91) (by decide)
  by_cases hp : tkP B n p = 91
  · have hv : unP B n (if lm = 5 then 8 else 6) 5 p = clP B n 93 (trU B n (unP B n (if lm = 5 then 8 else 6) 4) (nxP B n p)) := (if_neg hw).trans (if_pos hp)
    rw [hv] at hQ
    have h10b := hrk.mpr hp
    have hpn := tk_lt (B := B) (n := n) (s := p) (by rw [hp]; decide)
    have hnx := nxP_gt (B := B) hpn
    by_cases hr : (trU B n (unP B n (if lm = 5 then 8 else 6) 4) (nxP B n p)).1 = 0
    · by_cases h93 : tkP B n (trU B n (unP B n (if lm = 5 then 8 else 6) 4) (nxP B n p)).2.1 = 93
      · have hv2 : clP B n 93 (trU B n (unP B n (if lm = 5 then 8 else 6) 4) (nxP B n p)) = (0, nxP B n (trU B n (unP B n (if lm = 5 then 8 else 6) 4) (nxP B n p)).2.1, (trU B n (unP B n (if lm = 5 then 8 else 6) 4) (nxP B n p)).2.2) := (if_neg (not_not_intro hr)).trans (if_pos h93)
        rw [hv2] at hQ
        refine r_aloadR0 dX12_readUnit_0 ?_
        refine m_getV (x := (f A 12)) zf_RX12_112 rfl dX12_readUnit_1 (shM_k hs) (rfl) ?_
        refine t_ifeq (t := 8) dX12_readUnit_4 (by decide) (fun h4 => ?_) (fun h4 => False.elim (by omega))
        refine r_aloadR0 dX12_readUnit_8 ?_
        refine k_ldc (hld _ (List.mem_of_getElem? (i := 2) rfl)) dX12_readUnit_9 ?_
        refine q_callV1 zm_RX12_127 dX12_readUnit_11 (shM_k hs) (by decide) rfl (Nat.le_of_ble_eq_true rfl) (Nat.le_of_ble_eq_true rfl) (Nat.le_of_ble_eq_true rfl) (Nat.le_of_ble_eq_true rfl) (Nat.le_of_ble_eq_true rfl) (s_X12_isWord (i := 8) G hs kw (by decide) htp hps (fun r11 e11_z => ?_))
        have e11b : r11.toInt = 0 := e11_z.elim (fun h_z => absurd h_z.2 hw) (fun h_z => h_z.1)
        refine t_ifeq (t := 44) dX12_readUnit_14 (by decide) (fun h14 => ?_) (fun h14 => False.elim (by omega))
        refine r_aloadR0 dX12_readUnit_44 ?_
        refine n_bipush dX12_readUnit_45 (by decide) (fun r45 e45 => ?_)
        refine q_callV1 zm_RX12_175 dX12_readUnit_47 (shM_k hs) (by decide) rfl (Nat.le_of_ble_eq_true rfl) (Nat.le_of_ble_eq_true rfl) (Nat.le_of_ble_eq_true rfl) (Nat.le_of_ble_eq_true rfl) (Nat.le_of_ble_eq_true rfl) (s_X12_isSign G hs (fun r47 e47 => ?_))
        refine t_ifeq (t := 80) dX12_readUnit_50 (by decide) (fun h50 => False.elim (by omega)) (fun h50 => ?_)
        refine r_aloadR0 dX12_readUnit_53 ?_
        refine q_callV0 zm_RX12_172 dX12_readUnit_54 (shM_k hs) (by decide) rfl (Nat.le_of_ble_eq_true rfl) (Nat.le_of_ble_eq_true rfl) (Nat.le_of_ble_eq_true rfl) (Nat.le_of_ble_eq_true rfl) (Nat.le_of_ble_eq_true rfl) (s_X12_goesIn (d := 1) G hs htp hps hd16 (by decide) (by rw [hp]; decide) (fun g54 o54 a54 b54 c54 => ?_))
        have p54 := c54 (by decide)
        have htp54 := tpM_of htp (o54.2.1 5 (by decide) (by decide) (by decide)) (o54.2.2 7 (by decide))
        have w54 : g54 (A + 2) = f (A + 2) := o54.2.1 2 (by decide) (by decide) (by decide)
        refine r_aloadR0 dX12_readUnit_57 ?_
        refine q_callV0 zm_RX12_178 dX12_readUnit_58 (shM_k hs) (by decide) rfl (Nat.le_of_ble_eq_true rfl) (Nat.le_of_ble_eq_true rfl) (Nat.le_of_ble_eq_true rfl) (Nat.le_of_ble_eq_true rfl) (Nat.le_of_ble_eq_true rfl) (s_X12_readTruth_4 (lm := lm) (la := la) (u := u) G hs kw hld htp54 p54 (by rw [a54]; rfl) (by rw [o54.2.2 17 (by decide)]; exact hlm) (by rw [o54.2.2 18 (by decide)]; exact hla) (by rw [w54]; exact hu) h5 h29 h99 (by omega) (fun g58 o58 d58 p58 k58 => ?_))
        have p58b : psM B n g58 A (trU B n (unP B n (if lm = 5 then 8 else 6) 4) (nxP B n p)).1 (trU B n (unP B n (if lm = 5 then 8 else 6) 4) (nxP B n p)).2.1 := p58
        have of58 : frM A [2] [8, 9, 10, 11, 12, 13, 16] f g58 := frM_tr (frM_su o54 (by decide) (by decide)) o58
        have htp58 := tpM_of htp (of58.2.1 5 (by decide) (by decide) (by decide)) (of58.2.2 7 (by decide))
        have p58c := p58b
        rw [hr] at p58c
        refine r_aloadR0 dX12_readUnit_61 ?_
        refine n_bipush dX12_readUnit_62 (by decide) (fun r62 e62 => ?_)
        refine q_callV1 zm_RX12_151 dX12_readUnit_64 (shM_k hs) (by decide) rfl (Nat.le_of_ble_eq_true rfl) (Nat.le_of_ble_eq_true rfl) (Nat.le_of_ble_eq_true rfl) (Nat.le_of_ble_eq_true rfl) (Nat.le_of_ble_eq_true rfl) (s_X12_mustSign (p := (trU B n (unP B n (if lm = 5 then 8 else 6) 4) (nxP B n p)).2.1) (c := 93) G hs htp58 p58c e62 (by decide) (fun g64 o64 a64 b64 => ?_))
        have d64 : (g64 A 16).toInt = 2 := by rw [o64.2.2 16 (by decide)]; exact d58
        refine r_aloadR0 dX12_readUnit_67 ?_
        refine r_dup dX12_readUnit_68 rfl ?_
        refine m_getV (x := (g64 A 16)) zf_RX12_154 rfl dX12_readUnit_69 (shM_k hs) (rfl) ?_
        refine n_iconst dX12_readUnit_72 (by decide) (fun r72 e72_z => ?_)
        refine n_isub dX12_readUnit_73 (by omega) (fun r73 e73 => ?_)
        refine m_putI zf_RX12_154 (by intro C T N h_z; cases h_z; rfl) rfl dX12_readUnit_74 (shM_k hs) ?_
        obtain ⟨g74, hg74⟩ : ∃ g9, g9 = zu g64 A 16 r73 := ⟨_, rfl⟩
        rw [← hg74]
        have og74 : frM A [] [16] g64 g74 := by rw [hg74]; exact frM_zk frM_rf (by decide)
        have vg74 : g74 A 16 = r73 := by rw [hg74]; exact zu_at
        have vt74 : (g74 A 16).toInt = r73.toInt := by rw [vg74]
        refine r_goto (t := 155) dX12_readUnit_77 (by decide) ?_
        refine r_vret dX12_readUnit_155 rfl (Nat.le_of_ble_eq_true rfl) (Nat.le_of_ble_eq_true rfl) ?_
        exact hQ _ (frM_tr (frM_tr of58 (frM_su o64 (by decide) (by decide))) (frM_su og74 (by decide) (by decide))) (by rw [vt74]; omega) (psM_of (a64 h93) (og74.2.2 8 (by decide)) (og74.2.2 9 (by decide)) (og74.2.2 10 (by decide)) (og74.2.2 11 (by decide)) (og74.2.2 12 (by decide)) (og74.2.2 13 (by decide))) (fun _ => okM_cg (k58 hr) w54 ((og74.2.1 2 (by decide) (by decide) (by decide)).trans (o64.2.1 2 (by decide) (by decide) (by decide))))
      · have hv2 : clP B n 93 (trU B n (unP B n (if lm = 5 then 8 else 6) 4) (nxP B n p)) = (baP B n (trU B n (unP B n (if lm = 5 then 8 else 6) 4) (nxP B n p)).2.1, (trU B n (unP B n (if lm = 5 then 8 else 6) 4) (nxP B n p)).2.1, []) := (if_neg (not_not_intro hr)).trans (if_neg h93)
        rw [hv2] at hQ
        refine r_aloadR0 dX12_readUnit_0 ?_
        refine m_getV (x := (f A 12)) zf_RX12_112 rfl dX12_readUnit_1 (shM_k hs) (rfl) ?_
        refine t_ifeq (t := 8) dX12_readUnit_4 (by decide) (fun h4 => ?_) (fun h4 => False.elim (by omega))
        refine r_aloadR0 dX12_readUnit_8 ?_
        refine k_ldc (hld _ (List.mem_of_getElem? (i := 2) rfl)) dX12_readUnit_9 ?_
        refine q_callV1 zm_RX12_127 dX12_readUnit_11 (shM_k hs) (by decide) rfl (Nat.le_of_ble_eq_true rfl) (Nat.le_of_ble_eq_true rfl) (Nat.le_of_ble_eq_true rfl) (Nat.le_of_ble_eq_true rfl) (Nat.le_of_ble_eq_true rfl) (s_X12_isWord (i := 8) G hs kw (by decide) htp hps (fun r11 e11_z => ?_))
        have e11b : r11.toInt = 0 := e11_z.elim (fun h_z => absurd h_z.2 hw) (fun h_z => h_z.1)
        refine t_ifeq (t := 44) dX12_readUnit_14 (by decide) (fun h14 => ?_) (fun h14 => False.elim (by omega))
        refine r_aloadR0 dX12_readUnit_44 ?_
        refine n_bipush dX12_readUnit_45 (by decide) (fun r45 e45 => ?_)
        refine q_callV1 zm_RX12_175 dX12_readUnit_47 (shM_k hs) (by decide) rfl (Nat.le_of_ble_eq_true rfl) (Nat.le_of_ble_eq_true rfl) (Nat.le_of_ble_eq_true rfl) (Nat.le_of_ble_eq_true rfl) (Nat.le_of_ble_eq_true rfl) (s_X12_isSign G hs (fun r47 e47 => ?_))
        refine t_ifeq (t := 80) dX12_readUnit_50 (by decide) (fun h50 => False.elim (by omega)) (fun h50 => ?_)
        refine r_aloadR0 dX12_readUnit_53 ?_
        refine q_callV0 zm_RX12_172 dX12_readUnit_54 (shM_k hs) (by decide) rfl (Nat.le_of_ble_eq_true rfl) (Nat.le_of_ble_eq_true rfl) (Nat.le_of_ble_eq_true rfl) (Nat.le_of_ble_eq_true rfl) (Nat.le_of_ble_eq_true rfl) (s_X12_goesIn (d := 1) G hs htp hps hd16 (by decide) (by rw [hp]; decide) (fun g54 o54 a54 b54 c54 => ?_))
        have p54 := c54 (by decide)
        have htp54 := tpM_of htp (o54.2.1 5 (by decide) (by decide) (by decide)) (o54.2.2 7 (by decide))
        have w54 : g54 (A + 2) = f (A + 2) := o54.2.1 2 (by decide) (by decide) (by decide)
        refine r_aloadR0 dX12_readUnit_57 ?_
        refine q_callV0 zm_RX12_178 dX12_readUnit_58 (shM_k hs) (by decide) rfl (Nat.le_of_ble_eq_true rfl) (Nat.le_of_ble_eq_true rfl) (Nat.le_of_ble_eq_true rfl) (Nat.le_of_ble_eq_true rfl) (Nat.le_of_ble_eq_true rfl) (s_X12_readTruth_4 (lm := lm) (la := la) (u := u) G hs kw hld htp54 p54 (by rw [a54]; rfl) (by rw [o54.2.2 17 (by decide)]; exact hlm) (by rw [o54.2.2 18 (by decide)]; exact hla) (by rw [w54]; exact hu) h5 h29 h99 (by omega) (fun g58 o58 d58 p58 k58 => ?_))
        have p58b : psM B n g58 A (trU B n (unP B n (if lm = 5 then 8 else 6) 4) (nxP B n p)).1 (trU B n (unP B n (if lm = 5 then 8 else 6) 4) (nxP B n p)).2.1 := p58
        have of58 : frM A [2] [8, 9, 10, 11, 12, 13, 16] f g58 := frM_tr (frM_su o54 (by decide) (by decide)) o58
        have htp58 := tpM_of htp (of58.2.1 5 (by decide) (by decide) (by decide)) (of58.2.2 7 (by decide))
        have p58c := p58b
        rw [hr] at p58c
        refine r_aloadR0 dX12_readUnit_61 ?_
        refine n_bipush dX12_readUnit_62 (by decide) (fun r62 e62 => ?_)
        refine q_callV1 zm_RX12_151 dX12_readUnit_64 (shM_k hs) (by decide) rfl (Nat.le_of_ble_eq_true rfl) (Nat.le_of_ble_eq_true rfl) (Nat.le_of_ble_eq_true rfl) (Nat.le_of_ble_eq_true rfl) (Nat.le_of_ble_eq_true rfl) (s_X12_mustSign (p := (trU B n (unP B n (if lm = 5 then 8 else 6) 4) (nxP B n p)).2.1) (c := 93) G hs htp58 p58c e62 (by decide) (fun g64 o64 a64 b64 => ?_))
        have d64 : (g64 A 16).toInt = 2 := by rw [o64.2.2 16 (by decide)]; exact d58
        refine r_aloadR0 dX12_readUnit_67 ?_
        refine r_dup dX12_readUnit_68 rfl ?_
        refine m_getV (x := (g64 A 16)) zf_RX12_154 rfl dX12_readUnit_69 (shM_k hs) (rfl) ?_
        refine n_iconst dX12_readUnit_72 (by decide) (fun r72 e72_z => ?_)
        refine n_isub dX12_readUnit_73 (by omega) (fun r73 e73 => ?_)
        refine m_putI zf_RX12_154 (by intro C T N h_z; cases h_z; rfl) rfl dX12_readUnit_74 (shM_k hs) ?_
        obtain ⟨g74, hg74⟩ : ∃ g9, g9 = zu g64 A 16 r73 := ⟨_, rfl⟩
        rw [← hg74]
        have og74 : frM A [] [16] g64 g74 := by rw [hg74]; exact frM_zk frM_rf (by decide)
        have vg74 : g74 A 16 = r73 := by rw [hg74]; exact zu_at
        have vt74 : (g74 A 16).toInt = r73.toInt := by rw [vg74]
        refine r_goto (t := 155) dX12_readUnit_77 (by decide) ?_
        refine r_vret dX12_readUnit_155 rfl (Nat.le_of_ble_eq_true rfl) (Nat.le_of_ble_eq_true rfl) ?_
        exact hQ _ (frM_tr (frM_tr of58 (frM_su o64 (by decide) (by decide))) (frM_su og74 (by decide) (by decide))) (by rw [vt74]; omega) (psM_of (b64 h93) (og74.2.2 8 (by decide)) (og74.2.2 9 (by decide)) (og74.2.2 10 (by decide)) (og74.2.2 11 (by decide)) (og74.2.2 12 (by decide)) (og74.2.2 13 (by decide))) (fun h_z => absurd h_z ba_bd.1)
    · have hv2 : clP B n 93 (trU B n (unP B n (if lm = 5 then 8 else 6) 4) (nxP B n p)) = (trU B n (unP B n (if lm = 5 then 8 else 6) 4) (nxP B n p)) := if_pos hr
      rw [hv2] at hQ
      refine r_aloadR0 dX12_readUnit_0 ?_
      refine m_getV (x := (f A 12)) zf_RX12_112 rfl dX12_readUnit_1 (shM_k hs) (rfl) ?_
      refine t_ifeq (t := 8) dX12_readUnit_4 (by decide) (fun h4 => ?_) (fun h4 => False.elim (by omega))
      refine r_aloadR0 dX12_readUnit_8 ?_
      refine k_ldc (hld _ (List.mem_of_getElem? (i := 2) rfl)) dX12_readUnit_9 ?_
      refine q_callV1 zm_RX12_127 dX12_readUnit_11 (shM_k hs) (by decide) rfl (Nat.le_of_ble_eq_true rfl) (Nat.le_of_ble_eq_true rfl) (Nat.le_of_ble_eq_true rfl) (Nat.le_of_ble_eq_true rfl) (Nat.le_of_ble_eq_true rfl) (s_X12_isWord (i := 8) G hs kw (by decide) htp hps (fun r11 e11_z => ?_))
      have e11b : r11.toInt = 0 := e11_z.elim (fun h_z => absurd h_z.2 hw) (fun h_z => h_z.1)
      refine t_ifeq (t := 44) dX12_readUnit_14 (by decide) (fun h14 => ?_) (fun h14 => False.elim (by omega))
      refine r_aloadR0 dX12_readUnit_44 ?_
      refine n_bipush dX12_readUnit_45 (by decide) (fun r45 e45 => ?_)
      refine q_callV1 zm_RX12_175 dX12_readUnit_47 (shM_k hs) (by decide) rfl (Nat.le_of_ble_eq_true rfl) (Nat.le_of_ble_eq_true rfl) (Nat.le_of_ble_eq_true rfl) (Nat.le_of_ble_eq_true rfl) (Nat.le_of_ble_eq_true rfl) (s_X12_isSign G hs (fun r47 e47 => ?_))
      refine t_ifeq (t := 80) dX12_readUnit_50 (by decide) (fun h50 => False.elim (by omega)) (fun h50 => ?_)
      refine r_aloadR0 dX12_readUnit_53 ?_
      refine q_callV0 zm_RX12_172 dX12_readUnit_54 (shM_k hs) (by decide) rfl (Nat.le_of_ble_eq_true rfl) (Nat.le_of_ble_eq_true rfl) (Nat.le_of_ble_eq_true rfl) (Nat.le_of_ble_eq_true rfl) (Nat.le_of_ble_eq_true rfl) (s_X12_goesIn (d := 1) G hs htp hps hd16 (by decide) (by rw [hp]; decide) (fun g54 o54 a54 b54 c54 => ?_))
      have p54 := c54 (by decide)
      have htp54 := tpM_of htp (o54.2.1 5 (by decide) (by decide) (by decide)) (o54.2.2 7 (by decide))
      have w54 : g54 (A + 2) = f (A + 2) := o54.2.1 2 (by decide) (by decide) (by decide)
      refine r_aloadR0 dX12_readUnit_57 ?_
      refine q_callV0 zm_RX12_178 dX12_readUnit_58 (shM_k hs) (by decide) rfl (Nat.le_of_ble_eq_true rfl) (Nat.le_of_ble_eq_true rfl) (Nat.le_of_ble_eq_true rfl) (Nat.le_of_ble_eq_true rfl) (Nat.le_of_ble_eq_true rfl) (s_X12_readTruth_4 (lm := lm) (la := la) (u := u) G hs kw hld htp54 p54 (by rw [a54]; rfl) (by rw [o54.2.2 17 (by decide)]; exact hlm) (by rw [o54.2.2 18 (by decide)]; exact hla) (by rw [w54]; exact hu) h5 h29 h99 (by omega) (fun g58 o58 d58 p58 k58 => ?_))
      have p58b : psM B n g58 A (trU B n (unP B n (if lm = 5 then 8 else 6) 4) (nxP B n p)).1 (trU B n (unP B n (if lm = 5 then 8 else 6) 4) (nxP B n p)).2.1 := p58
      have of58 : frM A [2] [8, 9, 10, 11, 12, 13, 16] f g58 := frM_tr (frM_su o54 (by decide) (by decide)) o58
      have htp58 := tpM_of htp (of58.2.1 5 (by decide) (by decide) (by decide)) (of58.2.2 7 (by decide))
      have nb : (g58 A 12).toInt ≠ 0 := by rw [p58b.1]; omega
      have d58b : (g58 A 16).toInt = 2 := d58
      refine r_aloadR0 dX12_readUnit_61 ?_
      refine n_bipush dX12_readUnit_62 (by decide) (fun r62 e62 => ?_)
      refine q_callV1 zm_RX12_151 dX12_readUnit_64 (shM_k hs) (by decide) rfl (Nat.le_of_ble_eq_true rfl) (Nat.le_of_ble_eq_true rfl) (Nat.le_of_ble_eq_true rfl) (Nat.le_of_ble_eq_true rfl) (Nat.le_of_ble_eq_true rfl) (s_X12_mustSign_x G hs nb ?_)
      refine r_aloadR0 dX12_readUnit_67 ?_
      refine r_dup dX12_readUnit_68 rfl ?_
      refine m_getV (x := (g58 A 16)) zf_RX12_154 rfl dX12_readUnit_69 (shM_k hs) (rfl) ?_
      refine n_iconst dX12_readUnit_72 (by decide) (fun r72 e72_z => ?_)
      refine n_isub dX12_readUnit_73 (by omega) (fun r73 e73 => ?_)
      refine m_putI zf_RX12_154 (by intro C T N h_z; cases h_z; rfl) rfl dX12_readUnit_74 (shM_k hs) ?_
      obtain ⟨g74, hg74⟩ : ∃ g9, g9 = zu g58 A 16 r73 := ⟨_, rfl⟩
      rw [← hg74]
      have og74 : frM A [] [16] g58 g74 := by rw [hg74]; exact frM_zk frM_rf (by decide)
      have vg74 : g74 A 16 = r73 := by rw [hg74]; exact zu_at
      have vt74 : (g74 A 16).toInt = r73.toInt := by rw [vg74]
      refine r_goto (t := 155) dX12_readUnit_77 (by decide) ?_
      refine r_vret dX12_readUnit_155 rfl (Nat.le_of_ble_eq_true rfl) (Nat.le_of_ble_eq_true rfl) ?_
      exact hQ _ (frM_tr of58 (frM_su og74 (by decide) (by decide))) (by rw [vt74]; omega) (psM_of p58b (og74.2.2 8 (by decide)) (og74.2.2 9 (by decide)) (og74.2.2 10 (by decide)) (og74.2.2 11 (by decide)) (og74.2.2 12 (by decide)) (og74.2.2 13 (by decide))) (fun h_z => absurd h_z hr)
  have hrk2 : rkP B n p ≠ 91 := fun h_z => hp (hrk.mp h_z)
  have hv0 : unP B n (if lm = 5 then 8 else 6) 5 p = cmP B n (smP B n (if lm = 5 then 8 else 6) 5) p := (if_neg hw).trans (if_neg hp)
  rw [hv0] at hQ
  by_cases hr : (smP B n (if lm = 5 then 8 else 6) 5 p).1 = 0
  · have p81c : ∀ g, psM B n g A (smP B n (if lm = 5 then 8 else 6) 5 p).1 (smP B n (if lm = 5 then 8 else 6) 5 p).2.1 → psM B n g A 0 (smP B n (if lm = 5 then 8 else 6) 5 p).2.1 := fun g h_z => by rw [hr] at h_z; exact h_z
    obtain ⟨y1, y2, y3, y4⟩ := (hsm p ht.1).1 hr
    have q61 := rk4 (B := B) (n := n) (s := (smP B n (if lm = 5 then 8 else 6) 5 p).2.1) (c := 61) (by decide)
    have q60 := rk4 (B := B) (n := n) (s := (smP B n (if lm = 5 then 8 else 6) 5 p).2.1) (c := 60) (by decide)
    have q62 := rk4 (B := B) (n := n) (s := (smP B n (if lm = 5 then 8 else 6) 5 p).2.1) (c := 62) (by decide)
    by_cases hc_z : tkP B n (smP B n (if lm = 5 then 8 else 6) 5 p).2.1 = 61
    · have h10c := q61.mpr hc_z
      have hop : opC B n (smP B n (if lm = 5 then 8 else 6) 5 p).2.1 = 2006 := if_pos hc_z
      have hop0 : opC B n (smP B n (if lm = 5 then 8 else 6) 5 p).2.1 ≠ 0 := by rw [hop]; decide
      have hln := tk_lt (B := B) (n := n) (s := (smP B n (if lm = 5 then 8 else 6) 5 p).2.1) (by rw [hc_z]; decide)
      have hnx := nxP_gt (B := B) hln
      by_cases hq : (smP B n (if lm = 5 then 8 else 6) 5 (nxP B n (smP B n (if lm = 5 then 8 else 6) 5 p).2.1)).1 = 0
      · obtain ⟨z1, z2, z3, z4⟩ := (hsm _ hnx.2).1 hq
        have hv : cmP B n (smP B n (if lm = 5 then 8 else 6) 5) p = (0, (smP B n (if lm = 5 then 8 else 6) 5 (nxP B n (smP B n (if lm = 5 then 8 else 6) 5 p).2.1)).2.1, (smP B n (if lm = 5 then 8 else 6) 5 p).2.2 ++ (smP B n (if lm = 5 then 8 else 6) 5 (nxP B n (smP B n (if lm = 5 then 8 else 6) 5 p).2.1)).2.2 ++ [opC B n (smP B n (if lm = 5 then 8 else 6) 5 p).2.1]) := (if_neg (not_not_intro hr)).trans ((if_neg hop0).trans (if_neg (not_not_intro hq)))
        rw [hv, hop] at hQ
        refine r_aloadR0 dX12_readUnit_0 ?_
        refine m_getV (x := (f A 12)) zf_RX12_112 rfl dX12_readUnit_1 (shM_k hs) (rfl) ?_
        refine t_ifeq (t := 8) dX12_readUnit_4 (by decide) (fun h4 => ?_) (fun h4 => False.elim (by omega))
        refine r_aloadR0 dX12_readUnit_8 ?_
        refine k_ldc (hld _ (List.mem_of_getElem? (i := 2) rfl)) dX12_readUnit_9 ?_
        refine q_callV1 zm_RX12_127 dX12_readUnit_11 (shM_k hs) (by decide) rfl (Nat.le_of_ble_eq_true rfl) (Nat.le_of_ble_eq_true rfl) (Nat.le_of_ble_eq_true rfl) (Nat.le_of_ble_eq_true rfl) (Nat.le_of_ble_eq_true rfl) (s_X12_isWord (i := 8) G hs kw (by decide) htp hps (fun r11 e11_z => ?_))
        have e11b : r11.toInt = 0 := e11_z.elim (fun h_z => absurd h_z.2 hw) (fun h_z => h_z.1)
        refine t_ifeq (t := 44) dX12_readUnit_14 (by decide) (fun h14 => ?_) (fun h14 => False.elim (by omega))
        refine r_aloadR0 dX12_readUnit_44 ?_
        refine n_bipush dX12_readUnit_45 (by decide) (fun r45 e45 => ?_)
        refine q_callV1 zm_RX12_175 dX12_readUnit_47 (shM_k hs) (by decide) rfl (Nat.le_of_ble_eq_true rfl) (Nat.le_of_ble_eq_true rfl) (Nat.le_of_ble_eq_true rfl) (Nat.le_of_ble_eq_true rfl) (Nat.le_of_ble_eq_true rfl) (s_X12_isSign G hs (fun r47 e47 => ?_))
        refine t_ifeq (t := 80) dX12_readUnit_50 (by decide) (fun h50 => ?_) (fun h50 => False.elim (by omega))
        refine r_aloadR0 dX12_readUnit_80 ?_
        refine q_callV0 zm_RX12_181 dX12_readUnit_81 (shM_k hs) (by decide) rfl (Nat.le_of_ble_eq_true rfl) (Nat.le_of_ble_eq_true rfl) (Nat.le_of_ble_eq_true rfl) (Nat.le_of_ble_eq_true rfl) (Nat.le_of_ble_eq_true rfl) (s_X12_readSum_5 (lm := lm) (la := la) (u := u) G hs kw hld htp hps hd16 hlm hla hu h5 h29 h99 hup (fun g81 o81 d81 p81 k81 => ?_))
        have p81b : psM B n g81 A (smP B n (if lm = 5 then 8 else 6) 5 p).1 (smP B n (if lm = 5 then 8 else 6) 5 p).2.1 := p81
        have k81b : (smP B n (if lm = 5 then 8 else 6) 5 p).1 = 0 → okM f g81 A lm la u (smP B n (if lm = 5 then 8 else 6) 5 p).2.2 := k81
        have p81d := p81c _ p81b
        have t81 := p81d.2.1 rfl
        have h81 := t81.2.2.2.1
        have b81 := p81d.1
        have hte81 := teP_le (B := B) t81.1
        have htp81 := tpM_of htp (o81.2.1 5 (by decide) (by decide) (by decide)) (o81.2.2 7 (by decide))
        have k81c := k81b hr
        refine r_aloadR0 dX12_readUnit_84 ?_
        refine m_getV (x := (g81 A 10)) zf_RX12_92 rfl dX12_readUnit_85 (shM_k hs) (rfl) ?_
        refine r_istore1 dX12_readUnit_88 rfl ?_
        refine r_iload1 dX12_readUnit_89 ?_
        refine n_bipush dX12_readUnit_90 (by decide) (fun r90 e90_z => ?_)
        refine t_iceq (t := 112) dX12_readUnit_92 (by decide) (fun h92 => ?_) (fun h92 => False.elim (by omega))
        refine r_aloadR0 dX12_readUnit_112 ?_
        refine m_getV (x := (g81 A 12)) zf_RX12_112 rfl dX12_readUnit_113 (shM_k hs) (rfl) ?_
        refine t_ifne (t := 123) dX12_readUnit_116 (by decide) (fun h116 => False.elim (by omega)) (fun h116 => ?_)
        refine r_aloadR0 dX12_readUnit_119 ?_
        refine q_callV0 zm_RX12_131 dX12_readUnit_120 (shM_k hs) (by decide) rfl (Nat.le_of_ble_eq_true rfl) (Nat.le_of_ble_eq_true rfl) (Nat.le_of_ble_eq_true rfl) (Nat.le_of_ble_eq_true rfl) (Nat.le_of_ble_eq_true rfl) (s_X12_readsOn (p := teP B n (smP B n (if lm = 5 then 8 else 6) 5 p).2.1) G hs htp81 t81.2.1 hte81 (fun g120 o120 t120 => ?_))
        have htp120 := tpM_of htp81 (o120.2.1 5 (by decide) (by decide) (by decide)) (o120.2.2 7 (by decide))
        have hp120 : psM B n g120 A 0 (nxP B n (smP B n (if lm = 5 then 8 else 6) 5 p).2.1) := ⟨by rw [o120.2.2 12 (by decide)]; exact b81, fun _ => t120, fun h_z => absurd rfl h_z⟩
        have w120 : g120 (A + 2) = g81 (A + 2) := o120.2.1 2 (by decide) (by decide) (by decide)
        refine r_aloadR0 dX12_readUnit_123 ?_
        refine q_callV0 zm_RX12_181 dX12_readUnit_124 (shM_k hs) (by decide) rfl (Nat.le_of_ble_eq_true rfl) (Nat.le_of_ble_eq_true rfl) (Nat.le_of_ble_eq_true rfl) (Nat.le_of_ble_eq_true rfl) (Nat.le_of_ble_eq_true rfl) (s_X12_readSum_5 (lm := lm) (la := la) (u := u + (smP B n (if lm = 5 then 8 else 6) 5 p).2.2.length) G hs kw hld htp120 hp120 (by rw [o120.2.2 16 (by decide)]; exact d81) (by rw [o120.2.2 17 (by decide), o81.2.2 17 (by decide)]; exact hlm) (by rw [o120.2.2 18 (by decide), o81.2.2 18 (by decide)]; exact hla) (by rw [w120]; exact k81c.1) h5 h29 h99 (by omega) (fun g124 o124 d124 p124 k124 => ?_))
        have of124 : frM A [2] [8, 9, 10, 11, 12, 13, 16] f g124 := frM_tr o81 (frM_tr (frM_su o120 (by decide) (by decide)) o124)
        have p124b : psM B n g124 A (smP B n (if lm = 5 then 8 else 6) 5 (nxP B n (smP B n (if lm = 5 then 8 else 6) 5 p).2.1)).1 (smP B n (if lm = 5 then 8 else 6) 5 (nxP B n (smP B n (if lm = 5 then 8 else 6) 5 p).2.1)).2.1 := p124
        have k124b : (smP B n (if lm = 5 then 8 else 6) 5 (nxP B n (smP B n (if lm = 5 then 8 else 6) 5 p).2.1)).1 = 0 → okM g120 g124 A lm la (u + (smP B n (if lm = 5 then 8 else 6) 5 p).2.2.length) (smP B n (if lm = 5 then 8 else 6) 5 (nxP B n (smP B n (if lm = 5 then 8 else 6) 5 p).2.1)).2.2 := k124
        refine r_aloadR0 dX12_readUnit_127 ?_
        refine r_iload1 dX12_readUnit_128 ?_
        refine n_bipush dX12_readUnit_129 (by decide) (fun r129 e129 => ?_)
        refine t_icne (t := 139) dX12_readUnit_131 (by decide) (fun h131 => False.elim (by omega)) (fun h131 => ?_)
        refine n_bipush dX12_readUnit_134 (by decide) (fun r134 e134 => ?_)
        refine r_goto (t := 152) dX12_readUnit_136 (by decide) ?_
        refine q_callV1 zm_RX12_162 dX12_readUnit_152 (shM_k hs) (by decide) rfl (Nat.le_of_ble_eq_true rfl) (Nat.le_of_ble_eq_true rfl) (Nat.le_of_ble_eq_true rfl) (Nat.le_of_ble_eq_true rfl) (Nat.le_of_ble_eq_true rfl) (s_X12_laysStep (lm := lm) (la := la) (u := u + (smP B n (if lm = 5 then 8 else 6) 5 p).2.2.length + (smP B n (if lm = 5 then 8 else 6) 5 (nxP B n (smP B n (if lm = 5 then 8 else 6) 5 p).2.1)).2.2.length) G hs (by have := p124b.1; rw [hq] at this; exact this) (by rw [of124.2.2 17 (by decide)]; exact hlm) (by rw [of124.2.2 18 (by decide)]; exact hla) (k124b hq).1 h5 h29 (by omega) (fun g152 o152 a152 b152 c152 => ?_))
        have p124c := p124b
        rw [hq] at p124c
        refine r_vret dX12_readUnit_155 rfl (Nat.le_of_ble_eq_true rfl) (Nat.le_of_ble_eq_true rfl) ?_
        refine hQ _ (frM_tr of124 (frM_su o152 (by decide) (by decide))) (by rw [o152.2.2 16 (by decide)]; exact d124) (psM_of p124c (o152.2.2 8 (by decide)) (o152.2.2 9 (by decide)) (o152.2.2 10 (by decide)) (o152.2.2 11 (by decide)) (o152.2.2 12 (by decide)) (o152.2.2 13 (by decide))) (fun _ => okM_ap (by omega) (by rw [List.length_append]; omega) (okM_ap (by omega) (by omega) k81c (okM_cg (k124b hq) w120 rfl)) ?_)
        rw [List.length_append, ← Nat.add_assoc]
        exact okM_one (by omega) a152 b152 c152 (by rw [e134]; rfl)
      · have hv : cmP B n (smP B n (if lm = 5 then 8 else 6) 5) p = (smP B n (if lm = 5 then 8 else 6) 5 (nxP B n (smP B n (if lm = 5 then 8 else 6) 5 p).2.1)) := (if_neg (not_not_intro hr)).trans ((if_neg hop0).trans (if_pos hq))
        rw [hv] at hQ
        refine r_aloadR0 dX12_readUnit_0 ?_
        refine m_getV (x := (f A 12)) zf_RX12_112 rfl dX12_readUnit_1 (shM_k hs) (rfl) ?_
        refine t_ifeq (t := 8) dX12_readUnit_4 (by decide) (fun h4 => ?_) (fun h4 => False.elim (by omega))
        refine r_aloadR0 dX12_readUnit_8 ?_
        refine k_ldc (hld _ (List.mem_of_getElem? (i := 2) rfl)) dX12_readUnit_9 ?_
        refine q_callV1 zm_RX12_127 dX12_readUnit_11 (shM_k hs) (by decide) rfl (Nat.le_of_ble_eq_true rfl) (Nat.le_of_ble_eq_true rfl) (Nat.le_of_ble_eq_true rfl) (Nat.le_of_ble_eq_true rfl) (Nat.le_of_ble_eq_true rfl) (s_X12_isWord (i := 8) G hs kw (by decide) htp hps (fun r11 e11_z => ?_))
        have e11b : r11.toInt = 0 := e11_z.elim (fun h_z => absurd h_z.2 hw) (fun h_z => h_z.1)
        refine t_ifeq (t := 44) dX12_readUnit_14 (by decide) (fun h14 => ?_) (fun h14 => False.elim (by omega))
        refine r_aloadR0 dX12_readUnit_44 ?_
        refine n_bipush dX12_readUnit_45 (by decide) (fun r45 e45 => ?_)
        refine q_callV1 zm_RX12_175 dX12_readUnit_47 (shM_k hs) (by decide) rfl (Nat.le_of_ble_eq_true rfl) (Nat.le_of_ble_eq_true rfl) (Nat.le_of_ble_eq_true rfl) (Nat.le_of_ble_eq_true rfl) (Nat.le_of_ble_eq_true rfl) (s_X12_isSign G hs (fun r47 e47 => ?_))
        refine t_ifeq (t := 80) dX12_readUnit_50 (by decide) (fun h50 => ?_) (fun h50 => False.elim (by omega))
        refine r_aloadR0 dX12_readUnit_80 ?_
        refine q_callV0 zm_RX12_181 dX12_readUnit_81 (shM_k hs) (by decide) rfl (Nat.le_of_ble_eq_true rfl) (Nat.le_of_ble_eq_true rfl) (Nat.le_of_ble_eq_true rfl) (Nat.le_of_ble_eq_true rfl) (Nat.le_of_ble_eq_true rfl) (s_X12_readSum_5 (lm := lm) (la := la) (u := u) G hs kw hld htp hps hd16 hlm hla hu h5 h29 h99 hup (fun g81 o81 d81 p81 k81 => ?_))
        have p81b : psM B n g81 A (smP B n (if lm = 5 then 8 else 6) 5 p).1 (smP B n (if lm = 5 then 8 else 6) 5 p).2.1 := p81
        have k81b : (smP B n (if lm = 5 then 8 else 6) 5 p).1 = 0 → okM f g81 A lm la u (smP B n (if lm = 5 then 8 else 6) 5 p).2.2 := k81
        have p81d := p81c _ p81b
        have t81 := p81d.2.1 rfl
        have h81 := t81.2.2.2.1
        have b81 := p81d.1
        have hte81 := teP_le (B := B) t81.1
        have htp81 := tpM_of htp (o81.2.1 5 (by decide) (by decide) (by decide)) (o81.2.2 7 (by decide))
        have k81c := k81b hr
        refine r_aloadR0 dX12_readUnit_84 ?_
        refine m_getV (x := (g81 A 10)) zf_RX12_92 rfl dX12_readUnit_85 (shM_k hs) (rfl) ?_
        refine r_istore1 dX12_readUnit_88 rfl ?_
        refine r_iload1 dX12_readUnit_89 ?_
        refine n_bipush dX12_readUnit_90 (by decide) (fun r90 e90_z => ?_)
        refine t_iceq (t := 112) dX12_readUnit_92 (by decide) (fun h92 => ?_) (fun h92 => False.elim (by omega))
        refine r_aloadR0 dX12_readUnit_112 ?_
        refine m_getV (x := (g81 A 12)) zf_RX12_112 rfl dX12_readUnit_113 (shM_k hs) (rfl) ?_
        refine t_ifne (t := 123) dX12_readUnit_116 (by decide) (fun h116 => False.elim (by omega)) (fun h116 => ?_)
        refine r_aloadR0 dX12_readUnit_119 ?_
        refine q_callV0 zm_RX12_131 dX12_readUnit_120 (shM_k hs) (by decide) rfl (Nat.le_of_ble_eq_true rfl) (Nat.le_of_ble_eq_true rfl) (Nat.le_of_ble_eq_true rfl) (Nat.le_of_ble_eq_true rfl) (Nat.le_of_ble_eq_true rfl) (s_X12_readsOn (p := teP B n (smP B n (if lm = 5 then 8 else 6) 5 p).2.1) G hs htp81 t81.2.1 hte81 (fun g120 o120 t120 => ?_))
        have htp120 := tpM_of htp81 (o120.2.1 5 (by decide) (by decide) (by decide)) (o120.2.2 7 (by decide))
        have hp120 : psM B n g120 A 0 (nxP B n (smP B n (if lm = 5 then 8 else 6) 5 p).2.1) := ⟨by rw [o120.2.2 12 (by decide)]; exact b81, fun _ => t120, fun h_z => absurd rfl h_z⟩
        have w120 : g120 (A + 2) = g81 (A + 2) := o120.2.1 2 (by decide) (by decide) (by decide)
        refine r_aloadR0 dX12_readUnit_123 ?_
        refine q_callV0 zm_RX12_181 dX12_readUnit_124 (shM_k hs) (by decide) rfl (Nat.le_of_ble_eq_true rfl) (Nat.le_of_ble_eq_true rfl) (Nat.le_of_ble_eq_true rfl) (Nat.le_of_ble_eq_true rfl) (Nat.le_of_ble_eq_true rfl) (s_X12_readSum_5 (lm := lm) (la := la) (u := u + (smP B n (if lm = 5 then 8 else 6) 5 p).2.2.length) G hs kw hld htp120 hp120 (by rw [o120.2.2 16 (by decide)]; exact d81) (by rw [o120.2.2 17 (by decide), o81.2.2 17 (by decide)]; exact hlm) (by rw [o120.2.2 18 (by decide), o81.2.2 18 (by decide)]; exact hla) (by rw [w120]; exact k81c.1) h5 h29 h99 (by omega) (fun g124 o124 d124 p124 k124 => ?_))
        have of124 : frM A [2] [8, 9, 10, 11, 12, 13, 16] f g124 := frM_tr o81 (frM_tr (frM_su o120 (by decide) (by decide)) o124)
        have p124b : psM B n g124 A (smP B n (if lm = 5 then 8 else 6) 5 (nxP B n (smP B n (if lm = 5 then 8 else 6) 5 p).2.1)).1 (smP B n (if lm = 5 then 8 else 6) 5 (nxP B n (smP B n (if lm = 5 then 8 else 6) 5 p).2.1)).2.1 := p124
        have k124b : (smP B n (if lm = 5 then 8 else 6) 5 (nxP B n (smP B n (if lm = 5 then 8 else 6) 5 p).2.1)).1 = 0 → okM g120 g124 A lm la (u + (smP B n (if lm = 5 then 8 else 6) 5 p).2.2.length) (smP B n (if lm = 5 then 8 else 6) 5 (nxP B n (smP B n (if lm = 5 then 8 else 6) 5 p).2.1)).2.2 := k124
        refine r_aloadR0 dX12_readUnit_127 ?_
        refine r_iload1 dX12_readUnit_128 ?_
        refine n_bipush dX12_readUnit_129 (by decide) (fun r129 e129 => ?_)
        refine t_icne (t := 139) dX12_readUnit_131 (by decide) (fun h131 => False.elim (by omega)) (fun h131 => ?_)
        refine n_bipush dX12_readUnit_134 (by decide) (fun r134 e134 => ?_)
        refine r_goto (t := 152) dX12_readUnit_136 (by decide) ?_
        refine q_callV1 zm_RX12_162 dX12_readUnit_152 (shM_k hs) (by decide) rfl (Nat.le_of_ble_eq_true rfl) (Nat.le_of_ble_eq_true rfl) (Nat.le_of_ble_eq_true rfl) (Nat.le_of_ble_eq_true rfl) (Nat.le_of_ble_eq_true rfl) (s_X12_laysStep_x G hs (by rw [p124b.1]; omega) ?_)
        refine r_vret dX12_readUnit_155 rfl (Nat.le_of_ble_eq_true rfl) (Nat.le_of_ble_eq_true rfl) ?_
        exact hQ _ of124 d124 p124b (fun h_z => absurd h_z hq)
    have hn61 := hc_z
    have hm61 : rkP B n (smP B n (if lm = 5 then 8 else 6) 5 p).2.1 ≠ 61 := fun h_z => hc_z (q61.mp h_z)
    clear hc_z
    by_cases hc_z : tkP B n (smP B n (if lm = 5 then 8 else 6) 5 p).2.1 = 60
    · have h10c := q60.mpr hc_z
      have hop : opC B n (smP B n (if lm = 5 then 8 else 6) 5 p).2.1 = 2007 := (if_neg (by omega)).trans (if_pos hc_z)
      have hop0 : opC B n (smP B n (if lm = 5 then 8 else 6) 5 p).2.1 ≠ 0 := by rw [hop]; decide
      have hln := tk_lt (B := B) (n := n) (s := (smP B n (if lm = 5 then 8 else 6) 5 p).2.1) (by rw [hc_z]; decide)
      have hnx := nxP_gt (B := B) hln
      by_cases hq : (smP B n (if lm = 5 then 8 else 6) 5 (nxP B n (smP B n (if lm = 5 then 8 else 6) 5 p).2.1)).1 = 0
      · obtain ⟨z1, z2, z3, z4⟩ := (hsm _ hnx.2).1 hq
        have hv : cmP B n (smP B n (if lm = 5 then 8 else 6) 5) p = (0, (smP B n (if lm = 5 then 8 else 6) 5 (nxP B n (smP B n (if lm = 5 then 8 else 6) 5 p).2.1)).2.1, (smP B n (if lm = 5 then 8 else 6) 5 p).2.2 ++ (smP B n (if lm = 5 then 8 else 6) 5 (nxP B n (smP B n (if lm = 5 then 8 else 6) 5 p).2.1)).2.2 ++ [opC B n (smP B n (if lm = 5 then 8 else 6) 5 p).2.1]) := (if_neg (not_not_intro hr)).trans ((if_neg hop0).trans (if_neg (not_not_intro hq)))
        rw [hv, hop] at hQ
        refine r_aloadR0 dX12_readUnit_0 ?_
        refine m_getV (x := (f A 12)) zf_RX12_112 rfl dX12_readUnit_1 (shM_k hs) (rfl) ?_
        refine t_ifeq (t := 8) dX12_readUnit_4 (by decide) (fun h4 => ?_) (fun h4 => False.elim (by omega))
        refine r_aloadR0 dX12_readUnit_8 ?_
        refine k_ldc (hld _ (List.mem_of_getElem? (i := 2) rfl)) dX12_readUnit_9 ?_
        refine q_callV1 zm_RX12_127 dX12_readUnit_11 (shM_k hs) (by decide) rfl (Nat.le_of_ble_eq_true rfl) (Nat.le_of_ble_eq_true rfl) (Nat.le_of_ble_eq_true rfl) (Nat.le_of_ble_eq_true rfl) (Nat.le_of_ble_eq_true rfl) (s_X12_isWord (i := 8) G hs kw (by decide) htp hps (fun r11 e11_z => ?_))
        have e11b : r11.toInt = 0 := e11_z.elim (fun h_z => absurd h_z.2 hw) (fun h_z => h_z.1)
        refine t_ifeq (t := 44) dX12_readUnit_14 (by decide) (fun h14 => ?_) (fun h14 => False.elim (by omega))
        refine r_aloadR0 dX12_readUnit_44 ?_
        refine n_bipush dX12_readUnit_45 (by decide) (fun r45 e45 => ?_)
        refine q_callV1 zm_RX12_175 dX12_readUnit_47 (shM_k hs) (by decide) rfl (Nat.le_of_ble_eq_true rfl) (Nat.le_of_ble_eq_true rfl) (Nat.le_of_ble_eq_true rfl) (Nat.le_of_ble_eq_true rfl) (Nat.le_of_ble_eq_true rfl) (s_X12_isSign G hs (fun r47 e47 => ?_))
        refine t_ifeq (t := 80) dX12_readUnit_50 (by decide) (fun h50 => ?_) (fun h50 => False.elim (by omega))
        refine r_aloadR0 dX12_readUnit_80 ?_
        refine q_callV0 zm_RX12_181 dX12_readUnit_81 (shM_k hs) (by decide) rfl (Nat.le_of_ble_eq_true rfl) (Nat.le_of_ble_eq_true rfl) (Nat.le_of_ble_eq_true rfl) (Nat.le_of_ble_eq_true rfl) (Nat.le_of_ble_eq_true rfl) (s_X12_readSum_5 (lm := lm) (la := la) (u := u) G hs kw hld htp hps hd16 hlm hla hu h5 h29 h99 hup (fun g81 o81 d81 p81 k81 => ?_))
        have p81b : psM B n g81 A (smP B n (if lm = 5 then 8 else 6) 5 p).1 (smP B n (if lm = 5 then 8 else 6) 5 p).2.1 := p81
        have k81b : (smP B n (if lm = 5 then 8 else 6) 5 p).1 = 0 → okM f g81 A lm la u (smP B n (if lm = 5 then 8 else 6) 5 p).2.2 := k81
        have p81d := p81c _ p81b
        have t81 := p81d.2.1 rfl
        have h81 := t81.2.2.2.1
        have b81 := p81d.1
        have hte81 := teP_le (B := B) t81.1
        have htp81 := tpM_of htp (o81.2.1 5 (by decide) (by decide) (by decide)) (o81.2.2 7 (by decide))
        have k81c := k81b hr
        refine r_aloadR0 dX12_readUnit_84 ?_
        refine m_getV (x := (g81 A 10)) zf_RX12_92 rfl dX12_readUnit_85 (shM_k hs) (rfl) ?_
        refine r_istore1 dX12_readUnit_88 rfl ?_
        refine r_iload1 dX12_readUnit_89 ?_
        refine n_bipush dX12_readUnit_90 (by decide) (fun r90 e90_z => ?_)
        refine t_iceq (t := 112) dX12_readUnit_92 (by decide) (fun h92 => False.elim (by omega)) (fun h92 => ?_)
        refine r_iload1 dX12_readUnit_95 ?_
        refine n_bipush dX12_readUnit_96 (by decide) (fun r96 e96 => ?_)
        refine t_iceq (t := 112) dX12_readUnit_98 (by decide) (fun h98 => ?_) (fun h98 => False.elim (by omega))
        refine r_aloadR0 dX12_readUnit_112 ?_
        refine m_getV (x := (g81 A 12)) zf_RX12_112 rfl dX12_readUnit_113 (shM_k hs) (rfl) ?_
        refine t_ifne (t := 123) dX12_readUnit_116 (by decide) (fun h116 => False.elim (by omega)) (fun h116 => ?_)
        refine r_aloadR0 dX12_readUnit_119 ?_
        refine q_callV0 zm_RX12_131 dX12_readUnit_120 (shM_k hs) (by decide) rfl (Nat.le_of_ble_eq_true rfl) (Nat.le_of_ble_eq_true rfl) (Nat.le_of_ble_eq_true rfl) (Nat.le_of_ble_eq_true rfl) (Nat.le_of_ble_eq_true rfl) (s_X12_readsOn (p := teP B n (smP B n (if lm = 5 then 8 else 6) 5 p).2.1) G hs htp81 t81.2.1 hte81 (fun g120 o120 t120 => ?_))
        have htp120 := tpM_of htp81 (o120.2.1 5 (by decide) (by decide) (by decide)) (o120.2.2 7 (by decide))
        have hp120 : psM B n g120 A 0 (nxP B n (smP B n (if lm = 5 then 8 else 6) 5 p).2.1) := ⟨by rw [o120.2.2 12 (by decide)]; exact b81, fun _ => t120, fun h_z => absurd rfl h_z⟩
        have w120 : g120 (A + 2) = g81 (A + 2) := o120.2.1 2 (by decide) (by decide) (by decide)
        refine r_aloadR0 dX12_readUnit_123 ?_
        refine q_callV0 zm_RX12_181 dX12_readUnit_124 (shM_k hs) (by decide) rfl (Nat.le_of_ble_eq_true rfl) (Nat.le_of_ble_eq_true rfl) (Nat.le_of_ble_eq_true rfl) (Nat.le_of_ble_eq_true rfl) (Nat.le_of_ble_eq_true rfl) (s_X12_readSum_5 (lm := lm) (la := la) (u := u + (smP B n (if lm = 5 then 8 else 6) 5 p).2.2.length) G hs kw hld htp120 hp120 (by rw [o120.2.2 16 (by decide)]; exact d81) (by rw [o120.2.2 17 (by decide), o81.2.2 17 (by decide)]; exact hlm) (by rw [o120.2.2 18 (by decide), o81.2.2 18 (by decide)]; exact hla) (by rw [w120]; exact k81c.1) h5 h29 h99 (by omega) (fun g124 o124 d124 p124 k124 => ?_))
        have of124 : frM A [2] [8, 9, 10, 11, 12, 13, 16] f g124 := frM_tr o81 (frM_tr (frM_su o120 (by decide) (by decide)) o124)
        have p124b : psM B n g124 A (smP B n (if lm = 5 then 8 else 6) 5 (nxP B n (smP B n (if lm = 5 then 8 else 6) 5 p).2.1)).1 (smP B n (if lm = 5 then 8 else 6) 5 (nxP B n (smP B n (if lm = 5 then 8 else 6) 5 p).2.1)).2.1 := p124
        have k124b : (smP B n (if lm = 5 then 8 else 6) 5 (nxP B n (smP B n (if lm = 5 then 8 else 6) 5 p).2.1)).1 = 0 → okM g120 g124 A lm la (u + (smP B n (if lm = 5 then 8 else 6) 5 p).2.2.length) (smP B n (if lm = 5 then 8 else 6) 5 (nxP B n (smP B n (if lm = 5 then 8 else 6) 5 p).2.1)).2.2 := k124
        refine r_aloadR0 dX12_readUnit_127 ?_
        refine r_iload1 dX12_readUnit_128 ?_
        refine n_bipush dX12_readUnit_129 (by decide) (fun r129 e129 => ?_)
        refine t_icne (t := 139) dX12_readUnit_131 (by decide) (fun h131 => ?_) (fun h131 => False.elim (by omega))
        refine r_iload1 dX12_readUnit_139 ?_
        refine n_bipush dX12_readUnit_140 (by decide) (fun r140 e140 => ?_)
        refine t_icne (t := 150) dX12_readUnit_142 (by decide) (fun h142 => False.elim (by omega)) (fun h142 => ?_)
        refine n_bipush dX12_readUnit_145 (by decide) (fun r145 e145 => ?_)
        refine r_goto (t := 152) dX12_readUnit_147 (by decide) ?_
        refine q_callV1 zm_RX12_162 dX12_readUnit_152 (shM_k hs) (by decide) rfl (Nat.le_of_ble_eq_true rfl) (Nat.le_of_ble_eq_true rfl) (Nat.le_of_ble_eq_true rfl) (Nat.le_of_ble_eq_true rfl) (Nat.le_of_ble_eq_true rfl) (s_X12_laysStep (lm := lm) (la := la) (u := u + (smP B n (if lm = 5 then 8 else 6) 5 p).2.2.length + (smP B n (if lm = 5 then 8 else 6) 5 (nxP B n (smP B n (if lm = 5 then 8 else 6) 5 p).2.1)).2.2.length) G hs (by have := p124b.1; rw [hq] at this; exact this) (by rw [of124.2.2 17 (by decide)]; exact hlm) (by rw [of124.2.2 18 (by decide)]; exact hla) (k124b hq).1 h5 h29 (by omega) (fun g152 o152 a152 b152 c152 => ?_))
        have p124c := p124b
        rw [hq] at p124c
        refine r_vret dX12_readUnit_155 rfl (Nat.le_of_ble_eq_true rfl) (Nat.le_of_ble_eq_true rfl) ?_
        refine hQ _ (frM_tr of124 (frM_su o152 (by decide) (by decide))) (by rw [o152.2.2 16 (by decide)]; exact d124) (psM_of p124c (o152.2.2 8 (by decide)) (o152.2.2 9 (by decide)) (o152.2.2 10 (by decide)) (o152.2.2 11 (by decide)) (o152.2.2 12 (by decide)) (o152.2.2 13 (by decide))) (fun _ => okM_ap (by omega) (by rw [List.length_append]; omega) (okM_ap (by omega) (by omega) k81c (okM_cg (k124b hq) w120 rfl)) ?_)
        rw [List.length_append, ← Nat.add_assoc]
        exact okM_one (by omega) a152 b152 c152 (by rw [e145]; rfl)
      · have hv : cmP B n (smP B n (if lm = 5 then 8 else 6) 5) p = (smP B n (if lm = 5 then 8 else 6) 5 (nxP B n (smP B n (if lm = 5 then 8 else 6) 5 p).2.1)) := (if_neg (not_not_intro hr)).trans ((if_neg hop0).trans (if_pos hq))
        rw [hv] at hQ
        refine r_aloadR0 dX12_readUnit_0 ?_
        refine m_getV (x := (f A 12)) zf_RX12_112 rfl dX12_readUnit_1 (shM_k hs) (rfl) ?_
        refine t_ifeq (t := 8) dX12_readUnit_4 (by decide) (fun h4 => ?_) (fun h4 => False.elim (by omega))
        refine r_aloadR0 dX12_readUnit_8 ?_
        refine k_ldc (hld _ (List.mem_of_getElem? (i := 2) rfl)) dX12_readUnit_9 ?_
        refine q_callV1 zm_RX12_127 dX12_readUnit_11 (shM_k hs) (by decide) rfl (Nat.le_of_ble_eq_true rfl) (Nat.le_of_ble_eq_true rfl) (Nat.le_of_ble_eq_true rfl) (Nat.le_of_ble_eq_true rfl) (Nat.le_of_ble_eq_true rfl) (s_X12_isWord (i := 8) G hs kw (by decide) htp hps (fun r11 e11_z => ?_))
        have e11b : r11.toInt = 0 := e11_z.elim (fun h_z => absurd h_z.2 hw) (fun h_z => h_z.1)
        refine t_ifeq (t := 44) dX12_readUnit_14 (by decide) (fun h14 => ?_) (fun h14 => False.elim (by omega))
        refine r_aloadR0 dX12_readUnit_44 ?_
        refine n_bipush dX12_readUnit_45 (by decide) (fun r45 e45 => ?_)
        refine q_callV1 zm_RX12_175 dX12_readUnit_47 (shM_k hs) (by decide) rfl (Nat.le_of_ble_eq_true rfl) (Nat.le_of_ble_eq_true rfl) (Nat.le_of_ble_eq_true rfl) (Nat.le_of_ble_eq_true rfl) (Nat.le_of_ble_eq_true rfl) (s_X12_isSign G hs (fun r47 e47 => ?_))
        refine t_ifeq (t := 80) dX12_readUnit_50 (by decide) (fun h50 => ?_) (fun h50 => False.elim (by omega))
        refine r_aloadR0 dX12_readUnit_80 ?_
        refine q_callV0 zm_RX12_181 dX12_readUnit_81 (shM_k hs) (by decide) rfl (Nat.le_of_ble_eq_true rfl) (Nat.le_of_ble_eq_true rfl) (Nat.le_of_ble_eq_true rfl) (Nat.le_of_ble_eq_true rfl) (Nat.le_of_ble_eq_true rfl) (s_X12_readSum_5 (lm := lm) (la := la) (u := u) G hs kw hld htp hps hd16 hlm hla hu h5 h29 h99 hup (fun g81 o81 d81 p81 k81 => ?_))
        have p81b : psM B n g81 A (smP B n (if lm = 5 then 8 else 6) 5 p).1 (smP B n (if lm = 5 then 8 else 6) 5 p).2.1 := p81
        have k81b : (smP B n (if lm = 5 then 8 else 6) 5 p).1 = 0 → okM f g81 A lm la u (smP B n (if lm = 5 then 8 else 6) 5 p).2.2 := k81
        have p81d := p81c _ p81b
        have t81 := p81d.2.1 rfl
        have h81 := t81.2.2.2.1
        have b81 := p81d.1
        have hte81 := teP_le (B := B) t81.1
        have htp81 := tpM_of htp (o81.2.1 5 (by decide) (by decide) (by decide)) (o81.2.2 7 (by decide))
        have k81c := k81b hr
        refine r_aloadR0 dX12_readUnit_84 ?_
        refine m_getV (x := (g81 A 10)) zf_RX12_92 rfl dX12_readUnit_85 (shM_k hs) (rfl) ?_
        refine r_istore1 dX12_readUnit_88 rfl ?_
        refine r_iload1 dX12_readUnit_89 ?_
        refine n_bipush dX12_readUnit_90 (by decide) (fun r90 e90_z => ?_)
        refine t_iceq (t := 112) dX12_readUnit_92 (by decide) (fun h92 => False.elim (by omega)) (fun h92 => ?_)
        refine r_iload1 dX12_readUnit_95 ?_
        refine n_bipush dX12_readUnit_96 (by decide) (fun r96 e96 => ?_)
        refine t_iceq (t := 112) dX12_readUnit_98 (by decide) (fun h98 => ?_) (fun h98 => False.elim (by omega))
        refine r_aloadR0 dX12_readUnit_112 ?_
        refine m_getV (x := (g81 A 12)) zf_RX12_112 rfl dX12_readUnit_113 (shM_k hs) (rfl) ?_
        refine t_ifne (t := 123) dX12_readUnit_116 (by decide) (fun h116 => False.elim (by omega)) (fun h116 => ?_)
        refine r_aloadR0 dX12_readUnit_119 ?_
        refine q_callV0 zm_RX12_131 dX12_readUnit_120 (shM_k hs) (by decide) rfl (Nat.le_of_ble_eq_true rfl) (Nat.le_of_ble_eq_true rfl) (Nat.le_of_ble_eq_true rfl) (Nat.le_of_ble_eq_true rfl) (Nat.le_of_ble_eq_true rfl) (s_X12_readsOn (p := teP B n (smP B n (if lm = 5 then 8 else 6) 5 p).2.1) G hs htp81 t81.2.1 hte81 (fun g120 o120 t120 => ?_))
        have htp120 := tpM_of htp81 (o120.2.1 5 (by decide) (by decide) (by decide)) (o120.2.2 7 (by decide))
        have hp120 : psM B n g120 A 0 (nxP B n (smP B n (if lm = 5 then 8 else 6) 5 p).2.1) := ⟨by rw [o120.2.2 12 (by decide)]; exact b81, fun _ => t120, fun h_z => absurd rfl h_z⟩
        have w120 : g120 (A + 2) = g81 (A + 2) := o120.2.1 2 (by decide) (by decide) (by decide)
        refine r_aloadR0 dX12_readUnit_123 ?_
        refine q_callV0 zm_RX12_181 dX12_readUnit_124 (shM_k hs) (by decide) rfl (Nat.le_of_ble_eq_true rfl) (Nat.le_of_ble_eq_true rfl) (Nat.le_of_ble_eq_true rfl) (Nat.le_of_ble_eq_true rfl) (Nat.le_of_ble_eq_true rfl) (s_X12_readSum_5 (lm := lm) (la := la) (u := u + (smP B n (if lm = 5 then 8 else 6) 5 p).2.2.length) G hs kw hld htp120 hp120 (by rw [o120.2.2 16 (by decide)]; exact d81) (by rw [o120.2.2 17 (by decide), o81.2.2 17 (by decide)]; exact hlm) (by rw [o120.2.2 18 (by decide), o81.2.2 18 (by decide)]; exact hla) (by rw [w120]; exact k81c.1) h5 h29 h99 (by omega) (fun g124 o124 d124 p124 k124 => ?_))
        have of124 : frM A [2] [8, 9, 10, 11, 12, 13, 16] f g124 := frM_tr o81 (frM_tr (frM_su o120 (by decide) (by decide)) o124)
        have p124b : psM B n g124 A (smP B n (if lm = 5 then 8 else 6) 5 (nxP B n (smP B n (if lm = 5 then 8 else 6) 5 p).2.1)).1 (smP B n (if lm = 5 then 8 else 6) 5 (nxP B n (smP B n (if lm = 5 then 8 else 6) 5 p).2.1)).2.1 := p124
        have k124b : (smP B n (if lm = 5 then 8 else 6) 5 (nxP B n (smP B n (if lm = 5 then 8 else 6) 5 p).2.1)).1 = 0 → okM g120 g124 A lm la (u + (smP B n (if lm = 5 then 8 else 6) 5 p).2.2.length) (smP B n (if lm = 5 then 8 else 6) 5 (nxP B n (smP B n (if lm = 5 then 8 else 6) 5 p).2.1)).2.2 := k124
        refine r_aloadR0 dX12_readUnit_127 ?_
        refine r_iload1 dX12_readUnit_128 ?_
        refine n_bipush dX12_readUnit_129 (by decide) (fun r129 e129 => ?_)
        refine t_icne (t := 139) dX12_readUnit_131 (by decide) (fun h131 => ?_) (fun h131 => False.elim (by omega))
        refine r_iload1 dX12_readUnit_139 ?_
        refine n_bipush dX12_readUnit_140 (by decide) (fun r140 e140 => ?_)
        refine t_icne (t := 150) dX12_readUnit_142 (by decide) (fun h142 => False.elim (by omega)) (fun h142 => ?_)
        refine n_bipush dX12_readUnit_145 (by decide) (fun r145 e145 => ?_)
        refine r_goto (t := 152) dX12_readUnit_147 (by decide) ?_
        refine q_callV1 zm_RX12_162 dX12_readUnit_152 (shM_k hs) (by decide) rfl (Nat.le_of_ble_eq_true rfl) (Nat.le_of_ble_eq_true rfl) (Nat.le_of_ble_eq_true rfl) (Nat.le_of_ble_eq_true rfl) (Nat.le_of_ble_eq_true rfl) (s_X12_laysStep_x G hs (by rw [p124b.1]; omega) ?_)
        refine r_vret dX12_readUnit_155 rfl (Nat.le_of_ble_eq_true rfl) (Nat.le_of_ble_eq_true rfl) ?_
        exact hQ _ of124 d124 p124b (fun h_z => absurd h_z hq)
    have hn60 := hc_z
    have hm60 : rkP B n (smP B n (if lm = 5 then 8 else 6) 5 p).2.1 ≠ 60 := fun h_z => hc_z (q60.mp h_z)
    clear hc_z
    by_cases hc_z : tkP B n (smP B n (if lm = 5 then 8 else 6) 5 p).2.1 = 62
    · have h10c := q62.mpr hc_z
      have hop : opC B n (smP B n (if lm = 5 then 8 else 6) 5 p).2.1 = 2008 := (if_neg (by omega)).trans ((if_neg (by omega)).trans (if_pos hc_z))
      have hop0 : opC B n (smP B n (if lm = 5 then 8 else 6) 5 p).2.1 ≠ 0 := by rw [hop]; decide
      have hln := tk_lt (B := B) (n := n) (s := (smP B n (if lm = 5 then 8 else 6) 5 p).2.1) (by rw [hc_z]; decide)
      have hnx := nxP_gt (B := B) hln
      by_cases hq : (smP B n (if lm = 5 then 8 else 6) 5 (nxP B n (smP B n (if lm = 5 then 8 else 6) 5 p).2.1)).1 = 0
      · obtain ⟨z1, z2, z3, z4⟩ := (hsm _ hnx.2).1 hq
        have hv : cmP B n (smP B n (if lm = 5 then 8 else 6) 5) p = (0, (smP B n (if lm = 5 then 8 else 6) 5 (nxP B n (smP B n (if lm = 5 then 8 else 6) 5 p).2.1)).2.1, (smP B n (if lm = 5 then 8 else 6) 5 p).2.2 ++ (smP B n (if lm = 5 then 8 else 6) 5 (nxP B n (smP B n (if lm = 5 then 8 else 6) 5 p).2.1)).2.2 ++ [opC B n (smP B n (if lm = 5 then 8 else 6) 5 p).2.1]) := (if_neg (not_not_intro hr)).trans ((if_neg hop0).trans (if_neg (not_not_intro hq)))
        rw [hv, hop] at hQ
        refine r_aloadR0 dX12_readUnit_0 ?_
        refine m_getV (x := (f A 12)) zf_RX12_112 rfl dX12_readUnit_1 (shM_k hs) (rfl) ?_
        refine t_ifeq (t := 8) dX12_readUnit_4 (by decide) (fun h4 => ?_) (fun h4 => False.elim (by omega))
        refine r_aloadR0 dX12_readUnit_8 ?_
        refine k_ldc (hld _ (List.mem_of_getElem? (i := 2) rfl)) dX12_readUnit_9 ?_
        refine q_callV1 zm_RX12_127 dX12_readUnit_11 (shM_k hs) (by decide) rfl (Nat.le_of_ble_eq_true rfl) (Nat.le_of_ble_eq_true rfl) (Nat.le_of_ble_eq_true rfl) (Nat.le_of_ble_eq_true rfl) (Nat.le_of_ble_eq_true rfl) (s_X12_isWord (i := 8) G hs kw (by decide) htp hps (fun r11 e11_z => ?_))
        have e11b : r11.toInt = 0 := e11_z.elim (fun h_z => absurd h_z.2 hw) (fun h_z => h_z.1)
        refine t_ifeq (t := 44) dX12_readUnit_14 (by decide) (fun h14 => ?_) (fun h14 => False.elim (by omega))
        refine r_aloadR0 dX12_readUnit_44 ?_
        refine n_bipush dX12_readUnit_45 (by decide) (fun r45 e45 => ?_)
        refine q_callV1 zm_RX12_175 dX12_readUnit_47 (shM_k hs) (by decide) rfl (Nat.le_of_ble_eq_true rfl) (Nat.le_of_ble_eq_true rfl) (Nat.le_of_ble_eq_true rfl) (Nat.le_of_ble_eq_true rfl) (Nat.le_of_ble_eq_true rfl) (s_X12_isSign G hs (fun r47 e47 => ?_))
        refine t_ifeq (t := 80) dX12_readUnit_50 (by decide) (fun h50 => ?_) (fun h50 => False.elim (by omega))
        refine r_aloadR0 dX12_readUnit_80 ?_
        refine q_callV0 zm_RX12_181 dX12_readUnit_81 (shM_k hs) (by decide) rfl (Nat.le_of_ble_eq_true rfl) (Nat.le_of_ble_eq_true rfl) (Nat.le_of_ble_eq_true rfl) (Nat.le_of_ble_eq_true rfl) (Nat.le_of_ble_eq_true rfl) (s_X12_readSum_5 (lm := lm) (la := la) (u := u) G hs kw hld htp hps hd16 hlm hla hu h5 h29 h99 hup (fun g81 o81 d81 p81 k81 => ?_))
        have p81b : psM B n g81 A (smP B n (if lm = 5 then 8 else 6) 5 p).1 (smP B n (if lm = 5 then 8 else 6) 5 p).2.1 := p81
        have k81b : (smP B n (if lm = 5 then 8 else 6) 5 p).1 = 0 → okM f g81 A lm la u (smP B n (if lm = 5 then 8 else 6) 5 p).2.2 := k81
        have p81d := p81c _ p81b
        have t81 := p81d.2.1 rfl
        have h81 := t81.2.2.2.1
        have b81 := p81d.1
        have hte81 := teP_le (B := B) t81.1
        have htp81 := tpM_of htp (o81.2.1 5 (by decide) (by decide) (by decide)) (o81.2.2 7 (by decide))
        have k81c := k81b hr
        refine r_aloadR0 dX12_readUnit_84 ?_
        refine m_getV (x := (g81 A 10)) zf_RX12_92 rfl dX12_readUnit_85 (shM_k hs) (rfl) ?_
        refine r_istore1 dX12_readUnit_88 rfl ?_
        refine r_iload1 dX12_readUnit_89 ?_
        refine n_bipush dX12_readUnit_90 (by decide) (fun r90 e90_z => ?_)
        refine t_iceq (t := 112) dX12_readUnit_92 (by decide) (fun h92 => False.elim (by omega)) (fun h92 => ?_)
        refine r_iload1 dX12_readUnit_95 ?_
        refine n_bipush dX12_readUnit_96 (by decide) (fun r96 e96 => ?_)
        refine t_iceq (t := 112) dX12_readUnit_98 (by decide) (fun h98 => False.elim (by omega)) (fun h98 => ?_)
        refine r_iload1 dX12_readUnit_101 ?_
        refine n_bipush dX12_readUnit_102 (by decide) (fun r102 e102_z => ?_)
        refine t_iceq (t := 112) dX12_readUnit_104 (by decide) (fun h104 => ?_) (fun h104 => False.elim (by omega))
        refine r_aloadR0 dX12_readUnit_112 ?_
        refine m_getV (x := (g81 A 12)) zf_RX12_112 rfl dX12_readUnit_113 (shM_k hs) (rfl) ?_
        refine t_ifne (t := 123) dX12_readUnit_116 (by decide) (fun h116 => False.elim (by omega)) (fun h116 => ?_)
        refine r_aloadR0 dX12_readUnit_119 ?_
        refine q_callV0 zm_RX12_131 dX12_readUnit_120 (shM_k hs) (by decide) rfl (Nat.le_of_ble_eq_true rfl) (Nat.le_of_ble_eq_true rfl) (Nat.le_of_ble_eq_true rfl) (Nat.le_of_ble_eq_true rfl) (Nat.le_of_ble_eq_true rfl) (s_X12_readsOn (p := teP B n (smP B n (if lm = 5 then 8 else 6) 5 p).2.1) G hs htp81 t81.2.1 hte81 (fun g120 o120 t120 => ?_))
        have htp120 := tpM_of htp81 (o120.2.1 5 (by decide) (by decide) (by decide)) (o120.2.2 7 (by decide))
        have hp120 : psM B n g120 A 0 (nxP B n (smP B n (if lm = 5 then 8 else 6) 5 p).2.1) := ⟨by rw [o120.2.2 12 (by decide)]; exact b81, fun _ => t120, fun h_z => absurd rfl h_z⟩
        have w120 : g120 (A + 2) = g81 (A + 2) := o120.2.1 2 (by decide) (by decide) (by decide)
        refine r_aloadR0 dX12_readUnit_123 ?_
        refine q_callV0 zm_RX12_181 dX12_readUnit_124 (shM_k hs) (by decide) rfl (Nat.le_of_ble_eq_true rfl) (Nat.le_of_ble_eq_true rfl) (Nat.le_of_ble_eq_true rfl) (Nat.le_of_ble_eq_true rfl) (Nat.le_of_ble_eq_true rfl) (s_X12_readSum_5 (lm := lm) (la := la) (u := u + (smP B n (if lm = 5 then 8 else 6) 5 p).2.2.length) G hs kw hld htp120 hp120 (by rw [o120.2.2 16 (by decide)]; exact d81) (by rw [o120.2.2 17 (by decide), o81.2.2 17 (by decide)]; exact hlm) (by rw [o120.2.2 18 (by decide), o81.2.2 18 (by decide)]; exact hla) (by rw [w120]; exact k81c.1) h5 h29 h99 (by omega) (fun g124 o124 d124 p124 k124 => ?_))
        have of124 : frM A [2] [8, 9, 10, 11, 12, 13, 16] f g124 := frM_tr o81 (frM_tr (frM_su o120 (by decide) (by decide)) o124)
        have p124b : psM B n g124 A (smP B n (if lm = 5 then 8 else 6) 5 (nxP B n (smP B n (if lm = 5 then 8 else 6) 5 p).2.1)).1 (smP B n (if lm = 5 then 8 else 6) 5 (nxP B n (smP B n (if lm = 5 then 8 else 6) 5 p).2.1)).2.1 := p124
        have k124b : (smP B n (if lm = 5 then 8 else 6) 5 (nxP B n (smP B n (if lm = 5 then 8 else 6) 5 p).2.1)).1 = 0 → okM g120 g124 A lm la (u + (smP B n (if lm = 5 then 8 else 6) 5 p).2.2.length) (smP B n (if lm = 5 then 8 else 6) 5 (nxP B n (smP B n (if lm = 5 then 8 else 6) 5 p).2.1)).2.2 := k124
        refine r_aloadR0 dX12_readUnit_127 ?_
        refine r_iload1 dX12_readUnit_128 ?_
        refine n_bipush dX12_readUnit_129 (by decide) (fun r129 e129 => ?_)
        refine t_icne (t := 139) dX12_readUnit_131 (by decide) (fun h131 => ?_) (fun h131 => False.elim (by omega))
        refine r_iload1 dX12_readUnit_139 ?_
        refine n_bipush dX12_readUnit_140 (by decide) (fun r140 e140 => ?_)
        refine t_icne (t := 150) dX12_readUnit_142 (by decide) (fun h142 => ?_) (fun h142 => False.elim (by omega))
        refine n_bipush dX12_readUnit_150 (by decide) (fun r150 e150 => ?_)
        refine q_callV1 zm_RX12_162 dX12_readUnit_152 (shM_k hs) (by decide) rfl (Nat.le_of_ble_eq_true rfl) (Nat.le_of_ble_eq_true rfl) (Nat.le_of_ble_eq_true rfl) (Nat.le_of_ble_eq_true rfl) (Nat.le_of_ble_eq_true rfl) (s_X12_laysStep (lm := lm) (la := la) (u := u + (smP B n (if lm = 5 then 8 else 6) 5 p).2.2.length + (smP B n (if lm = 5 then 8 else 6) 5 (nxP B n (smP B n (if lm = 5 then 8 else 6) 5 p).2.1)).2.2.length) G hs (by have := p124b.1; rw [hq] at this; exact this) (by rw [of124.2.2 17 (by decide)]; exact hlm) (by rw [of124.2.2 18 (by decide)]; exact hla) (k124b hq).1 h5 h29 (by omega) (fun g152 o152 a152 b152 c152 => ?_))
        have p124c := p124b
        rw [hq] at p124c
        refine r_vret dX12_readUnit_155 rfl (Nat.le_of_ble_eq_true rfl) (Nat.le_of_ble_eq_true rfl) ?_
        refine hQ _ (frM_tr of124 (frM_su o152 (by decide) (by decide))) (by rw [o152.2.2 16 (by decide)]; exact d124) (psM_of p124c (o152.2.2 8 (by decide)) (o152.2.2 9 (by decide)) (o152.2.2 10 (by decide)) (o152.2.2 11 (by decide)) (o152.2.2 12 (by decide)) (o152.2.2 13 (by decide))) (fun _ => okM_ap (by omega) (by rw [List.length_append]; omega) (okM_ap (by omega) (by omega) k81c (okM_cg (k124b hq) w120 rfl)) ?_)
        rw [List.length_append, ← Nat.add_assoc]
        exact okM_one (by omega) a152 b152 c152 (by rw [e150]; rfl)
      · have hv : cmP B n (smP B n (if lm = 5 then 8 else 6) 5) p = (smP B n (if lm = 5 then 8 else 6) 5 (nxP B n (smP B n (if lm = 5 then 8 else 6) 5 p).2.1)) := (if_neg (not_not_intro hr)).trans ((if_neg hop0).trans (if_pos hq))
        rw [hv] at hQ
        refine r_aloadR0 dX12_readUnit_0 ?_
        refine m_getV (x := (f A 12)) zf_RX12_112 rfl dX12_readUnit_1 (shM_k hs) (rfl) ?_
        refine t_ifeq (t := 8) dX12_readUnit_4 (by decide) (fun h4 => ?_) (fun h4 => False.elim (by omega))
        refine r_aloadR0 dX12_readUnit_8 ?_
        refine k_ldc (hld _ (List.mem_of_getElem? (i := 2) rfl)) dX12_readUnit_9 ?_
        refine q_callV1 zm_RX12_127 dX12_readUnit_11 (shM_k hs) (by decide) rfl (Nat.le_of_ble_eq_true rfl) (Nat.le_of_ble_eq_true rfl) (Nat.le_of_ble_eq_true rfl) (Nat.le_of_ble_eq_true rfl) (Nat.le_of_ble_eq_true rfl) (s_X12_isWord (i := 8) G hs kw (by decide) htp hps (fun r11 e11_z => ?_))
        have e11b : r11.toInt = 0 := e11_z.elim (fun h_z => absurd h_z.2 hw) (fun h_z => h_z.1)
        refine t_ifeq (t := 44) dX12_readUnit_14 (by decide) (fun h14 => ?_) (fun h14 => False.elim (by omega))
        refine r_aloadR0 dX12_readUnit_44 ?_
        refine n_bipush dX12_readUnit_45 (by decide) (fun r45 e45 => ?_)
        refine q_callV1 zm_RX12_175 dX12_readUnit_47 (shM_k hs) (by decide) rfl (Nat.le_of_ble_eq_true rfl) (Nat.le_of_ble_eq_true rfl) (Nat.le_of_ble_eq_true rfl) (Nat.le_of_ble_eq_true rfl) (Nat.le_of_ble_eq_true rfl) (s_X12_isSign G hs (fun r47 e47 => ?_))
        refine t_ifeq (t := 80) dX12_readUnit_50 (by decide) (fun h50 => ?_) (fun h50 => False.elim (by omega))
        refine r_aloadR0 dX12_readUnit_80 ?_
        refine q_callV0 zm_RX12_181 dX12_readUnit_81 (shM_k hs) (by decide) rfl (Nat.le_of_ble_eq_true rfl) (Nat.le_of_ble_eq_true rfl) (Nat.le_of_ble_eq_true rfl) (Nat.le_of_ble_eq_true rfl) (Nat.le_of_ble_eq_true rfl) (s_X12_readSum_5 (lm := lm) (la := la) (u := u) G hs kw hld htp hps hd16 hlm hla hu h5 h29 h99 hup (fun g81 o81 d81 p81 k81 => ?_))
        have p81b : psM B n g81 A (smP B n (if lm = 5 then 8 else 6) 5 p).1 (smP B n (if lm = 5 then 8 else 6) 5 p).2.1 := p81
        have k81b : (smP B n (if lm = 5 then 8 else 6) 5 p).1 = 0 → okM f g81 A lm la u (smP B n (if lm = 5 then 8 else 6) 5 p).2.2 := k81
        have p81d := p81c _ p81b
        have t81 := p81d.2.1 rfl
        have h81 := t81.2.2.2.1
        have b81 := p81d.1
        have hte81 := teP_le (B := B) t81.1
        have htp81 := tpM_of htp (o81.2.1 5 (by decide) (by decide) (by decide)) (o81.2.2 7 (by decide))
        have k81c := k81b hr
        refine r_aloadR0 dX12_readUnit_84 ?_
        refine m_getV (x := (g81 A 10)) zf_RX12_92 rfl dX12_readUnit_85 (shM_k hs) (rfl) ?_
        refine r_istore1 dX12_readUnit_88 rfl ?_
        refine r_iload1 dX12_readUnit_89 ?_
        refine n_bipush dX12_readUnit_90 (by decide) (fun r90 e90_z => ?_)
        refine t_iceq (t := 112) dX12_readUnit_92 (by decide) (fun h92 => False.elim (by omega)) (fun h92 => ?_)
        refine r_iload1 dX12_readUnit_95 ?_
        refine n_bipush dX12_readUnit_96 (by decide) (fun r96 e96 => ?_)
        refine t_iceq (t := 112) dX12_readUnit_98 (by decide) (fun h98 => False.elim (by omega)) (fun h98 => ?_)
        refine r_iload1 dX12_readUnit_101 ?_
        refine n_bipush dX12_readUnit_102 (by decide) (fun r102 e102_z => ?_)
        refine t_iceq (t := 112) dX12_readUnit_104 (by decide) (fun h104 => ?_) (fun h104 => False.elim (by omega))
        refine r_aloadR0 dX12_readUnit_112 ?_
        refine m_getV (x := (g81 A 12)) zf_RX12_112 rfl dX12_readUnit_113 (shM_k hs) (rfl) ?_
        refine t_ifne (t := 123) dX12_readUnit_116 (by decide) (fun h116 => False.elim (by omega)) (fun h116 => ?_)
        refine r_aloadR0 dX12_readUnit_119 ?_
        refine q_callV0 zm_RX12_131 dX12_readUnit_120 (shM_k hs) (by decide) rfl (Nat.le_of_ble_eq_true rfl) (Nat.le_of_ble_eq_true rfl) (Nat.le_of_ble_eq_true rfl) (Nat.le_of_ble_eq_true rfl) (Nat.le_of_ble_eq_true rfl) (s_X12_readsOn (p := teP B n (smP B n (if lm = 5 then 8 else 6) 5 p).2.1) G hs htp81 t81.2.1 hte81 (fun g120 o120 t120 => ?_))
        have htp120 := tpM_of htp81 (o120.2.1 5 (by decide) (by decide) (by decide)) (o120.2.2 7 (by decide))
        have hp120 : psM B n g120 A 0 (nxP B n (smP B n (if lm = 5 then 8 else 6) 5 p).2.1) := ⟨by rw [o120.2.2 12 (by decide)]; exact b81, fun _ => t120, fun h_z => absurd rfl h_z⟩
        have w120 : g120 (A + 2) = g81 (A + 2) := o120.2.1 2 (by decide) (by decide) (by decide)
        refine r_aloadR0 dX12_readUnit_123 ?_
        refine q_callV0 zm_RX12_181 dX12_readUnit_124 (shM_k hs) (by decide) rfl (Nat.le_of_ble_eq_true rfl) (Nat.le_of_ble_eq_true rfl) (Nat.le_of_ble_eq_true rfl) (Nat.le_of_ble_eq_true rfl) (Nat.le_of_ble_eq_true rfl) (s_X12_readSum_5 (lm := lm) (la := la) (u := u + (smP B n (if lm = 5 then 8 else 6) 5 p).2.2.length) G hs kw hld htp120 hp120 (by rw [o120.2.2 16 (by decide)]; exact d81) (by rw [o120.2.2 17 (by decide), o81.2.2 17 (by decide)]; exact hlm) (by rw [o120.2.2 18 (by decide), o81.2.2 18 (by decide)]; exact hla) (by rw [w120]; exact k81c.1) h5 h29 h99 (by omega) (fun g124 o124 d124 p124 k124 => ?_))
        have of124 : frM A [2] [8, 9, 10, 11, 12, 13, 16] f g124 := frM_tr o81 (frM_tr (frM_su o120 (by decide) (by decide)) o124)
        have p124b : psM B n g124 A (smP B n (if lm = 5 then 8 else 6) 5 (nxP B n (smP B n (if lm = 5 then 8 else 6) 5 p).2.1)).1 (smP B n (if lm = 5 then 8 else 6) 5 (nxP B n (smP B n (if lm = 5 then 8 else 6) 5 p).2.1)).2.1 := p124
        have k124b : (smP B n (if lm = 5 then 8 else 6) 5 (nxP B n (smP B n (if lm = 5 then 8 else 6) 5 p).2.1)).1 = 0 → okM g120 g124 A lm la (u + (smP B n (if lm = 5 then 8 else 6) 5 p).2.2.length) (smP B n (if lm = 5 then 8 else 6) 5 (nxP B n (smP B n (if lm = 5 then 8 else 6) 5 p).2.1)).2.2 := k124
        refine r_aloadR0 dX12_readUnit_127 ?_
        refine r_iload1 dX12_readUnit_128 ?_
        refine n_bipush dX12_readUnit_129 (by decide) (fun r129 e129 => ?_)
        refine t_icne (t := 139) dX12_readUnit_131 (by decide) (fun h131 => ?_) (fun h131 => False.elim (by omega))
        refine r_iload1 dX12_readUnit_139 ?_
        refine n_bipush dX12_readUnit_140 (by decide) (fun r140 e140 => ?_)
        refine t_icne (t := 150) dX12_readUnit_142 (by decide) (fun h142 => ?_) (fun h142 => False.elim (by omega))
        refine n_bipush dX12_readUnit_150 (by decide) (fun r150 e150 => ?_)
        refine q_callV1 zm_RX12_162 dX12_readUnit_152 (shM_k hs) (by decide) rfl (Nat.le_of_ble_eq_true rfl) (Nat.le_of_ble_eq_true rfl) (Nat.le_of_ble_eq_true rfl) (Nat.le_of_ble_eq_true rfl) (Nat.le_of_ble_eq_true rfl) (s_X12_laysStep_x G hs (by rw [p124b.1]; omega) ?_)
        refine r_vret dX12_readUnit_155 rfl (Nat.le_of_ble_eq_true rfl) (Nat.le_of_ble_eq_true rfl) ?_
        exact hQ _ of124 d124 p124b (fun h_z => absurd h_z hq)
    have hn62 := hc_z
    have hm62 : rkP B n (smP B n (if lm = 5 then 8 else 6) 5 p).2.1 ≠ 62 := fun h_z => hc_z (q62.mp h_z)
    clear hc_z
    have hop : opC B n (smP B n (if lm = 5 then 8 else 6) 5 p).2.1 = 0 := (if_neg hn61).trans ((if_neg hn60).trans (if_neg hn62))
    have hv : cmP B n (smP B n (if lm = 5 then 8 else 6) 5) p = (baP B n (smP B n (if lm = 5 then 8 else 6) 5 p).2.1, (smP B n (if lm = 5 then 8 else 6) 5 p).2.1, []) := (if_neg (not_not_intro hr)).trans (if_pos hop)
    rw [hv] at hQ
    refine r_aloadR0 dX12_readUnit_0 ?_
    refine m_getV (x := (f A 12)) zf_RX12_112 rfl dX12_readUnit_1 (shM_k hs) (rfl) ?_
    refine t_ifeq (t := 8) dX12_readUnit_4 (by decide) (fun h4 => ?_) (fun h4 => False.elim (by omega))
    refine r_aloadR0 dX12_readUnit_8 ?_
    refine k_ldc (hld _ (List.mem_of_getElem? (i := 2) rfl)) dX12_readUnit_9 ?_
    refine q_callV1 zm_RX12_127 dX12_readUnit_11 (shM_k hs) (by decide) rfl (Nat.le_of_ble_eq_true rfl) (Nat.le_of_ble_eq_true rfl) (Nat.le_of_ble_eq_true rfl) (Nat.le_of_ble_eq_true rfl) (Nat.le_of_ble_eq_true rfl) (s_X12_isWord (i := 8) G hs kw (by decide) htp hps (fun r11 e11_z => ?_))
    have e11b : r11.toInt = 0 := e11_z.elim (fun h_z => absurd h_z.2 hw) (fun h_z => h_z.1)
    refine t_ifeq (t := 44) dX12_readUnit_14 (by decide) (fun h14 => ?_) (fun h14 => False.elim (by omega))
    refine r_aloadR0 dX12_readUnit_44 ?_
    refine n_bipush dX12_readUnit_45 (by decide) (fun r45 e45 => ?_)
    refine q_callV1 zm_RX12_175 dX12_readUnit_47 (shM_k hs) (by decide) rfl (Nat.le_of_ble_eq_true rfl) (Nat.le_of_ble_eq_true rfl) (Nat.le_of_ble_eq_true rfl) (Nat.le_of_ble_eq_true rfl) (Nat.le_of_ble_eq_true rfl) (s_X12_isSign G hs (fun r47 e47 => ?_))
    refine t_ifeq (t := 80) dX12_readUnit_50 (by decide) (fun h50 => ?_) (fun h50 => False.elim (by omega))
    refine r_aloadR0 dX12_readUnit_80 ?_
    refine q_callV0 zm_RX12_181 dX12_readUnit_81 (shM_k hs) (by decide) rfl (Nat.le_of_ble_eq_true rfl) (Nat.le_of_ble_eq_true rfl) (Nat.le_of_ble_eq_true rfl) (Nat.le_of_ble_eq_true rfl) (Nat.le_of_ble_eq_true rfl) (s_X12_readSum_5 (lm := lm) (la := la) (u := u) G hs kw hld htp hps hd16 hlm hla hu h5 h29 h99 hup (fun g81 o81 d81 p81 k81 => ?_))
    have p81b : psM B n g81 A (smP B n (if lm = 5 then 8 else 6) 5 p).1 (smP B n (if lm = 5 then 8 else 6) 5 p).2.1 := p81
    have k81b : (smP B n (if lm = 5 then 8 else 6) 5 p).1 = 0 → okM f g81 A lm la u (smP B n (if lm = 5 then 8 else 6) 5 p).2.2 := k81
    have p81d := p81c _ p81b
    have t81 := p81d.2.1 rfl
    have h81 := t81.2.2.2.1
    have b81 := p81d.1
    have hte81 := teP_le (B := B) t81.1
    have htp81 := tpM_of htp (o81.2.1 5 (by decide) (by decide) (by decide)) (o81.2.2 7 (by decide))
    have k81c := k81b hr
    refine r_aloadR0 dX12_readUnit_84 ?_
    refine m_getV (x := (g81 A 10)) zf_RX12_92 rfl dX12_readUnit_85 (shM_k hs) (rfl) ?_
    refine r_istore1 dX12_readUnit_88 rfl ?_
    refine r_iload1 dX12_readUnit_89 ?_
    refine n_bipush dX12_readUnit_90 (by decide) (fun r90 e90_z => ?_)
    refine t_iceq (t := 112) dX12_readUnit_92 (by decide) (fun h92 => False.elim (by omega)) (fun h92 => ?_)
    refine r_iload1 dX12_readUnit_95 ?_
    refine n_bipush dX12_readUnit_96 (by decide) (fun r96 e96 => ?_)
    refine t_iceq (t := 112) dX12_readUnit_98 (by decide) (fun h98 => False.elim (by omega)) (fun h98 => ?_)
    refine r_iload1 dX12_readUnit_101 ?_
    refine n_bipush dX12_readUnit_102 (by decide) (fun r102 e102_z => ?_)
    refine t_iceq (t := 112) dX12_readUnit_104 (by decide) (fun h104 => False.elim (by omega)) (fun h104 => ?_)
    refine r_aloadR0 dX12_readUnit_107 ?_
    refine n_iconst dX12_readUnit_108 (by decide) (fun r108 e108 => ?_)
    refine q_callV1 zm_RX12_134 dX12_readUnit_109 (shM_k hs) (by decide) rfl (Nat.le_of_ble_eq_true rfl) (Nat.le_of_ble_eq_true rfl) (Nat.le_of_ble_eq_true rfl) (Nat.le_of_ble_eq_true rfl) (Nat.le_of_ble_eq_true rfl) (s_X12_blames (k := 2) G hs b81 t81 e108 (fun g109 o109 a109 b109 => ?_))
    have hpb := ps_ba a109 b109
    have hba := ba_bd (B := B) (n := n) (s := (smP B n (if lm = 5 then 8 else 6) 5 p).2.1)
    have nb : (g109 A 12).toInt ≠ 0 := by rw [hpb.1]; omega
    refine r_aloadR0 dX12_readUnit_112 ?_
    refine m_getV (x := (g109 A 12)) zf_RX12_112 rfl dX12_readUnit_113 (shM_k hs) (rfl) ?_
    refine t_ifne (t := 123) dX12_readUnit_116 (by decide) (fun h116 => ?_) (fun h116 => False.elim (by omega))
    refine r_aloadR0 dX12_readUnit_123 ?_
    refine q_callV0 zm_RX12_181 dX12_readUnit_124 (shM_k hs) (by decide) rfl (Nat.le_of_ble_eq_true rfl) (Nat.le_of_ble_eq_true rfl) (Nat.le_of_ble_eq_true rfl) (Nat.le_of_ble_eq_true rfl) (Nat.le_of_ble_eq_true rfl) (s_X12_readSum_x G hs nb ?_)
    refine r_aloadR0 dX12_readUnit_127 ?_
    refine r_iload1 dX12_readUnit_128 ?_
    refine n_bipush dX12_readUnit_129 (by decide) (fun r129 e129 => ?_)
    refine t_icne (t := 139) dX12_readUnit_131 (by decide) (fun h131 => ?_) (fun h131 => False.elim (by omega))
    refine r_iload1 dX12_readUnit_139 ?_
    refine n_bipush dX12_readUnit_140 (by decide) (fun r140 e140 => ?_)
    refine t_icne (t := 150) dX12_readUnit_142 (by decide) (fun h142 => ?_) (fun h142 => False.elim (by omega))
    refine n_bipush dX12_readUnit_150 (by decide) (fun r150 e150 => ?_)
    refine q_callV1 zm_RX12_162 dX12_readUnit_152 (shM_k hs) (by decide) rfl (Nat.le_of_ble_eq_true rfl) (Nat.le_of_ble_eq_true rfl) (Nat.le_of_ble_eq_true rfl) (Nat.le_of_ble_eq_true rfl) (Nat.le_of_ble_eq_true rfl) (s_X12_laysStep_x G hs nb ?_)
    refine r_vret dX12_readUnit_155 rfl (Nat.le_of_ble_eq_true rfl) (Nat.le_of_ble_eq_true rfl) ?_
    exact hQ _ (frM_tr o81 (frM_su o109 (by decide) (by decide))) (by rw [o109.2.2 16 (by decide)]; exact d81) hpb (fun h_z => absurd h_z hba.1)
  · have hv : cmP B n (smP B n (if lm = 5 then 8 else 6) 5) p = (smP B n (if lm = 5 then 8 else 6) 5 p) := if_pos hr
    rw [hv] at hQ
    refine r_aloadR0 dX12_readUnit_0 ?_
    refine m_getV (x := (f A 12)) zf_RX12_112 rfl dX12_readUnit_1 (shM_k hs) (rfl) ?_
    refine t_ifeq (t := 8) dX12_readUnit_4 (by decide) (fun h4 => ?_) (fun h4 => False.elim (by omega))
    refine r_aloadR0 dX12_readUnit_8 ?_
    refine k_ldc (hld _ (List.mem_of_getElem? (i := 2) rfl)) dX12_readUnit_9 ?_
    refine q_callV1 zm_RX12_127 dX12_readUnit_11 (shM_k hs) (by decide) rfl (Nat.le_of_ble_eq_true rfl) (Nat.le_of_ble_eq_true rfl) (Nat.le_of_ble_eq_true rfl) (Nat.le_of_ble_eq_true rfl) (Nat.le_of_ble_eq_true rfl) (s_X12_isWord (i := 8) G hs kw (by decide) htp hps (fun r11 e11_z => ?_))
    have e11b : r11.toInt = 0 := e11_z.elim (fun h_z => absurd h_z.2 hw) (fun h_z => h_z.1)
    refine t_ifeq (t := 44) dX12_readUnit_14 (by decide) (fun h14 => ?_) (fun h14 => False.elim (by omega))
    refine r_aloadR0 dX12_readUnit_44 ?_
    refine n_bipush dX12_readUnit_45 (by decide) (fun r45 e45 => ?_)
    refine q_callV1 zm_RX12_175 dX12_readUnit_47 (shM_k hs) (by decide) rfl (Nat.le_of_ble_eq_true rfl) (Nat.le_of_ble_eq_true rfl) (Nat.le_of_ble_eq_true rfl) (Nat.le_of_ble_eq_true rfl) (Nat.le_of_ble_eq_true rfl) (s_X12_isSign G hs (fun r47 e47 => ?_))
    refine t_ifeq (t := 80) dX12_readUnit_50 (by decide) (fun h50 => ?_) (fun h50 => False.elim (by omega))
    refine r_aloadR0 dX12_readUnit_80 ?_
    refine q_callV0 zm_RX12_181 dX12_readUnit_81 (shM_k hs) (by decide) rfl (Nat.le_of_ble_eq_true rfl) (Nat.le_of_ble_eq_true rfl) (Nat.le_of_ble_eq_true rfl) (Nat.le_of_ble_eq_true rfl) (Nat.le_of_ble_eq_true rfl) (s_X12_readSum_5 (lm := lm) (la := la) (u := u) G hs kw hld htp hps hd16 hlm hla hu h5 h29 h99 hup (fun g81 o81 d81 p81 k81 => ?_))
    have p81b : psM B n g81 A (smP B n (if lm = 5 then 8 else 6) 5 p).1 (smP B n (if lm = 5 then 8 else 6) 5 p).2.1 := p81
    have k81b : (smP B n (if lm = 5 then 8 else 6) 5 p).1 = 0 → okM f g81 A lm la u (smP B n (if lm = 5 then 8 else 6) 5 p).2.2 := k81
    have nb : (g81 A 12).toInt ≠ 0 := by rw [p81b.1]; omega
    refine r_aloadR0 dX12_readUnit_84 ?_
    refine m_getV (x := (g81 A 10)) zf_RX12_92 rfl dX12_readUnit_85 (shM_k hs) (rfl) ?_
    refine r_istore1 dX12_readUnit_88 rfl ?_
    refine r_iload1 dX12_readUnit_89 ?_
    refine n_bipush dX12_readUnit_90 (by decide) (fun r90 e90_z => ?_)
    refine t_iceq (t := 112) dX12_readUnit_92 (by decide) (fun h92 => ?_) (fun h92 => ?_)
    · refine r_aloadR0 dX12_readUnit_112 ?_
      refine m_getV (x := (g81 A 12)) zf_RX12_112 rfl dX12_readUnit_113 (shM_k hs) (rfl) ?_
      refine t_ifne (t := 123) dX12_readUnit_116 (by decide) (fun h116 => ?_) (fun h116 => False.elim (by omega))
      refine r_aloadR0 dX12_readUnit_123 ?_
      refine q_callV0 zm_RX12_181 dX12_readUnit_124 (shM_k hs) (by decide) rfl (Nat.le_of_ble_eq_true rfl) (Nat.le_of_ble_eq_true rfl) (Nat.le_of_ble_eq_true rfl) (Nat.le_of_ble_eq_true rfl) (Nat.le_of_ble_eq_true rfl) (s_X12_readSum_x G hs nb ?_)
      refine r_aloadR0 dX12_readUnit_127 ?_
      refine r_iload1 dX12_readUnit_128 ?_
      refine n_bipush dX12_readUnit_129 (by decide) (fun r129 e129 => ?_)
      refine t_icne (t := 139) dX12_readUnit_131 (by decide) (fun h131 => ?_) (fun h131 => ?_)
      · refine r_iload1 dX12_readUnit_139 ?_
        refine n_bipush dX12_readUnit_140 (by decide) (fun r140 e140 => ?_)
        refine t_icne (t := 150) dX12_readUnit_142 (by decide) (fun h142 => ?_) (fun h142 => ?_)
        · refine n_bipush dX12_readUnit_150 (by decide) (fun r150 e150 => ?_)
          refine q_callV1 zm_RX12_162 dX12_readUnit_152 (shM_k hs) (by decide) rfl (Nat.le_of_ble_eq_true rfl) (Nat.le_of_ble_eq_true rfl) (Nat.le_of_ble_eq_true rfl) (Nat.le_of_ble_eq_true rfl) (Nat.le_of_ble_eq_true rfl) (s_X12_laysStep_x G hs nb ?_)
          refine r_vret dX12_readUnit_155 rfl (Nat.le_of_ble_eq_true rfl) (Nat.le_of_ble_eq_true rfl) ?_
          exact hQ _ o81 d81 p81b (fun h_z => absurd h_z hr)
        · refine n_bipush dX12_readUnit_145 (by decide) (fun r145 e145 => ?_)
          refine r_goto (t := 152) dX12_readUnit_147 (by decide) ?_
          refine q_callV1 zm_RX12_162 dX12_readUnit_152 (shM_k hs) (by decide) rfl (Nat.le_of_ble_eq_true rfl) (Nat.le_of_ble_eq_true rfl) (Nat.le_of_ble_eq_true rfl) (Nat.le_of_ble_eq_true rfl) (Nat.le_of_ble_eq_true rfl) (s_X12_laysStep_x G hs nb ?_)
          refine r_vret dX12_readUnit_155 rfl (Nat.le_of_ble_eq_true rfl) (Nat.le_of_ble_eq_true rfl) ?_
          exact hQ _ o81 d81 p81b (fun h_z => absurd h_z hr)
      · refine n_bipush dX12_readUnit_134 (by decide) (fun r134 e134 => ?_)
        refine r_goto (t := 152) dX12_readUnit_136 (by decide) ?_
        refine q_callV1 zm_RX12_162 dX12_readUnit_152 (shM_k hs) (by decide) rfl (Nat.le_of_ble_eq_true rfl) (Nat.le_of_ble_eq_true rfl) (Nat.le_of_ble_eq_true rfl) (Nat.le_of_ble_eq_true rfl) (Nat.le_of_ble_eq_true rfl) (s_X12_laysStep_x G hs nb ?_)
        refine r_vret dX12_readUnit_155 rfl (Nat.le_of_ble_eq_true rfl) (Nat.le_of_ble_eq_true rfl) ?_
        exact hQ _ o81 d81 p81b (fun h_z => absurd h_z hr)
    · refine r_iload1 dX12_readUnit_95 ?_
      refine n_bipush dX12_readUnit_96 (by decide) (fun r96 e96 => ?_)
      refine t_iceq (t := 112) dX12_readUnit_98 (by decide) (fun h98 => ?_) (fun h98 => ?_)
      · refine r_aloadR0 dX12_readUnit_112 ?_
        refine m_getV (x := (g81 A 12)) zf_RX12_112 rfl dX12_readUnit_113 (shM_k hs) (rfl) ?_
        refine t_ifne (t := 123) dX12_readUnit_116 (by decide) (fun h116 => ?_) (fun h116 => False.elim (by omega))
        refine r_aloadR0 dX12_readUnit_123 ?_
        refine q_callV0 zm_RX12_181 dX12_readUnit_124 (shM_k hs) (by decide) rfl (Nat.le_of_ble_eq_true rfl) (Nat.le_of_ble_eq_true rfl) (Nat.le_of_ble_eq_true rfl) (Nat.le_of_ble_eq_true rfl) (Nat.le_of_ble_eq_true rfl) (s_X12_readSum_x G hs nb ?_)
        refine r_aloadR0 dX12_readUnit_127 ?_
        refine r_iload1 dX12_readUnit_128 ?_
        refine n_bipush dX12_readUnit_129 (by decide) (fun r129 e129 => ?_)
        refine t_icne (t := 139) dX12_readUnit_131 (by decide) (fun h131 => ?_) (fun h131 => ?_)
        · refine r_iload1 dX12_readUnit_139 ?_
          refine n_bipush dX12_readUnit_140 (by decide) (fun r140 e140 => ?_)
          refine t_icne (t := 150) dX12_readUnit_142 (by decide) (fun h142 => ?_) (fun h142 => ?_)
          · refine n_bipush dX12_readUnit_150 (by decide) (fun r150 e150 => ?_)
            refine q_callV1 zm_RX12_162 dX12_readUnit_152 (shM_k hs) (by decide) rfl (Nat.le_of_ble_eq_true rfl) (Nat.le_of_ble_eq_true rfl) (Nat.le_of_ble_eq_true rfl) (Nat.le_of_ble_eq_true rfl) (Nat.le_of_ble_eq_true rfl) (s_X12_laysStep_x G hs nb ?_)
            refine r_vret dX12_readUnit_155 rfl (Nat.le_of_ble_eq_true rfl) (Nat.le_of_ble_eq_true rfl) ?_
            exact hQ _ o81 d81 p81b (fun h_z => absurd h_z hr)
          · refine n_bipush dX12_readUnit_145 (by decide) (fun r145 e145 => ?_)
            refine r_goto (t := 152) dX12_readUnit_147 (by decide) ?_
            refine q_callV1 zm_RX12_162 dX12_readUnit_152 (shM_k hs) (by decide) rfl (Nat.le_of_ble_eq_true rfl) (Nat.le_of_ble_eq_true rfl) (Nat.le_of_ble_eq_true rfl) (Nat.le_of_ble_eq_true rfl) (Nat.le_of_ble_eq_true rfl) (s_X12_laysStep_x G hs nb ?_)
            refine r_vret dX12_readUnit_155 rfl (Nat.le_of_ble_eq_true rfl) (Nat.le_of_ble_eq_true rfl) ?_
            exact hQ _ o81 d81 p81b (fun h_z => absurd h_z hr)
        · refine n_bipush dX12_readUnit_134 (by decide) (fun r134 e134 => ?_)
          refine r_goto (t := 152) dX12_readUnit_136 (by decide) ?_
          refine q_callV1 zm_RX12_162 dX12_readUnit_152 (shM_k hs) (by decide) rfl (Nat.le_of_ble_eq_true rfl) (Nat.le_of_ble_eq_true rfl) (Nat.le_of_ble_eq_true rfl) (Nat.le_of_ble_eq_true rfl) (Nat.le_of_ble_eq_true rfl) (s_X12_laysStep_x G hs nb ?_)
          refine r_vret dX12_readUnit_155 rfl (Nat.le_of_ble_eq_true rfl) (Nat.le_of_ble_eq_true rfl) ?_
          exact hQ _ o81 d81 p81b (fun h_z => absurd h_z hr)
      · refine r_iload1 dX12_readUnit_101 ?_
        refine n_bipush dX12_readUnit_102 (by decide) (fun r102 e102_z => ?_)
        refine t_iceq (t := 112) dX12_readUnit_104 (by decide) (fun h104 => ?_) (fun h104 => ?_)
        · refine r_aloadR0 dX12_readUnit_112 ?_
          refine m_getV (x := (g81 A 12)) zf_RX12_112 rfl dX12_readUnit_113 (shM_k hs) (rfl) ?_
          refine t_ifne (t := 123) dX12_readUnit_116 (by decide) (fun h116 => ?_) (fun h116 => False.elim (by omega))
          refine r_aloadR0 dX12_readUnit_123 ?_
          refine q_callV0 zm_RX12_181 dX12_readUnit_124 (shM_k hs) (by decide) rfl (Nat.le_of_ble_eq_true rfl) (Nat.le_of_ble_eq_true rfl) (Nat.le_of_ble_eq_true rfl) (Nat.le_of_ble_eq_true rfl) (Nat.le_of_ble_eq_true rfl) (s_X12_readSum_x G hs nb ?_)
          refine r_aloadR0 dX12_readUnit_127 ?_
          refine r_iload1 dX12_readUnit_128 ?_
          refine n_bipush dX12_readUnit_129 (by decide) (fun r129 e129 => ?_)
          refine t_icne (t := 139) dX12_readUnit_131 (by decide) (fun h131 => ?_) (fun h131 => ?_)
          · refine r_iload1 dX12_readUnit_139 ?_
            refine n_bipush dX12_readUnit_140 (by decide) (fun r140 e140 => ?_)
            refine t_icne (t := 150) dX12_readUnit_142 (by decide) (fun h142 => ?_) (fun h142 => ?_)
            · refine n_bipush dX12_readUnit_150 (by decide) (fun r150 e150 => ?_)
              refine q_callV1 zm_RX12_162 dX12_readUnit_152 (shM_k hs) (by decide) rfl (Nat.le_of_ble_eq_true rfl) (Nat.le_of_ble_eq_true rfl) (Nat.le_of_ble_eq_true rfl) (Nat.le_of_ble_eq_true rfl) (Nat.le_of_ble_eq_true rfl) (s_X12_laysStep_x G hs nb ?_)
              refine r_vret dX12_readUnit_155 rfl (Nat.le_of_ble_eq_true rfl) (Nat.le_of_ble_eq_true rfl) ?_
              exact hQ _ o81 d81 p81b (fun h_z => absurd h_z hr)
            · refine n_bipush dX12_readUnit_145 (by decide) (fun r145 e145 => ?_)
              refine r_goto (t := 152) dX12_readUnit_147 (by decide) ?_
              refine q_callV1 zm_RX12_162 dX12_readUnit_152 (shM_k hs) (by decide) rfl (Nat.le_of_ble_eq_true rfl) (Nat.le_of_ble_eq_true rfl) (Nat.le_of_ble_eq_true rfl) (Nat.le_of_ble_eq_true rfl) (Nat.le_of_ble_eq_true rfl) (s_X12_laysStep_x G hs nb ?_)
              refine r_vret dX12_readUnit_155 rfl (Nat.le_of_ble_eq_true rfl) (Nat.le_of_ble_eq_true rfl) ?_
              exact hQ _ o81 d81 p81b (fun h_z => absurd h_z hr)
          · refine n_bipush dX12_readUnit_134 (by decide) (fun r134 e134 => ?_)
            refine r_goto (t := 152) dX12_readUnit_136 (by decide) ?_
            refine q_callV1 zm_RX12_162 dX12_readUnit_152 (shM_k hs) (by decide) rfl (Nat.le_of_ble_eq_true rfl) (Nat.le_of_ble_eq_true rfl) (Nat.le_of_ble_eq_true rfl) (Nat.le_of_ble_eq_true rfl) (Nat.le_of_ble_eq_true rfl) (s_X12_laysStep_x G hs nb ?_)
            refine r_vret dX12_readUnit_155 rfl (Nat.le_of_ble_eq_true rfl) (Nat.le_of_ble_eq_true rfl) ?_
            exact hQ _ o81 d81 p81b (fun h_z => absurd h_z hr)
        · refine r_aloadR0 dX12_readUnit_107 ?_
          refine n_iconst dX12_readUnit_108 (by decide) (fun r108 e108 => ?_)
          refine q_callV1 zm_RX12_134 dX12_readUnit_109 (shM_k hs) (by decide) rfl (Nat.le_of_ble_eq_true rfl) (Nat.le_of_ble_eq_true rfl) (Nat.le_of_ble_eq_true rfl) (Nat.le_of_ble_eq_true rfl) (Nat.le_of_ble_eq_true rfl) (s_X12_blames_x G hs nb ?_)
          refine r_aloadR0 dX12_readUnit_112 ?_
          refine m_getV (x := (g81 A 12)) zf_RX12_112 rfl dX12_readUnit_113 (shM_k hs) (rfl) ?_
          refine t_ifne (t := 123) dX12_readUnit_116 (by decide) (fun h116 => ?_) (fun h116 => False.elim (by omega))
          refine r_aloadR0 dX12_readUnit_123 ?_
          refine q_callV0 zm_RX12_181 dX12_readUnit_124 (shM_k hs) (by decide) rfl (Nat.le_of_ble_eq_true rfl) (Nat.le_of_ble_eq_true rfl) (Nat.le_of_ble_eq_true rfl) (Nat.le_of_ble_eq_true rfl) (Nat.le_of_ble_eq_true rfl) (s_X12_readSum_x G hs nb ?_)
          refine r_aloadR0 dX12_readUnit_127 ?_
          refine r_iload1 dX12_readUnit_128 ?_
          refine n_bipush dX12_readUnit_129 (by decide) (fun r129 e129 => ?_)
          refine t_icne (t := 139) dX12_readUnit_131 (by decide) (fun h131 => ?_) (fun h131 => ?_)
          · refine r_iload1 dX12_readUnit_139 ?_
            refine n_bipush dX12_readUnit_140 (by decide) (fun r140 e140 => ?_)
            refine t_icne (t := 150) dX12_readUnit_142 (by decide) (fun h142 => ?_) (fun h142 => ?_)
            · refine n_bipush dX12_readUnit_150 (by decide) (fun r150 e150 => ?_)
              refine q_callV1 zm_RX12_162 dX12_readUnit_152 (shM_k hs) (by decide) rfl (Nat.le_of_ble_eq_true rfl) (Nat.le_of_ble_eq_true rfl) (Nat.le_of_ble_eq_true rfl) (Nat.le_of_ble_eq_true rfl) (Nat.le_of_ble_eq_true rfl) (s_X12_laysStep_x G hs nb ?_)
              refine r_vret dX12_readUnit_155 rfl (Nat.le_of_ble_eq_true rfl) (Nat.le_of_ble_eq_true rfl) ?_
              exact hQ _ o81 d81 p81b (fun h_z => absurd h_z hr)
            · refine n_bipush dX12_readUnit_145 (by decide) (fun r145 e145 => ?_)
              refine r_goto (t := 152) dX12_readUnit_147 (by decide) ?_
              refine q_callV1 zm_RX12_162 dX12_readUnit_152 (shM_k hs) (by decide) rfl (Nat.le_of_ble_eq_true rfl) (Nat.le_of_ble_eq_true rfl) (Nat.le_of_ble_eq_true rfl) (Nat.le_of_ble_eq_true rfl) (Nat.le_of_ble_eq_true rfl) (s_X12_laysStep_x G hs nb ?_)
              refine r_vret dX12_readUnit_155 rfl (Nat.le_of_ble_eq_true rfl) (Nat.le_of_ble_eq_true rfl) ?_
              exact hQ _ o81 d81 p81b (fun h_z => absurd h_z hr)
          · refine n_bipush dX12_readUnit_134 (by decide) (fun r134 e134 => ?_)
            refine r_goto (t := 152) dX12_readUnit_136 (by decide) ?_
            refine q_callV1 zm_RX12_162 dX12_readUnit_152 (shM_k hs) (by decide) rfl (Nat.le_of_ble_eq_true rfl) (Nat.le_of_ble_eq_true rfl) (Nat.le_of_ble_eq_true rfl) (Nat.le_of_ble_eq_true rfl) (Nat.le_of_ble_eq_true rfl) (s_X12_laysStep_x G hs nb ?_)
            refine r_vret dX12_readUnit_155 rfl (Nat.le_of_ble_eq_true rfl) (Nat.le_of_ble_eq_true rfl) ?_
            exact hQ _ o81 d81 p81b (fun h_z => absurd h_z hr)
set_option maxHeartbeats 4000000 in
set_option maxRecDepth 100000 in
theorem s_X12_readBoth_5 {g : zGT} {w : zW} {f : Nat → Nat → Int32} {j : Nat → Nat → Int64} {A : Nat} {B : Nat → Nat} {n : Nat} {wa wv : Nat → Nat} {kq : Nat} {p lm la u : Nat} {Q : Option Value → zW → Prop} {QX : String → zW → Prop} (G : zGok g) (hs : shM w A) (kw : kWd g wa wv kq) (hld : kLd g wa) (htp : tpM B n f A) (hps : psM B n f A 0 p) (hd16 : (f A 16).toInt = 1) (hlm : (f A 17).toInt = (lm : Nat)) (hla : (f A 18).toInt = (la : Nat)) (hu : (f (A + 2) lm).toInt = (u : Nat)) (h5 : lm ≤ 5) (h29 : 209 ≤ la) (h99 : la ≤ 2009) (hup : u ≤ p) (hQ : ∀ f2_z, frM A [2] [8, 9, 10, 11, 12, 13, 16] f f2_z → (f2_z A 16).toInt = 1 → psM B n f2_z A (chP B n (unP B n (if lm = 5 then 8 else 6) 5) (opA B n) p).1 (chP B n (unP B n (if lm = 5 then 8 else 6) 5) (opA B n) p).2.1 → ((chP B n (unP B n (if lm = 5 then 8 else 6) 5) (opA B n) p).1 = 0 → okM f f2_z A lm la u (chP B n (unP B n (if lm = 5 then 8 else 6) 5) (opA B n) p).2.2) → Q none (zM w f2_z j)) : zC g 61 yX12_readBoth cX12_readBoth 1 none [.ref A] (zM w f j) (0, 0) Q QX := by
  refine zC_of G (by decide +kernel) (Nat.le_of_ble_eq_true rfl) ?_
  have ht := hps.2.1 rfl
  have h12 := hps.1
  have h900 := htp.2.1
  have hgd : ∀ s, s ≤ n → gdP n true (if lm = 5 then 8 else 6) (4 + 2 * 5) s ((unP B n (if lm = 5 then 8 else 6) 5) s) := gd_un (by split <;> decide) 5
  have lp : ∀ (mz : Nat) (f2_z : Nat → Nat → Int32) (k : Nat) (r : zPR), frM A [2] [8, 9, 10, 11, 12, 13, 16] f f2_z → (f2_z A 16).toInt = 1 → psM B n f2_z A r.1 r.2.1 → (r.1 = 0 → okM f f2_z A lm la u r.2.2) → (r.1 = 0 → p ≤ r.2.1 ∧ r.2.1 ≤ n ∧ r.2.2.length + p ≤ r.2.1) → (r.1 = 0 → n ≤ k + r.2.1) → lpP B n (unP B n (if lm = 5 then 8 else 6) 5) (opA B n) k r = chP B n (unP B n (if lm = 5 then 8 else 6) 5) (opA B n) p → k < mz → zR (zV g 61 yX12_readBoth 1 none (0, 0) Q QX) cX12_readBoth yX12_readBoth.cls 4 [some (.ref A)] [] (zM w f2_z j) (0, 0) := by
    intro mz
    induction mz with
    | zero =>
      intro f2_z k r ofr hd2 hp2 hk2 hg2 hnk hR hmz
      exact absurd hmz (Nat.not_lt_zero _)
    | succ mz ih =>
      intro f2_z k r ofr hd2 hp2 hk2 hg2 hnk hR hmz
      by_cases hr : r.1 = 0
      · have hk3 := hk2 hr
        obtain ⟨q1_z, q2_z, q3_z⟩ := hg2 hr
        have hnk3 := hnk hr
        have hps2 := hp2
        rw [hr] at hps2
        have hb2 := hps2.1
        have htp2 := tpM_of htp (ofr.2.1 5 (by decide) (by decide) (by decide)) (ofr.2.2 7 (by decide))
        by_cases hc_z : isWd B n r.2.1 7 = true
        · have hop : (opA B n) r.2.1 = 2001 := if_pos hc_z
          have hop0 : (opA B n) r.2.1 ≠ 0 := by rw [hop]; decide
          have hln := tk_lt (B := B) (n := n) (s := r.2.1) (by rw [(isWd_tk hc_z).1]; decide)
          obtain ⟨k2_z, rfl⟩ : ∃ k2_z, k = k2_z + 1 := ⟨k - 1, by omega⟩
          have hnx := nxP_gt (B := B) hln
          have gq := hgd _ hnx.2
          by_cases hq : ((unP B n (if lm = 5 then 8 else 6) 5) (nxP B n r.2.1)).1 = 0
          · obtain ⟨y1, y2, y3, y4⟩ := gq.1 hq
            refine r_aloadR0 dX12_readBoth_4 ?_
            refine k_ldc (hld _ (List.mem_of_getElem? (i := 1) rfl)) dX12_readBoth_5 ?_
            refine q_callV1 zm_RX12_142 dX12_readBoth_7 (shM_k hs) (by decide) rfl (Nat.le_of_ble_eq_true rfl) (Nat.le_of_ble_eq_true rfl) (Nat.le_of_ble_eq_true rfl) (Nat.le_of_ble_eq_true rfl) (Nat.le_of_ble_eq_true rfl) (s_X12_took_t (i := 7) G hs kw (by decide) htp2 hps2 hc_z (fun r7 g7 e7_z o7 p7 => ?_))
            have htp7 := tpM_of htp2 (o7.2.1 5 (by decide) (by decide) (by decide)) (o7.2.2 7 (by decide))
            have w7 : g7 (A + 2) = f2_z (A + 2) := o7.2.1 2 (by decide) (by decide) (by decide)
            refine t_ifeq (t := 26) dX12_readBoth_10 (by decide) (fun h10 => False.elim (by omega)) (fun h10 => ?_)
            refine r_aloadR0 dX12_readBoth_13 ?_
            refine q_callV0 zm_RX12_165 dX12_readBoth_14 (shM_k hs) (by decide) rfl (Nat.le_of_ble_eq_true rfl) (Nat.le_of_ble_eq_true rfl) (Nat.le_of_ble_eq_true rfl) (Nat.le_of_ble_eq_true rfl) (Nat.le_of_ble_eq_true rfl) (s_X12_readUnit_5 (lm := lm) (la := la) (u := u + r.2.2.length) G hs kw hld htp7 p7 (by rw [o7.2.2 16 (by decide)]; exact hd2) (by rw [o7.2.2 17 (by decide), ofr.2.2 17 (by decide)]; exact hlm) (by rw [o7.2.2 18 (by decide), ofr.2.2 18 (by decide)]; exact hla) (by rw [w7]; exact hk3.1) h5 h29 h99 (by omega) (fun g14 o14 d14 p14 k14 => ?_))
            have of14 : frM A [2] [8, 9, 10, 11, 12, 13, 16] f g14 := frM_tr ofr (frM_tr (frM_su o7 (by decide) (by decide)) o14)
            have p14b : psM B n g14 A ((unP B n (if lm = 5 then 8 else 6) 5) (nxP B n r.2.1)).1 ((unP B n (if lm = 5 then 8 else 6) 5) (nxP B n r.2.1)).2.1 := p14
            have k14b : ((unP B n (if lm = 5 then 8 else 6) 5) (nxP B n r.2.1)).1 = 0 → okM g7 g14 A lm la (u + r.2.2.length) ((unP B n (if lm = 5 then 8 else 6) 5) (nxP B n r.2.1)).2.2 := k14
            refine r_aloadR0 dX12_readBoth_17 ?_
            refine n_bipush dX12_readBoth_18 (by decide) (fun r18 e18_z => ?_)
            refine q_callV1 zm_RX12_162 dX12_readBoth_20 (shM_k hs) (by decide) rfl (Nat.le_of_ble_eq_true rfl) (Nat.le_of_ble_eq_true rfl) (Nat.le_of_ble_eq_true rfl) (Nat.le_of_ble_eq_true rfl) (Nat.le_of_ble_eq_true rfl) (s_X12_laysStep (lm := lm) (la := la) (u := u + r.2.2.length + ((unP B n (if lm = 5 then 8 else 6) 5) (nxP B n r.2.1)).2.2.length) G hs (by have := p14b.1; rw [hq] at this; exact this) (by rw [of14.2.2 17 (by decide)]; exact hlm) (by rw [of14.2.2 18 (by decide)]; exact hla) (k14b hq).1 h5 h29 (by omega) (fun g20 o20 a20 b20 c20 => ?_))
            refine r_goto (t := 4) dX12_readBoth_23 (by decide) ?_
            have hp14 := p14b
            rw [hq] at hp14
            refine ih _ k2_z (0, ((unP B n (if lm = 5 then 8 else 6) 5) (nxP B n r.2.1)).2.1, r.2.2 ++ ((unP B n (if lm = 5 then 8 else 6) 5) (nxP B n r.2.1)).2.2 ++ [(opA B n) r.2.1]) (frM_tr of14 (frM_su o20 (by decide) (by decide))) (by rw [o20.2.2 16 (by decide)]; exact d14) (psM_of hp14 (o20.2.2 8 (by decide)) (o20.2.2 9 (by decide)) (o20.2.2 10 (by decide)) (o20.2.2 11 (by decide)) (o20.2.2 12 (by decide)) (o20.2.2 13 (by decide))) (fun _ => okM_ap (by omega) (by rw [List.length_append]; omega) (okM_ap (by omega) (by omega) hk3 (okM_cg (k14b hq) w7 rfl)) ?_) (fun _ => ?_) (fun _ => ?_) ?_ (by omega)
            · rw [List.length_append, ← Nat.add_assoc, hop]
              exact okM_one (by omega) a20 b20 c20 (by rw [e18_z]; rfl)
            · show p ≤ ((unP B n (if lm = 5 then 8 else 6) 5) (nxP B n r.2.1)).2.1 ∧ ((unP B n (if lm = 5 then 8 else 6) 5) (nxP B n r.2.1)).2.1 ≤ n ∧ (r.2.2 ++ ((unP B n (if lm = 5 then 8 else 6) 5) (nxP B n r.2.1)).2.2 ++ [(opA B n) r.2.1]).length + p ≤ ((unP B n (if lm = 5 then 8 else 6) 5) (nxP B n r.2.1)).2.1
              rw [List.length_append, List.length_append, List.length_singleton]
              omega
            · show n ≤ k2_z + ((unP B n (if lm = 5 then 8 else 6) 5) (nxP B n r.2.1)).2.1
              omega
            · exact (lpP_on hr hop0 hq).symm.trans hR
          · have nb : ∀ g : Nat → Nat → Int32, psM B n g A ((unP B n (if lm = 5 then 8 else 6) 5) (nxP B n r.2.1)).1 ((unP B n (if lm = 5 then 8 else 6) 5) (nxP B n r.2.1)).2.1 → (g A 12).toInt ≠ 0 := fun g h_z => by rw [h_z.1]; omega
            refine r_aloadR0 dX12_readBoth_4 ?_
            refine k_ldc (hld _ (List.mem_of_getElem? (i := 1) rfl)) dX12_readBoth_5 ?_
            refine q_callV1 zm_RX12_142 dX12_readBoth_7 (shM_k hs) (by decide) rfl (Nat.le_of_ble_eq_true rfl) (Nat.le_of_ble_eq_true rfl) (Nat.le_of_ble_eq_true rfl) (Nat.le_of_ble_eq_true rfl) (Nat.le_of_ble_eq_true rfl) (s_X12_took_t (i := 7) G hs kw (by decide) htp2 hps2 hc_z (fun r7 g7 e7_z o7 p7 => ?_))
            have htp7 := tpM_of htp2 (o7.2.1 5 (by decide) (by decide) (by decide)) (o7.2.2 7 (by decide))
            have w7 : g7 (A + 2) = f2_z (A + 2) := o7.2.1 2 (by decide) (by decide) (by decide)
            refine t_ifeq (t := 26) dX12_readBoth_10 (by decide) (fun h10 => False.elim (by omega)) (fun h10 => ?_)
            refine r_aloadR0 dX12_readBoth_13 ?_
            refine q_callV0 zm_RX12_165 dX12_readBoth_14 (shM_k hs) (by decide) rfl (Nat.le_of_ble_eq_true rfl) (Nat.le_of_ble_eq_true rfl) (Nat.le_of_ble_eq_true rfl) (Nat.le_of_ble_eq_true rfl) (Nat.le_of_ble_eq_true rfl) (s_X12_readUnit_5 (lm := lm) (la := la) (u := u + r.2.2.length) G hs kw hld htp7 p7 (by rw [o7.2.2 16 (by decide)]; exact hd2) (by rw [o7.2.2 17 (by decide), ofr.2.2 17 (by decide)]; exact hlm) (by rw [o7.2.2 18 (by decide), ofr.2.2 18 (by decide)]; exact hla) (by rw [w7]; exact hk3.1) h5 h29 h99 (by omega) (fun g14 o14 d14 p14 k14 => ?_))
            have of14 : frM A [2] [8, 9, 10, 11, 12, 13, 16] f g14 := frM_tr ofr (frM_tr (frM_su o7 (by decide) (by decide)) o14)
            have p14b : psM B n g14 A ((unP B n (if lm = 5 then 8 else 6) 5) (nxP B n r.2.1)).1 ((unP B n (if lm = 5 then 8 else 6) 5) (nxP B n r.2.1)).2.1 := p14
            have k14b : ((unP B n (if lm = 5 then 8 else 6) 5) (nxP B n r.2.1)).1 = 0 → okM g7 g14 A lm la (u + r.2.2.length) ((unP B n (if lm = 5 then 8 else 6) 5) (nxP B n r.2.1)).2.2 := k14
            refine r_aloadR0 dX12_readBoth_17 ?_
            refine n_bipush dX12_readBoth_18 (by decide) (fun r18 e18_z => ?_)
            refine q_callV1 zm_RX12_162 dX12_readBoth_20 (shM_k hs) (by decide) rfl (Nat.le_of_ble_eq_true rfl) (Nat.le_of_ble_eq_true rfl) (Nat.le_of_ble_eq_true rfl) (Nat.le_of_ble_eq_true rfl) (Nat.le_of_ble_eq_true rfl) (s_X12_laysStep_x G hs (nb _ p14b) ?_)
            refine r_goto (t := 4) dX12_readBoth_23 (by decide) ?_
            exact ih _ k2_z ((unP B n (if lm = 5 then 8 else 6) 5) (nxP B n r.2.1)) of14 d14 p14b (fun h_z => absurd h_z hq) (fun h_z => absurd h_z hq) (fun h_z => absurd h_z hq) ((lpP_bad hq).trans ((lpP_sub hr hop0 hq).symm.trans hR)) (by omega)
        · have hop : (opA B n) r.2.1 = 0 := if_neg hc_z
          have hv := (lpP_end (B := B) (n := n) (k := k) (sub := (unP B n (if lm = 5 then 8 else 6) 5)) hop).symm.trans hR
          refine r_aloadR0 dX12_readBoth_4 ?_
          refine k_ldc (hld _ (List.mem_of_getElem? (i := 1) rfl)) dX12_readBoth_5 ?_
          refine q_callV1 zm_RX12_142 dX12_readBoth_7 (shM_k hs) (by decide) rfl (Nat.le_of_ble_eq_true rfl) (Nat.le_of_ble_eq_true rfl) (Nat.le_of_ble_eq_true rfl) (Nat.le_of_ble_eq_true rfl) (Nat.le_of_ble_eq_true rfl) (s_X12_took_f (i := 7) G hs kw (by decide) htp2 hps2 hc_z (fun r7 e7_z => ?_))
          refine t_ifeq (t := 26) dX12_readBoth_10 (by decide) (fun h10 => ?_) (fun h10 => False.elim (by omega))
          refine r_vret dX12_readBoth_26 rfl (Nat.le_of_ble_eq_true rfl) (Nat.le_of_ble_eq_true rfl) ?_
          rw [← hv] at hQ
          exact hQ _ ofr hd2 hp2 hk2
      · have hb2 : (f2_z A 12).toInt ≠ 0 := by rw [hp2.1]; omega
        have hv := (lpP_bad (B := B) (n := n) (k := k) (sub := (unP B n (if lm = 5 then 8 else 6) 5)) (op := (opA B n)) hr).symm.trans hR
        refine r_aloadR0 dX12_readBoth_4 ?_
        refine k_ldc (hld _ (List.mem_of_getElem? (i := 1) rfl)) dX12_readBoth_5 ?_
        refine q_callV1 zm_RX12_142 dX12_readBoth_7 (shM_k hs) (by decide) rfl (Nat.le_of_ble_eq_true rfl) (Nat.le_of_ble_eq_true rfl) (Nat.le_of_ble_eq_true rfl) (Nat.le_of_ble_eq_true rfl) (Nat.le_of_ble_eq_true rfl) (s_X12_took_x (i := 7) (B := fun _ => 0) (n := 0) G hs kw (by decide) hb2 (fun r7 e7_z => ?_))
        refine t_ifeq (t := 26) dX12_readBoth_10 (by decide) (fun h10 => ?_) (fun h10 => False.elim (by omega))
        refine r_vret dX12_readBoth_26 rfl (Nat.le_of_ble_eq_true rfl) (Nat.le_of_ble_eq_true rfl) ?_
        rw [← hv] at hQ
        exact hQ _ ofr hd2 hp2 hk2
  refine r_aloadR0 dX12_readBoth_0 ?_
  refine q_callV0 zm_RX12_165 dX12_readBoth_1 (shM_k hs) (by decide) rfl (Nat.le_of_ble_eq_true rfl) (Nat.le_of_ble_eq_true rfl) (Nat.le_of_ble_eq_true rfl) (Nat.le_of_ble_eq_true rfl) (Nat.le_of_ble_eq_true rfl) (s_X12_readUnit_5 G hs kw hld htp hps hd16 hlm hla hu h5 h29 h99 hup (fun g1 o1 d1 p1 k1_z => ?_))
  have gp := hgd p ht.1
  exact lp _ g1 n ((unP B n (if lm = 5 then 8 else 6) 5) p) o1 d1 p1 k1_z (fun h_z => ⟨Nat.le_of_lt (gp.1 h_z).1, (gp.1 h_z).2.1, (gp.1 h_z).2.2.1⟩) (fun _ => Nat.le_add_right n _) rfl (Nat.lt_succ_self n)
set_option maxHeartbeats 4000000 in
set_option maxRecDepth 100000 in
theorem s_X12_readTruth_5 {g : zGT} {w : zW} {f : Nat → Nat → Int32} {j : Nat → Nat → Int64} {A : Nat} {B : Nat → Nat} {n : Nat} {wa wv : Nat → Nat} {kq : Nat} {p lm la u : Nat} {Q : Option Value → zW → Prop} {QX : String → zW → Prop} (G : zGok g) (hs : shM w A) (kw : kWd g wa wv kq) (hld : kLd g wa) (htp : tpM B n f A) (hps : psM B n f A 0 p) (hd16 : (f A 16).toInt = 1) (hlm : (f A 17).toInt = (lm : Nat)) (hla : (f A 18).toInt = (la : Nat)) (hu : (f (A + 2) lm).toInt = (u : Nat)) (h5 : lm ≤ 5) (h29 : 209 ≤ la) (h99 : la ≤ 2009) (hup : u ≤ p) (hQ : ∀ f2_z, frM A [2] [8, 9, 10, 11, 12, 13, 16] f f2_z → (f2_z A 16).toInt = 1 → psM B n f2_z A (chP B n (chP B n (unP B n (if lm = 5 then 8 else 6) 5) (opA B n)) (opO B n) p).1 (chP B n (chP B n (unP B n (if lm = 5 then 8 else 6) 5) (opA B n)) (opO B n) p).2.1 → ((chP B n (chP B n (unP B n (if lm = 5 then 8 else 6) 5) (opA B n)) (opO B n) p).1 = 0 → okM f f2_z A lm la u (chP B n (chP B n (unP B n (if lm = 5 then 8 else 6) 5) (opA B n)) (opO B n) p).2.2) → Q none (zM w f2_z j)) : zC g 62 yX12_readTruth cX12_readTruth 1 none [.ref A] (zM w f j) (0, 0) Q QX := by
  refine zC_of G (by decide +kernel) (Nat.le_of_ble_eq_true rfl) ?_
  have ht := hps.2.1 rfl
  have h12 := hps.1
  have h900 := htp.2.1
  have hgd : ∀ s, s ≤ n → gdP n true (if lm = 5 then 8 else 6) (4 + 2 * 5 + 1) s ((chP B n (unP B n (if lm = 5 then 8 else 6) 5) (opA B n)) s) := fun s hs9 => gd_ch (gd_un (by split <;> decide) 5) hop_A hs9
  have lp : ∀ (mz : Nat) (f2_z : Nat → Nat → Int32) (k : Nat) (r : zPR), frM A [2] [8, 9, 10, 11, 12, 13, 16] f f2_z → (f2_z A 16).toInt = 1 → psM B n f2_z A r.1 r.2.1 → (r.1 = 0 → okM f f2_z A lm la u r.2.2) → (r.1 = 0 → p ≤ r.2.1 ∧ r.2.1 ≤ n ∧ r.2.2.length + p ≤ r.2.1) → (r.1 = 0 → n ≤ k + r.2.1) → lpP B n (chP B n (unP B n (if lm = 5 then 8 else 6) 5) (opA B n)) (opO B n) k r = chP B n (chP B n (unP B n (if lm = 5 then 8 else 6) 5) (opA B n)) (opO B n) p → k < mz → zR (zV g 62 yX12_readTruth 1 none (0, 0) Q QX) cX12_readTruth yX12_readTruth.cls 4 [some (.ref A)] [] (zM w f2_z j) (0, 0) := by
    intro mz
    induction mz with
    | zero =>
      intro f2_z k r ofr hd2 hp2 hk2 hg2 hnk hR hmz
      exact absurd hmz (Nat.not_lt_zero _)
    | succ mz ih =>
      intro f2_z k r ofr hd2 hp2 hk2 hg2 hnk hR hmz
      by_cases hr : r.1 = 0
      · have hk3 := hk2 hr
        obtain ⟨q1_z, q2_z, q3_z⟩ := hg2 hr
        have hnk3 := hnk hr
        have hps2 := hp2
        rw [hr] at hps2
        have hb2 := hps2.1
        have htp2 := tpM_of htp (ofr.2.1 5 (by decide) (by decide) (by decide)) (ofr.2.2 7 (by decide))
        by_cases hc_z : isWd B n r.2.1 6 = true
        · have hop : (opO B n) r.2.1 = 2002 := if_pos hc_z
          have hop0 : (opO B n) r.2.1 ≠ 0 := by rw [hop]; decide
          have hln := tk_lt (B := B) (n := n) (s := r.2.1) (by rw [(isWd_tk hc_z).1]; decide)
          obtain ⟨k2_z, rfl⟩ : ∃ k2_z, k = k2_z + 1 := ⟨k - 1, by omega⟩
          have hnx := nxP_gt (B := B) hln
          have gq := hgd _ hnx.2
          by_cases hq : ((chP B n (unP B n (if lm = 5 then 8 else 6) 5) (opA B n)) (nxP B n r.2.1)).1 = 0
          · obtain ⟨y1, y2, y3, y4⟩ := gq.1 hq
            refine r_aloadR0 dX12_readTruth_4 ?_
            refine k_ldc (hld _ (List.mem_of_getElem? (i := 0) rfl)) dX12_readTruth_5 ?_
            refine q_callV1 zm_RX12_142 dX12_readTruth_7 (shM_k hs) (by decide) rfl (Nat.le_of_ble_eq_true rfl) (Nat.le_of_ble_eq_true rfl) (Nat.le_of_ble_eq_true rfl) (Nat.le_of_ble_eq_true rfl) (Nat.le_of_ble_eq_true rfl) (s_X12_took_t (i := 6) G hs kw (by decide) htp2 hps2 hc_z (fun r7 g7 e7_z o7 p7 => ?_))
            have htp7 := tpM_of htp2 (o7.2.1 5 (by decide) (by decide) (by decide)) (o7.2.2 7 (by decide))
            have w7 : g7 (A + 2) = f2_z (A + 2) := o7.2.1 2 (by decide) (by decide) (by decide)
            refine t_ifeq (t := 26) dX12_readTruth_10 (by decide) (fun h10 => False.elim (by omega)) (fun h10 => ?_)
            refine r_aloadR0 dX12_readTruth_13 ?_
            refine q_callV0 zm_RX12_157 dX12_readTruth_14 (shM_k hs) (by decide) rfl (Nat.le_of_ble_eq_true rfl) (Nat.le_of_ble_eq_true rfl) (Nat.le_of_ble_eq_true rfl) (Nat.le_of_ble_eq_true rfl) (Nat.le_of_ble_eq_true rfl) (s_X12_readBoth_5 (lm := lm) (la := la) (u := u + r.2.2.length) G hs kw hld htp7 p7 (by rw [o7.2.2 16 (by decide)]; exact hd2) (by rw [o7.2.2 17 (by decide), ofr.2.2 17 (by decide)]; exact hlm) (by rw [o7.2.2 18 (by decide), ofr.2.2 18 (by decide)]; exact hla) (by rw [w7]; exact hk3.1) h5 h29 h99 (by omega) (fun g14 o14 d14 p14 k14 => ?_))
            have of14 : frM A [2] [8, 9, 10, 11, 12, 13, 16] f g14 := frM_tr ofr (frM_tr (frM_su o7 (by decide) (by decide)) o14)
            have p14b : psM B n g14 A ((chP B n (unP B n (if lm = 5 then 8 else 6) 5) (opA B n)) (nxP B n r.2.1)).1 ((chP B n (unP B n (if lm = 5 then 8 else 6) 5) (opA B n)) (nxP B n r.2.1)).2.1 := p14
            have k14b : ((chP B n (unP B n (if lm = 5 then 8 else 6) 5) (opA B n)) (nxP B n r.2.1)).1 = 0 → okM g7 g14 A lm la (u + r.2.2.length) ((chP B n (unP B n (if lm = 5 then 8 else 6) 5) (opA B n)) (nxP B n r.2.1)).2.2 := k14
            refine r_aloadR0 dX12_readTruth_17 ?_
            refine n_bipush dX12_readTruth_18 (by decide) (fun r18 e18_z => ?_)
            refine q_callV1 zm_RX12_162 dX12_readTruth_20 (shM_k hs) (by decide) rfl (Nat.le_of_ble_eq_true rfl) (Nat.le_of_ble_eq_true rfl) (Nat.le_of_ble_eq_true rfl) (Nat.le_of_ble_eq_true rfl) (Nat.le_of_ble_eq_true rfl) (s_X12_laysStep (lm := lm) (la := la) (u := u + r.2.2.length + ((chP B n (unP B n (if lm = 5 then 8 else 6) 5) (opA B n)) (nxP B n r.2.1)).2.2.length) G hs (by have := p14b.1; rw [hq] at this; exact this) (by rw [of14.2.2 17 (by decide)]; exact hlm) (by rw [of14.2.2 18 (by decide)]; exact hla) (k14b hq).1 h5 h29 (by omega) (fun g20 o20 a20 b20 c20 => ?_))
            refine r_goto (t := 4) dX12_readTruth_23 (by decide) ?_
            have hp14 := p14b
            rw [hq] at hp14
            refine ih _ k2_z (0, ((chP B n (unP B n (if lm = 5 then 8 else 6) 5) (opA B n)) (nxP B n r.2.1)).2.1, r.2.2 ++ ((chP B n (unP B n (if lm = 5 then 8 else 6) 5) (opA B n)) (nxP B n r.2.1)).2.2 ++ [(opO B n) r.2.1]) (frM_tr of14 (frM_su o20 (by decide) (by decide))) (by rw [o20.2.2 16 (by decide)]; exact d14) (psM_of hp14 (o20.2.2 8 (by decide)) (o20.2.2 9 (by decide)) (o20.2.2 10 (by decide)) (o20.2.2 11 (by decide)) (o20.2.2 12 (by decide)) (o20.2.2 13 (by decide))) (fun _ => okM_ap (by omega) (by rw [List.length_append]; omega) (okM_ap (by omega) (by omega) hk3 (okM_cg (k14b hq) w7 rfl)) ?_) (fun _ => ?_) (fun _ => ?_) ?_ (by omega)
            · rw [List.length_append, ← Nat.add_assoc, hop]
              exact okM_one (by omega) a20 b20 c20 (by rw [e18_z]; rfl)
            · show p ≤ ((chP B n (unP B n (if lm = 5 then 8 else 6) 5) (opA B n)) (nxP B n r.2.1)).2.1 ∧ ((chP B n (unP B n (if lm = 5 then 8 else 6) 5) (opA B n)) (nxP B n r.2.1)).2.1 ≤ n ∧ (r.2.2 ++ ((chP B n (unP B n (if lm = 5 then 8 else 6) 5) (opA B n)) (nxP B n r.2.1)).2.2 ++ [(opO B n) r.2.1]).length + p ≤ ((chP B n (unP B n (if lm = 5 then 8 else 6) 5) (opA B n)) (nxP B n r.2.1)).2.1
              rw [List.length_append, List.length_append, List.length_singleton]
              omega
            · show n ≤ k2_z + ((chP B n (unP B n (if lm = 5 then 8 else 6) 5) (opA B n)) (nxP B n r.2.1)).2.1
              omega
            · exact (lpP_on hr hop0 hq).symm.trans hR
          · have nb : ∀ g : Nat → Nat → Int32, psM B n g A ((chP B n (unP B n (if lm = 5 then 8 else 6) 5) (opA B n)) (nxP B n r.2.1)).1 ((chP B n (unP B n (if lm = 5 then 8 else 6) 5) (opA B n)) (nxP B n r.2.1)).2.1 → (g A 12).toInt ≠ 0 := fun g h_z => by rw [h_z.1]; omega
            refine r_aloadR0 dX12_readTruth_4 ?_
            refine k_ldc (hld _ (List.mem_of_getElem? (i := 0) rfl)) dX12_readTruth_5 ?_
            refine q_callV1 zm_RX12_142 dX12_readTruth_7 (shM_k hs) (by decide) rfl (Nat.le_of_ble_eq_true rfl) (Nat.le_of_ble_eq_true rfl) (Nat.le_of_ble_eq_true rfl) (Nat.le_of_ble_eq_true rfl) (Nat.le_of_ble_eq_true rfl) (s_X12_took_t (i := 6) G hs kw (by decide) htp2 hps2 hc_z (fun r7 g7 e7_z o7 p7 => ?_))
            have htp7 := tpM_of htp2 (o7.2.1 5 (by decide) (by decide) (by decide)) (o7.2.2 7 (by decide))
            have w7 : g7 (A + 2) = f2_z (A + 2) := o7.2.1 2 (by decide) (by decide) (by decide)
            refine t_ifeq (t := 26) dX12_readTruth_10 (by decide) (fun h10 => False.elim (by omega)) (fun h10 => ?_)
            refine r_aloadR0 dX12_readTruth_13 ?_
            refine q_callV0 zm_RX12_157 dX12_readTruth_14 (shM_k hs) (by decide) rfl (Nat.le_of_ble_eq_true rfl) (Nat.le_of_ble_eq_true rfl) (Nat.le_of_ble_eq_true rfl) (Nat.le_of_ble_eq_true rfl) (Nat.le_of_ble_eq_true rfl) (s_X12_readBoth_5 (lm := lm) (la := la) (u := u + r.2.2.length) G hs kw hld htp7 p7 (by rw [o7.2.2 16 (by decide)]; exact hd2) (by rw [o7.2.2 17 (by decide), ofr.2.2 17 (by decide)]; exact hlm) (by rw [o7.2.2 18 (by decide), ofr.2.2 18 (by decide)]; exact hla) (by rw [w7]; exact hk3.1) h5 h29 h99 (by omega) (fun g14 o14 d14 p14 k14 => ?_))
            have of14 : frM A [2] [8, 9, 10, 11, 12, 13, 16] f g14 := frM_tr ofr (frM_tr (frM_su o7 (by decide) (by decide)) o14)
            have p14b : psM B n g14 A ((chP B n (unP B n (if lm = 5 then 8 else 6) 5) (opA B n)) (nxP B n r.2.1)).1 ((chP B n (unP B n (if lm = 5 then 8 else 6) 5) (opA B n)) (nxP B n r.2.1)).2.1 := p14
            have k14b : ((chP B n (unP B n (if lm = 5 then 8 else 6) 5) (opA B n)) (nxP B n r.2.1)).1 = 0 → okM g7 g14 A lm la (u + r.2.2.length) ((chP B n (unP B n (if lm = 5 then 8 else 6) 5) (opA B n)) (nxP B n r.2.1)).2.2 := k14
            refine r_aloadR0 dX12_readTruth_17 ?_
            refine n_bipush dX12_readTruth_18 (by decide) (fun r18 e18_z => ?_)
            refine q_callV1 zm_RX12_162 dX12_readTruth_20 (shM_k hs) (by decide) rfl (Nat.le_of_ble_eq_true rfl) (Nat.le_of_ble_eq_true rfl) (Nat.le_of_ble_eq_true rfl) (Nat.le_of_ble_eq_true rfl) (Nat.le_of_ble_eq_true rfl) (s_X12_laysStep_x G hs (nb _ p14b) ?_)
            refine r_goto (t := 4) dX12_readTruth_23 (by decide) ?_
            exact ih _ k2_z ((chP B n (unP B n (if lm = 5 then 8 else 6) 5) (opA B n)) (nxP B n r.2.1)) of14 d14 p14b (fun h_z => absurd h_z hq) (fun h_z => absurd h_z hq) (fun h_z => absurd h_z hq) ((lpP_bad hq).trans ((lpP_sub hr hop0 hq).symm.trans hR)) (by omega)
        · have hop : (opO B n) r.2.1 = 0 := if_neg hc_z
          have hv := (lpP_end (B := B) (n := n) (k := k) (sub := (chP B n (unP B n (if lm = 5 then 8 else 6) 5) (opA B n))) hop).symm.trans hR
          refine r_aloadR0 dX12_readTruth_4 ?_
          refine k_ldc (hld _ (List.mem_of_getElem? (i := 0) rfl)) dX12_readTruth_5 ?_
          refine q_callV1 zm_RX12_142 dX12_readTruth_7 (shM_k hs) (by decide) rfl (Nat.le_of_ble_eq_true rfl) (Nat.le_of_ble_eq_true rfl) (Nat.le_of_ble_eq_true rfl) (Nat.le_of_ble_eq_true rfl) (Nat.le_of_ble_eq_true rfl) (s_X12_took_f (i := 6) G hs kw (by decide) htp2 hps2 hc_z (fun r7 e7_z => ?_))
          refine t_ifeq (t := 26) dX12_readTruth_10 (by decide) (fun h10 => ?_) (fun h10 => False.elim (by omega))
          refine r_vret dX12_readTruth_26 rfl (Nat.le_of_ble_eq_true rfl) (Nat.le_of_ble_eq_true rfl) ?_
          rw [← hv] at hQ
          exact hQ _ ofr hd2 hp2 hk2
      · have hb2 : (f2_z A 12).toInt ≠ 0 := by rw [hp2.1]; omega
        have hv := (lpP_bad (B := B) (n := n) (k := k) (sub := (chP B n (unP B n (if lm = 5 then 8 else 6) 5) (opA B n))) (op := (opO B n)) hr).symm.trans hR
        refine r_aloadR0 dX12_readTruth_4 ?_
        refine k_ldc (hld _ (List.mem_of_getElem? (i := 0) rfl)) dX12_readTruth_5 ?_
        refine q_callV1 zm_RX12_142 dX12_readTruth_7 (shM_k hs) (by decide) rfl (Nat.le_of_ble_eq_true rfl) (Nat.le_of_ble_eq_true rfl) (Nat.le_of_ble_eq_true rfl) (Nat.le_of_ble_eq_true rfl) (Nat.le_of_ble_eq_true rfl) (s_X12_took_x (i := 6) (B := fun _ => 0) (n := 0) G hs kw (by decide) hb2 (fun r7 e7_z => ?_))
        refine t_ifeq (t := 26) dX12_readTruth_10 (by decide) (fun h10 => ?_) (fun h10 => False.elim (by omega))
        refine r_vret dX12_readTruth_26 rfl (Nat.le_of_ble_eq_true rfl) (Nat.le_of_ble_eq_true rfl) ?_
        rw [← hv] at hQ
        exact hQ _ ofr hd2 hp2 hk2
  refine r_aloadR0 dX12_readTruth_0 ?_
  refine q_callV0 zm_RX12_157 dX12_readTruth_1 (shM_k hs) (by decide) rfl (Nat.le_of_ble_eq_true rfl) (Nat.le_of_ble_eq_true rfl) (Nat.le_of_ble_eq_true rfl) (Nat.le_of_ble_eq_true rfl) (Nat.le_of_ble_eq_true rfl) (s_X12_readBoth_5 G hs kw hld htp hps hd16 hlm hla hu h5 h29 h99 hup (fun g1 o1 d1 p1 k1_z => ?_))
  have gp := hgd p ht.1
  exact lp _ g1 n ((chP B n (unP B n (if lm = 5 then 8 else 6) 5) (opA B n)) p) o1 d1 p1 k1_z (fun h_z => ⟨Nat.le_of_lt (gp.1 h_z).1, (gp.1 h_z).2.1, (gp.1 h_z).2.2.1⟩) (fun _ => Nat.le_add_right n _) rfl (Nat.lt_succ_self n)
set_option maxHeartbeats 4000000 in
set_option maxRecDepth 100000 in
theorem s_X12_readUnit_6 {g : zGT} {w : zW} {f : Nat → Nat → Int32} {j : Nat → Nat → Int64} {A : Nat} {B : Nat → Nat} {n : Nat} {wa wv : Nat → Nat} {kq : Nat} {p lm la u : Nat} {Q : Option Value → zW → Prop} {QX : String → zW → Prop} (G : zGok g) (hs : shM w A) (kw : kWd g wa wv kq) (hld : kLd g wa) (htp : tpM B n f A) (hps : psM B n f A 0 p) (hd16 : (f A 16).toInt = 0) (hlm : (f A 17).toInt = (lm : Nat)) (hla : (f A 18).toInt = (la : Nat)) (hu : (f (A + 2) lm).toInt = (u : Nat)) (h5 : lm ≤ 5) (h29 : 209 ≤ la) (h99 : la ≤ 2009) (hup : u ≤ p) (hQ : ∀ f2_z, frM A [2] [8, 9, 10, 11, 12, 13, 16] f f2_z → (f2_z A 16).toInt = 0 → psM B n f2_z A (unP B n (if lm = 5 then 8 else 6) 6 p).1 (unP B n (if lm = 5 then 8 else 6) 6 p).2.1 → ((unP B n (if lm = 5 then 8 else 6) 6 p).1 = 0 → okM f f2_z A lm la u (unP B n (if lm = 5 then 8 else 6) 6 p).2.2) → Q none (zM w f2_z j)) : zC g 64 yX12_readUnit cX12_readUnit 2 none [.ref A] (zM w f j) (0, 0) Q QX := by
  refine zC_of G (by decide +kernel) (Nat.le_of_ble_eq_true rfl) ?_
  have ht := hps.2.1 rfl
  have h12 := hps.1
  have hte := teP_le (B := B) ht.1
  have h900 := htp.2.1
  have h10 := ht.2.2.2.1
  have hsm : ∀ s, s ≤ n → gdP n false (if lm = 5 then 8 else 6) (1 + 2 * 6 + 2) s (smP B n (if lm = 5 then 8 else 6) 6 s) := fun s hs9 => gd_su (gd_at (by split <;> decide) 6) hs9
  by_cases hw : isWd B n p 8 = true
  · have hv : unP B n (if lm = 5 then 8 else 6) 6 p = noP ((unP B n (if lm = 5 then 8 else 6) 5) (nxP B n p)) := if_pos hw
    rw [hv] at hQ
    have hwt := isWd_tk hw
    have hpn := tk_lt (B := B) (n := n) (s := p) (by rw [hwt.1]; decide)
    have hnx := nxP_gt (B := B) hpn
    have hgu : gdP n true (if lm = 5 then 8 else 6) (4 + 2 * 5) (nxP B n p) ((unP B n (if lm = 5 then 8 else 6) 5) (nxP B n p)) := gd_un (by split <;> decide) 5 _ hnx.2
    by_cases hr : ((unP B n (if lm = 5 then 8 else 6) 5) (nxP B n p)).1 = 0
    · have hv2 : noP ((unP B n (if lm = 5 then 8 else 6) 5) (nxP B n p)) = (0, ((unP B n (if lm = 5 then 8 else 6) 5) (nxP B n p)).2.1, ((unP B n (if lm = 5 then 8 else 6) 5) (nxP B n p)).2.2 ++ [2000]) := if_neg (not_not_intro hr)
      rw [hv2] at hQ
      obtain ⟨y1, y2, y3, y4⟩ := hgu.1 hr
      refine r_aloadR0 dX12_readUnit_0 ?_
      refine m_getV (x := (f A 12)) zf_RX12_112 rfl dX12_readUnit_1 (shM_k hs) (rfl) ?_
      refine t_ifeq (t := 8) dX12_readUnit_4 (by decide) (fun h4 => ?_) (fun h4 => False.elim (by omega))
      refine r_aloadR0 dX12_readUnit_8 ?_
      refine k_ldc (hld _ (List.mem_of_getElem? (i := 2) rfl)) dX12_readUnit_9 ?_
      refine q_callV1 zm_RX12_127 dX12_readUnit_11 (shM_k hs) (by decide) rfl (Nat.le_of_ble_eq_true rfl) (Nat.le_of_ble_eq_true rfl) (Nat.le_of_ble_eq_true rfl) (Nat.le_of_ble_eq_true rfl) (Nat.le_of_ble_eq_true rfl) (s_X12_isWord (i := 8) G hs kw (by decide) htp hps (fun r11 e11_z => ?_))
      have e11b : r11.toInt = 1 := e11_z.elim (fun h_z => h_z.1) (fun h_z => absurd hw h_z.2)
      refine t_ifeq (t := 44) dX12_readUnit_14 (by decide) (fun h14 => False.elim (by omega)) (fun h14 => ?_)
      refine r_aloadR0 dX12_readUnit_17 ?_
      refine q_callV0 zm_RX12_172 dX12_readUnit_18 (shM_k hs) (by decide) rfl (Nat.le_of_ble_eq_true rfl) (Nat.le_of_ble_eq_true rfl) (Nat.le_of_ble_eq_true rfl) (Nat.le_of_ble_eq_true rfl) (Nat.le_of_ble_eq_true rfl) (s_X12_goesIn (d := 0) G hs htp hps hd16 (by decide) (by rw [hwt.1]; decide) (fun g18 o18 a18 b18 c18 => ?_))
      have p18 := c18 (by decide)
      have htp18 := tpM_of htp (o18.2.1 5 (by decide) (by decide) (by decide)) (o18.2.2 7 (by decide))
      have w18 : g18 (A + 2) = f (A + 2) := o18.2.1 2 (by decide) (by decide) (by decide)
      refine r_aloadR0 dX12_readUnit_21 ?_
      refine q_callV0 zm_RX12_165 dX12_readUnit_22 (shM_k hs) (by decide) rfl (Nat.le_of_ble_eq_true rfl) (Nat.le_of_ble_eq_true rfl) (Nat.le_of_ble_eq_true rfl) (Nat.le_of_ble_eq_true rfl) (Nat.le_of_ble_eq_true rfl) (s_X12_readUnit_5 (lm := lm) (la := la) (u := u) G hs kw hld htp18 p18 (by rw [a18]; rfl) (by rw [o18.2.2 17 (by decide)]; exact hlm) (by rw [o18.2.2 18 (by decide)]; exact hla) (by rw [w18]; exact hu) h5 h29 h99 (by omega) (fun g22 o22 d22 p22 k22 => ?_))
      have of22 : frM A [2] [8, 9, 10, 11, 12, 13, 16] f g22 := frM_tr (frM_su o18 (by decide) (by decide)) o22
      refine r_aloadR0 dX12_readUnit_25 ?_
      refine n_bipush dX12_readUnit_26 (by decide) (fun r26 e26_z => ?_)
      refine q_callV1 zm_RX12_162 dX12_readUnit_28 (shM_k hs) (by decide) rfl (Nat.le_of_ble_eq_true rfl) (Nat.le_of_ble_eq_true rfl) (Nat.le_of_ble_eq_true rfl) (Nat.le_of_ble_eq_true rfl) (Nat.le_of_ble_eq_true rfl) (s_X12_laysStep (lm := lm) (la := la) (u := u + ((unP B n (if lm = 5 then 8 else 6) 5) (nxP B n p)).2.2.length) G hs (by have := p22.1; rw [hr] at this; exact this) (by rw [of22.2.2 17 (by decide)]; exact hlm) (by rw [of22.2.2 18 (by decide)]; exact hla) (k22 hr).1 h5 h29 (by omega) (fun g28 o28 a28 b28 c28 => ?_))
      have d28 : (g28 A 16).toInt = 1 := by rw [o28.2.2 16 (by decide)]; exact d22
      have p22b := p22
      rw [hr] at p22b
      refine r_aloadR0 dX12_readUnit_31 ?_
      refine r_dup dX12_readUnit_32 rfl ?_
      refine m_getV (x := (g28 A 16)) zf_RX12_154 rfl dX12_readUnit_33 (shM_k hs) (rfl) ?_
      refine n_iconst dX12_readUnit_36 (by decide) (fun r36 e36 => ?_)
      refine n_isub dX12_readUnit_37 (by omega) (fun r37 e37 => ?_)
      refine m_putI zf_RX12_154 (by intro C T N h_z; cases h_z; rfl) rfl dX12_readUnit_38 (shM_k hs) ?_
      obtain ⟨g38, hg38⟩ : ∃ g9, g9 = zu g28 A 16 r37 := ⟨_, rfl⟩
      rw [← hg38]
      have og38 : frM A [] [16] g28 g38 := by rw [hg38]; exact frM_zk frM_rf (by decide)
      have vg38 : g38 A 16 = r37 := by rw [hg38]; exact zu_at
      have vt38 : (g38 A 16).toInt = r37.toInt := by rw [vg38]
      refine r_goto (t := 155) dX12_readUnit_41 (by decide) ?_
      refine r_vret dX12_readUnit_155 rfl (Nat.le_of_ble_eq_true rfl) (Nat.le_of_ble_eq_true rfl) ?_
      exact hQ _ (frM_tr (frM_tr of22 (frM_su o28 (by decide) (by decide))) (frM_su og38 (by decide) (by decide))) (by rw [vt38]; omega) (psM_of (psM_of p22b (o28.2.2 8 (by decide)) (o28.2.2 9 (by decide)) (o28.2.2 10 (by decide)) (o28.2.2 11 (by decide)) (o28.2.2 12 (by decide)) (o28.2.2 13 (by decide))) (og38.2.2 8 (by decide)) (og38.2.2 9 (by decide)) (og38.2.2 10 (by decide)) (og38.2.2 11 (by decide)) (og38.2.2 12 (by decide)) (og38.2.2 13 (by decide))) (fun _ => okM_cg (okM_ap (by omega) (by omega) (k22 hr) (okM_one (by omega) a28 b28 c28 (by rw [e26_z]; rfl))) w18 (og38.2.1 2 (by decide) (by decide) (by decide)))
    · have hv2 : noP ((unP B n (if lm = 5 then 8 else 6) 5) (nxP B n p)) = ((unP B n (if lm = 5 then 8 else 6) 5) (nxP B n p)) := if_pos hr
      rw [hv2] at hQ
      refine r_aloadR0 dX12_readUnit_0 ?_
      refine m_getV (x := (f A 12)) zf_RX12_112 rfl dX12_readUnit_1 (shM_k hs) (rfl) ?_
      refine t_ifeq (t := 8) dX12_readUnit_4 (by decide) (fun h4 => ?_) (fun h4 => False.elim (by omega))
      refine r_aloadR0 dX12_readUnit_8 ?_
      refine k_ldc (hld _ (List.mem_of_getElem? (i := 2) rfl)) dX12_readUnit_9 ?_
      refine q_callV1 zm_RX12_127 dX12_readUnit_11 (shM_k hs) (by decide) rfl (Nat.le_of_ble_eq_true rfl) (Nat.le_of_ble_eq_true rfl) (Nat.le_of_ble_eq_true rfl) (Nat.le_of_ble_eq_true rfl) (Nat.le_of_ble_eq_true rfl) (s_X12_isWord (i := 8) G hs kw (by decide) htp hps (fun r11 e11_z => ?_))
      have e11b : r11.toInt = 1 := e11_z.elim (fun h_z => h_z.1) (fun h_z => absurd hw h_z.2)
      refine t_ifeq (t := 44) dX12_readUnit_14 (by decide) (fun h14 => False.elim (by omega)) (fun h14 => ?_)
      refine r_aloadR0 dX12_readUnit_17 ?_
      refine q_callV0 zm_RX12_172 dX12_readUnit_18 (shM_k hs) (by decide) rfl (Nat.le_of_ble_eq_true rfl) (Nat.le_of_ble_eq_true rfl) (Nat.le_of_ble_eq_true rfl) (Nat.le_of_ble_eq_true rfl) (Nat.le_of_ble_eq_true rfl) (s_X12_goesIn (d := 0) G hs htp hps hd16 (by decide) (by rw [hwt.1]; decide) (fun g18 o18 a18 b18 c18 => ?_))
      have p18 := c18 (by decide)
      have htp18 := tpM_of htp (o18.2.1 5 (by decide) (by decide) (by decide)) (o18.2.2 7 (by decide))
      have w18 : g18 (A + 2) = f (A + 2) := o18.2.1 2 (by decide) (by decide) (by decide)
      refine r_aloadR0 dX12_readUnit_21 ?_
      refine q_callV0 zm_RX12_165 dX12_readUnit_22 (shM_k hs) (by decide) rfl (Nat.le_of_ble_eq_true rfl) (Nat.le_of_ble_eq_true rfl) (Nat.le_of_ble_eq_true rfl) (Nat.le_of_ble_eq_true rfl) (Nat.le_of_ble_eq_true rfl) (s_X12_readUnit_5 (lm := lm) (la := la) (u := u) G hs kw hld htp18 p18 (by rw [a18]; rfl) (by rw [o18.2.2 17 (by decide)]; exact hlm) (by rw [o18.2.2 18 (by decide)]; exact hla) (by rw [w18]; exact hu) h5 h29 h99 (by omega) (fun g22 o22 d22 p22 k22 => ?_))
      have of22 : frM A [2] [8, 9, 10, 11, 12, 13, 16] f g22 := frM_tr (frM_su o18 (by decide) (by decide)) o22
      refine r_aloadR0 dX12_readUnit_25 ?_
      refine n_bipush dX12_readUnit_26 (by decide) (fun r26 e26_z => ?_)
      refine q_callV1 zm_RX12_162 dX12_readUnit_28 (shM_k hs) (by decide) rfl (Nat.le_of_ble_eq_true rfl) (Nat.le_of_ble_eq_true rfl) (Nat.le_of_ble_eq_true rfl) (Nat.le_of_ble_eq_true rfl) (Nat.le_of_ble_eq_true rfl) (s_X12_laysStep_x G hs (by rw [p22.1]; omega) ?_)
      have d22b : (g22 A 16).toInt = 1 := d22
      refine r_aloadR0 dX12_readUnit_31 ?_
      refine r_dup dX12_readUnit_32 rfl ?_
      refine m_getV (x := (g22 A 16)) zf_RX12_154 rfl dX12_readUnit_33 (shM_k hs) (rfl) ?_
      refine n_iconst dX12_readUnit_36 (by decide) (fun r36 e36 => ?_)
      refine n_isub dX12_readUnit_37 (by omega) (fun r37 e37 => ?_)
      refine m_putI zf_RX12_154 (by intro C T N h_z; cases h_z; rfl) rfl dX12_readUnit_38 (shM_k hs) ?_
      obtain ⟨g38, hg38⟩ : ∃ g9, g9 = zu g22 A 16 r37 := ⟨_, rfl⟩
      rw [← hg38]
      have og38 : frM A [] [16] g22 g38 := by rw [hg38]; exact frM_zk frM_rf (by decide)
      have vg38 : g38 A 16 = r37 := by rw [hg38]; exact zu_at
      have vt38 : (g38 A 16).toInt = r37.toInt := by rw [vg38]
      refine r_goto (t := 155) dX12_readUnit_41 (by decide) ?_
      refine r_vret dX12_readUnit_155 rfl (Nat.le_of_ble_eq_true rfl) (Nat.le_of_ble_eq_true rfl) ?_
      exact hQ _ (frM_tr of22 (frM_su og38 (by decide) (by decide))) (by rw [vt38]; omega) (psM_of p22 (og38.2.2 8 (by decide)) (og38.2.2 9 (by decide)) (og38.2.2 10 (by decide)) (og38.2.2 11 (by decide)) (og38.2.2 12 (by decide)) (og38.2.2 13 (by decide))) (fun h_z => absurd h_z hr)
  have hrk := rk4 (B := B) (n := n) (s := p) (c := 91) (by decide)
  by_cases hp : tkP B n p = 91
  · have hv : unP B n (if lm = 5 then 8 else 6) 6 p = clP B n 93 (trU B n (unP B n (if lm = 5 then 8 else 6) 5) (nxP B n p)) := (if_neg hw).trans (if_pos hp)
    rw [hv] at hQ
    have h10b := hrk.mpr hp
    have hpn := tk_lt (B := B) (n := n) (s := p) (by rw [hp]; decide)
    have hnx := nxP_gt (B := B) hpn
    by_cases hr : (trU B n (unP B n (if lm = 5 then 8 else 6) 5) (nxP B n p)).1 = 0
    · by_cases h93 : tkP B n (trU B n (unP B n (if lm = 5 then 8 else 6) 5) (nxP B n p)).2.1 = 93
      · have hv2 : clP B n 93 (trU B n (unP B n (if lm = 5 then 8 else 6) 5) (nxP B n p)) = (0, nxP B n (trU B n (unP B n (if lm = 5 then 8 else 6) 5) (nxP B n p)).2.1, (trU B n (unP B n (if lm = 5 then 8 else 6) 5) (nxP B n p)).2.2) := (if_neg (not_not_intro hr)).trans (if_pos h93)
        rw [hv2] at hQ
        refine r_aloadR0 dX12_readUnit_0 ?_
        refine m_getV (x := (f A 12)) zf_RX12_112 rfl dX12_readUnit_1 (shM_k hs) (rfl) ?_
        refine t_ifeq (t := 8) dX12_readUnit_4 (by decide) (fun h4 => ?_) (fun h4 => False.elim (by omega))
        refine r_aloadR0 dX12_readUnit_8 ?_
        refine k_ldc (hld _ (List.mem_of_getElem? (i := 2) rfl)) dX12_readUnit_9 ?_
        refine q_callV1 zm_RX12_127 dX12_readUnit_11 (shM_k hs) (by decide) rfl (Nat.le_of_ble_eq_true rfl) (Nat.le_of_ble_eq_true rfl) (Nat.le_of_ble_eq_true rfl) (Nat.le_of_ble_eq_true rfl) (Nat.le_of_ble_eq_true rfl) (s_X12_isWord (i := 8) G hs kw (by decide) htp hps (fun r11 e11_z => ?_))
        have e11b : r11.toInt = 0 := e11_z.elim (fun h_z => absurd h_z.2 hw) (fun h_z => h_z.1)
        refine t_ifeq (t := 44) dX12_readUnit_14 (by decide) (fun h14 => ?_) (fun h14 => False.elim (by omega))
        refine r_aloadR0 dX12_readUnit_44 ?_
        refine n_bipush dX12_readUnit_45 (by decide) (fun r45 e45 => ?_)
        refine q_callV1 zm_RX12_175 dX12_readUnit_47 (shM_k hs) (by decide) rfl (Nat.le_of_ble_eq_true rfl) (Nat.le_of_ble_eq_true rfl) (Nat.le_of_ble_eq_true rfl) (Nat.le_of_ble_eq_true rfl) (Nat.le_of_ble_eq_true rfl) (s_X12_isSign G hs (fun r47 e47 => ?_))
        refine t_ifeq (t := 80) dX12_readUnit_50 (by decide) (fun h50 => False.elim (by omega)) (fun h50 => ?_)
        refine r_aloadR0 dX12_readUnit_53 ?_
        refine q_callV0 zm_RX12_172 dX12_readUnit_54 (shM_k hs) (by decide) rfl (Nat.le_of_ble_eq_true rfl) (Nat.le_of_ble_eq_true rfl) (Nat.le_of_ble_eq_true rfl) (Nat.le_of_ble_eq_true rfl) (Nat.le_of_ble_eq_true rfl) (s_X12_goesIn (d := 0) G hs htp hps hd16 (by decide) (by rw [hp]; decide) (fun g54 o54 a54 b54 c54 => ?_))
        have p54 := c54 (by decide)
        have htp54 := tpM_of htp (o54.2.1 5 (by decide) (by decide) (by decide)) (o54.2.2 7 (by decide))
        have w54 : g54 (A + 2) = f (A + 2) := o54.2.1 2 (by decide) (by decide) (by decide)
        refine r_aloadR0 dX12_readUnit_57 ?_
        refine q_callV0 zm_RX12_178 dX12_readUnit_58 (shM_k hs) (by decide) rfl (Nat.le_of_ble_eq_true rfl) (Nat.le_of_ble_eq_true rfl) (Nat.le_of_ble_eq_true rfl) (Nat.le_of_ble_eq_true rfl) (Nat.le_of_ble_eq_true rfl) (s_X12_readTruth_5 (lm := lm) (la := la) (u := u) G hs kw hld htp54 p54 (by rw [a54]; rfl) (by rw [o54.2.2 17 (by decide)]; exact hlm) (by rw [o54.2.2 18 (by decide)]; exact hla) (by rw [w54]; exact hu) h5 h29 h99 (by omega) (fun g58 o58 d58 p58 k58 => ?_))
        have p58b : psM B n g58 A (trU B n (unP B n (if lm = 5 then 8 else 6) 5) (nxP B n p)).1 (trU B n (unP B n (if lm = 5 then 8 else 6) 5) (nxP B n p)).2.1 := p58
        have of58 : frM A [2] [8, 9, 10, 11, 12, 13, 16] f g58 := frM_tr (frM_su o54 (by decide) (by decide)) o58
        have htp58 := tpM_of htp (of58.2.1 5 (by decide) (by decide) (by decide)) (of58.2.2 7 (by decide))
        have p58c := p58b
        rw [hr] at p58c
        refine r_aloadR0 dX12_readUnit_61 ?_
        refine n_bipush dX12_readUnit_62 (by decide) (fun r62 e62 => ?_)
        refine q_callV1 zm_RX12_151 dX12_readUnit_64 (shM_k hs) (by decide) rfl (Nat.le_of_ble_eq_true rfl) (Nat.le_of_ble_eq_true rfl) (Nat.le_of_ble_eq_true rfl) (Nat.le_of_ble_eq_true rfl) (Nat.le_of_ble_eq_true rfl) (s_X12_mustSign (p := (trU B n (unP B n (if lm = 5 then 8 else 6) 5) (nxP B n p)).2.1) (c := 93) G hs htp58 p58c e62 (by decide) (fun g64 o64 a64 b64 => ?_))
        have d64 : (g64 A 16).toInt = 1 := by rw [o64.2.2 16 (by decide)]; exact d58
        refine r_aloadR0 dX12_readUnit_67 ?_
        refine r_dup dX12_readUnit_68 rfl ?_
        refine m_getV (x := (g64 A 16)) zf_RX12_154 rfl dX12_readUnit_69 (shM_k hs) (rfl) ?_
        refine n_iconst dX12_readUnit_72 (by decide) (fun r72 e72_z => ?_)
        refine n_isub dX12_readUnit_73 (by omega) (fun r73 e73 => ?_)
        refine m_putI zf_RX12_154 (by intro C T N h_z; cases h_z; rfl) rfl dX12_readUnit_74 (shM_k hs) ?_
        obtain ⟨g74, hg74⟩ : ∃ g9, g9 = zu g64 A 16 r73 := ⟨_, rfl⟩
        rw [← hg74]
        have og74 : frM A [] [16] g64 g74 := by rw [hg74]; exact frM_zk frM_rf (by decide)
        have vg74 : g74 A 16 = r73 := by rw [hg74]; exact zu_at
        have vt74 : (g74 A 16).toInt = r73.toInt := by rw [vg74]
        refine r_goto (t := 155) dX12_readUnit_77 (by decide) ?_
        refine r_vret dX12_readUnit_155 rfl (Nat.le_of_ble_eq_true rfl) (Nat.le_of_ble_eq_true rfl) ?_
        exact hQ _ (frM_tr (frM_tr of58 (frM_su o64 (by decide) (by decide))) (frM_su og74 (by decide) (by decide))) (by rw [vt74]; omega) (psM_of (a64 h93) (og74.2.2 8 (by decide)) (og74.2.2 9 (by decide)) (og74.2.2 10 (by decide)) (og74.2.2 11 (by decide)) (og74.2.2 12 (by decide)) (og74.2.2 13 (by decide))) (fun _ => okM_cg (k58 hr) w54 ((og74.2.1 2 (by decide) (by decide) (by decide)).trans (o64.2.1 2 (by decide) (by decide) (by decide))))
      · have hv2 : clP B n 93 (trU B n (unP B n (if lm = 5 then 8 else 6) 5) (nxP B n p)) = (baP B n (trU B n (unP B n (if lm = 5 then 8 else 6) 5) (nxP B n p)).2.1, (trU B n (unP B n (if lm = 5 then 8 else 6) 5) (nxP B n p)).2.1, []) := (if_neg (not_not_intro hr)).trans (if_neg h93)
        rw [hv2] at hQ
        refine r_aloadR0 dX12_readUnit_0 ?_
        refine m_getV (x := (f A 12)) zf_RX12_112 rfl dX12_readUnit_1 (shM_k hs) (rfl) ?_
        refine t_ifeq (t := 8) dX12_readUnit_4 (by decide) (fun h4 => ?_) (fun h4 => False.elim (by omega))
        refine r_aloadR0 dX12_readUnit_8 ?_
        refine k_ldc (hld _ (List.mem_of_getElem? (i := 2) rfl)) dX12_readUnit_9 ?_
        refine q_callV1 zm_RX12_127 dX12_readUnit_11 (shM_k hs) (by decide) rfl (Nat.le_of_ble_eq_true rfl) (Nat.le_of_ble_eq_true rfl) (Nat.le_of_ble_eq_true rfl) (Nat.le_of_ble_eq_true rfl) (Nat.le_of_ble_eq_true rfl) (s_X12_isWord (i := 8) G hs kw (by decide) htp hps (fun r11 e11_z => ?_))
        have e11b : r11.toInt = 0 := e11_z.elim (fun h_z => absurd h_z.2 hw) (fun h_z => h_z.1)
        refine t_ifeq (t := 44) dX12_readUnit_14 (by decide) (fun h14 => ?_) (fun h14 => False.elim (by omega))
        refine r_aloadR0 dX12_readUnit_44 ?_
        refine n_bipush dX12_readUnit_45 (by decide) (fun r45 e45 => ?_)
        refine q_callV1 zm_RX12_175 dX12_readUnit_47 (shM_k hs) (by decide) rfl (Nat.le_of_ble_eq_true rfl) (Nat.le_of_ble_eq_true rfl) (Nat.le_of_ble_eq_true rfl) (Nat.le_of_ble_eq_true rfl) (Nat.le_of_ble_eq_true rfl) (s_X12_isSign G hs (fun r47 e47 => ?_))
        refine t_ifeq (t := 80) dX12_readUnit_50 (by decide) (fun h50 => False.elim (by omega)) (fun h50 => ?_)
        refine r_aloadR0 dX12_readUnit_53 ?_
        refine q_callV0 zm_RX12_172 dX12_readUnit_54 (shM_k hs) (by decide) rfl (Nat.le_of_ble_eq_true rfl) (Nat.le_of_ble_eq_true rfl) (Nat.le_of_ble_eq_true rfl) (Nat.le_of_ble_eq_true rfl) (Nat.le_of_ble_eq_true rfl) (s_X12_goesIn (d := 0) G hs htp hps hd16 (by decide) (by rw [hp]; decide) (fun g54 o54 a54 b54 c54 => ?_))
        have p54 := c54 (by decide)
        have htp54 := tpM_of htp (o54.2.1 5 (by decide) (by decide) (by decide)) (o54.2.2 7 (by decide))
        have w54 : g54 (A + 2) = f (A + 2) := o54.2.1 2 (by decide) (by decide) (by decide)
        refine r_aloadR0 dX12_readUnit_57 ?_
        refine q_callV0 zm_RX12_178 dX12_readUnit_58 (shM_k hs) (by decide) rfl (Nat.le_of_ble_eq_true rfl) (Nat.le_of_ble_eq_true rfl) (Nat.le_of_ble_eq_true rfl) (Nat.le_of_ble_eq_true rfl) (Nat.le_of_ble_eq_true rfl) (s_X12_readTruth_5 (lm := lm) (la := la) (u := u) G hs kw hld htp54 p54 (by rw [a54]; rfl) (by rw [o54.2.2 17 (by decide)]; exact hlm) (by rw [o54.2.2 18 (by decide)]; exact hla) (by rw [w54]; exact hu) h5 h29 h99 (by omega) (fun g58 o58 d58 p58 k58 => ?_))
        have p58b : psM B n g58 A (trU B n (unP B n (if lm = 5 then 8 else 6) 5) (nxP B n p)).1 (trU B n (unP B n (if lm = 5 then 8 else 6) 5) (nxP B n p)).2.1 := p58
        have of58 : frM A [2] [8, 9, 10, 11, 12, 13, 16] f g58 := frM_tr (frM_su o54 (by decide) (by decide)) o58
        have htp58 := tpM_of htp (of58.2.1 5 (by decide) (by decide) (by decide)) (of58.2.2 7 (by decide))
        have p58c := p58b
        rw [hr] at p58c
        refine r_aloadR0 dX12_readUnit_61 ?_
        refine n_bipush dX12_readUnit_62 (by decide) (fun r62 e62 => ?_)
        refine q_callV1 zm_RX12_151 dX12_readUnit_64 (shM_k hs) (by decide) rfl (Nat.le_of_ble_eq_true rfl) (Nat.le_of_ble_eq_true rfl) (Nat.le_of_ble_eq_true rfl) (Nat.le_of_ble_eq_true rfl) (Nat.le_of_ble_eq_true rfl) (s_X12_mustSign (p := (trU B n (unP B n (if lm = 5 then 8 else 6) 5) (nxP B n p)).2.1) (c := 93) G hs htp58 p58c e62 (by decide) (fun g64 o64 a64 b64 => ?_))
        have d64 : (g64 A 16).toInt = 1 := by rw [o64.2.2 16 (by decide)]; exact d58
        refine r_aloadR0 dX12_readUnit_67 ?_
        refine r_dup dX12_readUnit_68 rfl ?_
        refine m_getV (x := (g64 A 16)) zf_RX12_154 rfl dX12_readUnit_69 (shM_k hs) (rfl) ?_
        refine n_iconst dX12_readUnit_72 (by decide) (fun r72 e72_z => ?_)
        refine n_isub dX12_readUnit_73 (by omega) (fun r73 e73 => ?_)
        refine m_putI zf_RX12_154 (by intro C T N h_z; cases h_z; rfl) rfl dX12_readUnit_74 (shM_k hs) ?_
        obtain ⟨g74, hg74⟩ : ∃ g9, g9 = zu g64 A 16 r73 := ⟨_, rfl⟩
        rw [← hg74]
        have og74 : frM A [] [16] g64 g74 := by rw [hg74]; exact frM_zk frM_rf (by decide)
        have vg74 : g74 A 16 = r73 := by rw [hg74]; exact zu_at
        have vt74 : (g74 A 16).toInt = r73.toInt := by rw [vg74]
        refine r_goto (t := 155) dX12_readUnit_77 (by decide) ?_
        refine r_vret dX12_readUnit_155 rfl (Nat.le_of_ble_eq_true rfl) (Nat.le_of_ble_eq_true rfl) ?_
        exact hQ _ (frM_tr (frM_tr of58 (frM_su o64 (by decide) (by decide))) (frM_su og74 (by decide) (by decide))) (by rw [vt74]; omega) (psM_of (b64 h93) (og74.2.2 8 (by decide)) (og74.2.2 9 (by decide)) (og74.2.2 10 (by decide)) (og74.2.2 11 (by decide)) (og74.2.2 12 (by decide)) (og74.2.2 13 (by decide))) (fun h_z => absurd h_z ba_bd.1)
    · have hv2 : clP B n 93 (trU B n (unP B n (if lm = 5 then 8 else 6) 5) (nxP B n p)) = (trU B n (unP B n (if lm = 5 then 8 else 6) 5) (nxP B n p)) := if_pos hr
      rw [hv2] at hQ
      refine r_aloadR0 dX12_readUnit_0 ?_
      refine m_getV (x := (f A 12)) zf_RX12_112 rfl dX12_readUnit_1 (shM_k hs) (rfl) ?_
      refine t_ifeq (t := 8) dX12_readUnit_4 (by decide) (fun h4 => ?_) (fun h4 => False.elim (by omega))
      refine r_aloadR0 dX12_readUnit_8 ?_
      refine k_ldc (hld _ (List.mem_of_getElem? (i := 2) rfl)) dX12_readUnit_9 ?_
      refine q_callV1 zm_RX12_127 dX12_readUnit_11 (shM_k hs) (by decide) rfl (Nat.le_of_ble_eq_true rfl) (Nat.le_of_ble_eq_true rfl) (Nat.le_of_ble_eq_true rfl) (Nat.le_of_ble_eq_true rfl) (Nat.le_of_ble_eq_true rfl) (s_X12_isWord (i := 8) G hs kw (by decide) htp hps (fun r11 e11_z => ?_))
      have e11b : r11.toInt = 0 := e11_z.elim (fun h_z => absurd h_z.2 hw) (fun h_z => h_z.1)
      refine t_ifeq (t := 44) dX12_readUnit_14 (by decide) (fun h14 => ?_) (fun h14 => False.elim (by omega))
      refine r_aloadR0 dX12_readUnit_44 ?_
      refine n_bipush dX12_readUnit_45 (by decide) (fun r45 e45 => ?_)
      refine q_callV1 zm_RX12_175 dX12_readUnit_47 (shM_k hs) (by decide) rfl (Nat.le_of_ble_eq_true rfl) (Nat.le_of_ble_eq_true rfl) (Nat.le_of_ble_eq_true rfl) (Nat.le_of_ble_eq_true rfl) (Nat.le_of_ble_eq_true rfl) (s_X12_isSign G hs (fun r47 e47 => ?_))
      refine t_ifeq (t := 80) dX12_readUnit_50 (by decide) (fun h50 => False.elim (by omega)) (fun h50 => ?_)
      refine r_aloadR0 dX12_readUnit_53 ?_
      refine q_callV0 zm_RX12_172 dX12_readUnit_54 (shM_k hs) (by decide) rfl (Nat.le_of_ble_eq_true rfl) (Nat.le_of_ble_eq_true rfl) (Nat.le_of_ble_eq_true rfl) (Nat.le_of_ble_eq_true rfl) (Nat.le_of_ble_eq_true rfl) (s_X12_goesIn (d := 0) G hs htp hps hd16 (by decide) (by rw [hp]; decide) (fun g54 o54 a54 b54 c54 => ?_))
      have p54 := c54 (by decide)
      have htp54 := tpM_of htp (o54.2.1 5 (by decide) (by decide) (by decide)) (o54.2.2 7 (by decide))
      have w54 : g54 (A + 2) = f (A + 2) := o54.2.1 2 (by decide) (by decide) (by decide)
      refine r_aloadR0 dX12_readUnit_57 ?_
      refine q_callV0 zm_RX12_178 dX12_readUnit_58 (shM_k hs) (by decide) rfl (Nat.le_of_ble_eq_true rfl) (Nat.le_of_ble_eq_true rfl) (Nat.le_of_ble_eq_true rfl) (Nat.le_of_ble_eq_true rfl) (Nat.le_of_ble_eq_true rfl) (s_X12_readTruth_5 (lm := lm) (la := la) (u := u) G hs kw hld htp54 p54 (by rw [a54]; rfl) (by rw [o54.2.2 17 (by decide)]; exact hlm) (by rw [o54.2.2 18 (by decide)]; exact hla) (by rw [w54]; exact hu) h5 h29 h99 (by omega) (fun g58 o58 d58 p58 k58 => ?_))
      have p58b : psM B n g58 A (trU B n (unP B n (if lm = 5 then 8 else 6) 5) (nxP B n p)).1 (trU B n (unP B n (if lm = 5 then 8 else 6) 5) (nxP B n p)).2.1 := p58
      have of58 : frM A [2] [8, 9, 10, 11, 12, 13, 16] f g58 := frM_tr (frM_su o54 (by decide) (by decide)) o58
      have htp58 := tpM_of htp (of58.2.1 5 (by decide) (by decide) (by decide)) (of58.2.2 7 (by decide))
      have nb : (g58 A 12).toInt ≠ 0 := by rw [p58b.1]; omega
      have d58b : (g58 A 16).toInt = 1 := d58
      refine r_aloadR0 dX12_readUnit_61 ?_
      refine n_bipush dX12_readUnit_62 (by decide) (fun r62 e62 => ?_)
      refine q_callV1 zm_RX12_151 dX12_readUnit_64 (shM_k hs) (by decide) rfl (Nat.le_of_ble_eq_true rfl) (Nat.le_of_ble_eq_true rfl) (Nat.le_of_ble_eq_true rfl) (Nat.le_of_ble_eq_true rfl) (Nat.le_of_ble_eq_true rfl) (s_X12_mustSign_x G hs nb ?_)
      refine r_aloadR0 dX12_readUnit_67 ?_
      refine r_dup dX12_readUnit_68 rfl ?_
      refine m_getV (x := (g58 A 16)) zf_RX12_154 rfl dX12_readUnit_69 (shM_k hs) (rfl) ?_
      refine n_iconst dX12_readUnit_72 (by decide) (fun r72 e72_z => ?_)
      refine n_isub dX12_readUnit_73 (by omega) (fun r73 e73 => ?_)
      refine m_putI zf_RX12_154 (by intro C T N h_z; cases h_z; rfl) rfl dX12_readUnit_74 (shM_k hs) ?_
      obtain ⟨g74, hg74⟩ : ∃ g9, g9 = zu g58 A 16 r73 := ⟨_, rfl⟩
      rw [← hg74]
      have og74 : frM A [] [16] g58 g74 := by rw [hg74]; exact frM_zk frM_rf (by decide)
      have vg74 : g74 A 16 = r73 := by rw [hg74]; exact zu_at
      have vt74 : (g74 A 16).toInt = r73.toInt := by rw [vg74]
      refine r_goto (t := 155) dX12_readUnit_77 (by decide) ?_
      refine r_vret dX12_readUnit_155 rfl (Nat.le_of_ble_eq_true rfl) (Nat.le_of_ble_eq_true rfl) ?_
      exact hQ _ (frM_tr of58 (frM_su og74 (by decide) (by decide))) (by rw [vt74]; omega) (psM_of p58b (og74.2.2 8 (by decide)) (og74.2.2 9 (by decide)) (og74.2.2 10 (by decide)) (og74.2.2 11 (by decide)) (og74.2.2 12 (by decide)) (og74.2.2 13 (by decide))) (fun h_z => absurd h_z hr)
  have hrk2 : rkP B n p ≠ 91 := fun h_z => hp (hrk.mp h_z)
  have hv0 : unP B n (if lm = 5 then 8 else 6) 6 p = cmP B n (smP B n (if lm = 5 then 8 else 6) 6) p := (if_neg hw).trans (if_neg hp)
  rw [hv0] at hQ
  by_cases hr : (smP B n (if lm = 5 then 8 else 6) 6 p).1 = 0
  · have p81c : ∀ g, psM B n g A (smP B n (if lm = 5 then 8 else 6) 6 p).1 (smP B n (if lm = 5 then 8 else 6) 6 p).2.1 → psM B n g A 0 (smP B n (if lm = 5 then 8 else 6) 6 p).2.1 := fun g h_z => by rw [hr] at h_z; exact h_z
    obtain ⟨y1, y2, y3, y4⟩ := (hsm p ht.1).1 hr
    have q61 := rk4 (B := B) (n := n) (s := (smP B n (if lm = 5 then 8 else 6) 6 p).2.1) (c := 61) (by decide)
    have q60 := rk4 (B := B) (n := n) (s := (smP B n (if lm = 5 then 8 else 6) 6 p).2.1) (c := 60) (by decide)
    have q62 := rk4 (B := B) (n := n) (s := (smP B n (if lm = 5 then 8 else 6) 6 p).2.1) (c := 62) (by decide)
    by_cases hc_z : tkP B n (smP B n (if lm = 5 then 8 else 6) 6 p).2.1 = 61
    · have h10c := q61.mpr hc_z
      have hop : opC B n (smP B n (if lm = 5 then 8 else 6) 6 p).2.1 = 2006 := if_pos hc_z
      have hop0 : opC B n (smP B n (if lm = 5 then 8 else 6) 6 p).2.1 ≠ 0 := by rw [hop]; decide
      have hln := tk_lt (B := B) (n := n) (s := (smP B n (if lm = 5 then 8 else 6) 6 p).2.1) (by rw [hc_z]; decide)
      have hnx := nxP_gt (B := B) hln
      by_cases hq : (smP B n (if lm = 5 then 8 else 6) 6 (nxP B n (smP B n (if lm = 5 then 8 else 6) 6 p).2.1)).1 = 0
      · obtain ⟨z1, z2, z3, z4⟩ := (hsm _ hnx.2).1 hq
        have hv : cmP B n (smP B n (if lm = 5 then 8 else 6) 6) p = (0, (smP B n (if lm = 5 then 8 else 6) 6 (nxP B n (smP B n (if lm = 5 then 8 else 6) 6 p).2.1)).2.1, (smP B n (if lm = 5 then 8 else 6) 6 p).2.2 ++ (smP B n (if lm = 5 then 8 else 6) 6 (nxP B n (smP B n (if lm = 5 then 8 else 6) 6 p).2.1)).2.2 ++ [opC B n (smP B n (if lm = 5 then 8 else 6) 6 p).2.1]) := (if_neg (not_not_intro hr)).trans ((if_neg hop0).trans (if_neg (not_not_intro hq)))
        rw [hv, hop] at hQ
        refine r_aloadR0 dX12_readUnit_0 ?_
        refine m_getV (x := (f A 12)) zf_RX12_112 rfl dX12_readUnit_1 (shM_k hs) (rfl) ?_
        refine t_ifeq (t := 8) dX12_readUnit_4 (by decide) (fun h4 => ?_) (fun h4 => False.elim (by omega))
        refine r_aloadR0 dX12_readUnit_8 ?_
        refine k_ldc (hld _ (List.mem_of_getElem? (i := 2) rfl)) dX12_readUnit_9 ?_
        refine q_callV1 zm_RX12_127 dX12_readUnit_11 (shM_k hs) (by decide) rfl (Nat.le_of_ble_eq_true rfl) (Nat.le_of_ble_eq_true rfl) (Nat.le_of_ble_eq_true rfl) (Nat.le_of_ble_eq_true rfl) (Nat.le_of_ble_eq_true rfl) (s_X12_isWord (i := 8) G hs kw (by decide) htp hps (fun r11 e11_z => ?_))
        have e11b : r11.toInt = 0 := e11_z.elim (fun h_z => absurd h_z.2 hw) (fun h_z => h_z.1)
        refine t_ifeq (t := 44) dX12_readUnit_14 (by decide) (fun h14 => ?_) (fun h14 => False.elim (by omega))
        refine r_aloadR0 dX12_readUnit_44 ?_
        refine n_bipush dX12_readUnit_45 (by decide) (fun r45 e45 => ?_)
        refine q_callV1 zm_RX12_175 dX12_readUnit_47 (shM_k hs) (by decide) rfl (Nat.le_of_ble_eq_true rfl) (Nat.le_of_ble_eq_true rfl) (Nat.le_of_ble_eq_true rfl) (Nat.le_of_ble_eq_true rfl) (Nat.le_of_ble_eq_true rfl) (s_X12_isSign G hs (fun r47 e47 => ?_))
        refine t_ifeq (t := 80) dX12_readUnit_50 (by decide) (fun h50 => ?_) (fun h50 => False.elim (by omega))
        refine r_aloadR0 dX12_readUnit_80 ?_
        refine q_callV0 zm_RX12_181 dX12_readUnit_81 (shM_k hs) (by decide) rfl (Nat.le_of_ble_eq_true rfl) (Nat.le_of_ble_eq_true rfl) (Nat.le_of_ble_eq_true rfl) (Nat.le_of_ble_eq_true rfl) (Nat.le_of_ble_eq_true rfl) (s_X12_readSum_6 (lm := lm) (la := la) (u := u) G hs kw hld htp hps hd16 hlm hla hu h5 h29 h99 hup (fun g81 o81 d81 p81 k81 => ?_))
        have p81b : psM B n g81 A (smP B n (if lm = 5 then 8 else 6) 6 p).1 (smP B n (if lm = 5 then 8 else 6) 6 p).2.1 := p81
        have k81b : (smP B n (if lm = 5 then 8 else 6) 6 p).1 = 0 → okM f g81 A lm la u (smP B n (if lm = 5 then 8 else 6) 6 p).2.2 := k81
        have p81d := p81c _ p81b
        have t81 := p81d.2.1 rfl
        have h81 := t81.2.2.2.1
        have b81 := p81d.1
        have hte81 := teP_le (B := B) t81.1
        have htp81 := tpM_of htp (o81.2.1 5 (by decide) (by decide) (by decide)) (o81.2.2 7 (by decide))
        have k81c := k81b hr
        refine r_aloadR0 dX12_readUnit_84 ?_
        refine m_getV (x := (g81 A 10)) zf_RX12_92 rfl dX12_readUnit_85 (shM_k hs) (rfl) ?_
        refine r_istore1 dX12_readUnit_88 rfl ?_
        refine r_iload1 dX12_readUnit_89 ?_
        refine n_bipush dX12_readUnit_90 (by decide) (fun r90 e90_z => ?_)
        refine t_iceq (t := 112) dX12_readUnit_92 (by decide) (fun h92 => ?_) (fun h92 => False.elim (by omega))
        refine r_aloadR0 dX12_readUnit_112 ?_
        refine m_getV (x := (g81 A 12)) zf_RX12_112 rfl dX12_readUnit_113 (shM_k hs) (rfl) ?_
        refine t_ifne (t := 123) dX12_readUnit_116 (by decide) (fun h116 => False.elim (by omega)) (fun h116 => ?_)
        refine r_aloadR0 dX12_readUnit_119 ?_
        refine q_callV0 zm_RX12_131 dX12_readUnit_120 (shM_k hs) (by decide) rfl (Nat.le_of_ble_eq_true rfl) (Nat.le_of_ble_eq_true rfl) (Nat.le_of_ble_eq_true rfl) (Nat.le_of_ble_eq_true rfl) (Nat.le_of_ble_eq_true rfl) (s_X12_readsOn (p := teP B n (smP B n (if lm = 5 then 8 else 6) 6 p).2.1) G hs htp81 t81.2.1 hte81 (fun g120 o120 t120 => ?_))
        have htp120 := tpM_of htp81 (o120.2.1 5 (by decide) (by decide) (by decide)) (o120.2.2 7 (by decide))
        have hp120 : psM B n g120 A 0 (nxP B n (smP B n (if lm = 5 then 8 else 6) 6 p).2.1) := ⟨by rw [o120.2.2 12 (by decide)]; exact b81, fun _ => t120, fun h_z => absurd rfl h_z⟩
        have w120 : g120 (A + 2) = g81 (A + 2) := o120.2.1 2 (by decide) (by decide) (by decide)
        refine r_aloadR0 dX12_readUnit_123 ?_
        refine q_callV0 zm_RX12_181 dX12_readUnit_124 (shM_k hs) (by decide) rfl (Nat.le_of_ble_eq_true rfl) (Nat.le_of_ble_eq_true rfl) (Nat.le_of_ble_eq_true rfl) (Nat.le_of_ble_eq_true rfl) (Nat.le_of_ble_eq_true rfl) (s_X12_readSum_6 (lm := lm) (la := la) (u := u + (smP B n (if lm = 5 then 8 else 6) 6 p).2.2.length) G hs kw hld htp120 hp120 (by rw [o120.2.2 16 (by decide)]; exact d81) (by rw [o120.2.2 17 (by decide), o81.2.2 17 (by decide)]; exact hlm) (by rw [o120.2.2 18 (by decide), o81.2.2 18 (by decide)]; exact hla) (by rw [w120]; exact k81c.1) h5 h29 h99 (by omega) (fun g124 o124 d124 p124 k124 => ?_))
        have of124 : frM A [2] [8, 9, 10, 11, 12, 13, 16] f g124 := frM_tr o81 (frM_tr (frM_su o120 (by decide) (by decide)) o124)
        have p124b : psM B n g124 A (smP B n (if lm = 5 then 8 else 6) 6 (nxP B n (smP B n (if lm = 5 then 8 else 6) 6 p).2.1)).1 (smP B n (if lm = 5 then 8 else 6) 6 (nxP B n (smP B n (if lm = 5 then 8 else 6) 6 p).2.1)).2.1 := p124
        have k124b : (smP B n (if lm = 5 then 8 else 6) 6 (nxP B n (smP B n (if lm = 5 then 8 else 6) 6 p).2.1)).1 = 0 → okM g120 g124 A lm la (u + (smP B n (if lm = 5 then 8 else 6) 6 p).2.2.length) (smP B n (if lm = 5 then 8 else 6) 6 (nxP B n (smP B n (if lm = 5 then 8 else 6) 6 p).2.1)).2.2 := k124
        refine r_aloadR0 dX12_readUnit_127 ?_
        refine r_iload1 dX12_readUnit_128 ?_
        refine n_bipush dX12_readUnit_129 (by decide) (fun r129 e129 => ?_)
        refine t_icne (t := 139) dX12_readUnit_131 (by decide) (fun h131 => False.elim (by omega)) (fun h131 => ?_)
        refine n_bipush dX12_readUnit_134 (by decide) (fun r134 e134 => ?_)
        refine r_goto (t := 152) dX12_readUnit_136 (by decide) ?_
        refine q_callV1 zm_RX12_162 dX12_readUnit_152 (shM_k hs) (by decide) rfl (Nat.le_of_ble_eq_true rfl) (Nat.le_of_ble_eq_true rfl) (Nat.le_of_ble_eq_true rfl) (Nat.le_of_ble_eq_true rfl) (Nat.le_of_ble_eq_true rfl) (s_X12_laysStep (lm := lm) (la := la) (u := u + (smP B n (if lm = 5 then 8 else 6) 6 p).2.2.length + (smP B n (if lm = 5 then 8 else 6) 6 (nxP B n (smP B n (if lm = 5 then 8 else 6) 6 p).2.1)).2.2.length) G hs (by have := p124b.1; rw [hq] at this; exact this) (by rw [of124.2.2 17 (by decide)]; exact hlm) (by rw [of124.2.2 18 (by decide)]; exact hla) (k124b hq).1 h5 h29 (by omega) (fun g152 o152 a152 b152 c152 => ?_))
        have p124c := p124b
        rw [hq] at p124c
        refine r_vret dX12_readUnit_155 rfl (Nat.le_of_ble_eq_true rfl) (Nat.le_of_ble_eq_true rfl) ?_
        refine hQ _ (frM_tr of124 (frM_su o152 (by decide) (by decide))) (by rw [o152.2.2 16 (by decide)]; exact d124) (psM_of p124c (o152.2.2 8 (by decide)) (o152.2.2 9 (by decide)) (o152.2.2 10 (by decide)) (o152.2.2 11 (by decide)) (o152.2.2 12 (by decide)) (o152.2.2 13 (by decide))) (fun _ => okM_ap (by omega) (by rw [List.length_append]; omega) (okM_ap (by omega) (by omega) k81c (okM_cg (k124b hq) w120 rfl)) ?_)
        rw [List.length_append, ← Nat.add_assoc]
        exact okM_one (by omega) a152 b152 c152 (by rw [e134]; rfl)
      · have hv : cmP B n (smP B n (if lm = 5 then 8 else 6) 6) p = (smP B n (if lm = 5 then 8 else 6) 6 (nxP B n (smP B n (if lm = 5 then 8 else 6) 6 p).2.1)) := (if_neg (not_not_intro hr)).trans ((if_neg hop0).trans (if_pos hq))
        rw [hv] at hQ
        refine r_aloadR0 dX12_readUnit_0 ?_
        refine m_getV (x := (f A 12)) zf_RX12_112 rfl dX12_readUnit_1 (shM_k hs) (rfl) ?_
        refine t_ifeq (t := 8) dX12_readUnit_4 (by decide) (fun h4 => ?_) (fun h4 => False.elim (by omega))
        refine r_aloadR0 dX12_readUnit_8 ?_
        refine k_ldc (hld _ (List.mem_of_getElem? (i := 2) rfl)) dX12_readUnit_9 ?_
        refine q_callV1 zm_RX12_127 dX12_readUnit_11 (shM_k hs) (by decide) rfl (Nat.le_of_ble_eq_true rfl) (Nat.le_of_ble_eq_true rfl) (Nat.le_of_ble_eq_true rfl) (Nat.le_of_ble_eq_true rfl) (Nat.le_of_ble_eq_true rfl) (s_X12_isWord (i := 8) G hs kw (by decide) htp hps (fun r11 e11_z => ?_))
        have e11b : r11.toInt = 0 := e11_z.elim (fun h_z => absurd h_z.2 hw) (fun h_z => h_z.1)
        refine t_ifeq (t := 44) dX12_readUnit_14 (by decide) (fun h14 => ?_) (fun h14 => False.elim (by omega))
        refine r_aloadR0 dX12_readUnit_44 ?_
        refine n_bipush dX12_readUnit_45 (by decide) (fun r45 e45 => ?_)
        refine q_callV1 zm_RX12_175 dX12_readUnit_47 (shM_k hs) (by decide) rfl (Nat.le_of_ble_eq_true rfl) (Nat.le_of_ble_eq_true rfl) (Nat.le_of_ble_eq_true rfl) (Nat.le_of_ble_eq_true rfl) (Nat.le_of_ble_eq_true rfl) (s_X12_isSign G hs (fun r47 e47 => ?_))
        refine t_ifeq (t := 80) dX12_readUnit_50 (by decide) (fun h50 => ?_) (fun h50 => False.elim (by omega))
        refine r_aloadR0 dX12_readUnit_80 ?_
        refine q_callV0 zm_RX12_181 dX12_readUnit_81 (shM_k hs) (by decide) rfl (Nat.le_of_ble_eq_true rfl) (Nat.le_of_ble_eq_true rfl) (Nat.le_of_ble_eq_true rfl) (Nat.le_of_ble_eq_true rfl) (Nat.le_of_ble_eq_true rfl) (s_X12_readSum_6 (lm := lm) (la := la) (u := u) G hs kw hld htp hps hd16 hlm hla hu h5 h29 h99 hup (fun g81 o81 d81 p81 k81 => ?_))
        have p81b : psM B n g81 A (smP B n (if lm = 5 then 8 else 6) 6 p).1 (smP B n (if lm = 5 then 8 else 6) 6 p).2.1 := p81
        have k81b : (smP B n (if lm = 5 then 8 else 6) 6 p).1 = 0 → okM f g81 A lm la u (smP B n (if lm = 5 then 8 else 6) 6 p).2.2 := k81
        have p81d := p81c _ p81b
        have t81 := p81d.2.1 rfl
        have h81 := t81.2.2.2.1
        have b81 := p81d.1
        have hte81 := teP_le (B := B) t81.1
        have htp81 := tpM_of htp (o81.2.1 5 (by decide) (by decide) (by decide)) (o81.2.2 7 (by decide))
        have k81c := k81b hr
        refine r_aloadR0 dX12_readUnit_84 ?_
        refine m_getV (x := (g81 A 10)) zf_RX12_92 rfl dX12_readUnit_85 (shM_k hs) (rfl) ?_
        refine r_istore1 dX12_readUnit_88 rfl ?_
        refine r_iload1 dX12_readUnit_89 ?_
        refine n_bipush dX12_readUnit_90 (by decide) (fun r90 e90_z => ?_)
        refine t_iceq (t := 112) dX12_readUnit_92 (by decide) (fun h92 => ?_) (fun h92 => False.elim (by omega))
        refine r_aloadR0 dX12_readUnit_112 ?_
        refine m_getV (x := (g81 A 12)) zf_RX12_112 rfl dX12_readUnit_113 (shM_k hs) (rfl) ?_
        refine t_ifne (t := 123) dX12_readUnit_116 (by decide) (fun h116 => False.elim (by omega)) (fun h116 => ?_)
        refine r_aloadR0 dX12_readUnit_119 ?_
        refine q_callV0 zm_RX12_131 dX12_readUnit_120 (shM_k hs) (by decide) rfl (Nat.le_of_ble_eq_true rfl) (Nat.le_of_ble_eq_true rfl) (Nat.le_of_ble_eq_true rfl) (Nat.le_of_ble_eq_true rfl) (Nat.le_of_ble_eq_true rfl) (s_X12_readsOn (p := teP B n (smP B n (if lm = 5 then 8 else 6) 6 p).2.1) G hs htp81 t81.2.1 hte81 (fun g120 o120 t120 => ?_))
        have htp120 := tpM_of htp81 (o120.2.1 5 (by decide) (by decide) (by decide)) (o120.2.2 7 (by decide))
        have hp120 : psM B n g120 A 0 (nxP B n (smP B n (if lm = 5 then 8 else 6) 6 p).2.1) := ⟨by rw [o120.2.2 12 (by decide)]; exact b81, fun _ => t120, fun h_z => absurd rfl h_z⟩
        have w120 : g120 (A + 2) = g81 (A + 2) := o120.2.1 2 (by decide) (by decide) (by decide)
        refine r_aloadR0 dX12_readUnit_123 ?_
        refine q_callV0 zm_RX12_181 dX12_readUnit_124 (shM_k hs) (by decide) rfl (Nat.le_of_ble_eq_true rfl) (Nat.le_of_ble_eq_true rfl) (Nat.le_of_ble_eq_true rfl) (Nat.le_of_ble_eq_true rfl) (Nat.le_of_ble_eq_true rfl) (s_X12_readSum_6 (lm := lm) (la := la) (u := u + (smP B n (if lm = 5 then 8 else 6) 6 p).2.2.length) G hs kw hld htp120 hp120 (by rw [o120.2.2 16 (by decide)]; exact d81) (by rw [o120.2.2 17 (by decide), o81.2.2 17 (by decide)]; exact hlm) (by rw [o120.2.2 18 (by decide), o81.2.2 18 (by decide)]; exact hla) (by rw [w120]; exact k81c.1) h5 h29 h99 (by omega) (fun g124 o124 d124 p124 k124 => ?_))
        have of124 : frM A [2] [8, 9, 10, 11, 12, 13, 16] f g124 := frM_tr o81 (frM_tr (frM_su o120 (by decide) (by decide)) o124)
        have p124b : psM B n g124 A (smP B n (if lm = 5 then 8 else 6) 6 (nxP B n (smP B n (if lm = 5 then 8 else 6) 6 p).2.1)).1 (smP B n (if lm = 5 then 8 else 6) 6 (nxP B n (smP B n (if lm = 5 then 8 else 6) 6 p).2.1)).2.1 := p124
        have k124b : (smP B n (if lm = 5 then 8 else 6) 6 (nxP B n (smP B n (if lm = 5 then 8 else 6) 6 p).2.1)).1 = 0 → okM g120 g124 A lm la (u + (smP B n (if lm = 5 then 8 else 6) 6 p).2.2.length) (smP B n (if lm = 5 then 8 else 6) 6 (nxP B n (smP B n (if lm = 5 then 8 else 6) 6 p).2.1)).2.2 := k124
        refine r_aloadR0 dX12_readUnit_127 ?_
        refine r_iload1 dX12_readUnit_128 ?_
        refine n_bipush dX12_readUnit_129 (by decide) (fun r129 e129 => ?_)
        refine t_icne (t := 139) dX12_readUnit_131 (by decide) (fun h131 => False.elim (by omega)) (fun h131 => ?_)
        refine n_bipush dX12_readUnit_134 (by decide) (fun r134 e134 => ?_)
        refine r_goto (t := 152) dX12_readUnit_136 (by decide) ?_
        refine q_callV1 zm_RX12_162 dX12_readUnit_152 (shM_k hs) (by decide) rfl (Nat.le_of_ble_eq_true rfl) (Nat.le_of_ble_eq_true rfl) (Nat.le_of_ble_eq_true rfl) (Nat.le_of_ble_eq_true rfl) (Nat.le_of_ble_eq_true rfl) (s_X12_laysStep_x G hs (by rw [p124b.1]; omega) ?_)
        refine r_vret dX12_readUnit_155 rfl (Nat.le_of_ble_eq_true rfl) (Nat.le_of_ble_eq_true rfl) ?_
        exact hQ _ of124 d124 p124b (fun h_z => absurd h_z hq)
    have hn61 := hc_z
    have hm61 : rkP B n (smP B n (if lm = 5 then 8 else 6) 6 p).2.1 ≠ 61 := fun h_z => hc_z (q61.mp h_z)
    clear hc_z
    by_cases hc_z : tkP B n (smP B n (if lm = 5 then 8 else 6) 6 p).2.1 = 60
    · have h10c := q60.mpr hc_z
      have hop : opC B n (smP B n (if lm = 5 then 8 else 6) 6 p).2.1 = 2007 := (if_neg (by omega)).trans (if_pos hc_z)
      have hop0 : opC B n (smP B n (if lm = 5 then 8 else 6) 6 p).2.1 ≠ 0 := by rw [hop]; decide
      have hln := tk_lt (B := B) (n := n) (s := (smP B n (if lm = 5 then 8 else 6) 6 p).2.1) (by rw [hc_z]; decide)
      have hnx := nxP_gt (B := B) hln
      by_cases hq : (smP B n (if lm = 5 then 8 else 6) 6 (nxP B n (smP B n (if lm = 5 then 8 else 6) 6 p).2.1)).1 = 0
      · obtain ⟨z1, z2, z3, z4⟩ := (hsm _ hnx.2).1 hq
        have hv : cmP B n (smP B n (if lm = 5 then 8 else 6) 6) p = (0, (smP B n (if lm = 5 then 8 else 6) 6 (nxP B n (smP B n (if lm = 5 then 8 else 6) 6 p).2.1)).2.1, (smP B n (if lm = 5 then 8 else 6) 6 p).2.2 ++ (smP B n (if lm = 5 then 8 else 6) 6 (nxP B n (smP B n (if lm = 5 then 8 else 6) 6 p).2.1)).2.2 ++ [opC B n (smP B n (if lm = 5 then 8 else 6) 6 p).2.1]) := (if_neg (not_not_intro hr)).trans ((if_neg hop0).trans (if_neg (not_not_intro hq)))
        rw [hv, hop] at hQ
        refine r_aloadR0 dX12_readUnit_0 ?_
        refine m_getV (x := (f A 12)) zf_RX12_112 rfl dX12_readUnit_1 (shM_k hs) (rfl) ?_
        refine t_ifeq (t := 8) dX12_readUnit_4 (by decide) (fun h4 => ?_) (fun h4 => False.elim (by omega))
        refine r_aloadR0 dX12_readUnit_8 ?_
        refine k_ldc (hld _ (List.mem_of_getElem? (i := 2) rfl)) dX12_readUnit_9 ?_
        refine q_callV1 zm_RX12_127 dX12_readUnit_11 (shM_k hs) (by decide) rfl (Nat.le_of_ble_eq_true rfl) (Nat.le_of_ble_eq_true rfl) (Nat.le_of_ble_eq_true rfl) (Nat.le_of_ble_eq_true rfl) (Nat.le_of_ble_eq_true rfl) (s_X12_isWord (i := 8) G hs kw (by decide) htp hps (fun r11 e11_z => ?_))
        have e11b : r11.toInt = 0 := e11_z.elim (fun h_z => absurd h_z.2 hw) (fun h_z => h_z.1)
        refine t_ifeq (t := 44) dX12_readUnit_14 (by decide) (fun h14 => ?_) (fun h14 => False.elim (by omega))
        refine r_aloadR0 dX12_readUnit_44 ?_
        refine n_bipush dX12_readUnit_45 (by decide) (fun r45 e45 => ?_)
        refine q_callV1 zm_RX12_175 dX12_readUnit_47 (shM_k hs) (by decide) rfl (Nat.le_of_ble_eq_true rfl) (Nat.le_of_ble_eq_true rfl) (Nat.le_of_ble_eq_true rfl) (Nat.le_of_ble_eq_true rfl) (Nat.le_of_ble_eq_true rfl) (s_X12_isSign G hs (fun r47 e47 => ?_))
        refine t_ifeq (t := 80) dX12_readUnit_50 (by decide) (fun h50 => ?_) (fun h50 => False.elim (by omega))
        refine r_aloadR0 dX12_readUnit_80 ?_
        refine q_callV0 zm_RX12_181 dX12_readUnit_81 (shM_k hs) (by decide) rfl (Nat.le_of_ble_eq_true rfl) (Nat.le_of_ble_eq_true rfl) (Nat.le_of_ble_eq_true rfl) (Nat.le_of_ble_eq_true rfl) (Nat.le_of_ble_eq_true rfl) (s_X12_readSum_6 (lm := lm) (la := la) (u := u) G hs kw hld htp hps hd16 hlm hla hu h5 h29 h99 hup (fun g81 o81 d81 p81 k81 => ?_))
        have p81b : psM B n g81 A (smP B n (if lm = 5 then 8 else 6) 6 p).1 (smP B n (if lm = 5 then 8 else 6) 6 p).2.1 := p81
        have k81b : (smP B n (if lm = 5 then 8 else 6) 6 p).1 = 0 → okM f g81 A lm la u (smP B n (if lm = 5 then 8 else 6) 6 p).2.2 := k81
        have p81d := p81c _ p81b
        have t81 := p81d.2.1 rfl
        have h81 := t81.2.2.2.1
        have b81 := p81d.1
        have hte81 := teP_le (B := B) t81.1
        have htp81 := tpM_of htp (o81.2.1 5 (by decide) (by decide) (by decide)) (o81.2.2 7 (by decide))
        have k81c := k81b hr
        refine r_aloadR0 dX12_readUnit_84 ?_
        refine m_getV (x := (g81 A 10)) zf_RX12_92 rfl dX12_readUnit_85 (shM_k hs) (rfl) ?_
        refine r_istore1 dX12_readUnit_88 rfl ?_
        refine r_iload1 dX12_readUnit_89 ?_
        refine n_bipush dX12_readUnit_90 (by decide) (fun r90 e90_z => ?_)
        refine t_iceq (t := 112) dX12_readUnit_92 (by decide) (fun h92 => False.elim (by omega)) (fun h92 => ?_)
        refine r_iload1 dX12_readUnit_95 ?_
        refine n_bipush dX12_readUnit_96 (by decide) (fun r96 e96 => ?_)
        refine t_iceq (t := 112) dX12_readUnit_98 (by decide) (fun h98 => ?_) (fun h98 => False.elim (by omega))
        refine r_aloadR0 dX12_readUnit_112 ?_
        refine m_getV (x := (g81 A 12)) zf_RX12_112 rfl dX12_readUnit_113 (shM_k hs) (rfl) ?_
        refine t_ifne (t := 123) dX12_readUnit_116 (by decide) (fun h116 => False.elim (by omega)) (fun h116 => ?_)
        refine r_aloadR0 dX12_readUnit_119 ?_
        refine q_callV0 zm_RX12_131 dX12_readUnit_120 (shM_k hs) (by decide) rfl (Nat.le_of_ble_eq_true rfl) (Nat.le_of_ble_eq_true rfl) (Nat.le_of_ble_eq_true rfl) (Nat.le_of_ble_eq_true rfl) (Nat.le_of_ble_eq_true rfl) (s_X12_readsOn (p := teP B n (smP B n (if lm = 5 then 8 else 6) 6 p).2.1) G hs htp81 t81.2.1 hte81 (fun g120 o120 t120 => ?_))
        have htp120 := tpM_of htp81 (o120.2.1 5 (by decide) (by decide) (by decide)) (o120.2.2 7 (by decide))
        have hp120 : psM B n g120 A 0 (nxP B n (smP B n (if lm = 5 then 8 else 6) 6 p).2.1) := ⟨by rw [o120.2.2 12 (by decide)]; exact b81, fun _ => t120, fun h_z => absurd rfl h_z⟩
        have w120 : g120 (A + 2) = g81 (A + 2) := o120.2.1 2 (by decide) (by decide) (by decide)
        refine r_aloadR0 dX12_readUnit_123 ?_
        refine q_callV0 zm_RX12_181 dX12_readUnit_124 (shM_k hs) (by decide) rfl (Nat.le_of_ble_eq_true rfl) (Nat.le_of_ble_eq_true rfl) (Nat.le_of_ble_eq_true rfl) (Nat.le_of_ble_eq_true rfl) (Nat.le_of_ble_eq_true rfl) (s_X12_readSum_6 (lm := lm) (la := la) (u := u + (smP B n (if lm = 5 then 8 else 6) 6 p).2.2.length) G hs kw hld htp120 hp120 (by rw [o120.2.2 16 (by decide)]; exact d81) (by rw [o120.2.2 17 (by decide), o81.2.2 17 (by decide)]; exact hlm) (by rw [o120.2.2 18 (by decide), o81.2.2 18 (by decide)]; exact hla) (by rw [w120]; exact k81c.1) h5 h29 h99 (by omega) (fun g124 o124 d124 p124 k124 => ?_))
        have of124 : frM A [2] [8, 9, 10, 11, 12, 13, 16] f g124 := frM_tr o81 (frM_tr (frM_su o120 (by decide) (by decide)) o124)
        have p124b : psM B n g124 A (smP B n (if lm = 5 then 8 else 6) 6 (nxP B n (smP B n (if lm = 5 then 8 else 6) 6 p).2.1)).1 (smP B n (if lm = 5 then 8 else 6) 6 (nxP B n (smP B n (if lm = 5 then 8 else 6) 6 p).2.1)).2.1 := p124
        have k124b : (smP B n (if lm = 5 then 8 else 6) 6 (nxP B n (smP B n (if lm = 5 then 8 else 6) 6 p).2.1)).1 = 0 → okM g120 g124 A lm la (u + (smP B n (if lm = 5 then 8 else 6) 6 p).2.2.length) (smP B n (if lm = 5 then 8 else 6) 6 (nxP B n (smP B n (if lm = 5 then 8 else 6) 6 p).2.1)).2.2 := k124
        refine r_aloadR0 dX12_readUnit_127 ?_
        refine r_iload1 dX12_readUnit_128 ?_
        refine n_bipush dX12_readUnit_129 (by decide) (fun r129 e129 => ?_)
        refine t_icne (t := 139) dX12_readUnit_131 (by decide) (fun h131 => ?_) (fun h131 => False.elim (by omega))
        refine r_iload1 dX12_readUnit_139 ?_
        refine n_bipush dX12_readUnit_140 (by decide) (fun r140 e140 => ?_)
        refine t_icne (t := 150) dX12_readUnit_142 (by decide) (fun h142 => False.elim (by omega)) (fun h142 => ?_)
        refine n_bipush dX12_readUnit_145 (by decide) (fun r145 e145 => ?_)
        refine r_goto (t := 152) dX12_readUnit_147 (by decide) ?_
        refine q_callV1 zm_RX12_162 dX12_readUnit_152 (shM_k hs) (by decide) rfl (Nat.le_of_ble_eq_true rfl) (Nat.le_of_ble_eq_true rfl) (Nat.le_of_ble_eq_true rfl) (Nat.le_of_ble_eq_true rfl) (Nat.le_of_ble_eq_true rfl) (s_X12_laysStep (lm := lm) (la := la) (u := u + (smP B n (if lm = 5 then 8 else 6) 6 p).2.2.length + (smP B n (if lm = 5 then 8 else 6) 6 (nxP B n (smP B n (if lm = 5 then 8 else 6) 6 p).2.1)).2.2.length) G hs (by have := p124b.1; rw [hq] at this; exact this) (by rw [of124.2.2 17 (by decide)]; exact hlm) (by rw [of124.2.2 18 (by decide)]; exact hla) (k124b hq).1 h5 h29 (by omega) (fun g152 o152 a152 b152 c152 => ?_))
        have p124c := p124b
        rw [hq] at p124c
        refine r_vret dX12_readUnit_155 rfl (Nat.le_of_ble_eq_true rfl) (Nat.le_of_ble_eq_true rfl) ?_
        refine hQ _ (frM_tr of124 (frM_su o152 (by decide) (by decide))) (by rw [o152.2.2 16 (by decide)]; exact d124) (psM_of p124c (o152.2.2 8 (by decide)) (o152.2.2 9 (by decide)) (o152.2.2 10 (by decide)) (o152.2.2 11 (by decide)) (o152.2.2 12 (by decide)) (o152.2.2 13 (by decide))) (fun _ => okM_ap (by omega) (by rw [List.length_append]; omega) (okM_ap (by omega) (by omega) k81c (okM_cg (k124b hq) w120 rfl)) ?_)
        rw [List.length_append, ← Nat.add_assoc]
        exact okM_one (by omega) a152 b152 c152 (by rw [e145]; rfl)
      · have hv : cmP B n (smP B n (if lm = 5 then 8 else 6) 6) p = (smP B n (if lm = 5 then 8 else 6) 6 (nxP B n (smP B n (if lm = 5 then 8 else 6) 6 p).2.1)) := (if_neg (not_not_intro hr)).trans ((if_neg hop0).trans (if_pos hq))
        rw [hv] at hQ
        refine r_aloadR0 dX12_readUnit_0 ?_
        refine m_getV (x := (f A 12)) zf_RX12_112 rfl dX12_readUnit_1 (shM_k hs) (rfl) ?_
        refine t_ifeq (t := 8) dX12_readUnit_4 (by decide) (fun h4 => ?_) (fun h4 => False.elim (by omega))
        refine r_aloadR0 dX12_readUnit_8 ?_
        refine k_ldc (hld _ (List.mem_of_getElem? (i := 2) rfl)) dX12_readUnit_9 ?_
        refine q_callV1 zm_RX12_127 dX12_readUnit_11 (shM_k hs) (by decide) rfl (Nat.le_of_ble_eq_true rfl) (Nat.le_of_ble_eq_true rfl) (Nat.le_of_ble_eq_true rfl) (Nat.le_of_ble_eq_true rfl) (Nat.le_of_ble_eq_true rfl) (s_X12_isWord (i := 8) G hs kw (by decide) htp hps (fun r11 e11_z => ?_))
        have e11b : r11.toInt = 0 := e11_z.elim (fun h_z => absurd h_z.2 hw) (fun h_z => h_z.1)
        refine t_ifeq (t := 44) dX12_readUnit_14 (by decide) (fun h14 => ?_) (fun h14 => False.elim (by omega))
        refine r_aloadR0 dX12_readUnit_44 ?_
        refine n_bipush dX12_readUnit_45 (by decide) (fun r45 e45 => ?_)
        refine q_callV1 zm_RX12_175 dX12_readUnit_47 (shM_k hs) (by decide) rfl (Nat.le_of_ble_eq_true rfl) (Nat.le_of_ble_eq_true rfl) (Nat.le_of_ble_eq_true rfl) (Nat.le_of_ble_eq_true rfl) (Nat.le_of_ble_eq_true rfl) (s_X12_isSign G hs (fun r47 e47 => ?_))
        refine t_ifeq (t := 80) dX12_readUnit_50 (by decide) (fun h50 => ?_) (fun h50 => False.elim (by omega))
        refine r_aloadR0 dX12_readUnit_80 ?_
        refine q_callV0 zm_RX12_181 dX12_readUnit_81 (shM_k hs) (by decide) rfl (Nat.le_of_ble_eq_true rfl) (Nat.le_of_ble_eq_true rfl) (Nat.le_of_ble_eq_true rfl) (Nat.le_of_ble_eq_true rfl) (Nat.le_of_ble_eq_true rfl) (s_X12_readSum_6 (lm := lm) (la := la) (u := u) G hs kw hld htp hps hd16 hlm hla hu h5 h29 h99 hup (fun g81 o81 d81 p81 k81 => ?_))
        have p81b : psM B n g81 A (smP B n (if lm = 5 then 8 else 6) 6 p).1 (smP B n (if lm = 5 then 8 else 6) 6 p).2.1 := p81
        have k81b : (smP B n (if lm = 5 then 8 else 6) 6 p).1 = 0 → okM f g81 A lm la u (smP B n (if lm = 5 then 8 else 6) 6 p).2.2 := k81
        have p81d := p81c _ p81b
        have t81 := p81d.2.1 rfl
        have h81 := t81.2.2.2.1
        have b81 := p81d.1
        have hte81 := teP_le (B := B) t81.1
        have htp81 := tpM_of htp (o81.2.1 5 (by decide) (by decide) (by decide)) (o81.2.2 7 (by decide))
        have k81c := k81b hr
        refine r_aloadR0 dX12_readUnit_84 ?_
        refine m_getV (x := (g81 A 10)) zf_RX12_92 rfl dX12_readUnit_85 (shM_k hs) (rfl) ?_
        refine r_istore1 dX12_readUnit_88 rfl ?_
        refine r_iload1 dX12_readUnit_89 ?_
        refine n_bipush dX12_readUnit_90 (by decide) (fun r90 e90_z => ?_)
        refine t_iceq (t := 112) dX12_readUnit_92 (by decide) (fun h92 => False.elim (by omega)) (fun h92 => ?_)
        refine r_iload1 dX12_readUnit_95 ?_
        refine n_bipush dX12_readUnit_96 (by decide) (fun r96 e96 => ?_)
        refine t_iceq (t := 112) dX12_readUnit_98 (by decide) (fun h98 => ?_) (fun h98 => False.elim (by omega))
        refine r_aloadR0 dX12_readUnit_112 ?_
        refine m_getV (x := (g81 A 12)) zf_RX12_112 rfl dX12_readUnit_113 (shM_k hs) (rfl) ?_
        refine t_ifne (t := 123) dX12_readUnit_116 (by decide) (fun h116 => False.elim (by omega)) (fun h116 => ?_)
        refine r_aloadR0 dX12_readUnit_119 ?_
        refine q_callV0 zm_RX12_131 dX12_readUnit_120 (shM_k hs) (by decide) rfl (Nat.le_of_ble_eq_true rfl) (Nat.le_of_ble_eq_true rfl) (Nat.le_of_ble_eq_true rfl) (Nat.le_of_ble_eq_true rfl) (Nat.le_of_ble_eq_true rfl) (s_X12_readsOn (p := teP B n (smP B n (if lm = 5 then 8 else 6) 6 p).2.1) G hs htp81 t81.2.1 hte81 (fun g120 o120 t120 => ?_))
        have htp120 := tpM_of htp81 (o120.2.1 5 (by decide) (by decide) (by decide)) (o120.2.2 7 (by decide))
        have hp120 : psM B n g120 A 0 (nxP B n (smP B n (if lm = 5 then 8 else 6) 6 p).2.1) := ⟨by rw [o120.2.2 12 (by decide)]; exact b81, fun _ => t120, fun h_z => absurd rfl h_z⟩
        have w120 : g120 (A + 2) = g81 (A + 2) := o120.2.1 2 (by decide) (by decide) (by decide)
        refine r_aloadR0 dX12_readUnit_123 ?_
        refine q_callV0 zm_RX12_181 dX12_readUnit_124 (shM_k hs) (by decide) rfl (Nat.le_of_ble_eq_true rfl) (Nat.le_of_ble_eq_true rfl) (Nat.le_of_ble_eq_true rfl) (Nat.le_of_ble_eq_true rfl) (Nat.le_of_ble_eq_true rfl) (s_X12_readSum_6 (lm := lm) (la := la) (u := u + (smP B n (if lm = 5 then 8 else 6) 6 p).2.2.length) G hs kw hld htp120 hp120 (by rw [o120.2.2 16 (by decide)]; exact d81) (by rw [o120.2.2 17 (by decide), o81.2.2 17 (by decide)]; exact hlm) (by rw [o120.2.2 18 (by decide), o81.2.2 18 (by decide)]; exact hla) (by rw [w120]; exact k81c.1) h5 h29 h99 (by omega) (fun g124 o124 d124 p124 k124 => ?_))
        have of124 : frM A [2] [8, 9, 10, 11, 12, 13, 16] f g124 := frM_tr o81 (frM_tr (frM_su o120 (by decide) (by decide)) o124)
        have p124b : psM B n g124 A (smP B n (if lm = 5 then 8 else 6) 6 (nxP B n (smP B n (if lm = 5 then 8 else 6) 6 p).2.1)).1 (smP B n (if lm = 5 then 8 else 6) 6 (nxP B n (smP B n (if lm = 5 then 8 else 6) 6 p).2.1)).2.1 := p124
        have k124b : (smP B n (if lm = 5 then 8 else 6) 6 (nxP B n (smP B n (if lm = 5 then 8 else 6) 6 p).2.1)).1 = 0 → okM g120 g124 A lm la (u + (smP B n (if lm = 5 then 8 else 6) 6 p).2.2.length) (smP B n (if lm = 5 then 8 else 6) 6 (nxP B n (smP B n (if lm = 5 then 8 else 6) 6 p).2.1)).2.2 := k124
        refine r_aloadR0 dX12_readUnit_127 ?_
        refine r_iload1 dX12_readUnit_128 ?_
        refine n_bipush dX12_readUnit_129 (by decide) (fun r129 e129 => ?_)
        refine t_icne (t := 139) dX12_readUnit_131 (by decide) (fun h131 => ?_) (fun h131 => False.elim (by omega))
        refine r_iload1 dX12_readUnit_139 ?_
        refine n_bipush dX12_readUnit_140 (by decide) (fun r140 e140 => ?_)
        refine t_icne (t := 150) dX12_readUnit_142 (by decide) (fun h142 => False.elim (by omega)) (fun h142 => ?_)
        refine n_bipush dX12_readUnit_145 (by decide) (fun r145 e145 => ?_)
        refine r_goto (t := 152) dX12_readUnit_147 (by decide) ?_
        refine q_callV1 zm_RX12_162 dX12_readUnit_152 (shM_k hs) (by decide) rfl (Nat.le_of_ble_eq_true rfl) (Nat.le_of_ble_eq_true rfl) (Nat.le_of_ble_eq_true rfl) (Nat.le_of_ble_eq_true rfl) (Nat.le_of_ble_eq_true rfl) (s_X12_laysStep_x G hs (by rw [p124b.1]; omega) ?_)
        refine r_vret dX12_readUnit_155 rfl (Nat.le_of_ble_eq_true rfl) (Nat.le_of_ble_eq_true rfl) ?_
        exact hQ _ of124 d124 p124b (fun h_z => absurd h_z hq)
    have hn60 := hc_z
    have hm60 : rkP B n (smP B n (if lm = 5 then 8 else 6) 6 p).2.1 ≠ 60 := fun h_z => hc_z (q60.mp h_z)
    clear hc_z
    by_cases hc_z : tkP B n (smP B n (if lm = 5 then 8 else 6) 6 p).2.1 = 62
    · have h10c := q62.mpr hc_z
      have hop : opC B n (smP B n (if lm = 5 then 8 else 6) 6 p).2.1 = 2008 := (if_neg (by omega)).trans ((if_neg (by omega)).trans (if_pos hc_z))
      have hop0 : opC B n (smP B n (if lm = 5 then 8 else 6) 6 p).2.1 ≠ 0 := by rw [hop]; decide
      have hln := tk_lt (B := B) (n := n) (s := (smP B n (if lm = 5 then 8 else 6) 6 p).2.1) (by rw [hc_z]; decide)
      have hnx := nxP_gt (B := B) hln
      by_cases hq : (smP B n (if lm = 5 then 8 else 6) 6 (nxP B n (smP B n (if lm = 5 then 8 else 6) 6 p).2.1)).1 = 0
      · obtain ⟨z1, z2, z3, z4⟩ := (hsm _ hnx.2).1 hq
        have hv : cmP B n (smP B n (if lm = 5 then 8 else 6) 6) p = (0, (smP B n (if lm = 5 then 8 else 6) 6 (nxP B n (smP B n (if lm = 5 then 8 else 6) 6 p).2.1)).2.1, (smP B n (if lm = 5 then 8 else 6) 6 p).2.2 ++ (smP B n (if lm = 5 then 8 else 6) 6 (nxP B n (smP B n (if lm = 5 then 8 else 6) 6 p).2.1)).2.2 ++ [opC B n (smP B n (if lm = 5 then 8 else 6) 6 p).2.1]) := (if_neg (not_not_intro hr)).trans ((if_neg hop0).trans (if_neg (not_not_intro hq)))
        rw [hv, hop] at hQ
        refine r_aloadR0 dX12_readUnit_0 ?_
        refine m_getV (x := (f A 12)) zf_RX12_112 rfl dX12_readUnit_1 (shM_k hs) (rfl) ?_
        refine t_ifeq (t := 8) dX12_readUnit_4 (by decide) (fun h4 => ?_) (fun h4 => False.elim (by omega))
        refine r_aloadR0 dX12_readUnit_8 ?_
        refine k_ldc (hld _ (List.mem_of_getElem? (i := 2) rfl)) dX12_readUnit_9 ?_
        refine q_callV1 zm_RX12_127 dX12_readUnit_11 (shM_k hs) (by decide) rfl (Nat.le_of_ble_eq_true rfl) (Nat.le_of_ble_eq_true rfl) (Nat.le_of_ble_eq_true rfl) (Nat.le_of_ble_eq_true rfl) (Nat.le_of_ble_eq_true rfl) (s_X12_isWord (i := 8) G hs kw (by decide) htp hps (fun r11 e11_z => ?_))
        have e11b : r11.toInt = 0 := e11_z.elim (fun h_z => absurd h_z.2 hw) (fun h_z => h_z.1)
        refine t_ifeq (t := 44) dX12_readUnit_14 (by decide) (fun h14 => ?_) (fun h14 => False.elim (by omega))
        refine r_aloadR0 dX12_readUnit_44 ?_
        refine n_bipush dX12_readUnit_45 (by decide) (fun r45 e45 => ?_)
        refine q_callV1 zm_RX12_175 dX12_readUnit_47 (shM_k hs) (by decide) rfl (Nat.le_of_ble_eq_true rfl) (Nat.le_of_ble_eq_true rfl) (Nat.le_of_ble_eq_true rfl) (Nat.le_of_ble_eq_true rfl) (Nat.le_of_ble_eq_true rfl) (s_X12_isSign G hs (fun r47 e47 => ?_))
        refine t_ifeq (t := 80) dX12_readUnit_50 (by decide) (fun h50 => ?_) (fun h50 => False.elim (by omega))
        refine r_aloadR0 dX12_readUnit_80 ?_
        refine q_callV0 zm_RX12_181 dX12_readUnit_81 (shM_k hs) (by decide) rfl (Nat.le_of_ble_eq_true rfl) (Nat.le_of_ble_eq_true rfl) (Nat.le_of_ble_eq_true rfl) (Nat.le_of_ble_eq_true rfl) (Nat.le_of_ble_eq_true rfl) (s_X12_readSum_6 (lm := lm) (la := la) (u := u) G hs kw hld htp hps hd16 hlm hla hu h5 h29 h99 hup (fun g81 o81 d81 p81 k81 => ?_))
        have p81b : psM B n g81 A (smP B n (if lm = 5 then 8 else 6) 6 p).1 (smP B n (if lm = 5 then 8 else 6) 6 p).2.1 := p81
        have k81b : (smP B n (if lm = 5 then 8 else 6) 6 p).1 = 0 → okM f g81 A lm la u (smP B n (if lm = 5 then 8 else 6) 6 p).2.2 := k81
        have p81d := p81c _ p81b
        have t81 := p81d.2.1 rfl
        have h81 := t81.2.2.2.1
        have b81 := p81d.1
        have hte81 := teP_le (B := B) t81.1
        have htp81 := tpM_of htp (o81.2.1 5 (by decide) (by decide) (by decide)) (o81.2.2 7 (by decide))
        have k81c := k81b hr
        refine r_aloadR0 dX12_readUnit_84 ?_
        refine m_getV (x := (g81 A 10)) zf_RX12_92 rfl dX12_readUnit_85 (shM_k hs) (rfl) ?_
        refine r_istore1 dX12_readUnit_88 rfl ?_
        refine r_iload1 dX12_readUnit_89 ?_
        refine n_bipush dX12_readUnit_90 (by decide) (fun r90 e90_z => ?_)
        refine t_iceq (t := 112) dX12_readUnit_92 (by decide) (fun h92 => False.elim (by omega)) (fun h92 => ?_)
        refine r_iload1 dX12_readUnit_95 ?_
        refine n_bipush dX12_readUnit_96 (by decide) (fun r96 e96 => ?_)
        refine t_iceq (t := 112) dX12_readUnit_98 (by decide) (fun h98 => False.elim (by omega)) (fun h98 => ?_)
        refine r_iload1 dX12_readUnit_101 ?_
        refine n_bipush dX12_readUnit_102 (by decide) (fun r102 e102_z => ?_)
        refine t_iceq (t := 112) dX12_readUnit_104 (by decide) (fun h104 => ?_) (fun h104 => False.elim (by omega))
        refine r_aloadR0 dX12_readUnit_112 ?_
        refine m_getV (x := (g81 A 12)) zf_RX12_112 rfl dX12_readUnit_113 (shM_k hs) (rfl) ?_
        refine t_ifne (t := 123) dX12_readUnit_116 (by decide) (fun h116 => False.elim (by omega)) (fun h116 => ?_)
        refine r_aloadR0 dX12_readUnit_119 ?_
        refine q_callV0 zm_RX12_131 dX12_readUnit_120 (shM_k hs) (by decide) rfl (Nat.le_of_ble_eq_true rfl) (Nat.le_of_ble_eq_true rfl) (Nat.le_of_ble_eq_true rfl) (Nat.le_of_ble_eq_true rfl) (Nat.le_of_ble_eq_true rfl) (s_X12_readsOn (p := teP B n (smP B n (if lm = 5 then 8 else 6) 6 p).2.1) G hs htp81 t81.2.1 hte81 (fun g120 o120 t120 => ?_))
        have htp120 := tpM_of htp81 (o120.2.1 5 (by decide) (by decide) (by decide)) (o120.2.2 7 (by decide))
        have hp120 : psM B n g120 A 0 (nxP B n (smP B n (if lm = 5 then 8 else 6) 6 p).2.1) := ⟨by rw [o120.2.2 12 (by decide)]; exact b81, fun _ => t120, fun h_z => absurd rfl h_z⟩
        have w120 : g120 (A + 2) = g81 (A + 2) := o120.2.1 2 (by decide) (by decide) (by decide)
        refine r_aloadR0 dX12_readUnit_123 ?_
        refine q_callV0 zm_RX12_181 dX12_readUnit_124 (shM_k hs) (by decide) rfl (Nat.le_of_ble_eq_true rfl) (Nat.le_of_ble_eq_true rfl) (Nat.le_of_ble_eq_true rfl) (Nat.le_of_ble_eq_true rfl) (Nat.le_of_ble_eq_true rfl) (s_X12_readSum_6 (lm := lm) (la := la) (u := u + (smP B n (if lm = 5 then 8 else 6) 6 p).2.2.length) G hs kw hld htp120 hp120 (by rw [o120.2.2 16 (by decide)]; exact d81) (by rw [o120.2.2 17 (by decide), o81.2.2 17 (by decide)]; exact hlm) (by rw [o120.2.2 18 (by decide), o81.2.2 18 (by decide)]; exact hla) (by rw [w120]; exact k81c.1) h5 h29 h99 (by omega) (fun g124 o124 d124 p124 k124 => ?_))
        have of124 : frM A [2] [8, 9, 10, 11, 12, 13, 16] f g124 := frM_tr o81 (frM_tr (frM_su o120 (by decide) (by decide)) o124)
        have p124b : psM B n g124 A (smP B n (if lm = 5 then 8 else 6) 6 (nxP B n (smP B n (if lm = 5 then 8 else 6) 6 p).2.1)).1 (smP B n (if lm = 5 then 8 else 6) 6 (nxP B n (smP B n (if lm = 5 then 8 else 6) 6 p).2.1)).2.1 := p124
        have k124b : (smP B n (if lm = 5 then 8 else 6) 6 (nxP B n (smP B n (if lm = 5 then 8 else 6) 6 p).2.1)).1 = 0 → okM g120 g124 A lm la (u + (smP B n (if lm = 5 then 8 else 6) 6 p).2.2.length) (smP B n (if lm = 5 then 8 else 6) 6 (nxP B n (smP B n (if lm = 5 then 8 else 6) 6 p).2.1)).2.2 := k124
        refine r_aloadR0 dX12_readUnit_127 ?_
        refine r_iload1 dX12_readUnit_128 ?_
        refine n_bipush dX12_readUnit_129 (by decide) (fun r129 e129 => ?_)
        refine t_icne (t := 139) dX12_readUnit_131 (by decide) (fun h131 => ?_) (fun h131 => False.elim (by omega))
        refine r_iload1 dX12_readUnit_139 ?_
        refine n_bipush dX12_readUnit_140 (by decide) (fun r140 e140 => ?_)
        refine t_icne (t := 150) dX12_readUnit_142 (by decide) (fun h142 => ?_) (fun h142 => False.elim (by omega))
        refine n_bipush dX12_readUnit_150 (by decide) (fun r150 e150 => ?_)
        refine q_callV1 zm_RX12_162 dX12_readUnit_152 (shM_k hs) (by decide) rfl (Nat.le_of_ble_eq_true rfl) (Nat.le_of_ble_eq_true rfl) (Nat.le_of_ble_eq_true rfl) (Nat.le_of_ble_eq_true rfl) (Nat.le_of_ble_eq_true rfl) (s_X12_laysStep (lm := lm) (la := la) (u := u + (smP B n (if lm = 5 then 8 else 6) 6 p).2.2.length + (smP B n (if lm = 5 then 8 else 6) 6 (nxP B n (smP B n (if lm = 5 then 8 else 6) 6 p).2.1)).2.2.length) G hs (by have := p124b.1; rw [hq] at this; exact this) (by rw [of124.2.2 17 (by decide)]; exact hlm) (by rw [of124.2.2 18 (by decide)]; exact hla) (k124b hq).1 h5 h29 (by omega) (fun g152 o152 a152 b152 c152 => ?_))
        have p124c := p124b
        rw [hq] at p124c
        refine r_vret dX12_readUnit_155 rfl (Nat.le_of_ble_eq_true rfl) (Nat.le_of_ble_eq_true rfl) ?_
        refine hQ _ (frM_tr of124 (frM_su o152 (by decide) (by decide))) (by rw [o152.2.2 16 (by decide)]; exact d124) (psM_of p124c (o152.2.2 8 (by decide)) (o152.2.2 9 (by decide)) (o152.2.2 10 (by decide)) (o152.2.2 11 (by decide)) (o152.2.2 12 (by decide)) (o152.2.2 13 (by decide))) (fun _ => okM_ap (by omega) (by rw [List.length_append]; omega) (okM_ap (by omega) (by omega) k81c (okM_cg (k124b hq) w120 rfl)) ?_)
        rw [List.length_append, ← Nat.add_assoc]
        exact okM_one (by omega) a152 b152 c152 (by rw [e150]; rfl)
      · have hv : cmP B n (smP B n (if lm = 5 then 8 else 6) 6) p = (smP B n (if lm = 5 then 8 else 6) 6 (nxP B n (smP B n (if lm = 5 then 8 else 6) 6 p).2.1)) := (if_neg (not_not_intro hr)).trans ((if_neg hop0).trans (if_pos hq))
        rw [hv] at hQ
        refine r_aloadR0 dX12_readUnit_0 ?_
        refine m_getV (x := (f A 12)) zf_RX12_112 rfl dX12_readUnit_1 (shM_k hs) (rfl) ?_
        refine t_ifeq (t := 8) dX12_readUnit_4 (by decide) (fun h4 => ?_) (fun h4 => False.elim (by omega))
        refine r_aloadR0 dX12_readUnit_8 ?_
        refine k_ldc (hld _ (List.mem_of_getElem? (i := 2) rfl)) dX12_readUnit_9 ?_
        refine q_callV1 zm_RX12_127 dX12_readUnit_11 (shM_k hs) (by decide) rfl (Nat.le_of_ble_eq_true rfl) (Nat.le_of_ble_eq_true rfl) (Nat.le_of_ble_eq_true rfl) (Nat.le_of_ble_eq_true rfl) (Nat.le_of_ble_eq_true rfl) (s_X12_isWord (i := 8) G hs kw (by decide) htp hps (fun r11 e11_z => ?_))
        have e11b : r11.toInt = 0 := e11_z.elim (fun h_z => absurd h_z.2 hw) (fun h_z => h_z.1)
        refine t_ifeq (t := 44) dX12_readUnit_14 (by decide) (fun h14 => ?_) (fun h14 => False.elim (by omega))
        refine r_aloadR0 dX12_readUnit_44 ?_
        refine n_bipush dX12_readUnit_45 (by decide) (fun r45 e45 => ?_)
        refine q_callV1 zm_RX12_175 dX12_readUnit_47 (shM_k hs) (by decide) rfl (Nat.le_of_ble_eq_true rfl) (Nat.le_of_ble_eq_true rfl) (Nat.le_of_ble_eq_true rfl) (Nat.le_of_ble_eq_true rfl) (Nat.le_of_ble_eq_true rfl) (s_X12_isSign G hs (fun r47 e47 => ?_))
        refine t_ifeq (t := 80) dX12_readUnit_50 (by decide) (fun h50 => ?_) (fun h50 => False.elim (by omega))
        refine r_aloadR0 dX12_readUnit_80 ?_
        refine q_callV0 zm_RX12_181 dX12_readUnit_81 (shM_k hs) (by decide) rfl (Nat.le_of_ble_eq_true rfl) (Nat.le_of_ble_eq_true rfl) (Nat.le_of_ble_eq_true rfl) (Nat.le_of_ble_eq_true rfl) (Nat.le_of_ble_eq_true rfl) (s_X12_readSum_6 (lm := lm) (la := la) (u := u) G hs kw hld htp hps hd16 hlm hla hu h5 h29 h99 hup (fun g81 o81 d81 p81 k81 => ?_))
        have p81b : psM B n g81 A (smP B n (if lm = 5 then 8 else 6) 6 p).1 (smP B n (if lm = 5 then 8 else 6) 6 p).2.1 := p81
        have k81b : (smP B n (if lm = 5 then 8 else 6) 6 p).1 = 0 → okM f g81 A lm la u (smP B n (if lm = 5 then 8 else 6) 6 p).2.2 := k81
        have p81d := p81c _ p81b
        have t81 := p81d.2.1 rfl
        have h81 := t81.2.2.2.1
        have b81 := p81d.1
        have hte81 := teP_le (B := B) t81.1
        have htp81 := tpM_of htp (o81.2.1 5 (by decide) (by decide) (by decide)) (o81.2.2 7 (by decide))
        have k81c := k81b hr
        refine r_aloadR0 dX12_readUnit_84 ?_
        refine m_getV (x := (g81 A 10)) zf_RX12_92 rfl dX12_readUnit_85 (shM_k hs) (rfl) ?_
        refine r_istore1 dX12_readUnit_88 rfl ?_
        refine r_iload1 dX12_readUnit_89 ?_
        refine n_bipush dX12_readUnit_90 (by decide) (fun r90 e90_z => ?_)
        refine t_iceq (t := 112) dX12_readUnit_92 (by decide) (fun h92 => False.elim (by omega)) (fun h92 => ?_)
        refine r_iload1 dX12_readUnit_95 ?_
        refine n_bipush dX12_readUnit_96 (by decide) (fun r96 e96 => ?_)
        refine t_iceq (t := 112) dX12_readUnit_98 (by decide) (fun h98 => False.elim (by omega)) (fun h98 => ?_)
        refine r_iload1 dX12_readUnit_101 ?_
        refine n_bipush dX12_readUnit_102 (by decide) (fun r102 e102_z => ?_)
        refine t_iceq (t := 112) dX12_readUnit_104 (by decide) (fun h104 => ?_) (fun h104 => False.elim (by omega))
        refine r_aloadR0 dX12_readUnit_112 ?_
        refine m_getV (x := (g81 A 12)) zf_RX12_112 rfl dX12_readUnit_113 (shM_k hs) (rfl) ?_
        refine t_ifne (t := 123) dX12_readUnit_116 (by decide) (fun h116 => False.elim (by omega)) (fun h116 => ?_)
        refine r_aloadR0 dX12_readUnit_119 ?_
        refine q_callV0 zm_RX12_131 dX12_readUnit_120 (shM_k hs) (by decide) rfl (Nat.le_of_ble_eq_true rfl) (Nat.le_of_ble_eq_true rfl) (Nat.le_of_ble_eq_true rfl) (Nat.le_of_ble_eq_true rfl) (Nat.le_of_ble_eq_true rfl) (s_X12_readsOn (p := teP B n (smP B n (if lm = 5 then 8 else 6) 6 p).2.1) G hs htp81 t81.2.1 hte81 (fun g120 o120 t120 => ?_))
        have htp120 := tpM_of htp81 (o120.2.1 5 (by decide) (by decide) (by decide)) (o120.2.2 7 (by decide))
        have hp120 : psM B n g120 A 0 (nxP B n (smP B n (if lm = 5 then 8 else 6) 6 p).2.1) := ⟨by rw [o120.2.2 12 (by decide)]; exact b81, fun _ => t120, fun h_z => absurd rfl h_z⟩
        have w120 : g120 (A + 2) = g81 (A + 2) := o120.2.1 2 (by decide) (by decide) (by decide)
        refine r_aloadR0 dX12_readUnit_123 ?_
        refine q_callV0 zm_RX12_181 dX12_readUnit_124 (shM_k hs) (by decide) rfl (Nat.le_of_ble_eq_true rfl) (Nat.le_of_ble_eq_true rfl) (Nat.le_of_ble_eq_true rfl) (Nat.le_of_ble_eq_true rfl) (Nat.le_of_ble_eq_true rfl) (s_X12_readSum_6 (lm := lm) (la := la) (u := u + (smP B n (if lm = 5 then 8 else 6) 6 p).2.2.length) G hs kw hld htp120 hp120 (by rw [o120.2.2 16 (by decide)]; exact d81) (by rw [o120.2.2 17 (by decide), o81.2.2 17 (by decide)]; exact hlm) (by rw [o120.2.2 18 (by decide), o81.2.2 18 (by decide)]; exact hla) (by rw [w120]; exact k81c.1) h5 h29 h99 (by omega) (fun g124 o124 d124 p124 k124 => ?_))
        have of124 : frM A [2] [8, 9, 10, 11, 12, 13, 16] f g124 := frM_tr o81 (frM_tr (frM_su o120 (by decide) (by decide)) o124)
        have p124b : psM B n g124 A (smP B n (if lm = 5 then 8 else 6) 6 (nxP B n (smP B n (if lm = 5 then 8 else 6) 6 p).2.1)).1 (smP B n (if lm = 5 then 8 else 6) 6 (nxP B n (smP B n (if lm = 5 then 8 else 6) 6 p).2.1)).2.1 := p124
        have k124b : (smP B n (if lm = 5 then 8 else 6) 6 (nxP B n (smP B n (if lm = 5 then 8 else 6) 6 p).2.1)).1 = 0 → okM g120 g124 A lm la (u + (smP B n (if lm = 5 then 8 else 6) 6 p).2.2.length) (smP B n (if lm = 5 then 8 else 6) 6 (nxP B n (smP B n (if lm = 5 then 8 else 6) 6 p).2.1)).2.2 := k124
        refine r_aloadR0 dX12_readUnit_127 ?_
        refine r_iload1 dX12_readUnit_128 ?_
        refine n_bipush dX12_readUnit_129 (by decide) (fun r129 e129 => ?_)
        refine t_icne (t := 139) dX12_readUnit_131 (by decide) (fun h131 => ?_) (fun h131 => False.elim (by omega))
        refine r_iload1 dX12_readUnit_139 ?_
        refine n_bipush dX12_readUnit_140 (by decide) (fun r140 e140 => ?_)
        refine t_icne (t := 150) dX12_readUnit_142 (by decide) (fun h142 => ?_) (fun h142 => False.elim (by omega))
        refine n_bipush dX12_readUnit_150 (by decide) (fun r150 e150 => ?_)
        refine q_callV1 zm_RX12_162 dX12_readUnit_152 (shM_k hs) (by decide) rfl (Nat.le_of_ble_eq_true rfl) (Nat.le_of_ble_eq_true rfl) (Nat.le_of_ble_eq_true rfl) (Nat.le_of_ble_eq_true rfl) (Nat.le_of_ble_eq_true rfl) (s_X12_laysStep_x G hs (by rw [p124b.1]; omega) ?_)
        refine r_vret dX12_readUnit_155 rfl (Nat.le_of_ble_eq_true rfl) (Nat.le_of_ble_eq_true rfl) ?_
        exact hQ _ of124 d124 p124b (fun h_z => absurd h_z hq)
    have hn62 := hc_z
    have hm62 : rkP B n (smP B n (if lm = 5 then 8 else 6) 6 p).2.1 ≠ 62 := fun h_z => hc_z (q62.mp h_z)
    clear hc_z
    have hop : opC B n (smP B n (if lm = 5 then 8 else 6) 6 p).2.1 = 0 := (if_neg hn61).trans ((if_neg hn60).trans (if_neg hn62))
    have hv : cmP B n (smP B n (if lm = 5 then 8 else 6) 6) p = (baP B n (smP B n (if lm = 5 then 8 else 6) 6 p).2.1, (smP B n (if lm = 5 then 8 else 6) 6 p).2.1, []) := (if_neg (not_not_intro hr)).trans (if_pos hop)
    rw [hv] at hQ
    refine r_aloadR0 dX12_readUnit_0 ?_
    refine m_getV (x := (f A 12)) zf_RX12_112 rfl dX12_readUnit_1 (shM_k hs) (rfl) ?_
    refine t_ifeq (t := 8) dX12_readUnit_4 (by decide) (fun h4 => ?_) (fun h4 => False.elim (by omega))
    refine r_aloadR0 dX12_readUnit_8 ?_
    refine k_ldc (hld _ (List.mem_of_getElem? (i := 2) rfl)) dX12_readUnit_9 ?_
    refine q_callV1 zm_RX12_127 dX12_readUnit_11 (shM_k hs) (by decide) rfl (Nat.le_of_ble_eq_true rfl) (Nat.le_of_ble_eq_true rfl) (Nat.le_of_ble_eq_true rfl) (Nat.le_of_ble_eq_true rfl) (Nat.le_of_ble_eq_true rfl) (s_X12_isWord (i := 8) G hs kw (by decide) htp hps (fun r11 e11_z => ?_))
    have e11b : r11.toInt = 0 := e11_z.elim (fun h_z => absurd h_z.2 hw) (fun h_z => h_z.1)
    refine t_ifeq (t := 44) dX12_readUnit_14 (by decide) (fun h14 => ?_) (fun h14 => False.elim (by omega))
    refine r_aloadR0 dX12_readUnit_44 ?_
    refine n_bipush dX12_readUnit_45 (by decide) (fun r45 e45 => ?_)
    refine q_callV1 zm_RX12_175 dX12_readUnit_47 (shM_k hs) (by decide) rfl (Nat.le_of_ble_eq_true rfl) (Nat.le_of_ble_eq_true rfl) (Nat.le_of_ble_eq_true rfl) (Nat.le_of_ble_eq_true rfl) (Nat.le_of_ble_eq_true rfl) (s_X12_isSign G hs (fun r47 e47 => ?_))
    refine t_ifeq (t := 80) dX12_readUnit_50 (by decide) (fun h50 => ?_) (fun h50 => False.elim (by omega))
    refine r_aloadR0 dX12_readUnit_80 ?_
    refine q_callV0 zm_RX12_181 dX12_readUnit_81 (shM_k hs) (by decide) rfl (Nat.le_of_ble_eq_true rfl) (Nat.le_of_ble_eq_true rfl) (Nat.le_of_ble_eq_true rfl) (Nat.le_of_ble_eq_true rfl) (Nat.le_of_ble_eq_true rfl) (s_X12_readSum_6 (lm := lm) (la := la) (u := u) G hs kw hld htp hps hd16 hlm hla hu h5 h29 h99 hup (fun g81 o81 d81 p81 k81 => ?_))
    have p81b : psM B n g81 A (smP B n (if lm = 5 then 8 else 6) 6 p).1 (smP B n (if lm = 5 then 8 else 6) 6 p).2.1 := p81
    have k81b : (smP B n (if lm = 5 then 8 else 6) 6 p).1 = 0 → okM f g81 A lm la u (smP B n (if lm = 5 then 8 else 6) 6 p).2.2 := k81
    have p81d := p81c _ p81b
    have t81 := p81d.2.1 rfl
    have h81 := t81.2.2.2.1
    have b81 := p81d.1
    have hte81 := teP_le (B := B) t81.1
    have htp81 := tpM_of htp (o81.2.1 5 (by decide) (by decide) (by decide)) (o81.2.2 7 (by decide))
    have k81c := k81b hr
    refine r_aloadR0 dX12_readUnit_84 ?_
    refine m_getV (x := (g81 A 10)) zf_RX12_92 rfl dX12_readUnit_85 (shM_k hs) (rfl) ?_
    refine r_istore1 dX12_readUnit_88 rfl ?_
    refine r_iload1 dX12_readUnit_89 ?_
    refine n_bipush dX12_readUnit_90 (by decide) (fun r90 e90_z => ?_)
    refine t_iceq (t := 112) dX12_readUnit_92 (by decide) (fun h92 => False.elim (by omega)) (fun h92 => ?_)
    refine r_iload1 dX12_readUnit_95 ?_
    refine n_bipush dX12_readUnit_96 (by decide) (fun r96 e96 => ?_)
    refine t_iceq (t := 112) dX12_readUnit_98 (by decide) (fun h98 => False.elim (by omega)) (fun h98 => ?_)
    refine r_iload1 dX12_readUnit_101 ?_
    refine n_bipush dX12_readUnit_102 (by decide) (fun r102 e102_z => ?_)
    refine t_iceq (t := 112) dX12_readUnit_104 (by decide) (fun h104 => False.elim (by omega)) (fun h104 => ?_)
    refine r_aloadR0 dX12_readUnit_107 ?_
    refine n_iconst dX12_readUnit_108 (by decide) (fun r108 e108 => ?_)
    refine q_callV1 zm_RX12_134 dX12_readUnit_109 (shM_k hs) (by decide) rfl (Nat.le_of_ble_eq_true rfl) (Nat.le_of_ble_eq_true rfl) (Nat.le_of_ble_eq_true rfl) (Nat.le_of_ble_eq_true rfl) (Nat.le_of_ble_eq_true rfl) (s_X12_blames (k := 2) G hs b81 t81 e108 (fun g109 o109 a109 b109 => ?_))
    have hpb := ps_ba a109 b109
    have hba := ba_bd (B := B) (n := n) (s := (smP B n (if lm = 5 then 8 else 6) 6 p).2.1)
    have nb : (g109 A 12).toInt ≠ 0 := by rw [hpb.1]; omega
    refine r_aloadR0 dX12_readUnit_112 ?_
    refine m_getV (x := (g109 A 12)) zf_RX12_112 rfl dX12_readUnit_113 (shM_k hs) (rfl) ?_
    refine t_ifne (t := 123) dX12_readUnit_116 (by decide) (fun h116 => ?_) (fun h116 => False.elim (by omega))
    refine r_aloadR0 dX12_readUnit_123 ?_
    refine q_callV0 zm_RX12_181 dX12_readUnit_124 (shM_k hs) (by decide) rfl (Nat.le_of_ble_eq_true rfl) (Nat.le_of_ble_eq_true rfl) (Nat.le_of_ble_eq_true rfl) (Nat.le_of_ble_eq_true rfl) (Nat.le_of_ble_eq_true rfl) (s_X12_readSum_x G hs nb ?_)
    refine r_aloadR0 dX12_readUnit_127 ?_
    refine r_iload1 dX12_readUnit_128 ?_
    refine n_bipush dX12_readUnit_129 (by decide) (fun r129 e129 => ?_)
    refine t_icne (t := 139) dX12_readUnit_131 (by decide) (fun h131 => ?_) (fun h131 => False.elim (by omega))
    refine r_iload1 dX12_readUnit_139 ?_
    refine n_bipush dX12_readUnit_140 (by decide) (fun r140 e140 => ?_)
    refine t_icne (t := 150) dX12_readUnit_142 (by decide) (fun h142 => ?_) (fun h142 => False.elim (by omega))
    refine n_bipush dX12_readUnit_150 (by decide) (fun r150 e150 => ?_)
    refine q_callV1 zm_RX12_162 dX12_readUnit_152 (shM_k hs) (by decide) rfl (Nat.le_of_ble_eq_true rfl) (Nat.le_of_ble_eq_true rfl) (Nat.le_of_ble_eq_true rfl) (Nat.le_of_ble_eq_true rfl) (Nat.le_of_ble_eq_true rfl) (s_X12_laysStep_x G hs nb ?_)
    refine r_vret dX12_readUnit_155 rfl (Nat.le_of_ble_eq_true rfl) (Nat.le_of_ble_eq_true rfl) ?_
    exact hQ _ (frM_tr o81 (frM_su o109 (by decide) (by decide))) (by rw [o109.2.2 16 (by decide)]; exact d81) hpb (fun h_z => absurd h_z hba.1)
  · have hv : cmP B n (smP B n (if lm = 5 then 8 else 6) 6) p = (smP B n (if lm = 5 then 8 else 6) 6 p) := if_pos hr
    rw [hv] at hQ
    refine r_aloadR0 dX12_readUnit_0 ?_
    refine m_getV (x := (f A 12)) zf_RX12_112 rfl dX12_readUnit_1 (shM_k hs) (rfl) ?_
    refine t_ifeq (t := 8) dX12_readUnit_4 (by decide) (fun h4 => ?_) (fun h4 => False.elim (by omega))
    refine r_aloadR0 dX12_readUnit_8 ?_
    refine k_ldc (hld _ (List.mem_of_getElem? (i := 2) rfl)) dX12_readUnit_9 ?_
    refine q_callV1 zm_RX12_127 dX12_readUnit_11 (shM_k hs) (by decide) rfl (Nat.le_of_ble_eq_true rfl) (Nat.le_of_ble_eq_true rfl) (Nat.le_of_ble_eq_true rfl) (Nat.le_of_ble_eq_true rfl) (Nat.le_of_ble_eq_true rfl) (s_X12_isWord (i := 8) G hs kw (by decide) htp hps (fun r11 e11_z => ?_))
    have e11b : r11.toInt = 0 := e11_z.elim (fun h_z => absurd h_z.2 hw) (fun h_z => h_z.1)
    refine t_ifeq (t := 44) dX12_readUnit_14 (by decide) (fun h14 => ?_) (fun h14 => False.elim (by omega))
    refine r_aloadR0 dX12_readUnit_44 ?_
    refine n_bipush dX12_readUnit_45 (by decide) (fun r45 e45 => ?_)
    refine q_callV1 zm_RX12_175 dX12_readUnit_47 (shM_k hs) (by decide) rfl (Nat.le_of_ble_eq_true rfl) (Nat.le_of_ble_eq_true rfl) (Nat.le_of_ble_eq_true rfl) (Nat.le_of_ble_eq_true rfl) (Nat.le_of_ble_eq_true rfl) (s_X12_isSign G hs (fun r47 e47 => ?_))
    refine t_ifeq (t := 80) dX12_readUnit_50 (by decide) (fun h50 => ?_) (fun h50 => False.elim (by omega))
    refine r_aloadR0 dX12_readUnit_80 ?_
    refine q_callV0 zm_RX12_181 dX12_readUnit_81 (shM_k hs) (by decide) rfl (Nat.le_of_ble_eq_true rfl) (Nat.le_of_ble_eq_true rfl) (Nat.le_of_ble_eq_true rfl) (Nat.le_of_ble_eq_true rfl) (Nat.le_of_ble_eq_true rfl) (s_X12_readSum_6 (lm := lm) (la := la) (u := u) G hs kw hld htp hps hd16 hlm hla hu h5 h29 h99 hup (fun g81 o81 d81 p81 k81 => ?_))
    have p81b : psM B n g81 A (smP B n (if lm = 5 then 8 else 6) 6 p).1 (smP B n (if lm = 5 then 8 else 6) 6 p).2.1 := p81
    have k81b : (smP B n (if lm = 5 then 8 else 6) 6 p).1 = 0 → okM f g81 A lm la u (smP B n (if lm = 5 then 8 else 6) 6 p).2.2 := k81
    have nb : (g81 A 12).toInt ≠ 0 := by rw [p81b.1]; omega
    refine r_aloadR0 dX12_readUnit_84 ?_
    refine m_getV (x := (g81 A 10)) zf_RX12_92 rfl dX12_readUnit_85 (shM_k hs) (rfl) ?_
    refine r_istore1 dX12_readUnit_88 rfl ?_
    refine r_iload1 dX12_readUnit_89 ?_
    refine n_bipush dX12_readUnit_90 (by decide) (fun r90 e90_z => ?_)
    refine t_iceq (t := 112) dX12_readUnit_92 (by decide) (fun h92 => ?_) (fun h92 => ?_)
    · refine r_aloadR0 dX12_readUnit_112 ?_
      refine m_getV (x := (g81 A 12)) zf_RX12_112 rfl dX12_readUnit_113 (shM_k hs) (rfl) ?_
      refine t_ifne (t := 123) dX12_readUnit_116 (by decide) (fun h116 => ?_) (fun h116 => False.elim (by omega))
      refine r_aloadR0 dX12_readUnit_123 ?_
      refine q_callV0 zm_RX12_181 dX12_readUnit_124 (shM_k hs) (by decide) rfl (Nat.le_of_ble_eq_true rfl) (Nat.le_of_ble_eq_true rfl) (Nat.le_of_ble_eq_true rfl) (Nat.le_of_ble_eq_true rfl) (Nat.le_of_ble_eq_true rfl) (s_X12_readSum_x G hs nb ?_)
      refine r_aloadR0 dX12_readUnit_127 ?_
      refine r_iload1 dX12_readUnit_128 ?_
      refine n_bipush dX12_readUnit_129 (by decide) (fun r129 e129 => ?_)
      refine t_icne (t := 139) dX12_readUnit_131 (by decide) (fun h131 => ?_) (fun h131 => ?_)
      · refine r_iload1 dX12_readUnit_139 ?_
        refine n_bipush dX12_readUnit_140 (by decide) (fun r140 e140 => ?_)
        refine t_icne (t := 150) dX12_readUnit_142 (by decide) (fun h142 => ?_) (fun h142 => ?_)
        · refine n_bipush dX12_readUnit_150 (by decide) (fun r150 e150 => ?_)
          refine q_callV1 zm_RX12_162 dX12_readUnit_152 (shM_k hs) (by decide) rfl (Nat.le_of_ble_eq_true rfl) (Nat.le_of_ble_eq_true rfl) (Nat.le_of_ble_eq_true rfl) (Nat.le_of_ble_eq_true rfl) (Nat.le_of_ble_eq_true rfl) (s_X12_laysStep_x G hs nb ?_)
          refine r_vret dX12_readUnit_155 rfl (Nat.le_of_ble_eq_true rfl) (Nat.le_of_ble_eq_true rfl) ?_
          exact hQ _ o81 d81 p81b (fun h_z => absurd h_z hr)
        · refine n_bipush dX12_readUnit_145 (by decide) (fun r145 e145 => ?_)
          refine r_goto (t := 152) dX12_readUnit_147 (by decide) ?_
          refine q_callV1 zm_RX12_162 dX12_readUnit_152 (shM_k hs) (by decide) rfl (Nat.le_of_ble_eq_true rfl) (Nat.le_of_ble_eq_true rfl) (Nat.le_of_ble_eq_true rfl) (Nat.le_of_ble_eq_true rfl) (Nat.le_of_ble_eq_true rfl) (s_X12_laysStep_x G hs nb ?_)
          refine r_vret dX12_readUnit_155 rfl (Nat.le_of_ble_eq_true rfl) (Nat.le_of_ble_eq_true rfl) ?_
          exact hQ _ o81 d81 p81b (fun h_z => absurd h_z hr)
      · refine n_bipush dX12_readUnit_134 (by decide) (fun r134 e134 => ?_)
        refine r_goto (t := 152) dX12_readUnit_136 (by decide) ?_
        refine q_callV1 zm_RX12_162 dX12_readUnit_152 (shM_k hs) (by decide) rfl (Nat.le_of_ble_eq_true rfl) (Nat.le_of_ble_eq_true rfl) (Nat.le_of_ble_eq_true rfl) (Nat.le_of_ble_eq_true rfl) (Nat.le_of_ble_eq_true rfl) (s_X12_laysStep_x G hs nb ?_)
        refine r_vret dX12_readUnit_155 rfl (Nat.le_of_ble_eq_true rfl) (Nat.le_of_ble_eq_true rfl) ?_
        exact hQ _ o81 d81 p81b (fun h_z => absurd h_z hr)
    · refine r_iload1 dX12_readUnit_95 ?_
      refine n_bipush dX12_readUnit_96 (by decide) (fun r96 e96 => ?_)
      refine t_iceq (t := 112) dX12_readUnit_98 (by decide) (fun h98 => ?_) (fun h98 => ?_)
      · refine r_aloadR0 dX12_readUnit_112 ?_
        refine m_getV (x := (g81 A 12)) zf_RX12_112 rfl dX12_readUnit_113 (shM_k hs) (rfl) ?_
        refine t_ifne (t := 123) dX12_readUnit_116 (by decide) (fun h116 => ?_) (fun h116 => False.elim (by omega))
        refine r_aloadR0 dX12_readUnit_123 ?_
        refine q_callV0 zm_RX12_181 dX12_readUnit_124 (shM_k hs) (by decide) rfl (Nat.le_of_ble_eq_true rfl) (Nat.le_of_ble_eq_true rfl) (Nat.le_of_ble_eq_true rfl) (Nat.le_of_ble_eq_true rfl) (Nat.le_of_ble_eq_true rfl) (s_X12_readSum_x G hs nb ?_)
        refine r_aloadR0 dX12_readUnit_127 ?_
        refine r_iload1 dX12_readUnit_128 ?_
        refine n_bipush dX12_readUnit_129 (by decide) (fun r129 e129 => ?_)
        refine t_icne (t := 139) dX12_readUnit_131 (by decide) (fun h131 => ?_) (fun h131 => ?_)
        · refine r_iload1 dX12_readUnit_139 ?_
          refine n_bipush dX12_readUnit_140 (by decide) (fun r140 e140 => ?_)
          refine t_icne (t := 150) dX12_readUnit_142 (by decide) (fun h142 => ?_) (fun h142 => ?_)
          · refine n_bipush dX12_readUnit_150 (by decide) (fun r150 e150 => ?_)
            refine q_callV1 zm_RX12_162 dX12_readUnit_152 (shM_k hs) (by decide) rfl (Nat.le_of_ble_eq_true rfl) (Nat.le_of_ble_eq_true rfl) (Nat.le_of_ble_eq_true rfl) (Nat.le_of_ble_eq_true rfl) (Nat.le_of_ble_eq_true rfl) (s_X12_laysStep_x G hs nb ?_)
            refine r_vret dX12_readUnit_155 rfl (Nat.le_of_ble_eq_true rfl) (Nat.le_of_ble_eq_true rfl) ?_
            exact hQ _ o81 d81 p81b (fun h_z => absurd h_z hr)
          · refine n_bipush dX12_readUnit_145 (by decide) (fun r145 e145 => ?_)
            refine r_goto (t := 152) dX12_readUnit_147 (by decide) ?_
            refine q_callV1 zm_RX12_162 dX12_readUnit_152 (shM_k hs) (by decide) rfl (Nat.le_of_ble_eq_true rfl) (Nat.le_of_ble_eq_true rfl) (Nat.le_of_ble_eq_true rfl) (Nat.le_of_ble_eq_true rfl) (Nat.le_of_ble_eq_true rfl) (s_X12_laysStep_x G hs nb ?_)
            refine r_vret dX12_readUnit_155 rfl (Nat.le_of_ble_eq_true rfl) (Nat.le_of_ble_eq_true rfl) ?_
            exact hQ _ o81 d81 p81b (fun h_z => absurd h_z hr)
        · refine n_bipush dX12_readUnit_134 (by decide) (fun r134 e134 => ?_)
          refine r_goto (t := 152) dX12_readUnit_136 (by decide) ?_
          refine q_callV1 zm_RX12_162 dX12_readUnit_152 (shM_k hs) (by decide) rfl (Nat.le_of_ble_eq_true rfl) (Nat.le_of_ble_eq_true rfl) (Nat.le_of_ble_eq_true rfl) (Nat.le_of_ble_eq_true rfl) (Nat.le_of_ble_eq_true rfl) (s_X12_laysStep_x G hs nb ?_)
          refine r_vret dX12_readUnit_155 rfl (Nat.le_of_ble_eq_true rfl) (Nat.le_of_ble_eq_true rfl) ?_
          exact hQ _ o81 d81 p81b (fun h_z => absurd h_z hr)
      · refine r_iload1 dX12_readUnit_101 ?_
        refine n_bipush dX12_readUnit_102 (by decide) (fun r102 e102_z => ?_)
        refine t_iceq (t := 112) dX12_readUnit_104 (by decide) (fun h104 => ?_) (fun h104 => ?_)
        · refine r_aloadR0 dX12_readUnit_112 ?_
          refine m_getV (x := (g81 A 12)) zf_RX12_112 rfl dX12_readUnit_113 (shM_k hs) (rfl) ?_
          refine t_ifne (t := 123) dX12_readUnit_116 (by decide) (fun h116 => ?_) (fun h116 => False.elim (by omega))
          refine r_aloadR0 dX12_readUnit_123 ?_
          refine q_callV0 zm_RX12_181 dX12_readUnit_124 (shM_k hs) (by decide) rfl (Nat.le_of_ble_eq_true rfl) (Nat.le_of_ble_eq_true rfl) (Nat.le_of_ble_eq_true rfl) (Nat.le_of_ble_eq_true rfl) (Nat.le_of_ble_eq_true rfl) (s_X12_readSum_x G hs nb ?_)
          refine r_aloadR0 dX12_readUnit_127 ?_
          refine r_iload1 dX12_readUnit_128 ?_
          refine n_bipush dX12_readUnit_129 (by decide) (fun r129 e129 => ?_)
          refine t_icne (t := 139) dX12_readUnit_131 (by decide) (fun h131 => ?_) (fun h131 => ?_)
          · refine r_iload1 dX12_readUnit_139 ?_
            refine n_bipush dX12_readUnit_140 (by decide) (fun r140 e140 => ?_)
            refine t_icne (t := 150) dX12_readUnit_142 (by decide) (fun h142 => ?_) (fun h142 => ?_)
            · refine n_bipush dX12_readUnit_150 (by decide) (fun r150 e150 => ?_)
              refine q_callV1 zm_RX12_162 dX12_readUnit_152 (shM_k hs) (by decide) rfl (Nat.le_of_ble_eq_true rfl) (Nat.le_of_ble_eq_true rfl) (Nat.le_of_ble_eq_true rfl) (Nat.le_of_ble_eq_true rfl) (Nat.le_of_ble_eq_true rfl) (s_X12_laysStep_x G hs nb ?_)
              refine r_vret dX12_readUnit_155 rfl (Nat.le_of_ble_eq_true rfl) (Nat.le_of_ble_eq_true rfl) ?_
              exact hQ _ o81 d81 p81b (fun h_z => absurd h_z hr)
            · refine n_bipush dX12_readUnit_145 (by decide) (fun r145 e145 => ?_)
              refine r_goto (t := 152) dX12_readUnit_147 (by decide) ?_
              refine q_callV1 zm_RX12_162 dX12_readUnit_152 (shM_k hs) (by decide) rfl (Nat.le_of_ble_eq_true rfl) (Nat.le_of_ble_eq_true rfl) (Nat.le_of_ble_eq_true rfl) (Nat.le_of_ble_eq_true rfl) (Nat.le_of_ble_eq_true rfl) (s_X12_laysStep_x G hs nb ?_)
              refine r_vret dX12_readUnit_155 rfl (Nat.le_of_ble_eq_true rfl) (Nat.le_of_ble_eq_true rfl) ?_
              exact hQ _ o81 d81 p81b (fun h_z => absurd h_z hr)
          · refine n_bipush dX12_readUnit_134 (by decide) (fun r134 e134 => ?_)
            refine r_goto (t := 152) dX12_readUnit_136 (by decide) ?_
            refine q_callV1 zm_RX12_162 dX12_readUnit_152 (shM_k hs) (by decide) rfl (Nat.le_of_ble_eq_true rfl) (Nat.le_of_ble_eq_true rfl) (Nat.le_of_ble_eq_true rfl) (Nat.le_of_ble_eq_true rfl) (Nat.le_of_ble_eq_true rfl) (s_X12_laysStep_x G hs nb ?_)
            refine r_vret dX12_readUnit_155 rfl (Nat.le_of_ble_eq_true rfl) (Nat.le_of_ble_eq_true rfl) ?_
            exact hQ _ o81 d81 p81b (fun h_z => absurd h_z hr)
        · refine r_aloadR0 dX12_readUnit_107 ?_
          refine n_iconst dX12_readUnit_108 (by decide) (fun r108 e108 => ?_)
          refine q_callV1 zm_RX12_134 dX12_readUnit_109 (shM_k hs) (by decide) rfl (Nat.le_of_ble_eq_true rfl) (Nat.le_of_ble_eq_true rfl) (Nat.le_of_ble_eq_true rfl) (Nat.le_of_ble_eq_true rfl) (Nat.le_of_ble_eq_true rfl) (s_X12_blames_x G hs nb ?_)
          refine r_aloadR0 dX12_readUnit_112 ?_
          refine m_getV (x := (g81 A 12)) zf_RX12_112 rfl dX12_readUnit_113 (shM_k hs) (rfl) ?_
          refine t_ifne (t := 123) dX12_readUnit_116 (by decide) (fun h116 => ?_) (fun h116 => False.elim (by omega))
          refine r_aloadR0 dX12_readUnit_123 ?_
          refine q_callV0 zm_RX12_181 dX12_readUnit_124 (shM_k hs) (by decide) rfl (Nat.le_of_ble_eq_true rfl) (Nat.le_of_ble_eq_true rfl) (Nat.le_of_ble_eq_true rfl) (Nat.le_of_ble_eq_true rfl) (Nat.le_of_ble_eq_true rfl) (s_X12_readSum_x G hs nb ?_)
          refine r_aloadR0 dX12_readUnit_127 ?_
          refine r_iload1 dX12_readUnit_128 ?_
          refine n_bipush dX12_readUnit_129 (by decide) (fun r129 e129 => ?_)
          refine t_icne (t := 139) dX12_readUnit_131 (by decide) (fun h131 => ?_) (fun h131 => ?_)
          · refine r_iload1 dX12_readUnit_139 ?_
            refine n_bipush dX12_readUnit_140 (by decide) (fun r140 e140 => ?_)
            refine t_icne (t := 150) dX12_readUnit_142 (by decide) (fun h142 => ?_) (fun h142 => ?_)
            · refine n_bipush dX12_readUnit_150 (by decide) (fun r150 e150 => ?_)
              refine q_callV1 zm_RX12_162 dX12_readUnit_152 (shM_k hs) (by decide) rfl (Nat.le_of_ble_eq_true rfl) (Nat.le_of_ble_eq_true rfl) (Nat.le_of_ble_eq_true rfl) (Nat.le_of_ble_eq_true rfl) (Nat.le_of_ble_eq_true rfl) (s_X12_laysStep_x G hs nb ?_)
              refine r_vret dX12_readUnit_155 rfl (Nat.le_of_ble_eq_true rfl) (Nat.le_of_ble_eq_true rfl) ?_
              exact hQ _ o81 d81 p81b (fun h_z => absurd h_z hr)
            · refine n_bipush dX12_readUnit_145 (by decide) (fun r145 e145 => ?_)
              refine r_goto (t := 152) dX12_readUnit_147 (by decide) ?_
              refine q_callV1 zm_RX12_162 dX12_readUnit_152 (shM_k hs) (by decide) rfl (Nat.le_of_ble_eq_true rfl) (Nat.le_of_ble_eq_true rfl) (Nat.le_of_ble_eq_true rfl) (Nat.le_of_ble_eq_true rfl) (Nat.le_of_ble_eq_true rfl) (s_X12_laysStep_x G hs nb ?_)
              refine r_vret dX12_readUnit_155 rfl (Nat.le_of_ble_eq_true rfl) (Nat.le_of_ble_eq_true rfl) ?_
              exact hQ _ o81 d81 p81b (fun h_z => absurd h_z hr)
          · refine n_bipush dX12_readUnit_134 (by decide) (fun r134 e134 => ?_)
            refine r_goto (t := 152) dX12_readUnit_136 (by decide) ?_
            refine q_callV1 zm_RX12_162 dX12_readUnit_152 (shM_k hs) (by decide) rfl (Nat.le_of_ble_eq_true rfl) (Nat.le_of_ble_eq_true rfl) (Nat.le_of_ble_eq_true rfl) (Nat.le_of_ble_eq_true rfl) (Nat.le_of_ble_eq_true rfl) (s_X12_laysStep_x G hs nb ?_)
            refine r_vret dX12_readUnit_155 rfl (Nat.le_of_ble_eq_true rfl) (Nat.le_of_ble_eq_true rfl) ?_
            exact hQ _ o81 d81 p81b (fun h_z => absurd h_z hr)
set_option maxHeartbeats 4000000 in
set_option maxRecDepth 100000 in
theorem s_X12_readBoth_6 {g : zGT} {w : zW} {f : Nat → Nat → Int32} {j : Nat → Nat → Int64} {A : Nat} {B : Nat → Nat} {n : Nat} {wa wv : Nat → Nat} {kq : Nat} {p lm la u : Nat} {Q : Option Value → zW → Prop} {QX : String → zW → Prop} (G : zGok g) (hs : shM w A) (kw : kWd g wa wv kq) (hld : kLd g wa) (htp : tpM B n f A) (hps : psM B n f A 0 p) (hd16 : (f A 16).toInt = 0) (hlm : (f A 17).toInt = (lm : Nat)) (hla : (f A 18).toInt = (la : Nat)) (hu : (f (A + 2) lm).toInt = (u : Nat)) (h5 : lm ≤ 5) (h29 : 209 ≤ la) (h99 : la ≤ 2009) (hup : u ≤ p) (hQ : ∀ f2_z, frM A [2] [8, 9, 10, 11, 12, 13, 16] f f2_z → (f2_z A 16).toInt = 0 → psM B n f2_z A (chP B n (unP B n (if lm = 5 then 8 else 6) 6) (opA B n) p).1 (chP B n (unP B n (if lm = 5 then 8 else 6) 6) (opA B n) p).2.1 → ((chP B n (unP B n (if lm = 5 then 8 else 6) 6) (opA B n) p).1 = 0 → okM f f2_z A lm la u (chP B n (unP B n (if lm = 5 then 8 else 6) 6) (opA B n) p).2.2) → Q none (zM w f2_z j)) : zC g 65 yX12_readBoth cX12_readBoth 1 none [.ref A] (zM w f j) (0, 0) Q QX := by
  refine zC_of G (by decide +kernel) (Nat.le_of_ble_eq_true rfl) ?_
  have ht := hps.2.1 rfl
  have h12 := hps.1
  have h900 := htp.2.1
  have hgd : ∀ s, s ≤ n → gdP n true (if lm = 5 then 8 else 6) (4 + 2 * 6) s ((unP B n (if lm = 5 then 8 else 6) 6) s) := gd_un (by split <;> decide) 6
  have lp : ∀ (mz : Nat) (f2_z : Nat → Nat → Int32) (k : Nat) (r : zPR), frM A [2] [8, 9, 10, 11, 12, 13, 16] f f2_z → (f2_z A 16).toInt = 0 → psM B n f2_z A r.1 r.2.1 → (r.1 = 0 → okM f f2_z A lm la u r.2.2) → (r.1 = 0 → p ≤ r.2.1 ∧ r.2.1 ≤ n ∧ r.2.2.length + p ≤ r.2.1) → (r.1 = 0 → n ≤ k + r.2.1) → lpP B n (unP B n (if lm = 5 then 8 else 6) 6) (opA B n) k r = chP B n (unP B n (if lm = 5 then 8 else 6) 6) (opA B n) p → k < mz → zR (zV g 65 yX12_readBoth 1 none (0, 0) Q QX) cX12_readBoth yX12_readBoth.cls 4 [some (.ref A)] [] (zM w f2_z j) (0, 0) := by
    intro mz
    induction mz with
    | zero =>
      intro f2_z k r ofr hd2 hp2 hk2 hg2 hnk hR hmz
      exact absurd hmz (Nat.not_lt_zero _)
    | succ mz ih =>
      intro f2_z k r ofr hd2 hp2 hk2 hg2 hnk hR hmz
      by_cases hr : r.1 = 0
      · have hk3 := hk2 hr
        obtain ⟨q1_z, q2_z, q3_z⟩ := hg2 hr
        have hnk3 := hnk hr
        have hps2 := hp2
        rw [hr] at hps2
        have hb2 := hps2.1
        have htp2 := tpM_of htp (ofr.2.1 5 (by decide) (by decide) (by decide)) (ofr.2.2 7 (by decide))
        by_cases hc_z : isWd B n r.2.1 7 = true
        · have hop : (opA B n) r.2.1 = 2001 := if_pos hc_z
          have hop0 : (opA B n) r.2.1 ≠ 0 := by rw [hop]; decide
          have hln := tk_lt (B := B) (n := n) (s := r.2.1) (by rw [(isWd_tk hc_z).1]; decide)
          obtain ⟨k2_z, rfl⟩ : ∃ k2_z, k = k2_z + 1 := ⟨k - 1, by omega⟩
          have hnx := nxP_gt (B := B) hln
          have gq := hgd _ hnx.2
          by_cases hq : ((unP B n (if lm = 5 then 8 else 6) 6) (nxP B n r.2.1)).1 = 0
          · obtain ⟨y1, y2, y3, y4⟩ := gq.1 hq
            refine r_aloadR0 dX12_readBoth_4 ?_
            refine k_ldc (hld _ (List.mem_of_getElem? (i := 1) rfl)) dX12_readBoth_5 ?_
            refine q_callV1 zm_RX12_142 dX12_readBoth_7 (shM_k hs) (by decide) rfl (Nat.le_of_ble_eq_true rfl) (Nat.le_of_ble_eq_true rfl) (Nat.le_of_ble_eq_true rfl) (Nat.le_of_ble_eq_true rfl) (Nat.le_of_ble_eq_true rfl) (s_X12_took_t (i := 7) G hs kw (by decide) htp2 hps2 hc_z (fun r7 g7 e7_z o7 p7 => ?_))
            have htp7 := tpM_of htp2 (o7.2.1 5 (by decide) (by decide) (by decide)) (o7.2.2 7 (by decide))
            have w7 : g7 (A + 2) = f2_z (A + 2) := o7.2.1 2 (by decide) (by decide) (by decide)
            refine t_ifeq (t := 26) dX12_readBoth_10 (by decide) (fun h10 => False.elim (by omega)) (fun h10 => ?_)
            refine r_aloadR0 dX12_readBoth_13 ?_
            refine q_callV0 zm_RX12_165 dX12_readBoth_14 (shM_k hs) (by decide) rfl (Nat.le_of_ble_eq_true rfl) (Nat.le_of_ble_eq_true rfl) (Nat.le_of_ble_eq_true rfl) (Nat.le_of_ble_eq_true rfl) (Nat.le_of_ble_eq_true rfl) (s_X12_readUnit_6 (lm := lm) (la := la) (u := u + r.2.2.length) G hs kw hld htp7 p7 (by rw [o7.2.2 16 (by decide)]; exact hd2) (by rw [o7.2.2 17 (by decide), ofr.2.2 17 (by decide)]; exact hlm) (by rw [o7.2.2 18 (by decide), ofr.2.2 18 (by decide)]; exact hla) (by rw [w7]; exact hk3.1) h5 h29 h99 (by omega) (fun g14 o14 d14 p14 k14 => ?_))
            have of14 : frM A [2] [8, 9, 10, 11, 12, 13, 16] f g14 := frM_tr ofr (frM_tr (frM_su o7 (by decide) (by decide)) o14)
            have p14b : psM B n g14 A ((unP B n (if lm = 5 then 8 else 6) 6) (nxP B n r.2.1)).1 ((unP B n (if lm = 5 then 8 else 6) 6) (nxP B n r.2.1)).2.1 := p14
            have k14b : ((unP B n (if lm = 5 then 8 else 6) 6) (nxP B n r.2.1)).1 = 0 → okM g7 g14 A lm la (u + r.2.2.length) ((unP B n (if lm = 5 then 8 else 6) 6) (nxP B n r.2.1)).2.2 := k14
            refine r_aloadR0 dX12_readBoth_17 ?_
            refine n_bipush dX12_readBoth_18 (by decide) (fun r18 e18_z => ?_)
            refine q_callV1 zm_RX12_162 dX12_readBoth_20 (shM_k hs) (by decide) rfl (Nat.le_of_ble_eq_true rfl) (Nat.le_of_ble_eq_true rfl) (Nat.le_of_ble_eq_true rfl) (Nat.le_of_ble_eq_true rfl) (Nat.le_of_ble_eq_true rfl) (s_X12_laysStep (lm := lm) (la := la) (u := u + r.2.2.length + ((unP B n (if lm = 5 then 8 else 6) 6) (nxP B n r.2.1)).2.2.length) G hs (by have := p14b.1; rw [hq] at this; exact this) (by rw [of14.2.2 17 (by decide)]; exact hlm) (by rw [of14.2.2 18 (by decide)]; exact hla) (k14b hq).1 h5 h29 (by omega) (fun g20 o20 a20 b20 c20 => ?_))
            refine r_goto (t := 4) dX12_readBoth_23 (by decide) ?_
            have hp14 := p14b
            rw [hq] at hp14
            refine ih _ k2_z (0, ((unP B n (if lm = 5 then 8 else 6) 6) (nxP B n r.2.1)).2.1, r.2.2 ++ ((unP B n (if lm = 5 then 8 else 6) 6) (nxP B n r.2.1)).2.2 ++ [(opA B n) r.2.1]) (frM_tr of14 (frM_su o20 (by decide) (by decide))) (by rw [o20.2.2 16 (by decide)]; exact d14) (psM_of hp14 (o20.2.2 8 (by decide)) (o20.2.2 9 (by decide)) (o20.2.2 10 (by decide)) (o20.2.2 11 (by decide)) (o20.2.2 12 (by decide)) (o20.2.2 13 (by decide))) (fun _ => okM_ap (by omega) (by rw [List.length_append]; omega) (okM_ap (by omega) (by omega) hk3 (okM_cg (k14b hq) w7 rfl)) ?_) (fun _ => ?_) (fun _ => ?_) ?_ (by omega)
            · rw [List.length_append, ← Nat.add_assoc, hop]
              exact okM_one (by omega) a20 b20 c20 (by rw [e18_z]; rfl)
            · show p ≤ ((unP B n (if lm = 5 then 8 else 6) 6) (nxP B n r.2.1)).2.1 ∧ ((unP B n (if lm = 5 then 8 else 6) 6) (nxP B n r.2.1)).2.1 ≤ n ∧ (r.2.2 ++ ((unP B n (if lm = 5 then 8 else 6) 6) (nxP B n r.2.1)).2.2 ++ [(opA B n) r.2.1]).length + p ≤ ((unP B n (if lm = 5 then 8 else 6) 6) (nxP B n r.2.1)).2.1
              rw [List.length_append, List.length_append, List.length_singleton]
              omega
            · show n ≤ k2_z + ((unP B n (if lm = 5 then 8 else 6) 6) (nxP B n r.2.1)).2.1
              omega
            · exact (lpP_on hr hop0 hq).symm.trans hR
          · have nb : ∀ g : Nat → Nat → Int32, psM B n g A ((unP B n (if lm = 5 then 8 else 6) 6) (nxP B n r.2.1)).1 ((unP B n (if lm = 5 then 8 else 6) 6) (nxP B n r.2.1)).2.1 → (g A 12).toInt ≠ 0 := fun g h_z => by rw [h_z.1]; omega
            refine r_aloadR0 dX12_readBoth_4 ?_
            refine k_ldc (hld _ (List.mem_of_getElem? (i := 1) rfl)) dX12_readBoth_5 ?_
            refine q_callV1 zm_RX12_142 dX12_readBoth_7 (shM_k hs) (by decide) rfl (Nat.le_of_ble_eq_true rfl) (Nat.le_of_ble_eq_true rfl) (Nat.le_of_ble_eq_true rfl) (Nat.le_of_ble_eq_true rfl) (Nat.le_of_ble_eq_true rfl) (s_X12_took_t (i := 7) G hs kw (by decide) htp2 hps2 hc_z (fun r7 g7 e7_z o7 p7 => ?_))
            have htp7 := tpM_of htp2 (o7.2.1 5 (by decide) (by decide) (by decide)) (o7.2.2 7 (by decide))
            have w7 : g7 (A + 2) = f2_z (A + 2) := o7.2.1 2 (by decide) (by decide) (by decide)
            refine t_ifeq (t := 26) dX12_readBoth_10 (by decide) (fun h10 => False.elim (by omega)) (fun h10 => ?_)
            refine r_aloadR0 dX12_readBoth_13 ?_
            refine q_callV0 zm_RX12_165 dX12_readBoth_14 (shM_k hs) (by decide) rfl (Nat.le_of_ble_eq_true rfl) (Nat.le_of_ble_eq_true rfl) (Nat.le_of_ble_eq_true rfl) (Nat.le_of_ble_eq_true rfl) (Nat.le_of_ble_eq_true rfl) (s_X12_readUnit_6 (lm := lm) (la := la) (u := u + r.2.2.length) G hs kw hld htp7 p7 (by rw [o7.2.2 16 (by decide)]; exact hd2) (by rw [o7.2.2 17 (by decide), ofr.2.2 17 (by decide)]; exact hlm) (by rw [o7.2.2 18 (by decide), ofr.2.2 18 (by decide)]; exact hla) (by rw [w7]; exact hk3.1) h5 h29 h99 (by omega) (fun g14 o14 d14 p14 k14 => ?_))
            have of14 : frM A [2] [8, 9, 10, 11, 12, 13, 16] f g14 := frM_tr ofr (frM_tr (frM_su o7 (by decide) (by decide)) o14)
            have p14b : psM B n g14 A ((unP B n (if lm = 5 then 8 else 6) 6) (nxP B n r.2.1)).1 ((unP B n (if lm = 5 then 8 else 6) 6) (nxP B n r.2.1)).2.1 := p14
            have k14b : ((unP B n (if lm = 5 then 8 else 6) 6) (nxP B n r.2.1)).1 = 0 → okM g7 g14 A lm la (u + r.2.2.length) ((unP B n (if lm = 5 then 8 else 6) 6) (nxP B n r.2.1)).2.2 := k14
            refine r_aloadR0 dX12_readBoth_17 ?_
            refine n_bipush dX12_readBoth_18 (by decide) (fun r18 e18_z => ?_)
            refine q_callV1 zm_RX12_162 dX12_readBoth_20 (shM_k hs) (by decide) rfl (Nat.le_of_ble_eq_true rfl) (Nat.le_of_ble_eq_true rfl) (Nat.le_of_ble_eq_true rfl) (Nat.le_of_ble_eq_true rfl) (Nat.le_of_ble_eq_true rfl) (s_X12_laysStep_x G hs (nb _ p14b) ?_)
            refine r_goto (t := 4) dX12_readBoth_23 (by decide) ?_
            exact ih _ k2_z ((unP B n (if lm = 5 then 8 else 6) 6) (nxP B n r.2.1)) of14 d14 p14b (fun h_z => absurd h_z hq) (fun h_z => absurd h_z hq) (fun h_z => absurd h_z hq) ((lpP_bad hq).trans ((lpP_sub hr hop0 hq).symm.trans hR)) (by omega)
        · have hop : (opA B n) r.2.1 = 0 := if_neg hc_z
          have hv := (lpP_end (B := B) (n := n) (k := k) (sub := (unP B n (if lm = 5 then 8 else 6) 6)) hop).symm.trans hR
          refine r_aloadR0 dX12_readBoth_4 ?_
          refine k_ldc (hld _ (List.mem_of_getElem? (i := 1) rfl)) dX12_readBoth_5 ?_
          refine q_callV1 zm_RX12_142 dX12_readBoth_7 (shM_k hs) (by decide) rfl (Nat.le_of_ble_eq_true rfl) (Nat.le_of_ble_eq_true rfl) (Nat.le_of_ble_eq_true rfl) (Nat.le_of_ble_eq_true rfl) (Nat.le_of_ble_eq_true rfl) (s_X12_took_f (i := 7) G hs kw (by decide) htp2 hps2 hc_z (fun r7 e7_z => ?_))
          refine t_ifeq (t := 26) dX12_readBoth_10 (by decide) (fun h10 => ?_) (fun h10 => False.elim (by omega))
          refine r_vret dX12_readBoth_26 rfl (Nat.le_of_ble_eq_true rfl) (Nat.le_of_ble_eq_true rfl) ?_
          rw [← hv] at hQ
          exact hQ _ ofr hd2 hp2 hk2
      · have hb2 : (f2_z A 12).toInt ≠ 0 := by rw [hp2.1]; omega
        have hv := (lpP_bad (B := B) (n := n) (k := k) (sub := (unP B n (if lm = 5 then 8 else 6) 6)) (op := (opA B n)) hr).symm.trans hR
        refine r_aloadR0 dX12_readBoth_4 ?_
        refine k_ldc (hld _ (List.mem_of_getElem? (i := 1) rfl)) dX12_readBoth_5 ?_
        refine q_callV1 zm_RX12_142 dX12_readBoth_7 (shM_k hs) (by decide) rfl (Nat.le_of_ble_eq_true rfl) (Nat.le_of_ble_eq_true rfl) (Nat.le_of_ble_eq_true rfl) (Nat.le_of_ble_eq_true rfl) (Nat.le_of_ble_eq_true rfl) (s_X12_took_x (i := 7) (B := fun _ => 0) (n := 0) G hs kw (by decide) hb2 (fun r7 e7_z => ?_))
        refine t_ifeq (t := 26) dX12_readBoth_10 (by decide) (fun h10 => ?_) (fun h10 => False.elim (by omega))
        refine r_vret dX12_readBoth_26 rfl (Nat.le_of_ble_eq_true rfl) (Nat.le_of_ble_eq_true rfl) ?_
        rw [← hv] at hQ
        exact hQ _ ofr hd2 hp2 hk2
  refine r_aloadR0 dX12_readBoth_0 ?_
  refine q_callV0 zm_RX12_165 dX12_readBoth_1 (shM_k hs) (by decide) rfl (Nat.le_of_ble_eq_true rfl) (Nat.le_of_ble_eq_true rfl) (Nat.le_of_ble_eq_true rfl) (Nat.le_of_ble_eq_true rfl) (Nat.le_of_ble_eq_true rfl) (s_X12_readUnit_6 G hs kw hld htp hps hd16 hlm hla hu h5 h29 h99 hup (fun g1 o1 d1 p1 k1_z => ?_))
  have gp := hgd p ht.1
  exact lp _ g1 n ((unP B n (if lm = 5 then 8 else 6) 6) p) o1 d1 p1 k1_z (fun h_z => ⟨Nat.le_of_lt (gp.1 h_z).1, (gp.1 h_z).2.1, (gp.1 h_z).2.2.1⟩) (fun _ => Nat.le_add_right n _) rfl (Nat.lt_succ_self n)
set_option maxHeartbeats 4000000 in
set_option maxRecDepth 100000 in
theorem s_X12_readTruth_6 {g : zGT} {w : zW} {f : Nat → Nat → Int32} {j : Nat → Nat → Int64} {A : Nat} {B : Nat → Nat} {n : Nat} {wa wv : Nat → Nat} {kq : Nat} {p lm la u : Nat} {Q : Option Value → zW → Prop} {QX : String → zW → Prop} (G : zGok g) (hs : shM w A) (kw : kWd g wa wv kq) (hld : kLd g wa) (htp : tpM B n f A) (hps : psM B n f A 0 p) (hd16 : (f A 16).toInt = 0) (hlm : (f A 17).toInt = (lm : Nat)) (hla : (f A 18).toInt = (la : Nat)) (hu : (f (A + 2) lm).toInt = (u : Nat)) (h5 : lm ≤ 5) (h29 : 209 ≤ la) (h99 : la ≤ 2009) (hup : u ≤ p) (hQ : ∀ f2_z, frM A [2] [8, 9, 10, 11, 12, 13, 16] f f2_z → (f2_z A 16).toInt = 0 → psM B n f2_z A (chP B n (chP B n (unP B n (if lm = 5 then 8 else 6) 6) (opA B n)) (opO B n) p).1 (chP B n (chP B n (unP B n (if lm = 5 then 8 else 6) 6) (opA B n)) (opO B n) p).2.1 → ((chP B n (chP B n (unP B n (if lm = 5 then 8 else 6) 6) (opA B n)) (opO B n) p).1 = 0 → okM f f2_z A lm la u (chP B n (chP B n (unP B n (if lm = 5 then 8 else 6) 6) (opA B n)) (opO B n) p).2.2) → Q none (zM w f2_z j)) : zC g 66 yX12_readTruth cX12_readTruth 1 none [.ref A] (zM w f j) (0, 0) Q QX := by
  refine zC_of G (by decide +kernel) (Nat.le_of_ble_eq_true rfl) ?_
  have ht := hps.2.1 rfl
  have h12 := hps.1
  have h900 := htp.2.1
  have hgd : ∀ s, s ≤ n → gdP n true (if lm = 5 then 8 else 6) (4 + 2 * 6 + 1) s ((chP B n (unP B n (if lm = 5 then 8 else 6) 6) (opA B n)) s) := fun s hs9 => gd_ch (gd_un (by split <;> decide) 6) hop_A hs9
  have lp : ∀ (mz : Nat) (f2_z : Nat → Nat → Int32) (k : Nat) (r : zPR), frM A [2] [8, 9, 10, 11, 12, 13, 16] f f2_z → (f2_z A 16).toInt = 0 → psM B n f2_z A r.1 r.2.1 → (r.1 = 0 → okM f f2_z A lm la u r.2.2) → (r.1 = 0 → p ≤ r.2.1 ∧ r.2.1 ≤ n ∧ r.2.2.length + p ≤ r.2.1) → (r.1 = 0 → n ≤ k + r.2.1) → lpP B n (chP B n (unP B n (if lm = 5 then 8 else 6) 6) (opA B n)) (opO B n) k r = chP B n (chP B n (unP B n (if lm = 5 then 8 else 6) 6) (opA B n)) (opO B n) p → k < mz → zR (zV g 66 yX12_readTruth 1 none (0, 0) Q QX) cX12_readTruth yX12_readTruth.cls 4 [some (.ref A)] [] (zM w f2_z j) (0, 0) := by
    intro mz
    induction mz with
    | zero =>
      intro f2_z k r ofr hd2 hp2 hk2 hg2 hnk hR hmz
      exact absurd hmz (Nat.not_lt_zero _)
    | succ mz ih =>
      intro f2_z k r ofr hd2 hp2 hk2 hg2 hnk hR hmz
      by_cases hr : r.1 = 0
      · have hk3 := hk2 hr
        obtain ⟨q1_z, q2_z, q3_z⟩ := hg2 hr
        have hnk3 := hnk hr
        have hps2 := hp2
        rw [hr] at hps2
        have hb2 := hps2.1
        have htp2 := tpM_of htp (ofr.2.1 5 (by decide) (by decide) (by decide)) (ofr.2.2 7 (by decide))
        by_cases hc_z : isWd B n r.2.1 6 = true
        · have hop : (opO B n) r.2.1 = 2002 := if_pos hc_z
          have hop0 : (opO B n) r.2.1 ≠ 0 := by rw [hop]; decide
          have hln := tk_lt (B := B) (n := n) (s := r.2.1) (by rw [(isWd_tk hc_z).1]; decide)
          obtain ⟨k2_z, rfl⟩ : ∃ k2_z, k = k2_z + 1 := ⟨k - 1, by omega⟩
          have hnx := nxP_gt (B := B) hln
          have gq := hgd _ hnx.2
          by_cases hq : ((chP B n (unP B n (if lm = 5 then 8 else 6) 6) (opA B n)) (nxP B n r.2.1)).1 = 0
          · obtain ⟨y1, y2, y3, y4⟩ := gq.1 hq
            refine r_aloadR0 dX12_readTruth_4 ?_
            refine k_ldc (hld _ (List.mem_of_getElem? (i := 0) rfl)) dX12_readTruth_5 ?_
            refine q_callV1 zm_RX12_142 dX12_readTruth_7 (shM_k hs) (by decide) rfl (Nat.le_of_ble_eq_true rfl) (Nat.le_of_ble_eq_true rfl) (Nat.le_of_ble_eq_true rfl) (Nat.le_of_ble_eq_true rfl) (Nat.le_of_ble_eq_true rfl) (s_X12_took_t (i := 6) G hs kw (by decide) htp2 hps2 hc_z (fun r7 g7 e7_z o7 p7 => ?_))
            have htp7 := tpM_of htp2 (o7.2.1 5 (by decide) (by decide) (by decide)) (o7.2.2 7 (by decide))
            have w7 : g7 (A + 2) = f2_z (A + 2) := o7.2.1 2 (by decide) (by decide) (by decide)
            refine t_ifeq (t := 26) dX12_readTruth_10 (by decide) (fun h10 => False.elim (by omega)) (fun h10 => ?_)
            refine r_aloadR0 dX12_readTruth_13 ?_
            refine q_callV0 zm_RX12_157 dX12_readTruth_14 (shM_k hs) (by decide) rfl (Nat.le_of_ble_eq_true rfl) (Nat.le_of_ble_eq_true rfl) (Nat.le_of_ble_eq_true rfl) (Nat.le_of_ble_eq_true rfl) (Nat.le_of_ble_eq_true rfl) (s_X12_readBoth_6 (lm := lm) (la := la) (u := u + r.2.2.length) G hs kw hld htp7 p7 (by rw [o7.2.2 16 (by decide)]; exact hd2) (by rw [o7.2.2 17 (by decide), ofr.2.2 17 (by decide)]; exact hlm) (by rw [o7.2.2 18 (by decide), ofr.2.2 18 (by decide)]; exact hla) (by rw [w7]; exact hk3.1) h5 h29 h99 (by omega) (fun g14 o14 d14 p14 k14 => ?_))
            have of14 : frM A [2] [8, 9, 10, 11, 12, 13, 16] f g14 := frM_tr ofr (frM_tr (frM_su o7 (by decide) (by decide)) o14)
            have p14b : psM B n g14 A ((chP B n (unP B n (if lm = 5 then 8 else 6) 6) (opA B n)) (nxP B n r.2.1)).1 ((chP B n (unP B n (if lm = 5 then 8 else 6) 6) (opA B n)) (nxP B n r.2.1)).2.1 := p14
            have k14b : ((chP B n (unP B n (if lm = 5 then 8 else 6) 6) (opA B n)) (nxP B n r.2.1)).1 = 0 → okM g7 g14 A lm la (u + r.2.2.length) ((chP B n (unP B n (if lm = 5 then 8 else 6) 6) (opA B n)) (nxP B n r.2.1)).2.2 := k14
            refine r_aloadR0 dX12_readTruth_17 ?_
            refine n_bipush dX12_readTruth_18 (by decide) (fun r18 e18_z => ?_)
            refine q_callV1 zm_RX12_162 dX12_readTruth_20 (shM_k hs) (by decide) rfl (Nat.le_of_ble_eq_true rfl) (Nat.le_of_ble_eq_true rfl) (Nat.le_of_ble_eq_true rfl) (Nat.le_of_ble_eq_true rfl) (Nat.le_of_ble_eq_true rfl) (s_X12_laysStep (lm := lm) (la := la) (u := u + r.2.2.length + ((chP B n (unP B n (if lm = 5 then 8 else 6) 6) (opA B n)) (nxP B n r.2.1)).2.2.length) G hs (by have := p14b.1; rw [hq] at this; exact this) (by rw [of14.2.2 17 (by decide)]; exact hlm) (by rw [of14.2.2 18 (by decide)]; exact hla) (k14b hq).1 h5 h29 (by omega) (fun g20 o20 a20 b20 c20 => ?_))
            refine r_goto (t := 4) dX12_readTruth_23 (by decide) ?_
            have hp14 := p14b
            rw [hq] at hp14
            refine ih _ k2_z (0, ((chP B n (unP B n (if lm = 5 then 8 else 6) 6) (opA B n)) (nxP B n r.2.1)).2.1, r.2.2 ++ ((chP B n (unP B n (if lm = 5 then 8 else 6) 6) (opA B n)) (nxP B n r.2.1)).2.2 ++ [(opO B n) r.2.1]) (frM_tr of14 (frM_su o20 (by decide) (by decide))) (by rw [o20.2.2 16 (by decide)]; exact d14) (psM_of hp14 (o20.2.2 8 (by decide)) (o20.2.2 9 (by decide)) (o20.2.2 10 (by decide)) (o20.2.2 11 (by decide)) (o20.2.2 12 (by decide)) (o20.2.2 13 (by decide))) (fun _ => okM_ap (by omega) (by rw [List.length_append]; omega) (okM_ap (by omega) (by omega) hk3 (okM_cg (k14b hq) w7 rfl)) ?_) (fun _ => ?_) (fun _ => ?_) ?_ (by omega)
            · rw [List.length_append, ← Nat.add_assoc, hop]
              exact okM_one (by omega) a20 b20 c20 (by rw [e18_z]; rfl)
            · show p ≤ ((chP B n (unP B n (if lm = 5 then 8 else 6) 6) (opA B n)) (nxP B n r.2.1)).2.1 ∧ ((chP B n (unP B n (if lm = 5 then 8 else 6) 6) (opA B n)) (nxP B n r.2.1)).2.1 ≤ n ∧ (r.2.2 ++ ((chP B n (unP B n (if lm = 5 then 8 else 6) 6) (opA B n)) (nxP B n r.2.1)).2.2 ++ [(opO B n) r.2.1]).length + p ≤ ((chP B n (unP B n (if lm = 5 then 8 else 6) 6) (opA B n)) (nxP B n r.2.1)).2.1
              rw [List.length_append, List.length_append, List.length_singleton]
              omega
            · show n ≤ k2_z + ((chP B n (unP B n (if lm = 5 then 8 else 6) 6) (opA B n)) (nxP B n r.2.1)).2.1
              omega
            · exact (lpP_on hr hop0 hq).symm.trans hR
          · have nb : ∀ g : Nat → Nat → Int32, psM B n g A ((chP B n (unP B n (if lm = 5 then 8 else 6) 6) (opA B n)) (nxP B n r.2.1)).1 ((chP B n (unP B n (if lm = 5 then 8 else 6) 6) (opA B n)) (nxP B n r.2.1)).2.1 → (g A 12).toInt ≠ 0 := fun g h_z => by rw [h_z.1]; omega
            refine r_aloadR0 dX12_readTruth_4 ?_
            refine k_ldc (hld _ (List.mem_of_getElem? (i := 0) rfl)) dX12_readTruth_5 ?_
            refine q_callV1 zm_RX12_142 dX12_readTruth_7 (shM_k hs) (by decide) rfl (Nat.le_of_ble_eq_true rfl) (Nat.le_of_ble_eq_true rfl) (Nat.le_of_ble_eq_true rfl) (Nat.le_of_ble_eq_true rfl) (Nat.le_of_ble_eq_true rfl) (s_X12_took_t (i := 6) G hs kw (by decide) htp2 hps2 hc_z (fun r7 g7 e7_z o7 p7 => ?_))
            have htp7 := tpM_of htp2 (o7.2.1 5 (by decide) (by decide) (by decide)) (o7.2.2 7 (by decide))
            have w7 : g7 (A + 2) = f2_z (A + 2) := o7.2.1 2 (by decide) (by decide) (by decide)
            refine t_ifeq (t := 26) dX12_readTruth_10 (by decide) (fun h10 => False.elim (by omega)) (fun h10 => ?_)
            refine r_aloadR0 dX12_readTruth_13 ?_
            refine q_callV0 zm_RX12_157 dX12_readTruth_14 (shM_k hs) (by decide) rfl (Nat.le_of_ble_eq_true rfl) (Nat.le_of_ble_eq_true rfl) (Nat.le_of_ble_eq_true rfl) (Nat.le_of_ble_eq_true rfl) (Nat.le_of_ble_eq_true rfl) (s_X12_readBoth_6 (lm := lm) (la := la) (u := u + r.2.2.length) G hs kw hld htp7 p7 (by rw [o7.2.2 16 (by decide)]; exact hd2) (by rw [o7.2.2 17 (by decide), ofr.2.2 17 (by decide)]; exact hlm) (by rw [o7.2.2 18 (by decide), ofr.2.2 18 (by decide)]; exact hla) (by rw [w7]; exact hk3.1) h5 h29 h99 (by omega) (fun g14 o14 d14 p14 k14 => ?_))
            have of14 : frM A [2] [8, 9, 10, 11, 12, 13, 16] f g14 := frM_tr ofr (frM_tr (frM_su o7 (by decide) (by decide)) o14)
            have p14b : psM B n g14 A ((chP B n (unP B n (if lm = 5 then 8 else 6) 6) (opA B n)) (nxP B n r.2.1)).1 ((chP B n (unP B n (if lm = 5 then 8 else 6) 6) (opA B n)) (nxP B n r.2.1)).2.1 := p14
            have k14b : ((chP B n (unP B n (if lm = 5 then 8 else 6) 6) (opA B n)) (nxP B n r.2.1)).1 = 0 → okM g7 g14 A lm la (u + r.2.2.length) ((chP B n (unP B n (if lm = 5 then 8 else 6) 6) (opA B n)) (nxP B n r.2.1)).2.2 := k14
            refine r_aloadR0 dX12_readTruth_17 ?_
            refine n_bipush dX12_readTruth_18 (by decide) (fun r18 e18_z => ?_)
            refine q_callV1 zm_RX12_162 dX12_readTruth_20 (shM_k hs) (by decide) rfl (Nat.le_of_ble_eq_true rfl) (Nat.le_of_ble_eq_true rfl) (Nat.le_of_ble_eq_true rfl) (Nat.le_of_ble_eq_true rfl) (Nat.le_of_ble_eq_true rfl) (s_X12_laysStep_x G hs (nb _ p14b) ?_)
            refine r_goto (t := 4) dX12_readTruth_23 (by decide) ?_
            exact ih _ k2_z ((chP B n (unP B n (if lm = 5 then 8 else 6) 6) (opA B n)) (nxP B n r.2.1)) of14 d14 p14b (fun h_z => absurd h_z hq) (fun h_z => absurd h_z hq) (fun h_z => absurd h_z hq) ((lpP_bad hq).trans ((lpP_sub hr hop0 hq).symm.trans hR)) (by omega)
        · have hop : (opO B n) r.2.1 = 0 := if_neg hc_z
          have hv := (lpP_end (B := B) (n := n) (k := k) (sub := (chP B n (unP B n (if lm = 5 then 8 else 6) 6) (opA B n))) hop).symm.trans hR
          refine r_aloadR0 dX12_readTruth_4 ?_
          refine k_ldc (hld _ (List.mem_of_getElem? (i := 0) rfl)) dX12_readTruth_5 ?_
          refine q_callV1 zm_RX12_142 dX12_readTruth_7 (shM_k hs) (by decide) rfl (Nat.le_of_ble_eq_true rfl) (Nat.le_of_ble_eq_true rfl) (Nat.le_of_ble_eq_true rfl) (Nat.le_of_ble_eq_true rfl) (Nat.le_of_ble_eq_true rfl) (s_X12_took_f (i := 6) G hs kw (by decide) htp2 hps2 hc_z (fun r7 e7_z => ?_))
          refine t_ifeq (t := 26) dX12_readTruth_10 (by decide) (fun h10 => ?_) (fun h10 => False.elim (by omega))
          refine r_vret dX12_readTruth_26 rfl (Nat.le_of_ble_eq_true rfl) (Nat.le_of_ble_eq_true rfl) ?_
          rw [← hv] at hQ
          exact hQ _ ofr hd2 hp2 hk2
      · have hb2 : (f2_z A 12).toInt ≠ 0 := by rw [hp2.1]; omega
        have hv := (lpP_bad (B := B) (n := n) (k := k) (sub := (chP B n (unP B n (if lm = 5 then 8 else 6) 6) (opA B n))) (op := (opO B n)) hr).symm.trans hR
        refine r_aloadR0 dX12_readTruth_4 ?_
        refine k_ldc (hld _ (List.mem_of_getElem? (i := 0) rfl)) dX12_readTruth_5 ?_
        refine q_callV1 zm_RX12_142 dX12_readTruth_7 (shM_k hs) (by decide) rfl (Nat.le_of_ble_eq_true rfl) (Nat.le_of_ble_eq_true rfl) (Nat.le_of_ble_eq_true rfl) (Nat.le_of_ble_eq_true rfl) (Nat.le_of_ble_eq_true rfl) (s_X12_took_x (i := 6) (B := fun _ => 0) (n := 0) G hs kw (by decide) hb2 (fun r7 e7_z => ?_))
        refine t_ifeq (t := 26) dX12_readTruth_10 (by decide) (fun h10 => ?_) (fun h10 => False.elim (by omega))
        refine r_vret dX12_readTruth_26 rfl (Nat.le_of_ble_eq_true rfl) (Nat.le_of_ble_eq_true rfl) ?_
        rw [← hv] at hQ
        exact hQ _ ofr hd2 hp2 hk2
  refine r_aloadR0 dX12_readTruth_0 ?_
  refine q_callV0 zm_RX12_157 dX12_readTruth_1 (shM_k hs) (by decide) rfl (Nat.le_of_ble_eq_true rfl) (Nat.le_of_ble_eq_true rfl) (Nat.le_of_ble_eq_true rfl) (Nat.le_of_ble_eq_true rfl) (Nat.le_of_ble_eq_true rfl) (s_X12_readBoth_6 G hs kw hld htp hps hd16 hlm hla hu h5 h29 h99 hup (fun g1 o1 d1 p1 k1_z => ?_))
  have gp := hgd p ht.1
  exact lp _ g1 n ((chP B n (unP B n (if lm = 5 then 8 else 6) 6) (opA B n)) p) o1 d1 p1 k1_z (fun h_z => ⟨Nat.le_of_lt (gp.1 h_z).1, (gp.1 h_z).2.1, (gp.1 h_z).2.2.1⟩) (fun _ => Nat.le_add_right n _) rfl (Nat.lt_succ_self n)
