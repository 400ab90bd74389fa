/-! the class's Reader: the next token -/
section ZMW
variable {V : zVT} {cd : ByteArray} {ow : String} {pc : Nat} {ls : List (Option Value)} {st : List Value} {w : zW} {b : Nat × Nat} {f : Nat → Nat → Int32} {j : Nat → Nat → Int64}
theorem m_putW {ix A q : Nat} {v : Option Nat} (hf : zfl ow ix 4 6) (hdc : decode cd pc = .ok (.putfield ix, 3)) (hk : zK w A = 5) (kk : zR V cd ow (pc + 3) ls st (zM (wW w A (some q)) f j) b) : zR V cd ow pc ls (.ref q :: .ref A :: st) (zM (wW w A v) f j) b := by
  refine m_putP (w := wW w A v) hf (by intro C T N h_z; cases h_z; rfl) rfl hdc hk ?_
  rw [wW_w]
  exact kk
end ZMW
set_option maxHeartbeats 4000000 in
set_option maxRecDepth 100000 in
theorem s_X5_nextNumber {g : zGT} {w : zW} {f : Nat → Nat → Int32} {j : Nat → Nat → Int64} {A tq nq : Nat} {v : Option Nat} {B : Nat → Nat} {n : Nat} {s : Nat} {Q : Option Value → zW → Prop} {QX : String → zW → Prop} (G : zGok g) (hr : shRd w A tq nq) (htp : tpR B n f A tq) (h2 : (f A 2).toInt = (s : Nat)) (h3 : (f A 3).toInt = (s : Nat)) (hsl : s < n) (hcd : isDg (B s) = true) (hQ : ∀ f2_z, frM A [] [2, 4, 5] f f2_z → (f2_z A 2).toInt = (teP B n s : Nat) → (f2_z A 4).toInt = (tkP B n s : Nat) → (tkP B n s = 2 → (f2_z A 5).toInt = (nmP B n s : Nat)) → Q none (zM (wW w A v) f2_z j)) : zC g 3 yX5_nextNumber cX5_nextNumber 2 none [.ref A] (zM (wW w A v) f j) (0, 0) Q QX := by
  refine zC_of G (by decide +kernel) (Nat.le_of_ble_eq_true rfl) ?_
  have h900 := htp.2.1
  have lp : ∀ (mz : Nat) (u : Int32) (k : Nat) (f2_z : Nat → Nat → Int32), s ≤ k → k ≤ n → (f2_z A 2).toInt = (k : Nat) → (f2_z A 3).toInt = (s : Nat) → frM A [] [2] f f2_z → (∀ q, s ≤ q → q < k → q < n ∧ isDg (B q) = true) → (0 ≤ u.toInt ∧ u.toInt ≤ 1000000) → (k - s ≤ 3 → u.toInt = (dgV B s (k - s) : Nat)) → n - k < mz → zR (zV g 3 yX5_nextNumber 2 none (0, 0) Q QX) cX5_nextNumber yX5_nextNumber.cls 2 [some (.ref A), some (.int u)] [] (zM (wW w A v) f2_z j) (0, 0) := by
    intro mz
    induction mz with
    | zero =>
      intro u k f2_z hsk hkl h2k h3k ofr hin hu hv hmz
      exact absurd hmz (Nat.not_lt_zero _)
    | succ mz ih =>
      intro u k f2_z hsk hkl h2k h3k ofr hin hu hv hmz
      have htp2 := tpR_of htp (shRd_t hr) ofr (by decide)
      have h1 := htp2.1
      rcases Nat.lt_or_ge k n with hkn | hkn
      · have hB_z := htp2.2.2.2 k
        by_cases hc_z : 48 ≤ B k ∧ B k ≤ 57
        · have hst : dgV B s (k + 1 - s) = 10 * dgV B s (k - s) + (B k - 48) := by
            rw [show k + 1 - s = (k - s) + 1 by omega]
            show 10 * dgV B s (k - s) + (B (s + (k - s)) - 48) = _
            rw [show s + (k - s) = k by omega]
          have hdv : k - s ≤ 2 → dgV B s (k - s) ≤ 99 := by
            intro h3
            have h4 := dgV_bd (B := B) (s := s) (k - s) (fun q h5 h6 => (hin q h5 (by omega)).2)
            have h5 : 10 ^ (k - s) ≤ 10 ^ 2 := Nat.pow_le_pow_right (by decide) h3
            have h6 : (10 : Nat) ^ 2 = 100 := by decide
            omega
          refine r_aloadR0 dX5_nextNumber_2 ?_
          refine m_getV (x := (f2_z A 2)) zf_RX5_19 rfl dX5_nextNumber_3 hr.1 (rfl) ?_
          refine r_aloadR0 dX5_nextNumber_6 ?_
          refine m_getV (x := (f2_z A 1)) zf_RX5_15 rfl dX5_nextNumber_7 hr.1 (rfl) ?_
          refine t_icge (t := 62) dX5_nextNumber_10 (by decide) (fun h10 => False.elim (by omega)) (fun h10 => ?_)
          refine r_aloadR0 dX5_nextNumber_13 ?_
          refine r_aloadR0 dX5_nextNumber_14 ?_
          refine m_getV (x := (f2_z A 2)) zf_RX5_19 rfl dX5_nextNumber_15 hr.1 (rfl) ?_
          refine q_callV1 zm_RX5_203 dX5_nextNumber_18 hr.1 (by decide) rfl (Nat.le_of_ble_eq_true rfl) (Nat.le_of_ble_eq_true rfl) (Nat.le_of_ble_eq_true rfl) (Nat.le_of_ble_eq_true rfl) (Nat.le_of_ble_eq_true rfl) (s_X5_byteAt (n := n) (B := B) (k := k) G hr htp2 (by omega) (fun r18 e18_z => ?_))
          have b18 : r18.toInt = (B k : Nat) := by rw [e18_z]; unfold bAt; rw [if_pos hkn]
          refine q_callS1 zm_RX5_206 dX5_nextNumber_21 (Nat.le_of_ble_eq_true rfl) (Nat.le_of_ble_eq_true rfl) (Nat.le_of_ble_eq_true rfl) (Nat.le_of_ble_eq_true rfl) (Nat.le_of_ble_eq_true rfl) (s_X5_isDigit G (fun r21 e21_z => ?_))
          refine t_ifeq (t := 62) dX5_nextNumber_24 (by decide) (fun h24 => False.elim (by omega)) (fun h24 => ?_)
          refine n_bipush dX5_nextNumber_27 (by decide) (fun r27 e27_z => ?_)
          refine r_iload1 dX5_nextNumber_29 ?_
          refine n_imulc dX5_nextNumber_30 e27_z (by omega) (fun r30 e30 => ?_)
          refine r_aloadR0 dX5_nextNumber_31 ?_
          refine r_aloadR0 dX5_nextNumber_32 ?_
          refine m_getV (x := (f2_z A 2)) zf_RX5_19 rfl dX5_nextNumber_33 hr.1 (rfl) ?_
          refine q_callV1 zm_RX5_203 dX5_nextNumber_36 hr.1 (by decide) rfl (Nat.le_of_ble_eq_true rfl) (Nat.le_of_ble_eq_true rfl) (Nat.le_of_ble_eq_true rfl) (Nat.le_of_ble_eq_true rfl) (Nat.le_of_ble_eq_true rfl) (s_X5_byteAt (n := n) (B := B) (k := k) G hr htp2 (by omega) (fun r36 e36 => ?_))
          have b36 : r36.toInt = (B k : Nat) := by rw [e36]; unfold bAt; rw [if_pos hkn]
          refine n_iadd dX5_nextNumber_39 (by omega) (fun r39 e39 => ?_)
          refine n_bipush dX5_nextNumber_40 (by decide) (fun r40 e40 => ?_)
          refine n_isub dX5_nextNumber_42 (by omega) (fun r42 e42_z => ?_)
          refine n_ldc (n := 1000000) zk_RX5_221 dX5_nextNumber_43 (by decide) (fun r43 e43 => ?_)
          refine r_mmin zm_RX5_64 dX5_nextNumber_45 (Nat.le_of_ble_eq_true rfl) (Nat.le_of_ble_eq_true rfl) (Nat.le_of_ble_eq_true rfl) (Nat.le_of_ble_eq_true rfl) (Nat.le_of_ble_eq_true rfl) (fun r45 e45 => ?_)
          refine r_istore1 dX5_nextNumber_48 rfl ?_
          refine r_aloadR0 dX5_nextNumber_49 ?_
          refine r_dup dX5_nextNumber_50 rfl ?_
          refine m_getV (x := (f2_z A 2)) zf_RX5_19 rfl dX5_nextNumber_51 hr.1 (rfl) ?_
          refine n_iconst dX5_nextNumber_54 (by decide) (fun r54 e54 => ?_)
          refine n_iadd dX5_nextNumber_55 (by omega) (fun r55 e55 => ?_)
          refine m_putI zf_RX5_19 (by intro C T N h_z; cases h_z; rfl) rfl dX5_nextNumber_56 hr.1 ?_
          obtain ⟨g56, hg56⟩ : ∃ g9, g9 = zu f2_z A 2 r55 := ⟨_, rfl⟩
          rw [← hg56]
          have og56 : frM A [] [2] f2_z g56 := by rw [hg56]; exact frM_zk frM_rf (by decide)
          have vg56 : g56 A 2 = r55 := by rw [hg56]; exact zu_at
          have vt56 : (g56 A 2).toInt = r55.toInt := by rw [vg56]
          refine r_goto (t := 2) dX5_nextNumber_59 (by decide) ?_
          refine ih _ (k + 1) _ (by omega) (by omega) (by rw [vt56]; omega) (by rw [og56.2.2 3 (by decide)]; exact h3k) (frM_tr ofr (frM_su og56 (by decide) (by decide))) (fun q h1 h2 => ?_) (by omega) (fun h1 => ?_) (by omega)
          · rcases Nat.lt_or_ge q k with h4 | h4
            · exact hin q h1 h4
            · rw [show q = k by omega]; exact ⟨hkn, isDg_of hc_z⟩
          · have hv3 := hv (by omega)
            have hd3 := hdv (by omega)
            rw [hst]
            omega
        · refine r_aloadR0 dX5_nextNumber_2 ?_
          refine m_getV (x := (f2_z A 2)) zf_RX5_19 rfl dX5_nextNumber_3 hr.1 (rfl) ?_
          refine r_aloadR0 dX5_nextNumber_6 ?_
          refine m_getV (x := (f2_z A 1)) zf_RX5_15 rfl dX5_nextNumber_7 hr.1 (rfl) ?_
          refine t_icge (t := 62) dX5_nextNumber_10 (by decide) (fun h10 => False.elim (by omega)) (fun h10 => ?_)
          refine r_aloadR0 dX5_nextNumber_13 ?_
          refine r_aloadR0 dX5_nextNumber_14 ?_
          refine m_getV (x := (f2_z A 2)) zf_RX5_19 rfl dX5_nextNumber_15 hr.1 (rfl) ?_
          refine q_callV1 zm_RX5_203 dX5_nextNumber_18 hr.1 (by decide) rfl (Nat.le_of_ble_eq_true rfl) (Nat.le_of_ble_eq_true rfl) (Nat.le_of_ble_eq_true rfl) (Nat.le_of_ble_eq_true rfl) (Nat.le_of_ble_eq_true rfl) (s_X5_byteAt (n := n) (B := B) (k := k) G hr htp2 (by omega) (fun r18 e18_z => ?_))
          have b18 : r18.toInt = (B k : Nat) := by rw [e18_z]; unfold bAt; rw [if_pos hkn]
          refine q_callS1 zm_RX5_206 dX5_nextNumber_21 (Nat.le_of_ble_eq_true rfl) (Nat.le_of_ble_eq_true rfl) (Nat.le_of_ble_eq_true rfl) (Nat.le_of_ble_eq_true rfl) (Nat.le_of_ble_eq_true rfl) (s_X5_isDigit G (fun r21 e21_z => ?_))
          refine t_ifeq (t := 62) dX5_nextNumber_24 (by decide) (fun h24 => ?_) (fun h24 => False.elim (by omega))
          refine r_aloadR0 dX5_nextNumber_62 ?_
          refine r_iload1 dX5_nextNumber_63 ?_
          refine m_putI zf_RX5_28 (by intro C T N h_z; cases h_z; rfl) rfl dX5_nextNumber_64 hr.1 ?_
          obtain ⟨g64, hg64⟩ : ∃ g9, g9 = zu f2_z A 5 u := ⟨_, rfl⟩
          rw [← hg64]
          have og64 : frM A [] [5] f2_z g64 := by rw [hg64]; exact frM_zk frM_rf (by decide)
          have vg64 : g64 A 5 = u := by rw [hg64]; exact zu_at
          have vt64 : (g64 A 5).toInt = u.toInt := by rw [vg64]
          have y2 : (g64 A 2).toInt = (k : Nat) := by rw [og64.2.2 2 (by decide)]; exact h2k
          have y3 : (g64 A 3).toInt = (s : Nat) := by rw [og64.2.2 3 (by decide)]; exact h3k
          refine r_aloadR0 dX5_nextNumber_67 ?_
          refine r_aloadR0 dX5_nextNumber_68 ?_
          refine m_getV (x := (g64 A 2)) zf_RX5_19 rfl dX5_nextNumber_69 hr.1 (rfl) ?_
          refine r_aloadR0 dX5_nextNumber_72 ?_
          refine m_getV (x := (g64 A 3)) zf_RX5_22 rfl dX5_nextNumber_73 hr.1 (rfl) ?_
          refine n_isub dX5_nextNumber_76 (by omega) (fun r76 e76 => ?_)
          refine n_iconst dX5_nextNumber_77 (by decide) (fun r77 e77 => ?_)
          refine t_icle (t := 85) dX5_nextNumber_78 (by decide) (fun h78 => ?_) (fun h78 => ?_)
          · refine n_iconst dX5_nextNumber_85 (by decide) (fun r85 e85 => ?_)
            refine m_putI zf_RX5_25 (by intro C T N h_z; cases h_z; rfl) rfl dX5_nextNumber_86 hr.1 ?_
            obtain ⟨g86, hg86⟩ : ∃ g9, g9 = zu g64 A 4 r85 := ⟨_, rfl⟩
            rw [← hg86]
            have og86 : frM A [] [4] g64 g86 := by rw [hg86]; exact frM_zk frM_rf (by decide)
            have vg86 : g86 A 4 = r85 := by rw [hg86]; exact zu_at
            have vt86 : (g86 A 4).toInt = r85.toInt := by rw [vg86]
            refine r_vret dX5_nextNumber_89 rfl (Nat.le_of_ble_eq_true rfl) (Nat.le_of_ble_eq_true rfl) ?_
            have hte : k = teP B n s := by
              rw [(tk_dig hsl hcd).1]
              exact (ruE_eq hsk hin (fun h_z => isDg_no hc_z h_z.2)).symm
            have htk := tk_dig hsl hcd
            rw [← hte] at htk
            refine hQ _ (frM_tr (frM_su ofr (by decide) (by decide)) (frM_tr (frM_su og64 (by decide) (by decide)) (frM_su og86 (by decide) (by decide)))) (by rw [og86.2.2 2 (by decide), og64.2.2 2 (by decide)]; omega) ?_ (fun e => ?_)
            · rw [vt86]
              rcases Nat.lt_or_ge 3 (k - s) with h3 | h3
              · rw [(htk.2.1 h3).1]; omega
              · rw [(htk.2.2 (by omega)).1]; omega
            · rw [og86.2.2 5 (by decide), vt64]
              have h3 := (tk2 e).2.2
              unfold nmP
              rw [← hte] at h3 ⊢
              exact hv h3
          · refine n_iconst dX5_nextNumber_81 (by decide) (fun r81 e81 => ?_)
            refine r_goto (t := 86) dX5_nextNumber_82 (by decide) ?_
            refine m_putI zf_RX5_25 (by intro C T N h_z; cases h_z; rfl) rfl dX5_nextNumber_86 hr.1 ?_
            obtain ⟨g86, hg86⟩ : ∃ g9, g9 = zu g64 A 4 r81 := ⟨_, rfl⟩
            rw [← hg86]
            have og86 : frM A [] [4] g64 g86 := by rw [hg86]; exact frM_zk frM_rf (by decide)
            have vg86 : g86 A 4 = r81 := by rw [hg86]; exact zu_at
            have vt86 : (g86 A 4).toInt = r81.toInt := by rw [vg86]
            refine r_vret dX5_nextNumber_89 rfl (Nat.le_of_ble_eq_true rfl) (Nat.le_of_ble_eq_true rfl) ?_
            have hte : k = teP B n s := by
              rw [(tk_dig hsl hcd).1]
              exact (ruE_eq hsk hin (fun h_z => isDg_no hc_z h_z.2)).symm
            have htk := tk_dig hsl hcd
            rw [← hte] at htk
            refine hQ _ (frM_tr (frM_su ofr (by decide) (by decide)) (frM_tr (frM_su og64 (by decide) (by decide)) (frM_su og86 (by decide) (by decide)))) (by rw [og86.2.2 2 (by decide), og64.2.2 2 (by decide)]; omega) ?_ (fun e => ?_)
            · rw [vt86]
              rcases Nat.lt_or_ge 3 (k - s) with h3 | h3
              · rw [(htk.2.1 h3).1]; omega
              · rw [(htk.2.2 (by omega)).1]; omega
            · rw [og86.2.2 5 (by decide), vt64]
              have h3 := (tk2 e).2.2
              unfold nmP
              rw [← hte] at h3 ⊢
              exact hv h3
      · refine r_aloadR0 dX5_nextNumber_2 ?_
        refine m_getV (x := (f2_z A 2)) zf_RX5_19 rfl dX5_nextNumber_3 hr.1 (rfl) ?_
        refine r_aloadR0 dX5_nextNumber_6 ?_
        refine m_getV (x := (f2_z A 1)) zf_RX5_15 rfl dX5_nextNumber_7 hr.1 (rfl) ?_
        refine t_icge (t := 62) dX5_nextNumber_10 (by decide) (fun h10 => ?_) (fun h10 => False.elim (by omega))
        refine r_aloadR0 dX5_nextNumber_62 ?_
        refine r_iload1 dX5_nextNumber_63 ?_
        refine m_putI zf_RX5_28 (by intro C T N h_z; cases h_z; rfl) rfl dX5_nextNumber_64 hr.1 ?_
        obtain ⟨g64, hg64⟩ : ∃ g9, g9 = zu f2_z A 5 u := ⟨_, rfl⟩
        rw [← hg64]
        have og64 : frM A [] [5] f2_z g64 := by rw [hg64]; exact frM_zk frM_rf (by decide)
        have vg64 : g64 A 5 = u := by rw [hg64]; exact zu_at
        have vt64 : (g64 A 5).toInt = u.toInt := by rw [vg64]
        have y2 : (g64 A 2).toInt = (k : Nat) := by rw [og64.2.2 2 (by decide)]; exact h2k
        have y3 : (g64 A 3).toInt = (s : Nat) := by rw [og64.2.2 3 (by decide)]; exact h3k
        refine r_aloadR0 dX5_nextNumber_67 ?_
        refine r_aloadR0 dX5_nextNumber_68 ?_
        refine m_getV (x := (g64 A 2)) zf_RX5_19 rfl dX5_nextNumber_69 hr.1 (rfl) ?_
        refine r_aloadR0 dX5_nextNumber_72 ?_
        refine m_getV (x := (g64 A 3)) zf_RX5_22 rfl dX5_nextNumber_73 hr.1 (rfl) ?_
        refine n_isub dX5_nextNumber_76 (by omega) (fun r76 e76 => ?_)
        refine n_iconst dX5_nextNumber_77 (by decide) (fun r77 e77 => ?_)
        refine t_icle (t := 85) dX5_nextNumber_78 (by decide) (fun h78 => ?_) (fun h78 => ?_)
        · refine n_iconst dX5_nextNumber_85 (by decide) (fun r85 e85 => ?_)
          refine m_putI zf_RX5_25 (by intro C T N h_z; cases h_z; rfl) rfl dX5_nextNumber_86 hr.1 ?_
          obtain ⟨g86, hg86⟩ : ∃ g9, g9 = zu g64 A 4 r85 := ⟨_, rfl⟩
          rw [← hg86]
          have og86 : frM A [] [4] g64 g86 := by rw [hg86]; exact frM_zk frM_rf (by decide)
          have vg86 : g86 A 4 = r85 := by rw [hg86]; exact zu_at
          have vt86 : (g86 A 4).toInt = r85.toInt := by rw [vg86]
          refine r_vret dX5_nextNumber_89 rfl (Nat.le_of_ble_eq_true rfl) (Nat.le_of_ble_eq_true rfl) ?_
          have hte : k = teP B n s := by
            rw [(tk_dig hsl hcd).1]
            exact (ruE_eq hsk hin (fun h_z => absurd h_z.1 (by omega))).symm
          have htk := tk_dig hsl hcd
          rw [← hte] at htk
          refine hQ _ (frM_tr (frM_su ofr (by decide) (by decide)) (frM_tr (frM_su og64 (by decide) (by decide)) (frM_su og86 (by decide) (by decide)))) (by rw [og86.2.2 2 (by decide), og64.2.2 2 (by decide)]; omega) ?_ (fun e => ?_)
          · rw [vt86]
            rcases Nat.lt_or_ge 3 (k - s) with h3 | h3
            · rw [(htk.2.1 h3).1]; omega
            · rw [(htk.2.2 (by omega)).1]; omega
          · rw [og86.2.2 5 (by decide), vt64]
            have h3 := (tk2 e).2.2
            unfold nmP
            rw [← hte] at h3 ⊢
            exact hv h3
        · refine n_iconst dX5_nextNumber_81 (by decide) (fun r81 e81 => ?_)
          refine r_goto (t := 86) dX5_nextNumber_82 (by decide) ?_
          refine m_putI zf_RX5_25 (by intro C T N h_z; cases h_z; rfl) rfl dX5_nextNumber_86 hr.1 ?_
          obtain ⟨g86, hg86⟩ : ∃ g9, g9 = zu g64 A 4 r81 := ⟨_, rfl⟩
          rw [← hg86]
          have og86 : frM A [] [4] g64 g86 := by rw [hg86]; exact frM_zk frM_rf (by decide)
          have vg86 : g86 A 4 = r81 := by rw [hg86]; exact zu_at
          have vt86 : (g86 A 4).toInt = r81.toInt := by rw [vg86]
          refine r_vret dX5_nextNumber_89 rfl (Nat.le_of_ble_eq_true rfl) (Nat.le_of_ble_eq_true rfl) ?_
          have hte : k = teP B n s := by
            rw [(tk_dig hsl hcd).1]
            exact (ruE_eq hsk hin (fun h_z => absurd h_z.1 (by omega))).symm
          have htk := tk_dig hsl hcd
          rw [← hte] at htk
          refine hQ _ (frM_tr (frM_su ofr (by decide) (by decide)) (frM_tr (frM_su og64 (by decide) (by decide)) (frM_su og86 (by decide) (by decide)))) (by rw [og86.2.2 2 (by decide), og64.2.2 2 (by decide)]; omega) ?_ (fun e => ?_)
          · rw [vt86]
            rcases Nat.lt_or_ge 3 (k - s) with h3 | h3
            · rw [(htk.2.1 h3).1]; omega
            · rw [(htk.2.2 (by omega)).1]; omega
          · rw [og86.2.2 5 (by decide), vt64]
            have h3 := (tk2 e).2.2
            unfold nmP
            rw [← hte] at h3 ⊢
            exact hv h3
  refine n_iconst dX5_nextNumber_0 (by decide) (fun r0 e0_z => ?_)
  refine r_istore1 dX5_nextNumber_1 rfl ?_
  exact lp _ _ s f (Nat.le_refl s) (Nat.le_of_lt hsl) h2 h3 frM_rf (fun q h1 h2 => absurd h2 (by omega)) (by omega) (fun _ => by rw [Nat.sub_self]; exact e0_z) (Nat.lt_succ_self _)
set_option maxHeartbeats 4000000 in
set_option maxRecDepth 100000 in
theorem s_X5_isSpelled {g : zGT} {w : zW} {f : Nat → Nat → Int32} {j : Nat → Nat → Int64} {A tq nq : Nat} {v : Option Nat} {B : Nat → Nat} {n : Nat} {a vv gq : Nat} {L : List Nat} {s e : Nat} {Q : Option Value → zW → Prop} {QX : String → zW → Prop} (G : zGok g) (hr : shRd w A tq nq) (htp : tpR B n f A tq) (h2 : (f A 2).toInt = (e : Nat)) (h3 : (f A 3).toInt = (s : Nat)) (hse : s ≤ e) (hen : e ≤ n) (ht : kTx g a vv L) (kc : kCS g) (kz : ∀ U, g.2.2.2 U → va_Z "jdk/internal/util/Preconditions" "SIOOBE_FORMATTER" "Ljava/util/function/BiFunction;" (kQv gq) (zA g.2.2.1) U U.heap) (hQ : ∀ r : Int32, (r.toInt = 1 ∧ ltP B s e = L ∨ r.toInt = 0 ∧ ¬ ltP B s e = L) → Q (some (.int r)) (zM (wW w A v) f j)) : zC g 5 yX5_isSpelled cX5_isSpelled 4 (some .boolean) [.ref A, .ref a] (zM (wW w A v) f j) (0, 0) Q QX := by
  refine zC_of G (by decide +kernel) (Nat.le_of_ble_eq_true rfl) ?_
  have h900 := htp.2.1
  have hl9 := ht.1
  by_cases hle : L.length = e - s
  · have lq : True := trivial
    have lp : ∀ (mz : Nat) (u : Int32) (k : Nat) (v3_ : Option Value), u.toInt = (k : Nat) → k ≤ L.length → (∀ q, q < k → B (s + q) = L.getD q 0) → L.length - k < mz → zR (zV g 5 yX5_isSpelled 4 (some .boolean) (0, 0) Q QX) cX5_isSpelled yX5_isSpelled.cls 20 [some (.ref A), some (.ref a), some (.int u), v3_] [] (zM (wW w A v) f j) (0, 0) := by
      intro mz
      induction mz with
      | zero =>
        intro u k v3_ huk hk9 hok hmz
        exact absurd hmz (Nat.not_lt_zero _)
      | succ mz ih =>
        intro u k v3_ huk hk9 hok hmz
        rcases Nat.lt_or_ge k L.length with hkl | hkl
        · have hkn : s + k < n := by omega
          have hbt := htp.2.2.1 (s + k) hkn
          have hb5 := htp.2.2.2 (s + k)
          have hlt : L.getD k 0 < 128 := by rw [List.getD_eq_getElem?_getD, List.getElem?_eq_getElem hkl]; exact ht.2.1 _ (List.getElem_mem hkl)
          unfold btO at hbt
          by_cases hc_z : B (s + k) = L.getD k 0
          · rw [if_pos (by omega)] at hbt
            refine r_iload2 dX5_isSpelled_20 ?_
            refine r_aloadR1 dX5_isSpelled_21 ?_
            refine k_callV0 zm_RX5_234 dX5_isSpelled_22 (fun U hU => (ht.2.2 U hU).1) (Nat.le_of_ble_eq_true rfl) (Nat.le_of_ble_eq_true rfl) (Nat.le_of_ble_eq_true rfl) (Nat.le_of_ble_eq_true rfl) (Nat.le_of_ble_eq_true rfl) (s_length G ht kc (fun r22 e22_z => ?_))
            refine t_icge (t := 70) dX5_isSpelled_25 (by decide) (fun h25 => False.elim (by omega)) (fun h25 => ?_)
            refine r_aloadR0 dX5_isSpelled_28 ?_
            refine m_getV (x := (f A 3)) zf_RX5_22 rfl dX5_isSpelled_29 hr.1 (rfl) ?_
            refine r_iload2 dX5_isSpelled_32 ?_
            refine n_iadd dX5_isSpelled_33 (by omega) (fun r33 e33_z => ?_)
            refine r_istore3 dX5_isSpelled_34 rfl ?_
            refine r_iload3 dX5_isSpelled_35 ?_
            refine t_iflt (t := 62) dX5_isSpelled_36 (by decide) (fun h36 => False.elim (by omega)) (fun h36 => ?_)
            refine r_iload3 dX5_isSpelled_39 ?_
            refine r_aloadR0 dX5_isSpelled_40 ?_
            refine m_getR (q := tq) zf_RX5_9 rfl dX5_isSpelled_41 hr.1 (shRd_p0 hr) ?_
            refine m_alen dX5_isSpelled_44 (zge hr.2.2.2.2.1.1 (by decide)) hr.2.2.2.2.1.2 (by first | decide | omega) (fun r44 e44 => ?_)
            refine t_icge (t := 62) dX5_isSpelled_45 (by decide) (fun h45 => False.elim (by omega)) (fun h45 => ?_)
            refine r_aloadR1 dX5_isSpelled_48 ?_
            refine r_iload2 dX5_isSpelled_49 ?_
            refine k_callV1 zm_RX5_238 dX5_isSpelled_50 (fun U hU => (ht.2.2 U hU).1) (Nat.le_of_ble_eq_true rfl) (Nat.le_of_ble_eq_true rfl) (Nat.le_of_ble_eq_true rfl) (Nat.le_of_ble_eq_true rfl) (Nat.le_of_ble_eq_true rfl) (s_charAt (i := k) G ht kc kz huk hkl (fun r50 e50 => ?_))
            refine r_aloadR0 dX5_isSpelled_53 ?_
            refine m_getR (q := tq) zf_RX5_9 rfl dX5_isSpelled_54 hr.1 (shRd_p0 hr) ?_
            refine r_iload3 dX5_isSpelled_57 ?_
            refine m_bald (k := (s + k)) (x := (f tq ((s + k)))) dX5_isSpelled_58 hr.2.2.2.2.1.1 hr.2.2.2.2.1.2 (by omega) (by omega) (rfl) ?_
            refine t_iceq (t := 64) dX5_isSpelled_59 (by decide) (fun h59 => ?_) (fun h59 => False.elim (by omega))
            refine n_iinc2 dX5_isSpelled_64 (by decide) rfl (by omega) (fun r64 e64 => ?_)
            refine r_goto (t := 20) dX5_isSpelled_67 (by decide) ?_
            refine ih _ (k + 1) _ (by omega) (by omega) (fun q hq => ?_) (by omega)
            rcases Nat.lt_or_ge q k with h7 | h7
            · exact hok q h7
            · rw [show q = k by omega]; exact hc_z
          · have hnb : (f tq (s + k)).toInt ≠ (L.getD k 0 : Nat) := by
              split at hbt <;> omega
            refine r_iload2 dX5_isSpelled_20 ?_
            refine r_aloadR1 dX5_isSpelled_21 ?_
            refine k_callV0 zm_RX5_234 dX5_isSpelled_22 (fun U hU => (ht.2.2 U hU).1) (Nat.le_of_ble_eq_true rfl) (Nat.le_of_ble_eq_true rfl) (Nat.le_of_ble_eq_true rfl) (Nat.le_of_ble_eq_true rfl) (Nat.le_of_ble_eq_true rfl) (s_length G ht kc (fun r22 e22_z => ?_))
            refine t_icge (t := 70) dX5_isSpelled_25 (by decide) (fun h25 => False.elim (by omega)) (fun h25 => ?_)
            refine r_aloadR0 dX5_isSpelled_28 ?_
            refine m_getV (x := (f A 3)) zf_RX5_22 rfl dX5_isSpelled_29 hr.1 (rfl) ?_
            refine r_iload2 dX5_isSpelled_32 ?_
            refine n_iadd dX5_isSpelled_33 (by omega) (fun r33 e33_z => ?_)
            refine r_istore3 dX5_isSpelled_34 rfl ?_
            refine r_iload3 dX5_isSpelled_35 ?_
            refine t_iflt (t := 62) dX5_isSpelled_36 (by decide) (fun h36 => False.elim (by omega)) (fun h36 => ?_)
            refine r_iload3 dX5_isSpelled_39 ?_
            refine r_aloadR0 dX5_isSpelled_40 ?_
            refine m_getR (q := tq) zf_RX5_9 rfl dX5_isSpelled_41 hr.1 (shRd_p0 hr) ?_
            refine m_alen dX5_isSpelled_44 (zge hr.2.2.2.2.1.1 (by decide)) hr.2.2.2.2.1.2 (by first | decide | omega) (fun r44 e44 => ?_)
            refine t_icge (t := 62) dX5_isSpelled_45 (by decide) (fun h45 => False.elim (by omega)) (fun h45 => ?_)
            refine r_aloadR1 dX5_isSpelled_48 ?_
            refine r_iload2 dX5_isSpelled_49 ?_
            refine k_callV1 zm_RX5_238 dX5_isSpelled_50 (fun U hU => (ht.2.2 U hU).1) (Nat.le_of_ble_eq_true rfl) (Nat.le_of_ble_eq_true rfl) (Nat.le_of_ble_eq_true rfl) (Nat.le_of_ble_eq_true rfl) (Nat.le_of_ble_eq_true rfl) (s_charAt (i := k) G ht kc kz huk hkl (fun r50 e50 => ?_))
            refine r_aloadR0 dX5_isSpelled_53 ?_
            refine m_getR (q := tq) zf_RX5_9 rfl dX5_isSpelled_54 hr.1 (shRd_p0 hr) ?_
            refine r_iload3 dX5_isSpelled_57 ?_
            refine m_bald (k := (s + k)) (x := (f tq ((s + k)))) dX5_isSpelled_58 hr.2.2.2.2.1.1 hr.2.2.2.2.1.2 (by omega) (by omega) (rfl) ?_
            refine t_iceq (t := 64) dX5_isSpelled_59 (by decide) (fun h59 => False.elim (by omega)) (fun h59 => ?_)
            refine n_iconst dX5_isSpelled_62 (by decide) (fun r62 e62 => ?_)
            refine m_zret dX5_isSpelled_63 rfl (by omega) (Nat.le_of_ble_eq_true rfl) (Nat.le_of_ble_eq_true rfl) ?_
            exact hQ _ (Or.inr ⟨by omega, fun h7 => hc_z ((ltP_eq.mp h7).2 k hkl)⟩)
        · refine r_iload2 dX5_isSpelled_20 ?_
          refine r_aloadR1 dX5_isSpelled_21 ?_
          refine k_callV0 zm_RX5_234 dX5_isSpelled_22 (fun U hU => (ht.2.2 U hU).1) (Nat.le_of_ble_eq_true rfl) (Nat.le_of_ble_eq_true rfl) (Nat.le_of_ble_eq_true rfl) (Nat.le_of_ble_eq_true rfl) (Nat.le_of_ble_eq_true rfl) (s_length G ht kc (fun r22 e22_z => ?_))
          refine t_icge (t := 70) dX5_isSpelled_25 (by decide) (fun h25 => ?_) (fun h25 => False.elim (by omega))
          refine n_iconst dX5_isSpelled_70 (by decide) (fun r70 e70 => ?_)
          refine m_zret dX5_isSpelled_71 rfl (by omega) (Nat.le_of_ble_eq_true rfl) (Nat.le_of_ble_eq_true rfl) ?_
          exact hQ _ (Or.inl ⟨by omega, ltP_eq.mpr ⟨hle, fun q hq => hok q (by omega)⟩⟩)
    refine r_aloadR1 dX5_isSpelled_0 ?_
    refine k_callV0 zm_RX5_234 dX5_isSpelled_1 (fun U hU => (ht.2.2 U hU).1) (Nat.le_of_ble_eq_true rfl) (Nat.le_of_ble_eq_true rfl) (Nat.le_of_ble_eq_true rfl) (Nat.le_of_ble_eq_true rfl) (Nat.le_of_ble_eq_true rfl) (s_length G ht kc (fun r1 e1_z => ?_))
    refine r_aloadR0 dX5_isSpelled_4 ?_
    refine m_getV (x := (f A 2)) zf_RX5_19 rfl dX5_isSpelled_5 hr.1 (rfl) ?_
    refine r_aloadR0 dX5_isSpelled_8 ?_
    refine m_getV (x := (f A 3)) zf_RX5_22 rfl dX5_isSpelled_9 hr.1 (rfl) ?_
    refine n_isub dX5_isSpelled_12 (by omega) (fun r12 e12_z => ?_)
    refine t_iceq (t := 18) dX5_isSpelled_13 (by decide) (fun h13 => ?_) (fun h13 => False.elim (by omega))
    refine n_iconst dX5_isSpelled_18 (by decide) (fun r18 e18_z => ?_)
    refine r_istore2 dX5_isSpelled_19 rfl ?_
    exact lp _ _ 0 _ (by omega) (Nat.zero_le _) (fun q hq => absurd hq (Nat.not_lt_zero q)) (Nat.lt_succ_self _)
  · refine r_aloadR1 dX5_isSpelled_0 ?_
    refine k_callV0 zm_RX5_234 dX5_isSpelled_1 (fun U hU => (ht.2.2 U hU).1) (Nat.le_of_ble_eq_true rfl) (Nat.le_of_ble_eq_true rfl) (Nat.le_of_ble_eq_true rfl) (Nat.le_of_ble_eq_true rfl) (Nat.le_of_ble_eq_true rfl) (s_length G ht kc (fun r1 e1_z => ?_))
    refine r_aloadR0 dX5_isSpelled_4 ?_
    refine m_getV (x := (f A 2)) zf_RX5_19 rfl dX5_isSpelled_5 hr.1 (rfl) ?_
    refine r_aloadR0 dX5_isSpelled_8 ?_
    refine m_getV (x := (f A 3)) zf_RX5_22 rfl dX5_isSpelled_9 hr.1 (rfl) ?_
    refine n_isub dX5_isSpelled_12 (by omega) (fun r12 e12_z => ?_)
    refine t_iceq (t := 18) dX5_isSpelled_13 (by decide) (fun h13 => False.elim (by omega)) (fun h13 => ?_)
    refine n_iconst dX5_isSpelled_16 (by decide) (fun r16 e16_z => ?_)
    refine m_zret dX5_isSpelled_17 rfl (by omega) (Nat.le_of_ble_eq_true rfl) (Nat.le_of_ble_eq_true rfl) ?_
    exact hQ _ (Or.inr ⟨by omega, fun h7 => hle (ltP_eq.mp h7).1⟩)
set_option maxHeartbeats 4000000 in
set_option maxRecDepth 100000 in
theorem s_X5_nextWord {g : zGT} {w : zW} {f : Nat → Nat → Int32} {j : Nat → Nat → Int64} {A tq nq : Nat} {v : Option Nat} {B : Nat → Nat} {n : Nat} {ca wa wv : Nat → Nat} {kq ta sm gq gv : Nat} {s : Nat} {Q : Option Value → zW → Prop} {QX : String → zW → Prop} (G : zGok g) (hr : shRd w A tq nq) (kw : kWd g wa wv kq) (ko : kWo g ca wa wv ta sm gq gv) (htp : tpR B n f A tq) (h2 : (f A 2).toInt = (s : Nat)) (h3 : (f A 3).toInt = (s : Nat)) (hsl : s < n) (hnd : ¬ isDg (B s) = true) (hcl : isLt (B s) = true) (hQ : ∀ f2_z, frM A [] [2, 4] f f2_z → (f2_z A 2).toInt = (teP B n s : Nat) → (f2_z A 4).toInt = 3 → Q none (zM (wW w A (some (ca (wdP B n s)))) f2_z j)) : zC g 6 yX5_nextWord cX5_nextWord 2 none [.ref A] (zM (wW w A v) f j) (0, 0) Q QX := by
  refine zC_of G (by decide +kernel) (Nat.le_of_ble_eq_true rfl) ?_
  have h900 := htp.2.1
  have htk := tk_let hsl hnd hcl
  have htg := teP_gt (B := B) hsl
  have hdt : ∀ i, i < 17 → ∃ L, kTx g (wa i) (wv i) L ∧ (ltP B s (teP B n s) = L ↔ wdP B n s = i ∧ i ≠ 16) := by
    intro i hi_z
    by_cases h16_z : i = 16
    · subst h16_z
      refine ⟨[], ko.2.2.2.2.2.2.2.1, ⟨fun h_z => ?_, fun h_z => absurd rfl h_z.2⟩⟩
      have := congrArg List.length h_z
      rw [ltP_len] at this
      simp at this
      omega
    · exact ⟨_, kw.2.2 i (by omega), ⟨fun h_z => ⟨(wd_eq (by omega)).mpr h_z, h16_z⟩, fun h_z => (wd_eq (by omega)).mp h_z.1⟩⟩
  have hnest : ∀ U, g.2.2.2 U → va_Nw (.fieldLinkNest RX5 222 "NapkinDeeds$Word" "ALL" "[LNapkinDeeds$Word;" "NapkinDeeds") U := fun U hU => (G.2.2 U hU).1 _ (List.mem_of_getElem? (i := 10) rfl)
  have l2 : ∀ (mz : Nat) (u : Option Nat) (uu : Int32) (k : Nat) (f2_z : Nat → Nat → Int32), uu.toInt = (k : Nat) → k ≤ 17 → frM A [] [2, 4] f f2_z → (f2_z A 2).toInt = (teP B n s : Nat) → (f2_z A 3).toInt = (s : Nat) → (f2_z A 4).toInt = 3 → (u = some (ca (wdP B n s)) ∨ u = some (ca 16) ∧ k ≤ wdP B n s) → 17 - k < mz → zR (zV g 6 yX5_nextWord 2 none (0, 0) Q QX) cX5_nextWord yX5_nextWord.cls 52 [some (.ref A), some (.int uu)] [] (zM (wW w A u) f2_z j) (0, 0) := by
    intro mz
    induction mz with
    | zero =>
      intro u uu k f2_z huk hk9 ofr h2k h3k h4k hu hmz
      exact absurd hmz (Nat.not_lt_zero _)
    | succ mz ih =>
      intro u uu k f2_z huk hk9 ofr h2k h3k h4k hu hmz
      have htp2 := tpR_of htp (shRd_t hr) ofr (by decide)
      rcases Nat.lt_or_ge k 17 with hkl | hkl
      · obtain ⟨L, hL, hLe⟩ := hdt k hkl
        have hko := ko.2.2.2.2.1 k hkl
        have h17 : (Int32.ofNat 17).toInt = 17 := rfl
        by_cases hwk : wdP B n s = k ∧ k ≠ 16
        · refine r_iload1 dX5_nextWord_52 ?_
          refine k_getsN ko.2.2.1 hnest dX5_nextWord_53 ?_
          refine k_alen ko.2.2.2.1 dX5_nextWord_56 ?_
          refine t_icge (t := 90) dX5_nextWord_57 (by decide) (fun h57 => False.elim (by omega)) (fun h57 => ?_)
          refine r_aloadR0 dX5_nextWord_60 ?_
          refine k_getsN ko.2.2.1 hnest dX5_nextWord_61 ?_
          refine r_iload1 dX5_nextWord_64 ?_
          refine k_aald (k := k) ko.2.2.2.1 huk hkl (by decide) rfl dX5_nextWord_65 ?_
          refine k_getf (fun U hU => (hko U hU).2.1) zg_RX5_226 dX5_nextWord_66 ?_
          refine q_callV1 zm_RX5_230 dX5_nextWord_69 hr.1 (by decide) rfl (Nat.le_of_ble_eq_true rfl) (Nat.le_of_ble_eq_true rfl) (Nat.le_of_ble_eq_true rfl) (Nat.le_of_ble_eq_true rfl) (Nat.le_of_ble_eq_true rfl) (s_X5_isSpelled (s := s) (e := teP B n s) G hr htp2 h2k h3k (Nat.le_of_lt htg.1) htg.2 hL kw.1 kw.2.1 (fun r69 e69 => ?_))
          refine t_ifeq (t := 84) dX5_nextWord_72 (by decide) (fun h72 => False.elim (e69.elim (fun h_z => by omega) (fun h_z => h_z.2 (hLe.mpr hwk)))) (fun h72 => ?_)
          refine r_aloadR0 dX5_nextWord_75 ?_
          refine k_getsN ko.2.2.1 hnest dX5_nextWord_76 ?_
          refine r_iload1 dX5_nextWord_79 ?_
          refine k_aald (k := k) ko.2.2.2.1 huk hkl (by decide) rfl dX5_nextWord_80 ?_
          refine m_putW zf_RX5_37 dX5_nextWord_81 hr.1 ?_
          refine n_iinc1 dX5_nextWord_84 (by decide) rfl (by omega) (fun r84 e84 => ?_)
          refine r_goto (t := 52) dX5_nextWord_87 (by decide) ?_
          exact ih _ _ (k + 1) f2_z (by omega) (by omega) ofr h2k h3k h4k (Or.inl (by rw [hwk.1])) (by omega)
        · refine r_iload1 dX5_nextWord_52 ?_
          refine k_getsN ko.2.2.1 hnest dX5_nextWord_53 ?_
          refine k_alen ko.2.2.2.1 dX5_nextWord_56 ?_
          refine t_icge (t := 90) dX5_nextWord_57 (by decide) (fun h57 => False.elim (by omega)) (fun h57 => ?_)
          refine r_aloadR0 dX5_nextWord_60 ?_
          refine k_getsN ko.2.2.1 hnest dX5_nextWord_61 ?_
          refine r_iload1 dX5_nextWord_64 ?_
          refine k_aald (k := k) ko.2.2.2.1 huk hkl (by decide) rfl dX5_nextWord_65 ?_
          refine k_getf (fun U hU => (hko U hU).2.1) zg_RX5_226 dX5_nextWord_66 ?_
          refine q_callV1 zm_RX5_230 dX5_nextWord_69 hr.1 (by decide) rfl (Nat.le_of_ble_eq_true rfl) (Nat.le_of_ble_eq_true rfl) (Nat.le_of_ble_eq_true rfl) (Nat.le_of_ble_eq_true rfl) (Nat.le_of_ble_eq_true rfl) (s_X5_isSpelled (s := s) (e := teP B n s) G hr htp2 h2k h3k (Nat.le_of_lt htg.1) htg.2 hL kw.1 kw.2.1 (fun r69 e69 => ?_))
          refine t_ifeq (t := 84) dX5_nextWord_72 (by decide) (fun h72 => ?_) (fun h72 => False.elim (e69.elim (fun h_z => hwk (hLe.mp h_z.2)) (fun h_z => by omega)))
          refine n_iinc1 dX5_nextWord_84 (by decide) rfl (by omega) (fun r84 e84 => ?_)
          refine r_goto (t := 52) dX5_nextWord_87 (by decide) ?_
          refine ih _ _ (k + 1) f2_z (by omega) (by omega) ofr h2k h3k h4k ?_ (by omega)
          rcases hu with hu | ⟨hu, hu2⟩
          · exact Or.inl hu
          · by_cases h16_z : k = 16
            · refine Or.inl ?_
              have hle := wd_le (B := B) (n := n) (s := s)
              rw [hu, show wdP B n s = 16 by omega]
            · exact Or.inr ⟨hu, by have : wdP B n s ≠ k := fun h_z => hwk ⟨h_z, h16_z⟩; omega⟩
      · have h17 : (Int32.ofNat 17).toInt = 17 := rfl
        refine r_iload1 dX5_nextWord_52 ?_
        refine k_getsN ko.2.2.1 hnest dX5_nextWord_53 ?_
        refine k_alen ko.2.2.2.1 dX5_nextWord_56 ?_
        refine t_icge (t := 90) dX5_nextWord_57 (by decide) (fun h57 => ?_) (fun h57 => False.elim (by omega))
        refine r_vret dX5_nextWord_90 rfl (Nat.le_of_ble_eq_true rfl) (Nat.le_of_ble_eq_true rfl) ?_
        have hle := wd_le (B := B) (n := n) (s := s)
        have hu2 : u = some (ca (wdP B n s)) := hu.elim (fun h_z => h_z) (fun h_z => by omega)
        rw [hu2]
        exact hQ f2_z ofr h2k h4k
  have l1 : ∀ (mz : Nat) (f2_z : Nat → Nat → Int32) (k : Nat), s ≤ k → k ≤ n → (f2_z A 2).toInt = (k : Nat) → (f2_z A 3).toInt = (s : Nat) → frM A [] [2] f f2_z → (∀ q, s ≤ q → q < k → q < n ∧ isLt (B q) = true) → n - k < mz → zR (zV g 6 yX5_nextWord 2 none (0, 0) Q QX) cX5_nextWord yX5_nextWord.cls 0 [some (.ref A), none] [] (zM (wW w A v) f2_z j) (0, 0) := by
    intro mz
    induction mz with
    | zero =>
      intro f2_z k hsk hkl h2k h3k ofr hin hmz
      exact absurd hmz (Nat.not_lt_zero _)
    | succ mz ih =>
      intro f2_z k hsk hkl h2k h3k ofr hin hmz
      have htp2 := tpR_of htp (shRd_t hr) ofr (by decide)
      have h1 := htp2.1
      rcases Nat.lt_or_ge k n with hkn | hkn
      · have hB_z := htp2.2.2.2 k
        by_cases hc_z : 97 ≤ B k ∧ B k ≤ 122
        · refine r_aloadR0 dX5_nextWord_0 ?_
          refine m_getV (x := (f2_z A 2)) zf_RX5_19 rfl dX5_nextWord_1 hr.1 (rfl) ?_
          refine r_aloadR0 dX5_nextWord_4 ?_
          refine m_getV (x := (f2_z A 1)) zf_RX5_15 rfl dX5_nextWord_5 hr.1 (rfl) ?_
          refine t_icge (t := 38) dX5_nextWord_8 (by decide) (fun h8 => False.elim (by omega)) (fun h8 => ?_)
          refine r_aloadR0 dX5_nextWord_11 ?_
          refine r_aloadR0 dX5_nextWord_12 ?_
          refine m_getV (x := (f2_z A 2)) zf_RX5_19 rfl dX5_nextWord_13 hr.1 (rfl) ?_
          refine q_callV1 zm_RX5_203 dX5_nextWord_16 hr.1 (by decide) rfl (Nat.le_of_ble_eq_true rfl) (Nat.le_of_ble_eq_true rfl) (Nat.le_of_ble_eq_true rfl) (Nat.le_of_ble_eq_true rfl) (Nat.le_of_ble_eq_true rfl) (s_X5_byteAt (n := n) (B := B) (k := k) G hr htp2 (by omega) (fun r16 e16_z => ?_))
          have b16 : r16.toInt = (B k : Nat) := by rw [e16_z]; unfold bAt; rw [if_pos hkn]
          refine q_callS1 zm_RX5_212 dX5_nextWord_19 (Nat.le_of_ble_eq_true rfl) (Nat.le_of_ble_eq_true rfl) (Nat.le_of_ble_eq_true rfl) (Nat.le_of_ble_eq_true rfl) (Nat.le_of_ble_eq_true rfl) (s_X5_isLetter G (fun r19 e19_z => ?_))
          refine t_ifeq (t := 38) dX5_nextWord_22 (by decide) (fun h22 => False.elim (by omega)) (fun h22 => ?_)
          refine r_aloadR0 dX5_nextWord_25 ?_
          refine r_dup dX5_nextWord_26 rfl ?_
          refine m_getV (x := (f2_z A 2)) zf_RX5_19 rfl dX5_nextWord_27 hr.1 (rfl) ?_
          refine n_iconst dX5_nextWord_30 (by decide) (fun r30 e30 => ?_)
          refine n_iadd dX5_nextWord_31 (by omega) (fun r31 e31_z => ?_)
          refine m_putI zf_RX5_19 (by intro C T N h_z; cases h_z; rfl) rfl dX5_nextWord_32 hr.1 ?_
          obtain ⟨g32, hg32⟩ : ∃ g9, g9 = zu f2_z A 2 r31 := ⟨_, rfl⟩
          rw [← hg32]
          have og32 : frM A [] [2] f2_z g32 := by rw [hg32]; exact frM_zk frM_rf (by decide)
          have vg32 : g32 A 2 = r31 := by rw [hg32]; exact zu_at
          have vt32 : (g32 A 2).toInt = r31.toInt := by rw [vg32]
          refine r_goto (t := 0) dX5_nextWord_35 (by decide) ?_
          refine ih _ (k + 1) (by omega) (by omega) (by rw [vt32]; omega) (by rw [og32.2.2 3 (by decide)]; exact h3k) (frM_tr ofr (frM_su og32 (by decide) (by decide))) (fun q h1 h2 => ?_) (by omega)
          rcases Nat.lt_or_ge q k with h4 | h4
          · exact hin q h1 h4
          · rw [show q = k by omega]; exact ⟨hkn, isLt_of hc_z⟩
        · refine r_aloadR0 dX5_nextWord_0 ?_
          refine m_getV (x := (f2_z A 2)) zf_RX5_19 rfl dX5_nextWord_1 hr.1 (rfl) ?_
          refine r_aloadR0 dX5_nextWord_4 ?_
          refine m_getV (x := (f2_z A 1)) zf_RX5_15 rfl dX5_nextWord_5 hr.1 (rfl) ?_
          refine t_icge (t := 38) dX5_nextWord_8 (by decide) (fun h8 => False.elim (by omega)) (fun h8 => ?_)
          refine r_aloadR0 dX5_nextWord_11 ?_
          refine r_aloadR0 dX5_nextWord_12 ?_
          refine m_getV (x := (f2_z A 2)) zf_RX5_19 rfl dX5_nextWord_13 hr.1 (rfl) ?_
          refine q_callV1 zm_RX5_203 dX5_nextWord_16 hr.1 (by decide) rfl (Nat.le_of_ble_eq_true rfl) (Nat.le_of_ble_eq_true rfl) (Nat.le_of_ble_eq_true rfl) (Nat.le_of_ble_eq_true rfl) (Nat.le_of_ble_eq_true rfl) (s_X5_byteAt (n := n) (B := B) (k := k) G hr htp2 (by omega) (fun r16 e16_z => ?_))
          have b16 : r16.toInt = (B k : Nat) := by rw [e16_z]; unfold bAt; rw [if_pos hkn]
          refine q_callS1 zm_RX5_212 dX5_nextWord_19 (Nat.le_of_ble_eq_true rfl) (Nat.le_of_ble_eq_true rfl) (Nat.le_of_ble_eq_true rfl) (Nat.le_of_ble_eq_true rfl) (Nat.le_of_ble_eq_true rfl) (s_X5_isLetter G (fun r19 e19_z => ?_))
          refine t_ifeq (t := 38) dX5_nextWord_22 (by decide) (fun h22 => ?_) (fun h22 => False.elim (by omega))
          refine r_aloadR0 dX5_nextWord_38 ?_
          refine n_iconst dX5_nextWord_39 (by decide) (fun r39 e39 => ?_)
          refine m_putI zf_RX5_25 (by intro C T N h_z; cases h_z; rfl) rfl dX5_nextWord_40 hr.1 ?_
          obtain ⟨g40, hg40⟩ : ∃ g9, g9 = zu f2_z A 4 r39 := ⟨_, rfl⟩
          rw [← hg40]
          have og40 : frM A [] [4] f2_z g40 := by rw [hg40]; exact frM_zk frM_rf (by decide)
          have vg40 : g40 A 4 = r39 := by rw [hg40]; exact zu_at
          have vt40 : (g40 A 4).toInt = r39.toInt := by rw [vg40]
          refine r_aloadR0 dX5_nextWord_43 ?_
          refine k_gets (ko.2.1 ("UNKNOWN", 16) (List.mem_of_getElem? (i := 0) rfl)) zg_RX5_31 dX5_nextWord_44 ?_
          refine m_putW zf_RX5_37 dX5_nextWord_47 hr.1 ?_
          refine n_iconst dX5_nextWord_50 (by decide) (fun r50 e50 => ?_)
          refine r_istore1 dX5_nextWord_51 rfl ?_
          have hte : k = teP B n s := by
            rw [htk.2.2]
            exact (ruE_eq hsk hin (fun h_z => isLt_no hc_z h_z.2)).symm
          exact l2 18 _ _ 0 g40 (by omega) (Nat.zero_le _) (frM_tr (frM_su ofr (by decide) (by decide)) (frM_su og40 (by decide) (by decide))) (by rw [og40.2.2 2 (by decide)]; omega) (by rw [og40.2.2 3 (by decide)]; exact h3k) (by rw [vt40]; omega) (Or.inr ⟨rfl, Nat.zero_le _⟩) (by omega)
      · refine r_aloadR0 dX5_nextWord_0 ?_
        refine m_getV (x := (f2_z A 2)) zf_RX5_19 rfl dX5_nextWord_1 hr.1 (rfl) ?_
        refine r_aloadR0 dX5_nextWord_4 ?_
        refine m_getV (x := (f2_z A 1)) zf_RX5_15 rfl dX5_nextWord_5 hr.1 (rfl) ?_
        refine t_icge (t := 38) dX5_nextWord_8 (by decide) (fun h8 => ?_) (fun h8 => False.elim (by omega))
        refine r_aloadR0 dX5_nextWord_38 ?_
        refine n_iconst dX5_nextWord_39 (by decide) (fun r39 e39 => ?_)
        refine m_putI zf_RX5_25 (by intro C T N h_z; cases h_z; rfl) rfl dX5_nextWord_40 hr.1 ?_
        obtain ⟨g40, hg40⟩ : ∃ g9, g9 = zu f2_z A 4 r39 := ⟨_, rfl⟩
        rw [← hg40]
        have og40 : frM A [] [4] f2_z g40 := by rw [hg40]; exact frM_zk frM_rf (by decide)
        have vg40 : g40 A 4 = r39 := by rw [hg40]; exact zu_at
        have vt40 : (g40 A 4).toInt = r39.toInt := by rw [vg40]
        refine r_aloadR0 dX5_nextWord_43 ?_
        refine k_gets (ko.2.1 ("UNKNOWN", 16) (List.mem_of_getElem? (i := 0) rfl)) zg_RX5_31 dX5_nextWord_44 ?_
        refine m_putW zf_RX5_37 dX5_nextWord_47 hr.1 ?_
        refine n_iconst dX5_nextWord_50 (by decide) (fun r50 e50 => ?_)
        refine r_istore1 dX5_nextWord_51 rfl ?_
        have hte : k = teP B n s := by
          rw [htk.2.2]
          exact (ruE_eq hsk hin (fun h_z => absurd h_z.1 (by omega))).symm
        exact l2 18 _ _ 0 g40 (by omega) (Nat.zero_le _) (frM_tr (frM_su ofr (by decide) (by decide)) (frM_su og40 (by decide) (by decide))) (by rw [og40.2.2 2 (by decide)]; omega) (by rw [og40.2.2 3 (by decide)]; exact h3k) (by rw [vt40]; omega) (Or.inr ⟨rfl, Nat.zero_le _⟩) (by omega)
  exact l1 _ f s (Nat.le_refl s) (Nat.le_of_lt hsl) h2 h3 frM_rf (fun q h1 h2 => absurd h2 (by omega)) (Nat.lt_succ_self _)
set_option maxHeartbeats 4000000 in
set_option maxRecDepth 100000 in
theorem s_X5_next {g : zGT} {w : zW} {f : Nat → Nat → Int32} {j : Nat → Nat → Int64} {A tq nq : Nat} {v : Option Nat} {B : Nat → Nat} {n : Nat} {ca wa wv : Nat → Nat} {kq ta sm gq gv : Nat} {p : Nat} {Q : Option Value → zW → Prop} {QX : String → zW → Prop} (G : zGok g) (hr : shRd w A tq nq) (kw : kWd g wa wv kq) (ko : kWo g ca wa wv ta sm gq gv) (htp : tpR B n f A tq) (h2 : (f A 2).toInt = (p : Nat)) (hpn : p ≤ n) (hz : (f A 11).toInt = 0 ∧ (f A 12).toInt = -1) (hQ : ∀ v2 f2_z, frM A [] [2, 3, 4, 5] f f2_z → tkR ca B n f2_z v2 A (ruE (fun q => isSp (B q)) n p) → Q none (zM (wW w A v2) f2_z j)) : zC g 7 yX5_next cX5_next 2 none [.ref A] (zM (wW w A v) f j) (0, 0) Q QX := by
  refine zC_of G (by decide +kernel) (Nat.le_of_ble_eq_true rfl) ?_
  obtain ⟨s, hs0⟩ : ∃ s, s = ruE (fun q => isSp (B q)) n p := ⟨_, rfl⟩
  rw [← hs0] at hQ
  have hsn : s ≤ n := by rw [hs0]; exact ruE_le hpn
  have h900 := htp.2.1
  have l2 : ∀ (mz : Nat) (f2_z : Nat → Nat → Int32), (f2_z A 2).toInt = (s : Nat) → frM A [] [2] f f2_z → 0 < mz → zR (zV g 7 yX5_next 2 none (0, 0) Q QX) cX5_next yX5_next.cls 50 [some (.ref A), none] [] (zM (wW w A v) f2_z j) (0, 0) := by
    intro mz
    induction mz with
    | zero =>
      intro f2_z h2k ofr hmz
      exact absurd hmz (Nat.not_lt_zero _)
    | succ mz ih =>
      intro f2_z h2k ofr hmz
      have htp2 := tpR_of htp (shRd_t hr) ofr (by decide)
      have h1 := htp2.1
      rcases Nat.lt_or_ge s n with hkn | hkn
      · have hB_z := htp2.2.2.2 s
        by_cases hcd : 48 ≤ B s ∧ B s ≤ 57
        · refine r_aloadR0 dX5_next_50 ?_
          refine r_aloadR0 dX5_next_51 ?_
          refine m_getV (x := (f2_z A 2)) zf_RX5_19 rfl dX5_next_52 hr.1 (rfl) ?_
          refine m_putI zf_RX5_22 (by intro C T N h_z; cases h_z; rfl) rfl dX5_next_55 hr.1 ?_
          obtain ⟨g55, hg55⟩ : ∃ g9, g9 = zu f2_z A 3 (f2_z A 2) := ⟨_, rfl⟩
          rw [← hg55]
          have og55 : frM A [] [3] f2_z g55 := by rw [hg55]; exact frM_zk frM_rf (by decide)
          have vg55 : g55 A 3 = (f2_z A 2) := by rw [hg55]; exact zu_at
          have vt55 : (g55 A 3).toInt = (f2_z A 2).toInt := by rw [vg55]
          have htp3 := tpR_of htp2 (shRd_t hr) og55 (by decide)
          have y2 : (g55 A 2).toInt = (s : Nat) := by rw [og55.2.2 2 (by decide)]; exact h2k
          have y3 : (g55 A 3).toInt = (s : Nat) := by rw [vt55]; exact h2k
          have y1 : (g55 A 1).toInt = (n : Nat) := htp3.1
          refine r_aloadR0 dX5_next_58 ?_
          refine r_aloadR0 dX5_next_59 ?_
          refine m_getV (x := (g55 A 2)) zf_RX5_19 rfl dX5_next_60 hr.1 (rfl) ?_
          refine q_callV1 zm_RX5_203 dX5_next_63 hr.1 (by decide) rfl (Nat.le_of_ble_eq_true rfl) (Nat.le_of_ble_eq_true rfl) (Nat.le_of_ble_eq_true rfl) (Nat.le_of_ble_eq_true rfl) (Nat.le_of_ble_eq_true rfl) (s_X5_byteAt (n := n) (B := B) (k := s) G hr htp3 y2 (fun r63 e63 => ?_))
          have b63 : r63.toInt = (B s : Nat) := by rw [e63]; unfold bAt; rw [if_pos hkn]
          refine r_istore1 dX5_next_66 rfl ?_
          refine r_aloadR0 dX5_next_67 ?_
          refine m_getV (x := (g55 A 2)) zf_RX5_19 rfl dX5_next_68 hr.1 (rfl) ?_
          refine r_aloadR0 dX5_next_71 ?_
          refine m_getV (x := (g55 A 1)) zf_RX5_15 rfl dX5_next_72 hr.1 (rfl) ?_
          refine t_iclt (t := 86) dX5_next_75 (by decide) (fun h75 => ?_) (fun h75 => False.elim (by omega))
          refine r_iload1 dX5_next_86 ?_
          refine q_callS1 zm_RX5_206 dX5_next_87 (Nat.le_of_ble_eq_true rfl) (Nat.le_of_ble_eq_true rfl) (Nat.le_of_ble_eq_true rfl) (Nat.le_of_ble_eq_true rfl) (Nat.le_of_ble_eq_true rfl) (s_X5_isDigit G (fun r87 e87 => ?_))
          refine t_ifeq (t := 100) dX5_next_90 (by decide) (fun h90 => False.elim (by omega)) (fun h90 => ?_)
          refine r_aloadR0 dX5_next_93 ?_
          refine q_callV0 zm_RX5_209 dX5_next_94 hr.1 (by decide) rfl (Nat.le_of_ble_eq_true rfl) (Nat.le_of_ble_eq_true rfl) (Nat.le_of_ble_eq_true rfl) (Nat.le_of_ble_eq_true rfl) (Nat.le_of_ble_eq_true rfl) (s_X5_nextNumber G hr htp3 y2 y3 hkn (isDg_of hcd) (fun g94 o94 a94 b94 c94 => ?_))
          refine r_goto (t := 140) dX5_next_97 (by decide) ?_
          refine r_vret dX5_next_140 rfl (Nat.le_of_ble_eq_true rfl) (Nat.le_of_ble_eq_true rfl) ?_
          have ofz : frM A [] [2, 3, 4, 5] f g94 := frM_tr (frM_su ofr (by decide) (by decide)) (frM_tr (frM_su og55 (by decide) (by decide)) (frM_su o94 (by decide) (by decide)))
          refine hQ v g94 ofz ⟨hsn, a94, by rw [o94.2.2 3 (by decide)]; exact y3, b94, c94, fun e => ?_, ⟨by rw [ofz.2.2 11 (by decide)]; exact hz.1, by rw [ofz.2.2 12 (by decide)]; exact hz.2⟩⟩
          have htk := tk_dig hkn (isDg_of hcd)
          rcases Nat.lt_or_ge 3 (teP B n s - s) with h9 | h9
          · rw [(htk.2.1 h9).1] at e; exact absurd e (by decide)
          · rw [(htk.2.2 (by omega)).1] at e; exact absurd e (by decide)
        by_cases hcl : 97 ≤ B s ∧ B s ≤ 122
        · refine r_aloadR0 dX5_next_50 ?_
          refine r_aloadR0 dX5_next_51 ?_
          refine m_getV (x := (f2_z A 2)) zf_RX5_19 rfl dX5_next_52 hr.1 (rfl) ?_
          refine m_putI zf_RX5_22 (by intro C T N h_z; cases h_z; rfl) rfl dX5_next_55 hr.1 ?_
          obtain ⟨g55, hg55⟩ : ∃ g9, g9 = zu f2_z A 3 (f2_z A 2) := ⟨_, rfl⟩
          rw [← hg55]
          have og55 : frM A [] [3] f2_z g55 := by rw [hg55]; exact frM_zk frM_rf (by decide)
          have vg55 : g55 A 3 = (f2_z A 2) := by rw [hg55]; exact zu_at
          have vt55 : (g55 A 3).toInt = (f2_z A 2).toInt := by rw [vg55]
          have htp3 := tpR_of htp2 (shRd_t hr) og55 (by decide)
          have y2 : (g55 A 2).toInt = (s : Nat) := by rw [og55.2.2 2 (by decide)]; exact h2k
          have y3 : (g55 A 3).toInt = (s : Nat) := by rw [vt55]; exact h2k
          have y1 : (g55 A 1).toInt = (n : Nat) := htp3.1
          refine r_aloadR0 dX5_next_58 ?_
          refine r_aloadR0 dX5_next_59 ?_
          refine m_getV (x := (g55 A 2)) zf_RX5_19 rfl dX5_next_60 hr.1 (rfl) ?_
          refine q_callV1 zm_RX5_203 dX5_next_63 hr.1 (by decide) rfl (Nat.le_of_ble_eq_true rfl) (Nat.le_of_ble_eq_true rfl) (Nat.le_of_ble_eq_true rfl) (Nat.le_of_ble_eq_true rfl) (Nat.le_of_ble_eq_true rfl) (s_X5_byteAt (n := n) (B := B) (k := s) G hr htp3 y2 (fun r63 e63 => ?_))
          have b63 : r63.toInt = (B s : Nat) := by rw [e63]; unfold bAt; rw [if_pos hkn]
          refine r_istore1 dX5_next_66 rfl ?_
          refine r_aloadR0 dX5_next_67 ?_
          refine m_getV (x := (g55 A 2)) zf_RX5_19 rfl dX5_next_68 hr.1 (rfl) ?_
          refine r_aloadR0 dX5_next_71 ?_
          refine m_getV (x := (g55 A 1)) zf_RX5_15 rfl dX5_next_72 hr.1 (rfl) ?_
          refine t_iclt (t := 86) dX5_next_75 (by decide) (fun h75 => ?_) (fun h75 => False.elim (by omega))
          refine r_iload1 dX5_next_86 ?_
          refine q_callS1 zm_RX5_206 dX5_next_87 (Nat.le_of_ble_eq_true rfl) (Nat.le_of_ble_eq_true rfl) (Nat.le_of_ble_eq_true rfl) (Nat.le_of_ble_eq_true rfl) (Nat.le_of_ble_eq_true rfl) (s_X5_isDigit G (fun r87 e87 => ?_))
          refine t_ifeq (t := 100) dX5_next_90 (by decide) (fun h90 => ?_) (fun h90 => False.elim (by omega))
          refine r_iload1 dX5_next_100 ?_
          refine q_callS1 zm_RX5_212 dX5_next_101 (Nat.le_of_ble_eq_true rfl) (Nat.le_of_ble_eq_true rfl) (Nat.le_of_ble_eq_true rfl) (Nat.le_of_ble_eq_true rfl) (Nat.le_of_ble_eq_true rfl) (s_X5_isLetter G (fun r101 e101 => ?_))
          refine t_ifeq (t := 114) dX5_next_104 (by decide) (fun h104 => False.elim (by omega)) (fun h104 => ?_)
          refine r_aloadR0 dX5_next_107 ?_
          refine q_callV0 zm_RX5_215 dX5_next_108 hr.1 (by decide) rfl (Nat.le_of_ble_eq_true rfl) (Nat.le_of_ble_eq_true rfl) (Nat.le_of_ble_eq_true rfl) (Nat.le_of_ble_eq_true rfl) (Nat.le_of_ble_eq_true rfl) (s_X5_nextWord G hr kw ko htp3 y2 y3 hkn (isDg_no (by omega)) (isLt_of hcl) (fun g108 o108 a108 b108 => ?_))
          refine r_goto (t := 140) dX5_next_111 (by decide) ?_
          refine r_vret dX5_next_140 rfl (Nat.le_of_ble_eq_true rfl) (Nat.le_of_ble_eq_true rfl) ?_
          have htk := tk_let hkn (isDg_no (by omega)) (isLt_of hcl)
          have ofz : frM A [] [2, 3, 4, 5] f g108 := frM_tr (frM_su ofr (by decide) (by decide)) (frM_tr (frM_su og55 (by decide) (by decide)) (frM_su o108 (by decide) (by decide)))
          exact hQ _ g108 ofz ⟨hsn, a108, by rw [o108.2.2 3 (by decide)]; exact y3, by rw [htk.1]; exact b108, fun e => absurd e (by rw [htk.1]; decide), fun _ => rfl, ⟨by rw [ofz.2.2 11 (by decide)]; exact hz.1, by rw [ofz.2.2 12 (by decide)]; exact hz.2⟩⟩
        have htk := tk_sig hkn (isDg_no hcd) (isLt_no hcl)
        by_cases hcs : isSg (B s) = true
        · refine r_aloadR0 dX5_next_50 ?_
          refine r_aloadR0 dX5_next_51 ?_
          refine m_getV (x := (f2_z A 2)) zf_RX5_19 rfl dX5_next_52 hr.1 (rfl) ?_
          refine m_putI zf_RX5_22 (by intro C T N h_z; cases h_z; rfl) rfl dX5_next_55 hr.1 ?_
          obtain ⟨g55, hg55⟩ : ∃ g9, g9 = zu f2_z A 3 (f2_z A 2) := ⟨_, rfl⟩
          rw [← hg55]
          have og55 : frM A [] [3] f2_z g55 := by rw [hg55]; exact frM_zk frM_rf (by decide)
          have vg55 : g55 A 3 = (f2_z A 2) := by rw [hg55]; exact zu_at
          have vt55 : (g55 A 3).toInt = (f2_z A 2).toInt := by rw [vg55]
          have htp3 := tpR_of htp2 (shRd_t hr) og55 (by decide)
          have y2 : (g55 A 2).toInt = (s : Nat) := by rw [og55.2.2 2 (by decide)]; exact h2k
          have y3 : (g55 A 3).toInt = (s : Nat) := by rw [vt55]; exact h2k
          have y1 : (g55 A 1).toInt = (n : Nat) := htp3.1
          refine r_aloadR0 dX5_next_58 ?_
          refine r_aloadR0 dX5_next_59 ?_
          refine m_getV (x := (g55 A 2)) zf_RX5_19 rfl dX5_next_60 hr.1 (rfl) ?_
          refine q_callV1 zm_RX5_203 dX5_next_63 hr.1 (by decide) rfl (Nat.le_of_ble_eq_true rfl) (Nat.le_of_ble_eq_true rfl) (Nat.le_of_ble_eq_true rfl) (Nat.le_of_ble_eq_true rfl) (Nat.le_of_ble_eq_true rfl) (s_X5_byteAt (n := n) (B := B) (k := s) G hr htp3 y2 (fun r63 e63 => ?_))
          have b63 : r63.toInt = (B s : Nat) := by rw [e63]; unfold bAt; rw [if_pos hkn]
          refine r_istore1 dX5_next_66 rfl ?_
          refine r_aloadR0 dX5_next_67 ?_
          refine m_getV (x := (g55 A 2)) zf_RX5_19 rfl dX5_next_68 hr.1 (rfl) ?_
          refine r_aloadR0 dX5_next_71 ?_
          refine m_getV (x := (g55 A 1)) zf_RX5_15 rfl dX5_next_72 hr.1 (rfl) ?_
          refine t_iclt (t := 86) dX5_next_75 (by decide) (fun h75 => ?_) (fun h75 => False.elim (by omega))
          refine r_iload1 dX5_next_86 ?_
          refine q_callS1 zm_RX5_206 dX5_next_87 (Nat.le_of_ble_eq_true rfl) (Nat.le_of_ble_eq_true rfl) (Nat.le_of_ble_eq_true rfl) (Nat.le_of_ble_eq_true rfl) (Nat.le_of_ble_eq_true rfl) (s_X5_isDigit G (fun r87 e87 => ?_))
          refine t_ifeq (t := 100) dX5_next_90 (by decide) (fun h90 => ?_) (fun h90 => False.elim (by omega))
          refine r_iload1 dX5_next_100 ?_
          refine q_callS1 zm_RX5_212 dX5_next_101 (Nat.le_of_ble_eq_true rfl) (Nat.le_of_ble_eq_true rfl) (Nat.le_of_ble_eq_true rfl) (Nat.le_of_ble_eq_true rfl) (Nat.le_of_ble_eq_true rfl) (s_X5_isLetter G (fun r101 e101 => ?_))
          refine t_ifeq (t := 114) dX5_next_104 (by decide) (fun h104 => ?_) (fun h104 => False.elim (by omega))
          refine r_aloadR0 dX5_next_114 ?_
          refine r_iload1 dX5_next_115 ?_
          refine q_callS1 zm_RX5_218 dX5_next_116 (Nat.le_of_ble_eq_true rfl) (Nat.le_of_ble_eq_true rfl) (Nat.le_of_ble_eq_true rfl) (Nat.le_of_ble_eq_true rfl) (Nat.le_of_ble_eq_true rfl) (s_X5_isSign (c := B s) G kw ko b63 hB_z (fun r116 e116 => ?_))
          have hs2 := isSg_bd hcs
          have e116b : r116.toInt = 1 := e116.elim (fun h_z => h_z.1) (fun h_z => absurd hcs h_z.2)
          refine t_ifeq (t := 126) dX5_next_119 (by decide) (fun h119 => False.elim (by omega)) (fun h119 => ?_)
          refine r_iload1 dX5_next_122 ?_
          refine r_goto (t := 127) dX5_next_123 (by decide) ?_
          refine m_putI zf_RX5_25 (by intro C T N h_z; cases h_z; rfl) rfl dX5_next_127 hr.1 ?_
          obtain ⟨g127, hg127⟩ : ∃ g9, g9 = zu g55 A 4 r63 := ⟨_, rfl⟩
          rw [← hg127]
          have og127 : frM A [] [4] g55 g127 := by rw [hg127]; exact frM_zk frM_rf (by decide)
          have vg127 : g127 A 4 = r63 := by rw [hg127]; exact zu_at
          have vt127 : (g127 A 4).toInt = r63.toInt := by rw [vg127]
          have y5 : (g127 A 2).toInt = (s : Nat) := by rw [og127.2.2 2 (by decide)]; exact y2
          refine r_aloadR0 dX5_next_130 ?_
          refine r_dup dX5_next_131 rfl ?_
          refine m_getV (x := (g127 A 2)) zf_RX5_19 rfl dX5_next_132 hr.1 (rfl) ?_
          refine n_iconst dX5_next_135 (by decide) (fun r135 e135 => ?_)
          refine n_iadd dX5_next_136 (by omega) (fun r136 e136 => ?_)
          refine m_putI zf_RX5_19 (by intro C T N h_z; cases h_z; rfl) rfl dX5_next_137 hr.1 ?_
          obtain ⟨g137, hg137⟩ : ∃ g9, g9 = zu g127 A 2 r136 := ⟨_, rfl⟩
          rw [← hg137]
          have og137 : frM A [] [2] g127 g137 := by rw [hg137]; exact frM_zk frM_rf (by decide)
          have vg137 : g137 A 2 = r136 := by rw [hg137]; exact zu_at
          have vt137 : (g137 A 2).toInt = r136.toInt := by rw [vg137]
          refine r_vret dX5_next_140 rfl (Nat.le_of_ble_eq_true rfl) (Nat.le_of_ble_eq_true rfl) ?_
          have ofz : frM A [] [2, 3, 4, 5] f g137 := frM_tr (frM_su ofr (by decide) (by decide)) (frM_tr (frM_su og55 (by decide) (by decide)) (frM_tr (frM_su og127 (by decide) (by decide)) (frM_su og137 (by decide) (by decide))))
          refine hQ v g137 ofz ⟨hsn, by rw [vt137, htk.1]; omega, by rw [og137.2.2 3 (by decide), og127.2.2 3 (by decide)]; exact y3, by rw [og137.2.2 4 (by decide), vt127, (htk.2.1 hcs).1]; omega, fun e => absurd e (by rw [(htk.2.1 hcs).1]; omega), fun e => absurd e (by rw [(htk.2.1 hcs).1]; omega), ⟨by rw [ofz.2.2 11 (by decide)]; exact hz.1, by rw [ofz.2.2 12 (by decide)]; exact hz.2⟩⟩
        · refine r_aloadR0 dX5_next_50 ?_
          refine r_aloadR0 dX5_next_51 ?_
          refine m_getV (x := (f2_z A 2)) zf_RX5_19 rfl dX5_next_52 hr.1 (rfl) ?_
          refine m_putI zf_RX5_22 (by intro C T N h_z; cases h_z; rfl) rfl dX5_next_55 hr.1 ?_
          obtain ⟨g55, hg55⟩ : ∃ g9, g9 = zu f2_z A 3 (f2_z A 2) := ⟨_, rfl⟩
          rw [← hg55]
          have og55 : frM A [] [3] f2_z g55 := by rw [hg55]; exact frM_zk frM_rf (by decide)
          have vg55 : g55 A 3 = (f2_z A 2) := by rw [hg55]; exact zu_at
          have vt55 : (g55 A 3).toInt = (f2_z A 2).toInt := by rw [vg55]
          have htp3 := tpR_of htp2 (shRd_t hr) og55 (by decide)
          have y2 : (g55 A 2).toInt = (s : Nat) := by rw [og55.2.2 2 (by decide)]; exact h2k
          have y3 : (g55 A 3).toInt = (s : Nat) := by rw [vt55]; exact h2k
          have y1 : (g55 A 1).toInt = (n : Nat) := htp3.1
          refine r_aloadR0 dX5_next_58 ?_
          refine r_aloadR0 dX5_next_59 ?_
          refine m_getV (x := (g55 A 2)) zf_RX5_19 rfl dX5_next_60 hr.1 (rfl) ?_
          refine q_callV1 zm_RX5_203 dX5_next_63 hr.1 (by decide) rfl (Nat.le_of_ble_eq_true rfl) (Nat.le_of_ble_eq_true rfl) (Nat.le_of_ble_eq_true rfl) (Nat.le_of_ble_eq_true rfl) (Nat.le_of_ble_eq_true rfl) (s_X5_byteAt (n := n) (B := B) (k := s) G hr htp3 y2 (fun r63 e63 => ?_))
          have b63 : r63.toInt = (B s : Nat) := by rw [e63]; unfold bAt; rw [if_pos hkn]
          refine r_istore1 dX5_next_66 rfl ?_
          refine r_aloadR0 dX5_next_67 ?_
          refine m_getV (x := (g55 A 2)) zf_RX5_19 rfl dX5_next_68 hr.1 (rfl) ?_
          refine r_aloadR0 dX5_next_71 ?_
          refine m_getV (x := (g55 A 1)) zf_RX5_15 rfl dX5_next_72 hr.1 (rfl) ?_
          refine t_iclt (t := 86) dX5_next_75 (by decide) (fun h75 => ?_) (fun h75 => False.elim (by omega))
          refine r_iload1 dX5_next_86 ?_
          refine q_callS1 zm_RX5_206 dX5_next_87 (Nat.le_of_ble_eq_true rfl) (Nat.le_of_ble_eq_true rfl) (Nat.le_of_ble_eq_true rfl) (Nat.le_of_ble_eq_true rfl) (Nat.le_of_ble_eq_true rfl) (s_X5_isDigit G (fun r87 e87 => ?_))
          refine t_ifeq (t := 100) dX5_next_90 (by decide) (fun h90 => ?_) (fun h90 => False.elim (by omega))
          refine r_iload1 dX5_next_100 ?_
          refine q_callS1 zm_RX5_212 dX5_next_101 (Nat.le_of_ble_eq_true rfl) (Nat.le_of_ble_eq_true rfl) (Nat.le_of_ble_eq_true rfl) (Nat.le_of_ble_eq_true rfl) (Nat.le_of_ble_eq_true rfl) (s_X5_isLetter G (fun r101 e101 => ?_))
          refine t_ifeq (t := 114) dX5_next_104 (by decide) (fun h104 => ?_) (fun h104 => False.elim (by omega))
          refine r_aloadR0 dX5_next_114 ?_
          refine r_iload1 dX5_next_115 ?_
          refine q_callS1 zm_RX5_218 dX5_next_116 (Nat.le_of_ble_eq_true rfl) (Nat.le_of_ble_eq_true rfl) (Nat.le_of_ble_eq_true rfl) (Nat.le_of_ble_eq_true rfl) (Nat.le_of_ble_eq_true rfl) (s_X5_isSign (c := B s) G kw ko b63 hB_z (fun r116 e116 => ?_))
          have e116b : r116.toInt = 0 := e116.elim (fun h_z => absurd h_z.2 hcs) (fun h_z => h_z.1)
          refine t_ifeq (t := 126) dX5_next_119 (by decide) (fun h119 => ?_) (fun h119 => False.elim (by omega))
          refine n_iconst dX5_next_126 (by decide) (fun r126 e126 => ?_)
          refine m_putI zf_RX5_25 (by intro C T N h_z; cases h_z; rfl) rfl dX5_next_127 hr.1 ?_
          obtain ⟨g127, hg127⟩ : ∃ g9, g9 = zu g55 A 4 r126 := ⟨_, rfl⟩
          rw [← hg127]
          have og127 : frM A [] [4] g55 g127 := by rw [hg127]; exact frM_zk frM_rf (by decide)
          have vg127 : g127 A 4 = r126 := by rw [hg127]; exact zu_at
          have vt127 : (g127 A 4).toInt = r126.toInt := by rw [vg127]
          have y5 : (g127 A 2).toInt = (s : Nat) := by rw [og127.2.2 2 (by decide)]; exact y2
          refine r_aloadR0 dX5_next_130 ?_
          refine r_dup dX5_next_131 rfl ?_
          refine m_getV (x := (g127 A 2)) zf_RX5_19 rfl dX5_next_132 hr.1 (rfl) ?_
          refine n_iconst dX5_next_135 (by decide) (fun r135 e135 => ?_)
          refine n_iadd dX5_next_136 (by omega) (fun r136 e136 => ?_)
          refine m_putI zf_RX5_19 (by intro C T N h_z; cases h_z; rfl) rfl dX5_next_137 hr.1 ?_
          obtain ⟨g137, hg137⟩ : ∃ g9, g9 = zu g127 A 2 r136 := ⟨_, rfl⟩
          rw [← hg137]
          have og137 : frM A [] [2] g127 g137 := by rw [hg137]; exact frM_zk frM_rf (by decide)
          have vg137 : g137 A 2 = r136 := by rw [hg137]; exact zu_at
          have vt137 : (g137 A 2).toInt = r136.toInt := by rw [vg137]
          refine r_vret dX5_next_140 rfl (Nat.le_of_ble_eq_true rfl) (Nat.le_of_ble_eq_true rfl) ?_
          have ofz : frM A [] [2, 3, 4, 5] f g137 := frM_tr (frM_su ofr (by decide) (by decide)) (frM_tr (frM_su og55 (by decide) (by decide)) (frM_tr (frM_su og127 (by decide) (by decide)) (frM_su og137 (by decide) (by decide))))
          refine hQ v g137 ofz ⟨hsn, by rw [vt137, htk.1]; omega, by rw [og137.2.2 3 (by decide), og127.2.2 3 (by decide)]; exact y3, by rw [og137.2.2 4 (by decide), vt127, (htk.2.2 hcs).1]; omega, fun e => absurd e (by rw [(htk.2.2 hcs).1]; omega), fun e => absurd e (by rw [(htk.2.2 hcs).1]; omega), ⟨by rw [ofz.2.2 11 (by decide)]; exact hz.1, by rw [ofz.2.2 12 (by decide)]; exact hz.2⟩⟩
      · refine r_aloadR0 dX5_next_50 ?_
        refine r_aloadR0 dX5_next_51 ?_
        refine m_getV (x := (f2_z A 2)) zf_RX5_19 rfl dX5_next_52 hr.1 (rfl) ?_
        refine m_putI zf_RX5_22 (by intro C T N h_z; cases h_z; rfl) rfl dX5_next_55 hr.1 ?_
        obtain ⟨g55, hg55⟩ : ∃ g9, g9 = zu f2_z A 3 (f2_z A 2) := ⟨_, rfl⟩
        rw [← hg55]
        have og55 : frM A [] [3] f2_z g55 := by rw [hg55]; exact frM_zk frM_rf (by decide)
        have vg55 : g55 A 3 = (f2_z A 2) := by rw [hg55]; exact zu_at
        have vt55 : (g55 A 3).toInt = (f2_z A 2).toInt := by rw [vg55]
        have htp3 := tpR_of htp2 (shRd_t hr) og55 (by decide)
        have y2 : (g55 A 2).toInt = (s : Nat) := by rw [og55.2.2 2 (by decide)]; exact h2k
        have y3 : (g55 A 3).toInt = (s : Nat) := by rw [vt55]; exact h2k
        have y1 : (g55 A 1).toInt = (n : Nat) := htp3.1
        refine r_aloadR0 dX5_next_58 ?_
        refine r_aloadR0 dX5_next_59 ?_
        refine m_getV (x := (g55 A 2)) zf_RX5_19 rfl dX5_next_60 hr.1 (rfl) ?_
        refine q_callV1 zm_RX5_203 dX5_next_63 hr.1 (by decide) rfl (Nat.le_of_ble_eq_true rfl) (Nat.le_of_ble_eq_true rfl) (Nat.le_of_ble_eq_true rfl) (Nat.le_of_ble_eq_true rfl) (Nat.le_of_ble_eq_true rfl) (s_X5_byteAt (n := n) (B := B) (k := s) G hr htp3 y2 (fun r63 e63 => ?_))
        refine r_istore1 dX5_next_66 rfl ?_
        refine r_aloadR0 dX5_next_67 ?_
        refine m_getV (x := (g55 A 2)) zf_RX5_19 rfl dX5_next_68 hr.1 (rfl) ?_
        refine r_aloadR0 dX5_next_71 ?_
        refine m_getV (x := (g55 A 1)) zf_RX5_15 rfl dX5_next_72 hr.1 (rfl) ?_
        refine t_iclt (t := 86) dX5_next_75 (by decide) (fun h75 => False.elim (by omega)) (fun h75 => ?_)
        refine r_aloadR0 dX5_next_78 ?_
        refine n_iconst dX5_next_79 (by decide) (fun r79 e79 => ?_)
        refine m_putI zf_RX5_25 (by intro C T N h_z; cases h_z; rfl) rfl dX5_next_80 hr.1 ?_
        obtain ⟨g80, hg80⟩ : ∃ g9, g9 = zu g55 A 4 r79 := ⟨_, rfl⟩
        rw [← hg80]
        have og80 : frM A [] [4] g55 g80 := by rw [hg80]; exact frM_zk frM_rf (by decide)
        have vg80 : g80 A 4 = r79 := by rw [hg80]; exact zu_at
        have vt80 : (g80 A 4).toInt = r79.toInt := by rw [vg80]
        refine r_goto (t := 140) dX5_next_83 (by decide) ?_
        refine r_vret dX5_next_140 rfl (Nat.le_of_ble_eq_true rfl) (Nat.le_of_ble_eq_true rfl) ?_
        have htk := tk_end (B := B) hkn
        have ofz : frM A [] [2, 3, 4, 5] f g80 := frM_tr (frM_su ofr (by decide) (by decide)) (frM_tr (frM_su og55 (by decide) (by decide)) (frM_su og80 (by decide) (by decide)))
        exact hQ v g80 ofz ⟨hsn, by rw [og80.2.2 2 (by decide), htk.2.2]; exact y2, by rw [og80.2.2 3 (by decide)]; exact y3, by rw [vt80, htk.1]; omega, fun e => absurd e (by rw [htk.1]; decide), fun e => absurd e (by rw [htk.1]; decide), ⟨by rw [ofz.2.2 11 (by decide)]; exact hz.1, by rw [ofz.2.2 12 (by decide)]; exact hz.2⟩⟩
  have l1 : ∀ (mz : Nat) (f2_z : Nat → Nat → Int32) (k : Nat), p ≤ k → k ≤ n → (f2_z A 2).toInt = (k : Nat) → frM A [] [2] f f2_z → (∀ q, p ≤ q → q < k → q < n ∧ isSp (B q) = true) → n - k < mz → zR (zV g 7 yX5_next 2 none (0, 0) Q QX) cX5_next yX5_next.cls 0 [some (.ref A), none] [] (zM (wW w A v) f2_z j) (0, 0) := by
    intro mz
    induction mz with
    | zero =>
      intro f2_z k hpk hkl h2k ofr hin hmz
      exact absurd hmz (Nat.not_lt_zero _)
    | succ mz ih =>
      intro f2_z k hpk hkl h2k ofr hin hmz
      have htp2 := tpR_of htp (shRd_t hr) ofr (by decide)
      have h1 := htp2.1
      rcases Nat.lt_or_ge k n with hkn | hkn
      · have hB_z := htp2.2.2.2 k
        rcases (show B k = 32 ∨ B k = 10 ∨ ¬ (B k = 32 ∨ B k = 10) by omega) with hc_z | hc_z | hc_z
        · refine r_aloadR0 dX5_next_0 ?_
          refine m_getV (x := (f2_z A 2)) zf_RX5_19 rfl dX5_next_1 hr.1 (rfl) ?_
          refine r_aloadR0 dX5_next_4 ?_
          refine m_getV (x := (f2_z A 1)) zf_RX5_15 rfl dX5_next_5 hr.1 (rfl) ?_
          refine t_icge (t := 50) dX5_next_8 (by decide) (fun h8 => False.elim (by omega)) (fun h8 => ?_)
          refine r_aloadR0 dX5_next_11 ?_
          refine r_aloadR0 dX5_next_12 ?_
          refine m_getV (x := (f2_z A 2)) zf_RX5_19 rfl dX5_next_13 hr.1 (rfl) ?_
          refine q_callV1 zm_RX5_203 dX5_next_16 hr.1 (by decide) rfl (Nat.le_of_ble_eq_true rfl) (Nat.le_of_ble_eq_true rfl) (Nat.le_of_ble_eq_true rfl) (Nat.le_of_ble_eq_true rfl) (Nat.le_of_ble_eq_true rfl) (s_X5_byteAt (n := n) (B := B) (k := k) G hr htp2 (by omega) (fun r16 e16_z => ?_))
          have b16 : r16.toInt = (B k : Nat) := by rw [e16_z]; unfold bAt; rw [if_pos hkn]
          refine n_bipush dX5_next_19 (by decide) (fun r19 e19_z => ?_)
          refine t_iceq (t := 37) dX5_next_21 (by decide) (fun h21 => ?_) (fun h21 => False.elim (by omega))
          refine r_aloadR0 dX5_next_37 ?_
          refine r_dup dX5_next_38 rfl ?_
          refine m_getV (x := (f2_z A 2)) zf_RX5_19 rfl dX5_next_39 hr.1 (rfl) ?_
          refine n_iconst dX5_next_42 (by decide) (fun r42 e42_z => ?_)
          refine n_iadd dX5_next_43 (by omega) (fun r43 e43 => ?_)
          refine m_putI zf_RX5_19 (by intro C T N h_z; cases h_z; rfl) rfl dX5_next_44 hr.1 ?_
          obtain ⟨g44, hg44⟩ : ∃ g9, g9 = zu f2_z A 2 r43 := ⟨_, rfl⟩
          rw [← hg44]
          have og44 : frM A [] [2] f2_z g44 := by rw [hg44]; exact frM_zk frM_rf (by decide)
          have vg44 : g44 A 2 = r43 := by rw [hg44]; exact zu_at
          have vt44 : (g44 A 2).toInt = r43.toInt := by rw [vg44]
          refine r_goto (t := 0) dX5_next_47 (by decide) ?_
          refine ih _ (k + 1) (by omega) (by omega) (by rw [vt44]; omega) (frM_tr ofr og44) (fun q h1 h2 => ?_) (by omega)
          rcases Nat.lt_or_ge q k with h3 | h3
          · exact hin q h1 h3
          · rw [show q = k by omega]; exact ⟨hkn, isSp_of (by omega)⟩
        · refine r_aloadR0 dX5_next_0 ?_
          refine m_getV (x := (f2_z A 2)) zf_RX5_19 rfl dX5_next_1 hr.1 (rfl) ?_
          refine r_aloadR0 dX5_next_4 ?_
          refine m_getV (x := (f2_z A 1)) zf_RX5_15 rfl dX5_next_5 hr.1 (rfl) ?_
          refine t_icge (t := 50) dX5_next_8 (by decide) (fun h8 => False.elim (by omega)) (fun h8 => ?_)
          refine r_aloadR0 dX5_next_11 ?_
          refine r_aloadR0 dX5_next_12 ?_
          refine m_getV (x := (f2_z A 2)) zf_RX5_19 rfl dX5_next_13 hr.1 (rfl) ?_
          refine q_callV1 zm_RX5_203 dX5_next_16 hr.1 (by decide) rfl (Nat.le_of_ble_eq_true rfl) (Nat.le_of_ble_eq_true rfl) (Nat.le_of_ble_eq_true rfl) (Nat.le_of_ble_eq_true rfl) (Nat.le_of_ble_eq_true rfl) (s_X5_byteAt (n := n) (B := B) (k := k) G hr htp2 (by omega) (fun r16 e16_z => ?_))
          have b16 : r16.toInt = (B k : Nat) := by rw [e16_z]; unfold bAt; rw [if_pos hkn]
          refine n_bipush dX5_next_19 (by decide) (fun r19 e19_z => ?_)
          refine t_iceq (t := 37) dX5_next_21 (by decide) (fun h21 => False.elim (by omega)) (fun h21 => ?_)
          refine r_aloadR0 dX5_next_24 ?_
          refine r_aloadR0 dX5_next_25 ?_
          refine m_getV (x := (f2_z A 2)) zf_RX5_19 rfl dX5_next_26 hr.1 (rfl) ?_
          refine q_callV1 zm_RX5_203 dX5_next_29 hr.1 (by decide) rfl (Nat.le_of_ble_eq_true rfl) (Nat.le_of_ble_eq_true rfl) (Nat.le_of_ble_eq_true rfl) (Nat.le_of_ble_eq_true rfl) (Nat.le_of_ble_eq_true rfl) (s_X5_byteAt (n := n) (B := B) (k := k) G hr htp2 (by omega) (fun r29 e29 => ?_))
          have b29 : r29.toInt = (B k : Nat) := by rw [e29]; unfold bAt; rw [if_pos hkn]
          refine n_bipush dX5_next_32 (by decide) (fun r32 e32 => ?_)
          refine t_icne (t := 50) dX5_next_34 (by decide) (fun h34 => False.elim (by omega)) (fun h34 => ?_)
          refine r_aloadR0 dX5_next_37 ?_
          refine r_dup dX5_next_38 rfl ?_
          refine m_getV (x := (f2_z A 2)) zf_RX5_19 rfl dX5_next_39 hr.1 (rfl) ?_
          refine n_iconst dX5_next_42 (by decide) (fun r42 e42_z => ?_)
          refine n_iadd dX5_next_43 (by omega) (fun r43 e43 => ?_)
          refine m_putI zf_RX5_19 (by intro C T N h_z; cases h_z; rfl) rfl dX5_next_44 hr.1 ?_
          obtain ⟨g44, hg44⟩ : ∃ g9, g9 = zu f2_z A 2 r43 := ⟨_, rfl⟩
          rw [← hg44]
          have og44 : frM A [] [2] f2_z g44 := by rw [hg44]; exact frM_zk frM_rf (by decide)
          have vg44 : g44 A 2 = r43 := by rw [hg44]; exact zu_at
          have vt44 : (g44 A 2).toInt = r43.toInt := by rw [vg44]
          refine r_goto (t := 0) dX5_next_47 (by decide) ?_
          refine ih _ (k + 1) (by omega) (by omega) (by rw [vt44]; omega) (frM_tr ofr og44) (fun q h1 h2 => ?_) (by omega)
          rcases Nat.lt_or_ge q k with h3 | h3
          · exact hin q h1 h3
          · rw [show q = k by omega]; exact ⟨hkn, isSp_of (by omega)⟩
        · refine r_aloadR0 dX5_next_0 ?_
          refine m_getV (x := (f2_z A 2)) zf_RX5_19 rfl dX5_next_1 hr.1 (rfl) ?_
          refine r_aloadR0 dX5_next_4 ?_
          refine m_getV (x := (f2_z A 1)) zf_RX5_15 rfl dX5_next_5 hr.1 (rfl) ?_
          refine t_icge (t := 50) dX5_next_8 (by decide) (fun h8 => False.elim (by omega)) (fun h8 => ?_)
          refine r_aloadR0 dX5_next_11 ?_
          refine r_aloadR0 dX5_next_12 ?_
          refine m_getV (x := (f2_z A 2)) zf_RX5_19 rfl dX5_next_13 hr.1 (rfl) ?_
          refine q_callV1 zm_RX5_203 dX5_next_16 hr.1 (by decide) rfl (Nat.le_of_ble_eq_true rfl) (Nat.le_of_ble_eq_true rfl) (Nat.le_of_ble_eq_true rfl) (Nat.le_of_ble_eq_true rfl) (Nat.le_of_ble_eq_true rfl) (s_X5_byteAt (n := n) (B := B) (k := k) G hr htp2 (by omega) (fun r16 e16_z => ?_))
          have b16 : r16.toInt = (B k : Nat) := by rw [e16_z]; unfold bAt; rw [if_pos hkn]
          refine n_bipush dX5_next_19 (by decide) (fun r19 e19_z => ?_)
          refine t_iceq (t := 37) dX5_next_21 (by decide) (fun h21 => False.elim (by omega)) (fun h21 => ?_)
          refine r_aloadR0 dX5_next_24 ?_
          refine r_aloadR0 dX5_next_25 ?_
          refine m_getV (x := (f2_z A 2)) zf_RX5_19 rfl dX5_next_26 hr.1 (rfl) ?_
          refine q_callV1 zm_RX5_203 dX5_next_29 hr.1 (by decide) rfl (Nat.le_of_ble_eq_true rfl) (Nat.le_of_ble_eq_true rfl) (Nat.le_of_ble_eq_true rfl) (Nat.le_of_ble_eq_true rfl) (Nat.le_of_ble_eq_true rfl) (s_X5_byteAt (n := n) (B := B) (k := k) G hr htp2 (by omega) (fun r29 e29 => ?_))
          have b29 : r29.toInt = (B k : Nat) := by rw [e29]; unfold bAt; rw [if_pos hkn]
          refine n_bipush dX5_next_32 (by decide) (fun r32 e32 => ?_)
          refine t_icne (t := 50) dX5_next_34 (by decide) (fun h34 => ?_) (fun h34 => False.elim (by omega))
          have hks : k = s := by
            rw [hs0]
            exact (ruE_eq hpk hin (fun h_z => hc_z (isSp_bd h_z.2))).symm
          exact l2 1 _ (by rw [h2k, hks]) ofr Nat.one_pos
      · refine r_aloadR0 dX5_next_0 ?_
        refine m_getV (x := (f2_z A 2)) zf_RX5_19 rfl dX5_next_1 hr.1 (rfl) ?_
        refine r_aloadR0 dX5_next_4 ?_
        refine m_getV (x := (f2_z A 1)) zf_RX5_15 rfl dX5_next_5 hr.1 (rfl) ?_
        refine t_icge (t := 50) dX5_next_8 (by decide) (fun h8 => ?_) (fun h8 => False.elim (by omega))
        have hks : k = s := by
          rw [hs0]
          exact (ruE_eq hpk hin (fun h_z => absurd h_z.1 (by omega))).symm
        exact l2 1 _ (by rw [h2k, hks]) ofr Nat.one_pos
  exact l1 _ f p (Nat.le_refl p) hpn h2 frM_rf (fun q h1 h2 => absurd h2 (by omega)) (Nat.lt_succ_self _)
