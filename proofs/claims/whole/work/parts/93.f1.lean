/-! the reference: the tape fed -/
theorem and3 : ∀ k, k < 20 → (nI k &&& 3).toInt = ((k % 4 : Nat) : Int) := by decide +kernel
set_option maxHeartbeats 4000000 in
set_option maxRecDepth 100000 in
theorem s_X12_feed {g : zGT} {w : zW} {f : Nat → Nat → Int32} {j : Nat → Nat → Int64} {A : Nat} {a b c d e : Int32} {p : Nat} {Q : Option Value → zW → Prop} {QX : String → zW → Prop} (G : zGok g) (hs : shM w A) (hp : (f A 6).toInt = (p : Nat)) (hp9 : p ≤ 900) (hQ0 : 880 < p → ∀ (r : Int32) f2_z, r.toInt = -1 → frM A [] [4] f f2_z → Q (some (.int r)) (zM w f2_z j)) (hQ : p ≤ 880 → ∀ (r : Int32) f2_z, r.toInt = ((p + 20 : Nat) : Int) → frM A [5] [4, 6] f f2_z → (f2_z A 6).toInt = ((p + 20 : Nat) : Int) → (∀ i, i < 20 → f2_z (A + 5) (p + i) = rfdG a b c d e i) → (∀ i, i < p → f2_z (A + 5) i = f (A + 5) i) → Q (some (.int r)) (zM w f2_z j)) : zC g 1 yX12_feed cX12_feed 8 (some .int) [.ref A, .int a, .int b, .int c, .int d, .int e] (zM w f j) (0, 0) Q QX := by
  refine zC_of G (by decide +kernel) (Nat.le_of_ble_eq_true rfl) ?_
  rcases Nat.lt_or_ge 880 p with h88 | h88
  · refine r_aloadR0 dX12_feed_0 ?_
    refine n_iconst dX12_feed_1 (by decide) (fun r1 e1_z => ?_)
    refine m_putI zf_RX12_77 (by intro C T N h_z; cases h_z; rfl) rfl dX12_feed_2 (shM_k hs) ?_
    obtain ⟨g2, hg2⟩ : ∃ g9, g9 = zu f A 4 r1 := ⟨_, rfl⟩
    rw [← hg2]
    have og2 : frM A [] [4] f g2 := by rw [hg2]; exact frM_zk frM_rf (by decide)
    have vg2 : g2 A 4 = r1 := by rw [hg2]; exact zu_at
    have vt2 : (g2 A 4).toInt = r1.toInt := by rw [vg2]
    refine r_aloadR0 dX12_feed_5 ?_
    refine m_getV (x := (g2 A 6)) zf_RX12_80 rfl dX12_feed_6 (shM_k hs) (rfl) ?_
    have w6 : (g2 A 6).toInt = (p : Nat) := by rw [og2.2.2 6 (by decide)]; exact hp
    refine n_bipush dX12_feed_9 (by decide) (fun r9 e9_z => ?_)
    refine n_iadd dX12_feed_11 (by omega) (fun r11 e11_z => ?_)
    refine n_sipush dX12_feed_12 (by decide) (fun r12 e12_z => ?_)
    refine t_icle (t := 20) dX12_feed_15 (by decide) (fun h15 => False.elim (by omega)) (fun h15 => ?_)
    refine n_iconst dX12_feed_18 (by decide) (fun r18 e18_z => ?_)
    refine r_iret dX12_feed_19 rfl (Nat.le_of_ble_eq_true rfl) (Nat.le_of_ble_eq_true rfl) ?_
    exact hQ0 h88 _ g2 (by omega) og2
  · refine r_aloadR0 dX12_feed_0 ?_
    refine n_iconst dX12_feed_1 (by decide) (fun r1 e1_z => ?_)
    refine m_putI zf_RX12_77 (by intro C T N h_z; cases h_z; rfl) rfl dX12_feed_2 (shM_k hs) ?_
    obtain ⟨g2, hg2⟩ : ∃ g9, g9 = zu f A 4 r1 := ⟨_, rfl⟩
    rw [← hg2]
    have og2 : frM A [] [4] f g2 := by rw [hg2]; exact frM_zk frM_rf (by decide)
    have vg2 : g2 A 4 = r1 := by rw [hg2]; exact zu_at
    have vt2 : (g2 A 4).toInt = r1.toInt := by rw [vg2]
    have w6 : (g2 A 6).toInt = (p : Nat) := by rw [og2.2.2 6 (by decide)]; exact hp
    have lp : ∀ (mz : Nat) (u : Int32) (k : Nat) (f2_z : Nat → Nat → Int32) (v7_ : Option Value), u.toInt = (k : Nat) → k ≤ 20 → (f2_z A 6).toInt = ((p + k : Nat) : Int) → (∀ q, q ≠ A + 5 → q ≠ A → f2_z q = g2 q) → (∀ k9, k9 ≠ 6 → f2_z A k9 = g2 A k9) → (∀ i, i < k → f2_z (A + 5) (p + i) = rfdG a b c d e i) → (∀ i, i < p → f2_z (A + 5) i = g2 (A + 5) i) → 20 - k < mz → zR (zV g 1 yX12_feed 8 (some .int) (0, 0) Q QX) cX12_feed yX12_feed.cls 23 [some (.ref A), some (.int a), some (.int b), some (.int c), some (.int d), some (.int e), some (.int u), v7_] [] (zM w f2_z j) (0, 0) := by
      intro mz
      induction mz with
      | zero =>
        intro u k f2_z v7_ huk hk8 h6k ho hok hd_z hr hmz
        exact absurd hmz (Nat.not_lt_zero _)
      | succ mz ih =>
        intro u k f2_z v7_ huk hk8 h6k ho hok hd_z hr hmz
        rcases Nat.lt_or_ge k 20 with hkl | hkl
        · have h3 := and3 k hkl
          have hcn : u = nI k := zi_of huk (by omega)
          rcases (show k / 4 = 0 ∨ k / 4 = 1 ∨ k / 4 = 2 ∨ k / 4 = 3 ∨ k / 4 = 4 by omega) with hs4 | hs4 | hs4 | hs4 | hs4
          · refine r_iload6 dX12_feed_23 ?_
            refine n_bipush dX12_feed_25 (by decide) (fun r25 e25_z => ?_)
            refine t_icge (t := 120) dX12_feed_27 (by decide) (fun h27 => False.elim (by omega)) (fun h27 => ?_)
            refine r_iload6 dX12_feed_30 ?_
            refine n_iconst dX12_feed_32 (by decide) (fun r32 e32 => ?_)
            refine t_icge (t := 40) dX12_feed_33 (by decide) (fun h33 => False.elim (by omega)) (fun h33 => ?_)
            refine r_iload1 dX12_feed_36 ?_
            refine r_goto (t := 76) dX12_feed_37 (by decide) ?_
            refine r_istore7 dX12_feed_76 rfl ?_
            refine r_aloadR0 dX12_feed_78 ?_
            refine m_getR (q := (A + 5)) zf_RX12_23 rfl dX12_feed_79 (shM_k hs) (shM_p5 hs) ?_
            refine r_aloadR0 dX12_feed_82 ?_
            refine m_getV (x := (f2_z A 6)) zf_RX12_80 rfl dX12_feed_83 (shM_k hs) (rfl) ?_
            refine r_iload7 dX12_feed_86 ?_
            refine n_bipush dX12_feed_88 (by decide) (fun r88 e88 => ?_)
            refine n_bipush dX12_feed_90 (by decide) (fun r90 e90_z => ?_)
            refine r_iload6 dX12_feed_92 ?_
            refine n_iconst dX12_feed_94 (by decide) (fun r94 e94_z => ?_)
            refine r_iand dX12_feed_95 ?_
            refine n_name (fun r95 e95_z => ?_)
            have h95 : r95.toInt = ((k % 4 : Nat) : Int) := by rw [e95_z, hcn, show r94 = 3 from zi_eq.mpr (e94_z.trans (by decide))]; exact h3
            refine n_imulc dX12_feed_96 e90_z (by omega) (fun r96 e96 => ?_)
            refine n_isub dX12_feed_97 (by omega) (fun r97 e97_z => ?_)
            have h97 : r97 = nI (24 - 8 * (k % 4)) := zi_of (by omega) (by omega)
            refine r_iushr dX12_feed_98 ?_
            refine n_name (fun r98 e98_z => ?_)
            refine n_sipush dX12_feed_99 (by decide) (fun r99 e99_z => ?_)
            refine r_iand dX12_feed_102 ?_
            refine n_name (fun r102 e102_z => ?_)
            have h102 : r102 = rfdG a b c d e k := by
              unfold rfdG rbyW feW
              rw [hs4]
              rw [e102_z, e98_z, h97, show r99 = 255 from zi_eq.mpr (e99_z.trans (by decide))]
              rfl
            refine m_iast (k := (p + k)) dX12_feed_103 (shM_k5 hs) (shM_n5 hs) (by omega) (by omega) ?_
            refine r_aloadR0 dX12_feed_104 ?_
            refine r_dup dX12_feed_105 rfl ?_
            refine m_getV (x := (f2_z A 6)) zf_RX12_80 rfl dX12_feed_106 (shM_k hs) ((zu_nn (by omega)).trans (rfl)) ?_
            refine n_iconst dX12_feed_109 (by decide) (fun r109 e109_z => ?_)
            refine n_iadd dX12_feed_110 (by omega) (fun r110 e110 => ?_)
            refine m_putI zf_RX12_80 (by intro C T N h_z; cases h_z; rfl) rfl dX12_feed_111 (shM_k hs) ?_
            refine n_iinc6 dX12_feed_114 (by decide) rfl (by omega) (fun r114 e114_z => ?_)
            refine r_goto (t := 23) dX12_feed_117 (by decide) ?_
            refine ih _ (k + 1) _ _ (by omega) (by omega) (by rw [zu_at]; omega) (fun q h1 h2 => (zu_ne h2).trans ((zu_ne h1).trans (ho q h1 h2))) (fun k9 h9 => by rw [zu_ni h9, zu_ne (by omega)]; exact hok k9 h9) (fun i hi_z => ?_) (fun i hi_z => ?_) (by omega)
            · rw [zu_ne (by omega), zu_s2]
              by_cases h9 : p + i = p + k
              · rw [if_pos h9, h102, show i = k by omega]
              · rw [if_neg h9]; exact hd_z i (by omega)
            · rw [zu_ne (by omega), zu_nn (Or.inr (by omega))]; exact hr i hi_z
          · refine r_iload6 dX12_feed_23 ?_
            refine n_bipush dX12_feed_25 (by decide) (fun r25 e25_z => ?_)
            refine t_icge (t := 120) dX12_feed_27 (by decide) (fun h27 => False.elim (by omega)) (fun h27 => ?_)
            refine r_iload6 dX12_feed_30 ?_
            refine n_iconst dX12_feed_32 (by decide) (fun r32 e32 => ?_)
            refine t_icge (t := 40) dX12_feed_33 (by decide) (fun h33 => ?_) (fun h33 => False.elim (by omega))
            refine r_iload6 dX12_feed_40 ?_
            refine n_bipush dX12_feed_42 (by decide) (fun r42 e42_z => ?_)
            refine t_icge (t := 51) dX12_feed_44 (by decide) (fun h44 => False.elim (by omega)) (fun h44 => ?_)
            refine r_iload2 dX12_feed_47 ?_
            refine r_goto (t := 76) dX12_feed_48 (by decide) ?_
            refine r_istore7 dX12_feed_76 rfl ?_
            refine r_aloadR0 dX12_feed_78 ?_
            refine m_getR (q := (A + 5)) zf_RX12_23 rfl dX12_feed_79 (shM_k hs) (shM_p5 hs) ?_
            refine r_aloadR0 dX12_feed_82 ?_
            refine m_getV (x := (f2_z A 6)) zf_RX12_80 rfl dX12_feed_83 (shM_k hs) (rfl) ?_
            refine r_iload7 dX12_feed_86 ?_
            refine n_bipush dX12_feed_88 (by decide) (fun r88 e88 => ?_)
            refine n_bipush dX12_feed_90 (by decide) (fun r90 e90_z => ?_)
            refine r_iload6 dX12_feed_92 ?_
            refine n_iconst dX12_feed_94 (by decide) (fun r94 e94_z => ?_)
            refine r_iand dX12_feed_95 ?_
            refine n_name (fun r95 e95_z => ?_)
            have h95 : r95.toInt = ((k % 4 : Nat) : Int) := by rw [e95_z, hcn, show r94 = 3 from zi_eq.mpr (e94_z.trans (by decide))]; exact h3
            refine n_imulc dX12_feed_96 e90_z (by omega) (fun r96 e96 => ?_)
            refine n_isub dX12_feed_97 (by omega) (fun r97 e97_z => ?_)
            have h97 : r97 = nI (24 - 8 * (k % 4)) := zi_of (by omega) (by omega)
            refine r_iushr dX12_feed_98 ?_
            refine n_name (fun r98 e98_z => ?_)
            refine n_sipush dX12_feed_99 (by decide) (fun r99 e99_z => ?_)
            refine r_iand dX12_feed_102 ?_
            refine n_name (fun r102 e102_z => ?_)
            have h102 : r102 = rfdG a b c d e k := by
              unfold rfdG rbyW feW
              rw [hs4]
              rw [e102_z, e98_z, h97, show r99 = 255 from zi_eq.mpr (e99_z.trans (by decide))]
              rfl
            refine m_iast (k := (p + k)) dX12_feed_103 (shM_k5 hs) (shM_n5 hs) (by omega) (by omega) ?_
            refine r_aloadR0 dX12_feed_104 ?_
            refine r_dup dX12_feed_105 rfl ?_
            refine m_getV (x := (f2_z A 6)) zf_RX12_80 rfl dX12_feed_106 (shM_k hs) ((zu_nn (by omega)).trans (rfl)) ?_
            refine n_iconst dX12_feed_109 (by decide) (fun r109 e109_z => ?_)
            refine n_iadd dX12_feed_110 (by omega) (fun r110 e110 => ?_)
            refine m_putI zf_RX12_80 (by intro C T N h_z; cases h_z; rfl) rfl dX12_feed_111 (shM_k hs) ?_
            refine n_iinc6 dX12_feed_114 (by decide) rfl (by omega) (fun r114 e114_z => ?_)
            refine r_goto (t := 23) dX12_feed_117 (by decide) ?_
            refine ih _ (k + 1) _ _ (by omega) (by omega) (by rw [zu_at]; omega) (fun q h1 h2 => (zu_ne h2).trans ((zu_ne h1).trans (ho q h1 h2))) (fun k9 h9 => by rw [zu_ni h9, zu_ne (by omega)]; exact hok k9 h9) (fun i hi_z => ?_) (fun i hi_z => ?_) (by omega)
            · rw [zu_ne (by omega), zu_s2]
              by_cases h9 : p + i = p + k
              · rw [if_pos h9, h102, show i = k by omega]
              · rw [if_neg h9]; exact hd_z i (by omega)
            · rw [zu_ne (by omega), zu_nn (Or.inr (by omega))]; exact hr i hi_z
          · refine r_iload6 dX12_feed_23 ?_
            refine n_bipush dX12_feed_25 (by decide) (fun r25 e25_z => ?_)
            refine t_icge (t := 120) dX12_feed_27 (by decide) (fun h27 => False.elim (by omega)) (fun h27 => ?_)
            refine r_iload6 dX12_feed_30 ?_
            refine n_iconst dX12_feed_32 (by decide) (fun r32 e32 => ?_)
            refine t_icge (t := 40) dX12_feed_33 (by decide) (fun h33 => ?_) (fun h33 => False.elim (by omega))
            refine r_iload6 dX12_feed_40 ?_
            refine n_bipush dX12_feed_42 (by decide) (fun r42 e42_z => ?_)
            refine t_icge (t := 51) dX12_feed_44 (by decide) (fun h44 => ?_) (fun h44 => False.elim (by omega))
            refine r_iload6 dX12_feed_51 ?_
            refine n_bipush dX12_feed_53 (by decide) (fun r53 e53 => ?_)
            refine t_icge (t := 62) dX12_feed_55 (by decide) (fun h55 => False.elim (by omega)) (fun h55 => ?_)
            refine r_iload3 dX12_feed_58 ?_
            refine r_goto (t := 76) dX12_feed_59 (by decide) ?_
            refine r_istore7 dX12_feed_76 rfl ?_
            refine r_aloadR0 dX12_feed_78 ?_
            refine m_getR (q := (A + 5)) zf_RX12_23 rfl dX12_feed_79 (shM_k hs) (shM_p5 hs) ?_
            refine r_aloadR0 dX12_feed_82 ?_
            refine m_getV (x := (f2_z A 6)) zf_RX12_80 rfl dX12_feed_83 (shM_k hs) (rfl) ?_
            refine r_iload7 dX12_feed_86 ?_
            refine n_bipush dX12_feed_88 (by decide) (fun r88 e88 => ?_)
            refine n_bipush dX12_feed_90 (by decide) (fun r90 e90_z => ?_)
            refine r_iload6 dX12_feed_92 ?_
            refine n_iconst dX12_feed_94 (by decide) (fun r94 e94_z => ?_)
            refine r_iand dX12_feed_95 ?_
            refine n_name (fun r95 e95_z => ?_)
            have h95 : r95.toInt = ((k % 4 : Nat) : Int) := by rw [e95_z, hcn, show r94 = 3 from zi_eq.mpr (e94_z.trans (by decide))]; exact h3
            refine n_imulc dX12_feed_96 e90_z (by omega) (fun r96 e96 => ?_)
            refine n_isub dX12_feed_97 (by omega) (fun r97 e97_z => ?_)
            have h97 : r97 = nI (24 - 8 * (k % 4)) := zi_of (by omega) (by omega)
            refine r_iushr dX12_feed_98 ?_
            refine n_name (fun r98 e98_z => ?_)
            refine n_sipush dX12_feed_99 (by decide) (fun r99 e99_z => ?_)
            refine r_iand dX12_feed_102 ?_
            refine n_name (fun r102 e102_z => ?_)
            have h102 : r102 = rfdG a b c d e k := by
              unfold rfdG rbyW feW
              rw [hs4]
              rw [e102_z, e98_z, h97, show r99 = 255 from zi_eq.mpr (e99_z.trans (by decide))]
              rfl
            refine m_iast (k := (p + k)) dX12_feed_103 (shM_k5 hs) (shM_n5 hs) (by omega) (by omega) ?_
            refine r_aloadR0 dX12_feed_104 ?_
            refine r_dup dX12_feed_105 rfl ?_
            refine m_getV (x := (f2_z A 6)) zf_RX12_80 rfl dX12_feed_106 (shM_k hs) ((zu_nn (by omega)).trans (rfl)) ?_
            refine n_iconst dX12_feed_109 (by decide) (fun r109 e109_z => ?_)
            refine n_iadd dX12_feed_110 (by omega) (fun r110 e110 => ?_)
            refine m_putI zf_RX12_80 (by intro C T N h_z; cases h_z; rfl) rfl dX12_feed_111 (shM_k hs) ?_
            refine n_iinc6 dX12_feed_114 (by decide) rfl (by omega) (fun r114 e114_z => ?_)
            refine r_goto (t := 23) dX12_feed_117 (by decide) ?_
            refine ih _ (k + 1) _ _ (by omega) (by omega) (by rw [zu_at]; omega) (fun q h1 h2 => (zu_ne h2).trans ((zu_ne h1).trans (ho q h1 h2))) (fun k9 h9 => by rw [zu_ni h9, zu_ne (by omega)]; exact hok k9 h9) (fun i hi_z => ?_) (fun i hi_z => ?_) (by omega)
            · rw [zu_ne (by omega), zu_s2]
              by_cases h9 : p + i = p + k
              · rw [if_pos h9, h102, show i = k by omega]
              · rw [if_neg h9]; exact hd_z i (by omega)
            · rw [zu_ne (by omega), zu_nn (Or.inr (by omega))]; exact hr i hi_z
          · refine r_iload6 dX12_feed_23 ?_
            refine n_bipush dX12_feed_25 (by decide) (fun r25 e25_z => ?_)
            refine t_icge (t := 120) dX12_feed_27 (by decide) (fun h27 => False.elim (by omega)) (fun h27 => ?_)
            refine r_iload6 dX12_feed_30 ?_
            refine n_iconst dX12_feed_32 (by decide) (fun r32 e32 => ?_)
            refine t_icge (t := 40) dX12_feed_33 (by decide) (fun h33 => ?_) (fun h33 => False.elim (by omega))
            refine r_iload6 dX12_feed_40 ?_
            refine n_bipush dX12_feed_42 (by decide) (fun r42 e42_z => ?_)
            refine t_icge (t := 51) dX12_feed_44 (by decide) (fun h44 => ?_) (fun h44 => False.elim (by omega))
            refine r_iload6 dX12_feed_51 ?_
            refine n_bipush dX12_feed_53 (by decide) (fun r53 e53 => ?_)
            refine t_icge (t := 62) dX12_feed_55 (by decide) (fun h55 => ?_) (fun h55 => False.elim (by omega))
            refine r_iload6 dX12_feed_62 ?_
            refine n_bipush dX12_feed_64 (by decide) (fun r64 e64 => ?_)
            refine t_icge (t := 74) dX12_feed_66 (by decide) (fun h66 => False.elim (by omega)) (fun h66 => ?_)
            refine r_iload4 dX12_feed_69 ?_
            refine r_goto (t := 76) dX12_feed_71 (by decide) ?_
            refine r_istore7 dX12_feed_76 rfl ?_
            refine r_aloadR0 dX12_feed_78 ?_
            refine m_getR (q := (A + 5)) zf_RX12_23 rfl dX12_feed_79 (shM_k hs) (shM_p5 hs) ?_
            refine r_aloadR0 dX12_feed_82 ?_
            refine m_getV (x := (f2_z A 6)) zf_RX12_80 rfl dX12_feed_83 (shM_k hs) (rfl) ?_
            refine r_iload7 dX12_feed_86 ?_
            refine n_bipush dX12_feed_88 (by decide) (fun r88 e88 => ?_)
            refine n_bipush dX12_feed_90 (by decide) (fun r90 e90_z => ?_)
            refine r_iload6 dX12_feed_92 ?_
            refine n_iconst dX12_feed_94 (by decide) (fun r94 e94_z => ?_)
            refine r_iand dX12_feed_95 ?_
            refine n_name (fun r95 e95_z => ?_)
            have h95 : r95.toInt = ((k % 4 : Nat) : Int) := by rw [e95_z, hcn, show r94 = 3 from zi_eq.mpr (e94_z.trans (by decide))]; exact h3
            refine n_imulc dX12_feed_96 e90_z (by omega) (fun r96 e96 => ?_)
            refine n_isub dX12_feed_97 (by omega) (fun r97 e97_z => ?_)
            have h97 : r97 = nI (24 - 8 * (k % 4)) := zi_of (by omega) (by omega)
            refine r_iushr dX12_feed_98 ?_
            refine n_name (fun r98 e98_z => ?_)
            refine n_sipush dX12_feed_99 (by decide) (fun r99 e99_z => ?_)
            refine r_iand dX12_feed_102 ?_
            refine n_name (fun r102 e102_z => ?_)
            have h102 : r102 = rfdG a b c d e k := by
              unfold rfdG rbyW feW
              rw [hs4]
              rw [e102_z, e98_z, h97, show r99 = 255 from zi_eq.mpr (e99_z.trans (by decide))]
              rfl
            refine m_iast (k := (p + k)) dX12_feed_103 (shM_k5 hs) (shM_n5 hs) (by omega) (by omega) ?_
            refine r_aloadR0 dX12_feed_104 ?_
            refine r_dup dX12_feed_105 rfl ?_
            refine m_getV (x := (f2_z A 6)) zf_RX12_80 rfl dX12_feed_106 (shM_k hs) ((zu_nn (by omega)).trans (rfl)) ?_
            refine n_iconst dX12_feed_109 (by decide) (fun r109 e109_z => ?_)
            refine n_iadd dX12_feed_110 (by omega) (fun r110 e110 => ?_)
            refine m_putI zf_RX12_80 (by intro C T N h_z; cases h_z; rfl) rfl dX12_feed_111 (shM_k hs) ?_
            refine n_iinc6 dX12_feed_114 (by decide) rfl (by omega) (fun r114 e114_z => ?_)
            refine r_goto (t := 23) dX12_feed_117 (by decide) ?_
            refine ih _ (k + 1) _ _ (by omega) (by omega) (by rw [zu_at]; omega) (fun q h1 h2 => (zu_ne h2).trans ((zu_ne h1).trans (ho q h1 h2))) (fun k9 h9 => by rw [zu_ni h9, zu_ne (by omega)]; exact hok k9 h9) (fun i hi_z => ?_) (fun i hi_z => ?_) (by omega)
            · rw [zu_ne (by omega), zu_s2]
              by_cases h9 : p + i = p + k
              · rw [if_pos h9, h102, show i = k by omega]
              · rw [if_neg h9]; exact hd_z i (by omega)
            · rw [zu_ne (by omega), zu_nn (Or.inr (by omega))]; exact hr i hi_z
          · refine r_iload6 dX12_feed_23 ?_
            refine n_bipush dX12_feed_25 (by decide) (fun r25 e25_z => ?_)
            refine t_icge (t := 120) dX12_feed_27 (by decide) (fun h27 => False.elim (by omega)) (fun h27 => ?_)
            refine r_iload6 dX12_feed_30 ?_
            refine n_iconst dX12_feed_32 (by decide) (fun r32 e32 => ?_)
            refine t_icge (t := 40) dX12_feed_33 (by decide) (fun h33 => ?_) (fun h33 => False.elim (by omega))
            refine r_iload6 dX12_feed_40 ?_
            refine n_bipush dX12_feed_42 (by decide) (fun r42 e42_z => ?_)
            refine t_icge (t := 51) dX12_feed_44 (by decide) (fun h44 => ?_) (fun h44 => False.elim (by omega))
            refine r_iload6 dX12_feed_51 ?_
            refine n_bipush dX12_feed_53 (by decide) (fun r53 e53 => ?_)
            refine t_icge (t := 62) dX12_feed_55 (by decide) (fun h55 => ?_) (fun h55 => False.elim (by omega))
            refine r_iload6 dX12_feed_62 ?_
            refine n_bipush dX12_feed_64 (by decide) (fun r64 e64 => ?_)
            refine t_icge (t := 74) dX12_feed_66 (by decide) (fun h66 => ?_) (fun h66 => False.elim (by omega))
            refine r_iload5 dX12_feed_74 ?_
            refine r_istore7 dX12_feed_76 rfl ?_
            refine r_aloadR0 dX12_feed_78 ?_
            refine m_getR (q := (A + 5)) zf_RX12_23 rfl dX12_feed_79 (shM_k hs) (shM_p5 hs) ?_
            refine r_aloadR0 dX12_feed_82 ?_
            refine m_getV (x := (f2_z A 6)) zf_RX12_80 rfl dX12_feed_83 (shM_k hs) (rfl) ?_
            refine r_iload7 dX12_feed_86 ?_
            refine n_bipush dX12_feed_88 (by decide) (fun r88 e88 => ?_)
            refine n_bipush dX12_feed_90 (by decide) (fun r90 e90_z => ?_)
            refine r_iload6 dX12_feed_92 ?_
            refine n_iconst dX12_feed_94 (by decide) (fun r94 e94_z => ?_)
            refine r_iand dX12_feed_95 ?_
            refine n_name (fun r95 e95_z => ?_)
            have h95 : r95.toInt = ((k % 4 : Nat) : Int) := by rw [e95_z, hcn, show r94 = 3 from zi_eq.mpr (e94_z.trans (by decide))]; exact h3
            refine n_imulc dX12_feed_96 e90_z (by omega) (fun r96 e96 => ?_)
            refine n_isub dX12_feed_97 (by omega) (fun r97 e97_z => ?_)
            have h97 : r97 = nI (24 - 8 * (k % 4)) := zi_of (by omega) (by omega)
            refine r_iushr dX12_feed_98 ?_
            refine n_name (fun r98 e98_z => ?_)
            refine n_sipush dX12_feed_99 (by decide) (fun r99 e99_z => ?_)
            refine r_iand dX12_feed_102 ?_
            refine n_name (fun r102 e102_z => ?_)
            have h102 : r102 = rfdG a b c d e k := by
              unfold rfdG rbyW feW
              rw [hs4]
              rw [e102_z, e98_z, h97, show r99 = 255 from zi_eq.mpr (e99_z.trans (by decide))]
              rfl
            refine m_iast (k := (p + k)) dX12_feed_103 (shM_k5 hs) (shM_n5 hs) (by omega) (by omega) ?_
            refine r_aloadR0 dX12_feed_104 ?_
            refine r_dup dX12_feed_105 rfl ?_
            refine m_getV (x := (f2_z A 6)) zf_RX12_80 rfl dX12_feed_106 (shM_k hs) ((zu_nn (by omega)).trans (rfl)) ?_
            refine n_iconst dX12_feed_109 (by decide) (fun r109 e109_z => ?_)
            refine n_iadd dX12_feed_110 (by omega) (fun r110 e110 => ?_)
            refine m_putI zf_RX12_80 (by intro C T N h_z; cases h_z; rfl) rfl dX12_feed_111 (shM_k hs) ?_
            refine n_iinc6 dX12_feed_114 (by decide) rfl (by omega) (fun r114 e114_z => ?_)
            refine r_goto (t := 23) dX12_feed_117 (by decide) ?_
            refine ih _ (k + 1) _ _ (by omega) (by omega) (by rw [zu_at]; omega) (fun q h1 h2 => (zu_ne h2).trans ((zu_ne h1).trans (ho q h1 h2))) (fun k9 h9 => by rw [zu_ni h9, zu_ne (by omega)]; exact hok k9 h9) (fun i hi_z => ?_) (fun i hi_z => ?_) (by omega)
            · rw [zu_ne (by omega), zu_s2]
              by_cases h9 : p + i = p + k
              · rw [if_pos h9, h102, show i = k by omega]
              · rw [if_neg h9]; exact hd_z i (by omega)
            · rw [zu_ne (by omega), zu_nn (Or.inr (by omega))]; exact hr i hi_z
        · refine r_iload6 dX12_feed_23 ?_
          refine n_bipush dX12_feed_25 (by decide) (fun r25 e25_z => ?_)
          refine t_icge (t := 120) dX12_feed_27 (by decide) (fun h27 => ?_) (fun h27 => False.elim (by omega))
          refine r_aloadR0 dX12_feed_120 ?_
          refine m_getV (x := (f2_z A 6)) zf_RX12_80 rfl dX12_feed_121 (shM_k hs) (rfl) ?_
          refine r_iret dX12_feed_124 rfl (Nat.le_of_ble_eq_true rfl) (Nat.le_of_ble_eq_true rfl) ?_
          refine hQ h88 _ f2_z (by omega) (frM_tr (frM_su og2 (by decide) (by decide)) (show frM A [5] [4, 6] g2 f2_z from ⟨fun q hq => ho q (by omega) (by omega), fun r h2 h3 h4 => ho _ (by intro e9_z; exact h4 (by simp; omega)) (by omega), fun k9 h9 => hok k9 (fun e9_z => h9 (by simp [e9_z]))⟩)) (by omega) (fun i hi_z => hd_z i (by omega)) (fun i hi_z => by rw [hr i hi_z, og2.2.1 5 (by decide) (by decide) (by decide)])
    refine r_aloadR0 dX12_feed_5 ?_
    refine m_getV (x := (g2 A 6)) zf_RX12_80 rfl dX12_feed_6 (shM_k hs) (rfl) ?_
    refine n_bipush dX12_feed_9 (by decide) (fun r9 e9_z => ?_)
    refine n_iadd dX12_feed_11 (by omega) (fun r11 e11_z => ?_)
    refine n_sipush dX12_feed_12 (by decide) (fun r12 e12_z => ?_)
    refine t_icle (t := 20) dX12_feed_15 (by decide) (fun h15 => ?_) (fun h15 => False.elim (by omega))
    refine n_iconst dX12_feed_20 (by decide) (fun r20 e20 => ?_)
    refine r_istore6 dX12_feed_21 rfl ?_
    exact lp 21 _ 0 g2 _ (by omega) (by omega) (by omega) (fun q _ _ => rfl) (fun _ _ => rfl) (fun i hi_z => absurd hi_z (by omega)) (fun i _ => rfl) (by omega)
