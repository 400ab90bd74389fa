/-! the reference reads a napkin-/
theorem tlM_0 {K : Nat → Int32} (h_z : ∀ k, k < 2912 → (K k).toInt = 0) : tlM K ((0, [], []), ([], [], [])) := ⟨⟨h_z 0 (by decide), h_z 1 (by decide), h_z 2 (by decide), h_z 3 (by decide), h_z 4 (by decide), h_z 5 (by decide), h_z 6 (by decide), h_z 7 (by decide)⟩, fun c hc_z => ⟨h_z _ (by omega), h_z _ (by omega)⟩, fun i v hi_z => absurd hi_z (by simp), fun i o hi_z => absurd hi_z (by simp), fun i o hi_z => absurd hi_z (by simp), fun i o hi_z => absurd hi_z (by simp)⟩
theorem tlM_cp {K K2 : Nat → Int32} {t : zNl} (h_z : tlM K t) (hg : t.1.2.2.length ≤ 4) (hl : t.2.1.length ≤ 900 ∧ t.2.2.1.length ≤ 900 ∧ t.2.2.2.length ≤ 900) (e : ∀ k, k < 2912 → K2 k = K k) : tlM K2 t := by
  obtain ⟨⟨a0, a1, a2, a3, a4, a5, a6, a7⟩, bb, cc, d1, d2, d3⟩ := h_z
  refine ⟨⟨by rw [e _ (by decide)]; exact a0, by rw [e _ (by decide)]; exact a1, by rw [e _ (by decide)]; exact a2, by rw [e _ (by decide)]; exact a3, by rw [e _ (by decide)]; exact a4, by rw [e _ (by decide)]; exact a5, by rw [e _ (by decide)]; exact a6, by rw [e _ (by decide)]; exact a7⟩, fun c hc_z => by rw [e _ (by omega), e _ (by omega)]; exact bb c hc_z, fun i v hi_z => ?_, lwR_eq d1 hl.1 (fun k h2 h3 => e k (by omega)), lwR_eq d2 hl.2.1 (fun k h2 h3 => e k (by omega)), lwR_eq d3 hl.2.2 (fun k h2 h3 => e k (by omega))⟩
  have := (List.getElem?_eq_some_iff.mp hi_z).1
  rw [e _ (by omega)]
  exact cc i v hi_z
theorem nlG_0 {B : Nat → Nat} {n : Nat} : nlG n (0, ruE (fun q => isSp (B q)) n 0, ((0, [], []), ([], [], []))) := by
  refine ⟨Nat.zero_le 4, ruE_le (Nat.zero_le n), Nat.zero_le _, Nat.zero_le 6, Nat.zero_le 4, fun p hp => absurd hp List.not_mem_nil, fun p hp => absurd hp List.not_mem_nil, ?_, ?_, ?_⟩
  · exact ⟨Nat.zero_le 900, fun o ho => absurd ho List.not_mem_nil, Or.inl rfl⟩
  · exact ⟨Nat.zero_le 900, fun o ho => absurd ho List.not_mem_nil, Or.inl rfl⟩
  · exact ⟨Nat.zero_le 900, fun o ho => absurd ho List.not_mem_nil, Or.inl rfl⟩
set_option maxHeartbeats 4000000 in
set_option maxRecDepth 100000 in
theorem s_X12_napkin {g : zGT} {w : zW} {f : Nat → Nat → Int32} {j : Nat → Nat → Int64} {A : Nat} {B : Nat → Nat} {n : Nat} {wa wv : Nat → Nat} {kq : Nat} {x : Int32} {p : Nat} {Q : Option Value → zW → Prop} {QX : String → zW → Prop} (G : zGok g) (hs : shM w A) (kw : kWd g wa wv kq) (hld : kLd g wa) (hp : (f A 6).toInt = (p : Nat)) (hp9 : p ≤ 900) (hB_z : ∀ q, q < n → (f (A + 5) q).toInt = (B q : Nat)) (hB9 : ∀ q, B q ≤ 255) (hn : (n : Int) = x.toInt ∨ ¬ (0 ≤ x.toInt ∧ x.toInt ≤ (p : Nat))) (hQ1 : ¬ (0 ≤ x.toInt ∧ x.toInt ≤ (p : Nat)) → ∀ (r : Int32) f2_z, frM A [] [4] f f2_z → (f2_z A 4).toInt = 1 → Q (some (.int r)) (zM w f2_z j)) (hQ2 : 0 ≤ x.toInt ∧ x.toInt ≤ (p : Nat) → (npP B n).1 ≠ 0 → ∀ (r : Int32) f2_z, r.toInt = -10 - ((npP B n).1 : Nat) → frM A [2] [4, 6, 7, 8, 9, 10, 11, 12, 13, 14, 15, 16, 17, 18] f f2_z → (f2_z A 4).toInt = 0 → (f2_z A 6).toInt = 0 → (f2_z A 14).toInt = ((npP B n).1 : Nat) → (f2_z A 15).toInt = ((npP B n).2.1 : Nat) → Q (some (.int r)) (zM w f2_z j)) (hQ : 0 ≤ x.toInt ∧ x.toInt ≤ (p : Nat) → (npP B n).1 = 0 → ∀ (r : Int32) f2_z, r.toInt = ((npP B n).2.2.1.1 : Nat) → frM A [1, 2] [4, 6, 7, 8, 9, 10, 11, 12, 13, 14, 15, 16, 17, 18] f f2_z → (f2_z A 4).toInt = 0 → (f2_z A 6).toInt = 0 → (f2_z A 14).toInt = 0 → (f2_z A 15).toInt = -1 → ctKn (f2_z (A + 1)) (tbOf (npP B n).2.2) → wfT (tbOf (npP B n).2.2) → Q (some (.int r)) (zM w f2_z j)) : zC g 82 yX12_napkin cX12_napkin 3 (some .int) [.ref A, .int x] (zM w f j) (0, 0) Q QX := by
  refine zC_of G (by decide +kernel) (Nat.le_of_ble_eq_true rfl) ?_
  by_cases hx : 0 ≤ x.toInt ∧ x.toInt ≤ (p : Nat)
  case neg =>
    refine r_aloadR0 dX12_napkin_0 ?_
    refine n_iconst dX12_napkin_1 (by decide) (fun r1 e1_z => ?_)
    refine m_putI zf_RX12_77 (by intro C T N h_z; cases h_z; rfl) rfl dX12_napkin_2 (shM_k hs) ?_
    obtain ⟨g2, hg2⟩ : ∃ g9, g9 = zu f A 4 r1 := ⟨_, rfl⟩
    rw [← hg2]
    have og2 : frM A [] [4] f g2 := by rw [hg2]; exact frM_zk frM_rf (by decide)
    have vg2 : g2 A 4 = r1 := by rw [hg2]; exact zu_at
    have vt2 : (g2 A 4).toInt = r1.toInt := by rw [vg2]
    refine r_iload1 dX12_napkin_5 ?_
    refine n_i2l dX12_napkin_6 (fun r6 e6_z => ?_)
    refine n_lconst (q := 0) dX12_napkin_7 rfl (by decide) (fun r7 e7_z => ?_)
    refine r_aloadR0 dX12_napkin_8 ?_
    have w6 : (g2 A 6).toInt = (p : Nat) := by rw [og2.2.2 6 (by decide)]; exact hp
    refine m_getV (x := (g2 A 6)) zf_RX12_80 rfl dX12_napkin_9 (shM_k hs) (rfl) ?_
    refine n_i2l dX12_napkin_12 (fun r12 e12_z => ?_)
    refine q_callS3 zm_RX12_138 dX12_napkin_13 (Nat.le_of_ble_eq_true rfl) (Nat.le_of_ble_eq_true rfl) (Nat.le_of_ble_eq_true rfl) (Nat.le_of_ble_eq_true rfl) (Nat.le_of_ble_eq_true rfl) (s_X12_within G  (fun r13 e13_z => ?_))
    refine t_ifne (t := 25) dX12_napkin_16 (by decide) (fun h16_z => False.elim (by omega)) (fun h16_z => ?_)
    refine r_aloadR0 dX12_napkin_19 ?_
    refine n_iconst dX12_napkin_20 (by decide) (fun r20 e20 => ?_)
    refine q_callV1 zm_RX12_244 dX12_napkin_21 (shM_k hs) (by decide) rfl (Nat.le_of_ble_eq_true rfl) (Nat.le_of_ble_eq_true rfl) (Nat.le_of_ble_eq_true rfl) (Nat.le_of_ble_eq_true rfl) (Nat.le_of_ble_eq_true rfl) (s_X12_fails G hs (fun r21 g21 e21_z o21 v21 => ?_))
    refine r_iret dX12_napkin_24 rfl (Nat.le_of_ble_eq_true rfl) (Nat.le_of_ble_eq_true rfl) ?_
    exact hQ1 hx _ g21 (frM_tr (frM_su og2 (by decide) (by decide)) (frM_su o21 (by decide) (by decide))) (by rw [v21]; omega)
  case pos =>
    have hnx : (n : Int) = x.toInt := hn.resolve_right (not_not_intro hx)
    have hn9 : n ≤ 900 := by omega
    refine r_aloadR0 dX12_napkin_0 ?_
    refine n_iconst dX12_napkin_1 (by decide) (fun r1 e1_z => ?_)
    refine m_putI zf_RX12_77 (by intro C T N h_z; cases h_z; rfl) rfl dX12_napkin_2 (shM_k hs) ?_
    obtain ⟨g2, hg2⟩ : ∃ g9, g9 = zu f A 4 r1 := ⟨_, rfl⟩
    rw [← hg2]
    have og2 : frM A [] [4] f g2 := by rw [hg2]; exact frM_zk frM_rf (by decide)
    have vg2 : g2 A 4 = r1 := by rw [hg2]; exact zu_at
    have vt2 : (g2 A 4).toInt = r1.toInt := by rw [vg2]
    refine r_iload1 dX12_napkin_5 ?_
    refine n_i2l dX12_napkin_6 (fun r6 e6_z => ?_)
    refine n_lconst (q := 0) dX12_napkin_7 rfl (by decide) (fun r7 e7_z => ?_)
    refine r_aloadR0 dX12_napkin_8 ?_
    have w6 : (g2 A 6).toInt = (p : Nat) := by rw [og2.2.2 6 (by decide)]; exact hp
    refine m_getV (x := (g2 A 6)) zf_RX12_80 rfl dX12_napkin_9 (shM_k hs) (rfl) ?_
    refine n_i2l dX12_napkin_12 (fun r12 e12_z => ?_)
    refine q_callS3 zm_RX12_138 dX12_napkin_13 (Nat.le_of_ble_eq_true rfl) (Nat.le_of_ble_eq_true rfl) (Nat.le_of_ble_eq_true rfl) (Nat.le_of_ble_eq_true rfl) (Nat.le_of_ble_eq_true rfl) (s_X12_within G  (fun r13 e13_z => ?_))
    refine t_ifne (t := 25) dX12_napkin_16 (by decide) (fun h16_z => ?_) (fun h16_z => False.elim (by omega))
    refine r_aloadR0 dX12_napkin_25 ?_
    refine r_iload1 dX12_napkin_26 ?_
    refine m_putI zf_RX12_83 (by intro C T N h_z; cases h_z; rfl) rfl dX12_napkin_27 (shM_k hs) ?_
    obtain ⟨g27, hg27⟩ : ∃ g9, g9 = zu g2 A 7 x := ⟨_, rfl⟩
    rw [← hg27]
    have og27 : frM A [] [7] g2 g27 := by rw [hg27]; exact frM_zk frM_rf (by decide)
    have vg27 : g27 A 7 = x := by rw [hg27]; exact zu_at
    have vt27 : (g27 A 7).toInt = x.toInt := by rw [vg27]
    refine r_aloadR0 dX12_napkin_30 ?_
    refine n_iconst dX12_napkin_31 (by decide) (fun r31 e31_z => ?_)
    refine m_putI zf_RX12_80 (by intro C T N h_z; cases h_z; rfl) rfl dX12_napkin_32 (shM_k hs) ?_
    obtain ⟨g32, hg32⟩ : ∃ g9, g9 = zu g27 A 6 r31 := ⟨_, rfl⟩
    rw [← hg32]
    have og32 : frM A [] [6] g27 g32 := by rw [hg32]; exact frM_zk frM_rf (by decide)
    have vg32 : g32 A 6 = r31 := by rw [hg32]; exact zu_at
    have vt32 : (g32 A 6).toInt = r31.toInt := by rw [vg32]
    refine r_aloadR0 dX12_napkin_35 ?_
    refine n_iconst dX12_napkin_36 (by decide) (fun r36 e36 => ?_)
    refine m_putI zf_RX12_86 (by intro C T N h_z; cases h_z; rfl) rfl dX12_napkin_37 (shM_k hs) ?_
    obtain ⟨g37, hg37⟩ : ∃ g9, g9 = zu g32 A 8 r36 := ⟨_, rfl⟩
    rw [← hg37]
    have og37 : frM A [] [8] g32 g37 := by rw [hg37]; exact frM_zk frM_rf (by decide)
    have vg37 : g37 A 8 = r36 := by rw [hg37]; exact zu_at
    have vt37 : (g37 A 8).toInt = r36.toInt := by rw [vg37]
    refine r_aloadR0 dX12_napkin_40 ?_
    refine n_iconst dX12_napkin_41 (by decide) (fun r41 e41_z => ?_)
    refine m_putI zf_RX12_112 (by intro C T N h_z; cases h_z; rfl) rfl dX12_napkin_42 (shM_k hs) ?_
    obtain ⟨g42, hg42⟩ : ∃ g9, g9 = zu g37 A 12 r41 := ⟨_, rfl⟩
    rw [← hg42]
    have og42 : frM A [] [12] g37 g42 := by rw [hg42]; exact frM_zk frM_rf (by decide)
    have vg42 : g42 A 12 = r41 := by rw [hg42]; exact zu_at
    have vt42 : (g42 A 12).toInt = r41.toInt := by rw [vg42]
    refine r_aloadR0 dX12_napkin_45 ?_
    refine n_iconst dX12_napkin_46 (by decide) (fun r46 e46 => ?_)
    refine m_putI zf_RX12_154 (by intro C T N h_z; cases h_z; rfl) rfl dX12_napkin_47 (shM_k hs) ?_
    obtain ⟨g47, hg47⟩ : ∃ g9, g9 = zu g42 A 16 r46 := ⟨_, rfl⟩
    rw [← hg47]
    have og47 : frM A [] [16] g42 g47 := by rw [hg47]; exact frM_zk frM_rf (by decide)
    have vg47 : g47 A 16 = r46 := by rw [hg47]; exact zu_at
    have vt47 : (g47 A 16).toInt = r46.toInt := by rw [vg47]
    have of47 : frM A [] [4, 6, 7, 8, 9, 10, 11, 12, 13, 14, 15, 16, 17, 18] f g47 := frM_tr (frM_tr (frM_tr (frM_su og2 (by decide) (by decide)) (frM_su og27 (by decide) (by decide))) (frM_tr (frM_su og32 (by decide) (by decide)) (frM_su og37 (by decide) (by decide)))) (frM_tr (frM_su og42 (by decide) (by decide)) (frM_su og47 (by decide) (by decide)))
    have y4 : (g47 A 4).toInt = 0 := by rw [og47.2.2 4 (by decide), og42.2.2 4 (by decide), og37.2.2 4 (by decide), og32.2.2 4 (by decide), og27.2.2 4 (by decide), vt2]; omega
    have y7 : (g47 A 7).toInt = (n : Nat) := by rw [og47.2.2 7 (by decide), og42.2.2 7 (by decide), og37.2.2 7 (by decide), og32.2.2 7 (by decide), vt27]; omega
    have y6 : (g47 A 6).toInt = 0 := by rw [og47.2.2 6 (by decide), og42.2.2 6 (by decide), og37.2.2 6 (by decide), vt32]; omega
    have y8 : (g47 A 8).toInt = 0 := by rw [og47.2.2 8 (by decide), og42.2.2 8 (by decide), vt37]; omega
    have y12 : (g47 A 12).toInt = 0 := by rw [og47.2.2 12 (by decide), vt42]; omega
    have y16 : (g47 A 16).toInt = 0 := by rw [vt47]; omega
    have y5 : g47 (A + 5) = f (A + 5) := of47.2.1 5 (by decide) (by decide) (by decide)
    have lc : ∀ (gy : Nat → Nat → Int32) (yN : Nat × Nat × zNl), yN = npP B n → yN.1 = 0 → frM A [2] [4, 6, 7, 8, 9, 10, 11, 12, 13, 14, 15, 16, 17, 18] f gy → (gy A 4).toInt = 0 → (gy A 6).toInt = 0 → (gy A 14).toInt = 0 → (gy A 15).toInt = -1 → tlM (gy (A + 2)) yN.2.2 → nlG n (0, yN.2.1, yN.2.2) → ∀ u : Int32, u.toInt = 0 → zR (zV g 82 yX12_napkin 3 (some .int) (0, 0) Q QX) cX12_napkin yX12_napkin.cls 141 [some (.ref A), some (.int x), some (.int u)] [] (zM w gy j) (0, 0) := by
      intro gy yN hyN hy0 ofy hy4 hy6 hy14 hy15 tlc hgn u0 hu0
      have hgc4 : yN.2.2.1.2.2.length ≤ 4 := hgn.2.2.2.2.1
      have hglw : yN.2.2.2.1.length ≤ 900 ∧ yN.2.2.2.2.1.length ≤ 900 ∧ yN.2.2.2.2.2.length ≤ 900 := ⟨hgn.2.2.2.2.2.2.2.1.1, hgn.2.2.2.2.2.2.2.2.1.1, hgn.2.2.2.2.2.2.2.2.2.1⟩
      have lcc : ∀ (mz : Nat) (u : Int32) (k : Nat) (f2_z : Nat → Nat → Int32), u.toInt = (k : Nat) → k ≤ 2912 → frM A [1] [] gy f2_z → (∀ i, i < k → f2_z (A + 1) i = gy (A + 2) i) → 2912 - k < mz → zR (zV g 82 yX12_napkin 3 (some .int) (0, 0) Q QX) cX12_napkin yX12_napkin.cls 141 [some (.ref A), some (.int x), some (.int u)] [] (zM w f2_z j) (0, 0) := by
        intro mz
        induction mz with
        | zero =>
          intro u k f2_z huk hk9 ofc hz hmz
          exact absurd hmz (Nat.not_lt_zero _)
        | succ mz ih =>
          intro u k f2_z huk hk9 ofc hz hmz
          rcases Nat.lt_or_ge k 2912 with hkl | hkl
          · refine r_iload2 dX12_napkin_141 ?_
            refine n_sipush dX12_napkin_142 (by decide) (fun r142 e142 => ?_)
            refine t_icge (t := 166) dX12_napkin_145 (by decide) (fun h145 => False.elim (by omega)) (fun h145 => ?_)
            refine r_aloadR0 dX12_napkin_148 ?_
            refine m_getR (q := (A + 1)) zf_RX12_9 rfl dX12_napkin_149 (shM_k hs) (shM_p1 hs) ?_
            refine r_iload2 dX12_napkin_152 ?_
            refine r_aloadR0 dX12_napkin_153 ?_
            refine m_getR (q := (A + 2)) zf_RX12_13 rfl dX12_napkin_154 (shM_k hs) (shM_p2 hs) ?_
            refine r_iload2 dX12_napkin_157 ?_
            refine m_iald (k := k) (x := (f2_z (A + 2) k)) dX12_napkin_158 (shM_k2 hs) (shM_n2 hs) (by omega) (by omega) (rfl) ?_
            refine m_iast (k := k) dX12_napkin_159 (shM_k1 hs) (shM_n1 hs) (by omega) (by omega) ?_
            refine n_iinc2 dX12_napkin_160 (by decide) rfl (by omega) (fun r160 e160 => ?_)
            refine r_goto (t := 141) dX12_napkin_163 (by decide) ?_
            refine ih _ (k + 1) _ (by omega) (by omega) (frM_tr ofc (frM_zr frM_rf (by decide) (by decide) (by decide))) (fun i hi_z => ?_) (by omega)
            rw [zu_s2]
            by_cases h9 : i = k
            · rw [if_pos h9, h9]; exact congrFun (ofc.2.1 2 (by decide) (by decide) (by decide)) k
            · rw [if_neg h9]; exact hz i (by omega)
          · refine r_iload2 dX12_napkin_141 ?_
            refine n_sipush dX12_napkin_142 (by decide) (fun r142 e142 => ?_)
            refine t_icge (t := 166) dX12_napkin_145 (by decide) (fun h145 => ?_) (fun h145 => False.elim (by omega))
            refine r_aloadR0 dX12_napkin_166 ?_
            refine m_getR (q := (A + 1)) zf_RX12_9 rfl dX12_napkin_167 (shM_k hs) (shM_p1 hs) ?_
            refine n_iconst dX12_napkin_170 (by decide) (fun r170 e170 => ?_)
            refine m_iald (k := 0) (x := (f2_z (A + 1) 0)) dX12_napkin_171 (shM_k1 hs) (shM_n1 hs) (by omega) (by omega) (rfl) ?_
            refine r_iret dX12_napkin_172 rfl (Nat.le_of_ble_eq_true rfl) (Nat.le_of_ble_eq_true rfl) ?_
            have hkn := tlM_cp (K2 := f2_z (A + 1)) tlc hgc4 hglw (fun k2_z hk2 => hz k2_z (by omega))
            have h0 : (f2_z (A + 1) 0).toInt = (yN.2.2.1.1 : Nat) := hkn.1.1
            subst hyN
            exact hQ hx hy0 _ f2_z h0 (frM_tr (frM_su ofy (by decide) (by decide)) (frM_su ofc (by decide) (by decide))) (by rw [ofc.2.2 4 (by decide)]; exact hy4) (by rw [ofc.2.2 6 (by decide)]; exact hy6) (by rw [ofc.2.2 14 (by decide)]; exact hy14) (by rw [ofc.2.2 15 (by decide)]; exact hy15) (tbOf_kn hkn) (tbOf_wf hn9 hgn)
      exact lcc 2913 u0 0 gy (by omega) (by omega) frM_rf (fun i hi_z => absurd hi_z (Nat.not_lt_zero i)) (by omega)
    have hgo : ∀ (gz : Nat → Nat → Int32) (v2_ : Option Value), frM A [2] [] g47 gz → (∀ i, i < 2912 → (gz (A + 2) i).toInt = 0) → zR (zV g 82 yX12_napkin 3 (some .int) (0, 0) Q QX) cX12_napkin yX12_napkin.cls 72 [some (.ref A), some (.int x), v2_] [] (zM w gz j) (0, 0) := by
      intro gz v2_ ofg hzz
      have htz : tpM B n gz A := ⟨by rw [ofg.2.2 7 (by decide)]; exact y7, hn9, fun q hq => by rw [ofg.2.1 5 (by decide) (by decide) (by decide), y5]; exact hB_z q hq, hB9⟩
      refine r_aloadR0 dX12_napkin_72 ?_
      refine q_callV0 zm_RX12_131 dX12_napkin_73 (shM_k hs) (by decide) rfl (Nat.le_of_ble_eq_true rfl) (Nat.le_of_ble_eq_true rfl) (Nat.le_of_ble_eq_true rfl) (Nat.le_of_ble_eq_true rfl) (Nat.le_of_ble_eq_true rfl) (s_X12_readsOn (p := 0) G hs htz (by rw [ofg.2.2 8 (by decide)]; exact y8) (Nat.zero_le n) (fun gA oA tA => ?_))
      have ofA : frM A [2] [4, 6, 7, 8, 9, 10, 11, 12, 13, 14, 15, 16, 17, 18] f gA := frM_tr (frM_su of47 (by decide) (by decide)) (frM_tr (frM_su ofg (by decide) (by decide)) (frM_su oA (by decide) (by decide)))
      have htp : tpM B n gA A := tpM_of htz (oA.2.1 5 (by decide) (by decide) (by decide)) (oA.2.2 7 (by decide))
      have z4 : (gA A 4).toInt = 0 := by rw [oA.2.2 4 (by decide), ofg.2.2 4 (by decide)]; exact y4
      have z6 : (gA A 6).toInt = 0 := by rw [oA.2.2 6 (by decide), ofg.2.2 6 (by decide)]; exact y6
      have dA : (gA A 16).toInt = 0 := by rw [oA.2.2 16 (by decide), ofg.2.2 16 (by decide)]; exact y16
      have pA : psM B n gA A 0 (ruE (fun q => isSp (B q)) n 0) := ⟨by rw [oA.2.2 12 (by decide), ofg.2.2 12 (by decide)]; exact y12, fun _ => tA, fun h_z => absurd rfl h_z⟩
      have tlA : tlM (gA (A + 2)) ((0, [], []), ([], [], [])) := tlM_0 (fun k hk => by rw [oA.2.1 2 (by decide) (by decide) (by decide)]; exact hzz k hk)
      have nlA : nlG n (0, ruE (fun q => isSp (B q)) n 0, ((0, [], []), ([], [], []))) := nlG_0
      have ll : ∀ (mz : Nat) (f2_z : Nat → Nat → Int32) (k : Nat) (y : Nat × Nat × zNl) (v2_ : Option Value), frM A [2] [8, 9, 10, 11, 12, 13, 16, 17, 18] gA f2_z → (f2_z A 16).toInt = 0 → psM B n f2_z A y.1 y.2.1 → (y.1 = 0 → tlM (f2_z (A + 2)) y.2.2) → nlG n y → (y.1 = 0 → n < k + y.2.1) → llP B n k y = npP B n → k < mz → zR (zV g 82 yX12_napkin 3 (some .int) (0, 0) Q QX) cX12_napkin yX12_napkin.cls 76 [some (.ref A), some (.int x), v2_] [] (zM w f2_z j) (0, 0) := by
        intro mz
        induction mz with
        | zero =>
          intro f2_z k y v2_ ofl hd2 hp2 ht3 hg2 hnk hR hmz
          exact absurd hmz (Nat.not_lt_zero _)
        | succ mz ih =>
          intro f2_z k y v2_ ofl hd2 hp2 ht3 hg2 hnk hR hmz
          by_cases hy0 : y.1 = 0
          · have hps := psM_e hp2 hy0
            have ht2 := hps.2.1 rfl
            have h10 := ht2.2.2.2.1
            have hb2 := hps.1
            have hrk := rk0 (B := B) (n := n) (s := y.2.1)
            have hgy : nlG n (0, y.2.1, y.2.2) := by rw [← hy0]; exact hg2
            have htp2 := tpM_of htp (ofl.2.1 5 (by decide) (by decide) (by decide)) (ofl.2.2 7 (by decide))
            by_cases htk : tkP B n y.2.1 = 0
            · have h10b := hrk.mpr htk
              have hyN : y = npP B n := (ll_er (B := B) (n := n) (k := k) (Or.inr htk)).symm.trans hR
              refine r_aloadR0 dX12_napkin_76 ?_
              refine m_getV (x := (f2_z A 12)) zf_RX12_112 rfl dX12_napkin_77 (shM_k hs) (rfl) ?_
              refine t_ifne (t := 97) dX12_napkin_80 (by decide) (fun h80 => False.elim (by omega)) (fun h80 => ?_)
              refine r_aloadR0 dX12_napkin_83 ?_
              refine m_getV (x := (f2_z A 10)) zf_RX12_92 rfl dX12_napkin_84 (shM_k hs) (rfl) ?_
              refine t_ifeq (t := 97) dX12_napkin_87 (by decide) (fun h87 => ?_) (fun h87 => False.elim (by omega))
              refine r_aloadR0 dX12_napkin_97 ?_
              refine r_aloadR0 dX12_napkin_98 ?_
              refine m_getV (x := (f2_z A 12)) zf_RX12_112 rfl dX12_napkin_99 (shM_k hs) (rfl) ?_
              refine m_putI zf_RX12_250 (by intro C T N h_z; cases h_z; rfl) rfl dX12_napkin_102 (shM_k hs) ?_
              obtain ⟨g102, hg102⟩ : ∃ g9, g9 = zu f2_z A 14 (f2_z A 12) := ⟨_, rfl⟩
              rw [← hg102]
              have og102 : frM A [] [14] f2_z g102 := by rw [hg102]; exact frM_zk frM_rf (by decide)
              have vg102 : g102 A 14 = (f2_z A 12) := by rw [hg102]; exact zu_at
              have vt102 : (g102 A 14).toInt = (f2_z A 12).toInt := by rw [vg102]
              refine r_aloadR0 dX12_napkin_105 ?_
              have k106 : (g102 A 12).toInt = 0 := by rw [og102.2.2 12 (by decide)]; exact hb2
              refine r_aloadR0 dX12_napkin_106 ?_
              refine m_getV (x := (g102 A 12)) zf_RX12_112 rfl dX12_napkin_107 (shM_k hs) (rfl) ?_
              refine t_ifne (t := 117) dX12_napkin_110 (by decide) (fun h110 => False.elim (by omega)) (fun h110 => ?_)
              refine n_iconst dX12_napkin_113 (by decide) (fun r113 e113_z => ?_)
              refine r_goto (t := 121) dX12_napkin_114 (by decide) ?_
              refine m_putI zf_RX12_26 (by intro C T N h_z; cases h_z; rfl) rfl dX12_napkin_121 (shM_k hs) ?_
              obtain ⟨g121, hg121⟩ : ∃ g9, g9 = zu g102 A 15 r113 := ⟨_, rfl⟩
              rw [← hg121]
              have og121 : frM A [] [15] g102 g121 := by rw [hg121]; exact frM_zk frM_rf (by decide)
              have vg121 : g121 A 15 = r113 := by rw [hg121]; exact zu_at
              have vt121 : (g121 A 15).toInt = r113.toInt := by rw [vg121]
              have k124 : (g121 A 12).toInt = 0 := by rw [og121.2.2 12 (by decide)]; exact k106
              refine r_aloadR0 dX12_napkin_124 ?_
              refine m_getV (x := (g121 A 12)) zf_RX12_112 rfl dX12_napkin_125 (shM_k hs) (rfl) ?_
              refine t_ifeq (t := 139) dX12_napkin_128 (by decide) (fun h128 => ?_) (fun h128 => False.elim (by omega))
              refine n_iconst dX12_napkin_139 (by decide) (fun r139 e139 => ?_)
              refine r_istore2 dX12_napkin_140 rfl ?_
              have ofy : frM A [2] [4, 6, 7, 8, 9, 10, 11, 12, 13, 14, 15, 16, 17, 18] f g121 := frM_tr (frM_tr (frM_su ofA (by decide) (by decide)) (frM_su ofl (by decide) (by decide))) (frM_tr (frM_su og102 (by decide) (by decide)) (frM_su og121 (by decide) (by decide)))
              refine lc g121 y hyN hy0 ofy ?_ ?_ ?_ ?_ ?_ hgy _ (by omega)
              · rw [og121.2.2 4 (by decide), og102.2.2 4 (by decide), ofl.2.2 4 (by decide)]; exact z4
              · rw [og121.2.2 6 (by decide), og102.2.2 6 (by decide), ofl.2.2 6 (by decide)]; exact z6
              · rw [og121.2.2 14 (by decide), vt102]; exact hb2
              · rw [vt121]; omega
              · rw [og121.2.1 2 (by decide) (by decide) (by decide), og102.2.1 2 (by decide) (by decide) (by decide)]; exact ht3 hy0
            · have h10b : rkP B n y.2.1 ≠ 0 := fun h_z => htk (hrk.mp h_z)
              have hln := tk_lt htk
              have hkk := hnk hy0
              obtain ⟨k2_z, rfl⟩ : ∃ k2_z, k = k2_z + 1 := ⟨k - 1, by omega⟩
              refine r_aloadR0 dX12_napkin_76 ?_
              refine m_getV (x := (f2_z A 12)) zf_RX12_112 rfl dX12_napkin_77 (shM_k hs) (rfl) ?_
              refine t_ifne (t := 97) dX12_napkin_80 (by decide) (fun h80 => False.elim (by omega)) (fun h80 => ?_)
              refine r_aloadR0 dX12_napkin_83 ?_
              refine m_getV (x := (f2_z A 10)) zf_RX12_92 rfl dX12_napkin_84 (shM_k hs) (rfl) ?_
              refine t_ifeq (t := 97) dX12_napkin_87 (by decide) (fun h87 => False.elim (by omega)) (fun h87 => ?_)
              refine r_aloadR0 dX12_napkin_90 ?_
              refine q_callV0 zm_RX12_247 dX12_napkin_91 (shM_k hs) (by decide) rfl (Nat.le_of_ble_eq_true rfl) (Nat.le_of_ble_eq_true rfl) (Nat.le_of_ble_eq_true rfl) (Nat.le_of_ble_eq_true rfl) (Nat.le_of_ble_eq_true rfl) (s_X12_readLine G hs kw hld htp2 hps hd2 hgy (ht3 hy0) (fun g91 o91 d91 p91 t91 => ?_))
              refine r_goto (t := 76) dX12_napkin_94 (by decide) ?_
              refine ih g91 k2_z (lnP B n y.2.2 y.2.1) _ (frM_tr ofl (frM_su o91 (by decide) (by decide))) d91 p91 t91 (ln_gd hn9 hgy hln) (fun h_z => ?_) ((ll_on hy0 htk).symm.trans hR) (by omega)
              have := ln_gt hln h_z
              omega
          · have hb2 : (f2_z A 12).toInt ≠ 0 := by rw [hp2.1]; omega
            have hyN : y = npP B n := (ll_er (B := B) (n := n) (k := k) (Or.inl hy0)).symm.trans hR
            have hb3 := hp2.1
            have hb4 := hp2.2.2 hy0
            have hb5 : y.1 ≤ 4 := hg2.1
            refine r_aloadR0 dX12_napkin_76 ?_
            refine m_getV (x := (f2_z A 12)) zf_RX12_112 rfl dX12_napkin_77 (shM_k hs) (rfl) ?_
            refine t_ifne (t := 97) dX12_napkin_80 (by decide) (fun h80 => ?_) (fun h80 => False.elim (by omega))
            refine r_aloadR0 dX12_napkin_97 ?_
            refine r_aloadR0 dX12_napkin_98 ?_
            refine m_getV (x := (f2_z A 12)) zf_RX12_112 rfl dX12_napkin_99 (shM_k hs) (rfl) ?_
            refine m_putI zf_RX12_250 (by intro C T N h_z; cases h_z; rfl) rfl dX12_napkin_102 (shM_k hs) ?_
            obtain ⟨g102, hg102⟩ : ∃ g9, g9 = zu f2_z A 14 (f2_z A 12) := ⟨_, rfl⟩
            rw [← hg102]
            have og102 : frM A [] [14] f2_z g102 := by rw [hg102]; exact frM_zk frM_rf (by decide)
            have vg102 : g102 A 14 = (f2_z A 12) := by rw [hg102]; exact zu_at
            have vt102 : (g102 A 14).toInt = (f2_z A 12).toInt := by rw [vg102]
            refine r_aloadR0 dX12_napkin_105 ?_
            have k106 : (g102 A 12).toInt = (y.1 : Nat) := by rw [og102.2.2 12 (by decide)]; exact hb3
            refine r_aloadR0 dX12_napkin_106 ?_
            refine m_getV (x := (g102 A 12)) zf_RX12_112 rfl dX12_napkin_107 (shM_k hs) (rfl) ?_
            refine t_ifne (t := 117) dX12_napkin_110 (by decide) (fun h110 => ?_) (fun h110 => False.elim (by omega))
            refine r_aloadR0 dX12_napkin_117 ?_
            refine m_getV (x := (g102 A 13)) zf_RX12_115 rfl dX12_napkin_118 (shM_k hs) (rfl) ?_
            refine m_putI zf_RX12_26 (by intro C T N h_z; cases h_z; rfl) rfl dX12_napkin_121 (shM_k hs) ?_
            obtain ⟨g121, hg121⟩ : ∃ g9, g9 = zu g102 A 15 (g102 A 13) := ⟨_, rfl⟩
            rw [← hg121]
            have og121 : frM A [] [15] g102 g121 := by rw [hg121]; exact frM_zk frM_rf (by decide)
            have vg121 : g121 A 15 = (g102 A 13) := by rw [hg121]; exact zu_at
            have vt121 : (g121 A 15).toInt = (g102 A 13).toInt := by rw [vg121]
            have k124 : (g121 A 12).toInt = (y.1 : Nat) := by rw [og121.2.2 12 (by decide)]; exact k106
            refine r_aloadR0 dX12_napkin_124 ?_
            refine m_getV (x := (g121 A 12)) zf_RX12_112 rfl dX12_napkin_125 (shM_k hs) (rfl) ?_
            refine t_ifeq (t := 139) dX12_napkin_128 (by decide) (fun h128 => False.elim (by omega)) (fun h128 => ?_)
            refine n_bipush dX12_napkin_131 (by decide) (fun r131 e131 => ?_)
            refine r_aloadR0 dX12_napkin_133 ?_
            refine m_getV (x := (g121 A 12)) zf_RX12_112 rfl dX12_napkin_134 (shM_k hs) (rfl) ?_
            refine n_isub dX12_napkin_137 (by omega) (fun r137 e137 => ?_)
            refine r_iret dX12_napkin_138 rfl (Nat.le_of_ble_eq_true rfl) (Nat.le_of_ble_eq_true rfl) ?_
            rw [hyN] at hb3 hb4 k124 hy0
            refine hQ2 hx hy0 _ g121 (by omega) (frM_tr (frM_tr (frM_su ofA (by decide) (by decide)) (frM_su ofl (by decide) (by decide))) (frM_tr (frM_su og102 (by decide) (by decide)) (frM_su og121 (by decide) (by decide)))) ?_ ?_ ?_ ?_
            · rw [og121.2.2 4 (by decide), og102.2.2 4 (by decide), ofl.2.2 4 (by decide)]; exact z4
            · rw [og121.2.2 6 (by decide), og102.2.2 6 (by decide), ofl.2.2 6 (by decide)]; exact z6
            · rw [og121.2.2 14 (by decide), vt102]; exact hb3
            · rw [vt121, og102.2.2 13 (by decide)]; exact hb4
      exact ll (n + 2) gA (n + 1) (0, ruE (fun q => isSp (B q)) n 0, ((0, [], []), ([], [], []))) _ frM_rf dA pA (fun _ => tlA) nlA (fun _ => Nat.lt_of_lt_of_le (Nat.lt_succ_self n) (Nat.le_add_right (n + 1) _)) rfl (Nat.lt_succ_self (n + 1))
    have lz : ∀ (mz : Nat) (u : Int32) (k : Nat) (f2_z : Nat → Nat → Int32), u.toInt = (k : Nat) → k ≤ 2912 → frM A [2] [] g47 f2_z → (∀ i, i < k → (f2_z (A + 2) i).toInt = 0) → 2912 - k < mz → zR (zV g 82 yX12_napkin 3 (some .int) (0, 0) Q QX) cX12_napkin yX12_napkin.cls 52 [some (.ref A), some (.int x), some (.int u)] [] (zM w f2_z j) (0, 0) := by
      intro mz
      induction mz with
      | zero =>
        intro u k f2_z huk hk9 ofz hz hmz
        exact absurd hmz (Nat.not_lt_zero _)
      | succ mz ih =>
        intro u k f2_z huk hk9 ofz hz hmz
        rcases Nat.lt_or_ge k 2912 with hkl | hkl
        · refine r_iload2 dX12_napkin_52 ?_
          refine n_sipush dX12_napkin_53 (by decide) (fun r53 e53 => ?_)
          refine t_icge (t := 72) dX12_napkin_56 (by decide) (fun h56 => False.elim (by omega)) (fun h56 => ?_)
          refine r_aloadR0 dX12_napkin_59 ?_
          refine m_getR (q := (A + 2)) zf_RX12_13 rfl dX12_napkin_60 (shM_k hs) (shM_p2 hs) ?_
          refine r_iload2 dX12_napkin_63 ?_
          refine n_iconst dX12_napkin_64 (by decide) (fun r64 e64 => ?_)
          refine m_iast (k := k) dX12_napkin_65 (shM_k2 hs) (shM_n2 hs) (by omega) (by omega) ?_
          refine n_iinc2 dX12_napkin_66 (by decide) rfl (by omega) (fun r66 e66 => ?_)
          refine r_goto (t := 52) dX12_napkin_69 (by decide) ?_
          refine ih _ (k + 1) _ (by omega) (by omega) (frM_tr ofz (frM_zr frM_rf (by decide) (by decide) (by decide))) (fun i hi_z => ?_) (by omega)
          rw [zu_s2]
          by_cases h9 : i = k
          · rw [if_pos h9]; omega
          · rw [if_neg h9]; exact hz i (by omega)
        · refine r_iload2 dX12_napkin_52 ?_
          refine n_sipush dX12_napkin_53 (by decide) (fun r53 e53 => ?_)
          refine t_icge (t := 72) dX12_napkin_56 (by decide) (fun h56 => ?_) (fun h56 => False.elim (by omega))
          exact hgo f2_z _ ofz (fun i hi_z => hz i (by omega))
    refine n_iconst dX12_napkin_50 (by decide) (fun r50 e50 => ?_)
    refine r_istore2 dX12_napkin_51 rfl ?_
    exact lz 2913 _ 0 g47 (by omega) (by omega) frM_rf (fun i hi_z => absurd hi_z (Nat.not_lt_zero i)) (by omega)
