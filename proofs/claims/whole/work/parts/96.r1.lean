/-! the reference reads: its tape and its token -/
def tpM (B : Nat → Nat) (n : Nat) (f : Nat → Nat → Int32) (A : Nat) : Prop := (f A 7).toInt = (n : Nat) ∧ n ≤ 900 ∧ (∀ q, q < n → (f (A + 5) q).toInt = (B q : Nat)) ∧ ∀ q, B q ≤ 255
theorem tpM_of {B : Nat → Nat} {n A : Nat} {f f2_z : Nat → Nat → Int32} (h_z : tpM B n f A) (h5 : f2_z (A + 5) = f (A + 5)) (h7 : f2_z A 7 = f A 7) : tpM B n f2_z A := ⟨by rw [h7]; exact h_z.1, h_z.2.1, by rw [h5]; exact h_z.2.2.1, h_z.2.2.2⟩
def rkP (B : Nat → Nat) (n s : Nat) : Nat := if tkP B n s = 3 then 1 else if tkP B n s = 1 then 3 else tkP B n s
def tkM (B : Nat → Nat) (n : Nat) (f : Nat → Nat → Int32) (A s : Nat) : Prop := s ≤ n ∧ (f A 8).toInt = (teP B n s : Nat) ∧ (f A 9).toInt = (s : Nat) ∧ (f A 10).toInt = (rkP B n s : Nat) ∧ (tkP B n s = 2 → (f A 11).toInt = (nmP B n s : Nat))
theorem tkM_of {B : Nat → Nat} {n A s : Nat} {f f2_z : Nat → Nat → Int32} (h_z : tkM B n f A s) (h8 : f2_z A 8 = f A 8) (h9 : f2_z A 9 = f A 9) (h10 : f2_z A 10 = f A 10) (h11 : f2_z A 11 = f A 11) : tkM B n f2_z A s := ⟨h_z.1, by rw [h8]; exact h_z.2.1, by rw [h9]; exact h_z.2.2.1, by rw [h10]; exact h_z.2.2.2.1, by rw [h11]; exact h_z.2.2.2.2⟩
theorem isDg_of {c : Nat} (h_z : 48 ≤ c ∧ c ≤ 57) : isDg c = true := decide_eq_true h_z
theorem isLt_of {c : Nat} (h_z : 97 ≤ c ∧ c ≤ 122) : isLt c = true := decide_eq_true h_z
theorem isSp_of {c : Nat} (h_z : c = 32 ∨ c = 10) : isSp c = true := decide_eq_true h_z
theorem isSp_bd {c : Nat} (h_z : isSp c = true) : c = 32 ∨ c = 10 := of_decide_eq_true h_z
theorem isDg_no {c : Nat} (h_z : ¬ (48 ≤ c ∧ c ≤ 57)) : ¬ isDg c = true := fun h2 => h_z (isDg_bd h2)
theorem isLt_no {c : Nat} (h_z : ¬ (97 ≤ c ∧ c ≤ 122)) : ¬ isLt c = true := fun h2 => h_z (isLt_bd h2)
theorem isSg_of {c : Nat} (h_z : c = 59 ∨ c = 58 ∨ c = 43 ∨ c = 45 ∨ c = 42 ∨ c = 40 ∨ c = 41 ∨ c = 91 ∨ c = 93 ∨ c = 61 ∨ c = 60 ∨ c = 62) : isSg c = true := decide_eq_true (by simp only [List.mem_cons, List.not_mem_nil, or_false]; exact h_z)
theorem isSg_ca {c : Nat} (h_z : isSg c = true) : c = 59 ∨ c = 58 ∨ c = 43 ∨ c = 45 ∨ c = 42 ∨ c = 40 ∨ c = 41 ∨ c = 91 ∨ c = 93 ∨ c = 61 ∨ c = 60 ∨ c = 62 := by
  have h1 := isSg_mem h_z
  simp only [List.mem_cons, List.not_mem_nil, or_false] at h1
  exact h1
theorem tk_end {B : Nat → Nat} {n s : Nat} (h_z : n ≤ s) : tkP B n s = 0 ∧ rkP B n s = 0 ∧ teP B n s = s := by
  have h1 : tkP B n s = 0 := tk0.mpr h_z
  refine ⟨h1, ?_, if_pos h_z⟩
  unfold rkP
  rw [h1, if_neg (by decide), if_neg (by decide)]
theorem tk_let {B : Nat → Nat} {n s : Nat} (h_z : s < n) (hd_z : ¬ isDg (B s) = true) (hl : isLt (B s) = true) : tkP B n s = 3 ∧ rkP B n s = 1 ∧ teP B n s = ruE (fun q => isLt (B q)) n s := by
  have h1 : tkP B n s = 3 := by
    unfold tkP
    rw [if_neg (by omega), if_neg hd_z, if_pos hl]
  refine ⟨h1, ?_, ?_⟩
  · unfold rkP
    rw [if_pos h1]
  · unfold teP
    rw [if_neg (by omega), if_neg hd_z, if_pos hl]
theorem tk_dig {B : Nat → Nat} {n s : Nat} (h_z : s < n) (hd_z : isDg (B s) = true) : teP B n s = ruE (fun q => isDg (B q)) n s ∧ (3 < teP B n s - s → tkP B n s = 1 ∧ rkP B n s = 3) ∧ (¬ 3 < teP B n s - s → tkP B n s = 2 ∧ rkP B n s = 2) := by
  have h0 : ∀ k, tkP B n s = k → tkP B n s = k := fun _ h_z => h_z
  have h1 : tkP B n s = if 3 < teP B n s - s then 1 else 2 := by
    unfold tkP
    rw [if_neg (by omega), if_pos hd_z]
  refine ⟨?_, fun h2 => ?_, fun h2 => ?_⟩
  · unfold teP
    rw [if_neg (by omega), if_pos hd_z]
  · rw [if_pos h2] at h1
    refine ⟨h1, ?_⟩
    unfold rkP
    rw [h1, if_neg (by decide), if_pos rfl]
  · rw [if_neg h2] at h1
    refine ⟨h1, ?_⟩
    unfold rkP
    rw [h1, if_neg (by decide), if_neg (by decide)]
theorem tk_sig {B : Nat → Nat} {n s : Nat} (h_z : s < n) (hd_z : ¬ isDg (B s) = true) (hl : ¬ isLt (B s) = true) : teP B n s = s + 1 ∧ (isSg (B s) = true → tkP B n s = B s ∧ rkP B n s = B s) ∧ (¬ isSg (B s) = true → tkP B n s = 1 ∧ rkP B n s = 3) := by
  have h1 : tkP B n s = if isSg (B s) = true then B s else 1 := by
    unfold tkP
    rw [if_neg (by omega), if_neg hd_z, if_neg hl]
  refine ⟨?_, fun h2 => ?_, fun h2 => ?_⟩
  · unfold teP
    rw [if_neg (by omega), if_neg hd_z, if_neg hl]
  · rw [if_pos h2] at h1
    have h3 := isSg_bd h2
    refine ⟨h1, ?_⟩
    unfold rkP
    rw [h1, if_neg (by omega), if_neg (by omega)]
  · rw [if_neg h2] at h1
    refine ⟨h1, ?_⟩
    unfold rkP
    rw [h1, if_neg (by decide), if_pos rfl]
set_option maxHeartbeats 4000000 in
set_option maxRecDepth 100000 in
theorem s_X12_readsOn {g : zGT} {w : zW} {f : Nat → Nat → Int32} {j : Nat → Nat → Int64} {A : Nat} {B : Nat → Nat} {n : Nat} {p : Nat} {Q : Option Value → zW → Prop} {QX : String → zW → Prop} (G : zGok g) (hs : shM w A) (ht : tpM B n f A) (hp : (f A 8).toInt = (p : Nat)) (hpn : p ≤ n) (hQ : ∀ f2_z, frM A [] [8, 9, 10, 11] f f2_z → tkM B n f2_z A (ruE (fun q => isSp (B q)) n p) → Q none (zM w f2_z j)) : zC g 3 yX12_readsOn cX12_readsOn 2 none [.ref A] (zM w f j) (0, 0) Q QX := by
  refine zC_of G (by decide +kernel) (Nat.le_of_ble_eq_true rfl) ?_
  obtain ⟨s, hs0⟩ : ∃ s, s = ruE (fun q => isSp (B q)) n p := ⟨_, rfl⟩
  rw [← hs0] at hQ
  have hsn : s ≤ n := by rw [hs0]; exact ruE_le hpn
  have h900 := ht.2.1
  have h255 := ht.2.2.2
  have l3 : s < n → ¬ isDg (B s) = true → isLt (B s) = true → ∀ (mz : Nat) (f2_z : Nat → Nat → Int32) (k : Nat) (v1_ : Option Value), s ≤ k → k ≤ n → (f2_z A 8).toInt = (k : Nat) → (f2_z A 9).toInt = (s : Nat) → frM A [] [8, 9] f f2_z → (∀ q, s ≤ q → q < k → q < n ∧ isLt (B q) = true) → n - k < mz → zR (zV g 3 yX12_readsOn 2 none (0, 0) Q QX) cX12_readsOn yX12_readsOn.cls 94 [some (.ref A), v1_] [] (zM w f2_z j) (0, 0) := by
    intro hsl hcd hcl
    intro mz
    induction mz with
    | zero =>
      intro f2_z k v1_ hsk hkl h8k h9k ofr hin hmz
      exact absurd hmz (Nat.not_lt_zero _)
    | succ mz ih =>
      intro f2_z k v1_ hsk hkl h8k h9k ofr hin hmz
      have ht2 := tpM_of ht (ofr.2.1 5 (by decide) (by decide) (by decide)) (ofr.2.2 7 (by decide))
      have h7 := ht2.1
      have hTT := ht2.2.2.1
      rcases Nat.lt_or_ge k n with hkn | hkn
      · have hB_z := hTT k hkn
        by_cases hc_z : 97 ≤ B k ∧ B k ≤ 122
        · refine r_aloadR0 dX12_readsOn_94 ?_
          refine r_aloadR0 dX12_readsOn_95 ?_
          refine m_getV (x := (f2_z A 8)) zf_RX12_86 rfl dX12_readsOn_96 (shM_k hs) (rfl) ?_
          refine q_callV1 zm_RX12_99 dX12_readsOn_99 (shM_k hs) (by decide) rfl (Nat.le_of_ble_eq_true rfl) (Nat.le_of_ble_eq_true rfl) (Nat.le_of_ble_eq_true rfl) (Nat.le_of_ble_eq_true rfl) (Nat.le_of_ble_eq_true rfl) (s_X12_see (k := k) G hs (by omega) (by omega) (fun r99 h99 => ?_))
          have b99 : r99.toInt = (B k : Nat) := by
            rcases h99 with h_z | h_z
            · rw [h_z.2]; exact hB_z
            · omega
          refine q_callS1 zm_RX12_95 dX12_readsOn_102 (Nat.le_of_ble_eq_true rfl) (Nat.le_of_ble_eq_true rfl) (Nat.le_of_ble_eq_true rfl) (Nat.le_of_ble_eq_true rfl) (Nat.le_of_ble_eq_true rfl) (s_X12_isLetter G (fun r102 h102 => ?_))
          refine t_ifeq (t := 121) dX12_readsOn_105 (by decide) (fun h105 => False.elim (by omega)) (fun h105 => ?_)
          refine r_aloadR0 dX12_readsOn_108 ?_
          refine r_dup dX12_readsOn_109 rfl ?_
          refine m_getV (x := (f2_z A 8)) zf_RX12_86 rfl dX12_readsOn_110 (shM_k hs) (rfl) ?_
          refine n_iconst dX12_readsOn_113 (by decide) (fun r113 e113_z => ?_)
          refine n_iadd dX12_readsOn_114 (by omega) (fun r114 e114_z => ?_)
          refine m_putI zf_RX12_86 (by intro C T N h_z; cases h_z; rfl) rfl dX12_readsOn_115 (shM_k hs) ?_
          obtain ⟨g115, hg115⟩ : ∃ g9, g9 = zu f2_z A 8 r114 := ⟨_, rfl⟩
          rw [← hg115]
          have og115 : frM A [] [8] f2_z g115 := by rw [hg115]; exact frM_zk frM_rf (by decide)
          have vg115 : g115 A 8 = r114 := by rw [hg115]; exact zu_at
          have vt115 : (g115 A 8).toInt = r114.toInt := by rw [vg115]
          refine r_goto (t := 94) dX12_readsOn_118 (by decide) ?_
          refine ih _ (k + 1) _ (by omega) (by omega) (by omega) (by rw [og115.2.2 9 (by decide)]; exact h9k) (frM_tr ofr (frM_su og115 (by decide) (by decide))) (fun q h1 h2 => ?_) (by omega)
          rcases Nat.lt_or_ge q k with h3 | h3
          · exact hin q h1 h3
          · rw [show q = k by omega]; exact ⟨hkn, isLt_of hc_z⟩
        · refine r_aloadR0 dX12_readsOn_94 ?_
          refine r_aloadR0 dX12_readsOn_95 ?_
          refine m_getV (x := (f2_z A 8)) zf_RX12_86 rfl dX12_readsOn_96 (shM_k hs) (rfl) ?_
          refine q_callV1 zm_RX12_99 dX12_readsOn_99 (shM_k hs) (by decide) rfl (Nat.le_of_ble_eq_true rfl) (Nat.le_of_ble_eq_true rfl) (Nat.le_of_ble_eq_true rfl) (Nat.le_of_ble_eq_true rfl) (Nat.le_of_ble_eq_true rfl) (s_X12_see (k := k) G hs (by omega) (by omega) (fun r99 h99 => ?_))
          have b99 : r99.toInt = (B k : Nat) := by
            rcases h99 with h_z | h_z
            · rw [h_z.2]; exact hB_z
            · omega
          refine q_callS1 zm_RX12_95 dX12_readsOn_102 (Nat.le_of_ble_eq_true rfl) (Nat.le_of_ble_eq_true rfl) (Nat.le_of_ble_eq_true rfl) (Nat.le_of_ble_eq_true rfl) (Nat.le_of_ble_eq_true rfl) (s_X12_isLetter G (fun r102 h102 => ?_))
          refine t_ifeq (t := 121) dX12_readsOn_105 (by decide) (fun h105 => ?_) (fun h105 => False.elim (by omega))
          refine r_aloadR0 dX12_readsOn_121 ?_
          refine n_iconst dX12_readsOn_122 (by decide) (fun r122 e122_z => ?_)
          refine m_putI zf_RX12_92 (by intro C T N h_z; cases h_z; rfl) rfl dX12_readsOn_123 (shM_k hs) ?_
          obtain ⟨g123, hg123⟩ : ∃ g9, g9 = zu f2_z A 10 r122 := ⟨_, rfl⟩
          rw [← hg123]
          have og123 : frM A [] [10] f2_z g123 := by rw [hg123]; exact frM_zk frM_rf (by decide)
          have vg123 : g123 A 10 = r122 := by rw [hg123]; exact zu_at
          have vt123 : (g123 A 10).toInt = r122.toInt := by rw [vg123]
          refine r_goto (t := 263) dX12_readsOn_126 (by decide) ?_
          refine r_vret dX12_readsOn_263 rfl (Nat.le_of_ble_eq_true rfl) (Nat.le_of_ble_eq_true rfl) ?_
          have hte : k = teP B n s := by
            rw [(tk_let hsl hcd hcl).2.2]
            exact (ruE_eq hsk hin (fun h_z => isLt_no hc_z h_z.2)).symm
          have htk := tk_let hsl hcd hcl
          refine hQ _ (frM_tr (frM_su ofr (by decide) (by decide)) (frM_su og123 (by decide) (by decide))) ⟨hsn, by rw [og123.2.2 8 (by decide)]; omega, by rw [og123.2.2 9 (by decide)]; exact h9k, by rw [vt123, htk.2.1]; omega, fun e => absurd e (by rw [htk.1]; decide)⟩
      · refine r_aloadR0 dX12_readsOn_94 ?_
        refine r_aloadR0 dX12_readsOn_95 ?_
        refine m_getV (x := (f2_z A 8)) zf_RX12_86 rfl dX12_readsOn_96 (shM_k hs) (rfl) ?_
        refine q_callV1 zm_RX12_99 dX12_readsOn_99 (shM_k hs) (by decide) rfl (Nat.le_of_ble_eq_true rfl) (Nat.le_of_ble_eq_true rfl) (Nat.le_of_ble_eq_true rfl) (Nat.le_of_ble_eq_true rfl) (Nat.le_of_ble_eq_true rfl) (s_X12_see (k := k) G hs (by omega) (by omega) (fun r99 h99 => ?_))
        have b99 : r99.toInt = 0 := by
          rcases h99 with h_z | h_z
          · omega
          · exact h_z.2
        refine q_callS1 zm_RX12_95 dX12_readsOn_102 (Nat.le_of_ble_eq_true rfl) (Nat.le_of_ble_eq_true rfl) (Nat.le_of_ble_eq_true rfl) (Nat.le_of_ble_eq_true rfl) (Nat.le_of_ble_eq_true rfl) (s_X12_isLetter G (fun r102 h102 => ?_))
        refine t_ifeq (t := 121) dX12_readsOn_105 (by decide) (fun h105 => ?_) (fun h105 => False.elim (by omega))
        refine r_aloadR0 dX12_readsOn_121 ?_
        refine n_iconst dX12_readsOn_122 (by decide) (fun r122 e122_z => ?_)
        refine m_putI zf_RX12_92 (by intro C T N h_z; cases h_z; rfl) rfl dX12_readsOn_123 (shM_k hs) ?_
        obtain ⟨g123, hg123⟩ : ∃ g9, g9 = zu f2_z A 10 r122 := ⟨_, rfl⟩
        rw [← hg123]
        have og123 : frM A [] [10] f2_z g123 := by rw [hg123]; exact frM_zk frM_rf (by decide)
        have vg123 : g123 A 10 = r122 := by rw [hg123]; exact zu_at
        have vt123 : (g123 A 10).toInt = r122.toInt := by rw [vg123]
        refine r_goto (t := 263) dX12_readsOn_126 (by decide) ?_
        refine r_vret dX12_readsOn_263 rfl (Nat.le_of_ble_eq_true rfl) (Nat.le_of_ble_eq_true rfl) ?_
        have hte : k = teP B n s := by
          rw [(tk_let hsl hcd hcl).2.2]
          exact (ruE_eq hsk hin (fun h_z => absurd h_z.1 (by omega))).symm
        have htk := tk_let hsl hcd hcl
        refine hQ _ (frM_tr (frM_su ofr (by decide) (by decide)) (frM_su og123 (by decide) (by decide))) ⟨hsn, by rw [og123.2.2 8 (by decide)]; omega, by rw [og123.2.2 9 (by decide)]; exact h9k, by rw [vt123, htk.2.1]; omega, fun e => absurd e (by rw [htk.1]; decide)⟩
  have l4 : s < n → isDg (B s) = true → ∀ (mz : Nat) (f2_z : Nat → Nat → Int32) (k : Nat) (v1_ : Option Value), s ≤ k → k ≤ n → (f2_z A 8).toInt = (k : Nat) → (f2_z A 9).toInt = (s : Nat) → frM A [] [8, 9, 11] f f2_z → (∀ q, s ≤ q → q < k → q < n ∧ isDg (B q) = true) → (k - s ≤ 3 → (f2_z A 11).toInt = (dgV B s (k - s) : Nat)) → n - k < mz → zR (zV g 3 yX12_readsOn 2 none (0, 0) Q QX) cX12_readsOn yX12_readsOn.cls 141 [some (.ref A), v1_] [] (zM w f2_z j) (0, 0) := by
    intro hsl hcd
    intro mz
    induction mz with
    | zero =>
      intro f2_z k v1_ hsk hkl h8k h9k ofr hin hv hmz
      exact absurd hmz (Nat.not_lt_zero _)
    | succ mz ih =>
      intro f2_z k v1_ hsk hkl h8k h9k ofr hin hv hmz
      have ht2 := tpM_of ht (ofr.2.1 5 (by decide) (by decide) (by decide)) (ofr.2.2 7 (by decide))
      have h7 := ht2.1
      have hTT := ht2.2.2.1
      rcases Nat.lt_or_ge k n with hkn | hkn
      · have hB_z := hTT k hkn
        by_cases hc_z : 48 ≤ B k ∧ B k ≤ 57
        · have hdv : k - s ≤ 2 → dgV B s (k - s) ≤ 99 := by
            intro h3
            have h4 := dgV_bd (B := B) (s := s) (k - s) (fun q h5 h6 => (hin q h5 (by omega)).2)
            have h5 : 10 ^ (k - s) ≤ 10 ^ 2 := Nat.pow_le_pow_right (by decide) h3
            have h6 : (10 : Nat) ^ 2 = 100 := by decide
            omega
          have hst : dgV B s (k + 1 - s) = 10 * dgV B s (k - s) + (B k - 48) := by
            rw [show k + 1 - s = (k - s) + 1 by omega]
            show 10 * dgV B s (k - s) + (B (s + (k - s)) - 48) = _
            rw [show s + (k - s) = k by omega]
          rcases Nat.lt_or_ge (k - s) 3 with h3 | h3
          · refine r_aloadR0 dX12_readsOn_141 ?_
            refine r_aloadR0 dX12_readsOn_142 ?_
            refine m_getV (x := (f2_z A 8)) zf_RX12_86 rfl dX12_readsOn_143 (shM_k hs) (rfl) ?_
            refine q_callV1 zm_RX12_99 dX12_readsOn_146 (shM_k hs) (by decide) rfl (Nat.le_of_ble_eq_true rfl) (Nat.le_of_ble_eq_true rfl) (Nat.le_of_ble_eq_true rfl) (Nat.le_of_ble_eq_true rfl) (Nat.le_of_ble_eq_true rfl) (s_X12_see (k := k) G hs (by omega) (by omega) (fun r146 h146 => ?_))
            have b146 : r146.toInt = (B k : Nat) := by
              rcases h146 with h_z | h_z
              · rw [h_z.2]; exact hB_z
              · omega
            have hv3 := hv (by omega)
            have hd3 := hdv (by omega)
            refine q_callS1 zm_RX12_103 dX12_readsOn_149 (Nat.le_of_ble_eq_true rfl) (Nat.le_of_ble_eq_true rfl) (Nat.le_of_ble_eq_true rfl) (Nat.le_of_ble_eq_true rfl) (Nat.le_of_ble_eq_true rfl) (s_X12_isDigit G (fun r149 h149 => ?_))
            refine t_ifeq (t := 212) dX12_readsOn_152 (by decide) (fun h152 => False.elim (by omega)) (fun h152 => ?_)
            refine r_aloadR0 dX12_readsOn_155 ?_
            refine r_aloadR0 dX12_readsOn_156 ?_
            refine m_getV (x := (f2_z A 8)) zf_RX12_86 rfl dX12_readsOn_157 (shM_k hs) (rfl) ?_
            refine r_aloadR0 dX12_readsOn_160 ?_
            refine m_getV (x := (f2_z A 9)) zf_RX12_89 rfl dX12_readsOn_161 (shM_k hs) (rfl) ?_
            refine n_isub dX12_readsOn_164 (by omega) (fun r164 e164 => ?_)
            refine n_iconst dX12_readsOn_165 (by decide) (fun r165 e165 => ?_)
            refine t_icge (t := 192) dX12_readsOn_166 (by decide) (fun h166 => False.elim (by omega)) (fun h166 => ?_)
            refine n_bipush dX12_readsOn_169 (by decide) (fun r169 e169 => ?_)
            refine r_aloadR0 dX12_readsOn_171 ?_
            refine m_getV (x := (f2_z A 11)) zf_RX12_106 rfl dX12_readsOn_172 (shM_k hs) (rfl) ?_
            refine n_imulc dX12_readsOn_175 e169 (by omega) (fun r175 e175 => ?_)
            refine r_aloadR0 dX12_readsOn_176 ?_
            refine m_getR (q := (A + 5)) zf_RX12_23 rfl dX12_readsOn_177 (shM_k hs) (shM_p5 hs) ?_
            refine r_aloadR0 dX12_readsOn_180 ?_
            refine m_getV (x := (f2_z A 8)) zf_RX12_86 rfl dX12_readsOn_181 (shM_k hs) (rfl) ?_
            refine m_iald (k := k) (x := (f2_z (A + 5) k)) dX12_readsOn_184 (shM_k5 hs) (shM_n5 hs) (by omega) (by omega) (rfl) ?_
            refine n_iadd dX12_readsOn_185 (by omega) (fun r185 e185 => ?_)
            refine n_bipush dX12_readsOn_186 (by decide) (fun r186 e186 => ?_)
            refine n_isub dX12_readsOn_188 (by omega) (fun r188 e188 => ?_)
            refine r_goto (t := 196) dX12_readsOn_189 (by decide) ?_
            refine m_putI zf_RX12_106 (by intro C T N h_z; cases h_z; rfl) rfl dX12_readsOn_196 (shM_k hs) ?_
            obtain ⟨g196, hg196⟩ : ∃ g9, g9 = zu f2_z A 11 r188 := ⟨_, rfl⟩
            rw [← hg196]
            have og196 : frM A [] [11] f2_z g196 := by rw [hg196]; exact frM_zk frM_rf (by decide)
            have vg196 : g196 A 11 = r188 := by rw [hg196]; exact zu_at
            have vt196 : (g196 A 11).toInt = r188.toInt := by rw [vg196]
            have w8 : (g196 A 8).toInt = (k : Nat) := by rw [og196.2.2 8 (by decide)]; exact h8k
            refine r_aloadR0 dX12_readsOn_199 ?_
            refine r_dup dX12_readsOn_200 rfl ?_
            refine m_getV (x := (g196 A 8)) zf_RX12_86 rfl dX12_readsOn_201 (shM_k hs) (rfl) ?_
            refine n_iconst dX12_readsOn_204 (by decide) (fun r204 e204 => ?_)
            refine n_iadd dX12_readsOn_205 (by omega) (fun r205 e205 => ?_)
            refine m_putI zf_RX12_86 (by intro C T N h_z; cases h_z; rfl) rfl dX12_readsOn_206 (shM_k hs) ?_
            obtain ⟨g206, hg206⟩ : ∃ g9, g9 = zu g196 A 8 r205 := ⟨_, rfl⟩
            rw [← hg206]
            have og206 : frM A [] [8] g196 g206 := by rw [hg206]; exact frM_zk frM_rf (by decide)
            have vg206 : g206 A 8 = r205 := by rw [hg206]; exact zu_at
            have vt206 : (g206 A 8).toInt = r205.toInt := by rw [vg206]
            refine r_goto (t := 141) dX12_readsOn_209 (by decide) ?_
            refine ih _ (k + 1) _ (by omega) (by omega) (by rw [vt206]; omega) (by rw [og206.2.2 9 (by decide), og196.2.2 9 (by decide)]; exact h9k) (frM_tr (frM_tr ofr (frM_su og196 (by decide) (by decide))) (frM_su og206 (by decide) (by decide))) (fun q h1 h2 => ?_) (fun h1 => ?_) (by omega)
            · rcases Nat.lt_or_ge q k with h4 | h4
              · exact hin q h1 h4
              · rw [show q = k by omega]; exact ⟨hkn, isDg_of hc_z⟩
            · rw [og206.2.2 11 (by decide), vt196, hst]; omega
          · refine r_aloadR0 dX12_readsOn_141 ?_
            refine r_aloadR0 dX12_readsOn_142 ?_
            refine m_getV (x := (f2_z A 8)) zf_RX12_86 rfl dX12_readsOn_143 (shM_k hs) (rfl) ?_
            refine q_callV1 zm_RX12_99 dX12_readsOn_146 (shM_k hs) (by decide) rfl (Nat.le_of_ble_eq_true rfl) (Nat.le_of_ble_eq_true rfl) (Nat.le_of_ble_eq_true rfl) (Nat.le_of_ble_eq_true rfl) (Nat.le_of_ble_eq_true rfl) (s_X12_see (k := k) G hs (by omega) (by omega) (fun r146 h146 => ?_))
            have b146 : r146.toInt = (B k : Nat) := by
              rcases h146 with h_z | h_z
              · rw [h_z.2]; exact hB_z
              · omega
            refine q_callS1 zm_RX12_103 dX12_readsOn_149 (Nat.le_of_ble_eq_true rfl) (Nat.le_of_ble_eq_true rfl) (Nat.le_of_ble_eq_true rfl) (Nat.le_of_ble_eq_true rfl) (Nat.le_of_ble_eq_true rfl) (s_X12_isDigit G (fun r149 h149 => ?_))
            refine t_ifeq (t := 212) dX12_readsOn_152 (by decide) (fun h152 => False.elim (by omega)) (fun h152 => ?_)
            refine r_aloadR0 dX12_readsOn_155 ?_
            refine r_aloadR0 dX12_readsOn_156 ?_
            refine m_getV (x := (f2_z A 8)) zf_RX12_86 rfl dX12_readsOn_157 (shM_k hs) (rfl) ?_
            refine r_aloadR0 dX12_readsOn_160 ?_
            refine m_getV (x := (f2_z A 9)) zf_RX12_89 rfl dX12_readsOn_161 (shM_k hs) (rfl) ?_
            refine n_isub dX12_readsOn_164 (by omega) (fun r164 e164 => ?_)
            refine n_iconst dX12_readsOn_165 (by decide) (fun r165 e165 => ?_)
            refine t_icge (t := 192) dX12_readsOn_166 (by decide) (fun h166 => ?_) (fun h166 => False.elim (by omega))
            refine r_aloadR0 dX12_readsOn_192 ?_
            refine m_getV (x := (f2_z A 11)) zf_RX12_106 rfl dX12_readsOn_193 (shM_k hs) (rfl) ?_
            refine m_putI zf_RX12_106 (by intro C T N h_z; cases h_z; rfl) rfl dX12_readsOn_196 (shM_k hs) ?_
            obtain ⟨g196, hg196⟩ : ∃ g9, g9 = zu f2_z A 11 (f2_z A 11) := ⟨_, rfl⟩
            rw [← hg196]
            have og196 : frM A [] [11] f2_z g196 := by rw [hg196]; exact frM_zk frM_rf (by decide)
            have vg196 : g196 A 11 = (f2_z A 11) := by rw [hg196]; exact zu_at
            have vt196 : (g196 A 11).toInt = (f2_z A 11).toInt := by rw [vg196]
            have w8 : (g196 A 8).toInt = (k : Nat) := by rw [og196.2.2 8 (by decide)]; exact h8k
            refine r_aloadR0 dX12_readsOn_199 ?_
            refine r_dup dX12_readsOn_200 rfl ?_
            refine m_getV (x := (g196 A 8)) zf_RX12_86 rfl dX12_readsOn_201 (shM_k hs) (rfl) ?_
            refine n_iconst dX12_readsOn_204 (by decide) (fun r204 e204 => ?_)
            refine n_iadd dX12_readsOn_205 (by omega) (fun r205 e205 => ?_)
            refine m_putI zf_RX12_86 (by intro C T N h_z; cases h_z; rfl) rfl dX12_readsOn_206 (shM_k hs) ?_
            obtain ⟨g206, hg206⟩ : ∃ g9, g9 = zu g196 A 8 r205 := ⟨_, rfl⟩
            rw [← hg206]
            have og206 : frM A [] [8] g196 g206 := by rw [hg206]; exact frM_zk frM_rf (by decide)
            have vg206 : g206 A 8 = r205 := by rw [hg206]; exact zu_at
            have vt206 : (g206 A 8).toInt = r205.toInt := by rw [vg206]
            refine r_goto (t := 141) dX12_readsOn_209 (by decide) ?_
            refine ih _ (k + 1) _ (by omega) (by omega) (by rw [vt206]; omega) (by rw [og206.2.2 9 (by decide), og196.2.2 9 (by decide)]; exact h9k) (frM_tr (frM_tr ofr (frM_su og196 (by decide) (by decide))) (frM_su og206 (by decide) (by decide))) (fun q h1 h2 => ?_) (fun h1 => ?_) (by omega)
            · rcases Nat.lt_or_ge q k with h4 | h4
              · exact hin q h1 h4
              · rw [show q = k by omega]; exact ⟨hkn, isDg_of hc_z⟩
            · omega
        · refine r_aloadR0 dX12_readsOn_141 ?_
          refine r_aloadR0 dX12_readsOn_142 ?_
          refine m_getV (x := (f2_z A 8)) zf_RX12_86 rfl dX12_readsOn_143 (shM_k hs) (rfl) ?_
          refine q_callV1 zm_RX12_99 dX12_readsOn_146 (shM_k hs) (by decide) rfl (Nat.le_of_ble_eq_true rfl) (Nat.le_of_ble_eq_true rfl) (Nat.le_of_ble_eq_true rfl) (Nat.le_of_ble_eq_true rfl) (Nat.le_of_ble_eq_true rfl) (s_X12_see (k := k) G hs (by omega) (by omega) (fun r146 h146 => ?_))
          have b146 : r146.toInt = (B k : Nat) := by
            rcases h146 with h_z | h_z
            · rw [h_z.2]; exact hB_z
            · omega
          refine q_callS1 zm_RX12_103 dX12_readsOn_149 (Nat.le_of_ble_eq_true rfl) (Nat.le_of_ble_eq_true rfl) (Nat.le_of_ble_eq_true rfl) (Nat.le_of_ble_eq_true rfl) (Nat.le_of_ble_eq_true rfl) (s_X12_isDigit G (fun r149 h149 => ?_))
          refine t_ifeq (t := 212) dX12_readsOn_152 (by decide) (fun h152 => ?_) (fun h152 => False.elim (by omega))
          refine r_aloadR0 dX12_readsOn_212 ?_
          refine r_aloadR0 dX12_readsOn_213 ?_
          refine m_getV (x := (f2_z A 8)) zf_RX12_86 rfl dX12_readsOn_214 (shM_k hs) (rfl) ?_
          refine r_aloadR0 dX12_readsOn_217 ?_
          refine m_getV (x := (f2_z A 9)) zf_RX12_89 rfl dX12_readsOn_218 (shM_k hs) (rfl) ?_
          refine n_isub dX12_readsOn_221 (by omega) (fun r221 e221 => ?_)
          refine n_iconst dX12_readsOn_222 (by decide) (fun r222 e222 => ?_)
          refine t_icle (t := 230) dX12_readsOn_223 (by decide) (fun h223 => ?_) (fun h223 => ?_)
          · refine n_iconst dX12_readsOn_230 (by decide) (fun r230 e230 => ?_)
            refine m_putI zf_RX12_92 (by intro C T N h_z; cases h_z; rfl) rfl dX12_readsOn_231 (shM_k hs) ?_
            obtain ⟨g231, hg231⟩ : ∃ g9, g9 = zu f2_z A 10 r230 := ⟨_, rfl⟩
            rw [← hg231]
            have og231 : frM A [] [10] f2_z g231 := by rw [hg231]; exact frM_zk frM_rf (by decide)
            have vg231 : g231 A 10 = r230 := by rw [hg231]; exact zu_at
            have vt231 : (g231 A 10).toInt = r230.toInt := by rw [vg231]
            refine r_goto (t := 263) dX12_readsOn_234 (by decide) ?_
            refine r_vret dX12_readsOn_263 rfl (Nat.le_of_ble_eq_true rfl) (Nat.le_of_ble_eq_true rfl) ?_
            have hte : k = teP B n s := by
              rw [(tk_dig hsl hcd).1]
              exact (ruE_eq hsk hin (fun h_z => isDg_no hc_z h_z.2)).symm
            have htk := tk_dig hsl hcd
            rw [← hte] at htk
            refine hQ _ (frM_tr (frM_su ofr (by decide) (by decide)) (frM_su og231 (by decide) (by decide))) ⟨hsn, by rw [og231.2.2 8 (by decide)]; omega, by rw [og231.2.2 9 (by decide)]; exact h9k, ?_, fun e => ?_⟩
            · rw [vt231]
              rcases Nat.lt_or_ge 3 (k - s) with h3 | h3
              · rw [(htk.2.1 h3).2]; omega
              · rw [(htk.2.2 (by omega)).2]; omega
            · rw [og231.2.2 11 (by decide)]
              have h3 := (tk2 e).2.2
              unfold nmP
              rw [← hte] at h3 ⊢
              exact hv h3
          · refine n_iconst dX12_readsOn_226 (by decide) (fun r226 e226 => ?_)
            refine r_goto (t := 231) dX12_readsOn_227 (by decide) ?_
            refine m_putI zf_RX12_92 (by intro C T N h_z; cases h_z; rfl) rfl dX12_readsOn_231 (shM_k hs) ?_
            obtain ⟨g231, hg231⟩ : ∃ g9, g9 = zu f2_z A 10 r226 := ⟨_, rfl⟩
            rw [← hg231]
            have og231 : frM A [] [10] f2_z g231 := by rw [hg231]; exact frM_zk frM_rf (by decide)
            have vg231 : g231 A 10 = r226 := by rw [hg231]; exact zu_at
            have vt231 : (g231 A 10).toInt = r226.toInt := by rw [vg231]
            refine r_goto (t := 263) dX12_readsOn_234 (by decide) ?_
            refine r_vret dX12_readsOn_263 rfl (Nat.le_of_ble_eq_true rfl) (Nat.le_of_ble_eq_true rfl) ?_
            have hte : k = teP B n s := by
              rw [(tk_dig hsl hcd).1]
              exact (ruE_eq hsk hin (fun h_z => isDg_no hc_z h_z.2)).symm
            have htk := tk_dig hsl hcd
            rw [← hte] at htk
            refine hQ _ (frM_tr (frM_su ofr (by decide) (by decide)) (frM_su og231 (by decide) (by decide))) ⟨hsn, by rw [og231.2.2 8 (by decide)]; omega, by rw [og231.2.2 9 (by decide)]; exact h9k, ?_, fun e => ?_⟩
            · rw [vt231]
              rcases Nat.lt_or_ge 3 (k - s) with h3 | h3
              · rw [(htk.2.1 h3).2]; omega
              · rw [(htk.2.2 (by omega)).2]; omega
            · rw [og231.2.2 11 (by decide)]
              have h3 := (tk2 e).2.2
              unfold nmP
              rw [← hte] at h3 ⊢
              exact hv h3
      · refine r_aloadR0 dX12_readsOn_141 ?_
        refine r_aloadR0 dX12_readsOn_142 ?_
        refine m_getV (x := (f2_z A 8)) zf_RX12_86 rfl dX12_readsOn_143 (shM_k hs) (rfl) ?_
        refine q_callV1 zm_RX12_99 dX12_readsOn_146 (shM_k hs) (by decide) rfl (Nat.le_of_ble_eq_true rfl) (Nat.le_of_ble_eq_true rfl) (Nat.le_of_ble_eq_true rfl) (Nat.le_of_ble_eq_true rfl) (Nat.le_of_ble_eq_true rfl) (s_X12_see (k := k) G hs (by omega) (by omega) (fun r146 h146 => ?_))
        have b146 : r146.toInt = 0 := by
          rcases h146 with h_z | h_z
          · omega
          · exact h_z.2
        refine q_callS1 zm_RX12_103 dX12_readsOn_149 (Nat.le_of_ble_eq_true rfl) (Nat.le_of_ble_eq_true rfl) (Nat.le_of_ble_eq_true rfl) (Nat.le_of_ble_eq_true rfl) (Nat.le_of_ble_eq_true rfl) (s_X12_isDigit G (fun r149 h149 => ?_))
        refine t_ifeq (t := 212) dX12_readsOn_152 (by decide) (fun h152 => ?_) (fun h152 => False.elim (by omega))
        refine r_aloadR0 dX12_readsOn_212 ?_
        refine r_aloadR0 dX12_readsOn_213 ?_
        refine m_getV (x := (f2_z A 8)) zf_RX12_86 rfl dX12_readsOn_214 (shM_k hs) (rfl) ?_
        refine r_aloadR0 dX12_readsOn_217 ?_
        refine m_getV (x := (f2_z A 9)) zf_RX12_89 rfl dX12_readsOn_218 (shM_k hs) (rfl) ?_
        refine n_isub dX12_readsOn_221 (by omega) (fun r221 e221 => ?_)
        refine n_iconst dX12_readsOn_222 (by decide) (fun r222 e222 => ?_)
        refine t_icle (t := 230) dX12_readsOn_223 (by decide) (fun h223 => ?_) (fun h223 => ?_)
        · refine n_iconst dX12_readsOn_230 (by decide) (fun r230 e230 => ?_)
          refine m_putI zf_RX12_92 (by intro C T N h_z; cases h_z; rfl) rfl dX12_readsOn_231 (shM_k hs) ?_
          obtain ⟨g231, hg231⟩ : ∃ g9, g9 = zu f2_z A 10 r230 := ⟨_, rfl⟩
          rw [← hg231]
          have og231 : frM A [] [10] f2_z g231 := by rw [hg231]; exact frM_zk frM_rf (by decide)
          have vg231 : g231 A 10 = r230 := by rw [hg231]; exact zu_at
          have vt231 : (g231 A 10).toInt = r230.toInt := by rw [vg231]
          refine r_goto (t := 263) dX12_readsOn_234 (by decide) ?_
          refine r_vret dX12_readsOn_263 rfl (Nat.le_of_ble_eq_true rfl) (Nat.le_of_ble_eq_true rfl) ?_
          have hte : k = teP B n s := by
            rw [(tk_dig hsl hcd).1]
            exact (ruE_eq hsk hin (fun h_z => absurd h_z.1 (by omega))).symm
          have htk := tk_dig hsl hcd
          rw [← hte] at htk
          refine hQ _ (frM_tr (frM_su ofr (by decide) (by decide)) (frM_su og231 (by decide) (by decide))) ⟨hsn, by rw [og231.2.2 8 (by decide)]; omega, by rw [og231.2.2 9 (by decide)]; exact h9k, ?_, fun e => ?_⟩
          · rw [vt231]
            rcases Nat.lt_or_ge 3 (k - s) with h3 | h3
            · rw [(htk.2.1 h3).2]; omega
            · rw [(htk.2.2 (by omega)).2]; omega
          · rw [og231.2.2 11 (by decide)]
            have h3 := (tk2 e).2.2
            unfold nmP
            rw [← hte] at h3 ⊢
            exact hv h3
        · refine n_iconst dX12_readsOn_226 (by decide) (fun r226 e226 => ?_)
          refine r_goto (t := 231) dX12_readsOn_227 (by decide) ?_
          refine m_putI zf_RX12_92 (by intro C T N h_z; cases h_z; rfl) rfl dX12_readsOn_231 (shM_k hs) ?_
          obtain ⟨g231, hg231⟩ : ∃ g9, g9 = zu f2_z A 10 r226 := ⟨_, rfl⟩
          rw [← hg231]
          have og231 : frM A [] [10] f2_z g231 := by rw [hg231]; exact frM_zk frM_rf (by decide)
          have vg231 : g231 A 10 = r226 := by rw [hg231]; exact zu_at
          have vt231 : (g231 A 10).toInt = r226.toInt := by rw [vg231]
          refine r_goto (t := 263) dX12_readsOn_234 (by decide) ?_
          refine r_vret dX12_readsOn_263 rfl (Nat.le_of_ble_eq_true rfl) (Nat.le_of_ble_eq_true rfl) ?_
          have hte : k = teP B n s := by
            rw [(tk_dig hsl hcd).1]
            exact (ruE_eq hsk hin (fun h_z => absurd h_z.1 (by omega))).symm
          have htk := tk_dig hsl hcd
          rw [← hte] at htk
          refine hQ _ (frM_tr (frM_su ofr (by decide) (by decide)) (frM_su og231 (by decide) (by decide))) ⟨hsn, by rw [og231.2.2 8 (by decide)]; omega, by rw [og231.2.2 9 (by decide)]; exact h9k, ?_, fun e => ?_⟩
          · rw [vt231]
            rcases Nat.lt_or_ge 3 (k - s) with h3 | h3
            · rw [(htk.2.1 h3).2]; omega
            · rw [(htk.2.2 (by omega)).2]; omega
          · rw [og231.2.2 11 (by decide)]
            have h3 := (tk2 e).2.2
            unfold nmP
            rw [← hte] at h3 ⊢
            exact hv h3
  have l2 : ∀ (mz : Nat) (f2_z : Nat → Nat → Int32), (f2_z A 8).toInt = (s : Nat) → frM A [] [8] f f2_z → 0 < mz → zR (zV g 3 yX12_readsOn 2 none (0, 0) Q QX) cX12_readsOn yX12_readsOn.cls 52 [some (.ref A), none] [] (zM w f2_z j) (0, 0) := by
    intro mz
    induction mz with
    | zero =>
      intro f2_z h8k ofr hmz
      exact absurd hmz (Nat.not_lt_zero _)
    | succ mz ih =>
      intro f2_z h8k ofr hmz
      have ht2 := tpM_of ht (ofr.2.1 5 (by decide) (by decide) (by decide)) (ofr.2.2 7 (by decide))
      have h7 := ht2.1
      have hTT := ht2.2.2.1
      rcases Nat.lt_or_ge s n with hkn | hkn
      · have hB_z := hTT s hkn
        by_cases hcl : 97 ≤ B s ∧ B s ≤ 122
        · refine r_aloadR0 dX12_readsOn_52 ?_
          refine r_aloadR0 dX12_readsOn_53 ?_
          refine m_getV (x := (f2_z A 8)) zf_RX12_86 rfl dX12_readsOn_54 (shM_k hs) (rfl) ?_
          refine m_putI zf_RX12_89 (by intro C T N h_z; cases h_z; rfl) rfl dX12_readsOn_57 (shM_k hs) ?_
          obtain ⟨g57, hg57⟩ : ∃ g9, g9 = zu f2_z A 9 (f2_z A 8) := ⟨_, rfl⟩
          rw [← hg57]
          have og57 : frM A [] [9] f2_z g57 := by rw [hg57]; exact frM_zk frM_rf (by decide)
          have vg57 : g57 A 9 = (f2_z A 8) := by rw [hg57]; exact zu_at
          have vt57 : (g57 A 9).toInt = (f2_z A 8).toInt := by rw [vg57]
          have w8 : (g57 A 8).toInt = (s : Nat) := by rw [og57.2.2 8 (by decide)]; exact h8k
          have w7 : (g57 A 7).toInt = (n : Nat) := by rw [og57.2.2 7 (by decide)]; exact h7
          have w5 : g57 (A + 5) = f2_z (A + 5) := og57.2.1 5 (by decide) (by decide) (by decide)
          refine r_aloadR0 dX12_readsOn_60 ?_
          refine m_getV (x := (g57 A 8)) zf_RX12_86 rfl dX12_readsOn_61 (shM_k hs) (rfl) ?_
          refine r_aloadR0 dX12_readsOn_64 ?_
          refine m_getV (x := (g57 A 7)) zf_RX12_83 rfl dX12_readsOn_65 (shM_k hs) (rfl) ?_
          refine t_iclt (t := 77) dX12_readsOn_68 (by decide) (fun h68 => ?_) (fun h68 => False.elim (by omega))
          refine r_aloadR0 dX12_readsOn_77 ?_
          refine m_getR (q := (A + 5)) zf_RX12_23 rfl dX12_readsOn_78 (shM_k hs) (shM_p5 hs) ?_
          refine r_aloadR0 dX12_readsOn_81 ?_
          refine m_getV (x := (g57 A 8)) zf_RX12_86 rfl dX12_readsOn_82 (shM_k hs) (rfl) ?_
          refine m_iald (k := s) (x := (g57 (A + 5) s)) dX12_readsOn_85 (shM_k5 hs) (shM_n5 hs) (by omega) (by omega) (rfl) ?_
          refine r_istore1 dX12_readsOn_86 rfl ?_
          have b85 : (g57 (A + 5) s).toInt = (B s : Nat) := by rw [w5]; exact hB_z
          refine r_iload1 dX12_readsOn_87 ?_
          refine q_callS1 zm_RX12_95 dX12_readsOn_88 (Nat.le_of_ble_eq_true rfl) (Nat.le_of_ble_eq_true rfl) (Nat.le_of_ble_eq_true rfl) (Nat.le_of_ble_eq_true rfl) (Nat.le_of_ble_eq_true rfl) (s_X12_isLetter G (fun r88 h88 => ?_))
          refine t_ifeq (t := 129) dX12_readsOn_91 (by decide) (fun h91 => False.elim (by omega)) (fun h91 => ?_)
          exact l3 hkn (isDg_no (by omega)) (isLt_of hcl) _ g57 s _ (Nat.le_refl s) hsn w8 (by omega) (frM_tr (frM_su ofr (by decide) (by decide)) (frM_su og57 (by decide) (by decide))) (fun q h1 h2 => absurd h2 (by omega)) (Nat.lt_succ_self _)
        by_cases hcd : 48 ≤ B s ∧ B s ≤ 57
        · refine r_aloadR0 dX12_readsOn_52 ?_
          refine r_aloadR0 dX12_readsOn_53 ?_
          refine m_getV (x := (f2_z A 8)) zf_RX12_86 rfl dX12_readsOn_54 (shM_k hs) (rfl) ?_
          refine m_putI zf_RX12_89 (by intro C T N h_z; cases h_z; rfl) rfl dX12_readsOn_57 (shM_k hs) ?_
          obtain ⟨g57, hg57⟩ : ∃ g9, g9 = zu f2_z A 9 (f2_z A 8) := ⟨_, rfl⟩
          rw [← hg57]
          have og57 : frM A [] [9] f2_z g57 := by rw [hg57]; exact frM_zk frM_rf (by decide)
          have vg57 : g57 A 9 = (f2_z A 8) := by rw [hg57]; exact zu_at
          have vt57 : (g57 A 9).toInt = (f2_z A 8).toInt := by rw [vg57]
          have w8 : (g57 A 8).toInt = (s : Nat) := by rw [og57.2.2 8 (by decide)]; exact h8k
          have w7 : (g57 A 7).toInt = (n : Nat) := by rw [og57.2.2 7 (by decide)]; exact h7
          have w5 : g57 (A + 5) = f2_z (A + 5) := og57.2.1 5 (by decide) (by decide) (by decide)
          refine r_aloadR0 dX12_readsOn_60 ?_
          refine m_getV (x := (g57 A 8)) zf_RX12_86 rfl dX12_readsOn_61 (shM_k hs) (rfl) ?_
          refine r_aloadR0 dX12_readsOn_64 ?_
          refine m_getV (x := (g57 A 7)) zf_RX12_83 rfl dX12_readsOn_65 (shM_k hs) (rfl) ?_
          refine t_iclt (t := 77) dX12_readsOn_68 (by decide) (fun h68 => ?_) (fun h68 => False.elim (by omega))
          refine r_aloadR0 dX12_readsOn_77 ?_
          refine m_getR (q := (A + 5)) zf_RX12_23 rfl dX12_readsOn_78 (shM_k hs) (shM_p5 hs) ?_
          refine r_aloadR0 dX12_readsOn_81 ?_
          refine m_getV (x := (g57 A 8)) zf_RX12_86 rfl dX12_readsOn_82 (shM_k hs) (rfl) ?_
          refine m_iald (k := s) (x := (g57 (A + 5) s)) dX12_readsOn_85 (shM_k5 hs) (shM_n5 hs) (by omega) (by omega) (rfl) ?_
          refine r_istore1 dX12_readsOn_86 rfl ?_
          have b85 : (g57 (A + 5) s).toInt = (B s : Nat) := by rw [w5]; exact hB_z
          refine r_iload1 dX12_readsOn_87 ?_
          refine q_callS1 zm_RX12_95 dX12_readsOn_88 (Nat.le_of_ble_eq_true rfl) (Nat.le_of_ble_eq_true rfl) (Nat.le_of_ble_eq_true rfl) (Nat.le_of_ble_eq_true rfl) (Nat.le_of_ble_eq_true rfl) (s_X12_isLetter G (fun r88 h88 => ?_))
          refine t_ifeq (t := 129) dX12_readsOn_91 (by decide) (fun h91 => ?_) (fun h91 => False.elim (by omega))
          refine r_iload1 dX12_readsOn_129 ?_
          refine q_callS1 zm_RX12_103 dX12_readsOn_130 (Nat.le_of_ble_eq_true rfl) (Nat.le_of_ble_eq_true rfl) (Nat.le_of_ble_eq_true rfl) (Nat.le_of_ble_eq_true rfl) (Nat.le_of_ble_eq_true rfl) (s_X12_isDigit G (fun r130 h130 => ?_))
          refine t_ifeq (t := 237) dX12_readsOn_133 (by decide) (fun h133 => False.elim (by omega)) (fun h133 => ?_)
          refine r_aloadR0 dX12_readsOn_136 ?_
          refine n_iconst dX12_readsOn_137 (by decide) (fun r137 e137 => ?_)
          refine m_putI zf_RX12_106 (by intro C T N h_z; cases h_z; rfl) rfl dX12_readsOn_138 (shM_k hs) ?_
          obtain ⟨g138, hg138⟩ : ∃ g9, g9 = zu g57 A 11 r137 := ⟨_, rfl⟩
          rw [← hg138]
          have og138 : frM A [] [11] g57 g138 := by rw [hg138]; exact frM_zk frM_rf (by decide)
          have vg138 : g138 A 11 = r137 := by rw [hg138]; exact zu_at
          have vt138 : (g138 A 11).toInt = r137.toInt := by rw [vg138]
          exact l4 hkn (isDg_of hcd) _ g138 s _ (Nat.le_refl s) hsn (by rw [og138.2.2 8 (by decide)]; exact w8) (by rw [og138.2.2 9 (by decide)]; omega) (frM_tr (frM_su ofr (by decide) (by decide)) (frM_tr (frM_su og57 (by decide) (by decide)) (frM_su og138 (by decide) (by decide)))) (fun q h1 h2 => absurd h2 (by omega)) (fun _ => by rw [vt138, Nat.sub_self]; exact e137) (Nat.lt_succ_self _)
        have htk := tk_sig hkn (isDg_no hcd) (isLt_no hcl)
        by_cases hcs : isSg (B s) = true
        · refine r_aloadR0 dX12_readsOn_52 ?_
          refine r_aloadR0 dX12_readsOn_53 ?_
          refine m_getV (x := (f2_z A 8)) zf_RX12_86 rfl dX12_readsOn_54 (shM_k hs) (rfl) ?_
          refine m_putI zf_RX12_89 (by intro C T N h_z; cases h_z; rfl) rfl dX12_readsOn_57 (shM_k hs) ?_
          obtain ⟨g57, hg57⟩ : ∃ g9, g9 = zu f2_z A 9 (f2_z A 8) := ⟨_, rfl⟩
          rw [← hg57]
          have og57 : frM A [] [9] f2_z g57 := by rw [hg57]; exact frM_zk frM_rf (by decide)
          have vg57 : g57 A 9 = (f2_z A 8) := by rw [hg57]; exact zu_at
          have vt57 : (g57 A 9).toInt = (f2_z A 8).toInt := by rw [vg57]
          have w8 : (g57 A 8).toInt = (s : Nat) := by rw [og57.2.2 8 (by decide)]; exact h8k
          have w7 : (g57 A 7).toInt = (n : Nat) := by rw [og57.2.2 7 (by decide)]; exact h7
          have w5 : g57 (A + 5) = f2_z (A + 5) := og57.2.1 5 (by decide) (by decide) (by decide)
          refine r_aloadR0 dX12_readsOn_60 ?_
          refine m_getV (x := (g57 A 8)) zf_RX12_86 rfl dX12_readsOn_61 (shM_k hs) (rfl) ?_
          refine r_aloadR0 dX12_readsOn_64 ?_
          refine m_getV (x := (g57 A 7)) zf_RX12_83 rfl dX12_readsOn_65 (shM_k hs) (rfl) ?_
          refine t_iclt (t := 77) dX12_readsOn_68 (by decide) (fun h68 => ?_) (fun h68 => False.elim (by omega))
          refine r_aloadR0 dX12_readsOn_77 ?_
          refine m_getR (q := (A + 5)) zf_RX12_23 rfl dX12_readsOn_78 (shM_k hs) (shM_p5 hs) ?_
          refine r_aloadR0 dX12_readsOn_81 ?_
          refine m_getV (x := (g57 A 8)) zf_RX12_86 rfl dX12_readsOn_82 (shM_k hs) (rfl) ?_
          refine m_iald (k := s) (x := (g57 (A + 5) s)) dX12_readsOn_85 (shM_k5 hs) (shM_n5 hs) (by omega) (by omega) (rfl) ?_
          refine r_istore1 dX12_readsOn_86 rfl ?_
          have b85 : (g57 (A + 5) s).toInt = (B s : Nat) := by rw [w5]; exact hB_z
          refine r_iload1 dX12_readsOn_87 ?_
          refine q_callS1 zm_RX12_95 dX12_readsOn_88 (Nat.le_of_ble_eq_true rfl) (Nat.le_of_ble_eq_true rfl) (Nat.le_of_ble_eq_true rfl) (Nat.le_of_ble_eq_true rfl) (Nat.le_of_ble_eq_true rfl) (s_X12_isLetter G (fun r88 h88 => ?_))
          refine t_ifeq (t := 129) dX12_readsOn_91 (by decide) (fun h91 => ?_) (fun h91 => False.elim (by omega))
          refine r_iload1 dX12_readsOn_129 ?_
          refine q_callS1 zm_RX12_103 dX12_readsOn_130 (Nat.le_of_ble_eq_true rfl) (Nat.le_of_ble_eq_true rfl) (Nat.le_of_ble_eq_true rfl) (Nat.le_of_ble_eq_true rfl) (Nat.le_of_ble_eq_true rfl) (s_X12_isDigit G (fun r130 h130 => ?_))
          refine t_ifeq (t := 237) dX12_readsOn_133 (by decide) (fun h133 => ?_) (fun h133 => False.elim (by omega))
          have hsg := isSg_ca hcs
          have hsg2 := isSg_bd hcs
          refine r_aloadR0 dX12_readsOn_237 ?_
          refine r_iload1 dX12_readsOn_238 ?_
          refine q_callS1 zm_RX12_109 dX12_readsOn_239 (Nat.le_of_ble_eq_true rfl) (Nat.le_of_ble_eq_true rfl) (Nat.le_of_ble_eq_true rfl) (Nat.le_of_ble_eq_true rfl) (Nat.le_of_ble_eq_true rfl) (s_X12_isSignByte G (fun r239 h239 => ?_))
          refine t_ifeq (t := 249) dX12_readsOn_242 (by decide) (fun h242 => False.elim (by omega)) (fun h242 => ?_)
          refine r_iload1 dX12_readsOn_245 ?_
          refine r_goto (t := 250) dX12_readsOn_246 (by decide) ?_
          refine m_putI zf_RX12_92 (by intro C T N h_z; cases h_z; rfl) rfl dX12_readsOn_250 (shM_k hs) ?_
          obtain ⟨g250, hg250⟩ : ∃ g9, g9 = zu g57 A 10 (g57 (A + 5) s) := ⟨_, rfl⟩
          rw [← hg250]
          have og250 : frM A [] [10] g57 g250 := by rw [hg250]; exact frM_zk frM_rf (by decide)
          have vg250 : g250 A 10 = (g57 (A + 5) s) := by rw [hg250]; exact zu_at
          have vt250 : (g250 A 10).toInt = (g57 (A + 5) s).toInt := by rw [vg250]
          have w8b : (g250 A 8).toInt = (s : Nat) := by rw [og250.2.2 8 (by decide)]; exact w8
          refine r_aloadR0 dX12_readsOn_253 ?_
          refine r_dup dX12_readsOn_254 rfl ?_
          refine m_getV (x := (g250 A 8)) zf_RX12_86 rfl dX12_readsOn_255 (shM_k hs) (rfl) ?_
          refine n_iconst dX12_readsOn_258 (by decide) (fun r258 e258 => ?_)
          refine n_iadd dX12_readsOn_259 (by omega) (fun r259 e259 => ?_)
          refine m_putI zf_RX12_86 (by intro C T N h_z; cases h_z; rfl) rfl dX12_readsOn_260 (shM_k hs) ?_
          obtain ⟨g260, hg260⟩ : ∃ g9, g9 = zu g250 A 8 r259 := ⟨_, rfl⟩
          rw [← hg260]
          have og260 : frM A [] [8] g250 g260 := by rw [hg260]; exact frM_zk frM_rf (by decide)
          have vg260 : g260 A 8 = r259 := by rw [hg260]; exact zu_at
          have vt260 : (g260 A 8).toInt = r259.toInt := by rw [vg260]
          refine r_vret dX12_readsOn_263 rfl (Nat.le_of_ble_eq_true rfl) (Nat.le_of_ble_eq_true rfl) ?_
          refine hQ _ (frM_tr (frM_tr (frM_su ofr (by decide) (by decide)) (frM_su og57 (by decide) (by decide))) (frM_tr (frM_su og250 (by decide) (by decide)) (frM_su og260 (by decide) (by decide)))) ⟨hsn, by rw [vt260, htk.1]; omega, by rw [og260.2.2 9 (by decide), og250.2.2 9 (by decide)]; omega, by rw [og260.2.2 10 (by decide), vt250, (htk.2.1 hcs).2]; omega, fun e => absurd e (by rw [(htk.2.1 hcs).1]; omega)⟩
        · refine r_aloadR0 dX12_readsOn_52 ?_
          refine r_aloadR0 dX12_readsOn_53 ?_
          refine m_getV (x := (f2_z A 8)) zf_RX12_86 rfl dX12_readsOn_54 (shM_k hs) (rfl) ?_
          refine m_putI zf_RX12_89 (by intro C T N h_z; cases h_z; rfl) rfl dX12_readsOn_57 (shM_k hs) ?_
          obtain ⟨g57, hg57⟩ : ∃ g9, g9 = zu f2_z A 9 (f2_z A 8) := ⟨_, rfl⟩
          rw [← hg57]
          have og57 : frM A [] [9] f2_z g57 := by rw [hg57]; exact frM_zk frM_rf (by decide)
          have vg57 : g57 A 9 = (f2_z A 8) := by rw [hg57]; exact zu_at
          have vt57 : (g57 A 9).toInt = (f2_z A 8).toInt := by rw [vg57]
          have w8 : (g57 A 8).toInt = (s : Nat) := by rw [og57.2.2 8 (by decide)]; exact h8k
          have w7 : (g57 A 7).toInt = (n : Nat) := by rw [og57.2.2 7 (by decide)]; exact h7
          have w5 : g57 (A + 5) = f2_z (A + 5) := og57.2.1 5 (by decide) (by decide) (by decide)
          refine r_aloadR0 dX12_readsOn_60 ?_
          refine m_getV (x := (g57 A 8)) zf_RX12_86 rfl dX12_readsOn_61 (shM_k hs) (rfl) ?_
          refine r_aloadR0 dX12_readsOn_64 ?_
          refine m_getV (x := (g57 A 7)) zf_RX12_83 rfl dX12_readsOn_65 (shM_k hs) (rfl) ?_
          refine t_iclt (t := 77) dX12_readsOn_68 (by decide) (fun h68 => ?_) (fun h68 => False.elim (by omega))
          refine r_aloadR0 dX12_readsOn_77 ?_
          refine m_getR (q := (A + 5)) zf_RX12_23 rfl dX12_readsOn_78 (shM_k hs) (shM_p5 hs) ?_
          refine r_aloadR0 dX12_readsOn_81 ?_
          refine m_getV (x := (g57 A 8)) zf_RX12_86 rfl dX12_readsOn_82 (shM_k hs) (rfl) ?_
          refine m_iald (k := s) (x := (g57 (A + 5) s)) dX12_readsOn_85 (shM_k5 hs) (shM_n5 hs) (by omega) (by omega) (rfl) ?_
          refine r_istore1 dX12_readsOn_86 rfl ?_
          have b85 : (g57 (A + 5) s).toInt = (B s : Nat) := by rw [w5]; exact hB_z
          refine r_iload1 dX12_readsOn_87 ?_
          refine q_callS1 zm_RX12_95 dX12_readsOn_88 (Nat.le_of_ble_eq_true rfl) (Nat.le_of_ble_eq_true rfl) (Nat.le_of_ble_eq_true rfl) (Nat.le_of_ble_eq_true rfl) (Nat.le_of_ble_eq_true rfl) (s_X12_isLetter G (fun r88 h88 => ?_))
          refine t_ifeq (t := 129) dX12_readsOn_91 (by decide) (fun h91 => ?_) (fun h91 => False.elim (by omega))
          refine r_iload1 dX12_readsOn_129 ?_
          refine q_callS1 zm_RX12_103 dX12_readsOn_130 (Nat.le_of_ble_eq_true rfl) (Nat.le_of_ble_eq_true rfl) (Nat.le_of_ble_eq_true rfl) (Nat.le_of_ble_eq_true rfl) (Nat.le_of_ble_eq_true rfl) (s_X12_isDigit G (fun r130 h130 => ?_))
          refine t_ifeq (t := 237) dX12_readsOn_133 (by decide) (fun h133 => ?_) (fun h133 => False.elim (by omega))
          have hsg : ¬ (B s = 59 ∨ B s = 58 ∨ B s = 43 ∨ B s = 45 ∨ B s = 42 ∨ B s = 40 ∨ B s = 41 ∨ B s = 91 ∨ B s = 93 ∨ B s = 61 ∨ B s = 60 ∨ B s = 62) := fun h_z => hcs (isSg_of h_z)
          refine r_aloadR0 dX12_readsOn_237 ?_
          refine r_iload1 dX12_readsOn_238 ?_
          refine q_callS1 zm_RX12_109 dX12_readsOn_239 (Nat.le_of_ble_eq_true rfl) (Nat.le_of_ble_eq_true rfl) (Nat.le_of_ble_eq_true rfl) (Nat.le_of_ble_eq_true rfl) (Nat.le_of_ble_eq_true rfl) (s_X12_isSignByte G (fun r239 h239 => ?_))
          refine t_ifeq (t := 249) dX12_readsOn_242 (by decide) (fun h242 => ?_) (fun h242 => False.elim (by omega))
          refine n_iconst dX12_readsOn_249 (by decide) (fun r249 e249 => ?_)
          refine m_putI zf_RX12_92 (by intro C T N h_z; cases h_z; rfl) rfl dX12_readsOn_250 (shM_k hs) ?_
          obtain ⟨g250, hg250⟩ : ∃ g9, g9 = zu g57 A 10 r249 := ⟨_, rfl⟩
          rw [← hg250]
          have og250 : frM A [] [10] g57 g250 := by rw [hg250]; exact frM_zk frM_rf (by decide)
          have vg250 : g250 A 10 = r249 := by rw [hg250]; exact zu_at
          have vt250 : (g250 A 10).toInt = r249.toInt := by rw [vg250]
          have w8b : (g250 A 8).toInt = (s : Nat) := by rw [og250.2.2 8 (by decide)]; exact w8
          refine r_aloadR0 dX12_readsOn_253 ?_
          refine r_dup dX12_readsOn_254 rfl ?_
          refine m_getV (x := (g250 A 8)) zf_RX12_86 rfl dX12_readsOn_255 (shM_k hs) (rfl) ?_
          refine n_iconst dX12_readsOn_258 (by decide) (fun r258 e258 => ?_)
          refine n_iadd dX12_readsOn_259 (by omega) (fun r259 e259 => ?_)
          refine m_putI zf_RX12_86 (by intro C T N h_z; cases h_z; rfl) rfl dX12_readsOn_260 (shM_k hs) ?_
          obtain ⟨g260, hg260⟩ : ∃ g9, g9 = zu g250 A 8 r259 := ⟨_, rfl⟩
          rw [← hg260]
          have og260 : frM A [] [8] g250 g260 := by rw [hg260]; exact frM_zk frM_rf (by decide)
          have vg260 : g260 A 8 = r259 := by rw [hg260]; exact zu_at
          have vt260 : (g260 A 8).toInt = r259.toInt := by rw [vg260]
          refine r_vret dX12_readsOn_263 rfl (Nat.le_of_ble_eq_true rfl) (Nat.le_of_ble_eq_true rfl) ?_
          refine hQ _ (frM_tr (frM_tr (frM_su ofr (by decide) (by decide)) (frM_su og57 (by decide) (by decide))) (frM_tr (frM_su og250 (by decide) (by decide)) (frM_su og260 (by decide) (by decide)))) ⟨hsn, by rw [vt260, htk.1]; omega, by rw [og260.2.2 9 (by decide), og250.2.2 9 (by decide)]; omega, by rw [og260.2.2 10 (by decide), vt250, (htk.2.2 hcs).2]; omega, fun e => absurd e (by rw [(htk.2.2 hcs).1]; omega)⟩
      · refine r_aloadR0 dX12_readsOn_52 ?_
        refine r_aloadR0 dX12_readsOn_53 ?_
        refine m_getV (x := (f2_z A 8)) zf_RX12_86 rfl dX12_readsOn_54 (shM_k hs) (rfl) ?_
        refine m_putI zf_RX12_89 (by intro C T N h_z; cases h_z; rfl) rfl dX12_readsOn_57 (shM_k hs) ?_
        obtain ⟨g57, hg57⟩ : ∃ g9, g9 = zu f2_z A 9 (f2_z A 8) := ⟨_, rfl⟩
        rw [← hg57]
        have og57 : frM A [] [9] f2_z g57 := by rw [hg57]; exact frM_zk frM_rf (by decide)
        have vg57 : g57 A 9 = (f2_z A 8) := by rw [hg57]; exact zu_at
        have vt57 : (g57 A 9).toInt = (f2_z A 8).toInt := by rw [vg57]
        have w8 : (g57 A 8).toInt = (s : Nat) := by rw [og57.2.2 8 (by decide)]; exact h8k
        have w7 : (g57 A 7).toInt = (n : Nat) := by rw [og57.2.2 7 (by decide)]; exact h7
        have w5 : g57 (A + 5) = f2_z (A + 5) := og57.2.1 5 (by decide) (by decide) (by decide)
        refine r_aloadR0 dX12_readsOn_60 ?_
        refine m_getV (x := (g57 A 8)) zf_RX12_86 rfl dX12_readsOn_61 (shM_k hs) (rfl) ?_
        refine r_aloadR0 dX12_readsOn_64 ?_
        refine m_getV (x := (g57 A 7)) zf_RX12_83 rfl dX12_readsOn_65 (shM_k hs) (rfl) ?_
        refine t_iclt (t := 77) dX12_readsOn_68 (by decide) (fun h68 => False.elim (by omega)) (fun h68 => ?_)
        refine r_aloadR0 dX12_readsOn_71 ?_
        refine n_iconst dX12_readsOn_72 (by decide) (fun r72 e72_z => ?_)
        refine m_putI zf_RX12_92 (by intro C T N h_z; cases h_z; rfl) rfl dX12_readsOn_73 (shM_k hs) ?_
        obtain ⟨g73, hg73⟩ : ∃ g9, g9 = zu g57 A 10 r72 := ⟨_, rfl⟩
        rw [← hg73]
        have og73 : frM A [] [10] g57 g73 := by rw [hg73]; exact frM_zk frM_rf (by decide)
        have vg73 : g73 A 10 = r72 := by rw [hg73]; exact zu_at
        have vt73 : (g73 A 10).toInt = r72.toInt := by rw [vg73]
        refine r_vret dX12_readsOn_76 rfl (Nat.le_of_ble_eq_true rfl) (Nat.le_of_ble_eq_true rfl) ?_
        have htk := tk_end (B := B) hkn
        refine hQ _ (frM_tr (frM_su ofr (by decide) (by decide)) (frM_tr (frM_su og57 (by decide) (by decide)) (frM_su og73 (by decide) (by decide)))) ⟨hsn, by rw [og73.2.2 8 (by decide), htk.2.2]; exact w8, by rw [og73.2.2 9 (by decide)]; omega, by rw [vt73, htk.2.1]; omega, fun e => absurd e (by rw [htk.1]; decide)⟩
  have l1 : ∀ (mz : Nat) (f2_z : Nat → Nat → Int32) (k : Nat), p ≤ k → k ≤ n → (f2_z A 8).toInt = (k : Nat) → frM A [] [8] f f2_z → (∀ q, p ≤ q → q < k → q < n ∧ isSp (B q) = true) → n - k < mz → zR (zV g 3 yX12_readsOn 2 none (0, 0) Q QX) cX12_readsOn yX12_readsOn.cls 0 [some (.ref A), none] [] (zM w f2_z j) (0, 0) := by
    intro mz
    induction mz with
    | zero =>
      intro f2_z k hpk hkl h8k ofr hin hmz
      exact absurd hmz (Nat.not_lt_zero _)
    | succ mz ih =>
      intro f2_z k hpk hkl h8k ofr hin hmz
      have ht2 := tpM_of ht (ofr.2.1 5 (by decide) (by decide) (by decide)) (ofr.2.2 7 (by decide))
      have h7 := ht2.1
      have hTT := ht2.2.2.1
      rcases Nat.lt_or_ge k n with hkn | hkn
      · have hB_z := hTT k hkn
        rcases (show B k = 32 ∨ B k = 10 ∨ ¬ (B k = 32 ∨ B k = 10) by omega) with hc_z | hc_z | hc_z
        · refine r_aloadR0 dX12_readsOn_0 ?_
          refine m_getV (x := (f2_z A 8)) zf_RX12_86 rfl dX12_readsOn_1 (shM_k hs) (rfl) ?_
          refine r_aloadR0 dX12_readsOn_4 ?_
          refine m_getV (x := (f2_z A 7)) zf_RX12_83 rfl dX12_readsOn_5 (shM_k hs) (rfl) ?_
          refine t_icge (t := 52) dX12_readsOn_8 (by decide) (fun h8 => False.elim (by omega)) (fun h8 => ?_)
          refine r_aloadR0 dX12_readsOn_11 ?_
          refine m_getR (q := (A + 5)) zf_RX12_23 rfl dX12_readsOn_12 (shM_k hs) (shM_p5 hs) ?_
          refine r_aloadR0 dX12_readsOn_15 ?_
          refine m_getV (x := (f2_z A 8)) zf_RX12_86 rfl dX12_readsOn_16 (shM_k hs) (rfl) ?_
          refine m_iald (k := k) (x := (f2_z (A + 5) k)) dX12_readsOn_19 (shM_k5 hs) (shM_n5 hs) (by omega) (by omega) (rfl) ?_
          refine n_bipush dX12_readsOn_20 (by decide) (fun r20 e20 => ?_)
          refine t_iceq (t := 39) dX12_readsOn_22 (by decide) (fun h22 => ?_) (fun h22 => False.elim (by omega))
          refine r_aloadR0 dX12_readsOn_39 ?_
          refine r_dup dX12_readsOn_40 rfl ?_
          refine m_getV (x := (f2_z A 8)) zf_RX12_86 rfl dX12_readsOn_41 (shM_k hs) (rfl) ?_
          refine n_iconst dX12_readsOn_44 (by decide) (fun r44 e44 => ?_)
          refine n_iadd dX12_readsOn_45 (by omega) (fun r45 e45 => ?_)
          refine m_putI zf_RX12_86 (by intro C T N h_z; cases h_z; rfl) rfl dX12_readsOn_46 (shM_k hs) ?_
          obtain ⟨g46, hg46⟩ : ∃ g9, g9 = zu f2_z A 8 r45 := ⟨_, rfl⟩
          rw [← hg46]
          have og46 : frM A [] [8] f2_z g46 := by rw [hg46]; exact frM_zk frM_rf (by decide)
          have vg46 : g46 A 8 = r45 := by rw [hg46]; exact zu_at
          have vt46 : (g46 A 8).toInt = r45.toInt := by rw [vg46]
          refine r_goto (t := 0) dX12_readsOn_49 (by decide) ?_
          refine ih _ (k + 1) (by omega) (by omega) (by omega) (frM_tr ofr og46) (fun q h1 h2 => ?_) (by omega)
          rcases Nat.lt_or_ge q k with h3 | h3
          · exact hin q h1 h3
          · rw [show q = k by omega]; exact ⟨hkn, isSp_of (by omega)⟩
        · refine r_aloadR0 dX12_readsOn_0 ?_
          refine m_getV (x := (f2_z A 8)) zf_RX12_86 rfl dX12_readsOn_1 (shM_k hs) (rfl) ?_
          refine r_aloadR0 dX12_readsOn_4 ?_
          refine m_getV (x := (f2_z A 7)) zf_RX12_83 rfl dX12_readsOn_5 (shM_k hs) (rfl) ?_
          refine t_icge (t := 52) dX12_readsOn_8 (by decide) (fun h8 => False.elim (by omega)) (fun h8 => ?_)
          refine r_aloadR0 dX12_readsOn_11 ?_
          refine m_getR (q := (A + 5)) zf_RX12_23 rfl dX12_readsOn_12 (shM_k hs) (shM_p5 hs) ?_
          refine r_aloadR0 dX12_readsOn_15 ?_
          refine m_getV (x := (f2_z A 8)) zf_RX12_86 rfl dX12_readsOn_16 (shM_k hs) (rfl) ?_
          refine m_iald (k := k) (x := (f2_z (A + 5) k)) dX12_readsOn_19 (shM_k5 hs) (shM_n5 hs) (by omega) (by omega) (rfl) ?_
          refine n_bipush dX12_readsOn_20 (by decide) (fun r20 e20 => ?_)
          refine t_iceq (t := 39) dX12_readsOn_22 (by decide) (fun h22 => False.elim (by omega)) (fun h22 => ?_)
          refine r_aloadR0 dX12_readsOn_25 ?_
          refine m_getR (q := (A + 5)) zf_RX12_23 rfl dX12_readsOn_26 (shM_k hs) (shM_p5 hs) ?_
          refine r_aloadR0 dX12_readsOn_29 ?_
          refine m_getV (x := (f2_z A 8)) zf_RX12_86 rfl dX12_readsOn_30 (shM_k hs) (rfl) ?_
          refine m_iald (k := k) (x := (f2_z (A + 5) k)) dX12_readsOn_33 (shM_k5 hs) (shM_n5 hs) (by omega) (by omega) (rfl) ?_
          refine n_bipush dX12_readsOn_34 (by decide) (fun r34 e34 => ?_)
          refine t_icne (t := 52) dX12_readsOn_36 (by decide) (fun h36 => False.elim (by omega)) (fun h36 => ?_)
          refine r_aloadR0 dX12_readsOn_39 ?_
          refine r_dup dX12_readsOn_40 rfl ?_
          refine m_getV (x := (f2_z A 8)) zf_RX12_86 rfl dX12_readsOn_41 (shM_k hs) (rfl) ?_
          refine n_iconst dX12_readsOn_44 (by decide) (fun r44 e44 => ?_)
          refine n_iadd dX12_readsOn_45 (by omega) (fun r45 e45 => ?_)
          refine m_putI zf_RX12_86 (by intro C T N h_z; cases h_z; rfl) rfl dX12_readsOn_46 (shM_k hs) ?_
          obtain ⟨g46, hg46⟩ : ∃ g9, g9 = zu f2_z A 8 r45 := ⟨_, rfl⟩
          rw [← hg46]
          have og46 : frM A [] [8] f2_z g46 := by rw [hg46]; exact frM_zk frM_rf (by decide)
          have vg46 : g46 A 8 = r45 := by rw [hg46]; exact zu_at
          have vt46 : (g46 A 8).toInt = r45.toInt := by rw [vg46]
          refine r_goto (t := 0) dX12_readsOn_49 (by decide) ?_
          refine ih _ (k + 1) (by omega) (by omega) (by omega) (frM_tr ofr og46) (fun q h1 h2 => ?_) (by omega)
          rcases Nat.lt_or_ge q k with h3 | h3
          · exact hin q h1 h3
          · rw [show q = k by omega]; exact ⟨hkn, isSp_of (by omega)⟩
        · refine r_aloadR0 dX12_readsOn_0 ?_
          refine m_getV (x := (f2_z A 8)) zf_RX12_86 rfl dX12_readsOn_1 (shM_k hs) (rfl) ?_
          refine r_aloadR0 dX12_readsOn_4 ?_
          refine m_getV (x := (f2_z A 7)) zf_RX12_83 rfl dX12_readsOn_5 (shM_k hs) (rfl) ?_
          refine t_icge (t := 52) dX12_readsOn_8 (by decide) (fun h8 => False.elim (by omega)) (fun h8 => ?_)
          refine r_aloadR0 dX12_readsOn_11 ?_
          refine m_getR (q := (A + 5)) zf_RX12_23 rfl dX12_readsOn_12 (shM_k hs) (shM_p5 hs) ?_
          refine r_aloadR0 dX12_readsOn_15 ?_
          refine m_getV (x := (f2_z A 8)) zf_RX12_86 rfl dX12_readsOn_16 (shM_k hs) (rfl) ?_
          refine m_iald (k := k) (x := (f2_z (A + 5) k)) dX12_readsOn_19 (shM_k5 hs) (shM_n5 hs) (by omega) (by omega) (rfl) ?_
          refine n_bipush dX12_readsOn_20 (by decide) (fun r20 e20 => ?_)
          refine t_iceq (t := 39) dX12_readsOn_22 (by decide) (fun h22 => False.elim (by omega)) (fun h22 => ?_)
          refine r_aloadR0 dX12_readsOn_25 ?_
          refine m_getR (q := (A + 5)) zf_RX12_23 rfl dX12_readsOn_26 (shM_k hs) (shM_p5 hs) ?_
          refine r_aloadR0 dX12_readsOn_29 ?_
          refine m_getV (x := (f2_z A 8)) zf_RX12_86 rfl dX12_readsOn_30 (shM_k hs) (rfl) ?_
          refine m_iald (k := k) (x := (f2_z (A + 5) k)) dX12_readsOn_33 (shM_k5 hs) (shM_n5 hs) (by omega) (by omega) (rfl) ?_
          refine n_bipush dX12_readsOn_34 (by decide) (fun r34 e34 => ?_)
          refine t_icne (t := 52) dX12_readsOn_36 (by decide) (fun h36 => ?_) (fun h36 => False.elim (by omega))
          have hks : k = s := by
            rw [hs0]
            exact (ruE_eq hpk hin (fun h_z => hc_z (isSp_bd h_z.2))).symm
          exact l2 1 _ (by rw [h8k, hks]) ofr Nat.one_pos
      · refine r_aloadR0 dX12_readsOn_0 ?_
        refine m_getV (x := (f2_z A 8)) zf_RX12_86 rfl dX12_readsOn_1 (shM_k hs) (rfl) ?_
        refine r_aloadR0 dX12_readsOn_4 ?_
        refine m_getV (x := (f2_z A 7)) zf_RX12_83 rfl dX12_readsOn_5 (shM_k hs) (rfl) ?_
        refine t_icge (t := 52) dX12_readsOn_8 (by decide) (fun h8 => ?_) (fun h8 => False.elim (by omega))
        have hks : k = s := by
          rw [hs0]
          exact (ruE_eq hpk hin (fun h_z => absurd h_z.1 (by omega))).symm
        exact l2 1 _ (by rw [h8k, hks]) ofr Nat.one_pos
  exact l1 _ f p (Nat.le_refl p) hpn hp frM_rf (fun q h1 h2 => absurd h2 (by omega)) (Nat.lt_succ_self _)
