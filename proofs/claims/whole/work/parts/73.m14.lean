/-! the reference: images, what is counted, the tape -/
theorem ctKn_lt {K K2 : Nat → Int32} {T : zTb} (h_z : ctKn K T) (hw : wfT T) (e : ∀ k, k < 2912 → K2 k = K k) : ctKn K2 T := by
  obtain ⟨⟨a0, a1, a2, a3, a4, a5, a6⟩, b1, b2, b3, b4, b5, b6⟩ := h_z
  have hg : tbG T ≤ 4 := hw.2.2.1
  have h5 := hw.2.2.2.2.2.2.2.1.2.1
  have hp := hw.2.2.2.2.2.2.2.2.1
  have l1 := hw.2.2.2.2.1.1
  have l2 := hw.2.2.2.2.2.1.1
  have l3 := hw.2.2.2.2.2.2.1.1
  refine ⟨⟨by rw [e 0 (by omega)]; exact a0, by rw [e 1 (by omega)]; exact a1, by rw [e 2 (by omega)]; exact a2, by rw [e 3 (by omega)]; exact a3, by rw [e 4 (by omega)]; exact a4, by rw [e 5 (by omega)]; exact a5, by rw [e 6 (by omega)]; exact a6⟩, ctMk_mv b1 h5 (fun i hi_z => e _ (by omega)), fun i v hi_z => ?_, fun i Mp hi_z => ?_, fun i o hi_z => ?_, fun i o hi_z => ?_, fun i o hi_z => ?_⟩
  · have hl := (List.getElem?_eq_some_iff.mp hi_z).1
    have hl2 : i < tbG T := hl
    rw [e _ (by omega)]; exact b2 i v hi_z
  · have hl := (List.getElem?_eq_some_iff.mp hi_z).1
    exact ctMk_mv (b3 i Mp hi_z) (wfT_pl hw hi_z) (fun x hx => e _ (by omega))
  · have hl := (List.getElem?_eq_some_iff.mp hi_z).1
    rw [e _ (by omega)]; exact b4 i o hi_z
  · have hl := (List.getElem?_eq_some_iff.mp hi_z).1
    rw [e _ (by omega)]; exact b5 i o hi_z
  · have hl := (List.getElem?_eq_some_iff.mp hi_z).1
    rw [e _ (by omega)]; exact b6 i o hi_z
def imM (f : Nat → Nat → Int32) (A i : Nat) : Option zTb → Prop
  | none => (f (A + 4) i).toInt = 0
  | some T => (f (A + 4) i).toInt = 1 ∧ ctKn (fun k => f (A + 3) (2912 * i + k)) T ∧ wfT T
theorem imM_of {f f2_z : Nat → Nat → Int32} {A i : Nat} {o : Option zTb} (h_z : imM f A i o) (e1_z : f2_z (A + 4) i = f (A + 4) i) (e2_z : ∀ k, k < 2912 → f2_z (A + 3) (2912 * i + k) = f (A + 3) (2912 * i + k)) : imM f2_z A i o := by
  cases o with
  | none => unfold imM at h_z ⊢; rw [e1_z]; exact h_z
  | some T =>
    obtain ⟨a1, a2, a3⟩ := h_z
    exact ⟨by rw [e1_z]; exact a1, ctKn_lt a2 a3 (fun k hk => e2_z k hk), a3⟩
set_option maxHeartbeats 4000000 in
set_option maxRecDepth 100000 in
theorem s_X12_image {g : zGT} {w : zW} {f : Nat → Nat → Int32} {j : Nat → Nat → Int64} {A : Nat} {T : zTb} {x : Int32} {Q : Option Value → zW → Prop} {QX : String → zW → Prop} (G : zGok g) (hs : shM w A) (hk : ctKn (f (A + 1)) T) (hw : wfT T) (hT1 : ¬ (0 ≤ x.toInt ∧ x.toInt < 3) → ∀ f2_z, frM A [] [4] f f2_z → (f2_z A 4).toInt = 1 → Q none (zM w f2_z j)) (hQ : (0 ≤ x.toInt ∧ x.toInt < 3) → ∀ f2_z, frM A [3, 4] [4] f f2_z → (f2_z A 4).toInt = 0 → imM f2_z A x.toInt.toNat (some T) → (∀ i o, i < 3 → i ≠ x.toInt.toNat → imM f A i o → imM f2_z A i o) → Q none (zM w f2_z j)) : zC g 2 yX12_image cX12_image 3 none [.ref A, .int x] (zM w f j) (0, 0) Q QX := by
  refine zC_of G (by decide +kernel) (Nat.le_of_ble_eq_true rfl) ?_
  rcases Classical.em (0 ≤ x.toInt ∧ x.toInt < 3) with hok | hok
  · refine r_aloadR0 dX12_image_0 ?_
    refine r_iload1 dX12_image_1 ?_
    refine n_i2l dX12_image_2 (fun r2 e2_z => ?_)
    refine n_lconst (q := 0) dX12_image_3 rfl (by decide) (fun r3 e3_z => ?_)
    refine n_ldc2 (n := 2) zk_RX12_547 dX12_image_4 (by decide) (fun r4 e4_z => ?_)
    refine q_callS3 zm_RX12_138 dX12_image_7 (Nat.le_of_ble_eq_true rfl) (Nat.le_of_ble_eq_true rfl) (Nat.le_of_ble_eq_true rfl) (Nat.le_of_ble_eq_true rfl) (Nat.le_of_ble_eq_true rfl) (s_X12_within G  (fun r7 e7_z => ?_))
    refine t_ifeq (t := 17) dX12_image_10 (by decide) (fun h10 => False.elim (by omega)) (fun h10 => ?_)
    refine n_iconst dX12_image_13 (by decide) (fun r13 e13_z => ?_)
    refine r_goto (t := 18) dX12_image_14 (by decide) ?_
    refine m_putI zf_RX12_77 (by intro C T N h_z; cases h_z; rfl) rfl dX12_image_18 (shM_k hs) ?_
    obtain ⟨g18, hg18⟩ : ∃ g9, g9 = zu f A 4 r13 := ⟨_, rfl⟩
    rw [← hg18]
    have og18 : frM A [] [4] f g18 := by rw [hg18]; exact frM_zk frM_rf (by decide)
    have vg18 : g18 A 4 = r13 := by rw [hg18]; exact zu_at
    have vt18 : (g18 A 4).toInt = r13.toInt := by rw [vg18]
    have hk18 : ctKn (g18 (A + 1)) T := by rw [og18.2.1 1 (by decide) (by decide) (by decide)]; exact hk
    refine r_aloadR0 dX12_image_21 ?_
    refine m_getV (x := (g18 A 4)) zf_RX12_77 rfl dX12_image_22 (shM_k hs) (rfl) ?_
    refine t_ifle (t := 29) dX12_image_25 (by decide) (fun h25 => ?_) (fun h25 => False.elim (by omega))
    refine r_aloadR0 dX12_image_29 ?_
    refine m_getR (q := (A + 4)) zf_RX12_19 rfl dX12_image_30 (shM_k hs) (shM_p4 hs) ?_
    refine r_iload1 dX12_image_33 ?_
    refine n_iconst dX12_image_34 (by decide) (fun r34 e34 => ?_)
    refine m_zast (k := x.toInt.toNat) dX12_image_35 (shM_k4 hs) (shM_n4 hs) (by omega) (by omega) (by omega) ?_
    obtain ⟨g35, hg35⟩ : ∃ g9, g9 = zu g18 (A + 4) x.toInt.toNat r34 := ⟨_, rfl⟩
    rw [← hg35]
    have o35 : frM A [4] [] g18 g35 := by rw [hg35]; exact frM_zr (r := 4) frM_rf (by decide) (by decide) (by decide)
    have hk35 : ctKn (g35 (A + 1)) T := by rw [o35.2.1 1 (by decide) (by decide) (by decide)]; exact hk18
    have a4 : ∀ i, g35 (A + 4) i = if i = x.toInt.toNat then r34 else g18 (A + 4) i := fun i => by rw [hg35, zu_s2]
    have lp : ∀ (mz : Nat) (c : Int32) (k : Nat) (f2_z : Nat → Nat → Int32), c.toInt = (k : Nat) → k ≤ 2912 → (∀ q, q ≠ A + 3 → f2_z q = g35 q) → (∀ i, i < k → f2_z (A + 3) (2912 * x.toInt.toNat + i) = g35 (A + 1) i) → (∀ i, (i < 2912 * x.toInt.toNat ∨ 2912 * x.toInt.toNat + k ≤ i) → f2_z (A + 3) i = g35 (A + 3) i) → 2912 - k < mz → zR (zV g 2 yX12_image 3 none (0, 0) Q QX) cX12_image yX12_image.cls 38 [some (.ref A), some (.int x), some (.int c)] [] (zM w f2_z j) (0, 0) := by
      intro mz
      induction mz with
      | zero =>
        intro c k f2_z hck hk8 ho hd_z hr hmz
        exact absurd hmz (Nat.not_lt_zero _)
      | succ mz ih =>
        intro c k f2_z hck hk8 ho hd_z hr hmz
        have h1e : f2_z (A + 1) = g35 (A + 1) := ho _ (by omega)
        rcases Nat.lt_or_ge k 2912 with hkl | hkl
        · refine r_iload2 dX12_image_38 ?_
          refine n_sipush dX12_image_39 (by decide) (fun r39 e39 => ?_)
          refine t_icge (t := 69) dX12_image_42 (by decide) (fun h42 => False.elim (by omega)) (fun h42 => ?_)
          refine r_aloadR0 dX12_image_45 ?_
          refine m_getR (q := (A + 3)) zf_RX12_16 rfl dX12_image_46 (shM_k hs) (shM_p3 hs) ?_
          refine n_sipush dX12_image_49 (by decide) (fun r49 e49 => ?_)
          refine r_iload1 dX12_image_52 ?_
          refine n_imulc dX12_image_53 e49 (by omega) (fun r53 e53 => ?_)
          refine r_iload2 dX12_image_54 ?_
          refine n_iadd dX12_image_55 (by omega) (fun r55 e55 => ?_)
          refine r_aloadR0 dX12_image_56 ?_
          refine m_getR (q := (A + 1)) zf_RX12_9 rfl dX12_image_57 (shM_k hs) (shM_p1 hs) ?_
          refine r_iload2 dX12_image_60 ?_
          refine m_iald (k := k) (x := (f2_z (A + 1) k)) dX12_image_61 (shM_k1 hs) (shM_n1 hs) (by omega) (by omega) (rfl) ?_
          refine m_iast (k := (2912 * x.toInt.toNat + k)) dX12_image_62 (shM_k3 hs) (shM_n3 hs) (by omega) (by omega) ?_
          refine n_iinc2 dX12_image_63 (by decide) rfl (by omega) (fun r63 e63 => ?_)
          refine r_goto (t := 38) dX12_image_66 (by decide) ?_
          refine ih _ (k + 1) _ (by omega) (by omega) (fun q hq => (zu_ne hq).trans (ho q hq)) (fun i hi_z => ?_) (fun i hi_z => ?_) (by omega)
          · rcases Nat.lt_or_ge i k with h9 | h9
            · rw [zu_nn (Or.inr (by omega))]
              exact hd_z i h9
            · rw [show i = k by omega, zu_at, h1e]
          · rw [zu_nn (Or.inr (by omega))]
            exact hr i (by omega)
        · refine r_iload2 dX12_image_38 ?_
          refine n_sipush dX12_image_39 (by decide) (fun r39 e39 => ?_)
          refine t_icge (t := 69) dX12_image_42 (by decide) (fun h42 => ?_) (fun h42 => False.elim (by omega))
          refine r_vret dX12_image_69 rfl (Nat.le_of_ble_eq_true rfl) (Nat.le_of_ble_eq_true rfl) ?_
          have ofr : frM A [3, 4] [4] f f2_z := frM_tr (frM_su og18 (by decide) (by decide)) (frM_tr (frM_su o35 (by decide) (by decide)) (show frM A [3, 4] [4] g35 f2_z from ⟨fun q hq => ho q (by omega), fun r h2 h3 h4 => ho _ (by intro e9_z; exact h4 (by simp; omega)), fun k9 _ => by rw [ho A (by omega)]⟩))
          refine hQ hok f2_z ofr (by rw [ho A (by omega), o35.2.2 4 (by decide)]; omega) ⟨by rw [ho (A + 4) (by omega), a4, if_pos rfl]; omega, ctKn_lt hk35 hw (fun i hi_z => hd_z i (by omega)), hw⟩ (fun i o hi_z hne h9 => imM_of h9 (by rw [ho (A + 4) (by omega), a4, if_neg hne, og18.2.1 4 (by decide) (by decide) (by decide)]) (fun k9 hk9 => by rw [hr _ (by omega), o35.2.1 3 (by decide) (by decide) (by decide), og18.2.1 3 (by decide) (by decide) (by decide)]))
    refine n_iconst dX12_image_36 (by decide) (fun r36 e36 => ?_)
    refine r_istore2 dX12_image_37 rfl ?_
    exact lp 2913 _ 0 g35 (by omega) (by omega) (fun q hq => rfl) (fun i hi_z => absurd hi_z (by omega)) (fun i hi_z => rfl) (by omega)
  · refine r_aloadR0 dX12_image_0 ?_
    refine r_iload1 dX12_image_1 ?_
    refine n_i2l dX12_image_2 (fun r2 e2_z => ?_)
    refine n_lconst (q := 0) dX12_image_3 rfl (by decide) (fun r3 e3_z => ?_)
    refine n_ldc2 (n := 2) zk_RX12_547 dX12_image_4 (by decide) (fun r4 e4_z => ?_)
    refine q_callS3 zm_RX12_138 dX12_image_7 (Nat.le_of_ble_eq_true rfl) (Nat.le_of_ble_eq_true rfl) (Nat.le_of_ble_eq_true rfl) (Nat.le_of_ble_eq_true rfl) (Nat.le_of_ble_eq_true rfl) (s_X12_within G  (fun r7 e7_z => ?_))
    refine t_ifeq (t := 17) dX12_image_10 (by decide) (fun h10 => ?_) (fun h10 => False.elim (by omega))
    refine n_iconst dX12_image_17 (by decide) (fun r17 e17_z => ?_)
    refine m_putI zf_RX12_77 (by intro C T N h_z; cases h_z; rfl) rfl dX12_image_18 (shM_k hs) ?_
    obtain ⟨g18, hg18⟩ : ∃ g9, g9 = zu f A 4 r17 := ⟨_, rfl⟩
    rw [← hg18]
    have og18 : frM A [] [4] f g18 := by rw [hg18]; exact frM_zk frM_rf (by decide)
    have vg18 : g18 A 4 = r17 := by rw [hg18]; exact zu_at
    have vt18 : (g18 A 4).toInt = r17.toInt := by rw [vg18]
    have hk18 : ctKn (g18 (A + 1)) T := by rw [og18.2.1 1 (by decide) (by decide) (by decide)]; exact hk
    refine r_aloadR0 dX12_image_21 ?_
    refine m_getV (x := (g18 A 4)) zf_RX12_77 rfl dX12_image_22 (shM_k hs) (rfl) ?_
    refine t_ifle (t := 29) dX12_image_25 (by decide) (fun h25 => False.elim (by omega)) (fun h25 => ?_)
    refine r_vret dX12_image_28 rfl (Nat.le_of_ble_eq_true rfl) (Nat.le_of_ble_eq_true rfl) ?_
    exact hT1 hok g18 og18 (by omega)
set_option maxHeartbeats 4000000 in
set_option maxRecDepth 100000 in
theorem s_X12_restore {g : zGT} {w : zW} {f : Nat → Nat → Int32} {j : Nat → Nat → Int64} {A : Nat} {T : zTb} {x : Int32} {im : Nat → Option zTb} {Q : Option Value → zW → Prop} {QX : String → zW → Prop} (G : zGok g) (hs : shM w A) (hk : ctKn (f (A + 1)) T) (hw : wfT T) (him : ∀ i, i < 3 → imM f A i (im i)) (hT1 : ¬ (0 ≤ x.toInt ∧ x.toInt < 3) → ∀ f2_z, frM A [] [4] f f2_z → (f2_z A 4).toInt = 1 → Q none (zM w f2_z j)) (hT2 : (0 ≤ x.toInt ∧ x.toInt < 3) → im x.toInt.toNat = none → ∀ f2_z, frM A [] [4] f f2_z → (f2_z A 4).toInt = 2 → Q none (zM w f2_z j)) (hQ : (0 ≤ x.toInt ∧ x.toInt < 3) → ∀ Ti, im x.toInt.toNat = some Ti → ∀ f2_z, frM A [1] [4] f f2_z → (f2_z A 4).toInt = 0 → ctKn (f2_z (A + 1)) Ti → wfT Ti → Q none (zM w f2_z j)) : zC g 2 yX12_restore cX12_restore 3 none [.ref A, .int x] (zM w f j) (0, 0) Q QX := by
  refine zC_of G (by decide +kernel) (Nat.le_of_ble_eq_true rfl) ?_
  rcases Classical.em (0 ≤ x.toInt ∧ x.toInt < 3) with hok | hok
  · have hi9 := him _ (show x.toInt.toNat < 3 by omega)
    cases hcs : im x.toInt.toNat with
    | none =>
      rw [hcs] at hi9
      have h40 : (f (A + 4) x.toInt.toNat).toInt = 0 := hi9
      refine r_aloadR0 dX12_restore_0 ?_
      refine r_iload1 dX12_restore_1 ?_
      refine n_i2l dX12_restore_2 (fun r2 e2_z => ?_)
      refine n_lconst (q := 0) dX12_restore_3 rfl (by decide) (fun r3 e3_z => ?_)
      refine n_ldc2 (n := 2) zk_RX12_547 dX12_restore_4 (by decide) (fun r4 e4_z => ?_)
      refine q_callS3 zm_RX12_138 dX12_restore_7 (Nat.le_of_ble_eq_true rfl) (Nat.le_of_ble_eq_true rfl) (Nat.le_of_ble_eq_true rfl) (Nat.le_of_ble_eq_true rfl) (Nat.le_of_ble_eq_true rfl) (s_X12_within G  (fun r7 e7_z => ?_))
      refine t_ifne (t := 17) dX12_restore_10 (by decide) (fun h10 => ?_) (fun h10 => False.elim (by omega))
      refine r_aloadR0 dX12_restore_17 ?_
      refine m_getR (q := (A + 4)) zf_RX12_19 rfl dX12_restore_18 (shM_k hs) (shM_p4 hs) ?_
      refine r_iload1 dX12_restore_21 ?_
      refine m_zald (k := x.toInt.toNat) (x := (f (A + 4) x.toInt.toNat)) dX12_restore_22 (shM_k4 hs) (shM_n4 hs) (by omega) (by omega) (rfl) ?_
      refine t_ifne (t := 30) dX12_restore_23 (by decide) (fun h23 => False.elim (by omega)) (fun h23 => ?_)
      refine n_iconst dX12_restore_26 (by decide) (fun r26 e26_z => ?_)
      refine r_goto (t := 31) dX12_restore_27 (by decide) ?_
      refine m_putI zf_RX12_77 (by intro C T N h_z; cases h_z; rfl) rfl dX12_restore_31 (shM_k hs) ?_
      obtain ⟨g31, hg31⟩ : ∃ g9, g9 = zu f A 4 r26 := ⟨_, rfl⟩
      rw [← hg31]
      have og31 : frM A [] [4] f g31 := by rw [hg31]; exact frM_zk frM_rf (by decide)
      have vg31 : g31 A 4 = r26 := by rw [hg31]; exact zu_at
      have vt31 : (g31 A 4).toInt = r26.toInt := by rw [vg31]
      have hk31 : ctKn (g31 (A + 1)) T := by rw [og31.2.1 1 (by decide) (by decide) (by decide)]; exact hk
      refine r_aloadR0 dX12_restore_34 ?_
      refine m_getV (x := (g31 A 4)) zf_RX12_77 rfl dX12_restore_35 (shM_k hs) (rfl) ?_
      refine t_ifle (t := 42) dX12_restore_38 (by decide) (fun h38 => False.elim (by omega)) (fun h38 => ?_)
      refine r_vret dX12_restore_41 rfl (Nat.le_of_ble_eq_true rfl) (Nat.le_of_ble_eq_true rfl) ?_
      exact hT2 hok hcs g31 og31 (by omega)
    | some Ti =>
      rw [hcs] at hi9
      obtain ⟨h40, hki, hwi⟩ := hi9
      refine r_aloadR0 dX12_restore_0 ?_
      refine r_iload1 dX12_restore_1 ?_
      refine n_i2l dX12_restore_2 (fun r2 e2_z => ?_)
      refine n_lconst (q := 0) dX12_restore_3 rfl (by decide) (fun r3 e3_z => ?_)
      refine n_ldc2 (n := 2) zk_RX12_547 dX12_restore_4 (by decide) (fun r4 e4_z => ?_)
      refine q_callS3 zm_RX12_138 dX12_restore_7 (Nat.le_of_ble_eq_true rfl) (Nat.le_of_ble_eq_true rfl) (Nat.le_of_ble_eq_true rfl) (Nat.le_of_ble_eq_true rfl) (Nat.le_of_ble_eq_true rfl) (s_X12_within G  (fun r7 e7_z => ?_))
      refine t_ifne (t := 17) dX12_restore_10 (by decide) (fun h10 => ?_) (fun h10 => False.elim (by omega))
      refine r_aloadR0 dX12_restore_17 ?_
      refine m_getR (q := (A + 4)) zf_RX12_19 rfl dX12_restore_18 (shM_k hs) (shM_p4 hs) ?_
      refine r_iload1 dX12_restore_21 ?_
      refine m_zald (k := x.toInt.toNat) (x := (f (A + 4) x.toInt.toNat)) dX12_restore_22 (shM_k4 hs) (shM_n4 hs) (by omega) (by omega) (rfl) ?_
      refine t_ifne (t := 30) dX12_restore_23 (by decide) (fun h23 => ?_) (fun h23 => False.elim (by omega))
      refine n_iconst dX12_restore_30 (by decide) (fun r30 e30 => ?_)
      refine m_putI zf_RX12_77 (by intro C T N h_z; cases h_z; rfl) rfl dX12_restore_31 (shM_k hs) ?_
      obtain ⟨g31, hg31⟩ : ∃ g9, g9 = zu f A 4 r30 := ⟨_, rfl⟩
      rw [← hg31]
      have og31 : frM A [] [4] f g31 := by rw [hg31]; exact frM_zk frM_rf (by decide)
      have vg31 : g31 A 4 = r30 := by rw [hg31]; exact zu_at
      have vt31 : (g31 A 4).toInt = r30.toInt := by rw [vg31]
      have hk31 : ctKn (g31 (A + 1)) T := by rw [og31.2.1 1 (by decide) (by decide) (by decide)]; exact hk
      have a3 : g31 (A + 3) = f (A + 3) := og31.2.1 3 (by decide) (by decide) (by decide)
      have lp : ∀ (mz : Nat) (c : Int32) (k : Nat) (f2_z : Nat → Nat → Int32), c.toInt = (k : Nat) → k ≤ 2912 → (∀ q, q ≠ A + 1 → f2_z q = g31 q) → (∀ i, i < k → f2_z (A + 1) i = g31 (A + 3) (2912 * x.toInt.toNat + i)) → 2912 - k < mz → zR (zV g 2 yX12_restore 3 none (0, 0) Q QX) cX12_restore yX12_restore.cls 44 [some (.ref A), some (.int x), some (.int c)] [] (zM w f2_z j) (0, 0) := by
        intro mz
        induction mz with
        | zero =>
          intro c k f2_z hck hk8 ho hd_z hmz
          exact absurd hmz (Nat.not_lt_zero _)
        | succ mz ih =>
          intro c k f2_z hck hk8 ho hd_z hmz
          have h3e : f2_z (A + 3) = g31 (A + 3) := ho _ (by omega)
          rcases Nat.lt_or_ge k 2912 with hkl | hkl
          · refine r_iload2 dX12_restore_44 ?_
            refine n_sipush dX12_restore_45 (by decide) (fun r45 e45 => ?_)
            refine t_icge (t := 75) dX12_restore_48 (by decide) (fun h48 => False.elim (by omega)) (fun h48 => ?_)
            refine r_aloadR0 dX12_restore_51 ?_
            refine m_getR (q := (A + 1)) zf_RX12_9 rfl dX12_restore_52 (shM_k hs) (shM_p1 hs) ?_
            refine r_iload2 dX12_restore_55 ?_
            refine r_aloadR0 dX12_restore_56 ?_
            refine m_getR (q := (A + 3)) zf_RX12_16 rfl dX12_restore_57 (shM_k hs) (shM_p3 hs) ?_
            refine n_sipush dX12_restore_60 (by decide) (fun r60 e60 => ?_)
            refine r_iload1 dX12_restore_63 ?_
            refine n_imulc dX12_restore_64 e60 (by omega) (fun r64 e64 => ?_)
            refine r_iload2 dX12_restore_65 ?_
            refine n_iadd dX12_restore_66 (by omega) (fun r66 e66 => ?_)
            refine m_iald (k := (2912 * x.toInt.toNat + k)) (x := (f2_z (A + 3) ((2912 * x.toInt.toNat + k)))) dX12_restore_67 (shM_k3 hs) (shM_n3 hs) (by omega) (by omega) (rfl) ?_
            refine m_iast (k := k) dX12_restore_68 (shM_k1 hs) (shM_n1 hs) (by omega) (by omega) ?_
            refine n_iinc2 dX12_restore_69 (by decide) rfl (by omega) (fun r69 e69 => ?_)
            refine r_goto (t := 44) dX12_restore_72 (by decide) ?_
            refine ih _ (k + 1) _ (by omega) (by omega) (fun q hq => (zu_ne hq).trans (ho q hq)) (fun i hi_z => ?_) (by omega)
            rcases Nat.lt_or_ge i k with h9 | h9
            · rw [zu_nn (Or.inr (by omega))]
              exact hd_z i h9
            · rw [show i = k by omega, zu_at, h3e]
          · refine r_iload2 dX12_restore_44 ?_
            refine n_sipush dX12_restore_45 (by decide) (fun r45 e45 => ?_)
            refine t_icge (t := 75) dX12_restore_48 (by decide) (fun h48 => ?_) (fun h48 => False.elim (by omega))
            refine r_vret dX12_restore_75 rfl (Nat.le_of_ble_eq_true rfl) (Nat.le_of_ble_eq_true rfl) ?_
            exact hQ hok Ti hcs f2_z (frM_tr (frM_su og31 (by decide) (by decide)) (show frM A [1] [4] g31 f2_z from ⟨fun q hq => ho q (by omega), fun r h2 h3 h4 => ho _ (by intro e9_z; exact h4 (by simp; omega)), fun k9 _ => by rw [ho A (by omega)]⟩)) (by rw [ho A (by omega)]; omega) (ctKn_lt hki hwi (fun i hi_z => by rw [hd_z i (by omega), a3])) hwi
      refine r_aloadR0 dX12_restore_34 ?_
      refine m_getV (x := (g31 A 4)) zf_RX12_77 rfl dX12_restore_35 (shM_k hs) (rfl) ?_
      refine t_ifle (t := 42) dX12_restore_38 (by decide) (fun h38 => ?_) (fun h38 => False.elim (by omega))
      refine n_iconst dX12_restore_42 (by decide) (fun r42 e42_z => ?_)
      refine r_istore2 dX12_restore_43 rfl ?_
      exact lp 2913 _ 0 g31 (by omega) (by omega) (fun q hq => rfl) (fun i hi_z => absurd hi_z (by omega)) (by omega)
  · refine r_aloadR0 dX12_restore_0 ?_
    refine r_iload1 dX12_restore_1 ?_
    refine n_i2l dX12_restore_2 (fun r2 e2_z => ?_)
    refine n_lconst (q := 0) dX12_restore_3 rfl (by decide) (fun r3 e3_z => ?_)
    refine n_ldc2 (n := 2) zk_RX12_547 dX12_restore_4 (by decide) (fun r4 e4_z => ?_)
    refine q_callS3 zm_RX12_138 dX12_restore_7 (Nat.le_of_ble_eq_true rfl) (Nat.le_of_ble_eq_true rfl) (Nat.le_of_ble_eq_true rfl) (Nat.le_of_ble_eq_true rfl) (Nat.le_of_ble_eq_true rfl) (s_X12_within G  (fun r7 e7_z => ?_))
    refine t_ifne (t := 17) dX12_restore_10 (by decide) (fun h10 => False.elim (by omega)) (fun h10 => ?_)
    refine n_iconst dX12_restore_13 (by decide) (fun r13 e13_z => ?_)
    refine r_goto (t := 31) dX12_restore_14 (by decide) ?_
    refine m_putI zf_RX12_77 (by intro C T N h_z; cases h_z; rfl) rfl dX12_restore_31 (shM_k hs) ?_
    obtain ⟨g31, hg31⟩ : ∃ g9, g9 = zu f A 4 r13 := ⟨_, rfl⟩
    rw [← hg31]
    have og31 : frM A [] [4] f g31 := by rw [hg31]; exact frM_zk frM_rf (by decide)
    have vg31 : g31 A 4 = r13 := by rw [hg31]; exact zu_at
    have vt31 : (g31 A 4).toInt = r13.toInt := by rw [vg31]
    have hk31 : ctKn (g31 (A + 1)) T := by rw [og31.2.1 1 (by decide) (by decide) (by decide)]; exact hk
    refine r_aloadR0 dX12_restore_34 ?_
    refine m_getV (x := (g31 A 4)) zf_RX12_77 rfl dX12_restore_35 (shM_k hs) (rfl) ?_
    refine t_ifle (t := 42) dX12_restore_38 (by decide) (fun h38 => False.elim (by omega)) (fun h38 => ?_)
    refine r_vret dX12_restore_41 rfl (Nat.le_of_ble_eq_true rfl) (Nat.le_of_ble_eq_true rfl) ?_
    exact hT1 hok g31 og31 (by omega)
set_option maxHeartbeats 4000000 in
set_option maxRecDepth 100000 in
theorem s_X12_count {g : zGT} {w : zW} {f : Nat → Nat → Int32} {j : Nat → Nat → Int64} {A : Nat} {T : zTb} {x : Int32} {Q : Option Value → zW → Prop} {QX : String → zW → Prop} (G : zGok g) (hs : shM w A) (hk : ctKn (f (A + 1)) T) (hw : wfT T) (hQ : ∀ (r : Int32) f2_z, r.toInt = cntI T (f A 6).toInt x.toInt → frM A [6] [4] f f2_z → (f2_z A 4).toInt = 0 → Q (some (.int r)) (zM w f2_z j)) : zC g 5 yX12_count cX12_count 3 (some .int) [.ref A, .int x] (zM w f j) (0, 0) Q QX := by
  refine zC_of G (by decide +kernel) (Nat.le_of_ble_eq_true rfl) ?_
  have hk9 := hk
  obtain ⟨⟨k0_z, k1_z, k2_z, k3_z, k4_z, k5_z, k6_z⟩, km, kg, kp, kl1, kl2, kl3⟩ := hk9
  have km9 := km
  obtain ⟨m1_z, m2_z, m3_z⟩ := km9
  have hn6 : tbC T ≤ 6 := hw.2.1
  have hg4 : tbG T ≤ 4 := hw.2.2.1
  have hwm := hw.2.2.2.2.2.2.2.1
  have hml : T.2.2.1.2.length ≤ 5 := hwm.2.1
  have hm99 := hwm.2.2
  have hrt := wfT_rch hw
  have hLl : (tbL T).length ≤ 6 := Nat.le_trans (rch_cell hrt).2.2.2.2 hn6
  have hpl : T.2.2.2.length ≤ 10 := hw.2.2.2.2.2.2.2.2.1
  refine r_aloadR0 dX12_count_0 ?_
  refine n_iconst dX12_count_1 (by decide) (fun r1 e1_z => ?_)
  refine m_putI zf_RX12_77 (by intro C T N h_z; cases h_z; rfl) rfl dX12_count_2 (shM_k hs) ?_
  obtain ⟨g2, hg2⟩ : ∃ g9, g9 = zu f A 4 r1 := ⟨_, rfl⟩
  rw [← hg2]
  have og2 : frM A [] [4] f g2 := by rw [hg2]; exact frM_zk frM_rf (by decide)
  have vg2 : g2 A 4 = r1 := by rw [hg2]; exact zu_at
  have vt2 : (g2 A 4).toInt = r1.toInt := by rw [vg2]
  have hk2 : ctKn (g2 (A + 1)) T := by rw [og2.2.1 1 (by decide) (by decide) (by decide)]; exact hk
  refine r_aloadR0 dX12_count_5 ?_
  refine q_callV0 zm_RX12_343 dX12_count_6 (shM_k hs) (by decide) rfl (Nat.le_of_ble_eq_true rfl) (Nat.le_of_ble_eq_true rfl) (Nat.le_of_ble_eq_true rfl) (Nat.le_of_ble_eq_true rfl) (Nat.le_of_ble_eq_true rfl) (s_X12_now G hs hk2 hw (fun r6 g6 e6_z o6 c6_z => ?_))
  have hk6 : ctKn (g6 (A + 1)) T := by rw [o6.2.1 1 (by decide) (by decide) (by decide)]; exact hk2
  have ofr : frM A [6] [4] f g6 := frM_tr (frM_su og2 (by decide) (by decide)) (frM_su o6 (by decide) (by decide))
  have oth : (g6 A 4).toInt = 0 := by rw [o6.2.2 4 (by decide)]; omega
  refine r_istore2 dX12_count_9 rfl ?_
  refine r_iload1 dX12_count_10 ?_
  refine n_tabC (k := 0) (t := 68) dX12_count_11 (by decide) rfl (by decide) (fun h11_0 => ?_) (fun h11_0 => ?_)
  · refine r_aloadR0 dX12_count_68 ?_
    refine m_getR (q := (A + 1)) zf_RX12_9 rfl dX12_count_69 (shM_k hs) (shM_p1 hs) ?_
    refine n_iconst dX12_count_72 (by decide) (fun r72 e72_z => ?_)
    refine m_iald (k := 0) (x := (g6 (A + 1) 0)) dX12_count_73 (shM_k1 hs) (shM_n1 hs) (by omega) (by omega) (rfl) ?_
    refine r_iret dX12_count_74 rfl (Nat.le_of_ble_eq_true rfl) (Nat.le_of_ble_eq_true rfl) ?_
    refine hQ _ g6 ?_ ofr oth
    rw [show x.toInt = 0 by omega]
    exact hk6.1.1
  refine n_tabC (k := 1) (t := 75) dX12_count_11 (by decide) rfl (by decide) (fun h11_1 => ?_) (fun h11_1 => ?_)
  · refine r_aloadR0 dX12_count_75 ?_
    refine q_callV0 zm_RX12_253 dX12_count_76 (shM_k hs) (by decide) rfl (Nat.le_of_ble_eq_true rfl) (Nat.le_of_ble_eq_true rfl) (Nat.le_of_ble_eq_true rfl) (Nat.le_of_ble_eq_true rfl) (Nat.le_of_ble_eq_true rfl) (s_X12_cells G hs hk6.1.2.1 (fun r76 e76 => ?_))
    refine r_iret dX12_count_79 rfl (Nat.le_of_ble_eq_true rfl) (Nat.le_of_ble_eq_true rfl) ?_
    refine hQ _ g6 ?_ ofr oth
    rw [show x.toInt = 1 by omega]
    exact e76
  refine n_tabC (k := 2) (t := 80) dX12_count_11 (by decide) rfl (by decide) (fun h11_2 => ?_) (fun h11_2 => ?_)
  · refine r_aloadR0 dX12_count_80 ?_
    refine m_getR (q := (A + 1)) zf_RX12_9 rfl dX12_count_81 (shM_k hs) (shM_p1 hs) ?_
    refine n_iconst dX12_count_84 (by decide) (fun r84 e84 => ?_)
    refine m_iald (k := 2) (x := (g6 (A + 1) 2)) dX12_count_85 (shM_k1 hs) (shM_n1 hs) (by omega) (by omega) (rfl) ?_
    refine r_iret dX12_count_86 rfl (Nat.le_of_ble_eq_true rfl) (Nat.le_of_ble_eq_true rfl) ?_
    refine hQ _ g6 ?_ ofr oth
    rw [show x.toInt = 2 by omega]
    exact hk6.1.2.2.1
  refine n_tabC (k := 3) (t := 87) dX12_count_11 (by decide) rfl (by decide) (fun h11_3 => ?_) (fun h11_3 => ?_)
  · refine r_aloadR0 dX12_count_87 ?_
    refine r_iload2 dX12_count_88 ?_
    refine q_callV1 zm_RX12_256 dX12_count_89 (shM_k hs) (by decide) rfl (Nat.le_of_ble_eq_true rfl) (Nat.le_of_ble_eq_true rfl) (Nat.le_of_ble_eq_true rfl) (Nat.le_of_ble_eq_true rfl) (Nat.le_of_ble_eq_true rfl) (s_X12_columnsAt (v := (tbL T).length) G hs e6_z (by omega) c6_z.1 (fun r89 e89 => ?_))
    refine r_iret dX12_count_92 rfl (Nat.le_of_ble_eq_true rfl) (Nat.le_of_ble_eq_true rfl) ?_
    refine hQ _ g6 ?_ ofr oth
    rw [show x.toInt = 3 by omega]
    exact e89
  refine n_tabC (k := 4) (t := 93) dX12_count_11 (by decide) rfl (by decide) (fun h11_4 => ?_) (fun h11_4 => ?_)
  · refine r_aloadR0 dX12_count_93 ?_
    refine r_iload2 dX12_count_94 ?_
    refine q_callV1 zm_RX12_325 dX12_count_95 (shM_k hs) (by decide) rfl (Nat.le_of_ble_eq_true rfl) (Nat.le_of_ble_eq_true rfl) (Nat.le_of_ble_eq_true rfl) (Nat.le_of_ble_eq_true rfl) (Nat.le_of_ble_eq_true rfl) (s_X12_highestAt (n := tbC T) (L := tbL T) G hs  e6_z (by omega) c6_z hrt (fun r95 e95_z => ?_))
    refine r_iret dX12_count_98 rfl (Nat.le_of_ble_eq_true rfl) (Nat.le_of_ble_eq_true rfl) ?_
    refine hQ _ g6 ?_ ofr oth
    rw [show x.toInt = 4 by omega]
    exact e95_z
  refine n_tabC (k := 5) (t := 99) dX12_count_11 (by decide) rfl (by decide) (fun h11_5 => ?_) (fun h11_5 => ?_)
  · refine r_aloadR0 dX12_count_99 ?_
    refine m_getR (q := (A + 1)) zf_RX12_9 rfl dX12_count_100 (shM_k hs) (shM_p1 hs) ?_
    refine n_bipush dX12_count_103 (by decide) (fun r103 e103_z => ?_)
    refine m_iald (k := 7) (x := (g6 (A + 1) 7)) dX12_count_105 (shM_k1 hs) (shM_n1 hs) (by omega) (by omega) (rfl) ?_
    refine r_iret dX12_count_106 rfl (Nat.le_of_ble_eq_true rfl) (Nat.le_of_ble_eq_true rfl) ?_
    refine hQ _ g6 ?_ ofr oth
    rw [show x.toInt = 5 by omega]
    exact hk6.2.1.1
  refine n_tabC (k := 6) (t := 107) dX12_count_11 (by decide) rfl (by decide) (fun h11_6 => ?_) (fun h11_6 => ?_)
  · refine r_aloadR0 dX12_count_107 ?_
    refine r_iload2 dX12_count_108 ?_
    refine q_callV1 zm_RX12_293 dX12_count_109 (shM_k hs) (by decide) rfl (Nat.le_of_ble_eq_true rfl) (Nat.le_of_ble_eq_true rfl) (Nat.le_of_ble_eq_true rfl) (Nat.le_of_ble_eq_true rfl) (Nat.le_of_ble_eq_true rfl) (s_X12_topAt (n := tbC T) (L := tbL T) G hs (fun c hc_z => hk6.2.1.2.2 c hc_z) hm99 e6_z (by omega) c6_z hrt (fun r109 e109_z => ?_))
    refine r_iret dX12_count_112 rfl (Nat.le_of_ble_eq_true rfl) (Nat.le_of_ble_eq_true rfl) ?_
    refine hQ _ g6 ?_ ofr oth
    rw [show x.toInt = 6 by omega]
    exact e109_z
  refine n_tabC (k := 7) (t := 113) dX12_count_11 (by decide) rfl (by decide) (fun h11_7 => ?_) (fun h11_7 => ?_)
  · refine r_aloadR0 dX12_count_113 ?_
    refine r_iload2 dX12_count_114 ?_
    refine q_callV1 zm_RX12_296 dX12_count_115 (shM_k hs) (by decide) rfl (Nat.le_of_ble_eq_true rfl) (Nat.le_of_ble_eq_true rfl) (Nat.le_of_ble_eq_true rfl) (Nat.le_of_ble_eq_true rfl) (Nat.le_of_ble_eq_true rfl) (s_X12_underAt (n := tbC T) (L := tbL T) G hs (fun c hc_z => hk6.2.1.2.2 c hc_z) hm99 e6_z (by omega) c6_z hrt (fun r115 e115_z => ?_))
    refine r_iret dX12_count_118 rfl (Nat.le_of_ble_eq_true rfl) (Nat.le_of_ble_eq_true rfl) ?_
    refine hQ _ g6 ?_ ofr oth
    rw [show x.toInt = 7 by omega]
    exact e115_z
  refine n_tabC (k := 8) (t := 119) dX12_count_11 (by decide) rfl (by decide) (fun h11_8 => ?_) (fun h11_8 => ?_)
  · refine r_aloadR0 dX12_count_119 ?_
    refine r_iload2 dX12_count_120 ?_
    refine q_callV1 zm_RX12_328 dX12_count_121 (shM_k hs) (by decide) rfl (Nat.le_of_ble_eq_true rfl) (Nat.le_of_ble_eq_true rfl) (Nat.le_of_ble_eq_true rfl) (Nat.le_of_ble_eq_true rfl) (Nat.le_of_ble_eq_true rfl) (s_X12_hiddenAt (n := tbC T) (L := tbL T) G hs hk6.1.2.1 (fun c hc_z => hk6.2.1.2.2 c hc_z) hm99 e6_z (by omega) c6_z hrt (fun r121 e121 => ?_))
    refine r_iret dX12_count_124 rfl (Nat.le_of_ble_eq_true rfl) (Nat.le_of_ble_eq_true rfl) ?_
    refine hQ _ g6 ?_ ofr oth
    rw [show x.toInt = 8 by omega]
    exact e121
  refine n_tabC (k := 9) (t := 125) dX12_count_11 (by decide) rfl (by decide) (fun h11_9 => ?_) (fun h11_9 => ?_)
  · refine r_aloadR0 dX12_count_125 ?_
    refine m_getR (q := (A + 1)) zf_RX12_9 rfl dX12_count_126 (shM_k hs) (shM_p1 hs) ?_
    refine n_bipush dX12_count_129 (by decide) (fun r129 e129 => ?_)
    refine m_iald (k := 6) (x := (g6 (A + 1) 6)) dX12_count_131 (shM_k1 hs) (shM_n1 hs) (by omega) (by omega) (rfl) ?_
    refine r_iret dX12_count_132 rfl (Nat.le_of_ble_eq_true rfl) (Nat.le_of_ble_eq_true rfl) ?_
    refine hQ _ g6 ?_ ofr oth
    rw [show x.toInt = 9 by omega]
    exact hk6.1.2.2.2.2.2.2
  refine n_tabC (k := 10) (t := 133) dX12_count_11 (by decide) rfl (by decide) (fun h11_10 => ?_) (fun h11_10 => ?_)
  · refine r_aloadR0 dX12_count_133 ?_
    refine m_getV (x := (g6 A 6)) zf_RX12_80 rfl dX12_count_134 (shM_k hs) (rfl) ?_
    refine r_iret dX12_count_137 rfl (Nat.le_of_ble_eq_true rfl) (Nat.le_of_ble_eq_true rfl) ?_
    refine hQ _ g6 ?_ ofr oth
    rw [show x.toInt = 10 by omega]
    show _ = (f A 6).toInt
    rw [ofr.2.2 6 (by decide)]
  refine n_tabD (t := 138) dX12_count_11 (by decide) (by omega) ?_
  refine n_iconst dX12_count_138 (by decide) (fun r138 e138 => ?_)
  refine r_iret dX12_count_139 rfl (Nat.le_of_ble_eq_true rfl) (Nat.le_of_ble_eq_true rfl) ?_
  refine hQ _ g6 ?_ ofr oth
  unfold cntI
  rw [if_neg (by omega), if_neg (by omega), if_neg (by omega), if_neg (by omega), if_neg (by omega), if_neg (by omega)]
  omega
set_option maxHeartbeats 4000000 in
set_option maxRecDepth 100000 in
theorem s_X12_fault {g : zGT} {w : zW} {f : Nat → Nat → Int32} {j : Nat → Nat → Int64} {A : Nat} {x : Int32} {Q : Option Value → zW → Prop} {QX : String → zW → Prop} (G : zGok g) (hs : shM w A) (hQ : ∀ (r : Int32) f2_z, r.toInt = (if x.toInt = 0 then (f A 14).toInt else if x.toInt = 1 then (f A 15).toInt else -1) → frM A [] [4] f f2_z → Q (some (.int r)) (zM w f2_z j)) : zC g 1 yX12_fault cX12_fault 2 (some .int) [.ref A, .int x] (zM w f j) (0, 0) Q QX := by
  refine zC_of G (by decide +kernel) (Nat.le_of_ble_eq_true rfl) ?_
  refine r_aloadR0 dX12_fault_0 ?_
  refine n_iconst dX12_fault_1 (by decide) (fun r1 e1_z => ?_)
  refine m_putI zf_RX12_77 (by intro C T N h_z; cases h_z; rfl) rfl dX12_fault_2 (shM_k hs) ?_
  obtain ⟨g2, hg2⟩ : ∃ g9, g9 = zu f A 4 r1 := ⟨_, rfl⟩
  rw [← hg2]
  have og2 : frM A [] [4] f g2 := by rw [hg2]; exact frM_zk frM_rf (by decide)
  have vg2 : g2 A 4 = r1 := by rw [hg2]; exact zu_at
  have vt2 : (g2 A 4).toInt = r1.toInt := by rw [vg2]
  refine r_iload1 dX12_fault_5 ?_
  refine t_ifne (t := 16) dX12_fault_6 (by decide) (fun h6 => ?_) (fun h6 => ?_)
  · refine r_iload1 dX12_fault_16 ?_
    refine n_iconst dX12_fault_17 (by decide) (fun r17 e17_z => ?_)
    refine t_icne (t := 28) dX12_fault_18 (by decide) (fun h18 => ?_) (fun h18 => ?_)
    · refine n_iconst dX12_fault_28 (by decide) (fun r28 e28_z => ?_)
      refine r_iret dX12_fault_29 rfl (Nat.le_of_ble_eq_true rfl) (Nat.le_of_ble_eq_true rfl) ?_
      refine hQ _ g2 ?_ og2
      have q14 := og2.2.2 14 (by decide)
      have q15 := og2.2.2 15 (by decide)
      first
        | (rw [if_pos (by omega), q14])
        | (rw [if_neg (by omega), if_pos (by omega), q15])
        | (rw [if_neg (by omega), if_neg (by omega)]; omega)
    · refine r_aloadR0 dX12_fault_21 ?_
      refine m_getV (x := (g2 A 15)) zf_RX12_26 rfl dX12_fault_22 (shM_k hs) (rfl) ?_
      refine r_goto (t := 29) dX12_fault_25 (by decide) ?_
      refine r_iret dX12_fault_29 rfl (Nat.le_of_ble_eq_true rfl) (Nat.le_of_ble_eq_true rfl) ?_
      refine hQ _ g2 ?_ og2
      have q14 := og2.2.2 14 (by decide)
      have q15 := og2.2.2 15 (by decide)
      first
        | (rw [if_pos (by omega), q14])
        | (rw [if_neg (by omega), if_pos (by omega), q15])
        | (rw [if_neg (by omega), if_neg (by omega)]; omega)
  · refine r_aloadR0 dX12_fault_9 ?_
    refine m_getV (x := (g2 A 14)) zf_RX12_250 rfl dX12_fault_10 (shM_k hs) (rfl) ?_
    refine r_goto (t := 29) dX12_fault_13 (by decide) ?_
    refine r_iret dX12_fault_29 rfl (Nat.le_of_ble_eq_true rfl) (Nat.le_of_ble_eq_true rfl) ?_
    refine hQ _ g2 ?_ og2
    have q14 := og2.2.2 14 (by decide)
    have q15 := og2.2.2 15 (by decide)
    first
      | (rw [if_pos (by omega), q14])
      | (rw [if_neg (by omega), if_pos (by omega), q15])
      | (rw [if_neg (by omega), if_neg (by omega)]; omega)
