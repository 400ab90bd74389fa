/-! the reference: a moment put aside and back -/
set_option maxHeartbeats 4000000 in
set_option maxRecDepth 100000 in
theorem s_X12_putsAside {g : zGT} {w : zW} {f : Nat → Nat → Int32} {j : Nat → Nat → Int64} {A : Nat} {Q : Option Value → zW → Prop} {QX : String → zW → Prop} (G : zGok g) (hs : shM w A) (hQ : ∀ f2_z, (∀ q, q ≠ (A + 10) → f2_z q = f q) → (∀ i, i < 18 → f2_z (A + 10) i = f (A + 1) (7 + i)) → (∀ k, 18 ≤ k → f2_z (A + 10) k = f (A + 10) k) → Q none (zM w f2_z j)) : zC g 1 yX12_putsAside cX12_putsAside 2 none [.ref A] (zM w f j) (0, 0) Q QX := by
  refine zC_of G (by decide +kernel) (Nat.le_of_ble_eq_true rfl) ?_
  have lp : ∀ (mz : Nat) (c : Int32) (k : Nat) (f2_z : Nat → Nat → Int32), c.toInt = (k : Nat) → k ≤ 18 → (∀ q, q ≠ (A + 10) → f2_z q = f q) → (∀ i, i < k → f2_z (A + 10) i = f (A + 1) (7 + i)) → (∀ k, 18 ≤ k → f2_z (A + 10) k = f (A + 10) k) → 18 - k < mz → zR (zV g 1 yX12_putsAside 2 none (0, 0) Q QX) cX12_putsAside yX12_putsAside.cls 2 [some (.ref A), some (.int c)] [] (zM w f2_z j) (0, 0) := by
    intro mz
    induction mz with
    | zero =>
      intro c k f2_z hck hk ho hd_z hr hmz
      exact absurd hmz (Nat.not_lt_zero _)
    | succ mz ih =>
      intro c k f2_z hck hk ho hd_z hr hmz
      rcases Nat.lt_or_ge k 18 with hkl | hkl
      · refine r_iload1 dX12_putsAside_2 ?_
        refine n_bipush dX12_putsAside_3 (by decide) (fun r3 e3_z => ?_)
        refine t_icge (t := 29) dX12_putsAside_5 (by decide) (fun h5 => False.elim (by omega)) (fun h5 => ?_)
        refine r_aloadR0 dX12_putsAside_8 ?_
        refine m_getR (q := (A + 10)) zf_RX12_42 rfl dX12_putsAside_9 (shM_k hs) (shM_p10 hs) ?_
        refine r_iload1 dX12_putsAside_12 ?_
        refine r_aloadR0 dX12_putsAside_13 ?_
        refine m_getR (q := (A + 1)) zf_RX12_9 rfl dX12_putsAside_14 (shM_k hs) (shM_p1 hs) ?_
        refine n_bipush dX12_putsAside_17 (by decide) (fun r17 e17_z => ?_)
        refine r_iload1 dX12_putsAside_19 ?_
        refine n_iadd dX12_putsAside_20 (by omega) (fun r20 e20 => ?_)
        refine m_iald (k := (7 + k)) (x := (f2_z (A + 1) ((7 + k)))) dX12_putsAside_21 (shM_k1 hs) (shM_n1 hs) (by omega) (by omega) (rfl) ?_
        refine m_iast (k := k) dX12_putsAside_22 (shM_k10 hs) (shM_n10 hs) (by omega) (by omega) ?_
        refine n_iinc1 dX12_putsAside_23 (by decide) rfl (by omega) (fun r23 e23_z => ?_)
        refine r_goto (t := 2) dX12_putsAside_26 (by decide) ?_
        refine ih _ (k + 1) _ (by omega) (by omega) (fun q hq => (zu_ne hq).trans (ho q hq)) (fun i hi_z => ?_) (fun k9 hk9 => (zu_nn (Or.inr (by omega))).trans (hr k9 hk9)) (by omega)
        rcases Nat.lt_or_ge i k with h9 | h9
        · rw [zu_nn (Or.inr (by omega))]
          exact hd_z i h9
        · rw [show i = k by omega, zu_at]
          rw [ho (A + 1) (by omega)]
      · refine r_iload1 dX12_putsAside_2 ?_
        refine n_bipush dX12_putsAside_3 (by decide) (fun r3 e3_z => ?_)
        refine t_icge (t := 29) dX12_putsAside_5 (by decide) (fun h5 => ?_) (fun h5 => False.elim (by omega))
        refine r_vret dX12_putsAside_29 rfl (Nat.le_of_ble_eq_true rfl) (Nat.le_of_ble_eq_true rfl) ?_
        exact hQ f2_z ho (fun i hi_z => hd_z i (by omega)) hr
  refine n_iconst dX12_putsAside_0 (by decide) (fun r0 e0_z => ?_)
  refine r_istore1 dX12_putsAside_1 rfl ?_
  exact lp 19 _ 0 f (by omega) (by omega) (fun _ _ => rfl) (fun i hi_z => absurd hi_z (by omega)) (fun _ _ => rfl) (by omega)
set_option maxHeartbeats 4000000 in
set_option maxRecDepth 100000 in
theorem s_X12_putsBack {g : zGT} {w : zW} {f : Nat → Nat → Int32} {j : Nat → Nat → Int64} {A : Nat} {Q : Option Value → zW → Prop} {QX : String → zW → Prop} (G : zGok g) (hs : shM w A) (hQ : ∀ f2_z, (∀ q, q ≠ (A + 1) → f2_z q = f q) → (∀ i, i < 18 → f2_z (A + 1) (7 + i) = f (A + 10) i) → (∀ k, (k < 7 ∨ 25 ≤ k) → f2_z (A + 1) k = f (A + 1) k) → Q none (zM w f2_z j)) : zC g 1 yX12_putsBack cX12_putsBack 2 none [.ref A] (zM w f j) (0, 0) Q QX := by
  refine zC_of G (by decide +kernel) (Nat.le_of_ble_eq_true rfl) ?_
  have lp : ∀ (mz : Nat) (c : Int32) (k : Nat) (f2_z : Nat → Nat → Int32), c.toInt = (k : Nat) → k ≤ 18 → (∀ q, q ≠ (A + 1) → f2_z q = f q) → (∀ i, i < k → f2_z (A + 1) (7 + i) = f (A + 10) i) → (∀ k, (k < 7 ∨ 25 ≤ k) → f2_z (A + 1) k = f (A + 1) k) → 18 - k < mz → zR (zV g 1 yX12_putsBack 2 none (0, 0) Q QX) cX12_putsBack yX12_putsBack.cls 2 [some (.ref A), some (.int c)] [] (zM w f2_z j) (0, 0) := by
    intro mz
    induction mz with
    | zero =>
      intro c k f2_z hck hk ho hd_z hr hmz
      exact absurd hmz (Nat.not_lt_zero _)
    | succ mz ih =>
      intro c k f2_z hck hk ho hd_z hr hmz
      rcases Nat.lt_or_ge k 18 with hkl | hkl
      · refine r_iload1 dX12_putsBack_2 ?_
        refine n_bipush dX12_putsBack_3 (by decide) (fun r3 e3_z => ?_)
        refine t_icge (t := 29) dX12_putsBack_5 (by decide) (fun h5 => False.elim (by omega)) (fun h5 => ?_)
        refine r_aloadR0 dX12_putsBack_8 ?_
        refine m_getR (q := (A + 1)) zf_RX12_9 rfl dX12_putsBack_9 (shM_k hs) (shM_p1 hs) ?_
        refine n_bipush dX12_putsBack_12 (by decide) (fun r12 e12_z => ?_)
        refine r_iload1 dX12_putsBack_14 ?_
        refine n_iadd dX12_putsBack_15 (by omega) (fun r15 e15_z => ?_)
        refine r_aloadR0 dX12_putsBack_16 ?_
        refine m_getR (q := (A + 10)) zf_RX12_42 rfl dX12_putsBack_17 (shM_k hs) (shM_p10 hs) ?_
        refine r_iload1 dX12_putsBack_20 ?_
        refine m_iald (k := k) (x := (f2_z (A + 10) k)) dX12_putsBack_21 (shM_k10 hs) (shM_n10 hs) (by omega) (by omega) (rfl) ?_
        refine m_iast (k := (7 + k)) dX12_putsBack_22 (shM_k1 hs) (shM_n1 hs) (by omega) (by omega) ?_
        refine n_iinc1 dX12_putsBack_23 (by decide) rfl (by omega) (fun r23 e23_z => ?_)
        refine r_goto (t := 2) dX12_putsBack_26 (by decide) ?_
        refine ih _ (k + 1) _ (by omega) (by omega) (fun q hq => (zu_ne hq).trans (ho q hq)) (fun i hi_z => ?_) (fun k9 hk9 => (zu_nn (Or.inr (by omega))).trans (hr k9 hk9)) (by omega)
        rcases Nat.lt_or_ge i k with h9 | h9
        · rw [zu_nn (Or.inr (by omega))]
          exact hd_z i h9
        · rw [show i = k by omega, zu_at]
          rw [ho (A + 10) (by omega)]
      · refine r_iload1 dX12_putsBack_2 ?_
        refine n_bipush dX12_putsBack_3 (by decide) (fun r3 e3_z => ?_)
        refine t_icge (t := 29) dX12_putsBack_5 (by decide) (fun h5 => ?_) (fun h5 => False.elim (by omega))
        refine r_vret dX12_putsBack_29 rfl (Nat.le_of_ble_eq_true rfl) (Nat.le_of_ble_eq_true rfl) ?_
        exact hQ f2_z ho (fun i hi_z => hd_z i (by omega)) hr
  refine n_iconst dX12_putsBack_0 (by decide) (fun r0 e0_z => ?_)
  refine r_istore1 dX12_putsBack_1 rfl ?_
  exact lp 19 _ 0 f (by omega) (by omega) (fun _ _ => rfl) (fun i hi_z => absurd hi_z (by omega)) (fun _ _ => rfl) (by omega)
