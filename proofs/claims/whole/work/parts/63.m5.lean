/-! the reference: which tray, how many folds, what is told -/
set_option maxHeartbeats 4000000 in
set_option maxRecDepth 100000 in
theorem s_X12_isTray {g : zGT} {w : zW} {f : Nat → Nat → Int32} {j : Nat → Nat → Int64} {x : Int32} {Q : Option Value → zW → Prop} {QX : String → zW → Prop} (G : zGok g)  (hQ : ∀ r : Int32, (r.toInt = 1 ∧ (0 ≤ x.toInt ∧ x.toInt ≤ 3) ∨ r.toInt = 0 ∧ ¬ (0 ≤ x.toInt ∧ x.toInt ≤ 3)) → Q (some (.int r)) (zM w f j)) : zC g 2 yX12_isTray cX12_isTray 1 (some .boolean) [.int x] (zM w f j) (0, 0) Q QX := by
  refine zC_of G (by decide +kernel) (Nat.le_of_ble_eq_true rfl) ?_
  refine r_iload0 dX12_isTray_0 ?_
  refine n_i2l dX12_isTray_1 (fun r1 e1_z => ?_)
  refine n_lconst (q := 0) dX12_isTray_2 rfl (by decide) (fun r2 e2_z => ?_)
  refine n_ldc2 (n := 3) zk_RX12_259 dX12_isTray_3 (by decide) (fun r3 e3_z => ?_)
  refine q_callS3 zm_RX12_138 dX12_isTray_6 (Nat.le_of_ble_eq_true rfl) (Nat.le_of_ble_eq_true rfl) (Nat.le_of_ble_eq_true rfl) (Nat.le_of_ble_eq_true rfl) (Nat.le_of_ble_eq_true rfl) (s_X12_within G  (fun r6 e6_z => ?_))
  refine m_zret dX12_isTray_9 rfl (by omega) (Nat.le_of_ble_eq_true rfl) (Nat.le_of_ble_eq_true rfl) ?_
  exact hQ _ (by omega)
set_option maxHeartbeats 4000000 in
set_option maxRecDepth 100000 in
theorem s_X12_isMore {g : zGT} {w : zW} {f : Nat → Nat → Int32} {j : Nat → Nat → Int64} {x : Int32} {Q : Option Value → zW → Prop} {QX : String → zW → Prop} (G : zGok g)  (hQ : ∀ r : Int32, (r.toInt = 1 ∧ (0 ≤ x.toInt ∧ x.toInt ≤ 5) ∨ r.toInt = 0 ∧ ¬ (0 ≤ x.toInt ∧ x.toInt ≤ 5)) → Q (some (.int r)) (zM w f j)) : zC g 2 yX12_isMore cX12_isMore 1 (some .boolean) [.int x] (zM w f j) (0, 0) Q QX := by
  refine zC_of G (by decide +kernel) (Nat.le_of_ble_eq_true rfl) ?_
  refine r_iload0 dX12_isMore_0 ?_
  refine n_i2l dX12_isMore_1 (fun r1 e1_z => ?_)
  refine n_lconst (q := 0) dX12_isMore_2 rfl (by decide) (fun r2 e2_z => ?_)
  refine n_ldc2 (n := 5) zk_RX12_497 dX12_isMore_3 (by decide) (fun r3 e3_z => ?_)
  refine q_callS3 zm_RX12_138 dX12_isMore_6 (Nat.le_of_ble_eq_true rfl) (Nat.le_of_ble_eq_true rfl) (Nat.le_of_ble_eq_true rfl) (Nat.le_of_ble_eq_true rfl) (Nat.le_of_ble_eq_true rfl) (s_X12_within G  (fun r6 e6_z => ?_))
  refine m_zret dX12_isMore_9 rfl (by omega) (Nat.le_of_ble_eq_true rfl) (Nat.le_of_ble_eq_true rfl) ?_
  exact hQ _ (by omega)
set_option maxHeartbeats 4000000 in
set_option maxRecDepth 100000 in
theorem s_X12_isWhat {g : zGT} {w : zW} {f : Nat → Nat → Int32} {j : Nat → Nat → Int64} {x : Int32} {Q : Option Value → zW → Prop} {QX : String → zW → Prop} (G : zGok g)  (hQ : ∀ r : Int32, (r.toInt = 1 ∧ (x.toInt = 0 ∨ 10 ≤ x.toInt ∧ x.toInt ≤ 14) ∨ r.toInt = 0 ∧ ¬ (x.toInt = 0 ∨ 10 ≤ x.toInt ∧ x.toInt ≤ 14)) → Q (some (.int r)) (zM w f j)) : zC g 2 yX12_isWhat cX12_isWhat 1 (some .boolean) [.int x] (zM w f j) (0, 0) Q QX := by
  refine zC_of G (by decide +kernel) (Nat.le_of_ble_eq_true rfl) ?_
  refine r_iload0 dX12_isWhat_0 ?_
  refine t_ifeq (t := 18) dX12_isWhat_1 (by decide) (fun h1 => ?_) (fun h1 => ?_)
  · refine n_iconst dX12_isWhat_18 (by decide) (fun r18 e18_z => ?_)
    refine r_goto (t := 23) dX12_isWhat_19 (by decide) ?_
    refine m_zret dX12_isWhat_23 rfl (by omega) (Nat.le_of_ble_eq_true rfl) (Nat.le_of_ble_eq_true rfl) ?_
    exact hQ _ (by omega)
  · refine r_iload0 dX12_isWhat_4 ?_
    refine n_i2l dX12_isWhat_5 (fun r5 e5_z => ?_)
    refine n_ldc2 (n := 10) zk_RX12_370 dX12_isWhat_6 (by decide) (fun r6 e6_z => ?_)
    refine n_ldc2 (n := 14) zk_RX12_508 dX12_isWhat_9 (by decide) (fun r9 e9_z => ?_)
    refine q_callS3 zm_RX12_138 dX12_isWhat_12 (Nat.le_of_ble_eq_true rfl) (Nat.le_of_ble_eq_true rfl) (Nat.le_of_ble_eq_true rfl) (Nat.le_of_ble_eq_true rfl) (Nat.le_of_ble_eq_true rfl) (s_X12_within G  (fun r12 e12_z => ?_))
    refine t_ifeq (t := 22) dX12_isWhat_15 (by decide) (fun h15 => ?_) (fun h15 => ?_)
    · refine n_iconst dX12_isWhat_22 (by decide) (fun r22 e22_z => ?_)
      refine m_zret dX12_isWhat_23 rfl (by omega) (Nat.le_of_ble_eq_true rfl) (Nat.le_of_ble_eq_true rfl) ?_
      exact hQ _ (by omega)
    · refine n_iconst dX12_isWhat_18 (by decide) (fun r18 e18_z => ?_)
      refine r_goto (t := 23) dX12_isWhat_19 (by decide) ?_
      refine m_zret dX12_isWhat_23 rfl (by omega) (Nat.le_of_ble_eq_true rfl) (Nat.le_of_ble_eq_true rfl) ?_
      exact hQ _ (by omega)
set_option maxHeartbeats 4000000 in
set_option maxRecDepth 100000 in
theorem s_X12_trayFault {g : zGT} {w : zW} {f : Nat → Nat → Int32} {j : Nat → Nat → Int64} {A : Nat} {x : Int32} {Q : Option Value → zW → Prop} {QX : String → zW → Prop} (G : zGok g) (hs : shM w A) (hQ : ∀ r : Int32, r.toInt = (if 0 ≤ x.toInt ∧ x.toInt ≤ 3 then (if (f (A + 18) x.toInt.toNat).toInt = -1 then 2 else 0) else 1) → Q (some (.int r)) (zM w f j)) : zC g 3 yX12_trayFault cX12_trayFault 2 (some .int) [.ref A, .int x] (zM w f j) (0, 0) Q QX := by
  refine zC_of G (by decide +kernel) (Nat.le_of_ble_eq_true rfl) ?_
  refine r_iload1 dX12_trayFault_0 ?_
  refine q_callS1 zm_RX12_372 dX12_trayFault_1 (Nat.le_of_ble_eq_true rfl) (Nat.le_of_ble_eq_true rfl) (Nat.le_of_ble_eq_true rfl) (Nat.le_of_ble_eq_true rfl) (Nat.le_of_ble_eq_true rfl) (s_X12_isTray G  (fun r1 e1_z => ?_))
  refine t_ifne (t := 11) dX12_trayFault_4 (by decide) (fun h4 => ?_) (fun h4 => ?_)
  · refine r_aloadR0 dX12_trayFault_11 ?_
    refine m_getR (q := (A + 18)) zf_RX12_68 rfl dX12_trayFault_12 (shM_k hs) (shM_p18 hs) ?_
    refine r_iload1 dX12_trayFault_15 ?_
    refine m_iald (k := x.toInt.toNat) (x := (f (A + 18) x.toInt.toNat)) dX12_trayFault_16 (shM_k18 hs) (shM_n18 hs) (by omega) (by omega) (rfl) ?_
    refine n_iconst dX12_trayFault_17 (by decide) (fun r17 e17_z => ?_)
    refine t_icne (t := 25) dX12_trayFault_18 (by decide) (fun h18 => ?_) (fun h18 => ?_)
    · refine n_iconst dX12_trayFault_25 (by decide) (fun r25 e25_z => ?_)
      refine r_iret dX12_trayFault_26 rfl (Nat.le_of_ble_eq_true rfl) (Nat.le_of_ble_eq_true rfl) ?_
      refine hQ _ ?_
      first
        | (rw [if_neg (by omega)]; omega)
        | (rw [if_pos (by omega), if_pos (by omega)]; omega)
        | (rw [if_pos (by omega), if_neg (by omega)]; omega)
    · refine n_iconst dX12_trayFault_21 (by decide) (fun r21 e21_z => ?_)
      refine r_goto (t := 26) dX12_trayFault_22 (by decide) ?_
      refine r_iret dX12_trayFault_26 rfl (Nat.le_of_ble_eq_true rfl) (Nat.le_of_ble_eq_true rfl) ?_
      refine hQ _ ?_
      first
        | (rw [if_neg (by omega)]; omega)
        | (rw [if_pos (by omega), if_pos (by omega)]; omega)
        | (rw [if_pos (by omega), if_neg (by omega)]; omega)
  · refine n_iconst dX12_trayFault_7 (by decide) (fun r7 e7_z => ?_)
    refine r_goto (t := 26) dX12_trayFault_8 (by decide) ?_
    refine r_iret dX12_trayFault_26 rfl (Nat.le_of_ble_eq_true rfl) (Nat.le_of_ble_eq_true rfl) ?_
    refine hQ _ ?_
    first
      | (rw [if_neg (by omega)]; omega)
      | (rw [if_pos (by omega), if_pos (by omega)]; omega)
      | (rw [if_pos (by omega), if_neg (by omega)]; omega)
set_option maxHeartbeats 4000000 in
set_option maxRecDepth 100000 in
theorem s_X12_addsFold {g : zGT} {w : zW} {f : Nat → Nat → Int32} {j : Nat → Nat → Int64} {A : Nat} {x : Int32} {d : Nat} {M : zMo} {Q : Option Value → zW → Prop} {QX : String → zW → Prop} (G : zGok g) (hs : shM w A) (hm_z : ctMk (f (A + 1)) 7 M) (hl : M.2.length < 5) (hx : x.toInt = (d : Nat)) (hQ : ∀ f2_z, (∀ q, q ≠ A + 1 → f2_z q = f q) → (∀ k, (k < 7 ∨ 13 ≤ k) → f2_z (A + 1) k = f (A + 1) k) → ctMk (f2_z (A + 1)) 7 (M.1, M.2 ++ [d]) → Q none (zM w f2_z j)) : zC g 1 yX12_addsFold cX12_addsFold 2 none [.ref A, .int x] (zM w f j) (0, 0) Q QX := by
  refine zC_of G (by decide +kernel) (Nat.le_of_ble_eq_true rfl) ?_
  obtain ⟨m1_z, m2_z, m3_z⟩ := hm_z
  refine r_aloadR0 dX12_addsFold_0 ?_
  refine m_getR (q := (A + 1)) zf_RX12_9 rfl dX12_addsFold_1 (shM_k hs) (shM_p1 hs) ?_
  refine n_bipush dX12_addsFold_4 (by decide) (fun r4 e4_z => ?_)
  refine r_aloadR0 dX12_addsFold_6 ?_
  refine m_getR (q := (A + 1)) zf_RX12_9 rfl dX12_addsFold_7 (shM_k hs) (shM_p1 hs) ?_
  refine n_bipush dX12_addsFold_10 (by decide) (fun r10 e10_z => ?_)
  refine m_iald (k := 7) (x := (f (A + 1) 7)) dX12_addsFold_12 (shM_k1 hs) (shM_n1 hs) (by omega) (by omega) (rfl) ?_
  refine n_iadd dX12_addsFold_13 (by omega) (fun r13 e13_z => ?_)
  refine r_iload1 dX12_addsFold_14 ?_
  refine m_iast (k := (8 + M.2.length)) dX12_addsFold_15 (shM_k1 hs) (shM_n1 hs) (by omega) (by omega) ?_
  refine r_aloadR0 dX12_addsFold_16 ?_
  refine m_getR (q := (A + 1)) zf_RX12_9 rfl dX12_addsFold_17 (shM_k hs) (shM_p1 hs) ?_
  refine n_bipush dX12_addsFold_20 (by decide) (fun r20 e20 => ?_)
  refine r_dup2 dX12_addsFold_22 rfl rfl ?_
  refine m_iald (k := 7) (x := (f (A + 1) 7)) dX12_addsFold_23 (shM_k1 hs) (shM_n1 hs) (by omega) (by omega) ((zu_nn (by omega)).trans (rfl)) ?_
  refine n_iconst dX12_addsFold_24 (by decide) (fun r24 e24_z => ?_)
  refine n_iadd dX12_addsFold_25 (by omega) (fun r25 e25_z => ?_)
  refine m_iast (k := 7) dX12_addsFold_26 (shM_k1 hs) (shM_n1 hs) (by omega) (by omega) ?_
  refine r_vret dX12_addsFold_27 rfl (Nat.le_of_ble_eq_true rfl) (Nat.le_of_ble_eq_true rfl) ?_
  refine hQ _ (fun q hq => (zu_ne hq).trans (zu_ne hq)) (fun k hk => (zu_nn (Or.inr (by omega))).trans (zu_nn (Or.inr (by omega)))) ⟨?_, fun i e hi_z => ?_, fun c hc_z => ?_⟩
  · rw [zu_at]
    show _ = ((M.2 ++ [d]).length : Int)
    rw [List.length_append, List.length_singleton]
    omega
  · have hi2 : (M.2 ++ [d])[i]? = some e := hi_z
    rw [zu_nn (Or.inr (by omega))]
    rcases Nat.lt_or_ge i M.2.length with h9 | h9
    · rw [List.getElem?_append_left h9] at hi2
      rw [zu_nn (Or.inr (by omega))]
      exact m2_z i e hi2
    · have h91 : i = M.2.length := by have := (List.getElem?_eq_some_iff.mp hi2).1; rw [List.length_append, List.length_singleton] at this; omega
      rw [h91, List.getElem?_append_right (Nat.le_refl _), Nat.sub_self] at hi2
      have h92 : d = e := Option.some.inj hi2
      rw [h91, show 7 + 1 + M.2.length = 8 + M.2.length by omega, zu_at, ← h92]
      exact hx
  · have h9 := m3_z c hc_z
    rw [zu_nn (Or.inr (by omega)), zu_nn (Or.inr (by omega)), zu_nn (Or.inr (by omega)), zu_nn (Or.inr (by omega))]
    exact h9
