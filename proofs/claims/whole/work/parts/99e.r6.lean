/-! the reference reads truths-/
set_option maxHeartbeats 4000000 in
set_option maxRecDepth 100000 in
theorem s_X12_readUnit_x {g : zGT} {w : zW} {f : Nat → Nat → Int32} {j : Nat → Nat → Int64} {A : Nat} {Q : Option Value → zW → Prop} {QX : String → zW → Prop} (G : zGok g) (hs : shM w A) (hb_z : (f A 12).toInt ≠ 0) (hQ : Q none (zM w f j)) : zC g 2 yX12_readUnit cX12_readUnit 2 none [.ref A] (zM w f j) (0, 0) Q QX := by
  refine zC_of G (by decide +kernel) (Nat.le_of_ble_eq_true rfl) ?_
  refine r_aloadR0 dX12_readUnit_0 ?_
  refine m_getV (x := (f A 12)) zf_RX12_112 rfl dX12_readUnit_1 (shM_k hs) (rfl) ?_
  refine t_ifeq (t := 8) dX12_readUnit_4 (by decide) (fun h4 => False.elim (by omega)) (fun h4 => ?_)
  refine r_vret dX12_readUnit_7 rfl (Nat.le_of_ble_eq_true rfl) (Nat.le_of_ble_eq_true rfl) ?_
  exact hQ
set_option maxHeartbeats 4000000 in
set_option maxRecDepth 100000 in
theorem s_X12_readBoth_x {g : zGT} {w : zW} {f : Nat → Nat → Int32} {j : Nat → Nat → Int64} {A : Nat} {wa wv : Nat → Nat} {kq : Nat} {Q : Option Value → zW → Prop} {QX : String → zW → Prop} (G : zGok g) (hs : shM w A) (kw : kWd g wa wv kq) (hld : kLd g wa) (hb_z : (f A 12).toInt ≠ 0) (hQ : Q none (zM w f j)) : zC g 7 yX12_readBoth cX12_readBoth 1 none [.ref A] (zM w f j) (0, 0) Q QX := by
  refine zC_of G (by decide +kernel) (Nat.le_of_ble_eq_true rfl) ?_
  refine r_aloadR0 dX12_readBoth_0 ?_
  refine q_callV0 zm_RX12_165 dX12_readBoth_1 (shM_k hs) (by decide) rfl (Nat.le_of_ble_eq_true rfl) (Nat.le_of_ble_eq_true rfl) (Nat.le_of_ble_eq_true rfl) (Nat.le_of_ble_eq_true rfl) (Nat.le_of_ble_eq_true rfl) (s_X12_readUnit_x G hs hb_z ?_)
  refine r_aloadR0 dX12_readBoth_4 ?_
  refine k_ldc (hld _ (List.mem_of_getElem? (i := 1) rfl)) dX12_readBoth_5 ?_
  refine q_callV1 zm_RX12_142 dX12_readBoth_7 (shM_k hs) (by decide) rfl (Nat.le_of_ble_eq_true rfl) (Nat.le_of_ble_eq_true rfl) (Nat.le_of_ble_eq_true rfl) (Nat.le_of_ble_eq_true rfl) (Nat.le_of_ble_eq_true rfl) (s_X12_took_x (i := 7) (B := fun _ => 0) (n := 0) G hs kw (by decide) hb_z (fun r7 e7_z => ?_))
  refine t_ifeq (t := 26) dX12_readBoth_10 (by decide) (fun h10 => ?_) (fun h10 => False.elim (by omega))
  refine r_vret dX12_readBoth_26 rfl (Nat.le_of_ble_eq_true rfl) (Nat.le_of_ble_eq_true rfl) ?_
  exact hQ
set_option maxHeartbeats 4000000 in
set_option maxRecDepth 100000 in
theorem s_X12_readTruth_x {g : zGT} {w : zW} {f : Nat → Nat → Int32} {j : Nat → Nat → Int64} {A : Nat} {wa wv : Nat → Nat} {kq : Nat} {Q : Option Value → zW → Prop} {QX : String → zW → Prop} (G : zGok g) (hs : shM w A) (kw : kWd g wa wv kq) (hld : kLd g wa) (hb_z : (f A 12).toInt ≠ 0) (hQ : Q none (zM w f j)) : zC g 8 yX12_readTruth cX12_readTruth 1 none [.ref A] (zM w f j) (0, 0) Q QX := by
  refine zC_of G (by decide +kernel) (Nat.le_of_ble_eq_true rfl) ?_
  refine r_aloadR0 dX12_readTruth_0 ?_
  refine q_callV0 zm_RX12_157 dX12_readTruth_1 (shM_k hs) (by decide) rfl (Nat.le_of_ble_eq_true rfl) (Nat.le_of_ble_eq_true rfl) (Nat.le_of_ble_eq_true rfl) (Nat.le_of_ble_eq_true rfl) (Nat.le_of_ble_eq_true rfl) (s_X12_readBoth_x G hs kw hld hb_z ?_)
  refine r_aloadR0 dX12_readTruth_4 ?_
  refine k_ldc (hld _ (List.mem_of_getElem? (i := 0) rfl)) dX12_readTruth_5 ?_
  refine q_callV1 zm_RX12_142 dX12_readTruth_7 (shM_k hs) (by decide) rfl (Nat.le_of_ble_eq_true rfl) (Nat.le_of_ble_eq_true rfl) (Nat.le_of_ble_eq_true rfl) (Nat.le_of_ble_eq_true rfl) (Nat.le_of_ble_eq_true rfl) (s_X12_took_x (i := 6) (B := fun _ => 0) (n := 0) G hs kw (by decide) hb_z (fun r7 e7_z => ?_))
  refine t_ifeq (t := 26) dX12_readTruth_10 (by decide) (fun h10 => ?_) (fun h10 => False.elim (by omega))
  refine r_vret dX12_readTruth_26 rfl (Nat.le_of_ble_eq_true rfl) (Nat.le_of_ble_eq_true rfl) ?_
  exact hQ
