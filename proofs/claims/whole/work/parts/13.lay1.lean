/-! LAY: reading and building -/
def zst (L : zLy) (c : Int) : Nat := if 1 ≤ c ∧ c < L.length then lyP L c.toNat else 0
def zen (L : zLy) (c : Int) : Nat := if 0 ≤ c ∧ c < L.length then lyP L (c.toNat + 1) else 0
set_option maxHeartbeats 4000000 in
set_option maxRecDepth 100000 in
theorem s_X2_empty {g : zGT} {w : zW} {a : Nat} {Q : Option Value → zW → Prop} {QX : String → zW → Prop} (G : zGok g) (hs : shLay w a) (hQ : ∀ f2, ofLay (zI w) f2 a → ctLay f2 a [] [] → Q none (zsI w f2)) : zC g 1 yX2_empty cX2_empty 1 none [.ref a] w (0, 0) Q QX := by
  refine zC_of G (by decide +kernel) (Nat.le_of_ble_eq_true rfl) ?_
  refine r_aloadR0 dX2_empty_0 ?_
  refine r_iconst (v := 0) dX2_empty_1 (by decide) ?_
  refine r_putI zf_RX2_22 (by intro C T N h; cases h; rfl) rfl dX2_empty_2 (shLay_k hs) ?_
  refine r_aloadR0 dX2_empty_5 ?_
  refine r_iconst (v := 0) dX2_empty_6 (by decide) ?_
  refine r_putI zf_RX2_26 (by intro C T N h; cases h; rfl) rfl dX2_empty_7 (shLay_k hs) ?_
  refine r_vret dX2_empty_10 rfl (Nat.le_of_ble_eq_true rfl) (Nat.le_of_ble_eq_true rfl) ?_
  exact hQ (zu (zu (zI w) a 3 0) a 4 0) (ofLay_zu (ofLay_zu ofLay_rf ⟨Nat.le_refl _, by omega⟩) ⟨Nat.le_refl _, by omega⟩) ctLay_0
set_option maxHeartbeats 4000000 in
set_option maxRecDepth 100000 in
theorem s_X2_lay {g : zGT} {w : zW} {a : Nat} {L : zLy} {C : List (Nat × Bool)} {c : Nat} {u : Bool} {x y : Int32} {Q : Option Value → zW → Prop} {QX : String → zW → Prop} (G : zGok g) (hs : shLay w a) (hc : ctLay (zI w) a L C) (hl : (L.flatten ++ C).length < 6) (hx : x = nI c) (hy : y = if u then 1 else 0) (hQ : ∀ f2, ofLay (zI w) f2 a → ctLay f2 a L (C ++ [(c, u)]) → Q none (zsI w f2)) : zC g 1 yX2_lay cX2_lay 3 none [.ref a, .int x, .int y] w (0, 0) Q QX := by
  refine zC_of G (by decide +kernel) (Nat.le_of_ble_eq_true rfl) ?_
  have hc := hc
  have hc9 := hc
  obtain ⟨e3, e4, e1, e2, b1, b2⟩ := hc
  have n3 : (zI w a 3).toInt = ((L.flatten ++ C).length : Nat) := by rw [e3]; exact zi_n (by omega)
  have n4 : (zI w a 4).toInt = (L.length : Nat) := by rw [e4]; exact zi_n (by omega)
  have k1 : (nI (zN w (a + 1))).toInt = 6 := by rw [shLay_n1 hs]; rfl
  have k2 : (nI (zN w (a + 2))).toInt = 6 := by rw [shLay_n2 hs]; rfl
  have hc := hc9
  refine r_aloadR0 dX2_lay_0 ?_
  refine r_getI zf_RX2_22 rfl dX2_lay_1 (shLay_k hs) ?_
  refine t_iflt (t := 61) dX2_lay_4 (by decide) (fun h4 => False.elim (by omega)) (fun h4 => ?_)
  refine r_aloadR0 dX2_lay_7 ?_
  refine r_getI zf_RX2_22 rfl dX2_lay_8 (shLay_k hs) ?_
  refine r_aloadR0 dX2_lay_11 ?_
  refine r_getR (q := (a + 1)) zf_RX2_9 rfl dX2_lay_12 (shLay_k hs) (shLay_p0 hs) ?_
  refine r_alen dX2_lay_15 (zge (shLay_k1 hs) (by decide)) ?_
  refine t_icge (t := 61) dX2_lay_16 (by decide) (fun h16 => False.elim (by omega)) (fun h16 => ?_)
  refine r_aloadR0 dX2_lay_19 ?_
  refine r_getI zf_RX2_22 rfl dX2_lay_20 (shLay_k hs) ?_
  refine r_aloadR0 dX2_lay_23 ?_
  refine r_getR (q := (a + 2)) zf_RX2_15 rfl dX2_lay_24 (shLay_k hs) (shLay_p1 hs) ?_
  refine r_alen dX2_lay_27 (zge (shLay_k2 hs) (by decide)) ?_
  refine t_icge (t := 61) dX2_lay_28 (by decide) (fun h28 => False.elim (by omega)) (fun h28 => ?_)
  refine r_aloadR0 dX2_lay_31 ?_
  refine r_getR (q := (a + 1)) zf_RX2_9 rfl dX2_lay_32 (shLay_k hs) (shLay_p0 hs) ?_
  refine r_aloadR0 dX2_lay_35 ?_
  refine r_getI zf_RX2_22 rfl dX2_lay_36 (shLay_k hs) ?_
  refine r_iload1 dX2_lay_39 ?_
  refine r_iast dX2_lay_40 (shLay_k1 hs) (by rw [shLay_n1 hs]; exact zi_in (by omega) (by omega)) ?_
  refine r_aloadR0 dX2_lay_41 ?_
  refine r_getR (q := (a + 2)) zf_RX2_15 rfl dX2_lay_42 (shLay_k hs) (shLay_p1 hs) ?_
  refine r_aloadR0 dX2_lay_45 ?_
  refine r_getV (x := zI w a 3) zf_RX2_22 rfl dX2_lay_46 (shLay_k hs) (zu_ne2 (by omega)) ?_
  refine r_iload2 dX2_lay_49 ?_
  refine r_zast dX2_lay_50 (shLay_k2 hs) (by first | (show vp_in (zI w a 3) (zN w (a + 2)); rw [shLay_n2 hs]; exact zi_in (by omega) (by omega)) | (have := shLay_n2 hs; exact zi_in (by omega) (by omega))) ?_
  refine r_aloadR0 dX2_lay_51 ?_
  refine r_dup dX2_lay_52 rfl ?_
  refine r_getV (x := zI w a 3) zf_RX2_22 rfl dX2_lay_53 (shLay_k hs) ((zu_ne2 (by omega)).trans (zu_ne2 (by omega))) ?_
  refine r_iconst (v := 1) dX2_lay_56 (by decide) ?_
  refine r_iadd dX2_lay_57 ?_
  refine r_putI zf_RX2_22 (by intro C T N h; cases h; rfl) rfl dX2_lay_58 (shLay_k hs) ?_
  refine r_vret dX2_lay_61 rfl (Nat.le_of_ble_eq_true rfl) (Nat.le_of_ble_eq_true rfl) ?_
  have ei : (zI w a 3).toNatClampNeg = (L.flatten ++ C).length := by rw [e3]; exact nI_clamp (by omega)
  have ey : vp_nar .boolean y = y := by subst hy; cases u <;> rfl
  rw [ei, ey]
  exact hQ _ (ofLay_zu (ofLay_zu (ofLay_zu ofLay_rf ⟨by omega, by omega⟩) ⟨by omega, by omega⟩) ⟨Nat.le_refl _, by omega⟩) (ctLay_lay hc hl hx hy (by rw [e3]; exact nI_1 _))
set_option maxHeartbeats 4000000 in
set_option maxRecDepth 100000 in
theorem s_X2_closeColumn {g : zGT} {w : zW} {a : Nat} {L : zLy} {C : List (Nat × Bool)} {Q : Option Value → zW → Prop} {QX : String → zW → Prop} (G : zGok g) (hs : shLay w a) (hc : ctLay (zI w) a L C) (hl : L.length < 6) (hQ : ∀ f2, ofLay (zI w) f2 a → ctLay f2 a (L ++ [C]) [] → Q none (zsI w f2)) : zC g 1 yX2_closeColumn cX2_closeColumn 1 none [.ref a] w (0, 0) Q QX := by
  refine zC_of G (by decide +kernel) (Nat.le_of_ble_eq_true rfl) ?_
  have hc9 := hc
  obtain ⟨e3, e4, e1, e2, b1, b2⟩ := hc
  have n3 : (zI w a 3).toInt = ((L.flatten ++ C).length : Nat) := by rw [e3]; exact zi_n (by omega)
  have n4 : (zI w a 4).toInt = (L.length : Nat) := by rw [e4]; exact zi_n (by omega)
  have k3 : (nI (zN w (a + 3))).toInt = 6 := by rw [shLay_n3 hs]; rfl
  have hc := hc9
  refine r_aloadR0 dX2_closeColumn_0 ?_
  refine r_getI zf_RX2_26 rfl dX2_closeColumn_1 (shLay_k hs) ?_
  refine t_iflt (t := 42) dX2_closeColumn_4 (by decide) (fun h4 => False.elim (by omega)) (fun h4 => ?_)
  refine r_aloadR0 dX2_closeColumn_7 ?_
  refine r_getI zf_RX2_26 rfl dX2_closeColumn_8 (shLay_k hs) ?_
  refine r_aloadR0 dX2_closeColumn_11 ?_
  refine r_getR (q := (a + 3)) zf_RX2_19 rfl dX2_closeColumn_12 (shLay_k hs) (shLay_p2 hs) ?_
  refine r_alen dX2_closeColumn_15 (zge (shLay_k3 hs) (by decide)) ?_
  refine t_icge (t := 42) dX2_closeColumn_16 (by decide) (fun h16 => False.elim (by omega)) (fun h16 => ?_)
  refine r_aloadR0 dX2_closeColumn_19 ?_
  refine r_getR (q := (a + 3)) zf_RX2_19 rfl dX2_closeColumn_20 (shLay_k hs) (shLay_p2 hs) ?_
  refine r_aloadR0 dX2_closeColumn_23 ?_
  refine r_getI zf_RX2_26 rfl dX2_closeColumn_24 (shLay_k hs) ?_
  refine r_aloadR0 dX2_closeColumn_27 ?_
  refine r_getI zf_RX2_22 rfl dX2_closeColumn_28 (shLay_k hs) ?_
  refine r_iast dX2_closeColumn_31 (shLay_k3 hs) (by rw [shLay_n3 hs]; exact zi_in (by omega) (by omega)) ?_
  refine r_aloadR0 dX2_closeColumn_32 ?_
  refine r_dup dX2_closeColumn_33 rfl ?_
  refine r_getV (x := zI w a 4) zf_RX2_26 rfl dX2_closeColumn_34 (shLay_k hs) (zu_ne2 (by omega)) ?_
  refine r_iconst (v := 1) dX2_closeColumn_37 (by decide) ?_
  refine r_iadd dX2_closeColumn_38 ?_
  refine r_putI zf_RX2_26 (by intro C T N h; cases h; rfl) rfl dX2_closeColumn_39 (shLay_k hs) ?_
  refine r_vret dX2_closeColumn_42 rfl (Nat.le_of_ble_eq_true rfl) (Nat.le_of_ble_eq_true rfl) ?_
  have ei : (zI w a 4).toNatClampNeg = L.length := by rw [e4]; exact nI_clamp (by omega)
  rw [ei]
  exact hQ _ (ofLay_zu (ofLay_zu ofLay_rf ⟨by omega, by omega⟩) ⟨Nat.le_refl _, by omega⟩) (ctLay_close hc hl e3 (by rw [e4]; exact nI_1 _))
set_option maxHeartbeats 4000000 in
set_option maxRecDepth 100000 in
theorem s_X2_startOf {g : zGT} {w : zW} {a : Nat} {L : zLy} {C : List (Nat × Bool)} {c : Int32} {Q : Option Value → zW → Prop} {QX : String → zW → Prop} (G : zGok g) (hs : shLay w a) (hc : ctLay (zI w) a L C) (hQ : ∀ r, r = nI (zst L c.toInt) → Q (some (.int r)) w) : zC g 1 yX2_startOf cX2_startOf 2 (some .int) [.ref a, .int c] w (0, 0) Q QX := by
  refine zC_of G (by decide +kernel) (Nat.le_of_ble_eq_true rfl) ?_
  obtain ⟨e3, e4, e1, e2, b1, b2⟩ := hc
  have n3 : (zI w a 3).toInt = ((L.flatten ++ C).length : Nat) := by rw [e3]; exact zi_n (by omega)
  have n4 : (zI w a 4).toInt = (L.length : Nat) := by rw [e4]; exact zi_n (by omega)
  have k3 : (nI (zN w (a + 3))).toInt = 6 := by rw [shLay_n3 hs]; rfl
  have i1 : (1 : Int32).toInt = 1 := rfl
  refine r_iload1 dX2_startOf_0 ?_
  refine r_iconst (v := 1) dX2_startOf_1 (by decide) ?_
  refine t_iclt (t := 33) dX2_startOf_2 (by decide) (fun h2 => ?_) (fun h2 => ?_)
  · refine r_iconst (v := 0) dX2_startOf_33 (by decide) ?_
    refine r_iret dX2_startOf_34 rfl (Nat.le_of_ble_eq_true rfl) (Nat.le_of_ble_eq_true rfl) ?_
    refine hQ _ ?_
    first
      | (have ei : (c - 1).toNatClampNeg = c.toInt.toNat - 1 := by rw [← Int32.toNat_toInt, ec]; omega
         rw [ei, e2 _ (by omega), zst, if_pos (by omega), show c.toInt.toNat - 1 + 1 = c.toInt.toNat by omega])
      | (rw [zst, if_neg (by omega)]; rfl)
  · refine r_iload1 dX2_startOf_5 ?_
    refine r_aloadR0 dX2_startOf_6 ?_
    refine r_getI zf_RX2_26 rfl dX2_startOf_7 (shLay_k hs) ?_
    refine t_icge (t := 33) dX2_startOf_10 (by decide) (fun h10 => ?_) (fun h10 => ?_)
    · refine r_iconst (v := 0) dX2_startOf_33 (by decide) ?_
      refine r_iret dX2_startOf_34 rfl (Nat.le_of_ble_eq_true rfl) (Nat.le_of_ble_eq_true rfl) ?_
      refine hQ _ ?_
      first
        | (have ei : (c - 1).toNatClampNeg = c.toInt.toNat - 1 := by rw [← Int32.toNat_toInt, ec]; omega
           rw [ei, e2 _ (by omega), zst, if_pos (by omega), show c.toInt.toNat - 1 + 1 = c.toInt.toNat by omega])
        | (rw [zst, if_neg (by omega)]; rfl)
    · refine r_iload1 dX2_startOf_13 ?_
      refine r_aloadR0 dX2_startOf_14 ?_
      refine r_getR (q := (a + 3)) zf_RX2_19 rfl dX2_startOf_15 (shLay_k hs) (shLay_p2 hs) ?_
      refine r_alen dX2_startOf_18 (zge (shLay_k3 hs) (by decide)) ?_
      refine t_icgt (t := 33) dX2_startOf_19 (by decide) (fun h19 => False.elim (by omega)) (fun h19 => ?_)
      have ec : (c - 1).toInt = c.toInt - 1 := zi_sub (by rw [zi_1]; omega)
      refine r_aloadR0 dX2_startOf_22 ?_
      refine r_getR (q := (a + 3)) zf_RX2_19 rfl dX2_startOf_23 (shLay_k hs) (shLay_p2 hs) ?_
      refine r_iload1 dX2_startOf_26 ?_
      refine r_iconst (v := 1) dX2_startOf_27 (by decide) ?_
      refine r_isub dX2_startOf_28 ?_
      refine r_iald dX2_startOf_29 (shLay_k3 hs) (by rw [shLay_n3 hs]; exact zi_in (by rw [ec]; omega) (by rw [ec]; omega)) ?_
      refine r_goto (t := 34) dX2_startOf_30 (by decide) ?_
      refine r_iret dX2_startOf_34 rfl (Nat.le_of_ble_eq_true rfl) (Nat.le_of_ble_eq_true rfl) ?_
      refine hQ _ ?_
      first
        | (have ei : (c - 1).toNatClampNeg = c.toInt.toNat - 1 := by rw [← Int32.toNat_toInt, ec]; omega
           rw [ei, e2 _ (by omega), zst, if_pos (by omega), show c.toInt.toNat - 1 + 1 = c.toInt.toNat by omega])
        | (rw [zst, if_neg (by omega)]; rfl)
set_option maxHeartbeats 4000000 in
set_option maxRecDepth 100000 in
theorem s_X2_endOf {g : zGT} {w : zW} {a : Nat} {L : zLy} {C : List (Nat × Bool)} {c : Int32} {Q : Option Value → zW → Prop} {QX : String → zW → Prop} (G : zGok g) (hs : shLay w a) (hc : ctLay (zI w) a L C) (hQ : ∀ r, r = nI (zen L c.toInt) → Q (some (.int r)) w) : zC g 1 yX2_endOf cX2_endOf 2 (some .int) [.ref a, .int c] w (0, 0) Q QX := by
  refine zC_of G (by decide +kernel) (Nat.le_of_ble_eq_true rfl) ?_
  obtain ⟨e3, e4, e1, e2, b1, b2⟩ := hc
  have n3 : (zI w a 3).toInt = ((L.flatten ++ C).length : Nat) := by rw [e3]; exact zi_n (by omega)
  have n4 : (zI w a 4).toInt = (L.length : Nat) := by rw [e4]; exact zi_n (by omega)
  have k3 : (nI (zN w (a + 3))).toInt = 6 := by rw [shLay_n3 hs]; rfl
  refine r_iload1 dX2_endOf_0 ?_
  refine t_iflt (t := 30) dX2_endOf_1 (by decide) (fun h1 => ?_) (fun h1 => ?_)
  · refine r_iconst (v := 0) dX2_endOf_30 (by decide) ?_
    refine r_iret dX2_endOf_31 rfl (Nat.le_of_ble_eq_true rfl) (Nat.le_of_ble_eq_true rfl) ?_
    refine hQ _ ?_
    first
      | (have ei : c.toNatClampNeg = c.toInt.toNat := (Int32.toNat_toInt c).symm
         rw [ei, e2 _ (by omega), zen, if_pos (by omega)])
      | (rw [zen, if_neg (by omega)]; rfl)
  · refine r_iload1 dX2_endOf_4 ?_
    refine r_aloadR0 dX2_endOf_5 ?_
    refine r_getI zf_RX2_26 rfl dX2_endOf_6 (shLay_k hs) ?_
    refine t_icge (t := 30) dX2_endOf_9 (by decide) (fun h9 => ?_) (fun h9 => ?_)
    · refine r_iconst (v := 0) dX2_endOf_30 (by decide) ?_
      refine r_iret dX2_endOf_31 rfl (Nat.le_of_ble_eq_true rfl) (Nat.le_of_ble_eq_true rfl) ?_
      refine hQ _ ?_
      first
        | (have ei : c.toNatClampNeg = c.toInt.toNat := (Int32.toNat_toInt c).symm
           rw [ei, e2 _ (by omega), zen, if_pos (by omega)])
        | (rw [zen, if_neg (by omega)]; rfl)
    · refine r_iload1 dX2_endOf_12 ?_
      refine r_aloadR0 dX2_endOf_13 ?_
      refine r_getR (q := (a + 3)) zf_RX2_19 rfl dX2_endOf_14 (shLay_k hs) (shLay_p2 hs) ?_
      refine r_alen dX2_endOf_17 (zge (shLay_k3 hs) (by decide)) ?_
      refine t_icge (t := 30) dX2_endOf_18 (by decide) (fun h18 => False.elim (by omega)) (fun h18 => ?_)
      refine r_aloadR0 dX2_endOf_21 ?_
      refine r_getR (q := (a + 3)) zf_RX2_19 rfl dX2_endOf_22 (shLay_k hs) (shLay_p2 hs) ?_
      refine r_iload1 dX2_endOf_25 ?_
      refine r_iald dX2_endOf_26 (shLay_k3 hs) (by rw [shLay_n3 hs]; exact zi_in (by omega) (by omega)) ?_
      refine r_goto (t := 31) dX2_endOf_27 (by decide) ?_
      refine r_iret dX2_endOf_31 rfl (Nat.le_of_ble_eq_true rfl) (Nat.le_of_ble_eq_true rfl) ?_
      refine hQ _ ?_
      first
        | (have ei : c.toNatClampNeg = c.toInt.toNat := (Int32.toNat_toInt c).symm
           rw [ei, e2 _ (by omega), zen, if_pos (by omega)])
        | (rw [zen, if_neg (by omega)]; rfl)
set_option maxHeartbeats 4000000 in
set_option maxRecDepth 100000 in
theorem s_X2_heightOf {g : zGT} {w : zW} {a : Nat} {L : zLy} {C : List (Nat × Bool)} {c : Int32} {Q : Option Value → zW → Prop} {QX : String → zW → Prop} (G : zGok g) (hs : shLay w a) (hc : ctLay (zI w) a L C) (hQ : ∀ r, r = nI (zen L c.toInt) - nI (zst L c.toInt) → Q (some (.int r)) w) : zC g 2 yX2_heightOf cX2_heightOf 2 (some .int) [.ref a, .int c] w (0, 0) Q QX := by
  refine zC_of G (by decide +kernel) (Nat.le_of_ble_eq_true rfl) ?_
  refine r_aloadR0 dX2_heightOf_0 ?_
  refine r_iload1 dX2_heightOf_1 ?_
  refine q_callV1 zm_RX2_56 dX2_heightOf_2 (shLay_k hs) (by decide) rfl (Nat.le_of_ble_eq_true rfl) (Nat.le_of_ble_eq_true rfl) (Nat.le_of_ble_eq_true rfl) (Nat.le_of_ble_eq_true rfl) (Nat.le_of_ble_eq_true rfl) (s_X2_endOf G hs hc (fun r1 er1 => ?_))
  refine r_aloadR0 dX2_heightOf_5 ?_
  refine r_iload1 dX2_heightOf_6 ?_
  refine q_callV1 zm_RX2_52 dX2_heightOf_7 (shLay_k hs) (by decide) rfl (Nat.le_of_ble_eq_true rfl) (Nat.le_of_ble_eq_true rfl) (Nat.le_of_ble_eq_true rfl) (Nat.le_of_ble_eq_true rfl) (Nat.le_of_ble_eq_true rfl) (s_X2_startOf G hs hc (fun r2 er2 => ?_))
  refine r_isub dX2_heightOf_10 ?_
  refine r_iret dX2_heightOf_11 rfl (Nat.le_of_ble_eq_true rfl) (Nat.le_of_ble_eq_true rfl) ?_
  exact hQ _ (by rw [er1, er2])
set_option maxHeartbeats 4000000 in
set_option maxRecDepth 100000 in
theorem s_X2_cellAt {g : zGT} {w : zW} {a : Nat} {L : zLy} {C : List (Nat × Bool)} {i : Nat} {p : Nat × Bool} {x : Int32} {Q : Option Value → zW → Prop} {QX : String → zW → Prop} (G : zGok g) (hs : shLay w a) (hc : ctLay (zI w) a L C) (hi : (L.flatten ++ C)[i]? = some p) (hx : x = nI i) (hQ : ∀ r, r = nI p.1 → Q (some (.int r)) w) : zC g 1 yX2_cellAt cX2_cellAt 2 (some .int) [.ref a, .int x] w (0, 0) Q QX := by
  refine zC_of G (by decide +kernel) (Nat.le_of_ble_eq_true rfl) ?_
  obtain ⟨e3, e4, e1, e2, b1, b2⟩ := hc
  have n3 : (zI w a 3).toInt = ((L.flatten ++ C).length : Nat) := by rw [e3]; exact zi_n (by omega)
  have n4 : (zI w a 4).toInt = (L.length : Nat) := by rw [e4]; exact zi_n (by omega)
  have k1 : (nI (zN w (a + 1))).toInt = 6 := by rw [shLay_n1 hs]; rfl
  have hil := (List.getElem?_eq_some_iff.mp hi).1
  have nx : x.toInt = i := by rw [hx]; exact zi_n (by omega)
  refine r_iload1 dX2_cellAt_0 ?_
  refine t_iflt (t := 30) dX2_cellAt_1 (by decide) (fun h1 => False.elim (by omega)) (fun h1 => ?_)
  refine r_iload1 dX2_cellAt_4 ?_
  refine r_aloadR0 dX2_cellAt_5 ?_
  refine r_getI zf_RX2_22 rfl dX2_cellAt_6 (shLay_k hs) ?_
  refine t_icge (t := 30) dX2_cellAt_9 (by decide) (fun h9 => False.elim (by omega)) (fun h9 => ?_)
  refine r_iload1 dX2_cellAt_12 ?_
  refine r_aloadR0 dX2_cellAt_13 ?_
  refine r_getR (q := (a + 1)) zf_RX2_9 rfl dX2_cellAt_14 (shLay_k hs) (shLay_p0 hs) ?_
  refine r_alen dX2_cellAt_17 (zge (shLay_k1 hs) (by decide)) ?_
  refine t_icge (t := 30) dX2_cellAt_18 (by decide) (fun h18 => False.elim (by omega)) (fun h18 => ?_)
  refine r_aloadR0 dX2_cellAt_21 ?_
  refine r_getR (q := (a + 1)) zf_RX2_9 rfl dX2_cellAt_22 (shLay_k hs) (shLay_p0 hs) ?_
  refine r_iload1 dX2_cellAt_25 ?_
  refine r_iald dX2_cellAt_26 (shLay_k1 hs) (by rw [shLay_n1 hs]; exact zi_in (by omega) (by omega)) ?_
  refine r_goto (t := 31) dX2_cellAt_27 (by decide) ?_
  refine r_iret dX2_cellAt_31 rfl (Nat.le_of_ble_eq_true rfl) (Nat.le_of_ble_eq_true rfl) ?_
  refine hQ _ ?_
  rw [hx, nI_clamp (by omega)]
  exact (e1 i p hi).1
set_option maxHeartbeats 4000000 in
set_option maxRecDepth 100000 in
theorem s_X2_isUp {g : zGT} {w : zW} {a : Nat} {L : zLy} {C : List (Nat × Bool)} {i : Nat} {p : Nat × Bool} {x : Int32} {Q : Option Value → zW → Prop} {QX : String → zW → Prop} (G : zGok g) (hs : shLay w a) (hc : ctLay (zI w) a L C) (hi : (L.flatten ++ C)[i]? = some p) (hx : x = nI i) (hQ : ∀ r, r = (if p.2 then 1 else 0) → Q (some (.int r)) w) : zC g 1 yX2_isUp cX2_isUp 2 (some .boolean) [.ref a, .int x] w (0, 0) Q QX := by
  refine zC_of G (by decide +kernel) (Nat.le_of_ble_eq_true rfl) ?_
  obtain ⟨e3, e4, e1, e2, b1, b2⟩ := hc
  have n3 : (zI w a 3).toInt = ((L.flatten ++ C).length : Nat) := by rw [e3]; exact zi_n (by omega)
  have n4 : (zI w a 4).toInt = (L.length : Nat) := by rw [e4]; exact zi_n (by omega)
  have k2 : (nI (zN w (a + 2))).toInt = 6 := by rw [shLay_n2 hs]; rfl
  have hil := (List.getElem?_eq_some_iff.mp hi).1
  have nx : x.toInt = i := by rw [hx]; exact zi_n (by omega)
  refine r_iload1 dX2_isUp_0 ?_
  refine t_iflt (t := 34) dX2_isUp_1 (by decide) (fun h1 => False.elim (by omega)) (fun h1 => ?_)
  refine r_iload1 dX2_isUp_4 ?_
  refine r_aloadR0 dX2_isUp_5 ?_
  refine r_getI zf_RX2_22 rfl dX2_isUp_6 (shLay_k hs) ?_
  refine t_icge (t := 34) dX2_isUp_9 (by decide) (fun h9 => False.elim (by omega)) (fun h9 => ?_)
  refine r_iload1 dX2_isUp_12 ?_
  refine r_aloadR0 dX2_isUp_13 ?_
  refine r_getR (q := (a + 2)) zf_RX2_15 rfl dX2_isUp_14 (shLay_k hs) (shLay_p1 hs) ?_
  refine r_alen dX2_isUp_17 (zge (shLay_k2 hs) (by decide)) ?_
  refine t_icge (t := 34) dX2_isUp_18 (by decide) (fun h18 => False.elim (by omega)) (fun h18 => ?_)
  refine r_aloadR0 dX2_isUp_21 ?_
  refine r_getR (q := (a + 2)) zf_RX2_15 rfl dX2_isUp_22 (shLay_k hs) (shLay_p1 hs) ?_
  refine r_iload1 dX2_isUp_25 ?_
  refine r_zaldV (x := if p.2 then 1 else 0) dX2_isUp_26 (shLay_k2 hs) (by rw [shLay_n2 hs]; exact zi_in (by omega) (by omega)) (by rw [hx, nI_clamp (by omega)]; exact (e1 i p hi).2) ?_
  refine t_ifeq (t := 34) dX2_isUp_27 (by decide) (fun h27 => ?_) (fun h27 => ?_)
  · refine r_iconst (v := 0) dX2_isUp_34 (by decide) ?_
    refine r_zret dX2_isUp_35 rfl (by first | exact Or.inl rfl | exact Or.inr rfl) (Nat.le_of_ble_eq_true rfl) (Nat.le_of_ble_eq_true rfl) ?_
    refine hQ _ ?_
    cases hp2 : p.2 <;> simp [hp2] at h27 ⊢
  · refine r_iconst (v := 1) dX2_isUp_30 (by decide) ?_
    refine r_goto (t := 35) dX2_isUp_31 (by decide) ?_
    refine r_zret dX2_isUp_35 rfl (by first | exact Or.inl rfl | exact Or.inr rfl) (Nat.le_of_ble_eq_true rfl) (Nat.le_of_ble_eq_true rfl) ?_
    refine hQ _ ?_
    cases hp2 : p.2 <;> simp [hp2] at h27 ⊢
