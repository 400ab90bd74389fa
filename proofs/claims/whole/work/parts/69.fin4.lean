/-! the looks: where a cell lies told from its number; looks told from their cells; orders -/
def rbC (pl : Nat → Nat) (n k : Nat) : List (Nat × Bool) := (List.range n).flatMap (fun i => ((List.range n).filter (fun c => pl c / 2 == 8 * k + i)).map (fun c => (c, decide (pl c % 2 = 1))))
def rbL (pl : Nat → Nat) (n : Nat) : zLy := ((List.range n).map (rbC pl n)).filter (fun col => !col.isEmpty)
def ckE (n k : Nat) : Bool := (List.range n).all (fun c => decide ((((plcN (unLay n k) c) / 16 : Nat) : Int) = lyColOf (unLay n k) (c : Nat)) && (decide ((((plcN (unLay n k) c) / 2 % 8 : Nat) : Int) = lyPlace (unLay n k) (c : Nat) - (zst (unLay n k) (lyColOf (unLay n k) (c : Nat)) : Nat)) && (decide (plcN (unLay n k) c % 2 = if lyUpAt (unLay n k) (lyPlace (unLay n k) (c : Nat)) then 1 else 0) && decide (plcN (unLay n k) c < 96)))) && decide (rbL (plcN (unLay n k)) n = unLay n k)
theorem ckE_0_0 : c0_0.all (ckE 0) = true := by decide +kernel
theorem ckE_1_0 : c1_0.all (ckE 1) = true := by decide +kernel
theorem ckE_2_0 : c2_0.all (ckE 2) = true := by decide +kernel
theorem ckE_3_0 : c3_0.all (ckE 3) = true := by decide +kernel
theorem ckE_4_0 : c4_0.all (ckE 4) = true := by decide +kernel
theorem ckE_4_1 : c4_1.all (ckE 4) = true := by decide +kernel
theorem ckE_4_2 : c4_2.all (ckE 4) = true := by decide +kernel
theorem ckE_5_0 : c5_0.all (ckE 5) = true := by decide +kernel
theorem ckE_5_1 : c5_1.all (ckE 5) = true := by decide +kernel
theorem ckE_5_2 : c5_2.all (ckE 5) = true := by decide +kernel
theorem ckE_5_3 : c5_3.all (ckE 5) = true := by decide +kernel
theorem ckE_5_4 : c5_4.all (ckE 5) = true := by decide +kernel
theorem ckE_5_5 : c5_5.all (ckE 5) = true := by decide +kernel
theorem ckE_5_6 : c5_6.all (ckE 5) = true := by decide +kernel
theorem ckE_5_7 : c5_7.all (ckE 5) = true := by decide +kernel
theorem ckE_5_8 : c5_8.all (ckE 5) = true := by decide +kernel
theorem ckE_5_9 : c5_9.all (ckE 5) = true := by decide +kernel
theorem ckE_6_0 : c6_0.all (ckE 6) = true := by decide +kernel
theorem ckE_6_1 : c6_1.all (ckE 6) = true := by decide +kernel
theorem ckE_6_2 : c6_2.all (ckE 6) = true := by decide +kernel
theorem ckE_6_3 : c6_3.all (ckE 6) = true := by decide +kernel
theorem ckE_6_4 : c6_4.all (ckE 6) = true := by decide +kernel
theorem ckE_6_5 : c6_5.all (ckE 6) = true := by decide +kernel
theorem ckE_6_6 : c6_6.all (ckE 6) = true := by decide +kernel
theorem ckE_6_7 : c6_7.all (ckE 6) = true := by decide +kernel
theorem ckE_6_8 : c6_8.all (ckE 6) = true := by decide +kernel
theorem ckE_6_9 : c6_9.all (ckE 6) = true := by decide +kernel
theorem ckE_6_10 : c6_10.all (ckE 6) = true := by decide +kernel
theorem ckE_6_11 : c6_11.all (ckE 6) = true := by decide +kernel
theorem ckE_6_12 : c6_12.all (ckE 6) = true := by decide +kernel
theorem ckE_6_13 : c6_13.all (ckE 6) = true := by decide +kernel
theorem ckE_6_14 : c6_14.all (ckE 6) = true := by decide +kernel
theorem ckE_6_15 : c6_15.all (ckE 6) = true := by decide +kernel
theorem ckE_6_16 : c6_16.all (ckE 6) = true := by decide +kernel
theorem ckE_6_17 : c6_17.all (ckE 6) = true := by decide +kernel
theorem ckE_6_18 : c6_18.all (ckE 6) = true := by decide +kernel
theorem ckE_6_19 : c6_19.all (ckE 6) = true := by decide +kernel
theorem ckE_6_20 : c6_20.all (ckE 6) = true := by decide +kernel
theorem ckE_6_21 : c6_21.all (ckE 6) = true := by decide +kernel
theorem ckE_6_22 : c6_22.all (ckE 6) = true := by decide +kernel
theorem ckE_6_23 : c6_23.all (ckE 6) = true := by decide +kernel
theorem ckE_6_24 : c6_24.all (ckE 6) = true := by decide +kernel
theorem ckE_6_25 : c6_25.all (ckE 6) = true := by decide +kernel
theorem ckE_6_26 : c6_26.all (ckE 6) = true := by decide +kernel
theorem ckE_6_27 : c6_27.all (ckE 6) = true := by decide +kernel
theorem ckE_6_28 : c6_28.all (ckE 6) = true := by decide +kernel
theorem ckE_6_29 : c6_29.all (ckE 6) = true := by decide +kernel
theorem ckE_6_30 : c6_30.all (ckE 6) = true := by decide +kernel
theorem ckE_6_31 : c6_31.all (ckE 6) = true := by decide +kernel
theorem ckE_all {n k : Nat} (h : fnM n k) : ckE n k = true := by
  have h6 := fnM_le h
  obtain ⟨q, h1, h2⟩ := h
  match n, h6, h1 with
  | 0, _, h1 =>
    have e : (fnT 0).all (fun q => q.2.all (ckE 0)) = true := by
      show ((c0_0.all (ckE 0) && true)) = true
      rw [ckE_0_0]
      rfl
    exact List.all_eq_true.mp (List.all_eq_true.mp e q h1) k h2
  | 1, _, h1 =>
    have e : (fnT 1).all (fun q => q.2.all (ckE 1)) = true := by
      show ((c1_0.all (ckE 1) && true)) = true
      rw [ckE_1_0]
      rfl
    exact List.all_eq_true.mp (List.all_eq_true.mp e q h1) k h2
  | 2, _, h1 =>
    have e : (fnT 2).all (fun q => q.2.all (ckE 2)) = true := by
      show ((c2_0.all (ckE 2) && true)) = true
      rw [ckE_2_0]
      rfl
    exact List.all_eq_true.mp (List.all_eq_true.mp e q h1) k h2
  | 3, _, h1 =>
    have e : (fnT 3).all (fun q => q.2.all (ckE 3)) = true := by
      show ((c3_0.all (ckE 3) && true)) = true
      rw [ckE_3_0]
      rfl
    exact List.all_eq_true.mp (List.all_eq_true.mp e q h1) k h2
  | 4, _, h1 =>
    have e : (fnT 4).all (fun q => q.2.all (ckE 4)) = true := by
      show ((c4_0.all (ckE 4) && (c4_1.all (ckE 4) && (c4_2.all (ckE 4) && true)))) = true
      rw [ckE_4_0, ckE_4_1, ckE_4_2]
      rfl
    exact List.all_eq_true.mp (List.all_eq_true.mp e q h1) k h2
  | 5, _, h1 =>
    have e : (fnT 5).all (fun q => q.2.all (ckE 5)) = true := by
      show ((c5_0.all (ckE 5) && (c5_1.all (ckE 5) && (c5_2.all (ckE 5) && (c5_3.all (ckE 5) && (c5_4.all (ckE 5) && (c5_5.all (ckE 5) && (c5_6.all (ckE 5) && (c5_7.all (ckE 5) && (c5_8.all (ckE 5) && (c5_9.all (ckE 5) && true))))))))))) = true
      rw [ckE_5_0, ckE_5_1, ckE_5_2, ckE_5_3, ckE_5_4, ckE_5_5, ckE_5_6, ckE_5_7, ckE_5_8, ckE_5_9]
      rfl
    exact List.all_eq_true.mp (List.all_eq_true.mp e q h1) k h2
  | 6, _, h1 =>
    have e : (fnT 6).all (fun q => q.2.all (ckE 6)) = true := by
      show ((c6_0.all (ckE 6) && (c6_1.all (ckE 6) && (c6_2.all (ckE 6) && (c6_3.all (ckE 6) && (c6_4.all (ckE 6) && (c6_5.all (ckE 6) && (c6_6.all (ckE 6) && (c6_7.all (ckE 6) && (c6_8.all (ckE 6) && (c6_9.all (ckE 6) && (c6_10.all (ckE 6) && (c6_11.all (ckE 6) && (c6_12.all (ckE 6) && (c6_13.all (ckE 6) && (c6_14.all (ckE 6) && (c6_15.all (ckE 6) && (c6_16.all (ckE 6) && (c6_17.all (ckE 6) && (c6_18.all (ckE 6) && (c6_19.all (ckE 6) && (c6_20.all (ckE 6) && (c6_21.all (ckE 6) && (c6_22.all (ckE 6) && (c6_23.all (ckE 6) && (c6_24.all (ckE 6) && (c6_25.all (ckE 6) && (c6_26.all (ckE 6) && (c6_27.all (ckE 6) && (c6_28.all (ckE 6) && (c6_29.all (ckE 6) && (c6_30.all (ckE 6) && (c6_31.all (ckE 6) && true))))))))))))))))))))))))))))))))) = true
      rw [ckE_6_0, ckE_6_1, ckE_6_2, ckE_6_3, ckE_6_4, ckE_6_5, ckE_6_6, ckE_6_7, ckE_6_8, ckE_6_9, ckE_6_10, ckE_6_11, ckE_6_12, ckE_6_13, ckE_6_14, ckE_6_15, ckE_6_16, ckE_6_17, ckE_6_18, ckE_6_19, ckE_6_20, ckE_6_21, ckE_6_22, ckE_6_23, ckE_6_24, ckE_6_25, ckE_6_26, ckE_6_27, ckE_6_28, ckE_6_29, ckE_6_30, ckE_6_31]
      rfl
    exact List.all_eq_true.mp (List.all_eq_true.mp e q h1) k h2
  | n + 7, h6, _ => exact absurd h6 (by omega)
theorem rch_at {n c : Nat} {L : zLy} (h : rch n L) (hc : c < n) : ((plcN L c / 16 : Nat) : Int) = lyColOf L (c : Nat) ∧ ((plcN L c / 2 % 8 : Nat) : Int) = lyPlace L (c : Nat) - (zst L (lyColOf L (c : Nat)) : Nat) ∧ (plcN L c % 2 = if lyUpAt L (lyPlace L (c : Nat)) then 1 else 0) ∧ plcN L c < 96 := by
  obtain ⟨k, hk, rfl⟩ := h
  have h9 := ckE_all hk
  unfold ckE at h9
  rw [Bool.and_eq_true] at h9
  have h8 := List.all_eq_true.mp h9.1 c (List.mem_range.mpr hc)
  rw [Bool.and_eq_true, Bool.and_eq_true, Bool.and_eq_true] at h8
  exact ⟨of_decide_eq_true h8.1, of_decide_eq_true h8.2.1, of_decide_eq_true h8.2.2.1, of_decide_eq_true h8.2.2.2⟩
theorem rch_rb {n : Nat} {L : zLy} (h : rch n L) : rbL (plcN L) n = L := by
  obtain ⟨k, hk, rfl⟩ := h
  have h9 := ckE_all hk
  unfold ckE at h9
  rw [Bool.and_eq_true] at h9
  exact of_decide_eq_true h9.2
theorem rbC_cg {pl pl2 : Nat → Nat} {n k : Nat} (e : ∀ c, c < n → pl c = pl2 c) : rbC pl n k = rbC pl2 n k := by
  unfold rbC
  refine congrArg List.flatten (List.map_congr_left (fun i _ => ?_))
  have h1 : (List.range n).filter (fun c => pl c / 2 == 8 * k + i) = (List.range n).filter (fun c => pl2 c / 2 == 8 * k + i) := List.filter_congr (fun c hc => by rw [e c (List.mem_range.mp hc)])
  rw [h1]
  refine List.map_congr_left (fun c hc => ?_)
  rw [e c (List.mem_range.mp (List.mem_filter.mp hc).1)]
theorem rch_plinj {n : Nat} {L L2 : zLy} (h : rch n L) (h2 : rch n L2) (e : ∀ c, c < n → plcN L c = plcN L2 c) : L = L2 := by
  rw [← rch_rb h, ← rch_rb h2]
  unfold rbL
  refine congrArg _ (List.map_congr_left (fun k _ => rbC_cg e))
