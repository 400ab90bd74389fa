/-! the looks: where cells lie, creases -/
def ckPlc (n : Nat) (L : zLy) : Bool := (List.range L.length).all (fun k => (List.range (zcol L (k : Nat)).length).all (fun i => match (zcol L (k : Nat))[i]? with
  | some p => decide (plcN L p.1 = 16 * k + 2 * i + (if p.2 then 1 else 0))
  | none => true)) && ((List.range n).all (fun c => L.any (fun col => col.any (fun p => p.1 == c))) && (List.range (n - 1)).all (fun k => decide (crM L k = lyCrease L k)))
def ckB (n k : Nat) : Bool := ckPlc n (unLay n k)
theorem ckB_0_0 : c0_0.all (ckB 0) = true := by decide +kernel
theorem ckB_1_0 : c1_0.all (ckB 1) = true := by decide +kernel
theorem ckB_2_0 : c2_0.all (ckB 2) = true := by decide +kernel
theorem ckB_3_0 : c3_0.all (ckB 3) = true := by decide +kernel
theorem ckB_4_0 : c4_0.all (ckB 4) = true := by decide +kernel
theorem ckB_4_1 : c4_1.all (ckB 4) = true := by decide +kernel
theorem ckB_4_2 : c4_2.all (ckB 4) = true := by decide +kernel
theorem ckB_5_0 : c5_0.all (ckB 5) = true := by decide +kernel
theorem ckB_5_1 : c5_1.all (ckB 5) = true := by decide +kernel
theorem ckB_5_2 : c5_2.all (ckB 5) = true := by decide +kernel
theorem ckB_5_3 : c5_3.all (ckB 5) = true := by decide +kernel
theorem ckB_5_4 : c5_4.all (ckB 5) = true := by decide +kernel
theorem ckB_5_5 : c5_5.all (ckB 5) = true := by decide +kernel
theorem ckB_5_6 : c5_6.all (ckB 5) = true := by decide +kernel
theorem ckB_5_7 : c5_7.all (ckB 5) = true := by decide +kernel
theorem ckB_5_8 : c5_8.all (ckB 5) = true := by decide +kernel
theorem ckB_5_9 : c5_9.all (ckB 5) = true := by decide +kernel
theorem ckB_6_0 : c6_0.all (ckB 6) = true := by decide +kernel
theorem ckB_6_1 : c6_1.all (ckB 6) = true := by decide +kernel
theorem ckB_6_2 : c6_2.all (ckB 6) = true := by decide +kernel
theorem ckB_6_3 : c6_3.all (ckB 6) = true := by decide +kernel
theorem ckB_6_4 : c6_4.all (ckB 6) = true := by decide +kernel
theorem ckB_6_5 : c6_5.all (ckB 6) = true := by decide +kernel
theorem ckB_6_6 : c6_6.all (ckB 6) = true := by decide +kernel
theorem ckB_6_7 : c6_7.all (ckB 6) = true := by decide +kernel
theorem ckB_6_8 : c6_8.all (ckB 6) = true := by decide +kernel
theorem ckB_6_9 : c6_9.all (ckB 6) = true := by decide +kernel
theorem ckB_6_10 : c6_10.all (ckB 6) = true := by decide +kernel
theorem ckB_6_11 : c6_11.all (ckB 6) = true := by decide +kernel
theorem ckB_6_12 : c6_12.all (ckB 6) = true := by decide +kernel
theorem ckB_6_13 : c6_13.all (ckB 6) = true := by decide +kernel
theorem ckB_6_14 : c6_14.all (ckB 6) = true := by decide +kernel
theorem ckB_6_15 : c6_15.all (ckB 6) = true := by decide +kernel
theorem ckB_6_16 : c6_16.all (ckB 6) = true := by decide +kernel
theorem ckB_6_17 : c6_17.all (ckB 6) = true := by decide +kernel
theorem ckB_6_18 : c6_18.all (ckB 6) = true := by decide +kernel
theorem ckB_6_19 : c6_19.all (ckB 6) = true := by decide +kernel
theorem ckB_6_20 : c6_20.all (ckB 6) = true := by decide +kernel
theorem ckB_6_21 : c6_21.all (ckB 6) = true := by decide +kernel
theorem ckB_6_22 : c6_22.all (ckB 6) = true := by decide +kernel
theorem ckB_6_23 : c6_23.all (ckB 6) = true := by decide +kernel
theorem ckB_6_24 : c6_24.all (ckB 6) = true := by decide +kernel
theorem ckB_6_25 : c6_25.all (ckB 6) = true := by decide +kernel
theorem ckB_6_26 : c6_26.all (ckB 6) = true := by decide +kernel
theorem ckB_6_27 : c6_27.all (ckB 6) = true := by decide +kernel
theorem ckB_6_28 : c6_28.all (ckB 6) = true := by decide +kernel
theorem ckB_6_29 : c6_29.all (ckB 6) = true := by decide +kernel
theorem ckB_6_30 : c6_30.all (ckB 6) = true := by decide +kernel
theorem ckB_6_31 : c6_31.all (ckB 6) = true := by decide +kernel
theorem ckB_all {n k : Nat} (h : fnM n k) : ckB n k = true := by
  have h6 := fnM_le h
  obtain ⟨q, h1, h2⟩ := h
  match n, h6, h1 with
  | 0, _, h1 =>
    have e : (fnT 0).all (fun q => q.2.all (ckB 0)) = true := by
      show ((c0_0.all (ckB 0) && true)) = true
      rw [ckB_0_0]
      rfl
    exact List.all_eq_true.mp (List.all_eq_true.mp e q h1) k h2
  | 1, _, h1 =>
    have e : (fnT 1).all (fun q => q.2.all (ckB 1)) = true := by
      show ((c1_0.all (ckB 1) && true)) = true
      rw [ckB_1_0]
      rfl
    exact List.all_eq_true.mp (List.all_eq_true.mp e q h1) k h2
  | 2, _, h1 =>
    have e : (fnT 2).all (fun q => q.2.all (ckB 2)) = true := by
      show ((c2_0.all (ckB 2) && true)) = true
      rw [ckB_2_0]
      rfl
    exact List.all_eq_true.mp (List.all_eq_true.mp e q h1) k h2
  | 3, _, h1 =>
    have e : (fnT 3).all (fun q => q.2.all (ckB 3)) = true := by
      show ((c3_0.all (ckB 3) && true)) = true
      rw [ckB_3_0]
      rfl
    exact List.all_eq_true.mp (List.all_eq_true.mp e q h1) k h2
  | 4, _, h1 =>
    have e : (fnT 4).all (fun q => q.2.all (ckB 4)) = true := by
      show ((c4_0.all (ckB 4) && (c4_1.all (ckB 4) && (c4_2.all (ckB 4) && true)))) = true
      rw [ckB_4_0, ckB_4_1, ckB_4_2]
      rfl
    exact List.all_eq_true.mp (List.all_eq_true.mp e q h1) k h2
  | 5, _, h1 =>
    have e : (fnT 5).all (fun q => q.2.all (ckB 5)) = true := by
      show ((c5_0.all (ckB 5) && (c5_1.all (ckB 5) && (c5_2.all (ckB 5) && (c5_3.all (ckB 5) && (c5_4.all (ckB 5) && (c5_5.all (ckB 5) && (c5_6.all (ckB 5) && (c5_7.all (ckB 5) && (c5_8.all (ckB 5) && (c5_9.all (ckB 5) && true))))))))))) = true
      rw [ckB_5_0, ckB_5_1, ckB_5_2, ckB_5_3, ckB_5_4, ckB_5_5, ckB_5_6, ckB_5_7, ckB_5_8, ckB_5_9]
      rfl
    exact List.all_eq_true.mp (List.all_eq_true.mp e q h1) k h2
  | 6, _, h1 =>
    have e : (fnT 6).all (fun q => q.2.all (ckB 6)) = true := by
      show ((c6_0.all (ckB 6) && (c6_1.all (ckB 6) && (c6_2.all (ckB 6) && (c6_3.all (ckB 6) && (c6_4.all (ckB 6) && (c6_5.all (ckB 6) && (c6_6.all (ckB 6) && (c6_7.all (ckB 6) && (c6_8.all (ckB 6) && (c6_9.all (ckB 6) && (c6_10.all (ckB 6) && (c6_11.all (ckB 6) && (c6_12.all (ckB 6) && (c6_13.all (ckB 6) && (c6_14.all (ckB 6) && (c6_15.all (ckB 6) && (c6_16.all (ckB 6) && (c6_17.all (ckB 6) && (c6_18.all (ckB 6) && (c6_19.all (ckB 6) && (c6_20.all (ckB 6) && (c6_21.all (ckB 6) && (c6_22.all (ckB 6) && (c6_23.all (ckB 6) && (c6_24.all (ckB 6) && (c6_25.all (ckB 6) && (c6_26.all (ckB 6) && (c6_27.all (ckB 6) && (c6_28.all (ckB 6) && (c6_29.all (ckB 6) && (c6_30.all (ckB 6) && (c6_31.all (ckB 6) && true))))))))))))))))))))))))))))))))) = true
      rw [ckB_6_0, ckB_6_1, ckB_6_2, ckB_6_3, ckB_6_4, ckB_6_5, ckB_6_6, ckB_6_7, ckB_6_8, ckB_6_9, ckB_6_10, ckB_6_11, ckB_6_12, ckB_6_13, ckB_6_14, ckB_6_15, ckB_6_16, ckB_6_17, ckB_6_18, ckB_6_19, ckB_6_20, ckB_6_21, ckB_6_22, ckB_6_23, ckB_6_24, ckB_6_25, ckB_6_26, ckB_6_27, ckB_6_28, ckB_6_29, ckB_6_30, ckB_6_31]
      rfl
    exact List.all_eq_true.mp (List.all_eq_true.mp e q h1) k h2
  | n + 7, h6, _ => exact absurd h6 (by omega)
theorem rch_plc {n : Nat} {L : zLy} (h : rch n L) : (∀ (k i : Nat) (p : Nat × Bool), k < L.length → (zcol L (k : Nat))[i]? = some p → plcN L p.1 = 16 * k + 2 * i + (if p.2 then 1 else 0)) ∧ (∀ c, c < n → ∃ (k i : Nat) (p : Nat × Bool), k < L.length ∧ (zcol L (k : Nat))[i]? = some p ∧ p.1 = c) ∧ ∀ k, k + 1 < n → crM L k = lyCrease L k := by
  obtain ⟨k, hk, rfl⟩ := h
  have := ckB_all hk
  unfold ckB at this
  generalize unLay n k = L at this
  unfold ckPlc at this
  rw [Bool.and_eq_true, Bool.and_eq_true] at this
  obtain ⟨a, b, c⟩ := this
  refine ⟨fun k i p h1 h2 => ?_, fun c2 hc2 => ?_, fun k2 hk2 => of_decide_eq_true (List.all_eq_true.mp c k2 (List.mem_range.mpr (by omega)))⟩
  · have := List.all_eq_true.mp (List.all_eq_true.mp a k (List.mem_range.mpr h1)) i (List.mem_range.mpr (List.getElem?_eq_some_iff.mp h2).1)
    rw [h2] at this
    exact of_decide_eq_true this
  · have := List.all_eq_true.mp b c2 (List.mem_range.mpr hc2)
    obtain ⟨col, h1, h2⟩ := List.any_eq_true.mp this
    obtain ⟨p, h3, h4⟩ := List.any_eq_true.mp h2
    obtain ⟨k2, h5, h6⟩ := List.mem_iff_getElem.mp h1
    obtain ⟨i, h7, h8⟩ := List.mem_iff_getElem.mp h3
    refine ⟨k2, i, p, h5, ?_, beq_iff_eq.mp h4⟩
    rw [zcol_at ((List.getElem?_eq_getElem h5).trans (congrArg some h6)), List.getElem?_eq_getElem h7, h8]
