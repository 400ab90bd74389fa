/-! the looks: where cells lie, creases -/
def ckPlc (n : Nat) (L : zLy) : Bool := (List.range L.length).all (fun k => (List.range (zcol L (k : Nat)).length).all (fun i => match (zcol L (k : Nat))[i]? with
  | some p => decide (plcN L p.1 = 16 * k + 2 * i + (if p.2 then 1 else 0))
  | none => true)) && ((List.range n).all (fun c => L.any (fun col => col.any (fun p => p.1 == c))) && (List.range (n - 1)).all (fun k => decide (crM L k = lyCrease L k)))
theorem ckPlc_0 : fn0.all (fun k => ckPlc 0 (unLay 0 k)) = true := by decide +kernel
theorem ckPlc_1 : fn1.all (fun k => ckPlc 1 (unLay 1 k)) = true := by decide +kernel
theorem ckPlc_2 : fn2.all (fun k => ckPlc 2 (unLay 2 k)) = true := by decide +kernel
theorem ckPlc_3 : fn3.all (fun k => ckPlc 3 (unLay 3 k)) = true := by decide +kernel
theorem ckPlc_4 : fn4.all (fun k => ckPlc 4 (unLay 4 k)) = true := by decide +kernel
theorem ckPlc_5 : fn5.all (fun k => ckPlc 5 (unLay 5 k)) = true := by decide +kernel
theorem ckPlc_6 : fn6.all (fun k => ckPlc 6 (unLay 6 k)) = true := by decide +kernel
theorem fin_plc {n k : Nat} (h : k ∈ fnK n) : ckPlc n (unLay n k) = true := by
  have h6 := fnK_le h
  match n, h6, h with
  | 0, _, h => exact List.all_eq_true.mp ckPlc_0 k h
  | 1, _, h => exact List.all_eq_true.mp ckPlc_1 k h
  | 2, _, h => exact List.all_eq_true.mp ckPlc_2 k h
  | 3, _, h => exact List.all_eq_true.mp ckPlc_3 k h
  | 4, _, h => exact List.all_eq_true.mp ckPlc_4 k h
  | 5, _, h => exact List.all_eq_true.mp ckPlc_5 k h
  | 6, _, h => exact List.all_eq_true.mp ckPlc_6 k h
  | n + 7, h6, _ => exact absurd h6 (by omega)
theorem rch_plc {n : Nat} {L : zLy} (h : rch n L) : (∀ k i p, k < L.length → (zcol L (k : Nat))[i]? = some p → plcN L p.1 = 16 * k + 2 * i + (if p.2 then 1 else 0)) ∧ (∀ c, c < n → ∃ k i p, k < L.length ∧ (zcol L (k : Nat))[i]? = some p ∧ p.1 = c) ∧ ∀ k, k + 1 < n → crM L k = lyCrease L k := by
  obtain ⟨k, hk, rfl⟩ := h
  have := fin_plc hk
  generalize unLay n k = L at this
  unfold ckPlc at this
  rw [Bool.and_eq_true, Bool.and_eq_true] at this
  obtain ⟨a, b, c⟩ := this
  refine ⟨fun k i p h1 h2 => ?_, fun c2 hc2 => ?_, fun k2 hk2 => of_decide_eq_true (List.all_eq_true.mp c k2 (List.mem_range.mpr (by omega)))⟩
  · have := List.all_eq_true.mp (List.all_eq_true.mp a k (List.mem_range.mpr h1)) i (List.mem_range.mpr (List.getElem?_eq_some_iff.mp h2).1)
    rw [h2] at this
    exact of_decide_eq_true this
  · have := List.all_eq_true.mp b c2 (List.mem_range.mpr hc2)
    obtain ⟨col, h1, h2⟩ := List.any_eq_true.mp this
    obtain ⟨p, h3, h4⟩ := List.any_eq_true.mp h2
    obtain ⟨k2, h5, h6⟩ := List.mem_iff_getElem.mp h1
    obtain ⟨i, h7, h8⟩ := List.mem_iff_getElem.mp h3
    refine ⟨k2, i, p, h5, ?_, beq_iff_eq.mp h4⟩
    rw [zcol_at ((List.getElem?_eq_getElem h5).trans (congrArg some h6)), List.getElem?_eq_getElem h7, h8]
