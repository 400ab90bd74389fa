/-! the class's nodes beside the reference's rows: orders, creases, what is sure, where to look -/
def facN : Nat → Nat
  | 0 => 1
  | k + 1 => (k + 1) * facN k
def unO : Nat → Nat → List Nat → Nat → Nat
  | 0, _, _, code => code
  | m + 1, g9, R, code => unO m g9 (R.eraseIdx ((g9 / facN m) % (m + 1))) (8 * code + R.getD ((g9 / facN m) % (m + 1)) 0)
def dgO : Nat → Nat → List Nat → List Nat
  | 0, _, l => l
  | m + 1, code, l => dgO m (code / 8) (code % 8 :: l)
def ckF (n k : Nat) : Bool := !(decide ((unLay n k).length ≤ 1)) || (decide (0 ≤ (lyOrd (unLay n k) (unLay n k).flatten.length).toInt) && (decide ((lyOrd (unLay n k) (unLay n k).flatten.length).toInt < 720) && (decide (unO n (lyOrd (unLay n k) (unLay n k).flatten.length).toInt.toNat (List.range n) 0 = orN (unLay n k) n) && decide (lyOrd [(dgO n (orN (unLay n k) n) []).map (fun c => (c, true))] n = lyOrd (unLay n k) (unLay n k).flatten.length))))
theorem ckF_0_0 : c0_0.all (ckF 0) = true := by decide +kernel
theorem ckF_1_0 : c1_0.all (ckF 1) = true := by decide +kernel
theorem ckF_2_0 : c2_0.all (ckF 2) = true := by decide +kernel
theorem ckF_3_0 : c3_0.all (ckF 3) = true := by decide +kernel
theorem ckF_4_0 : c4_0.all (ckF 4) = true := by decide +kernel
theorem ckF_4_1 : c4_1.all (ckF 4) = true := by decide +kernel
theorem ckF_4_2 : c4_2.all (ckF 4) = true := by decide +kernel
theorem ckF_5_0 : c5_0.all (ckF 5) = true := by decide +kernel
theorem ckF_5_1 : c5_1.all (ckF 5) = true := by decide +kernel
theorem ckF_5_2 : c5_2.all (ckF 5) = true := by decide +kernel
theorem ckF_5_3 : c5_3.all (ckF 5) = true := by decide +kernel
theorem ckF_5_4 : c5_4.all (ckF 5) = true := by decide +kernel
theorem ckF_5_5 : c5_5.all (ckF 5) = true := by decide +kernel
theorem ckF_5_6 : c5_6.all (ckF 5) = true := by decide +kernel
theorem ckF_5_7 : c5_7.all (ckF 5) = true := by decide +kernel
theorem ckF_5_8 : c5_8.all (ckF 5) = true := by decide +kernel
theorem ckF_5_9 : c5_9.all (ckF 5) = true := by decide +kernel
theorem ckF_6_0 : c6_0.all (ckF 6) = true := by decide +kernel
theorem ckF_6_1 : c6_1.all (ckF 6) = true := by decide +kernel
theorem ckF_6_2 : c6_2.all (ckF 6) = true := by decide +kernel
theorem ckF_6_3 : c6_3.all (ckF 6) = true := by decide +kernel
theorem ckF_6_4 : c6_4.all (ckF 6) = true := by decide +kernel
theorem ckF_6_5 : c6_5.all (ckF 6) = true := by decide +kernel
theorem ckF_6_6 : c6_6.all (ckF 6) = true := by decide +kernel
theorem ckF_6_7 : c6_7.all (ckF 6) = true := by decide +kernel
theorem ckF_6_8 : c6_8.all (ckF 6) = true := by decide +kernel
theorem ckF_6_9 : c6_9.all (ckF 6) = true := by decide +kernel
theorem ckF_6_10 : c6_10.all (ckF 6) = true := by decide +kernel
theorem ckF_6_11 : c6_11.all (ckF 6) = true := by decide +kernel
theorem ckF_6_12 : c6_12.all (ckF 6) = true := by decide +kernel
theorem ckF_6_13 : c6_13.all (ckF 6) = true := by decide +kernel
theorem ckF_6_14 : c6_14.all (ckF 6) = true := by decide +kernel
theorem ckF_6_15 : c6_15.all (ckF 6) = true := by decide +kernel
theorem ckF_6_16 : c6_16.all (ckF 6) = true := by decide +kernel
theorem ckF_6_17 : c6_17.all (ckF 6) = true := by decide +kernel
theorem ckF_6_18 : c6_18.all (ckF 6) = true := by decide +kernel
theorem ckF_6_19 : c6_19.all (ckF 6) = true := by decide +kernel
theorem ckF_6_20 : c6_20.all (ckF 6) = true := by decide +kernel
theorem ckF_6_21 : c6_21.all (ckF 6) = true := by decide +kernel
theorem ckF_6_22 : c6_22.all (ckF 6) = true := by decide +kernel
theorem ckF_6_23 : c6_23.all (ckF 6) = true := by decide +kernel
theorem ckF_6_24 : c6_24.all (ckF 6) = true := by decide +kernel
theorem ckF_6_25 : c6_25.all (ckF 6) = true := by decide +kernel
theorem ckF_6_26 : c6_26.all (ckF 6) = true := by decide +kernel
theorem ckF_6_27 : c6_27.all (ckF 6) = true := by decide +kernel
theorem ckF_6_28 : c6_28.all (ckF 6) = true := by decide +kernel
theorem ckF_6_29 : c6_29.all (ckF 6) = true := by decide +kernel
theorem ckF_6_30 : c6_30.all (ckF 6) = true := by decide +kernel
theorem ckF_6_31 : c6_31.all (ckF 6) = true := by decide +kernel
theorem ckF_all {n k : Nat} (h_z : fnM n k) : ckF n k = true := by
  have h6 := fnM_le h_z
  obtain ⟨q, h1, h2⟩ := h_z
  match n, h6, h1 with
  | 0, _, h1 =>
    have e : (fnT 0).all (fun q => q.2.all (ckF 0)) = true := by
      show ((c0_0.all (ckF 0) && true)) = true
      rw [ckF_0_0]
      rfl
    exact List.all_eq_true.mp (List.all_eq_true.mp e q h1) k h2
  | 1, _, h1 =>
    have e : (fnT 1).all (fun q => q.2.all (ckF 1)) = true := by
      show ((c1_0.all (ckF 1) && true)) = true
      rw [ckF_1_0]
      rfl
    exact List.all_eq_true.mp (List.all_eq_true.mp e q h1) k h2
  | 2, _, h1 =>
    have e : (fnT 2).all (fun q => q.2.all (ckF 2)) = true := by
      show ((c2_0.all (ckF 2) && true)) = true
      rw [ckF_2_0]
      rfl
    exact List.all_eq_true.mp (List.all_eq_true.mp e q h1) k h2
  | 3, _, h1 =>
    have e : (fnT 3).all (fun q => q.2.all (ckF 3)) = true := by
      show ((c3_0.all (ckF 3) && true)) = true
      rw [ckF_3_0]
      rfl
    exact List.all_eq_true.mp (List.all_eq_true.mp e q h1) k h2
  | 4, _, h1 =>
    have e : (fnT 4).all (fun q => q.2.all (ckF 4)) = true := by
      show ((c4_0.all (ckF 4) && (c4_1.all (ckF 4) && (c4_2.all (ckF 4) && true)))) = true
      rw [ckF_4_0, ckF_4_1, ckF_4_2]
      rfl
    exact List.all_eq_true.mp (List.all_eq_true.mp e q h1) k h2
  | 5, _, h1 =>
    have e : (fnT 5).all (fun q => q.2.all (ckF 5)) = true := by
      show ((c5_0.all (ckF 5) && (c5_1.all (ckF 5) && (c5_2.all (ckF 5) && (c5_3.all (ckF 5) && (c5_4.all (ckF 5) && (c5_5.all (ckF 5) && (c5_6.all (ckF 5) && (c5_7.all (ckF 5) && (c5_8.all (ckF 5) && (c5_9.all (ckF 5) && true))))))))))) = true
      rw [ckF_5_0, ckF_5_1, ckF_5_2, ckF_5_3, ckF_5_4, ckF_5_5, ckF_5_6, ckF_5_7, ckF_5_8, ckF_5_9]
      rfl
    exact List.all_eq_true.mp (List.all_eq_true.mp e q h1) k h2
  | 6, _, h1 =>
    have e : (fnT 6).all (fun q => q.2.all (ckF 6)) = true := by
      show ((c6_0.all (ckF 6) && (c6_1.all (ckF 6) && (c6_2.all (ckF 6) && (c6_3.all (ckF 6) && (c6_4.all (ckF 6) && (c6_5.all (ckF 6) && (c6_6.all (ckF 6) && (c6_7.all (ckF 6) && (c6_8.all (ckF 6) && (c6_9.all (ckF 6) && (c6_10.all (ckF 6) && (c6_11.all (ckF 6) && (c6_12.all (ckF 6) && (c6_13.all (ckF 6) && (c6_14.all (ckF 6) && (c6_15.all (ckF 6) && (c6_16.all (ckF 6) && (c6_17.all (ckF 6) && (c6_18.all (ckF 6) && (c6_19.all (ckF 6) && (c6_20.all (ckF 6) && (c6_21.all (ckF 6) && (c6_22.all (ckF 6) && (c6_23.all (ckF 6) && (c6_24.all (ckF 6) && (c6_25.all (ckF 6) && (c6_26.all (ckF 6) && (c6_27.all (ckF 6) && (c6_28.all (ckF 6) && (c6_29.all (ckF 6) && (c6_30.all (ckF 6) && (c6_31.all (ckF 6) && true))))))))))))))))))))))))))))))))) = true
      rw [ckF_6_0, ckF_6_1, ckF_6_2, ckF_6_3, ckF_6_4, ckF_6_5, ckF_6_6, ckF_6_7, ckF_6_8, ckF_6_9, ckF_6_10, ckF_6_11, ckF_6_12, ckF_6_13, ckF_6_14, ckF_6_15, ckF_6_16, ckF_6_17, ckF_6_18, ckF_6_19, ckF_6_20, ckF_6_21, ckF_6_22, ckF_6_23, ckF_6_24, ckF_6_25, ckF_6_26, ckF_6_27, ckF_6_28, ckF_6_29, ckF_6_30, ckF_6_31]
      rfl
    exact List.all_eq_true.mp (List.all_eq_true.mp e q h1) k h2
  | n + 7, h6, _ => exact absurd h6 (by omega)
theorem rch_ord {n : Nat} {L : zLy} (h_z : rch n L) (h1 : L.length ≤ 1) : (0 ≤ (lyOrd L L.flatten.length).toInt ∧ (lyOrd L L.flatten.length).toInt < 720) ∧ unO n (lyOrd L L.flatten.length).toInt.toNat (List.range n) 0 = orN L n ∧ lyOrd [(dgO n (orN L n) []).map (fun c => (c, true))] n = lyOrd L L.flatten.length := by
  obtain ⟨k, hk, rfl⟩ := h_z
  have h9 := ckF_all hk
  unfold ckF at h9
  rw [decide_eq_true h1] at h9
  rw [Bool.not_true, Bool.false_or, Bool.and_eq_true, Bool.and_eq_true, Bool.and_eq_true, decide_eq_true_iff, decide_eq_true_iff, decide_eq_true_iff, decide_eq_true_iff] at h9
  exact ⟨⟨h9.1, h9.2.1⟩, h9.2.2.1, h9.2.2.2⟩
theorem ord_inj {n : Nat} {L L2 : zLy} (h_z : rch n L) (h2 : rch n L2) (h1 : L.length ≤ 1) (h3 : L2.length ≤ 1) : orN L n = orN L2 n ↔ (lyOrd L L.flatten.length).toInt = (lyOrd L2 L2.flatten.length).toInt := by
  have a := rch_ord h_z h1
  have b := rch_ord h2 h3
  constructor
  · intro e
    rw [← a.2.2, ← b.2.2, e]
  · intro e
    rw [← a.2.1, ← b.2.1, e]
/-- numbers met beside codes met -/
theorem num_cnt {n : Nat} {p q : zLy → Bool} {g9 : zLy → Int} {cd : zLy → Nat} {X : List zRo} (hr : ∀ y ∈ X, rch n y.1) (hpq : ∀ L, rch n L → (p L = true ∧ (0 ≤ g9 L ∧ g9 L < 720) ↔ q L = true)) (hi_z : ∀ L L2, rch n L → rch n L2 → q L = true → q L2 = true → (cd L = cd L2 ↔ g9 L = g9 L2)) : (X.foldl (fun s y => if p y.1 = true ∧ (0 ≤ g9 y.1 ∧ g9 y.1 < 720) ∧ g9 y.1 ∉ s then s ++ [g9 y.1] else s) []).length = (cntS (fun L _ => q L) cd X).length := by
  have key : ∀ (qs : List zRo) (S : List zLy), (∀ y ∈ qs, rch n y.1) → (∀ L ∈ S, rch n L ∧ q L = true) → ∃ S2 : List zLy, qs.foldl (fun s y => if p y.1 = true ∧ (0 ≤ g9 y.1 ∧ g9 y.1 < 720) ∧ g9 y.1 ∉ s then s ++ [g9 y.1] else s) (S.map g9) = S2.map g9 ∧ qs.foldl (fun s y => if q y.1 = true ∧ cd y.1 ∉ s then s ++ [cd y.1] else s) (S.map cd) = S2.map cd := by
    intro qs
    induction qs with
    | nil => exact fun S _ _ => ⟨S, rfl, rfl⟩
    | cons y qs ih =>
      intro S hq hS_z
      have hy := hq y List.mem_cons_self
      have hq2 : ∀ z ∈ qs, rch n z.1 := fun z hz => hq z (List.mem_cons_of_mem _ hz)
      rw [List.foldl_cons, List.foldl_cons]
      by_cases hqy : q y.1 = true
      · have hm_z : g9 y.1 ∈ S.map g9 ↔ cd y.1 ∈ S.map cd := by
          constructor
          · intro h_z
            obtain ⟨L, h1, h2⟩ := List.mem_map.mp h_z
            exact List.mem_map.mpr ⟨L, h1, (hi_z L y.1 (hS_z L h1).1 hy (hS_z L h1).2 hqy).mpr h2⟩
          · intro h_z
            obtain ⟨L, h1, h2⟩ := List.mem_map.mp h_z
            exact List.mem_map.mpr ⟨L, h1, (hi_z L y.1 (hS_z L h1).1 hy (hS_z L h1).2 hqy).mp h2⟩
        have hp := (hpq y.1 hy).mpr hqy
        by_cases hmm : cd y.1 ∈ S.map cd
        · rw [if_neg (fun e => e.2.2 (hm_z.mpr hmm)), if_neg (fun e => e.2 hmm)]
          exact ih S hq2 hS_z
        · rw [if_pos ⟨hp.1, hp.2, fun e => hmm (hm_z.mp e)⟩, if_pos ⟨hqy, hmm⟩]
          have e1_z : S.map g9 ++ [g9 y.1] = (S ++ [y.1]).map g9 := by rw [List.map_append]; rfl
          have e2_z : S.map cd ++ [cd y.1] = (S ++ [y.1]).map cd := by rw [List.map_append]; rfl
          rw [e1_z, e2_z]
          refine ih _ hq2 (fun L hL => ?_)
          rcases List.mem_append.mp hL with h_z | h_z
          · exact hS_z L h_z
          · rw [List.mem_singleton.mp h_z]; exact ⟨hy, hqy⟩
      · rw [if_neg (fun e => hqy ((hpq y.1 hy).mp ⟨e.1, e.2.1⟩)), if_neg (fun e => hqy e.1)]
        exact ih S hq2 hS_z
  obtain ⟨S2, h1, h2⟩ := key X [] hr (fun L hL => absurd hL List.not_mem_nil)
  have h3 : cntS (fun L _ => q L) cd X = S2.map cd := h2
  have h4 : X.foldl (fun s y => if p y.1 = true ∧ (0 ≤ g9 y.1 ∧ g9 y.1 < 720) ∧ g9 y.1 ∉ s then s ++ [g9 y.1] else s) [] = S2.map g9 := h1
  rw [h3, h4, List.length_map, List.length_map]
theorem eq_numW {p : zLy → Bool} {g9 : zLy → Int} {L : zLy} {k : Nat} : numW p g9 (levs L k) = (allF k L).foldl (fun s y => if p y.1 = true ∧ (0 ≤ g9 y.1 ∧ g9 y.1 < 720) ∧ g9 y.1 ∉ s then s ++ [g9 y.1] else s) [] := by
  refine walk_levs (st := fun _ s L _ => if p L = true ∧ (0 ≤ g9 L ∧ g9 L < 720) ∧ g9 L ∉ s then s ++ [g9 L] else s) (I := fun _ L s => ¬ (p L = true ∧ (0 ≤ g9 L ∧ g9 L < 720)) ∨ g9 L ∈ s) (fun d s L r => ?_) (fun d s L r L2 h_z => ?_) (fun d s L r h_z => ?_)
  · show ¬ (p L = true ∧ (0 ≤ g9 L ∧ g9 L < 720)) ∨ g9 L ∈ (if p L = true ∧ (0 ≤ g9 L ∧ g9 L < 720) ∧ g9 L ∉ s then s ++ [g9 L] else s)
    by_cases hp : p L = true ∧ (0 ≤ g9 L ∧ g9 L < 720)
    · by_cases hm_z : g9 L ∈ s
      · rw [if_neg (fun e => e.2.2 hm_z)]; exact Or.inr hm_z
      · rw [if_pos ⟨hp.1, hp.2, hm_z⟩]; exact Or.inr (List.mem_append.mpr (Or.inr List.mem_cons_self))
    · exact Or.inl hp
  · show ¬ (p L2 = true ∧ (0 ≤ g9 L2 ∧ g9 L2 < 720)) ∨ g9 L2 ∈ (if p L = true ∧ (0 ≤ g9 L ∧ g9 L < 720) ∧ g9 L ∉ s then s ++ [g9 L] else s)
    rcases h_z with h_z | h_z
    · exact Or.inl h_z
    · refine Or.inr ?_
      split
      · exact List.mem_append.mpr (Or.inl h_z)
      · exact h_z
  · show (if p L = true ∧ (0 ≤ g9 L ∧ g9 L < 720) ∧ g9 L ∉ s then s ++ [g9 L] else s) = s
    rw [if_neg]
    rintro ⟨e1_z, e2_z, e3_z⟩
    rcases h_z with h_z | h_z
    · exact h_z ⟨e1_z, e2_z⟩
    · exact e3_z h_z
theorem eq_simple {n : Nat} (hn : n ≤ 6) : (numW (fun (L : zLy) => decide (L.length ≤ 1)) (fun (L : zLy) => (lyOrd L L.flatten.length).toInt) (nodesR (lyFlat n))).length = (cntS (fun L _ => decide (L.length < 2)) (fun L => orN L n) (allF 6 (lyFlat n))).length := by
  have h0 : nodesR (lyFlat n) = levs (lyFlat n) 6 := rfl
  rw [h0, eq_numW]
  refine num_cnt (n := n) (p := fun (L : zLy) => decide (L.length ≤ 1)) (g9 := fun (L : zLy) => (lyOrd L L.flatten.length).toInt) (cd := fun L => orN L n) (q := fun L => decide (L.length < 2)) (allF_rch (rch_flat hn)) (fun L hr => ?_) (fun L L2 hr hr2 h1 h2 => ?_)
  · rw [decide_eq_true_iff, decide_eq_true_iff]
    exact ⟨fun h_z => by have := h_z.1; omega, fun h_z => ⟨by omega, (rch_ord hr (by omega)).1⟩⟩
  · rw [decide_eq_true_iff] at h1 h2
    exact ord_inj hr hr2 (by omega) (by omega)
theorem cre_le {L : zLy} {k : Nat} : lyCrease L k ≤ 2 := by
  unfold lyCrease
  repeat' split
  all_goals omega
theorem crNo_eq {L : zLy} : ∀ k, k ≤ 5 → (lyCrNo L k).toInt = (crN L k : Nat) := by
  intro k
  induction k with
  | zero => intro _; rfl
  | succ k ih =>
    intro hk
    have h1 := ih (by omega)
    have h2 := crN_le (L := L) (k := k)
    have h3 : 3 ^ k ≤ 3 ^ 4 := Nat.pow_le_pow_right (by decide) (by omega)
    have h4 := cre_le (L := L) (k := k)
    have h5 : (nI (lyCrease L k)).toInt = (lyCrease L k : Nat) := zi_n (by omega)
    have h6 : (3 * lyCrNo L k).toInt = 3 * (crN L k : Nat) := by
      have h7 : ((3 : Int32)).toInt = 3 := rfl
      rw [Int32.toInt_mul, h7, h1]
      exact Int.bmod_eq_of_le (by omega) (by omega)
    have h8 : crN L (k + 1) = 3 * crN L k + lyCrease L k := rfl
    show (3 * lyCrNo L k + nI (lyCrease L k)).toInt = _
    rw [zi_add (by omega), h6, h5, h8]
    omega
theorem eq_patterns {n : Nat} (hn : n ≤ 6) : (numW (fun (L : zLy) => decide ((lyCrNo L (L.flatten.length - 1)).toInt < 243)) (fun (L : zLy) => (lyCrNo L (L.flatten.length - 1)).toInt) (nodesR (lyFlat n))).length = (cntS (fun _ _ => true) (fun L => crN L (n - 1)) (allF 6 (lyFlat n))).length := by
  have h0 : nodesR (lyFlat n) = levs (lyFlat n) 6 := rfl
  have hv : ∀ L, rch n L → (lyCrNo L (L.flatten.length - 1)).toInt = (crN L (n - 1) : Nat) ∧ crN L (n - 1) < 243 := by
    intro L hr
    rw [(rch_cell hr).1]
    have h2 := crN_le (L := L) (k := n - 1)
    have h3 : 3 ^ (n - 1) ≤ 3 ^ 5 := Nat.pow_le_pow_right (by decide) (by omega)
    exact ⟨crNo_eq _ (by omega), by omega⟩
  rw [h0, eq_numW]
  refine num_cnt (n := n) (p := fun (L : zLy) => decide ((lyCrNo L (L.flatten.length - 1)).toInt < 243)) (g9 := fun (L : zLy) => (lyCrNo L (L.flatten.length - 1)).toInt) (cd := fun L => crN L (n - 1)) (q := fun _ => true) (allF_rch (rch_flat hn)) (fun L hr => ?_) (fun L L2 hr hr2 _ _ => ?_)
  · have h9 := hv L hr
    exact ⟨fun _ => rfl, fun _ => ⟨decide_eq_true (by omega), by omega, by omega⟩⟩
  · have h9 := hv L hr
    have h8 := hv L2 hr2
    show crN L (n - 1) = crN L2 (n - 1) ↔ (lyCrNo L (L.flatten.length - 1)).toInt = (lyCrNo L2 (L2.flatten.length - 1)).toInt
    omega
