/-! the reference: marks, facts, creases, laws -/
theorem zi_neg {x : Int32} (h_z : -2147483648 < x.toInt) : (-x).toInt = -x.toInt := by
  have := Int32.toInt_lt x
  rw [Int32.toInt_neg]
  exact Int.bmod_eq_of_le (by omega) (by omega)
theorem col_ne {n : Nat} {L : zLy} (h_z : rch n L) {c : Nat} (hc_z : c < L.length) : ∃ C p, zcol L (c : Nat) = C ++ [p] ∧ (zcol L (c : Nat)).length = C.length + 1 ∧ (zcol L (c : Nat))[C.length]? = some p ∧ p.1 < 6 ∧ ∃ q D, zcol L (c : Nat) = q :: D ∧ q.1 < 6 := by
  obtain ⟨col, hcol⟩ : ∃ col, L[c]? = some col := ⟨_, List.getElem?_eq_getElem hc_z⟩
  have e := zcol_at hcol
  have hne := (rch_cell h_z).2.2.2.1 col (List.mem_of_getElem? hcol)
  have hb_z := rch_bd h_z
  have hm_z : ∀ p ∈ col, p.1 < 6 := fun p hp => hb_z p (List.mem_flatten.mpr ⟨col, List.mem_of_getElem? hcol, hp⟩)
  rw [e]
  obtain ⟨C, p, rfl⟩ : ∃ C p, col = C ++ [p] := ⟨_, _, (List.dropLast_concat_getLast hne).symm⟩
  refine ⟨C, p, rfl, by rw [List.length_append]; rfl, by rw [List.getElem?_append_right (Nat.le_refl _), Nat.sub_self]; rfl, hm_z p (by simp), ?_⟩
  cases hC : C ++ [p] with
  | nil => exact absurd hC hne
  | cons q D => exact ⟨q, D, rfl, hm_z q (by rw [hC]; exact List.mem_cons_self)⟩
theorem seenA_of {M : Nat → Nat} {L : zLy} {c : Nat} {C : List (Nat × Bool)} {p : Nat × Bool} (h_z : zcol L (c : Nat) = C ++ [p]) : seenA M L c = mkAb M p := by
  unfold seenA
  rw [h_z, List.getLast?_append]
  rfl
theorem seenB_of {M : Nat → Nat} {L : zLy} {c : Nat} {C : List (Nat × Bool)} {p : Nat × Bool} (h_z : zcol L (c : Nat) = p :: C) : seenB M L c = mkBe M p := by
  unfold seenB
  rw [h_z]
  rfl
theorem ctLi_at {l : Nat → Int32} {d : Nat} {L : zLy} {c : Nat} (h_z : ctLi l d L) (hc_z : c < L.length) : ctCo l d c (zcol L (c : Nat)) := by
  obtain ⟨col, hcol⟩ : ∃ col, L[c]? = some col := ⟨_, List.getElem?_eq_getElem hc_z⟩
  rw [zcol_at hcol]
  exact h_z.2 _ _ hcol
set_option maxHeartbeats 4000000 in
set_option maxRecDepth 100000 in
theorem s_X12_markUp {g : zGT} {w : zW} {f : Nat → Nat → Int32} {j : Nat → Nat → Int64} {A : Nat} {mk : Nat → Nat} {p : Nat × Bool} {x z : Int32} {Q : Option Value → zW → Prop} {QX : String → zW → Prop} (G : zGok g) (hs : shM w A) (hM_z : ∀ c, c < 6 → (f (A + 1) (13 + c)).toInt = (mk (2 * c) : Nat) ∧ (f (A + 1) (19 + c)).toInt = (mk (2 * c + 1) : Nat)) (hx : x.toInt = (cdP p : Nat)) (hp : p.1 < 6) (hz : z.toInt = 1) (hQ : ∀ r : Int32, r.toInt = (mkAb mk p : Nat) → Q (some (.int r)) (zM w f j)) : zC g 1 yX12_markOf cX12_markOf 3 (some .int) [.ref A, .int x, .int z] (zM w f j) (0, 0) Q QX := by
  refine zC_of G (by decide +kernel) (Nat.le_of_ble_eq_true rfl) ?_
  obtain ⟨c, u⟩ := p
  cases u with
  | false =>
    have hx2 : x.toInt = 2 * (c : Int) + 0 := by rw [hx]; unfold cdP; simp; try omega
    have hp2 : c < 6 := hp
    obtain ⟨m1_z, m2_z⟩ := hM_z c hp2
    refine r_aloadR0 dX12_markOf_0 ?_
    refine m_getR (q := (A + 1)) zf_RX12_9 rfl dX12_markOf_1 (shM_k hs) (shM_p1 hs) ?_
    refine n_bipush dX12_markOf_4 (by decide) (fun r4 e4_z => ?_)
    refine r_iload1 dX12_markOf_6 ?_
    refine n_iconst dX12_markOf_7 (by decide) (fun r7 e7_z => ?_)
    refine n_iremc (c := 2) dX12_markOf_8 e7_z (by decide) (by omega) (fun r8 e8 => ?_)
    refine n_iconst dX12_markOf_9 (by decide) (fun r9 e9_z => ?_)
    refine t_icne (t := 17) dX12_markOf_10 (by decide) (fun h10 => ?_) (fun h10 => False.elim (by omega))
    refine n_iconst dX12_markOf_17 (by decide) (fun r17 e17_z => ?_)
    refine r_iload2 dX12_markOf_18 ?_
    refine t_icne (t := 26) dX12_markOf_19 (by decide) (fun h19 => ?_) (fun h19 => False.elim (by omega))
    refine n_bipush dX12_markOf_26 (by decide) (fun r26 e26_z => ?_)
    refine n_iadd dX12_markOf_28 (by omega) (fun r28 e28_z => ?_)
    refine r_iload1 dX12_markOf_29 ?_
    refine n_iconst dX12_markOf_30 (by decide) (fun r30 e30 => ?_)
    refine n_idivc (c := 2) dX12_markOf_31 e30 (by decide) (by omega) (fun r31 e31_z => ?_)
    refine n_iadd dX12_markOf_32 (by omega) (fun r32 e32 => ?_)
    refine m_iald (k := 19 + c) (x := (f (A + 1) (19 + c))) dX12_markOf_33 (shM_k1 hs) (shM_n1 hs) (by omega) (by omega) (rfl) ?_
    refine r_iret dX12_markOf_34 rfl (Nat.le_of_ble_eq_true rfl) (Nat.le_of_ble_eq_true rfl) ?_
    exact hQ _ m2_z
  | true =>
    have hx2 : x.toInt = 2 * (c : Int) + 1 := by rw [hx]; unfold cdP; simp; try omega
    have hp2 : c < 6 := hp
    obtain ⟨m1_z, m2_z⟩ := hM_z c hp2
    refine r_aloadR0 dX12_markOf_0 ?_
    refine m_getR (q := (A + 1)) zf_RX12_9 rfl dX12_markOf_1 (shM_k hs) (shM_p1 hs) ?_
    refine n_bipush dX12_markOf_4 (by decide) (fun r4 e4_z => ?_)
    refine r_iload1 dX12_markOf_6 ?_
    refine n_iconst dX12_markOf_7 (by decide) (fun r7 e7_z => ?_)
    refine n_iremc (c := 2) dX12_markOf_8 e7_z (by decide) (by omega) (fun r8 e8 => ?_)
    refine n_iconst dX12_markOf_9 (by decide) (fun r9 e9_z => ?_)
    refine t_icne (t := 17) dX12_markOf_10 (by decide) (fun h10 => False.elim (by omega)) (fun h10 => ?_)
    refine n_iconst dX12_markOf_13 (by decide) (fun r13 e13_z => ?_)
    refine r_goto (t := 18) dX12_markOf_14 (by decide) ?_
    refine r_iload2 dX12_markOf_18 ?_
    refine t_icne (t := 26) dX12_markOf_19 (by decide) (fun h19 => False.elim (by omega)) (fun h19 => ?_)
    refine n_iconst dX12_markOf_22 (by decide) (fun r22 e22_z => ?_)
    refine r_goto (t := 28) dX12_markOf_23 (by decide) ?_
    refine n_iadd dX12_markOf_28 (by omega) (fun r28 e28_z => ?_)
    refine r_iload1 dX12_markOf_29 ?_
    refine n_iconst dX12_markOf_30 (by decide) (fun r30 e30 => ?_)
    refine n_idivc (c := 2) dX12_markOf_31 e30 (by decide) (by omega) (fun r31 e31_z => ?_)
    refine n_iadd dX12_markOf_32 (by omega) (fun r32 e32 => ?_)
    refine m_iald (k := 13 + c) (x := (f (A + 1) (13 + c))) dX12_markOf_33 (shM_k1 hs) (shM_n1 hs) (by omega) (by omega) (rfl) ?_
    refine r_iret dX12_markOf_34 rfl (Nat.le_of_ble_eq_true rfl) (Nat.le_of_ble_eq_true rfl) ?_
    exact hQ _ m1_z
set_option maxHeartbeats 4000000 in
set_option maxRecDepth 100000 in
theorem s_X12_markDn {g : zGT} {w : zW} {f : Nat → Nat → Int32} {j : Nat → Nat → Int64} {A : Nat} {mk : Nat → Nat} {p : Nat × Bool} {x z : Int32} {Q : Option Value → zW → Prop} {QX : String → zW → Prop} (G : zGok g) (hs : shM w A) (hM_z : ∀ c, c < 6 → (f (A + 1) (13 + c)).toInt = (mk (2 * c) : Nat) ∧ (f (A + 1) (19 + c)).toInt = (mk (2 * c + 1) : Nat)) (hx : x.toInt = (cdP p : Nat)) (hp : p.1 < 6) (hz : z.toInt = 0) (hQ : ∀ r : Int32, r.toInt = (mkBe mk p : Nat) → Q (some (.int r)) (zM w f j)) : zC g 1 yX12_markOf cX12_markOf 3 (some .int) [.ref A, .int x, .int z] (zM w f j) (0, 0) Q QX := by
  refine zC_of G (by decide +kernel) (Nat.le_of_ble_eq_true rfl) ?_
  obtain ⟨c, u⟩ := p
  cases u with
  | false =>
    have hx2 : x.toInt = 2 * (c : Int) + 0 := by rw [hx]; unfold cdP; simp; try omega
    have hp2 : c < 6 := hp
    obtain ⟨m1_z, m2_z⟩ := hM_z c hp2
    refine r_aloadR0 dX12_markOf_0 ?_
    refine m_getR (q := (A + 1)) zf_RX12_9 rfl dX12_markOf_1 (shM_k hs) (shM_p1 hs) ?_
    refine n_bipush dX12_markOf_4 (by decide) (fun r4 e4_z => ?_)
    refine r_iload1 dX12_markOf_6 ?_
    refine n_iconst dX12_markOf_7 (by decide) (fun r7 e7_z => ?_)
    refine n_iremc (c := 2) dX12_markOf_8 e7_z (by decide) (by omega) (fun r8 e8 => ?_)
    refine n_iconst dX12_markOf_9 (by decide) (fun r9 e9_z => ?_)
    refine t_icne (t := 17) dX12_markOf_10 (by decide) (fun h10 => ?_) (fun h10 => False.elim (by omega))
    refine n_iconst dX12_markOf_17 (by decide) (fun r17 e17_z => ?_)
    refine r_iload2 dX12_markOf_18 ?_
    refine t_icne (t := 26) dX12_markOf_19 (by decide) (fun h19 => False.elim (by omega)) (fun h19 => ?_)
    refine n_iconst dX12_markOf_22 (by decide) (fun r22 e22_z => ?_)
    refine r_goto (t := 28) dX12_markOf_23 (by decide) ?_
    refine n_iadd dX12_markOf_28 (by omega) (fun r28 e28_z => ?_)
    refine r_iload1 dX12_markOf_29 ?_
    refine n_iconst dX12_markOf_30 (by decide) (fun r30 e30 => ?_)
    refine n_idivc (c := 2) dX12_markOf_31 e30 (by decide) (by omega) (fun r31 e31_z => ?_)
    refine n_iadd dX12_markOf_32 (by omega) (fun r32 e32 => ?_)
    refine m_iald (k := 13 + c) (x := (f (A + 1) (13 + c))) dX12_markOf_33 (shM_k1 hs) (shM_n1 hs) (by omega) (by omega) (rfl) ?_
    refine r_iret dX12_markOf_34 rfl (Nat.le_of_ble_eq_true rfl) (Nat.le_of_ble_eq_true rfl) ?_
    exact hQ _ m1_z
  | true =>
    have hx2 : x.toInt = 2 * (c : Int) + 1 := by rw [hx]; unfold cdP; simp; try omega
    have hp2 : c < 6 := hp
    obtain ⟨m1_z, m2_z⟩ := hM_z c hp2
    refine r_aloadR0 dX12_markOf_0 ?_
    refine m_getR (q := (A + 1)) zf_RX12_9 rfl dX12_markOf_1 (shM_k hs) (shM_p1 hs) ?_
    refine n_bipush dX12_markOf_4 (by decide) (fun r4 e4_z => ?_)
    refine r_iload1 dX12_markOf_6 ?_
    refine n_iconst dX12_markOf_7 (by decide) (fun r7 e7_z => ?_)
    refine n_iremc (c := 2) dX12_markOf_8 e7_z (by decide) (by omega) (fun r8 e8 => ?_)
    refine n_iconst dX12_markOf_9 (by decide) (fun r9 e9_z => ?_)
    refine t_icne (t := 17) dX12_markOf_10 (by decide) (fun h10 => False.elim (by omega)) (fun h10 => ?_)
    refine n_iconst dX12_markOf_13 (by decide) (fun r13 e13_z => ?_)
    refine r_goto (t := 18) dX12_markOf_14 (by decide) ?_
    refine r_iload2 dX12_markOf_18 ?_
    refine t_icne (t := 26) dX12_markOf_19 (by decide) (fun h19 => ?_) (fun h19 => False.elim (by omega))
    refine n_bipush dX12_markOf_26 (by decide) (fun r26 e26_z => ?_)
    refine n_iadd dX12_markOf_28 (by omega) (fun r28 e28_z => ?_)
    refine r_iload1 dX12_markOf_29 ?_
    refine n_iconst dX12_markOf_30 (by decide) (fun r30 e30 => ?_)
    refine n_idivc (c := 2) dX12_markOf_31 e30 (by decide) (by omega) (fun r31 e31_z => ?_)
    refine n_iadd dX12_markOf_32 (by omega) (fun r32 e32 => ?_)
    refine m_iald (k := 19 + c) (x := (f (A + 1) (19 + c))) dX12_markOf_33 (shM_k1 hs) (shM_n1 hs) (by omega) (by omega) (rfl) ?_
    refine r_iret dX12_markOf_34 rfl (Nat.le_of_ble_eq_true rfl) (Nat.le_of_ble_eq_true rfl) ?_
    exact hQ _ m2_z
set_option maxHeartbeats 4000000 in
set_option maxRecDepth 100000 in
theorem s_X12_aboveAt {g : zGT} {w : zW} {f : Nat → Nat → Int32} {j : Nat → Nat → Int64} {A : Nat} {mk : Nat → Nat} {c : Nat} {y : Int32} {d n : Nat} {x : Int32} {L : zLy} {Q : Option Value → zW → Prop} {QX : String → zW → Prop} (G : zGok g) (hs : shM w A) (hM_z : ∀ c, c < 6 → (f (A + 1) (13 + c)).toInt = (mk (2 * c) : Nat) ∧ (f (A + 1) (19 + c)).toInt = (mk (2 * c + 1) : Nat)) (hx : x.toInt = (d : Nat)) (hd_z : d < 11) (hLi : ctLi (f (A + 6)) d L) (hr : rch n L) (hy : y.toInt = (c : Nat)) (hc_z : c < L.length) (hQ : ∀ r : Int32, r.toInt = (seenA mk L c : Nat) → Q (some (.int r)) (zM w f j)) : zC g 2 yX12_aboveAt cX12_aboveAt 3 (some .int) [.ref A, .int x, .int y] (zM w f j) (0, 0) Q QX := by
  refine zC_of G (by decide +kernel) (Nat.le_of_ble_eq_true rfl) ?_
  have hcell := rch_cell hr
  have hn6 := rch_le hr
  obtain ⟨C, p, c1_z, c2_z, c3_z, c4_z, q, D, c5_z, c6_z⟩ := col_ne hr hc_z
  have hco := ctLi_at hLi hc_z
  have hl6 := zcol_le (L := L) (c := (c : Nat)) (by omega)
  have hv := hco.2 _ p c3_z
  rw [seenA_of c1_z] at hQ
  refine r_aloadR0 dX12_aboveAt_0 ?_
  refine r_aloadR0 dX12_aboveAt_1 ?_
  refine r_iload1 dX12_aboveAt_2 ?_
  refine r_iload2 dX12_aboveAt_3 ?_
  refine r_aloadR0 dX12_aboveAt_4 ?_
  refine r_iload1 dX12_aboveAt_5 ?_
  refine r_iload2 dX12_aboveAt_6 ?_
  refine q_callV2 zm_RX12_261 dX12_aboveAt_7 (shM_k hs) (by decide) rfl (Nat.le_of_ble_eq_true rfl) (Nat.le_of_ble_eq_true rfl) (Nat.le_of_ble_eq_true rfl) (Nat.le_of_ble_eq_true rfl) (Nat.le_of_ble_eq_true rfl) (s_X12_highAt G hs hx hy hd_z (by omega) hco.1 (fun r7 e7_z => ?_))
  refine n_iconst dX12_aboveAt_10 (by decide) (fun r10 e10_z => ?_)
  refine n_isub dX12_aboveAt_11 (by omega) (fun r11 e11_z => ?_)
  refine q_callV3 zm_RX12_264 dX12_aboveAt_12 (shM_k hs) (by decide) rfl (Nat.le_of_ble_eq_true rfl) (Nat.le_of_ble_eq_true rfl) (Nat.le_of_ble_eq_true rfl) (Nat.le_of_ble_eq_true rfl) (Nat.le_of_ble_eq_true rfl) (s_X12_layerAt (d := d) (c := c) (i := C.length) G hs hx hy (by omega) hd_z (by omega) (by omega) hv (fun r12 e12_z => ?_))
  refine n_iconst dX12_aboveAt_15 (by decide) (fun r15 e15_z => ?_)
  refine q_callV2 zm_RX12_283 dX12_aboveAt_16 (shM_k hs) (by decide) rfl (Nat.le_of_ble_eq_true rfl) (Nat.le_of_ble_eq_true rfl) (Nat.le_of_ble_eq_true rfl) (Nat.le_of_ble_eq_true rfl) (Nat.le_of_ble_eq_true rfl) (s_X12_markUp G hs hM_z e12_z c4_z e15_z (fun r16 e16_z => ?_))
  refine r_iret dX12_aboveAt_19 rfl (Nat.le_of_ble_eq_true rfl) (Nat.le_of_ble_eq_true rfl) ?_
  exact hQ _ e16_z
set_option maxHeartbeats 4000000 in
set_option maxRecDepth 100000 in
theorem s_X12_beneathAt {g : zGT} {w : zW} {f : Nat → Nat → Int32} {j : Nat → Nat → Int64} {A : Nat} {mk : Nat → Nat} {c : Nat} {y : Int32} {d n : Nat} {x : Int32} {L : zLy} {Q : Option Value → zW → Prop} {QX : String → zW → Prop} (G : zGok g) (hs : shM w A) (hM_z : ∀ c, c < 6 → (f (A + 1) (13 + c)).toInt = (mk (2 * c) : Nat) ∧ (f (A + 1) (19 + c)).toInt = (mk (2 * c + 1) : Nat)) (hx : x.toInt = (d : Nat)) (hd_z : d < 11) (hLi : ctLi (f (A + 6)) d L) (hr : rch n L) (hy : y.toInt = (c : Nat)) (hc_z : c < L.length) (hQ : ∀ r : Int32, r.toInt = (seenB mk L c : Nat) → Q (some (.int r)) (zM w f j)) : zC g 2 yX12_beneathAt cX12_beneathAt 3 (some .int) [.ref A, .int x, .int y] (zM w f j) (0, 0) Q QX := by
  refine zC_of G (by decide +kernel) (Nat.le_of_ble_eq_true rfl) ?_
  have hcell := rch_cell hr
  have hn6 := rch_le hr
  obtain ⟨C, p, c1_z, c2_z, c3_z, c4_z, q, D, c5_z, c6_z⟩ := col_ne hr hc_z
  have hco := ctLi_at hLi hc_z
  have hl6 := zcol_le (L := L) (c := (c : Nat)) (by omega)
  have hv := hco.2 0 q (by rw [c5_z]; rfl)
  rw [seenB_of c5_z] at hQ
  refine r_aloadR0 dX12_beneathAt_0 ?_
  refine r_aloadR0 dX12_beneathAt_1 ?_
  refine r_iload1 dX12_beneathAt_2 ?_
  refine r_iload2 dX12_beneathAt_3 ?_
  refine n_iconst dX12_beneathAt_4 (by decide) (fun r4 e4_z => ?_)
  refine q_callV3 zm_RX12_264 dX12_beneathAt_5 (shM_k hs) (by decide) rfl (Nat.le_of_ble_eq_true rfl) (Nat.le_of_ble_eq_true rfl) (Nat.le_of_ble_eq_true rfl) (Nat.le_of_ble_eq_true rfl) (Nat.le_of_ble_eq_true rfl) (s_X12_layerAt (d := d) (c := c) (i := 0) G hs hx hy (by omega) hd_z (by omega) (by omega) hv (fun r5 e5_z => ?_))
  skip
  refine n_iconst dX12_beneathAt_8 (by decide) (fun r8 e8 => ?_)
  refine q_callV2 zm_RX12_283 dX12_beneathAt_9 (shM_k hs) (by decide) rfl (Nat.le_of_ble_eq_true rfl) (Nat.le_of_ble_eq_true rfl) (Nat.le_of_ble_eq_true rfl) (Nat.le_of_ble_eq_true rfl) (Nat.le_of_ble_eq_true rfl) (s_X12_markDn G hs hM_z e5_z c6_z e8 (fun r9 e9_z => ?_))
  refine r_iret dX12_beneathAt_12 rfl (Nat.le_of_ble_eq_true rfl) (Nat.le_of_ble_eq_true rfl) ?_
  exact hQ _ e9_z
set_option maxHeartbeats 4000000 in
set_option maxRecDepth 100000 in
theorem s_X12_highestAt {g : zGT} {w : zW} {f : Nat → Nat → Int32} {j : Nat → Nat → Int64} {A : Nat} {d n : Nat} {x : Int32} {L : zLy} {Q : Option Value → zW → Prop} {QX : String → zW → Prop} (G : zGok g) (hs : shM w A)  (hx : x.toInt = (d : Nat)) (hd_z : d < 11) (hLi : ctLi (f (A + 6)) d L) (hr : rch n L) (hQ : ∀ r : Int32, r.toInt = (lyTall L : Nat) → Q (some (.int r)) (zM w f j)) : zC g 2 yX12_highestAt cX12_highestAt 4 (some .int) [.ref A, .int x] (zM w f j) (0, 0) Q QX := by
  refine zC_of G (by decide +kernel) (Nat.le_of_ble_eq_true rfl) ?_
  have hcell := rch_cell hr
  have hn6 := rch_le hr
  have lp : ∀ (m : Nat) (c : Int32) (v : Int32) (k : Nat), c.toInt = (k : Nat) → k ≤ L.length → v.toInt = (lyTallK L k : Nat) → L.length - k < m → zR (zV g 2 yX12_highestAt 4 (some .int) (0, 0) Q QX) cX12_highestAt yX12_highestAt.cls 4 [some (.ref A), some (.int x), some (.int v), some (.int c)] [] (zM w f j) (0, 0) := by
    intro m
    induction m with
    | zero =>
      intro c v k hc_z hk hn hm_z
      exact absurd hm_z (Nat.not_lt_zero _)
    | succ m ih =>
      intro c v k hc_z hk hn hm_z
      rcases Nat.lt_or_ge k L.length with hkl | hkl
      · have hco := ctLi_at hLi hkl
        have hl6 := zcol_le (L := L) (c := (k : Nat)) (by omega)
        have ht := lyTallK_le (L := L) (k := k)
        have hs2 : lyTallK L (k + 1) = max (lyTallK L k) (zcol L (k : Nat)).length := rfl
        refine r_iload3 dX12_highestAt_4 ?_
        refine r_aloadR0 dX12_highestAt_5 ?_
        refine r_iload1 dX12_highestAt_6 ?_
        refine q_callV1 zm_RX12_256 dX12_highestAt_7 (shM_k hs) (by decide) rfl (Nat.le_of_ble_eq_true rfl) (Nat.le_of_ble_eq_true rfl) (Nat.le_of_ble_eq_true rfl) (Nat.le_of_ble_eq_true rfl) (Nat.le_of_ble_eq_true rfl) (s_X12_columnsAt G hs hx hd_z hLi.1 (fun r7 e7_z => ?_))
        refine t_icge (t := 30) dX12_highestAt_10 (by decide) (fun h10 => False.elim (by omega)) (fun h10 => ?_)
        refine r_iload2 dX12_highestAt_13 ?_
        refine r_aloadR0 dX12_highestAt_14 ?_
        refine r_iload1 dX12_highestAt_15 ?_
        refine r_iload3 dX12_highestAt_16 ?_
        refine q_callV2 zm_RX12_261 dX12_highestAt_17 (shM_k hs) (by decide) rfl (Nat.le_of_ble_eq_true rfl) (Nat.le_of_ble_eq_true rfl) (Nat.le_of_ble_eq_true rfl) (Nat.le_of_ble_eq_true rfl) (Nat.le_of_ble_eq_true rfl) (s_X12_highAt G hs hx hc_z hd_z (by omega) hco.1 (fun r17 e17_z => ?_))
        refine r_mmax zm_RX12_268 dX12_highestAt_20 (Nat.le_of_ble_eq_true rfl) (Nat.le_of_ble_eq_true rfl) (Nat.le_of_ble_eq_true rfl) (Nat.le_of_ble_eq_true rfl) (Nat.le_of_ble_eq_true rfl) (fun r20 e20 => ?_)
        refine r_istore2 dX12_highestAt_23 rfl ?_
        refine n_iinc3 dX12_highestAt_24 (by decide) rfl (by omega) (fun r24 e24_z => ?_)
        refine r_goto (t := 4) dX12_highestAt_27 (by decide) ?_
        exact ih _ _ (k + 1) (by omega) (by omega) (by omega) (by omega)
      · refine r_iload3 dX12_highestAt_4 ?_
        refine r_aloadR0 dX12_highestAt_5 ?_
        refine r_iload1 dX12_highestAt_6 ?_
        refine q_callV1 zm_RX12_256 dX12_highestAt_7 (shM_k hs) (by decide) rfl (Nat.le_of_ble_eq_true rfl) (Nat.le_of_ble_eq_true rfl) (Nat.le_of_ble_eq_true rfl) (Nat.le_of_ble_eq_true rfl) (Nat.le_of_ble_eq_true rfl) (s_X12_columnsAt G hs hx hd_z hLi.1 (fun r7 e7_z => ?_))
        refine t_icge (t := 30) dX12_highestAt_10 (by decide) (fun h10 => ?_) (fun h10 => False.elim (by omega))
        refine r_iload2 dX12_highestAt_30 ?_
        refine r_iret dX12_highestAt_31 rfl (Nat.le_of_ble_eq_true rfl) (Nat.le_of_ble_eq_true rfl) ?_
        have e : k = L.length := by omega
        subst e
        exact hQ _ hn
  refine n_iconst dX12_highestAt_0 (by decide) (fun r0 e0_z => ?_)
  refine r_istore2 dX12_highestAt_1 rfl ?_
  refine n_iconst dX12_highestAt_2 (by decide) (fun r2 e2_z => ?_)
  refine r_istore3 dX12_highestAt_3 rfl ?_
  exact lp (L.length + 1) _ _ 0 e2_z (by omega) e0_z (by omega)
set_option maxHeartbeats 4000000 in
set_option maxRecDepth 100000 in
theorem s_X12_topAt {g : zGT} {w : zW} {f : Nat → Nat → Int32} {j : Nat → Nat → Int64} {A : Nat} {mk : Nat → Nat} {d n : Nat} {x : Int32} {L : zLy} {Q : Option Value → zW → Prop} {QX : String → zW → Prop} (G : zGok g) (hs : shM w A) (hM_z : ∀ c, c < 6 → (f (A + 1) (13 + c)).toInt = (mk (2 * c) : Nat) ∧ (f (A + 1) (19 + c)).toInt = (mk (2 * c + 1) : Nat)) (hm9 : ∀ i, mk i ≤ 99) (hx : x.toInt = (d : Nat)) (hd_z : d < 11) (hLi : ctLi (f (A + 6)) d L) (hr : rch n L) (hQ : ∀ r : Int32, r.toInt = (topN mk L : Nat) → Q (some (.int r)) (zM w f j)) : zC g 3 yX12_topAt cX12_topAt 4 (some .int) [.ref A, .int x] (zM w f j) (0, 0) Q QX := by
  refine zC_of G (by decide +kernel) (Nat.le_of_ble_eq_true rfl) ?_
  have hcell := rch_cell hr
  have hn6 := rch_le hr
  have lp : ∀ (m : Nat) (c : Int32) (v : Int32) (k : Nat), c.toInt = (k : Nat) → k ≤ L.length → v.toInt = (zsum (seenA mk L) k : Nat) → L.length - k < m → zR (zV g 3 yX12_topAt 4 (some .int) (0, 0) Q QX) cX12_topAt yX12_topAt.cls 4 [some (.ref A), some (.int x), some (.int v), some (.int c)] [] (zM w f j) (0, 0) := by
    intro m
    induction m with
    | zero =>
      intro c v k hc_z hk hn hm_z
      exact absurd hm_z (Nat.not_lt_zero _)
    | succ m ih =>
      intro c v k hc_z hk hn hm_z
      rcases Nat.lt_or_ge k L.length with hkl | hkl
      · have hco := ctLi_at hLi hkl
        have hl6 := zcol_le (L := L) (c := (k : Nat)) (by omega)
        have hle : zsum (seenA mk L) k ≤ k * 99 := zsum_le (fun _ => seenA_le hm9)
        have h1 := seenA_le (M := mk) (L := L) (c := k) hm9
        have hs2 : zsum (seenA mk L) (k + 1) = zsum (seenA mk L) k + seenA mk L k := rfl
        refine r_iload3 dX12_topAt_4 ?_
        refine r_aloadR0 dX12_topAt_5 ?_
        refine r_iload1 dX12_topAt_6 ?_
        refine q_callV1 zm_RX12_256 dX12_topAt_7 (shM_k hs) (by decide) rfl (Nat.le_of_ble_eq_true rfl) (Nat.le_of_ble_eq_true rfl) (Nat.le_of_ble_eq_true rfl) (Nat.le_of_ble_eq_true rfl) (Nat.le_of_ble_eq_true rfl) (s_X12_columnsAt G hs hx hd_z hLi.1 (fun r7 e7_z => ?_))
        refine t_icge (t := 28) dX12_topAt_10 (by decide) (fun h10 => False.elim (by omega)) (fun h10 => ?_)
        refine r_iload2 dX12_topAt_13 ?_
        refine r_aloadR0 dX12_topAt_14 ?_
        refine r_iload1 dX12_topAt_15 ?_
        refine r_iload3 dX12_topAt_16 ?_
        refine q_callV2 zm_RX12_287 dX12_topAt_17 (shM_k hs) (by decide) rfl (Nat.le_of_ble_eq_true rfl) (Nat.le_of_ble_eq_true rfl) (Nat.le_of_ble_eq_true rfl) (Nat.le_of_ble_eq_true rfl) (Nat.le_of_ble_eq_true rfl) (s_X12_aboveAt G hs hM_z hx hd_z hLi hr hc_z hkl (fun r17 e17_z => ?_))
        refine n_iadd dX12_topAt_20 (by omega) (fun r20 e20 => ?_)
        refine r_istore2 dX12_topAt_21 rfl ?_
        refine n_iinc3 dX12_topAt_22 (by decide) rfl (by omega) (fun r22 e22_z => ?_)
        refine r_goto (t := 4) dX12_topAt_25 (by decide) ?_
        exact ih _ _ (k + 1) (by omega) (by omega) (by omega) (by omega)
      · refine r_iload3 dX12_topAt_4 ?_
        refine r_aloadR0 dX12_topAt_5 ?_
        refine r_iload1 dX12_topAt_6 ?_
        refine q_callV1 zm_RX12_256 dX12_topAt_7 (shM_k hs) (by decide) rfl (Nat.le_of_ble_eq_true rfl) (Nat.le_of_ble_eq_true rfl) (Nat.le_of_ble_eq_true rfl) (Nat.le_of_ble_eq_true rfl) (Nat.le_of_ble_eq_true rfl) (s_X12_columnsAt G hs hx hd_z hLi.1 (fun r7 e7_z => ?_))
        refine t_icge (t := 28) dX12_topAt_10 (by decide) (fun h10 => ?_) (fun h10 => False.elim (by omega))
        refine r_iload2 dX12_topAt_28 ?_
        refine r_iret dX12_topAt_29 rfl (Nat.le_of_ble_eq_true rfl) (Nat.le_of_ble_eq_true rfl) ?_
        have e : k = L.length := by omega
        subst e
        exact hQ _ hn
  refine n_iconst dX12_topAt_0 (by decide) (fun r0 e0_z => ?_)
  refine r_istore2 dX12_topAt_1 rfl ?_
  refine n_iconst dX12_topAt_2 (by decide) (fun r2 e2_z => ?_)
  refine r_istore3 dX12_topAt_3 rfl ?_
  exact lp (L.length + 1) _ _ 0 e2_z (by omega) e0_z (by omega)
set_option maxHeartbeats 4000000 in
set_option maxRecDepth 100000 in
theorem s_X12_underAt {g : zGT} {w : zW} {f : Nat → Nat → Int32} {j : Nat → Nat → Int64} {A : Nat} {mk : Nat → Nat} {d n : Nat} {x : Int32} {L : zLy} {Q : Option Value → zW → Prop} {QX : String → zW → Prop} (G : zGok g) (hs : shM w A) (hM_z : ∀ c, c < 6 → (f (A + 1) (13 + c)).toInt = (mk (2 * c) : Nat) ∧ (f (A + 1) (19 + c)).toInt = (mk (2 * c + 1) : Nat)) (hm9 : ∀ i, mk i ≤ 99) (hx : x.toInt = (d : Nat)) (hd_z : d < 11) (hLi : ctLi (f (A + 6)) d L) (hr : rch n L) (hQ : ∀ r : Int32, r.toInt = (undN mk L : Nat) → Q (some (.int r)) (zM w f j)) : zC g 3 yX12_underAt cX12_underAt 4 (some .int) [.ref A, .int x] (zM w f j) (0, 0) Q QX := by
  refine zC_of G (by decide +kernel) (Nat.le_of_ble_eq_true rfl) ?_
  have hcell := rch_cell hr
  have hn6 := rch_le hr
  have lp : ∀ (m : Nat) (c : Int32) (v : Int32) (k : Nat), c.toInt = (k : Nat) → k ≤ L.length → v.toInt = (zsum (seenB mk L) k : Nat) → L.length - k < m → zR (zV g 3 yX12_underAt 4 (some .int) (0, 0) Q QX) cX12_underAt yX12_underAt.cls 4 [some (.ref A), some (.int x), some (.int v), some (.int c)] [] (zM w f j) (0, 0) := by
    intro m
    induction m with
    | zero =>
      intro c v k hc_z hk hn hm_z
      exact absurd hm_z (Nat.not_lt_zero _)
    | succ m ih =>
      intro c v k hc_z hk hn hm_z
      rcases Nat.lt_or_ge k L.length with hkl | hkl
      · have hco := ctLi_at hLi hkl
        have hl6 := zcol_le (L := L) (c := (k : Nat)) (by omega)
        have hle : zsum (seenB mk L) k ≤ k * 99 := zsum_le (fun _ => seenB_le hm9)
        have h1 := seenB_le (M := mk) (L := L) (c := k) hm9
        have hs2 : zsum (seenB mk L) (k + 1) = zsum (seenB mk L) k + seenB mk L k := rfl
        refine r_iload3 dX12_underAt_4 ?_
        refine r_aloadR0 dX12_underAt_5 ?_
        refine r_iload1 dX12_underAt_6 ?_
        refine q_callV1 zm_RX12_256 dX12_underAt_7 (shM_k hs) (by decide) rfl (Nat.le_of_ble_eq_true rfl) (Nat.le_of_ble_eq_true rfl) (Nat.le_of_ble_eq_true rfl) (Nat.le_of_ble_eq_true rfl) (Nat.le_of_ble_eq_true rfl) (s_X12_columnsAt G hs hx hd_z hLi.1 (fun r7 e7_z => ?_))
        refine t_icge (t := 28) dX12_underAt_10 (by decide) (fun h10 => False.elim (by omega)) (fun h10 => ?_)
        refine r_iload2 dX12_underAt_13 ?_
        refine r_aloadR0 dX12_underAt_14 ?_
        refine r_iload1 dX12_underAt_15 ?_
        refine r_iload3 dX12_underAt_16 ?_
        refine q_callV2 zm_RX12_290 dX12_underAt_17 (shM_k hs) (by decide) rfl (Nat.le_of_ble_eq_true rfl) (Nat.le_of_ble_eq_true rfl) (Nat.le_of_ble_eq_true rfl) (Nat.le_of_ble_eq_true rfl) (Nat.le_of_ble_eq_true rfl) (s_X12_beneathAt G hs hM_z hx hd_z hLi hr hc_z hkl (fun r17 e17_z => ?_))
        refine n_iadd dX12_underAt_20 (by omega) (fun r20 e20 => ?_)
        refine r_istore2 dX12_underAt_21 rfl ?_
        refine n_iinc3 dX12_underAt_22 (by decide) rfl (by omega) (fun r22 e22_z => ?_)
        refine r_goto (t := 4) dX12_underAt_25 (by decide) ?_
        exact ih _ _ (k + 1) (by omega) (by omega) (by omega) (by omega)
      · refine r_iload3 dX12_underAt_4 ?_
        refine r_aloadR0 dX12_underAt_5 ?_
        refine r_iload1 dX12_underAt_6 ?_
        refine q_callV1 zm_RX12_256 dX12_underAt_7 (shM_k hs) (by decide) rfl (Nat.le_of_ble_eq_true rfl) (Nat.le_of_ble_eq_true rfl) (Nat.le_of_ble_eq_true rfl) (Nat.le_of_ble_eq_true rfl) (Nat.le_of_ble_eq_true rfl) (s_X12_columnsAt G hs hx hd_z hLi.1 (fun r7 e7_z => ?_))
        refine t_icge (t := 28) dX12_underAt_10 (by decide) (fun h10 => ?_) (fun h10 => False.elim (by omega))
        refine r_iload2 dX12_underAt_28 ?_
        refine r_iret dX12_underAt_29 rfl (Nat.le_of_ble_eq_true rfl) (Nat.le_of_ble_eq_true rfl) ?_
        have e : k = L.length := by omega
        subst e
        exact hQ _ hn
  refine n_iconst dX12_underAt_0 (by decide) (fun r0 e0_z => ?_)
  refine r_istore2 dX12_underAt_1 rfl ?_
  refine n_iconst dX12_underAt_2 (by decide) (fun r2 e2_z => ?_)
  refine r_istore3 dX12_underAt_3 rfl ?_
  exact lp (L.length + 1) _ _ 0 e2_z (by omega) e0_z (by omega)
set_option maxHeartbeats 4000000 in
set_option maxRecDepth 100000 in
theorem s_X12_hiddenAt {g : zGT} {w : zW} {f : Nat → Nat → Int32} {j : Nat → Nat → Int64} {A : Nat} {mk : Nat → Nat} {d n : Nat} {x : Int32} {L : zLy} {Q : Option Value → zW → Prop} {QX : String → zW → Prop} (G : zGok g) (hs : shM w A) (hn : (f (A + 1) 1).toInt = (n : Nat)) (hM_z : ∀ c, c < 6 → (f (A + 1) (13 + c)).toInt = (mk (2 * c) : Nat) ∧ (f (A + 1) (19 + c)).toInt = (mk (2 * c + 1) : Nat)) (hm9 : ∀ i, mk i ≤ 99) (hx : x.toInt = (d : Nat)) (hd_z : d < 11) (hLi : ctLi (f (A + 6)) d L) (hr : rch n L) (hQ : ∀ r : Int32, r.toInt = ((allN mk n : Nat) : Int) - (topN mk L : Nat) - (undN mk L : Nat) → Q (some (.int r)) (zM w f j)) : zC g 4 yX12_hiddenAt cX12_hiddenAt 4 (some .int) [.ref A, .int x] (zM w f j) (0, 0) Q QX := by
  refine zC_of G (by decide +kernel) (Nat.le_of_ble_eq_true rfl) ?_
  have hcell := rch_cell hr
  have hn6 := rch_le hr
  have ht := topN_le (M := mk) (L := L) hm9
  have hu := undN_le (M := mk) (L := L) hm9
  have lp : ∀ (m : Nat) (c : Int32) (v : Int32) (k : Nat), c.toInt = (k : Nat) → k ≤ n → v.toInt = (zsum (fun c => mk (2 * c) + mk (2 * c + 1)) k : Nat) - (topN mk L : Nat) - (undN mk L : Nat) → n - k < m → zR (zV g 4 yX12_hiddenAt 4 (some .int) (0, 0) Q QX) cX12_hiddenAt yX12_hiddenAt.cls 15 [some (.ref A), some (.int x), some (.int v), some (.int c)] [] (zM w f j) (0, 0) := by
    intro m
    induction m with
    | zero =>
      intro c v k hc_z hk hv hm_z
      exact absurd hm_z (Nat.not_lt_zero _)
    | succ m ih =>
      intro c v k hc_z hk hv hm_z
      have hz : zsum (fun c => mk (2 * c) + mk (2 * c + 1)) (k + 1) = zsum (fun c => mk (2 * c) + mk (2 * c + 1)) k + (mk (2 * k) + mk (2 * k + 1)) := rfl
      have hz2 := allN_le (n := k) hm9
      unfold allN at hz2
      have g1 := hm9 (2 * k)
      have g2 := hm9 (2 * k + 1)
      rcases Nat.lt_or_ge k n with hkl | hkl
      · obtain ⟨m1_z, m2_z⟩ := hM_z k (by omega)
        refine r_iload3 dX12_hiddenAt_15 ?_
        refine r_aloadR0 dX12_hiddenAt_16 ?_
        refine q_callV0 zm_RX12_253 dX12_hiddenAt_17 (shM_k hs) (by decide) rfl (Nat.le_of_ble_eq_true rfl) (Nat.le_of_ble_eq_true rfl) (Nat.le_of_ble_eq_true rfl) (Nat.le_of_ble_eq_true rfl) (Nat.le_of_ble_eq_true rfl) (s_X12_cells G hs hn (fun r17 e17_z => ?_))
        refine t_icge (t := 51) dX12_hiddenAt_20 (by decide) (fun h20 => False.elim (by omega)) (fun h20 => ?_)
        refine r_iload2 dX12_hiddenAt_23 ?_
        refine r_aloadR0 dX12_hiddenAt_24 ?_
        refine m_getR (q := (A + 1)) zf_RX12_9 rfl dX12_hiddenAt_25 (shM_k hs) (shM_p1 hs) ?_
        refine n_bipush dX12_hiddenAt_28 (by decide) (fun r28 e28_z => ?_)
        refine r_iload3 dX12_hiddenAt_30 ?_
        refine n_iadd dX12_hiddenAt_31 (by omega) (fun r31 e31_z => ?_)
        refine m_iald (k := 13 + k) (x := (f (A + 1) (13 + k))) dX12_hiddenAt_32 (shM_k1 hs) (shM_n1 hs) (by omega) (by omega) (rfl) ?_
        refine r_aloadR0 dX12_hiddenAt_33 ?_
        refine m_getR (q := (A + 1)) zf_RX12_9 rfl dX12_hiddenAt_34 (shM_k hs) (shM_p1 hs) ?_
        refine n_bipush dX12_hiddenAt_37 (by decide) (fun r37 e37 => ?_)
        refine r_iload3 dX12_hiddenAt_39 ?_
        refine n_iadd dX12_hiddenAt_40 (by omega) (fun r40 e40 => ?_)
        refine m_iald (k := 19 + k) (x := (f (A + 1) (19 + k))) dX12_hiddenAt_41 (shM_k1 hs) (shM_n1 hs) (by omega) (by omega) (rfl) ?_
        refine n_iadd dX12_hiddenAt_42 (by omega) (fun r42 e42_z => ?_)
        refine n_iadd dX12_hiddenAt_43 (by omega) (fun r43 e43 => ?_)
        refine r_istore2 dX12_hiddenAt_44 rfl ?_
        refine n_iinc3 dX12_hiddenAt_45 (by decide) rfl (by omega) (fun r45 e45 => ?_)
        refine r_goto (t := 15) dX12_hiddenAt_48 (by decide) ?_
        exact ih _ _ (k + 1) (by omega) (by omega) (by omega) (by omega)
      · refine r_iload3 dX12_hiddenAt_15 ?_
        refine r_aloadR0 dX12_hiddenAt_16 ?_
        refine q_callV0 zm_RX12_253 dX12_hiddenAt_17 (shM_k hs) (by decide) rfl (Nat.le_of_ble_eq_true rfl) (Nat.le_of_ble_eq_true rfl) (Nat.le_of_ble_eq_true rfl) (Nat.le_of_ble_eq_true rfl) (Nat.le_of_ble_eq_true rfl) (s_X12_cells G hs hn (fun r17 e17_z => ?_))
        refine t_icge (t := 51) dX12_hiddenAt_20 (by decide) (fun h20 => ?_) (fun h20 => False.elim (by omega))
        refine r_iload2 dX12_hiddenAt_51 ?_
        refine r_iret dX12_hiddenAt_52 rfl (Nat.le_of_ble_eq_true rfl) (Nat.le_of_ble_eq_true rfl) ?_
        have e : k = n := by omega
        subst e
        exact hQ _ hv
  refine r_aloadR0 dX12_hiddenAt_0 ?_
  refine r_iload1 dX12_hiddenAt_1 ?_
  refine q_callV1 zm_RX12_293 dX12_hiddenAt_2 (shM_k hs) (by decide) rfl (Nat.le_of_ble_eq_true rfl) (Nat.le_of_ble_eq_true rfl) (Nat.le_of_ble_eq_true rfl) (Nat.le_of_ble_eq_true rfl) (Nat.le_of_ble_eq_true rfl) (s_X12_topAt G hs hM_z hm9 hx hd_z hLi hr (fun r2 e2_z => ?_))
  refine r_ineg dX12_hiddenAt_5 ?_
  refine n_name (fun r5 e5_z => ?_)
  have e5b : r5.toInt = -r2.toInt := by rw [e5_z]; exact zi_neg (by omega)
  refine r_aloadR0 dX12_hiddenAt_6 ?_
  refine r_iload1 dX12_hiddenAt_7 ?_
  refine q_callV1 zm_RX12_296 dX12_hiddenAt_8 (shM_k hs) (by decide) rfl (Nat.le_of_ble_eq_true rfl) (Nat.le_of_ble_eq_true rfl) (Nat.le_of_ble_eq_true rfl) (Nat.le_of_ble_eq_true rfl) (Nat.le_of_ble_eq_true rfl) (s_X12_underAt G hs hM_z hm9 hx hd_z hLi hr (fun r8 e8 => ?_))
  refine n_isub dX12_hiddenAt_11 (by omega) (fun r11 e11_z => ?_)
  refine r_istore2 dX12_hiddenAt_12 rfl ?_
  refine n_iconst dX12_hiddenAt_13 (by decide) (fun r13 e13_z => ?_)
  refine r_istore3 dX12_hiddenAt_14 rfl ?_
  have hz0 : zsum (fun c => mk (2 * c) + mk (2 * c + 1)) 0 = 0 := rfl
  exact lp (n + 1) _ _ 0 e13_z (by omega) (by omega) (by omega)
set_option maxHeartbeats 4000000 in
set_option maxRecDepth 100000 in
theorem s_X12_laysPlaces {g : zGT} {w : zW} {f : Nat → Nat → Int32} {j : Nat → Nat → Int64} {A : Nat} {d n : Nat} {x : Int32} {L : zLy} {Q : Option Value → zW → Prop} {QX : String → zW → Prop} (G : zGok g) (hs : shM w A) (hx : x.toInt = (d : Nat)) (hd_z : d < 11) (hLi : ctLi (f (A + 6)) d L) (hr : rch n L) (hQ : ∀ f2_z, frM A [7] [] f f2_z → (∀ c, c < n → (f2_z (A + 7) c).toInt = (plcN L c : Nat)) → Q none (zM w f2_z j)) : zC g 2 yX12_laysPlaces cX12_laysPlaces 4 none [.ref A, .int x] (zM w f j) (0, 0) Q QX := by
  refine zC_of G (by decide +kernel) (Nat.le_of_ble_eq_true rfl) ?_
  have hcell := rch_cell hr
  have hn6 := rch_le hr
  obtain ⟨pl1, pl2, -⟩ := rch_plc hr
  have lp : ∀ (m : Nat) (c : Int32) (v3 : Option Value) (k : Nat) (f2_z : Nat → Nat → Int32), c.toInt = (k : Nat) → k ≤ L.length → frM A [7] [] f f2_z → (∀ (k2_z i : Nat) (p : Nat × Bool), k2_z < k → (zcol L (k2_z : Nat))[i]? = some p → (f2_z (A + 7) p.1).toInt = (plcN L p.1 : Nat)) → L.length - k < m → zR (zV g 2 yX12_laysPlaces 4 none (0, 0) Q QX) cX12_laysPlaces yX12_laysPlaces.cls 2 [some (.ref A), some (.int x), some (.int c), v3] [] (zM w f2_z j) (0, 0) := by
    intro m
    induction m with
    | zero =>
      intro c v3 k f2_z hc_z hk hfr hdn hm_z
      exact absurd hm_z (Nat.not_lt_zero _)
    | succ m ih =>
      intro c v3 k f2_z hc_z hk hfr hdn hm_z
      have hl6 : f2_z (A + 6) = f (A + 6) := hfr.2.1 6 (by decide) (by decide) (by decide)
      have hLi2 : ctLi (f2_z (A + 6)) d L := by rw [hl6]; exact hLi
      rcases Nat.lt_or_ge k L.length with hkl | hkl
      · have hc6 := zcol_le (L := L) (c := (k : Nat)) (by omega)
        have lp2 : ∀ (m2_z : Nat) (e : Int32) (f3_z : Nat → Nat → Int32) (i : Nat), e.toInt = (i : Nat) → i ≤ (zcol L (k : Nat)).length → frM A [7] [] f f3_z → (∀ (k2_z i2_z : Nat) (p : Nat × Bool), (k2_z < k ∨ k2_z = k ∧ i2_z < i → (zcol L (k2_z : Nat))[i2_z]? = some p → (f3_z (A + 7) p.1).toInt = (plcN L p.1 : Nat))) → (zcol L (k : Nat)).length - i < m2_z → zR (zV g 2 yX12_laysPlaces 4 none (0, 0) Q QX) cX12_laysPlaces yX12_laysPlaces.cls 13 [some (.ref A), some (.int x), some (.int c), some (.int e)] [] (zM w f3_z j) (0, 0) := by
          intro m2_z
          induction m2_z with
          | zero =>
            intro e f3_z i he hi_z hfr3 hdi hm2
            exact absurd hm2 (Nat.not_lt_zero _)
          | succ m2_z ih2 =>
            intro e f3_z i he hi_z hfr3 hdi hm2
            have hl6 : f3_z (A + 6) = f (A + 6) := hfr3.2.1 6 (by decide) (by decide) (by decide)
            have hLi3 : ctLi (f3_z (A + 6)) d L := by rw [hl6]; exact hLi
            have hco := ctLi_at hLi3 hkl
            rcases Nat.lt_or_ge i (zcol L (k : Nat)).length with hil | hil
            · obtain ⟨p, hp⟩ : ∃ p, (zcol L (k : Nat))[i]? = some p := ⟨_, List.getElem?_eq_getElem hil⟩
              have hv := hco.2 i p hp
              have hp6 := rch_bd hr p (zcol_mem (List.mem_of_getElem? hp))
              have hpl := pl1 k i p hkl hp
              have hcd : cdP p = 2 * p.1 + (if p.2 then 1 else 0) := rfl
              have hb01 : (if p.2 then 1 else 0 : Nat) ≤ 1 := by split <;> omega
              refine r_iload3 dX12_laysPlaces_13 ?_
              refine r_aloadR0 dX12_laysPlaces_14 ?_
              refine r_iload1 dX12_laysPlaces_15 ?_
              refine r_iload2 dX12_laysPlaces_16 ?_
              refine q_callV2 zm_RX12_261 dX12_laysPlaces_17 (shM_k hs) (by decide) rfl (Nat.le_of_ble_eq_true rfl) (Nat.le_of_ble_eq_true rfl) (Nat.le_of_ble_eq_true rfl) (Nat.le_of_ble_eq_true rfl) (Nat.le_of_ble_eq_true rfl) (s_X12_highAt G hs hx hc_z hd_z (by omega) hco.1 (fun r17 e17_z => ?_))
              refine t_icge (t := 61) dX12_laysPlaces_20 (by decide) (fun h20 => False.elim (by omega)) (fun h20 => ?_)
              refine r_aloadR0 dX12_laysPlaces_23 ?_
              refine m_getR (q := (A + 7)) zf_RX12_33 rfl dX12_laysPlaces_24 (shM_k hs) (shM_p7 hs) ?_
              refine r_aloadR0 dX12_laysPlaces_27 ?_
              refine r_iload1 dX12_laysPlaces_28 ?_
              refine r_iload2 dX12_laysPlaces_29 ?_
              refine r_iload3 dX12_laysPlaces_30 ?_
              refine q_callV3 zm_RX12_264 dX12_laysPlaces_31 (shM_k hs) (by decide) rfl (Nat.le_of_ble_eq_true rfl) (Nat.le_of_ble_eq_true rfl) (Nat.le_of_ble_eq_true rfl) (Nat.le_of_ble_eq_true rfl) (Nat.le_of_ble_eq_true rfl) (s_X12_layerAt G hs hx hc_z he hd_z (by omega) (by omega) hv (fun r31 e31_z => ?_))
              refine n_iconst dX12_laysPlaces_34 (by decide) (fun r34 e34 => ?_)
              refine n_idivc (c := 2) dX12_laysPlaces_35 e34 (by decide) (by omega) (fun r35 e35 => ?_)
              refine n_bipush dX12_laysPlaces_36 (by decide) (fun r36 e36 => ?_)
              refine r_iload2 dX12_laysPlaces_38 ?_
              refine n_imulc dX12_laysPlaces_39 e36 (by omega) (fun r39 e39 => ?_)
              refine n_iconst dX12_laysPlaces_40 (by decide) (fun r40 e40 => ?_)
              refine r_iload3 dX12_laysPlaces_41 ?_
              refine n_imulc dX12_laysPlaces_42 e40 (by omega) (fun r42 e42_z => ?_)
              refine n_iadd dX12_laysPlaces_43 (by omega) (fun r43 e43 => ?_)
              refine r_aloadR0 dX12_laysPlaces_44 ?_
              refine r_iload1 dX12_laysPlaces_45 ?_
              refine r_iload2 dX12_laysPlaces_46 ?_
              refine r_iload3 dX12_laysPlaces_47 ?_
              refine q_callV3 zm_RX12_264 dX12_laysPlaces_48 (shM_k hs) (by decide) rfl (Nat.le_of_ble_eq_true rfl) (Nat.le_of_ble_eq_true rfl) (Nat.le_of_ble_eq_true rfl) (Nat.le_of_ble_eq_true rfl) (Nat.le_of_ble_eq_true rfl) (s_X12_layerAt G hs hx hc_z he hd_z (by omega) (by omega) hv (fun r48 e48 => ?_))
              refine n_iconst dX12_laysPlaces_51 (by decide) (fun r51 e51 => ?_)
              refine n_iremc (c := 2) dX12_laysPlaces_52 e51 (by decide) (by omega) (fun r52 e52 => ?_)
              refine n_iadd dX12_laysPlaces_53 (by omega) (fun r53 e53 => ?_)
              refine m_iast (k := p.1) dX12_laysPlaces_54 (shM_k7 hs) (shM_n7 hs) (by omega) (by omega) ?_
              refine n_iinc3 dX12_laysPlaces_55 (by decide) rfl (by omega) (fun r55 e55 => ?_)
              refine r_goto (t := 13) dX12_laysPlaces_58 (by decide) ?_
              refine ih2 _ _ (i + 1) (by omega) (by omega) (frM_zr hfr3 (by decide) (by decide) (by decide)) (fun k2_z i2_z q hq hq2 => ?_) (by omega)
              rw [zu_s2]
              by_cases hpq : q.1 = p.1
              · rw [if_pos hpq, hpq, hpl]; omega
              · rw [if_neg hpq]
                refine hdi k2_z i2_z q ?_ hq2
                rcases hq with hq | ⟨hq, hq3⟩
                · exact Or.inl hq
                · rcases Nat.lt_or_ge i2_z i with h9 | h9
                  · exact Or.inr ⟨hq, h9⟩
                  · exfalso; rw [hq, show i2_z = i by omega, hp] at hq2; cases hq2; exact hpq rfl
            · refine r_iload3 dX12_laysPlaces_13 ?_
              refine r_aloadR0 dX12_laysPlaces_14 ?_
              refine r_iload1 dX12_laysPlaces_15 ?_
              refine r_iload2 dX12_laysPlaces_16 ?_
              refine q_callV2 zm_RX12_261 dX12_laysPlaces_17 (shM_k hs) (by decide) rfl (Nat.le_of_ble_eq_true rfl) (Nat.le_of_ble_eq_true rfl) (Nat.le_of_ble_eq_true rfl) (Nat.le_of_ble_eq_true rfl) (Nat.le_of_ble_eq_true rfl) (s_X12_highAt G hs hx hc_z hd_z (by omega) hco.1 (fun r17 e17_z => ?_))
              refine t_icge (t := 61) dX12_laysPlaces_20 (by decide) (fun h20 => ?_) (fun h20 => False.elim (by omega))
              refine n_iinc2 dX12_laysPlaces_61 (by decide) rfl (by omega) (fun r61 e61 => ?_)
              refine r_goto (t := 2) dX12_laysPlaces_64 (by decide) ?_
              refine ih _ _ (k + 1) f3_z (by omega) (by omega) hfr3 (fun k2_z i2_z q hq hq2 => hdi k2_z i2_z q ?_ hq2) (by omega)
              rcases Nat.lt_or_ge k2_z k with h9 | h9
              · exact Or.inl h9
              · refine Or.inr ⟨by omega, ?_⟩
                have := (List.getElem?_eq_some_iff.mp hq2).1
                rw [show k2_z = k by omega] at this
                omega
        refine r_iload2 dX12_laysPlaces_2 ?_
        refine r_aloadR0 dX12_laysPlaces_3 ?_
        refine r_iload1 dX12_laysPlaces_4 ?_
        refine q_callV1 zm_RX12_256 dX12_laysPlaces_5 (shM_k hs) (by decide) rfl (Nat.le_of_ble_eq_true rfl) (Nat.le_of_ble_eq_true rfl) (Nat.le_of_ble_eq_true rfl) (Nat.le_of_ble_eq_true rfl) (Nat.le_of_ble_eq_true rfl) (s_X12_columnsAt G hs hx hd_z hLi2.1 (fun r5 e5_z => ?_))
        refine t_icge (t := 67) dX12_laysPlaces_8 (by decide) (fun h8 => False.elim (by omega)) (fun h8 => ?_)
        refine n_iconst dX12_laysPlaces_11 (by decide) (fun r11 e11_z => ?_)
        refine r_istore3 dX12_laysPlaces_12 rfl ?_
        exact lp2 ((zcol L (k : Nat)).length + 1) _ f2_z 0 e11_z (by omega) hfr (fun k2_z i2_z q hq hq2 => hdn k2_z i2_z q (hq.resolve_right (fun h9 => absurd h9.2 (by omega))) hq2) (by omega)
      · refine r_iload2 dX12_laysPlaces_2 ?_
        refine r_aloadR0 dX12_laysPlaces_3 ?_
        refine r_iload1 dX12_laysPlaces_4 ?_
        refine q_callV1 zm_RX12_256 dX12_laysPlaces_5 (shM_k hs) (by decide) rfl (Nat.le_of_ble_eq_true rfl) (Nat.le_of_ble_eq_true rfl) (Nat.le_of_ble_eq_true rfl) (Nat.le_of_ble_eq_true rfl) (Nat.le_of_ble_eq_true rfl) (s_X12_columnsAt G hs hx hd_z hLi2.1 (fun r5 e5_z => ?_))
        refine t_icge (t := 67) dX12_laysPlaces_8 (by decide) (fun h8 => ?_) (fun h8 => False.elim (by omega))
        refine r_vret dX12_laysPlaces_67 rfl (Nat.le_of_ble_eq_true rfl) (Nat.le_of_ble_eq_true rfl) ?_
        refine hQ f2_z hfr (fun c2_z hc2 => ?_)
        obtain ⟨k2_z, i2_z, p, h1, h2, rfl⟩ := pl2 c2_z hc2
        exact hdn k2_z i2_z p (by omega) h2
  refine n_iconst dX12_laysPlaces_0 (by decide) (fun r0 e0_z => ?_)
  refine r_istore2 dX12_laysPlaces_1 rfl ?_
  exact lp (L.length + 1) _ none 0 f e0_z (by omega) frM_rf (fun k2_z i p h_z => absurd h_z (by omega)) (by omega)
set_option maxHeartbeats 4000000 in
set_option maxRecDepth 100000 in
theorem s_X12_creaseOf {g : zGT} {w : zW} {f : Nat → Nat → Int32} {j : Nat → Nat → Int64} {A : Nat} {k n : Nat} {x : Int32} {L : zLy} {Q : Option Value → zW → Prop} {QX : String → zW → Prop} (G : zGok g) (hs : shM w A) (hpl : ∀ c, c < n → (f (A + 7) c).toInt = (plcN L c : Nat)) (hr : rch n L) (hx : x.toInt = (k : Nat)) (hk : k + 1 < n) (hQ : ∀ r : Int32, r.toInt = (lyCrease L k : Nat) → Q (some (.int r)) (zM w f j)) : zC g 1 yX12_creaseOf cX12_creaseOf 4 (some .int) [.ref A, .int x] (zM w f j) (0, 0) Q QX := by
  refine zC_of G (by decide +kernel) (Nat.le_of_ble_eq_true rfl) ?_
  have hn6 := rch_le hr
  obtain ⟨-, -, pl3⟩ := rch_plc hr
  have hcr := pl3 k hk
  have h1 := hpl k (by omega)
  have h2 := hpl (k + 1) hk
  unfold crM at hcr
  refine r_aloadR0 dX12_creaseOf_0 ?_
  refine m_getR (q := (A + 7)) zf_RX12_33 rfl dX12_creaseOf_1 (shM_k hs) (shM_p7 hs) ?_
  refine r_iload1 dX12_creaseOf_4 ?_
  refine m_iald (k := k) (x := (f (A + 7) k)) dX12_creaseOf_5 (shM_k7 hs) (shM_n7 hs) (by omega) (by omega) (rfl) ?_
  refine r_istore2 dX12_creaseOf_6 rfl ?_
  refine r_aloadR0 dX12_creaseOf_7 ?_
  refine m_getR (q := (A + 7)) zf_RX12_33 rfl dX12_creaseOf_8 (shM_k hs) (shM_p7 hs) ?_
  refine r_iload1 dX12_creaseOf_11 ?_
  refine n_iconst dX12_creaseOf_12 (by decide) (fun r12 e12_z => ?_)
  refine n_iadd dX12_creaseOf_13 (by omega) (fun r13 e13_z => ?_)
  refine m_iald (k := k + 1) (x := (f (A + 7) (k + 1))) dX12_creaseOf_14 (shM_k7 hs) (shM_n7 hs) (by omega) (by omega) (rfl) ?_
  refine r_istore3 dX12_creaseOf_15 rfl ?_
  refine r_iload2 dX12_creaseOf_16 ?_
  refine n_bipush dX12_creaseOf_17 (by decide) (fun r17 e17_z => ?_)
  refine n_idivc (c := 16) dX12_creaseOf_19 e17_z (by decide) (by omega) (fun r19 e19_z => ?_)
  refine r_iload3 dX12_creaseOf_20 ?_
  refine n_bipush dX12_creaseOf_21 (by decide) (fun r21 e21_z => ?_)
  refine n_idivc (c := 16) dX12_creaseOf_23 e21_z (by decide) (by omega) (fun r23 e23_z => ?_)
  refine t_iceq (t := 29) dX12_creaseOf_24 (by decide) (fun h24 => ?_) (fun h24 => ?_)
  · refine r_iload2 dX12_creaseOf_29 ?_
    refine r_iload3 dX12_creaseOf_30 ?_
    refine r_mmin zm_RX12_299 dX12_creaseOf_31 (Nat.le_of_ble_eq_true rfl) (Nat.le_of_ble_eq_true rfl) (Nat.le_of_ble_eq_true rfl) (Nat.le_of_ble_eq_true rfl) (Nat.le_of_ble_eq_true rfl) (fun r31 e31_z => ?_)
    refine n_iconst dX12_creaseOf_34 (by decide) (fun r34 e34 => ?_)
    refine n_iremc (c := 2) dX12_creaseOf_35 e34 (by decide) (by omega) (fun r35 e35 => ?_)
    refine n_iconst dX12_creaseOf_36 (by decide) (fun r36 e36 => ?_)
    refine t_icne (t := 44) dX12_creaseOf_37 (by decide) (fun h37 => ?_) (fun h37 => ?_)
    · refine n_iconst dX12_creaseOf_44 (by decide) (fun r44 e44 => ?_)
      refine r_iret dX12_creaseOf_45 rfl (Nat.le_of_ble_eq_true rfl) (Nat.le_of_ble_eq_true rfl) ?_
      first
        | (rw [if_pos (by omega), if_pos (by omega)] at hcr; exact hQ _ (by omega))
        | (rw [if_pos (by omega), if_neg (by omega)] at hcr; exact hQ _ (by omega))
    · refine n_iconst dX12_creaseOf_40 (by decide) (fun r40 e40 => ?_)
      refine r_goto (t := 45) dX12_creaseOf_41 (by decide) ?_
      refine r_iret dX12_creaseOf_45 rfl (Nat.le_of_ble_eq_true rfl) (Nat.le_of_ble_eq_true rfl) ?_
      first
        | (rw [if_pos (by omega), if_pos (by omega)] at hcr; exact hQ _ (by omega))
        | (rw [if_pos (by omega), if_neg (by omega)] at hcr; exact hQ _ (by omega))
  · refine n_iconst dX12_creaseOf_27 (by decide) (fun r27 e27_z => ?_)
    refine r_iret dX12_creaseOf_28 rfl (Nat.le_of_ble_eq_true rfl) (Nat.le_of_ble_eq_true rfl) ?_
    rw [if_neg (by omega)] at hcr
    exact hQ _ (by omega)
def crN (L : zLy) : Nat → Nat
  | 0 => 0
  | k + 1 => 3 * crN L k + lyCrease L k
theorem crN_le {L : zLy} {k : Nat} : crN L k + 1 ≤ 3 ^ k := by
  induction k with
  | zero => exact Nat.le_refl _
  | succ k ih =>
    have := lyCrease_le (L := L) (k := k)
    have e : crN L (k + 1) = 3 * crN L k + lyCrease L k := rfl
    rw [e, Nat.pow_succ]
    omega
set_option maxHeartbeats 4000000 in
set_option maxRecDepth 100000 in
theorem s_X12_creasesAt {g : zGT} {w : zW} {f : Nat → Nat → Int32} {j : Nat → Nat → Int64} {A : Nat} {d n : Nat} {x : Int32} {L : zLy} {Q : Option Value → zW → Prop} {QX : String → zW → Prop} (G : zGok g) (hs : shM w A) (hn : (f (A + 1) 1).toInt = (n : Nat)) (hx : x.toInt = (d : Nat)) (hd_z : d < 11) (hLi : ctLi (f (A + 6)) d L) (hr : rch n L) (hQ : ∀ (r : Int32) f2_z, r.toInt = (crN L (n - 1) : Nat) → frM A [7] [] f f2_z → Q (some (.int r)) (zM w f2_z j)) : zC g 3 yX12_creasesAt cX12_creasesAt 4 (some .int) [.ref A, .int x] (zM w f j) (0, 0) Q QX := by
  refine zC_of G (by decide +kernel) (Nat.le_of_ble_eq_true rfl) ?_
  have hcell := rch_cell hr
  have hn6 := rch_le hr
  skip
  refine r_aloadR0 dX12_creasesAt_0 ?_
  refine r_iload1 dX12_creasesAt_1 ?_
  refine q_callV1 zm_RX12_302 dX12_creasesAt_2 (shM_k hs) (by decide) rfl (Nat.le_of_ble_eq_true rfl) (Nat.le_of_ble_eq_true rfl) (Nat.le_of_ble_eq_true rfl) (Nat.le_of_ble_eq_true rfl) (Nat.le_of_ble_eq_true rfl) (s_X12_laysPlaces G hs hx hd_z hLi hr (fun f1_z hfr1 hpl => ?_))
  refine n_iconst dX12_creasesAt_5 (by decide) (fun r5 e5_z => ?_)
  refine r_istore2 dX12_creasesAt_6 rfl ?_
  refine n_iconst dX12_creasesAt_7 (by decide) (fun r7 e7_z => ?_)
  refine r_istore3 dX12_creasesAt_8 rfl ?_
  have hn1 : (f1_z (A + 1) 1).toInt = (n : Nat) := by rw [hfr1.2.1 1 (by decide) (by decide) (by decide)]; exact hn
  have lp : ∀ (m : Nat) (c : Int32) (v : Int32) (k : Nat), c.toInt = (k : Nat) → k ≤ n - 1 → v.toInt = (crN L k : Nat) → n - k < m → zR (zV g 3 yX12_creasesAt 4 (some .int) (0, 0) Q QX) cX12_creasesAt yX12_creasesAt.cls 9 [some (.ref A), some (.int x), some (.int v), some (.int c)] [] (zM w f1_z j) (0, 0) := by
    intro m
    induction m with
    | zero =>
      intro c v k hc_z hk hv hm_z
      exact absurd hm_z (Nat.not_lt_zero _)
    | succ m ih =>
      intro c v k hc_z hk hv hm_z
      rcases Nat.lt_or_ge (k + 1) n with hkl | hkl
      · have hb_z := crN_le (L := L) (k := k)
        have hp5 : 3 ^ k ≤ 3 ^ 5 := Nat.pow_le_pow_right (by decide) (by omega)
        have hz : crN L (k + 1) = 3 * crN L k + lyCrease L k := rfl
        have hcl := lyCrease_le (L := L) (k := k)
        refine r_iload3 dX12_creasesAt_9 ?_
        refine n_iconst dX12_creasesAt_10 (by decide) (fun r10 e10_z => ?_)
        refine n_iadd dX12_creasesAt_11 (by omega) (fun r11 e11_z => ?_)
        refine r_aloadR0 dX12_creasesAt_12 ?_
        refine q_callV0 zm_RX12_253 dX12_creasesAt_13 (shM_k hs) (by decide) rfl (Nat.le_of_ble_eq_true rfl) (Nat.le_of_ble_eq_true rfl) (Nat.le_of_ble_eq_true rfl) (Nat.le_of_ble_eq_true rfl) (Nat.le_of_ble_eq_true rfl) (s_X12_cells G hs hn1 (fun r13 e13_z => ?_))
        refine t_icge (t := 35) dX12_creasesAt_16 (by decide) (fun h16_z => False.elim (by omega)) (fun h16_z => ?_)
        refine n_iconst dX12_creasesAt_19 (by decide) (fun r19 e19_z => ?_)
        refine r_iload2 dX12_creasesAt_20 ?_
        refine n_imulc dX12_creasesAt_21 e19_z (by omega) (fun r21 e21_z => ?_)
        refine r_aloadR0 dX12_creasesAt_22 ?_
        refine r_iload3 dX12_creasesAt_23 ?_
        refine q_callV1 zm_RX12_305 dX12_creasesAt_24 (shM_k hs) (by decide) rfl (Nat.le_of_ble_eq_true rfl) (Nat.le_of_ble_eq_true rfl) (Nat.le_of_ble_eq_true rfl) (Nat.le_of_ble_eq_true rfl) (Nat.le_of_ble_eq_true rfl) (s_X12_creaseOf G hs hpl hr hc_z hkl (fun r24 e24_z => ?_))
        refine n_iadd dX12_creasesAt_27 (by omega) (fun r27 e27_z => ?_)
        refine r_istore2 dX12_creasesAt_28 rfl ?_
        refine n_iinc3 dX12_creasesAt_29 (by decide) rfl (by omega) (fun r29 e29 => ?_)
        refine r_goto (t := 9) dX12_creasesAt_32 (by decide) ?_
        exact ih _ _ (k + 1) (by omega) (by omega) (by omega) (by omega)
      · refine r_iload3 dX12_creasesAt_9 ?_
        refine n_iconst dX12_creasesAt_10 (by decide) (fun r10 e10_z => ?_)
        refine n_iadd dX12_creasesAt_11 (by omega) (fun r11 e11_z => ?_)
        refine r_aloadR0 dX12_creasesAt_12 ?_
        refine q_callV0 zm_RX12_253 dX12_creasesAt_13 (shM_k hs) (by decide) rfl (Nat.le_of_ble_eq_true rfl) (Nat.le_of_ble_eq_true rfl) (Nat.le_of_ble_eq_true rfl) (Nat.le_of_ble_eq_true rfl) (Nat.le_of_ble_eq_true rfl) (s_X12_cells G hs hn1 (fun r13 e13_z => ?_))
        refine t_icge (t := 35) dX12_creasesAt_16 (by decide) (fun h16_z => ?_) (fun h16_z => False.elim (by omega))
        refine r_iload2 dX12_creasesAt_35 ?_
        refine r_iret dX12_creasesAt_36 rfl (Nat.le_of_ble_eq_true rfl) (Nat.le_of_ble_eq_true rfl) ?_
        have e : crN L k = crN L (n - 1) := by
          rcases Nat.eq_zero_or_pos n with h0 | h0
          · rw [show k = 0 by omega, h0]
          · rw [show k = n - 1 by omega]
        rw [e] at hv
        exact hQ _ f1_z hv hfr1
  exact lp (n + 1) _ _ 0 e7_z (by omega) e5_z (by omega)
