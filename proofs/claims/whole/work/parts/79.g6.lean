/-! the reference: the first row that does; the best row -/
def invF (A : Nat) (wh tr : Int) (ty : Nat → zTy) (p : zLy → List Nat → Bool) (f : Nat → Nat → Int32) (j : Nat → Nat → Int64) (ps : List zRo) : Prop := (f A 28).toInt = wh ∧ (f A 33).toInt = tr ∧ (f A 31).toInt = -1 ∧ (f A 32).toInt = 0 ∧ (∀ t, t < 4 → ctTm f j A t (ty t)) ∧ ∀ y ∈ ps, p y.1 y.2 = false
def finF (A : Nat) (p : zLy → List Nat → Bool) (f : Nat → Nat → Int32) (_ : Nat → Nat → Int64) (ps : List zRo) (z : zRo) : Prop := (f A 31).toInt = (z.2.length : Nat) ∧ (f A 32).toInt = (z.2.length : Nat) ∧ (∀ i e, z.2[i]? = some e → (f (A + 12) i).toInt = ((e : Nat) : Int)) ∧ p z.1 z.2 = true ∧ ∀ y ∈ ps, p y.1 y.2 = false
theorem tys_of {A : Nat} {f f2_z : Nat → Nat → Int32} {j j2 : Nat → Nat → Int64} {ty : Nat → zTy} {S K : List Nat} (h_z : ∀ t, t < 4 → ctTm f j A t (ty t)) (hf : frM A S K f f2_z) (h1 : 18 ∉ S) (h2 : 19 ∉ S) (hj : ∀ q, q ≠ A + 14 → j2 q = j q) : ∀ t, t < 4 → ctTm f2_z j2 A t (ty t) := fun t ht => ctTm_of (h_z t ht) (by rw [hf.2.1 18 (by decide) (by decide) h1]) (by rw [hf.2.1 19 (by decide) (by decide) h2]) (fun i _ => by rw [hj (A + 20) (by omega)])
theorem invF_iv {A : Nat} {wh tr : Int} {ty : Nat → zTy} {p : zLy → List Nat → Bool} (f1_z f2_z : Nat → Nat → Int32) (j1 : Nat → Nat → Int64) (ps1 : List zRo) (h_z : frM A [6, 11] [] f1_z f2_z) (hI : invF A wh tr ty p f1_z j1 ps1) : invF A wh tr ty p f2_z j1 ps1 := by
  obtain ⟨a1, a2, a3, a4, a5, a6⟩ := hI
  exact ⟨by rw [h_z.2.2 28 (by decide)]; exact a1, by rw [h_z.2.2 33 (by decide)]; exact a2, by rw [h_z.2.2 31 (by decide)]; exact a3, by rw [h_z.2.2 32 (by decide)]; exact a4, tys_of a5 h_z (by decide) (by decide) (fun _ _ => rfl), a6⟩
theorem invF_up {A : Nat} {wh tr : Int} {ty : Nat → zTy} {p : zLy → List Nat → Bool} {f f2_z : Nat → Nat → Int32} {j : Nat → Nat → Int64} {ps : List zRo} {L : zLy} {r : List Nat} (h_z : invF A wh tr ty p f j ps) (hf : frM A [7, 8, 9] [] f f2_z) (hp : p L r = false) : invF A wh tr ty p f2_z j (ps ++ [(L, r)]) := by
  obtain ⟨a1, a2, a3, a4, a5, a6⟩ := h_z
  refine ⟨by rw [hf.2.2 28 (by decide)]; exact a1, by rw [hf.2.2 33 (by decide)]; exact a2, by rw [hf.2.2 31 (by decide)]; exact a3, by rw [hf.2.2 32 (by decide)]; exact a4, tys_of a5 hf (by decide) (by decide) (fun _ _ => rfl), fun y hy => ?_⟩
  rcases List.mem_append.mp hy with h9 | h9
  · exact a6 y h9
  · rw [List.mem_singleton.mp h9]; exact hp
set_option maxHeartbeats 4000000 in
set_option maxRecDepth 100000 in
theorem s_X12_found {g : zGT} {w : zW} {f : Nat → Nat → Int32} {j : Nat → Nat → Int64} {A dd : Nat} {r : List Nat} {x z : Int32} {Q : Option Value → zW → Prop} {QX : String → zW → Prop} (G : zGok g) (hs : shM w A) (h29 : (f A 29).toInt = (dd : Nat)) (hrw : ∀ i e, r[i]? = some e → (f (A + 11) i).toInt = ((e : Nat) : Int)) (hr5 : r.length ≤ 5) (hdd : dd ≤ 5) (hx : x.toInt = ((dd + r.length : Nat) : Int)) (hz : z.toInt = 1 ∨ z.toInt = 0) (hQ : ∀ (b : Int32) f2_z, frM A [12] [31, 32] f f2_z → (b.toInt = 1 ∧ z.toInt = 1 ∧ (f2_z A 31).toInt = (r.length : Nat) ∧ (f2_z A 32).toInt = (r.length : Nat) ∧ (∀ i e, r[i]? = some e → (f2_z (A + 12) i).toInt = ((e : Nat) : Int)) ∨ b.toInt = 0 ∧ z.toInt = 0 ∧ f2_z = f) → Q (some (.int b)) (zM w f2_z j)) : zC g 2 yX12_found cX12_found 3 (some .boolean) [.ref A, .int x, .int z] (zM w f j) (0, 0) Q QX := by
  refine zC_of G (by decide +kernel) (Nat.le_of_ble_eq_true rfl) ?_
  refine r_iload2 dX12_found_0 ?_
  refine t_ifeq (t := 15) dX12_found_1 (by decide) (fun h1 => ?_) (fun h1 => ?_)
  · refine r_iload2 dX12_found_15 ?_
    refine m_zret dX12_found_16 rfl (by omega) (Nat.le_of_ble_eq_true rfl) (Nat.le_of_ble_eq_true rfl) ?_
    exact hQ _ f frM_rf (Or.inr ⟨by omega, by omega, rfl⟩)
  · refine r_aloadR0 dX12_found_4 ?_
    refine r_iload1 dX12_found_5 ?_
    refine r_iload1 dX12_found_6 ?_
    refine r_aloadR0 dX12_found_7 ?_
    refine m_getV (x := (f A 29)) zf_RX12_419 rfl dX12_found_8 (shM_k hs) (rfl) ?_
    refine n_isub dX12_found_11 (by omega) (fun r11 e11_z => ?_)
    refine q_callV2 zm_RX12_490 dX12_found_12 (shM_k hs) (by decide) rfl (Nat.le_of_ble_eq_true rfl) (Nat.le_of_ble_eq_true rfl) (Nat.le_of_ble_eq_true rfl) (Nat.le_of_ble_eq_true rfl) (Nat.le_of_ble_eq_true rfl) (s_X12_keepsRow (r := r) (dd := dd) G hs h29 hrw hr5 hdd hx (fun g12 o12 a1 a2 a3 => ?_))
    refine r_iload2 dX12_found_15 ?_
    refine m_zret dX12_found_16 rfl (by omega) (Nat.le_of_ble_eq_true rfl) (Nat.le_of_ble_eq_true rfl) ?_
    exact hQ _ g12 o12 (Or.inl ⟨by omega, by omega, by omega, a2, a3⟩)
set_option maxHeartbeats 4000000 in
set_option maxRecDepth 100000 in
theorem s_X12_sees_rea {g : zGT} {w : zW} {f : Nat → Nat → Int32} {j : Nat → Nat → Int64} {A : Nat} {T : zTb} {dd : Nat} {L : zLy} {r : List Nat} {ps : List zRo} {x : Int32} {tr : Int} {ty : Nat → zTy} {tn s : Nat} {l : List Int} {Q : Option Value → zW → Prop} {QX : String → zW → Prop} (G : zGok g) (hs : shM w A) (hw : wfT T) (hdd : dd ≤ 5) (hk : ctKn (f (A + 1)) T) (hgo : goAt f A dd L r) (hr : rch (tbC T) L) (hx : x.toInt = ((dd + r.length : Nat) : Int)) (hB_z : ps.length < 10000000) (htn : tr = (tn : Nat)) (ht4 : tn < 4) (hty : ty tn = some (s, l)) (hI : (invF A 4 tr ty (fun L _ => @decide (lookC T.2.2.1.1 L l) (Classical.propDecidable _))) f j ps) (hQ : ∀ (b : Int32) f2_z j2, goF A (dd + r.length) r.length f f2_z j j2 → (b.toInt = 1 ∧ (finF A (fun L _ => @decide (lookC T.2.2.1.1 L l) (Classical.propDecidable _))) f2_z j2 ps (L, r) ∨ b.toInt = 0 ∧ (invF A 4 tr ty (fun L _ => @decide (lookC T.2.2.1.1 L l) (Classical.propDecidable _))) f2_z j2 (ps ++ [(L, r)])) → Q (some (.int b)) (zM w f2_z j2)) : zC g 9 yX12_sees cX12_sees 3 (some .boolean) [.ref A, .int x] (zM w f j) (0, 0) Q QX := by
  refine zC_of G (by decide +kernel) (Nat.le_of_ble_eq_true rfl) ?_
  have hn6 : tbC T ≤ 6 := hw.2.1
  have hg4 : tbG T ≤ 4 := hw.2.2.1
  have hrc := rch_cell hr
  have hLn : L.length ≤ 6 := Nat.le_trans hrc.2.2.2.2 hn6
  have hm99 := hw.2.2.2.2.2.2.2.1.2.2
  have hrl5 := hgo.2.2.2
  have hd11 : dd + r.length < 11 := by omega
  have hLi := hgo.1
  have h29 := hgo.2.1
  have hrw := hgo.2.2.1
  have hll : (f (A + 6) (43 * (dd + r.length))).toInt = (L.length : Nat) := hLi.1
  have hI9 := hI
  obtain ⟨i1_z, i2_z, i3_z, i4_z, i5_z, i6_z⟩ := hI9
  have hct := i5_z tn ht4
  rw [hty] at hct
  refine r_aloadR0 dX12_sees_0 ?_
  refine m_getV (x := (f A 28)) zf_RX12_443 rfl dX12_sees_1 (shM_k hs) (rfl) ?_
  refine n_tabC (k := 4) (t := 279) dX12_sees_4 (by decide) rfl (by decide) (fun h4 => ?_) (fun h4 => False.elim (h4 (by omega)))
  refine r_aloadR0 dX12_sees_279 ?_
  refine r_iload1 dX12_sees_280 ?_
  refine r_aloadR0 dX12_sees_281 ?_
  refine r_iload1 dX12_sees_282 ?_
  refine r_aloadR0 dX12_sees_283 ?_
  refine m_getV (x := (f A 33)) zf_RX12_449 rfl dX12_sees_284 (shM_k hs) (rfl) ?_
  refine q_callV2 zm_RX12_471 dX12_sees_287 (shM_k hs) (by decide) rfl (Nat.le_of_ble_eq_true rfl) (Nat.le_of_ble_eq_true rfl) (Nat.le_of_ble_eq_true rfl) (Nat.le_of_ble_eq_true rfl) (Nat.le_of_ble_eq_true rfl) (s_X12_looksSo (L := L) (T := T) (t := tn) (s := s) (l := l) G hs hk hw hx hd11 hLi hr (by omega) ht4 hct (fun r287 e287 => ?_))
  refine q_callV2 zm_RX12_480 dX12_sees_290 (shM_k hs) (by decide) rfl (Nat.le_of_ble_eq_true rfl) (Nat.le_of_ble_eq_true rfl) (Nat.le_of_ble_eq_true rfl) (Nat.le_of_ble_eq_true rfl) (Nat.le_of_ble_eq_true rfl) (s_X12_found (r := r) (dd := dd) G hs h29 hrw hrl5 hdd hx (by omega) (fun r290 g290 o290 c290 => ?_))
  refine m_zret dX12_sees_293 rfl (by rcases c290 with h9 | h9; exact Or.inr h9.1; exact Or.inl h9.1) (Nat.le_of_ble_eq_true rfl) (Nat.le_of_ble_eq_true rfl) ?_
  rcases c290 with ⟨k1_z, k2_z, k3_z, k4_z, k5_z⟩ | ⟨k1_z, k2_z, k3_z⟩
  · exact hQ _ g290 j (goF_m0 (show frM A [7, 8, 9, 12, 17] [30, 31, 32, 34] f _ from (frM_su o290 (by decide) (by decide)))) (Or.inl ⟨k1_z, k3_z, k4_z, k5_z, (@decide_eq_true _ (Classical.propDecidable _) (by rcases e287 with e9_z | e9_z; exact e9_z.2; exact absurd e9_z.1 (by omega))), i6_z⟩)
  · subst k3_z
    exact hQ _ _ j (goF_m0 frM_rf) (Or.inr ⟨k1_z, invF_up hI frM_rf (@decide_eq_false _ (Classical.propDecidable _) (fun e8 => by rcases e287 with e9_z | e9_z; exact absurd e9_z.1 (by omega); exact e9_z.2 e8))⟩)
theorem see_rea {g : zGT} {w : zW} {A : Nat} {T : zTb} {dd : Nat} {tr : Int} {ty : Nat → zTy} {tn s : Nat} {l : List Int} (G : zGok g) (hs : shM w A) (hw : wfT T) (hdd : dd ≤ 5) (htn : tr = (tn : Nat)) (ht4 : tn < 4) (hty : ty tn = some (s, l)) : seeC g w A T dd (invF A 4 tr ty (fun L _ => @decide (lookC T.2.2.1.1 L l) (Classical.propDecidable _))) (finF A (fun L _ => @decide (lookC T.2.2.1.1 L l) (Classical.propDecidable _))) := fun f j ps L r x Q QX hk hgo hr hx hB_z hI hQ => s_X12_sees_rea G hs hw hdd hk hgo hr hx hB_z htn ht4 hty hI hQ
set_option maxHeartbeats 4000000 in
set_option maxRecDepth 100000 in
theorem s_X12_sees_soo {g : zGT} {w : zW} {f : Nat → Nat → Int32} {j : Nat → Nat → Int64} {A : Nat} {T : zTb} {dd : Nat} {L : zLy} {r : List Nat} {ps : List zRo} {x : Int32} {tr : Int} {ty : Nat → zTy} {Q : Option Value → zW → Prop} {QX : String → zW → Prop} (G : zGok g) (hs : shM w A) (hw : wfT T) (hdd : dd ≤ 5) (hk : ctKn (f (A + 1)) T) (hgo : goAt f A dd L r) (hr : rch (tbC T) L) (hx : x.toInt = ((dd + r.length : Nat) : Int)) (hB_z : ps.length < 10000000) (hI : (invF A 5 tr ty (fun L r => decide (holV T L (dd + r.length) ≠ 0))) f j ps) (hQ : ∀ (b : Int32) f2_z j2, goF A (dd + r.length) r.length f f2_z j j2 → (b.toInt = 1 ∧ (finF A (fun L r => decide (holV T L (dd + r.length) ≠ 0))) f2_z j2 ps (L, r) ∨ b.toInt = 0 ∧ (invF A 5 tr ty (fun L r => decide (holV T L (dd + r.length) ≠ 0))) f2_z j2 (ps ++ [(L, r)])) → Q (some (.int b)) (zM w f2_z j2)) : zC g 9 yX12_sees cX12_sees 3 (some .boolean) [.ref A, .int x] (zM w f j) (0, 0) Q QX := by
  refine zC_of G (by decide +kernel) (Nat.le_of_ble_eq_true rfl) ?_
  have hn6 : tbC T ≤ 6 := hw.2.1
  have hg4 : tbG T ≤ 4 := hw.2.2.1
  have hrc := rch_cell hr
  have hLn : L.length ≤ 6 := Nat.le_trans hrc.2.2.2.2 hn6
  have hm99 := hw.2.2.2.2.2.2.2.1.2.2
  have hrl5 := hgo.2.2.2
  have hd11 : dd + r.length < 11 := by omega
  have hLi := hgo.1
  have h29 := hgo.2.1
  have hrw := hgo.2.2.1
  have hll : (f (A + 6) (43 * (dd + r.length))).toInt = (L.length : Nat) := hLi.1
  have hI9 := hI
  obtain ⟨i1_z, i2_z, i3_z, i4_z, i5_z, i6_z⟩ := hI9
  refine r_aloadR0 dX12_sees_0 ?_
  refine m_getV (x := (f A 28)) zf_RX12_443 rfl dX12_sees_1 (shM_k hs) (rfl) ?_
  refine n_tabC (k := 5) (t := 294) dX12_sees_4 (by decide) rfl (by decide) (fun h4 => ?_) (fun h4 => False.elim (h4 (by omega)))
  refine r_aloadR0 dX12_sees_294 ?_
  refine r_iload1 dX12_sees_295 ?_
  refine r_aloadR0 dX12_sees_296 ?_
  refine r_iload1 dX12_sees_297 ?_
  refine q_callV1 zm_RX12_352 dX12_sees_298 (shM_k hs) (by decide) rfl (Nat.le_of_ble_eq_true rfl) (Nat.le_of_ble_eq_true rfl) (Nat.le_of_ble_eq_true rfl) (Nat.le_of_ble_eq_true rfl) (Nat.le_of_ble_eq_true rfl) (s_X12_hol (L := L) (T := T) G hs hk hw hx hd11 hLi hr (fun r298 g298 e298 o298 => ?_))
  refine q_callV2 zm_RX12_480 dX12_sees_301 (shM_k hs) (by decide) rfl (Nat.le_of_ble_eq_true rfl) (Nat.le_of_ble_eq_true rfl) (Nat.le_of_ble_eq_true rfl) (Nat.le_of_ble_eq_true rfl) (Nat.le_of_ble_eq_true rfl) (s_X12_found (r := r) (dd := dd) G hs (by rw [o298.2.2 29 (by decide)]; exact h29) (by rw [o298.2.1 11 (by decide) (by decide) (by decide)]; exact hrw) hrl5 hdd hx (by omega) (fun r301 g301 o301 c301 => ?_))
  refine m_zret dX12_sees_304 rfl (by rcases c301 with h9 | h9; exact Or.inr h9.1; exact Or.inl h9.1) (Nat.le_of_ble_eq_true rfl) (Nat.le_of_ble_eq_true rfl) ?_
  rcases c301 with ⟨k1_z, k2_z, k3_z, k4_z, k5_z⟩ | ⟨k1_z, k2_z, k3_z⟩
  · exact hQ _ g301 j (goF_m0 (show frM A [7, 8, 9, 12, 17] [30, 31, 32, 34] f _ from (frM_tr (frM_su o298 (by decide) (by decide)) (frM_su o301 (by decide) (by decide))))) (Or.inl ⟨k1_z, k3_z, k4_z, k5_z, (decide_eq_true (by rcases e298 with e9_z | e9_z; exact e9_z.2; exact absurd e9_z.1 (by omega))), i6_z⟩)
  · subst k3_z
    exact hQ _ _ j (goF_m0 (show frM A [7, 8, 9, 12, 17] [30, 31, 32, 34] f _ from (frM_su o298 (by decide) (by decide)))) (Or.inr ⟨k1_z, invF_up hI (frM_su o298 (by decide) (by decide)) (decide_eq_false (fun e8 => by rcases e298 with e9_z | e9_z; exact absurd e9_z.1 (by omega); exact e8 e9_z.2))⟩)
theorem see_soo {g : zGT} {w : zW} {A : Nat} {T : zTb} {dd : Nat} {tr : Int} {ty : Nat → zTy} (G : zGok g) (hs : shM w A) (hw : wfT T) (hdd : dd ≤ 5) : seeC g w A T dd (invF A 5 tr ty (fun L r => decide (holV T L (dd + r.length) ≠ 0))) (finF A (fun L r => decide (holV T L (dd + r.length) ≠ 0))) := fun f j ps L r x Q QX hk hgo hr hx hB_z hI hQ => s_X12_sees_soo G hs hw hdd hk hgo hr hx hB_z hI hQ
set_option maxHeartbeats 4000000 in
set_option maxRecDepth 100000 in
theorem s_X12_sees_sta {g : zGT} {w : zW} {f : Nat → Nat → Int32} {j : Nat → Nat → Int64} {A : Nat} {T : zTb} {dd : Nat} {L : zLy} {r : List Nat} {ps : List zRo} {x : Int32} {tr : Int} {ty : Nat → zTy} {tn s : Nat} {l : List Int} {Q : Option Value → zW → Prop} {QX : String → zW → Prop} (G : zGok g) (hs : shM w A) (hw : wfT T) (hdd : dd ≤ 5) (hk : ctKn (f (A + 1)) T) (hgo : goAt f A dd L r) (hr : rch (tbC T) L) (hx : x.toInt = ((dd + r.length : Nat) : Int)) (hB_z : ps.length < 10000000) (htn : tr = (tn : Nat)) (ht4 : tn < 4) (hty : ty tn = some (s, l)) (hln : l.length = tbC T) (hI : (invF A 9 tr ty (fun L _ => @decide (ordC L l) (Classical.propDecidable _))) f j ps) (hQ : ∀ (b : Int32) f2_z j2, goF A (dd + r.length) r.length f f2_z j j2 → (b.toInt = 1 ∧ (finF A (fun L _ => @decide (ordC L l) (Classical.propDecidable _))) f2_z j2 ps (L, r) ∨ b.toInt = 0 ∧ (invF A 9 tr ty (fun L _ => @decide (ordC L l) (Classical.propDecidable _))) f2_z j2 (ps ++ [(L, r)])) → Q (some (.int b)) (zM w f2_z j2)) : zC g 9 yX12_sees cX12_sees 3 (some .boolean) [.ref A, .int x] (zM w f j) (0, 0) Q QX := by
  refine zC_of G (by decide +kernel) (Nat.le_of_ble_eq_true rfl) ?_
  have hn6 : tbC T ≤ 6 := hw.2.1
  have hg4 : tbG T ≤ 4 := hw.2.2.1
  have hrc := rch_cell hr
  have hLn : L.length ≤ 6 := Nat.le_trans hrc.2.2.2.2 hn6
  have hm99 := hw.2.2.2.2.2.2.2.1.2.2
  have hrl5 := hgo.2.2.2
  have hd11 : dd + r.length < 11 := by omega
  have hLi := hgo.1
  have h29 := hgo.2.1
  have hrw := hgo.2.2.1
  have hll : (f (A + 6) (43 * (dd + r.length))).toInt = (L.length : Nat) := hLi.1
  have hI9 := hI
  obtain ⟨i1_z, i2_z, i3_z, i4_z, i5_z, i6_z⟩ := hI9
  have hct := i5_z tn ht4
  rw [hty] at hct
  refine r_aloadR0 dX12_sees_0 ?_
  refine m_getV (x := (f A 28)) zf_RX12_443 rfl dX12_sees_1 (shM_k hs) (rfl) ?_
  refine n_tabC (k := 9) (t := 305) dX12_sees_4 (by decide) rfl (by decide) (fun h4 => ?_) (fun h4 => False.elim (h4 (by omega)))
  refine r_aloadR0 dX12_sees_305 ?_
  refine r_iload1 dX12_sees_306 ?_
  refine r_aloadR0 dX12_sees_307 ?_
  refine r_iload1 dX12_sees_308 ?_
  refine r_aloadR0 dX12_sees_309 ?_
  refine m_getV (x := (f A 33)) zf_RX12_449 rfl dX12_sees_310 (shM_k hs) (rfl) ?_
  refine q_callV2 zm_RX12_484 dX12_sees_313 (shM_k hs) (by decide) rfl (Nat.le_of_ble_eq_true rfl) (Nat.le_of_ble_eq_true rfl) (Nat.le_of_ble_eq_true rfl) (Nat.le_of_ble_eq_true rfl) (Nat.le_of_ble_eq_true rfl) (s_X12_isStack (L := L) (T := T) (t := tn) (s := s) (l := l) G hs hk hw hx hd11 hLi hr (by omega) ht4 hct hln (fun r313 e313 => ?_))
  refine q_callV2 zm_RX12_480 dX12_sees_316 (shM_k hs) (by decide) rfl (Nat.le_of_ble_eq_true rfl) (Nat.le_of_ble_eq_true rfl) (Nat.le_of_ble_eq_true rfl) (Nat.le_of_ble_eq_true rfl) (Nat.le_of_ble_eq_true rfl) (s_X12_found (r := r) (dd := dd) G hs h29 hrw hrl5 hdd hx (by omega) (fun r316 g316 o316 c316 => ?_))
  refine m_zret dX12_sees_319 rfl (by rcases c316 with h9 | h9; exact Or.inr h9.1; exact Or.inl h9.1) (Nat.le_of_ble_eq_true rfl) (Nat.le_of_ble_eq_true rfl) ?_
  rcases c316 with ⟨k1_z, k2_z, k3_z, k4_z, k5_z⟩ | ⟨k1_z, k2_z, k3_z⟩
  · exact hQ _ g316 j (goF_m0 (show frM A [7, 8, 9, 12, 17] [30, 31, 32, 34] f _ from (frM_su o316 (by decide) (by decide)))) (Or.inl ⟨k1_z, k3_z, k4_z, k5_z, (@decide_eq_true _ (Classical.propDecidable _) (by rcases e313 with e9_z | e9_z; exact e9_z.2; exact absurd e9_z.1 (by omega))), i6_z⟩)
  · subst k3_z
    exact hQ _ _ j (goF_m0 frM_rf) (Or.inr ⟨k1_z, invF_up hI frM_rf (@decide_eq_false _ (Classical.propDecidable _) (fun e8 => by rcases e313 with e9_z | e9_z; exact absurd e9_z.1 (by omega); exact e9_z.2 e8))⟩)
theorem see_sta {g : zGT} {w : zW} {A : Nat} {T : zTb} {dd : Nat} {tr : Int} {ty : Nat → zTy} {tn s : Nat} {l : List Int} (G : zGok g) (hs : shM w A) (hw : wfT T) (hdd : dd ≤ 5) (htn : tr = (tn : Nat)) (ht4 : tn < 4) (hty : ty tn = some (s, l)) (hln : l.length = tbC T) : seeC g w A T dd (invF A 9 tr ty (fun L _ => @decide (ordC L l) (Classical.propDecidable _))) (finF A (fun L _ => @decide (ordC L l) (Classical.propDecidable _))) := fun f j ps L r x Q QX hk hgo hr hx hB_z hI hQ => s_X12_sees_sta G hs hw hdd hk hgo hr hx hB_z htn ht4 hty hln hI hQ
def bstS (T : zTb) (by9 : Int) (dd : Nat) (ps : List zRo) : Int × List Nat := ps.foldl (fun s y => if s.1 < scoV T by9 y.1 (dd + y.2.length) then (scoV T by9 y.1 (dd + y.2.length), y.2) else s) (-536870912, [])
theorem bstS_s {T : zTb} {by9 : Int} {dd : Nat} {ps : List zRo} {L : zLy} {r : List Nat} : bstS T by9 dd (ps ++ [(L, r)]) = if (bstS T by9 dd ps).1 < scoV T by9 L (dd + r.length) then (scoV T by9 L (dd + r.length), r) else bstS T by9 dd ps := by
  unfold bstS
  rw [List.foldl_append]
  rfl
def invB (A : Nat) (T : zTb) (by9 : Int) (dd : Nat) (wh tr : Int) (K : Nat → Int) (f : Nat → Nat → Int32) (_ : Nat → Nat → Int64) (ps : List zRo) : Prop := (f A 28).toInt = wh ∧ (f A 33).toInt = tr ∧ (f A 31).toInt = (bstS T by9 dd ps).1 ∧ (f A 32).toInt = ((bstS T by9 dd ps).2.length : Nat) ∧ (∀ i e, (bstS T by9 dd ps).2[i]? = some e → (f (A + 12) i).toInt = ((e : Nat) : Int)) ∧ ∀ i, i < tbG T → (f (A + 13) i).toInt = K i
theorem invB_iv {A : Nat} {T : zTb} {by9 wh tr : Int} {dd : Nat} {K : Nat → Int} (f1_z f2_z : Nat → Nat → Int32) (j1 : Nat → Nat → Int64) (ps1 : List zRo) (h_z : frM A [6, 11] [] f1_z f2_z) (hI : invB A T by9 dd wh tr K f1_z j1 ps1) : invB A T by9 dd wh tr K f2_z j1 ps1 := by
  obtain ⟨a1, a2, a3, a4, a5, a6⟩ := hI
  exact ⟨by rw [h_z.2.2 28 (by decide)]; exact a1, by rw [h_z.2.2 33 (by decide)]; exact a2, by rw [h_z.2.2 31 (by decide)]; exact a3, by rw [h_z.2.2 32 (by decide)]; exact a4, by rw [h_z.2.1 12 (by decide) (by decide) (by decide)]; exact a5, by rw [h_z.2.1 13 (by decide) (by decide) (by decide)]; exact a6⟩
set_option maxHeartbeats 4000000 in
set_option maxRecDepth 100000 in
theorem s_X12_sees_bes {g : zGT} {w : zW} {f : Nat → Nat → Int32} {j : Nat → Nat → Int64} {A : Nat} {T : zTb} {dd : Nat} {L : zLy} {r : List Nat} {ps : List zRo} {x : Int32} {tr : Int} {K : Nat → Int} {Q : Option Value → zW → Prop} {QX : String → zW → Prop} (G : zGok g) (hs : shM w A) (hw : wfT T) (hdd : dd ≤ 5) (hk : ctKn (f (A + 1)) T) (hgo : goAt f A dd L r) (hr : rch (tbC T) L) (hx : x.toInt = ((dd + r.length : Nat) : Int)) (hB_z : ps.length < 10000000) (hI : (invB A T (-1) dd 3 tr K) f j ps) (hQ : ∀ (b : Int32) f2_z j2, goF A (dd + r.length) r.length f f2_z j j2 → (b.toInt = 1 ∧ (fun _ _ _ _ => False) f2_z j2 ps (L, r) ∨ b.toInt = 0 ∧ (invB A T (-1) dd 3 tr K) f2_z j2 (ps ++ [(L, r)])) → Q (some (.int b)) (zM w f2_z j2)) : zC g 9 yX12_sees cX12_sees 3 (some .boolean) [.ref A, .int x] (zM w f j) (0, 0) Q QX := by
  refine zC_of G (by decide +kernel) (Nat.le_of_ble_eq_true rfl) ?_
  have hn6 : tbC T ≤ 6 := hw.2.1
  have hg4 : tbG T ≤ 4 := hw.2.2.1
  have hrc := rch_cell hr
  have hLn : L.length ≤ 6 := Nat.le_trans hrc.2.2.2.2 hn6
  have hm99 := hw.2.2.2.2.2.2.2.1.2.2
  have hrl5 := hgo.2.2.2
  have hd11 : dd + r.length < 11 := by omega
  have hLi := hgo.1
  have h29 := hgo.2.1
  have hrw := hgo.2.2.1
  have hll : (f (A + 6) (43 * (dd + r.length))).toInt = (L.length : Nat) := hLi.1
  have hI9 := hI
  obtain ⟨i1_z, i2_z, i3_z, i4_z, i5_z, i6_z⟩ := hI9
  have hsc : scoV T (-1) L (dd + r.length) = worV T L (dd + r.length) := by unfold scoV; rw [if_pos rfl]
  refine r_aloadR0 dX12_sees_0 ?_
  refine m_getV (x := (f A 28)) zf_RX12_443 rfl dX12_sees_1 (shM_k hs) (rfl) ?_
  refine n_tabC (k := 3) (t := 320) dX12_sees_4 (by decide) rfl (by decide) (fun h4 => ?_) (fun h4 => False.elim (h4 (by omega)))
  refine r_aloadR0 dX12_sees_320 ?_
  refine r_iload1 dX12_sees_321 ?_
  refine q_callV1 zm_RX12_487 dX12_sees_322 (shM_k hs) (by decide) rfl (Nat.le_of_ble_eq_true rfl) (Nat.le_of_ble_eq_true rfl) (Nat.le_of_ble_eq_true rfl) (Nat.le_of_ble_eq_true rfl) (Nat.le_of_ble_eq_true rfl) (s_X12_wAw (L := L) (T := T) G hs hk hw hx hd11 hLi hr i1_z (fun r322 g322 e322 o322 => ?_))
  refine r_istore2 dX12_sees_325 rfl ?_
  refine r_iload2 dX12_sees_326 ?_
  refine r_aloadR0 dX12_sees_327 ?_
  refine m_getV (x := (g322 A 31)) zf_RX12_425 rfl dX12_sees_328 (shM_k hs) (rfl) ?_
  have w31 : (g322 A 31).toInt = (f A 31).toInt := by rw [o322.2.2 31 (by decide)]
  refine t_icle (t := 340) dX12_sees_331 (by decide) (fun h331 => ?_) (fun h331 => ?_)
  · refine n_iconst dX12_sees_340 (by decide) (fun r340 e340 => ?_)
    refine m_zret dX12_sees_341 rfl (by omega) (Nat.le_of_ble_eq_true rfl) (Nat.le_of_ble_eq_true rfl) ?_
    have hb9 : bstS T (-1) dd (ps ++ [(L, r)]) = _ := bstS_s
    rw [if_neg (by omega)] at hb9
    refine hQ _ g322 j (goF_m0 (frM_su o322 (by decide) (by decide))) (Or.inr ⟨by omega, ?_⟩)
    unfold invB
    rw [hb9, o322.2.2 28 (by decide), o322.2.2 33 (by decide), o322.2.2 31 (by decide), o322.2.2 32 (by decide), o322.2.1 12 (by decide) (by decide) (by decide), o322.2.1 13 (by decide) (by decide) (by decide)]
    exact ⟨i1_z, i2_z, i3_z, i4_z, i5_z, i6_z⟩
  · refine r_aloadR0 dX12_sees_334 ?_
    refine r_iload1 dX12_sees_335 ?_
    refine r_iload2 dX12_sees_336 ?_
    refine q_callV2 zm_RX12_490 dX12_sees_337 (shM_k hs) (by decide) rfl (Nat.le_of_ble_eq_true rfl) (Nat.le_of_ble_eq_true rfl) (Nat.le_of_ble_eq_true rfl) (Nat.le_of_ble_eq_true rfl) (Nat.le_of_ble_eq_true rfl) (s_X12_keepsRow (r := r) (dd := dd) G hs (by rw [o322.2.2 29 (by decide)]; exact h29) (by rw [o322.2.1 11 (by decide) (by decide) (by decide)]; exact hrw) hrl5 hdd hx (fun g337 o337 a1 a2 a3 => ?_))
    refine n_iconst dX12_sees_340 (by decide) (fun r340 e340 => ?_)
    refine m_zret dX12_sees_341 rfl (by omega) (Nat.le_of_ble_eq_true rfl) (Nat.le_of_ble_eq_true rfl) ?_
    have hb9 : bstS T (-1) dd (ps ++ [(L, r)]) = _ := bstS_s
    rw [if_pos (by omega)] at hb9
    have ofr : frM A [8, 9, 12] [31, 32] f g337 := frM_tr (frM_su o322 (by decide) (by decide)) (frM_su o337 (by decide) (by decide))
    refine hQ _ g337 j (goF_m0 (frM_su ofr (by decide) (by decide))) (Or.inr ⟨by omega, ?_⟩)
    unfold invB
    rw [hb9, ofr.2.2 28 (by decide), ofr.2.2 33 (by decide), ofr.2.1 13 (by decide) (by decide) (by decide)]
    exact ⟨i1_z, i2_z, by rw [a1, e322]; exact hsc.symm, a2, a3, i6_z⟩
theorem see_bes {g : zGT} {w : zW} {A : Nat} {T : zTb} {dd : Nat} {tr : Int} {K : Nat → Int} (G : zGok g) (hs : shM w A) (hw : wfT T) (hdd : dd ≤ 5) : seeC g w A T dd (invB A T (-1) dd 3 tr K) ((fun _ _ _ _ => False)) := fun f j ps L r x Q QX hk hgo hr hx hB_z hI hQ => s_X12_sees_bes G hs hw hdd hk hgo hr hx hB_z hI hQ
set_option maxHeartbeats 4000000 in
set_option maxRecDepth 100000 in
theorem s_X12_sees_fai {g : zGT} {w : zW} {f : Nat → Nat → Int32} {j : Nat → Nat → Int64} {A : Nat} {T : zTb} {dd : Nat} {L : zLy} {r : List Nat} {ps : List zRo} {x : Int32} {tr : Int} {K : Nat → Int} {Q : Option Value → zW → Prop} {QX : String → zW → Prop} (G : zGok g) (hs : shM w A) (hw : wfT T) (hdd : dd ≤ 5) (hk : ctKn (f (A + 1)) T) (hgo : goAt f A dd L r) (hr : rch (tbC T) L) (hx : x.toInt = ((dd + r.length : Nat) : Int)) (hB_z : ps.length < 10000000) (hI : (invB A T (-2) dd 6 tr K) f j ps) (hQ : ∀ (b : Int32) f2_z j2, goF A (dd + r.length) r.length f f2_z j j2 → (b.toInt = 1 ∧ (fun _ _ _ _ => False) f2_z j2 ps (L, r) ∨ b.toInt = 0 ∧ (invB A T (-2) dd 6 tr K) f2_z j2 (ps ++ [(L, r)])) → Q (some (.int b)) (zM w f2_z j2)) : zC g 9 yX12_sees cX12_sees 3 (some .boolean) [.ref A, .int x] (zM w f j) (0, 0) Q QX := by
  refine zC_of G (by decide +kernel) (Nat.le_of_ble_eq_true rfl) ?_
  have hn6 : tbC T ≤ 6 := hw.2.1
  have hg4 : tbG T ≤ 4 := hw.2.2.1
  have hrc := rch_cell hr
  have hLn : L.length ≤ 6 := Nat.le_trans hrc.2.2.2.2 hn6
  have hm99 := hw.2.2.2.2.2.2.2.1.2.2
  have hrl5 := hgo.2.2.2
  have hd11 : dd + r.length < 11 := by omega
  have hLi := hgo.1
  have h29 := hgo.2.1
  have hrw := hgo.2.2.1
  have hll : (f (A + 6) (43 * (dd + r.length))).toInt = (L.length : Nat) := hLi.1
  have hI9 := hI
  obtain ⟨i1_z, i2_z, i3_z, i4_z, i5_z, i6_z⟩ := hI9
  have hsc : scoV T (-2) L (dd + r.length) = leaV T L (dd + r.length) (tbG T) := by unfold scoV; rw [if_neg (by omega), if_pos rfl]
  refine r_aloadR0 dX12_sees_0 ?_
  refine m_getV (x := (f A 28)) zf_RX12_443 rfl dX12_sees_1 (shM_k hs) (rfl) ?_
  refine n_tabC (k := 6) (t := 320) dX12_sees_4 (by decide) rfl (by decide) (fun h4 => ?_) (fun h4 => False.elim (h4 (by omega)))
  refine r_aloadR0 dX12_sees_320 ?_
  refine r_iload1 dX12_sees_321 ?_
  refine q_callV1 zm_RX12_487 dX12_sees_322 (shM_k hs) (by decide) rfl (Nat.le_of_ble_eq_true rfl) (Nat.le_of_ble_eq_true rfl) (Nat.le_of_ble_eq_true rfl) (Nat.le_of_ble_eq_true rfl) (Nat.le_of_ble_eq_true rfl) (s_X12_wAl (L := L) (T := T) G hs hk hw hx hd11 hLi hr i1_z (fun r322 g322 e322 o322 => ?_))
  refine r_istore2 dX12_sees_325 rfl ?_
  refine r_iload2 dX12_sees_326 ?_
  refine r_aloadR0 dX12_sees_327 ?_
  refine m_getV (x := (g322 A 31)) zf_RX12_425 rfl dX12_sees_328 (shM_k hs) (rfl) ?_
  have w31 : (g322 A 31).toInt = (f A 31).toInt := by rw [o322.2.2 31 (by decide)]
  refine t_icle (t := 340) dX12_sees_331 (by decide) (fun h331 => ?_) (fun h331 => ?_)
  · refine n_iconst dX12_sees_340 (by decide) (fun r340 e340 => ?_)
    refine m_zret dX12_sees_341 rfl (by omega) (Nat.le_of_ble_eq_true rfl) (Nat.le_of_ble_eq_true rfl) ?_
    have hb9 : bstS T (-2) dd (ps ++ [(L, r)]) = _ := bstS_s
    rw [if_neg (by omega)] at hb9
    refine hQ _ g322 j (goF_m0 (frM_su o322 (by decide) (by decide))) (Or.inr ⟨by omega, ?_⟩)
    unfold invB
    rw [hb9, o322.2.2 28 (by decide), o322.2.2 33 (by decide), o322.2.2 31 (by decide), o322.2.2 32 (by decide), o322.2.1 12 (by decide) (by decide) (by decide), o322.2.1 13 (by decide) (by decide) (by decide)]
    exact ⟨i1_z, i2_z, i3_z, i4_z, i5_z, i6_z⟩
  · refine r_aloadR0 dX12_sees_334 ?_
    refine r_iload1 dX12_sees_335 ?_
    refine r_iload2 dX12_sees_336 ?_
    refine q_callV2 zm_RX12_490 dX12_sees_337 (shM_k hs) (by decide) rfl (Nat.le_of_ble_eq_true rfl) (Nat.le_of_ble_eq_true rfl) (Nat.le_of_ble_eq_true rfl) (Nat.le_of_ble_eq_true rfl) (Nat.le_of_ble_eq_true rfl) (s_X12_keepsRow (r := r) (dd := dd) G hs (by rw [o322.2.2 29 (by decide)]; exact h29) (by rw [o322.2.1 11 (by decide) (by decide) (by decide)]; exact hrw) hrl5 hdd hx (fun g337 o337 a1 a2 a3 => ?_))
    refine n_iconst dX12_sees_340 (by decide) (fun r340 e340 => ?_)
    refine m_zret dX12_sees_341 rfl (by omega) (Nat.le_of_ble_eq_true rfl) (Nat.le_of_ble_eq_true rfl) ?_
    have hb9 : bstS T (-2) dd (ps ++ [(L, r)]) = _ := bstS_s
    rw [if_pos (by omega)] at hb9
    have ofr : frM A [8, 9, 12] [31, 32] f g337 := frM_tr (frM_su o322 (by decide) (by decide)) (frM_su o337 (by decide) (by decide))
    refine hQ _ g337 j (goF_m0 (frM_su ofr (by decide) (by decide))) (Or.inr ⟨by omega, ?_⟩)
    unfold invB
    rw [hb9, ofr.2.2 28 (by decide), ofr.2.2 33 (by decide), ofr.2.1 13 (by decide) (by decide) (by decide)]
    exact ⟨i1_z, i2_z, by rw [a1, e322]; exact hsc.symm, a2, a3, i6_z⟩
theorem see_fai {g : zGT} {w : zW} {A : Nat} {T : zTb} {dd : Nat} {tr : Int} {K : Nat → Int} (G : zGok g) (hs : shM w A) (hw : wfT T) (hdd : dd ≤ 5) : seeC g w A T dd (invB A T (-2) dd 6 tr K) ((fun _ _ _ _ => False)) := fun f j ps L r x Q QX hk hgo hr hx hB_z hI hQ => s_X12_sees_fai G hs hw hdd hk hgo hr hx hB_z hI hQ
set_option maxHeartbeats 4000000 in
set_option maxRecDepth 100000 in
theorem s_X12_sees_gai {g : zGT} {w : zW} {f : Nat → Nat → Int32} {j : Nat → Nat → Int64} {A : Nat} {T : zTb} {dd : Nat} {L : zLy} {r : List Nat} {ps : List zRo} {x : Int32} {tr : Int} {K : Nat → Int} {gu : Nat} {Q : Option Value → zW → Prop} {QX : String → zW → Prop} (G : zGok g) (hs : shM w A) (hw : wfT T) (hdd : dd ≤ 5) (hk : ctKn (f (A + 1)) T) (hgo : goAt f A dd L r) (hr : rch (tbC T) L) (hx : x.toInt = ((dd + r.length : Nat) : Int)) (hB_z : ps.length < 10000000) (htg : tr = (gu : Nat)) (hgu : gu < tbG T) (hI : (invB A T ((gu : Nat) : Int) dd 8 tr K) f j ps) (hQ : ∀ (b : Int32) f2_z j2, goF A (dd + r.length) r.length f f2_z j j2 → (b.toInt = 1 ∧ (fun _ _ _ _ => False) f2_z j2 ps (L, r) ∨ b.toInt = 0 ∧ (invB A T ((gu : Nat) : Int) dd 8 tr K) f2_z j2 (ps ++ [(L, r)])) → Q (some (.int b)) (zM w f2_z j2)) : zC g 9 yX12_sees cX12_sees 3 (some .boolean) [.ref A, .int x] (zM w f j) (0, 0) Q QX := by
  refine zC_of G (by decide +kernel) (Nat.le_of_ble_eq_true rfl) ?_
  have hn6 : tbC T ≤ 6 := hw.2.1
  have hg4 : tbG T ≤ 4 := hw.2.2.1
  have hrc := rch_cell hr
  have hLn : L.length ≤ 6 := Nat.le_trans hrc.2.2.2.2 hn6
  have hm99 := hw.2.2.2.2.2.2.2.1.2.2
  have hrl5 := hgo.2.2.2
  have hd11 : dd + r.length < 11 := by omega
  have hLi := hgo.1
  have h29 := hgo.2.1
  have hrw := hgo.2.2.1
  have hll : (f (A + 6) (43 * (dd + r.length))).toInt = (L.length : Nat) := hLi.1
  have hI9 := hI
  obtain ⟨i1_z, i2_z, i3_z, i4_z, i5_z, i6_z⟩ := hI9
  have hsc : scoV T ((gu : Nat) : Int) L (dd + r.length) = likV T L (dd + r.length) gu := by unfold scoV; rw [if_neg (by omega), if_neg (by omega), Int.toNat_natCast]
  refine r_aloadR0 dX12_sees_0 ?_
  refine m_getV (x := (f A 28)) zf_RX12_443 rfl dX12_sees_1 (shM_k hs) (rfl) ?_
  refine n_tabC (k := 8) (t := 320) dX12_sees_4 (by decide) rfl (by decide) (fun h4 => ?_) (fun h4 => False.elim (h4 (by omega)))
  refine r_aloadR0 dX12_sees_320 ?_
  refine r_iload1 dX12_sees_321 ?_
  refine q_callV1 zm_RX12_487 dX12_sees_322 (shM_k hs) (by decide) rfl (Nat.le_of_ble_eq_true rfl) (Nat.le_of_ble_eq_true rfl) (Nat.le_of_ble_eq_true rfl) (Nat.le_of_ble_eq_true rfl) (Nat.le_of_ble_eq_true rfl) (s_X12_wAg (gu := gu) (L := L) (T := T) G hs hk hw hx hd11 hLi hr i1_z (by omega) hgu (fun r322 g322 e322 o322 => ?_))
  refine r_istore2 dX12_sees_325 rfl ?_
  refine r_iload2 dX12_sees_326 ?_
  refine r_aloadR0 dX12_sees_327 ?_
  refine m_getV (x := (g322 A 31)) zf_RX12_425 rfl dX12_sees_328 (shM_k hs) (rfl) ?_
  have w31 : (g322 A 31).toInt = (f A 31).toInt := by rw [o322.2.2 31 (by decide)]
  refine t_icle (t := 340) dX12_sees_331 (by decide) (fun h331 => ?_) (fun h331 => ?_)
  · refine n_iconst dX12_sees_340 (by decide) (fun r340 e340 => ?_)
    refine m_zret dX12_sees_341 rfl (by omega) (Nat.le_of_ble_eq_true rfl) (Nat.le_of_ble_eq_true rfl) ?_
    have hb9 : bstS T ((gu : Nat) : Int) dd (ps ++ [(L, r)]) = _ := bstS_s
    rw [if_neg (by omega)] at hb9
    refine hQ _ g322 j (goF_m0 (frM_su o322 (by decide) (by decide))) (Or.inr ⟨by omega, ?_⟩)
    unfold invB
    rw [hb9, o322.2.2 28 (by decide), o322.2.2 33 (by decide), o322.2.2 31 (by decide), o322.2.2 32 (by decide), o322.2.1 12 (by decide) (by decide) (by decide), o322.2.1 13 (by decide) (by decide) (by decide)]
    exact ⟨i1_z, i2_z, i3_z, i4_z, i5_z, i6_z⟩
  · refine r_aloadR0 dX12_sees_334 ?_
    refine r_iload1 dX12_sees_335 ?_
    refine r_iload2 dX12_sees_336 ?_
    refine q_callV2 zm_RX12_490 dX12_sees_337 (shM_k hs) (by decide) rfl (Nat.le_of_ble_eq_true rfl) (Nat.le_of_ble_eq_true rfl) (Nat.le_of_ble_eq_true rfl) (Nat.le_of_ble_eq_true rfl) (Nat.le_of_ble_eq_true rfl) (s_X12_keepsRow (r := r) (dd := dd) G hs (by rw [o322.2.2 29 (by decide)]; exact h29) (by rw [o322.2.1 11 (by decide) (by decide) (by decide)]; exact hrw) hrl5 hdd hx (fun g337 o337 a1 a2 a3 => ?_))
    refine n_iconst dX12_sees_340 (by decide) (fun r340 e340 => ?_)
    refine m_zret dX12_sees_341 rfl (by omega) (Nat.le_of_ble_eq_true rfl) (Nat.le_of_ble_eq_true rfl) ?_
    have hb9 : bstS T ((gu : Nat) : Int) dd (ps ++ [(L, r)]) = _ := bstS_s
    rw [if_pos (by omega)] at hb9
    have ofr : frM A [8, 9, 12] [31, 32] f g337 := frM_tr (frM_su o322 (by decide) (by decide)) (frM_su o337 (by decide) (by decide))
    refine hQ _ g337 j (goF_m0 (frM_su ofr (by decide) (by decide))) (Or.inr ⟨by omega, ?_⟩)
    unfold invB
    rw [hb9, ofr.2.2 28 (by decide), ofr.2.2 33 (by decide), ofr.2.1 13 (by decide) (by decide) (by decide)]
    exact ⟨i1_z, i2_z, by rw [a1, e322]; exact hsc.symm, a2, a3, i6_z⟩
theorem see_gai {g : zGT} {w : zW} {A : Nat} {T : zTb} {dd : Nat} {tr : Int} {K : Nat → Int} {gu : Nat} (G : zGok g) (hs : shM w A) (hw : wfT T) (hdd : dd ≤ 5) (htg : tr = (gu : Nat)) (hgu : gu < tbG T) : seeC g w A T dd (invB A T ((gu : Nat) : Int) dd 8 tr K) ((fun _ _ _ _ => False)) := fun f j ps L r x Q QX hk hgo hr hx hB_z hI hQ => s_X12_sees_gai G hs hw hdd hk hgo hr hx hB_z htg hgu hI hQ
