/-! the reference reads on: faults, signs, numbers, steps -/
theorem rk0 {B : Nat → Nat} {n s : Nat} : rkP B n s = 0 ↔ tkP B n s = 0 := by
  unfold rkP
  split
  · omega
  split <;> omega
theorem rk1 {B : Nat → Nat} {n s : Nat} : rkP B n s = 1 ↔ tkP B n s = 3 := by
  unfold rkP
  split
  · omega
  split <;> omega
theorem rk2 {B : Nat → Nat} {n s : Nat} : rkP B n s = 2 ↔ tkP B n s = 2 := by
  unfold rkP
  split
  · omega
  split <;> omega
theorem rk3 {B : Nat → Nat} {n s : Nat} : rkP B n s = 3 ↔ tkP B n s = 1 := by
  unfold rkP
  split
  · omega
  split <;> omega
theorem rk4 {B : Nat → Nat} {n s c : Nat} (hc_z : 4 ≤ c) : rkP B n s = c ↔ tkP B n s = c := by
  unfold rkP
  split
  · omega
  split <;> omega
theorem teP_le {B : Nat → Nat} {n s : Nat} (h_z : s ≤ n) : teP B n s ≤ n := by
  rcases Nat.lt_or_ge s n with h1 | h1
  · exact (teP_gt (B := B) h1).2
  · rw [(tk_end (B := B) h1).2.2]
    exact h_z
/-- fault or none so far, and where -/
def psM (B : Nat → Nat) (n : Nat) (f : Nat → Nat → Int32) (A e p : Nat) : Prop := (f A 12).toInt = (e : Nat) ∧ (e = 0 → tkM B n f A p) ∧ (e ≠ 0 → (f A 13).toInt = (p : Nat))
theorem psM_of {B : Nat → Nat} {n A e p : Nat} {f f2_z : Nat → Nat → Int32} (h_z : psM B n f A e p) (h8 : f2_z A 8 = f A 8) (h9 : f2_z A 9 = f A 9) (h10 : f2_z A 10 = f A 10) (h11 : f2_z A 11 = f A 11) (h12 : f2_z A 12 = f A 12) (h13 : f2_z A 13 = f A 13) : psM B n f2_z A e p := ⟨by rw [h12]; exact h_z.1, fun h0 => tkM_of (h_z.2.1 h0) h8 h9 h10 h11, fun h0 => by rw [h13]; exact h_z.2.2 h0⟩
/-- a number up to h_z -/
def nuH (B : Nat → Nat) (n h_z s : Nat) : Nat × Nat × Nat := if tkP B n s = 2 then (if h_z < nmP B n s then (3, s, 0) else (0, nxP B n s, nmP B n s)) else (baP B n s, s, 0)
set_option maxHeartbeats 4000000 in
set_option maxRecDepth 100000 in
theorem s_X12_blames_x {g : zGT} {w : zW} {f : Nat → Nat → Int32} {j : Nat → Nat → Int64} {A : Nat} {x : Int32} {Q : Option Value → zW → Prop} {QX : String → zW → Prop} (G : zGok g) (hs : shM w A) (hb_z : (f A 12).toInt ≠ 0) (hQ : Q none (zM w f j)) : zC g 1 yX12_blames cX12_blames 2 none [.ref A, .int x] (zM w f j) (0, 0) Q QX := by
  refine zC_of G (by decide +kernel) (Nat.le_of_ble_eq_true rfl) ?_
  refine r_aloadR0 dX12_blames_0 ?_
  refine m_getV (x := (f A 12)) zf_RX12_112 rfl dX12_blames_1 (shM_k hs) (rfl) ?_
  refine t_ifeq (t := 8) dX12_blames_4 (by decide) (fun h4 => False.elim (by omega)) (fun h4 => ?_)
  refine r_vret dX12_blames_7 rfl (Nat.le_of_ble_eq_true rfl) (Nat.le_of_ble_eq_true rfl) ?_
  exact hQ
set_option maxHeartbeats 4000000 in
set_option maxRecDepth 100000 in
theorem s_X12_blames {g : zGT} {w : zW} {f : Nat → Nat → Int32} {j : Nat → Nat → Int64} {A : Nat} {B : Nat → Nat} {n : Nat} {x : Int32} {p k : Nat} {Q : Option Value → zW → Prop} {QX : String → zW → Prop} (G : zGok g) (hs : shM w A) (hb_z : (f A 12).toInt = 0) (ht : tkM B n f A p) (hx : x.toInt = (k : Nat)) (hQ : ∀ f2_z, frM A [] [12, 13] f f2_z → (f2_z A 12).toInt = ((if tkP B n p = 1 then 1 else k : Nat) : Int) → (f2_z A 13).toInt = (p : Nat) → Q none (zM w f2_z j)) : zC g 1 yX12_blames cX12_blames 2 none [.ref A, .int x] (zM w f j) (0, 0) Q QX := by
  refine zC_of G (by decide +kernel) (Nat.le_of_ble_eq_true rfl) ?_
  have h10 := ht.2.2.2.1
  have h9 := ht.2.2.1
  by_cases h1 : tkP B n p = 1
  · refine r_aloadR0 dX12_blames_0 ?_
    refine m_getV (x := (f A 12)) zf_RX12_112 rfl dX12_blames_1 (shM_k hs) (rfl) ?_
    refine t_ifeq (t := 8) dX12_blames_4 (by decide) (fun h4 => ?_) (fun h4 => False.elim (by omega))
    refine r_aloadR0 dX12_blames_8 ?_
    refine r_aloadR0 dX12_blames_9 ?_
    have h3 := rk3.mpr h1
    refine m_getV (x := (f A 10)) zf_RX12_92 rfl dX12_blames_10 (shM_k hs) (rfl) ?_
    refine n_iconst dX12_blames_13 (by decide) (fun r13 e13_z => ?_)
    refine t_icne (t := 21) dX12_blames_14 (by decide) (fun h14 => False.elim (by omega)) (fun h14 => ?_)
    refine n_iconst dX12_blames_17 (by decide) (fun r17 e17_z => ?_)
    refine r_goto (t := 22) dX12_blames_18 (by decide) ?_
    refine m_putI zf_RX12_112 (by intro C T N h_z; cases h_z; rfl) rfl dX12_blames_22 (shM_k hs) ?_
    obtain ⟨g22, hg22⟩ : ∃ g9, g9 = zu f A 12 r17 := ⟨_, rfl⟩
    rw [← hg22]
    have og22 : frM A [] [12] f g22 := by rw [hg22]; exact frM_zk frM_rf (by decide)
    have vg22 : g22 A 12 = r17 := by rw [hg22]; exact zu_at
    have vt22 : (g22 A 12).toInt = r17.toInt := by rw [vg22]
    have h9b : (g22 A 9).toInt = (p : Nat) := by rw [og22.2.2 9 (by decide)]; exact h9
    refine r_aloadR0 dX12_blames_25 ?_
    refine r_aloadR0 dX12_blames_26 ?_
    refine m_getV (x := (g22 A 9)) zf_RX12_89 rfl dX12_blames_27 (shM_k hs) (rfl) ?_
    refine m_putI zf_RX12_115 (by intro C T N h_z; cases h_z; rfl) rfl dX12_blames_30 (shM_k hs) ?_
    obtain ⟨g30, hg30⟩ : ∃ g9, g9 = zu g22 A 13 (g22 A 9) := ⟨_, rfl⟩
    rw [← hg30]
    have og30 : frM A [] [13] g22 g30 := by rw [hg30]; exact frM_zk frM_rf (by decide)
    have vg30 : g30 A 13 = (g22 A 9) := by rw [hg30]; exact zu_at
    have vt30 : (g30 A 13).toInt = (g22 A 9).toInt := by rw [vg30]
    refine r_vret dX12_blames_33 rfl (Nat.le_of_ble_eq_true rfl) (Nat.le_of_ble_eq_true rfl) ?_
    refine hQ g30 (frM_tr (frM_su og22 (by decide) (by decide)) (frM_su og30 (by decide) (by decide))) ?_ (by rw [vt30]; exact h9b)
    rw [if_pos h1, og30.2.2 12 (by decide), vt22]
    omega
  · refine r_aloadR0 dX12_blames_0 ?_
    refine m_getV (x := (f A 12)) zf_RX12_112 rfl dX12_blames_1 (shM_k hs) (rfl) ?_
    refine t_ifeq (t := 8) dX12_blames_4 (by decide) (fun h4 => ?_) (fun h4 => False.elim (by omega))
    refine r_aloadR0 dX12_blames_8 ?_
    refine r_aloadR0 dX12_blames_9 ?_
    have h3 : rkP B n p ≠ 3 := fun h_z => h1 (rk3.mp h_z)
    refine m_getV (x := (f A 10)) zf_RX12_92 rfl dX12_blames_10 (shM_k hs) (rfl) ?_
    refine n_iconst dX12_blames_13 (by decide) (fun r13 e13_z => ?_)
    refine t_icne (t := 21) dX12_blames_14 (by decide) (fun h14 => ?_) (fun h14 => False.elim (by omega))
    refine r_iload1 dX12_blames_21 ?_
    refine m_putI zf_RX12_112 (by intro C T N h_z; cases h_z; rfl) rfl dX12_blames_22 (shM_k hs) ?_
    obtain ⟨g22, hg22⟩ : ∃ g9, g9 = zu f A 12 x := ⟨_, rfl⟩
    rw [← hg22]
    have og22 : frM A [] [12] f g22 := by rw [hg22]; exact frM_zk frM_rf (by decide)
    have vg22 : g22 A 12 = x := by rw [hg22]; exact zu_at
    have vt22 : (g22 A 12).toInt = x.toInt := by rw [vg22]
    have h9b : (g22 A 9).toInt = (p : Nat) := by rw [og22.2.2 9 (by decide)]; exact h9
    refine r_aloadR0 dX12_blames_25 ?_
    refine r_aloadR0 dX12_blames_26 ?_
    refine m_getV (x := (g22 A 9)) zf_RX12_89 rfl dX12_blames_27 (shM_k hs) (rfl) ?_
    refine m_putI zf_RX12_115 (by intro C T N h_z; cases h_z; rfl) rfl dX12_blames_30 (shM_k hs) ?_
    obtain ⟨g30, hg30⟩ : ∃ g9, g9 = zu g22 A 13 (g22 A 9) := ⟨_, rfl⟩
    rw [← hg30]
    have og30 : frM A [] [13] g22 g30 := by rw [hg30]; exact frM_zk frM_rf (by decide)
    have vg30 : g30 A 13 = (g22 A 9) := by rw [hg30]; exact zu_at
    have vt30 : (g30 A 13).toInt = (g22 A 9).toInt := by rw [vg30]
    refine r_vret dX12_blames_33 rfl (Nat.le_of_ble_eq_true rfl) (Nat.le_of_ble_eq_true rfl) ?_
    refine hQ g30 (frM_tr (frM_su og22 (by decide) (by decide)) (frM_su og30 (by decide) (by decide))) ?_ (by rw [vt30]; exact h9b)
    rw [if_neg h1, og30.2.2 12 (by decide), vt22]
    omega
theorem ps_ba {B : Nat → Nat} {n A p : Nat} {f2_z : Nat → Nat → Int32} (h12 : (f2_z A 12).toInt = ((if tkP B n p = 1 then 1 else 2 : Nat) : Int)) (h13 : (f2_z A 13).toInt = (p : Nat)) : psM B n f2_z A (baP B n p) p := ⟨h12, fun h_z => absurd h_z ba_bd.1, fun _ => h13⟩
set_option maxHeartbeats 4000000 in
set_option maxRecDepth 100000 in
theorem s_X12_isSign {g : zGT} {w : zW} {f : Nat → Nat → Int32} {j : Nat → Nat → Int64} {A : Nat} {x : Int32} {Q : Option Value → zW → Prop} {QX : String → zW → Prop} (G : zGok g) (hs : shM w A) (hQ : ∀ r : Int32, (r.toInt = 1 ∧ ((f A 12).toInt = 0 ∧ (f A 10).toInt = x.toInt) ∨ r.toInt = 0 ∧ ¬ ((f A 12).toInt = 0 ∧ (f A 10).toInt = x.toInt)) → Q (some (.int r)) (zM w f j)) : zC g 1 yX12_isSign cX12_isSign 2 (some .boolean) [.ref A, .int x] (zM w f j) (0, 0) Q QX := by
  refine zC_of G (by decide +kernel) (Nat.le_of_ble_eq_true rfl) ?_
  refine r_aloadR0 dX12_isSign_0 ?_
  refine m_getV (x := (f A 12)) zf_RX12_112 rfl dX12_isSign_1 (shM_k hs) (rfl) ?_
  refine t_ifne (t := 19) dX12_isSign_4 (by decide) (fun h4 => ?_) (fun h4 => ?_)
  · refine n_iconst dX12_isSign_19 (by decide) (fun r19 e19_z => ?_)
    refine m_zret dX12_isSign_20 rfl (by omega) (Nat.le_of_ble_eq_true rfl) (Nat.le_of_ble_eq_true rfl) ?_
    exact hQ _ (by omega)
  · refine r_aloadR0 dX12_isSign_7 ?_
    refine m_getV (x := (f A 10)) zf_RX12_92 rfl dX12_isSign_8 (shM_k hs) (rfl) ?_
    refine r_iload1 dX12_isSign_11 ?_
    refine t_icne (t := 19) dX12_isSign_12 (by decide) (fun h12 => ?_) (fun h12 => ?_)
    · refine n_iconst dX12_isSign_19 (by decide) (fun r19 e19_z => ?_)
      refine m_zret dX12_isSign_20 rfl (by omega) (Nat.le_of_ble_eq_true rfl) (Nat.le_of_ble_eq_true rfl) ?_
      exact hQ _ (by omega)
    · refine n_iconst dX12_isSign_15 (by decide) (fun r15 e15_z => ?_)
      refine r_goto (t := 20) dX12_isSign_16 (by decide) ?_
      refine m_zret dX12_isSign_20 rfl (by omega) (Nat.le_of_ble_eq_true rfl) (Nat.le_of_ble_eq_true rfl) ?_
      exact hQ _ (by omega)
set_option maxHeartbeats 4000000 in
set_option maxRecDepth 100000 in
theorem s_X12_mustSign_x {g : zGT} {w : zW} {f : Nat → Nat → Int32} {j : Nat → Nat → Int64} {A : Nat} {x : Int32} {Q : Option Value → zW → Prop} {QX : String → zW → Prop} (G : zGok g) (hs : shM w A) (hb_z : (f A 12).toInt ≠ 0) (hQ : Q none (zM w f j)) : zC g 4 yX12_mustSign cX12_mustSign 2 none [.ref A, .int x] (zM w f j) (0, 0) Q QX := by
  refine zC_of G (by decide +kernel) (Nat.le_of_ble_eq_true rfl) ?_
  refine r_aloadR0 dX12_mustSign_0 ?_
  refine m_getV (x := (f A 10)) zf_RX12_92 rfl dX12_mustSign_1 (shM_k hs) (rfl) ?_
  refine r_iload1 dX12_mustSign_4 ?_
  refine t_iceq (t := 13) dX12_mustSign_5 (by decide) (fun h5 => ?_) (fun h5 => ?_)
  · refine r_aloadR0 dX12_mustSign_13 ?_
    refine m_getV (x := (f A 12)) zf_RX12_112 rfl dX12_mustSign_14 (shM_k hs) (rfl) ?_
    refine t_ifne (t := 24) dX12_mustSign_17 (by decide) (fun h17 => ?_) (fun h17 => False.elim (by omega))
    refine r_vret dX12_mustSign_24 rfl (Nat.le_of_ble_eq_true rfl) (Nat.le_of_ble_eq_true rfl) ?_
    exact hQ
  · refine r_aloadR0 dX12_mustSign_8 ?_
    refine n_iconst dX12_mustSign_9 (by decide) (fun r9 e9_z => ?_)
    refine q_callV1 zm_RX12_134 dX12_mustSign_10 (shM_k hs) (by decide) rfl (Nat.le_of_ble_eq_true rfl) (Nat.le_of_ble_eq_true rfl) (Nat.le_of_ble_eq_true rfl) (Nat.le_of_ble_eq_true rfl) (Nat.le_of_ble_eq_true rfl) (s_X12_blames_x G hs hb_z ?_)
    refine r_aloadR0 dX12_mustSign_13 ?_
    refine m_getV (x := (f A 12)) zf_RX12_112 rfl dX12_mustSign_14 (shM_k hs) (rfl) ?_
    refine t_ifne (t := 24) dX12_mustSign_17 (by decide) (fun h17 => ?_) (fun h17 => False.elim (by omega))
    refine r_vret dX12_mustSign_24 rfl (Nat.le_of_ble_eq_true rfl) (Nat.le_of_ble_eq_true rfl) ?_
    exact hQ
set_option maxHeartbeats 4000000 in
set_option maxRecDepth 100000 in
theorem s_X12_mustSign {g : zGT} {w : zW} {f : Nat → Nat → Int32} {j : Nat → Nat → Int64} {A : Nat} {B : Nat → Nat} {n : Nat} {x : Int32} {p c : Nat} {Q : Option Value → zW → Prop} {QX : String → zW → Prop} (G : zGok g) (hs : shM w A) (htp : tpM B n f A) (hps : psM B n f A 0 p) (hx : x.toInt = (c : Nat)) (hc_z : 4 ≤ c) (hQ : ∀ f2_z, frM A [] [8, 9, 10, 11, 12, 13] f f2_z → (tkP B n p = c → psM B n f2_z A 0 (nxP B n p)) → (tkP B n p ≠ c → psM B n f2_z A (baP B n p) p) → Q none (zM w f2_z j)) : zC g 4 yX12_mustSign cX12_mustSign 2 none [.ref A, .int x] (zM w f j) (0, 0) Q QX := by
  refine zC_of G (by decide +kernel) (Nat.le_of_ble_eq_true rfl) ?_
  have ht := hps.2.1 rfl
  have h10 := ht.2.2.2.1
  have h12 := hps.1
  have hte := teP_le (B := B) ht.1
  have hrk := rk4 (B := B) (n := n) (s := p) hc_z
  by_cases h1 : tkP B n p = c
  · refine r_aloadR0 dX12_mustSign_0 ?_
    refine m_getV (x := (f A 10)) zf_RX12_92 rfl dX12_mustSign_1 (shM_k hs) (rfl) ?_
    refine r_iload1 dX12_mustSign_4 ?_
    refine t_iceq (t := 13) dX12_mustSign_5 (by decide) (fun h5 => ?_) (fun h5 => False.elim (by omega))
    refine r_aloadR0 dX12_mustSign_13 ?_
    refine m_getV (x := (f A 12)) zf_RX12_112 rfl dX12_mustSign_14 (shM_k hs) (rfl) ?_
    refine t_ifne (t := 24) dX12_mustSign_17 (by decide) (fun h17 => False.elim (by omega)) (fun h17 => ?_)
    refine r_aloadR0 dX12_mustSign_20 ?_
    refine q_callV0 zm_RX12_131 dX12_mustSign_21 (shM_k hs) (by decide) rfl (Nat.le_of_ble_eq_true rfl) (Nat.le_of_ble_eq_true rfl) (Nat.le_of_ble_eq_true rfl) (Nat.le_of_ble_eq_true rfl) (Nat.le_of_ble_eq_true rfl) (s_X12_readsOn (p := teP B n p) G hs htp ht.2.1 hte (fun g21 o21 t21 => ?_))
    refine r_vret dX12_mustSign_24 rfl (Nat.le_of_ble_eq_true rfl) (Nat.le_of_ble_eq_true rfl) ?_
    exact hQ _ (frM_su o21 (by decide) (by decide)) (fun _ => ⟨by rw [o21.2.2 12 (by decide)]; exact h12, fun _ => t21, fun h_z => absurd rfl h_z⟩) (fun h_z => absurd h1 h_z)
  · refine r_aloadR0 dX12_mustSign_0 ?_
    refine m_getV (x := (f A 10)) zf_RX12_92 rfl dX12_mustSign_1 (shM_k hs) (rfl) ?_
    refine r_iload1 dX12_mustSign_4 ?_
    refine t_iceq (t := 13) dX12_mustSign_5 (by decide) (fun h5 => False.elim (by omega)) (fun h5 => ?_)
    refine r_aloadR0 dX12_mustSign_8 ?_
    refine n_iconst dX12_mustSign_9 (by decide) (fun r9 e9_z => ?_)
    refine q_callV1 zm_RX12_134 dX12_mustSign_10 (shM_k hs) (by decide) rfl (Nat.le_of_ble_eq_true rfl) (Nat.le_of_ble_eq_true rfl) (Nat.le_of_ble_eq_true rfl) (Nat.le_of_ble_eq_true rfl) (Nat.le_of_ble_eq_true rfl) (s_X12_blames (k := 2) G hs h12 ht (by omega) (fun g10 o10 a10 b10 => ?_))
    have hba := ba_bd (B := B) (n := n) (s := p)
    have hpb := ps_ba a10 b10
    have hp12 := hpb.1
    refine r_aloadR0 dX12_mustSign_13 ?_
    refine m_getV (x := (g10 A 12)) zf_RX12_112 rfl dX12_mustSign_14 (shM_k hs) (rfl) ?_
    refine t_ifne (t := 24) dX12_mustSign_17 (by decide) (fun h17 => ?_) (fun h17 => False.elim (by omega))
    refine r_vret dX12_mustSign_24 rfl (Nat.le_of_ble_eq_true rfl) (Nat.le_of_ble_eq_true rfl) ?_
    exact hQ _ (frM_su o10 (by decide) (by decide)) (fun h_z => absurd h_z h1) (fun _ => hpb)
set_option maxHeartbeats 4000000 in
set_option maxRecDepth 100000 in
theorem s_X12_laysStep_x {g : zGT} {w : zW} {f : Nat → Nat → Int32} {j : Nat → Nat → Int64} {A : Nat} {x : Int32} {Q : Option Value → zW → Prop} {QX : String → zW → Prop} (G : zGok g) (hs : shM w A) (hb_z : (f A 12).toInt ≠ 0) (hQ : Q none (zM w f j)) : zC g 1 yX12_laysStep cX12_laysStep 2 none [.ref A, .int x] (zM w f j) (0, 0) Q QX := by
  refine zC_of G (by decide +kernel) (Nat.le_of_ble_eq_true rfl) ?_
  refine r_aloadR0 dX12_laysStep_0 ?_
  refine m_getV (x := (f A 12)) zf_RX12_112 rfl dX12_laysStep_1 (shM_k hs) (rfl) ?_
  refine t_ifeq (t := 8) dX12_laysStep_4 (by decide) (fun h4 => False.elim (by omega)) (fun h4 => ?_)
  refine r_vret dX12_laysStep_7 rfl (Nat.le_of_ble_eq_true rfl) (Nat.le_of_ble_eq_true rfl) ?_
  exact hQ
set_option maxHeartbeats 4000000 in
set_option maxRecDepth 100000 in
theorem s_X12_laysStep {g : zGT} {w : zW} {f : Nat → Nat → Int32} {j : Nat → Nat → Int64} {A : Nat} {x : Int32} {lm la u : Nat} {Q : Option Value → zW → Prop} {QX : String → zW → Prop} (G : zGok g) (hs : shM w A) (hb_z : (f A 12).toInt = 0) (hlm : (f A 17).toInt = (lm : Nat)) (hla : (f A 18).toInt = (la : Nat)) (hu : (f (A + 2) lm).toInt = (u : Nat)) (h5 : lm ≤ 5) (h2 : 209 ≤ la) (h9 : la + u < 2912) (hQ : ∀ f2_z, frM A [2] [] f f2_z → (f2_z (A + 2) lm).toInt = ((u + 1 : Nat) : Int) → f2_z (A + 2) (la + u) = x → (∀ i, i ≠ lm → i ≠ la + u → f2_z (A + 2) i = f (A + 2) i) → Q none (zM w f2_z j)) : zC g 1 yX12_laysStep cX12_laysStep 2 none [.ref A, .int x] (zM w f j) (0, 0) Q QX := by
  refine zC_of G (by decide +kernel) (Nat.le_of_ble_eq_true rfl) ?_
  refine r_aloadR0 dX12_laysStep_0 ?_
  refine m_getV (x := (f A 12)) zf_RX12_112 rfl dX12_laysStep_1 (shM_k hs) (rfl) ?_
  refine t_ifeq (t := 8) dX12_laysStep_4 (by decide) (fun h4 => ?_) (fun h4 => False.elim (by omega))
  refine r_aloadR0 dX12_laysStep_8 ?_
  refine m_getR (q := (A + 2)) zf_RX12_13 rfl dX12_laysStep_9 (shM_k hs) (shM_p2 hs) ?_
  refine r_aloadR0 dX12_laysStep_12 ?_
  refine m_getV (x := (f A 18)) zf_RX12_145 rfl dX12_laysStep_13 (shM_k hs) (rfl) ?_
  refine r_aloadR0 dX12_laysStep_16 ?_
  refine m_getR (q := (A + 2)) zf_RX12_13 rfl dX12_laysStep_17 (shM_k hs) (shM_p2 hs) ?_
  refine r_aloadR0 dX12_laysStep_20 ?_
  refine m_getV (x := (f A 17)) zf_RX12_148 rfl dX12_laysStep_21 (shM_k hs) (rfl) ?_
  refine m_iald (k := lm) (x := (f (A + 2) lm)) dX12_laysStep_24 (shM_k2 hs) (shM_n2 hs) (by omega) (by omega) (rfl) ?_
  refine n_iadd dX12_laysStep_25 (by omega) (fun r25 e25_z => ?_)
  refine r_iload1 dX12_laysStep_26 ?_
  refine m_iast (k := (la + u)) dX12_laysStep_27 (shM_k2 hs) (shM_n2 hs) (by omega) (by omega) ?_
  refine r_aloadR0 dX12_laysStep_28 ?_
  refine m_getR (q := (A + 2)) zf_RX12_13 rfl dX12_laysStep_29 (shM_k hs) (shM_p2 hs) ?_
  refine r_aloadR0 dX12_laysStep_32 ?_
  refine m_getV (x := (f A 17)) zf_RX12_148 rfl dX12_laysStep_33 (shM_k hs) ((zu_nn (by omega)).trans (rfl)) ?_
  refine r_dup2 dX12_laysStep_36 rfl rfl ?_
  refine m_iald (k := lm) (x := (f (A + 2) lm)) dX12_laysStep_37 (shM_k2 hs) (shM_n2 hs) (by omega) (by omega) ((zu_nn (by omega)).trans (rfl)) ?_
  refine n_iconst dX12_laysStep_38 (by decide) (fun r38 e38 => ?_)
  refine n_iadd dX12_laysStep_39 (by omega) (fun r39 e39 => ?_)
  refine m_iast (k := lm) dX12_laysStep_40 (shM_k2 hs) (shM_n2 hs) (by omega) (by omega) ?_
  refine r_vret dX12_laysStep_41 rfl (Nat.le_of_ble_eq_true rfl) (Nat.le_of_ble_eq_true rfl) ?_
  exact hQ _ (frM_zr (frM_zr frM_rf (by decide) (by decide) (by decide)) (by decide) (by decide) (by decide)) (by rw [zu_at]; omega) (by rw [zu_ni (by omega)]; exact zu_at) (fun i h1 h2 => by rw [zu_ni h1, zu_ni h2])
set_option maxHeartbeats 4000000 in
set_option maxRecDepth 100000 in
theorem s_X12_beginsLaw {g : zGT} {w : zW} {f : Nat → Nat → Int32} {j : Nat → Nat → Int64} {A : Nat} {B : Nat → Nat} {n : Nat} {x y : Int32} {p lm la : Nat} {Q : Option Value → zW → Prop} {QX : String → zW → Prop} (G : zGok g) (hs : shM w A) (htp : tpM B n f A) (hps : psM B n f A 0 p) (hx : x.toInt = (lm : Nat)) (hy : y.toInt = (la : Nat)) (h5 : lm ≤ 5) (hQ : ∀ f2_z, frM A [2] [8, 9, 10, 11, 12, 13, 17, 18] f f2_z → (f2_z A 17).toInt = (lm : Nat) → (f2_z A 18).toInt = (la : Nat) → (f2_z (A + 2) lm).toInt = 0 → (∀ i, i ≠ lm → f2_z (A + 2) i = f (A + 2) i) → (tkP B n p = 58 → psM B n f2_z A 0 (nxP B n p)) → (tkP B n p ≠ 58 → psM B n f2_z A (baP B n p) p) → Q none (zM w f2_z j)) : zC g 5 yX12_beginsLaw cX12_beginsLaw 3 none [.ref A, .int x, .int y] (zM w f j) (0, 0) Q QX := by
  refine zC_of G (by decide +kernel) (Nat.le_of_ble_eq_true rfl) ?_
  refine r_aloadR0 dX12_beginsLaw_0 ?_
  refine r_iload1 dX12_beginsLaw_1 ?_
  refine m_putI zf_RX12_148 (by intro C T N h_z; cases h_z; rfl) rfl dX12_beginsLaw_2 (shM_k hs) ?_
  obtain ⟨g2, hg2⟩ : ∃ g9, g9 = zu f A 17 x := ⟨_, rfl⟩
  rw [← hg2]
  have og2 : frM A [] [17] f g2 := by rw [hg2]; exact frM_zk frM_rf (by decide)
  have vg2 : g2 A 17 = x := by rw [hg2]; exact zu_at
  have vt2 : (g2 A 17).toInt = x.toInt := by rw [vg2]
  refine r_aloadR0 dX12_beginsLaw_5 ?_
  refine r_iload2 dX12_beginsLaw_6 ?_
  refine m_putI zf_RX12_145 (by intro C T N h_z; cases h_z; rfl) rfl dX12_beginsLaw_7 (shM_k hs) ?_
  obtain ⟨g7, hg7⟩ : ∃ g9, g9 = zu g2 A 18 y := ⟨_, rfl⟩
  rw [← hg7]
  have og7 : frM A [] [18] g2 g7 := by rw [hg7]; exact frM_zk frM_rf (by decide)
  have vg7 : g7 A 18 = y := by rw [hg7]; exact zu_at
  have vt7 : (g7 A 18).toInt = y.toInt := by rw [vg7]
  refine r_aloadR0 dX12_beginsLaw_10 ?_
  refine m_getR (q := (A + 2)) zf_RX12_13 rfl dX12_beginsLaw_11 (shM_k hs) (shM_p2 hs) ?_
  refine r_iload1 dX12_beginsLaw_14 ?_
  refine n_iconst dX12_beginsLaw_15 (by decide) (fun r15 e15_z => ?_)
  refine m_iast (k := lm) dX12_beginsLaw_16 (shM_k2 hs) (shM_n2 hs) (by omega) (by omega) ?_
  obtain ⟨g16, hg16⟩ : ∃ g9, g9 = zu g7 (A + 2) lm r15 := ⟨_, rfl⟩
  rw [← hg16]
  have og16 : frM A [2] [] g7 g16 := by rw [hg16]; exact frM_zr frM_rf (by decide) (by decide) (by decide)
  have vg16 : g16 (A + 2) lm = r15 := by rw [hg16]; exact zu_at
  have wg16 : ∀ i9_z, i9_z ≠ lm → g16 (A + 2) i9_z = g7 (A + 2) i9_z := by intro i9_z h9; rw [hg16]; exact zu_ni h9
  have ofG : frM A [2] [17, 18] f g16 := frM_tr (frM_tr (frM_su og2 (by decide) (by decide)) (frM_su og7 (by decide) (by decide))) (frM_su og16 (by decide) (by decide))
  refine r_aloadR0 dX12_beginsLaw_17 ?_
  refine n_bipush dX12_beginsLaw_18 (by decide) (fun r18 e18_z => ?_)
  refine q_callV1 zm_RX12_151 dX12_beginsLaw_20 (shM_k hs) (by decide) rfl (Nat.le_of_ble_eq_true rfl) (Nat.le_of_ble_eq_true rfl) (Nat.le_of_ble_eq_true rfl) (Nat.le_of_ble_eq_true rfl) (Nat.le_of_ble_eq_true rfl) (s_X12_mustSign (B := B) (n := n) (p := p) (c := 58) G hs (tpM_of htp (ofG.2.1 5 (by decide) (by decide) (by decide)) (ofG.2.2 7 (by decide))) (psM_of hps (ofG.2.2 8 (by decide)) (ofG.2.2 9 (by decide)) (ofG.2.2 10 (by decide)) (ofG.2.2 11 (by decide)) (ofG.2.2 12 (by decide)) (ofG.2.2 13 (by decide))) e18_z (by decide) (fun g20 o20 a20 b20 => ?_))
  refine r_vret dX12_beginsLaw_23 rfl (Nat.le_of_ble_eq_true rfl) (Nat.le_of_ble_eq_true rfl) ?_
  refine hQ _ (frM_tr (frM_su ofG (by decide) (by decide)) (frM_su o20 (by decide) (by decide))) ?_ ?_ ?_ (fun i hi_z => ?_) a20 b20
  · rw [o20.2.2 17 (by decide), og16.2.2 17 (by decide), og7.2.2 17 (by decide), vt2]; exact hx
  · rw [o20.2.2 18 (by decide), og16.2.2 18 (by decide), vt7]; exact hy
  · rw [o20.2.1 2 (by decide) (by decide) (by decide), vg16]; exact e15_z
  · rw [o20.2.1 2 (by decide) (by decide) (by decide), wg16 i hi_z, og7.2.1 2 (by decide) (by decide) (by decide), og2.2.1 2 (by decide) (by decide) (by decide)]
set_option maxHeartbeats 4000000 in
set_option maxRecDepth 100000 in
theorem s_X12_goesIn {g : zGT} {w : zW} {f : Nat → Nat → Int32} {j : Nat → Nat → Int64} {A : Nat} {B : Nat → Nat} {n : Nat} {p d : Nat} {Q : Option Value → zW → Prop} {QX : String → zW → Prop} (G : zGok g) (hs : shM w A) (htp : tpM B n f A) (hps : psM B n f A 0 p) (hd_z : (f A 16).toInt = (d : Nat)) (hd6 : d ≤ 6) (hne : tkP B n p ≠ 1) (hQ : ∀ f2_z, frM A [] [8, 9, 10, 11, 12, 13, 16] f f2_z → (f2_z A 16).toInt = ((d + 1 : Nat) : Int) → (d = 6 → psM B n f2_z A 4 p) → (d ≠ 6 → psM B n f2_z A 0 (nxP B n p)) → Q none (zM w f2_z j)) : zC g 4 yX12_goesIn cX12_goesIn 1 none [.ref A] (zM w f j) (0, 0) Q QX := by
  refine zC_of G (by decide +kernel) (Nat.le_of_ble_eq_true rfl) ?_
  have ht := hps.2.1 rfl
  have h12 := hps.1
  have hte := teP_le (B := B) ht.1
  by_cases hz6 : d = 6
  · refine r_aloadR0 dX12_goesIn_0 ?_
    refine m_getV (x := (f A 16)) zf_RX12_154 rfl dX12_goesIn_1 (shM_k hs) (rfl) ?_
    refine n_bipush dX12_goesIn_4 (by decide) (fun r4 e4_z => ?_)
    refine t_icne (t := 14) dX12_goesIn_6 (by decide) (fun h6 => False.elim (by omega)) (fun h6 => ?_)
    refine r_aloadR0 dX12_goesIn_9 ?_
    refine n_iconst dX12_goesIn_10 (by decide) (fun r10 e10_z => ?_)
    refine q_callV1 zm_RX12_134 dX12_goesIn_11 (shM_k hs) (by decide) rfl (Nat.le_of_ble_eq_true rfl) (Nat.le_of_ble_eq_true rfl) (Nat.le_of_ble_eq_true rfl) (Nat.le_of_ble_eq_true rfl) (Nat.le_of_ble_eq_true rfl) (s_X12_blames (k := 4) G hs h12 ht e10_z (fun g11 o11 a11 b11 => ?_))
    refine r_aloadR0 dX12_goesIn_14 ?_
    have w16 : (g11 A 16).toInt = (d : Nat) := by rw [o11.2.2 16 (by decide)]; exact hd_z
    refine r_dup dX12_goesIn_15 rfl ?_
    refine m_getV (x := (g11 A 16)) zf_RX12_154 rfl dX12_goesIn_16 (shM_k hs) (rfl) ?_
    refine n_iconst dX12_goesIn_19 (by decide) (fun r19 e19_z => ?_)
    refine n_iadd dX12_goesIn_20 (by omega) (fun r20 e20 => ?_)
    refine m_putI zf_RX12_154 (by intro C T N h_z; cases h_z; rfl) rfl dX12_goesIn_21 (shM_k hs) ?_
    obtain ⟨g21, hg21⟩ : ∃ g9, g9 = zu g11 A 16 r20 := ⟨_, rfl⟩
    rw [← hg21]
    have og21 : frM A [] [16] g11 g21 := by rw [hg21]; exact frM_zk frM_rf (by decide)
    have vg21 : g21 A 16 = r20 := by rw [hg21]; exact zu_at
    have vt21 : (g21 A 16).toInt = r20.toInt := by rw [vg21]
    refine r_aloadR0 dX12_goesIn_24 ?_
    have w12 : (g21 A 12).toInt = 4 := by rw [og21.2.2 12 (by decide), a11, if_neg hne]; rfl
    refine m_getV (x := (g21 A 12)) zf_RX12_112 rfl dX12_goesIn_25 (shM_k hs) (rfl) ?_
    refine t_ifne (t := 35) dX12_goesIn_28 (by decide) (fun h28 => ?_) (fun h28 => False.elim (by omega))
    refine r_vret dX12_goesIn_35 rfl (Nat.le_of_ble_eq_true rfl) (Nat.le_of_ble_eq_true rfl) ?_
    exact hQ _ (frM_tr (frM_su o11 (by decide) (by decide)) (frM_su og21 (by decide) (by decide))) (by rw [vt21]; omega) (fun _ => ⟨w12, fun h_z => absurd h_z (by decide), fun _ => by rw [og21.2.2 13 (by decide)]; exact b11⟩) (fun h_z => absurd hz6 h_z)
  · refine r_aloadR0 dX12_goesIn_0 ?_
    refine m_getV (x := (f A 16)) zf_RX12_154 rfl dX12_goesIn_1 (shM_k hs) (rfl) ?_
    refine n_bipush dX12_goesIn_4 (by decide) (fun r4 e4_z => ?_)
    refine t_icne (t := 14) dX12_goesIn_6 (by decide) (fun h6 => ?_) (fun h6 => False.elim (by omega))
    refine r_aloadR0 dX12_goesIn_14 ?_
    refine r_dup dX12_goesIn_15 rfl ?_
    refine m_getV (x := (f A 16)) zf_RX12_154 rfl dX12_goesIn_16 (shM_k hs) (rfl) ?_
    refine n_iconst dX12_goesIn_19 (by decide) (fun r19 e19_z => ?_)
    refine n_iadd dX12_goesIn_20 (by omega) (fun r20 e20 => ?_)
    refine m_putI zf_RX12_154 (by intro C T N h_z; cases h_z; rfl) rfl dX12_goesIn_21 (shM_k hs) ?_
    obtain ⟨g21, hg21⟩ : ∃ g9, g9 = zu f A 16 r20 := ⟨_, rfl⟩
    rw [← hg21]
    have og21 : frM A [] [16] f g21 := by rw [hg21]; exact frM_zk frM_rf (by decide)
    have vg21 : g21 A 16 = r20 := by rw [hg21]; exact zu_at
    have vt21 : (g21 A 16).toInt = r20.toInt := by rw [vg21]
    refine r_aloadR0 dX12_goesIn_24 ?_
    have w12 : (g21 A 12).toInt = 0 := by rw [og21.2.2 12 (by decide)]; exact h12
    refine m_getV (x := (g21 A 12)) zf_RX12_112 rfl dX12_goesIn_25 (shM_k hs) (rfl) ?_
    refine t_ifne (t := 35) dX12_goesIn_28 (by decide) (fun h28 => False.elim (by omega)) (fun h28 => ?_)
    refine r_aloadR0 dX12_goesIn_31 ?_
    refine q_callV0 zm_RX12_131 dX12_goesIn_32 (shM_k hs) (by decide) rfl (Nat.le_of_ble_eq_true rfl) (Nat.le_of_ble_eq_true rfl) (Nat.le_of_ble_eq_true rfl) (Nat.le_of_ble_eq_true rfl) (Nat.le_of_ble_eq_true rfl) (s_X12_readsOn (B := B) (n := n) (p := teP B n p) G hs (tpM_of htp (og21.2.1 5 (by decide) (by decide) (by decide)) (og21.2.2 7 (by decide))) (by rw [og21.2.2 8 (by decide)]; exact ht.2.1) hte (fun g32 o32 t32 => ?_))
    refine r_vret dX12_goesIn_35 rfl (Nat.le_of_ble_eq_true rfl) (Nat.le_of_ble_eq_true rfl) ?_
    exact hQ _ (frM_tr (frM_su og21 (by decide) (by decide)) (frM_su o32 (by decide) (by decide))) (by rw [o32.2.2 16 (by decide), vt21]; omega) (fun h_z => absurd h_z hz6) (fun _ => ⟨by rw [o32.2.2 12 (by decide)]; exact w12, fun _ => t32, fun h_z => absurd rfl h_z⟩)
set_option maxHeartbeats 4000000 in
set_option maxRecDepth 100000 in
theorem s_X12_number_x {g : zGT} {w : zW} {f : Nat → Nat → Int32} {j : Nat → Nat → Int64} {A : Nat} {x y : Int32} {Q : Option Value → zW → Prop} {QX : String → zW → Prop} (G : zGok g) (hs : shM w A) (hb_z : (f A 12).toInt ≠ 0) (hx : x.toInt = 0) (hQ : ∀ r : Int32, r.toInt = 0 → Q (some (.int r)) (zM w f j)) : zC g 5 yX12_number cX12_number 4 (some .int) [.ref A, .int x, .int y] (zM w f j) (0, 0) Q QX := by
  refine zC_of G (by decide +kernel) (Nat.le_of_ble_eq_true rfl) ?_
  refine r_aloadR0 dX12_number_0 ?_
  refine m_getV (x := (f A 10)) zf_RX12_92 rfl dX12_number_1 (shM_k hs) (rfl) ?_
  refine n_iconst dX12_number_4 (by decide) (fun r4 e4_z => ?_)
  refine t_iceq (t := 16) dX12_number_5 (by decide) (fun h5 => ?_) (fun h5 => ?_)
  · refine r_aloadR0 dX12_number_16 ?_
    refine m_getV (x := (f A 11)) zf_RX12_106 rfl dX12_number_17 (shM_k hs) (rfl) ?_
    refine n_i2l dX12_number_20 (fun r20 e20 => ?_)
    refine r_iload1 dX12_number_21 ?_
    refine n_i2l dX12_number_22 (fun r22 e22_z => ?_)
    refine r_iload2 dX12_number_23 ?_
    refine n_i2l dX12_number_24 (fun r24 e24_z => ?_)
    refine q_callS3 zm_RX12_138 dX12_number_25 (Nat.le_of_ble_eq_true rfl) (Nat.le_of_ble_eq_true rfl) (Nat.le_of_ble_eq_true rfl) (Nat.le_of_ble_eq_true rfl) (Nat.le_of_ble_eq_true rfl) (s_X12_within G  (fun r25 e25_z => ?_))
    refine t_ifne (t := 36) dX12_number_28 (by decide) (fun h28 => ?_) (fun h28 => ?_)
    · refine r_aloadR0 dX12_number_36 ?_
      refine m_getV (x := (f A 11)) zf_RX12_106 rfl dX12_number_37 (shM_k hs) (rfl) ?_
      refine r_istore3 dX12_number_40 rfl ?_
      refine r_aloadR0 dX12_number_41 ?_
      refine m_getV (x := (f A 12)) zf_RX12_112 rfl dX12_number_42 (shM_k hs) (rfl) ?_
      refine t_ifne (t := 52) dX12_number_45 (by decide) (fun h45 => ?_) (fun h45 => False.elim (by omega))
      refine r_aloadR0 dX12_number_52 ?_
      refine m_getV (x := (f A 12)) zf_RX12_112 rfl dX12_number_53 (shM_k hs) (rfl) ?_
      refine t_ifne (t := 63) dX12_number_56 (by decide) (fun h56 => ?_) (fun h56 => False.elim (by omega))
      refine r_iload1 dX12_number_63 ?_
      refine r_iret dX12_number_64 rfl (Nat.le_of_ble_eq_true rfl) (Nat.le_of_ble_eq_true rfl) ?_
      exact hQ _ (by omega)
    · refine r_aloadR0 dX12_number_31 ?_
      refine n_iconst dX12_number_32 (by decide) (fun r32 e32 => ?_)
      refine q_callV1 zm_RX12_134 dX12_number_33 (shM_k hs) (by decide) rfl (Nat.le_of_ble_eq_true rfl) (Nat.le_of_ble_eq_true rfl) (Nat.le_of_ble_eq_true rfl) (Nat.le_of_ble_eq_true rfl) (Nat.le_of_ble_eq_true rfl) (s_X12_blames_x G hs hb_z ?_)
      refine r_aloadR0 dX12_number_36 ?_
      refine m_getV (x := (f A 11)) zf_RX12_106 rfl dX12_number_37 (shM_k hs) (rfl) ?_
      refine r_istore3 dX12_number_40 rfl ?_
      refine r_aloadR0 dX12_number_41 ?_
      refine m_getV (x := (f A 12)) zf_RX12_112 rfl dX12_number_42 (shM_k hs) (rfl) ?_
      refine t_ifne (t := 52) dX12_number_45 (by decide) (fun h45 => ?_) (fun h45 => False.elim (by omega))
      refine r_aloadR0 dX12_number_52 ?_
      refine m_getV (x := (f A 12)) zf_RX12_112 rfl dX12_number_53 (shM_k hs) (rfl) ?_
      refine t_ifne (t := 63) dX12_number_56 (by decide) (fun h56 => ?_) (fun h56 => False.elim (by omega))
      refine r_iload1 dX12_number_63 ?_
      refine r_iret dX12_number_64 rfl (Nat.le_of_ble_eq_true rfl) (Nat.le_of_ble_eq_true rfl) ?_
      exact hQ _ (by omega)
  · refine r_aloadR0 dX12_number_8 ?_
    refine n_iconst dX12_number_9 (by decide) (fun r9 e9_z => ?_)
    refine q_callV1 zm_RX12_134 dX12_number_10 (shM_k hs) (by decide) rfl (Nat.le_of_ble_eq_true rfl) (Nat.le_of_ble_eq_true rfl) (Nat.le_of_ble_eq_true rfl) (Nat.le_of_ble_eq_true rfl) (Nat.le_of_ble_eq_true rfl) (s_X12_blames_x G hs hb_z ?_)
    refine r_goto (t := 36) dX12_number_13 (by decide) ?_
    refine r_aloadR0 dX12_number_36 ?_
    refine m_getV (x := (f A 11)) zf_RX12_106 rfl dX12_number_37 (shM_k hs) (rfl) ?_
    refine r_istore3 dX12_number_40 rfl ?_
    refine r_aloadR0 dX12_number_41 ?_
    refine m_getV (x := (f A 12)) zf_RX12_112 rfl dX12_number_42 (shM_k hs) (rfl) ?_
    refine t_ifne (t := 52) dX12_number_45 (by decide) (fun h45 => ?_) (fun h45 => False.elim (by omega))
    refine r_aloadR0 dX12_number_52 ?_
    refine m_getV (x := (f A 12)) zf_RX12_112 rfl dX12_number_53 (shM_k hs) (rfl) ?_
    refine t_ifne (t := 63) dX12_number_56 (by decide) (fun h56 => ?_) (fun h56 => False.elim (by omega))
    refine r_iload1 dX12_number_63 ?_
    refine r_iret dX12_number_64 rfl (Nat.le_of_ble_eq_true rfl) (Nat.le_of_ble_eq_true rfl) ?_
    exact hQ _ (by omega)
set_option maxHeartbeats 4000000 in
set_option maxRecDepth 100000 in
theorem s_X12_number {g : zGT} {w : zW} {f : Nat → Nat → Int32} {j : Nat → Nat → Int64} {A : Nat} {B : Nat → Nat} {n : Nat} {x y : Int32} {p h_z : Nat} {Q : Option Value → zW → Prop} {QX : String → zW → Prop} (G : zGok g) (hs : shM w A) (htp : tpM B n f A) (hps : psM B n f A 0 p) (hx : x.toInt = 0) (hy : y.toInt = (h_z : Nat)) (hQ : ∀ (r : Int32) f2_z, frM A [] [8, 9, 10, 11, 12, 13] f f2_z → psM B n f2_z A (nuH B n h_z p).1 (nuH B n h_z p).2.1 → ((nuH B n h_z p).1 = 0 → r.toInt = ((nuH B n h_z p).2.2 : Nat)) → ((nuH B n h_z p).1 ≠ 0 → r.toInt = 0) → Q (some (.int r)) (zM w f2_z j)) : zC g 5 yX12_number cX12_number 4 (some .int) [.ref A, .int x, .int y] (zM w f j) (0, 0) Q QX := by
  refine zC_of G (by decide +kernel) (Nat.le_of_ble_eq_true rfl) ?_
  have ht := hps.2.1 rfl
  have h10 := ht.2.2.2.1
  have h12 := hps.1
  have hte := teP_le (B := B) ht.1
  have hrk := rk2 (B := B) (n := n) (s := p)
  by_cases h1 : tkP B n p = 2
  · have h11 := ht.2.2.2.2 h1
    have h3 := hrk.mpr h1
    by_cases h2 : h_z < nmP B n p
    · have hv : nuH B n h_z p = (3, p, 0) := by unfold nuH; rw [if_pos h1, if_pos h2]
      rw [hv] at hQ
      refine r_aloadR0 dX12_number_0 ?_
      refine m_getV (x := (f A 10)) zf_RX12_92 rfl dX12_number_1 (shM_k hs) (rfl) ?_
      refine n_iconst dX12_number_4 (by decide) (fun r4 e4_z => ?_)
      refine t_iceq (t := 16) dX12_number_5 (by decide) (fun h5 => ?_) (fun h5 => False.elim (by omega))
      refine r_aloadR0 dX12_number_16 ?_
      refine m_getV (x := (f A 11)) zf_RX12_106 rfl dX12_number_17 (shM_k hs) (rfl) ?_
      refine n_i2l dX12_number_20 (fun r20 e20 => ?_)
      refine r_iload1 dX12_number_21 ?_
      refine n_i2l dX12_number_22 (fun r22 e22_z => ?_)
      refine r_iload2 dX12_number_23 ?_
      refine n_i2l dX12_number_24 (fun r24 e24_z => ?_)
      refine q_callS3 zm_RX12_138 dX12_number_25 (Nat.le_of_ble_eq_true rfl) (Nat.le_of_ble_eq_true rfl) (Nat.le_of_ble_eq_true rfl) (Nat.le_of_ble_eq_true rfl) (Nat.le_of_ble_eq_true rfl) (s_X12_within G  (fun r25 e25_z => ?_))
      refine t_ifne (t := 36) dX12_number_28 (by decide) (fun h28 => False.elim (by omega)) (fun h28 => ?_)
      refine r_aloadR0 dX12_number_31 ?_
      refine n_iconst dX12_number_32 (by decide) (fun r32 e32 => ?_)
      refine q_callV1 zm_RX12_134 dX12_number_33 (shM_k hs) (by decide) rfl (Nat.le_of_ble_eq_true rfl) (Nat.le_of_ble_eq_true rfl) (Nat.le_of_ble_eq_true rfl) (Nat.le_of_ble_eq_true rfl) (Nat.le_of_ble_eq_true rfl) (s_X12_blames (k := 3) G hs h12 ht e32 (fun g33 o33 a33 b33 => ?_))
      have w12 : (g33 A 12).toInt = 3 := by rw [a33, if_neg (by omega)]; rfl
      refine r_aloadR0 dX12_number_36 ?_
      refine m_getV (x := (g33 A 11)) zf_RX12_106 rfl dX12_number_37 (shM_k hs) (rfl) ?_
      refine r_istore3 dX12_number_40 rfl ?_
      refine r_aloadR0 dX12_number_41 ?_
      refine m_getV (x := (g33 A 12)) zf_RX12_112 rfl dX12_number_42 (shM_k hs) (rfl) ?_
      refine t_ifne (t := 52) dX12_number_45 (by decide) (fun h45 => ?_) (fun h45 => False.elim (by omega))
      refine r_aloadR0 dX12_number_52 ?_
      refine m_getV (x := (g33 A 12)) zf_RX12_112 rfl dX12_number_53 (shM_k hs) (rfl) ?_
      refine t_ifne (t := 63) dX12_number_56 (by decide) (fun h56 => ?_) (fun h56 => False.elim (by omega))
      refine r_iload1 dX12_number_63 ?_
      refine r_iret dX12_number_64 rfl (Nat.le_of_ble_eq_true rfl) (Nat.le_of_ble_eq_true rfl) ?_
      exact hQ _ _ (frM_su o33 (by decide) (by decide)) ⟨w12, fun h_z => absurd (show (3 : Nat) = 0 from h_z) (by decide), fun _ => b33⟩ (fun h_z => absurd (show (3 : Nat) = 0 from h_z) (by decide)) (fun _ => by omega)
    · have hv : nuH B n h_z p = (0, nxP B n p, nmP B n p) := by unfold nuH; rw [if_pos h1, if_neg h2]
      rw [hv] at hQ
      refine r_aloadR0 dX12_number_0 ?_
      refine m_getV (x := (f A 10)) zf_RX12_92 rfl dX12_number_1 (shM_k hs) (rfl) ?_
      refine n_iconst dX12_number_4 (by decide) (fun r4 e4_z => ?_)
      refine t_iceq (t := 16) dX12_number_5 (by decide) (fun h5 => ?_) (fun h5 => False.elim (by omega))
      refine r_aloadR0 dX12_number_16 ?_
      refine m_getV (x := (f A 11)) zf_RX12_106 rfl dX12_number_17 (shM_k hs) (rfl) ?_
      refine n_i2l dX12_number_20 (fun r20 e20 => ?_)
      refine r_iload1 dX12_number_21 ?_
      refine n_i2l dX12_number_22 (fun r22 e22_z => ?_)
      refine r_iload2 dX12_number_23 ?_
      refine n_i2l dX12_number_24 (fun r24 e24_z => ?_)
      refine q_callS3 zm_RX12_138 dX12_number_25 (Nat.le_of_ble_eq_true rfl) (Nat.le_of_ble_eq_true rfl) (Nat.le_of_ble_eq_true rfl) (Nat.le_of_ble_eq_true rfl) (Nat.le_of_ble_eq_true rfl) (s_X12_within G  (fun r25 e25_z => ?_))
      refine t_ifne (t := 36) dX12_number_28 (by decide) (fun h28 => ?_) (fun h28 => False.elim (by omega))
      refine r_aloadR0 dX12_number_36 ?_
      refine m_getV (x := (f A 11)) zf_RX12_106 rfl dX12_number_37 (shM_k hs) (rfl) ?_
      refine r_istore3 dX12_number_40 rfl ?_
      refine r_aloadR0 dX12_number_41 ?_
      refine m_getV (x := (f A 12)) zf_RX12_112 rfl dX12_number_42 (shM_k hs) (rfl) ?_
      refine t_ifne (t := 52) dX12_number_45 (by decide) (fun h45 => False.elim (by omega)) (fun h45 => ?_)
      refine r_aloadR0 dX12_number_48 ?_
      refine q_callV0 zm_RX12_131 dX12_number_49 (shM_k hs) (by decide) rfl (Nat.le_of_ble_eq_true rfl) (Nat.le_of_ble_eq_true rfl) (Nat.le_of_ble_eq_true rfl) (Nat.le_of_ble_eq_true rfl) (Nat.le_of_ble_eq_true rfl) (s_X12_readsOn (p := teP B n p) G hs htp ht.2.1 hte (fun g49 o49 t49 => ?_))
      have w12 : (g49 A 12).toInt = 0 := by rw [o49.2.2 12 (by decide)]; exact h12
      refine r_aloadR0 dX12_number_52 ?_
      refine m_getV (x := (g49 A 12)) zf_RX12_112 rfl dX12_number_53 (shM_k hs) (rfl) ?_
      refine t_ifne (t := 63) dX12_number_56 (by decide) (fun h56 => False.elim (by omega)) (fun h56 => ?_)
      refine r_iload3 dX12_number_59 ?_
      refine r_goto (t := 64) dX12_number_60 (by decide) ?_
      refine r_iret dX12_number_64 rfl (Nat.le_of_ble_eq_true rfl) (Nat.le_of_ble_eq_true rfl) ?_
      exact hQ _ _ (frM_su o49 (by decide) (by decide)) ⟨w12, fun _ => t49, fun h_z => absurd rfl h_z⟩ (fun _ => by omega) (fun h_z => absurd rfl h_z)
  · have h3 : rkP B n p ≠ 2 := fun h_z => h1 (hrk.mp h_z)
    have hv : nuH B n h_z p = (baP B n p, p, 0) := by unfold nuH; rw [if_neg h1]
    rw [hv] at hQ
    have hba := ba_bd (B := B) (n := n) (s := p)
    refine r_aloadR0 dX12_number_0 ?_
    refine m_getV (x := (f A 10)) zf_RX12_92 rfl dX12_number_1 (shM_k hs) (rfl) ?_
    refine n_iconst dX12_number_4 (by decide) (fun r4 e4_z => ?_)
    refine t_iceq (t := 16) dX12_number_5 (by decide) (fun h5 => False.elim (by omega)) (fun h5 => ?_)
    refine r_aloadR0 dX12_number_8 ?_
    refine n_iconst dX12_number_9 (by decide) (fun r9 e9_z => ?_)
    refine q_callV1 zm_RX12_134 dX12_number_10 (shM_k hs) (by decide) rfl (Nat.le_of_ble_eq_true rfl) (Nat.le_of_ble_eq_true rfl) (Nat.le_of_ble_eq_true rfl) (Nat.le_of_ble_eq_true rfl) (Nat.le_of_ble_eq_true rfl) (s_X12_blames (k := 2) G hs h12 ht e9_z (fun g10 o10 a10 b10 => ?_))
    have hpb := ps_ba a10 b10
    have hp12 := hpb.1
    refine r_goto (t := 36) dX12_number_13 (by decide) ?_
    refine r_aloadR0 dX12_number_36 ?_
    refine m_getV (x := (g10 A 11)) zf_RX12_106 rfl dX12_number_37 (shM_k hs) (rfl) ?_
    refine r_istore3 dX12_number_40 rfl ?_
    refine r_aloadR0 dX12_number_41 ?_
    refine m_getV (x := (g10 A 12)) zf_RX12_112 rfl dX12_number_42 (shM_k hs) (rfl) ?_
    refine t_ifne (t := 52) dX12_number_45 (by decide) (fun h45 => ?_) (fun h45 => False.elim (by omega))
    refine r_aloadR0 dX12_number_52 ?_
    refine m_getV (x := (g10 A 12)) zf_RX12_112 rfl dX12_number_53 (shM_k hs) (rfl) ?_
    refine t_ifne (t := 63) dX12_number_56 (by decide) (fun h56 => ?_) (fun h56 => False.elim (by omega))
    refine r_iload1 dX12_number_63 ?_
    refine r_iret dX12_number_64 rfl (Nat.le_of_ble_eq_true rfl) (Nat.le_of_ble_eq_true rfl) ?_
    exact hQ _ _ (frM_su o10 (by decide) (by decide)) hpb (fun h_z => absurd h_z hba.1) (fun _ => by omega)
