/-! the reference: what it answers over rows: counts -/
def mbI (f : Nat → Nat → Int32) (A : Nat) : Prop := ∀ i, i < 65536 → (f (A + 15) i).toInt ≤ (f A 37).toInt
def qM (A : Nat) (f f2_z : Nat → Nat → Int32) (j j2 : Nat → Nat → Int64) (n : Nat) : Prop := frM A [6, 7, 8, 9, 11, 12, 13, 14, 15, 16, 17] [4, 28, 29, 30, 31, 32, 33, 34, 37] f f2_z ∧ (∀ q, q ≠ A + 14 → j2 q = j q) ∧ (mbI f A → mbI f2_z A) ∧ (f A 37).toInt ≤ (f2_z A 37).toInt ∧ (f2_z A 37).toInt ≤ (f A 37).toInt + (n : Nat)
theorem qM_q {A : Nat} {f f2_z : Nat → Nat → Int32} {j : Nat → Nat → Int64} (h_z : frM A [6, 7, 8, 9, 13, 16, 17] [4, 33, 34] f f2_z) : qM A f f2_z j j 0 := by
  have e15_z := h_z.2.1 15 (by decide) (by decide) (by decide)
  have e37 := h_z.2.2 37 (by decide)
  exact ⟨frM_su h_z (by decide) (by decide), fun _ _ => rfl, fun hm_z i hi_z => by rw [e15_z, e37]; exact hm_z i hi_z, by rw [e37]; exact Int.le_refl _, by rw [e37]; omega⟩
theorem qM_ga {A d : Nat} {f g f2_z : Nat → Nat → Int32} {j j2 : Nat → Nat → Int64} (h_z : frM A [6, 7, 8, 9, 13, 16, 17] [4, 33, 34] f g) (h2 : gaF A d g f2_z j j2) (h37 : (f2_z A 37).toInt = (g A 37).toInt + 1) : qM A f f2_z j j2 1 := by
  have e15_z := h_z.2.1 15 (by decide) (by decide) (by decide)
  have e37 := h_z.2.2 37 (by decide)
  refine ⟨frM_tr (frM_su h_z (by decide) (by decide)) (frM_su h2.1 (by decide) (by decide)), h2.2.1, fun hm_z i hi_z => ?_, by rw [h37, e37]; omega, by rw [h37, e37]; omega⟩
  have hm9 := hm_z i hi_z
  rcases h2.2.2.2 i with e | e
  · rw [e, e15_z, h37, e37]; omega
  · rw [e, h37]; exact Int.le_refl _
theorem qM_tr {A n m : Nat} {f f2_z f3_z : Nat → Nat → Int32} {j j2 j3 : Nat → Nat → Int64} (h_z : qM A f f2_z j j2 n) (h2 : qM A f2_z f3_z j2 j3 m) : qM A f f3_z j j3 (n + m) := ⟨frM_tr h_z.1 h2.1, fun q hq => (h2.2.1 q hq).trans (h_z.2.1 q hq), fun e => h2.2.2.1 (h_z.2.2.1 e), by have := h_z.2.2.2.1; have := h2.2.2.2.1; omega, by have := h_z.2.2.2.2; have := h2.2.2.2.2; omega⟩
theorem invC_0 {A : Nat} {T : zTb} {wh : Int} {K : Nat → Int} {p : zLy → List Nat → Bool} {cd : zLy → Nat} {f f1_z : Nat → Nat → Int32} {j : Nat → Nat → Int64} (of : frM A [] [28, 29, 30, 31, 32, 37] f f1_z) (h28 : (f1_z A 28).toInt = wh) (h30 : (f1_z A 30).toInt = 0) (h37 : (f1_z A 37).toInt = (f A 37).toInt + 1) (hm_z : mbI f A) (hK_z : ∀ i, i < tbG T → (f (A + 13) i).toInt = K i) : invC A T wh K p cd f1_z j [] := by
  refine ⟨h28, by rw [h30]; rfl, htb_0 (fun i hi_z e => ?_), fun i hi_z => by rw [of.2.1 13 (by decide) (by decide) (by decide)]; exact hK_z i hi_z, fun y hy => absurd hy (by simp)⟩
  have h9 := hm_z i hi_z
  rw [of.2.1 15 (by decide) (by decide) (by decide), h37] at e
  omega
set_option maxHeartbeats 4000000 in
set_option maxRecDepth 100000 in
theorem s_X12_rows {g : zGT} {w : zW} {f : Nat → Nat → Int32} {j : Nat → Nat → Int64} {A : Nat} {T : zTb} {x : Int32} {Q : Option Value → zW → Prop} {QX : String → zW → Prop} (G : zGok g) (hs : shM w A) (hk : ctKn (f (A + 1)) T) (hw : wfT T) (hmb : mbI f A) (htn : (f A 37).toInt < 1900000000) (hT1 : ¬ (0 ≤ x.toInt ∧ x.toInt ≤ 5) → ∀ (r : Int32) f2_z j2, qM A f f2_z j j2 0 → (f2_z A 4).toInt = 1 → Q (some (.int r)) (zM w f2_z j2)) (hQ : (0 ≤ x.toInt ∧ x.toInt ≤ 5) → ∀ (r : Int32) f2_z j2, r.toInt = ((rwF x.toInt.toNat (tbL T) []).length : Nat) → qM A f f2_z j j2 0 → (f2_z A 4).toInt = 0 → Q (some (.int r)) (zM w f2_z j2)) : zC g 17 yX12_rows cX12_rows 2 (some .int) [.ref A, .int x] (zM w f j) (0, 0) Q QX := by
  refine zC_of G (by decide +kernel) (Nat.le_of_ble_eq_true rfl) ?_
  have hk9 := hk
  obtain ⟨⟨k0_z, k1_z, k2_z, k3_z, k4_z, k5_z, k6_z⟩, km, kg, kp, kl1, kl2, kl3⟩ := hk9
  have km9 := km
  obtain ⟨m1_z, m2_z, m3_z⟩ := km9
  have hn6 : tbC T ≤ 6 := hw.2.1
  have hg4 : tbG T ≤ 4 := hw.2.2.1
  have hwm := hw.2.2.2.2.2.2.2.1
  have hml : T.2.2.1.2.length ≤ 5 := hwm.2.1
  have hm99 := hwm.2.2
  have hrt := wfT_rch hw
  have hLl : (tbL T).length ≤ 6 := Nat.le_trans (rch_cell hrt).2.2.2.2 hn6
  have hpl : T.2.2.2.length ≤ 10 := hw.2.2.2.2.2.2.2.2.1
  rcases Classical.em (0 ≤ x.toInt ∧ x.toInt ≤ 5) with hnc | hnc
  · obtain ⟨m, hm_z⟩ : ∃ m, m = x.toInt.toNat := ⟨_, rfl⟩
    rw [← hm_z] at hQ
    rcases (show m = 0 ∨ m = 1 ∨ m = 2 ∨ m = 3 ∨ m = 4 ∨ m = 5 by omega) with rfl | rfl | rfl | rfl | rfl | rfl
    · refine r_aloadR0 dX12_rows_0 ?_
      refine n_iconst dX12_rows_1 (by decide) (fun r1 e1_z => ?_)
      refine m_putI zf_RX12_77 (by intro C T N h_z; cases h_z; rfl) rfl dX12_rows_2 (shM_k hs) ?_
      obtain ⟨g2, hg2⟩ : ∃ g9, g9 = zu f A 4 r1 := ⟨_, rfl⟩
      rw [← hg2]
      have og2 : frM A [] [4] f g2 := by rw [hg2]; exact frM_zk frM_rf (by decide)
      have vt2 : (g2 A 4).toInt = r1.toInt := by rw [hg2, zu_at]
      refine r_iload1 dX12_rows_5 ?_
      refine q_callS1 zm_RX12_499 dX12_rows_6 (Nat.le_of_ble_eq_true rfl) (Nat.le_of_ble_eq_true rfl) (Nat.le_of_ble_eq_true rfl) (Nat.le_of_ble_eq_true rfl) (Nat.le_of_ble_eq_true rfl) (s_X12_isMore G (fun r6 e6_z => ?_))
      refine t_ifne (t := 18) dX12_rows_9 (by decide) (fun h9 => ?_) (fun h9 => False.elim (by omega))
      refine r_aloadR0 dX12_rows_18 ?_
      refine n_iconst dX12_rows_19 (by decide) (fun r19 e19_z => ?_)
      refine m_putI zf_RX12_443 (by intro C T N h_z; cases h_z; rfl) rfl dX12_rows_20 (shM_k hs) ?_
      obtain ⟨g20, hg20⟩ : ∃ g9, g9 = zu g2 A 28 r19 := ⟨_, rfl⟩
      rw [← hg20]
      have og20 : frM A [] [28] g2 g20 := by rw [hg20]; exact frM_zk frM_rf (by decide)
      have vt20 : (g20 A 28).toInt = r19.toInt := by rw [hg20, zu_at]
      refine r_aloadR0 dX12_rows_23 ?_
      refine n_iconst dX12_rows_24 (by decide) (fun r24 e24_z => ?_)
      refine m_putI zf_RX12_452 (by intro C T N h_z; cases h_z; rfl) rfl dX12_rows_25 (shM_k hs) ?_
      obtain ⟨g25, hg25⟩ : ∃ g9, g9 = zu g20 A 30 r24 := ⟨_, rfl⟩
      rw [← hg25]
      have og25 : frM A [] [30] g20 g25 := by rw [hg25]; exact frM_zk frM_rf (by decide)
      have vt25 : (g25 A 30).toInt = r24.toInt := by rw [hg25, zu_at]
      refine r_aloadR0 dX12_rows_28 ?_
      refine r_aloadR0 dX12_rows_29 ?_
      have of25 : frM A [] [4, 28, 30] f g25 := frM_tr (frM_su og2 (by decide) (by decide)) (frM_tr (frM_su og20 (by decide) (by decide)) (frM_su og25 (by decide) (by decide)))
      have hk25 : ctKn (g25 (A + 1)) T := by rw [of25.2.1 1 (by decide) (by decide) (by decide)]; exact hk
      refine q_callV0 zm_RX12_343 dX12_rows_30 (shM_k hs) (by decide) rfl (Nat.le_of_ble_eq_true rfl) (Nat.le_of_ble_eq_true rfl) (Nat.le_of_ble_eq_true rfl) (Nat.le_of_ble_eq_true rfl) (Nat.le_of_ble_eq_true rfl) (s_X12_now G hs hk25 hw (fun r30 g30 e30 o30 c30 => ?_))
      refine m_putI zf_RX12_419 (by intro C T N h_z; cases h_z; rfl) rfl dX12_rows_33 (shM_k hs) ?_
      obtain ⟨g33, hg33⟩ : ∃ g9, g9 = zu g30 A 29 r30 := ⟨_, rfl⟩
      rw [← hg33]
      have og33 : frM A [] [29] g30 g33 := by rw [hg33]; exact frM_zk frM_rf (by decide)
      have vt33 : (g33 A 29).toInt = r30.toInt := by rw [hg33, zu_at]
      have of33 : frM A [6] [4, 28, 29, 30] f g33 := frM_tr (frM_su of25 (by decide) (by decide)) (frM_tr (frM_su o30 (by decide) (by decide)) (frM_su og33 (by decide) (by decide)))
      have hk33 : ctKn (g33 (A + 1)) T := by rw [of33.2.1 1 (by decide) (by decide) (by decide)]; exact hk
      have hgo : goAt g33 A T.2.2.1.2.length (tbL T) [] := ⟨by rw [og33.2.1 6 (by decide) (by decide) (by decide)]; exact c30, by omega, fun i e hi_z => absurd hi_z (by simp), by simp⟩
      have hi0_z : invR A g33 j [] := ⟨by rw [og33.2.2 28 (by decide), o30.2.2 28 (by decide), og25.2.2 28 (by decide)]; omega, by rw [og33.2.2 30 (by decide), o30.2.2 30 (by decide)]; show _ = ((0 : Nat) : Int); omega⟩
      have th33 : (g33 A 4).toInt = 0 := by rw [og33.2.2 4 (by decide), o30.2.2 4 (by decide), og25.2.2 4 (by decide), og20.2.2 4 (by decide)]; omega
      refine r_aloadR0 dX12_rows_36 ?_
      refine r_aloadR0 dX12_rows_37 ?_
      refine m_getV (x := (g33 A 29)) zf_RX12_419 rfl dX12_rows_38 (shM_k hs) (rfl) ?_
      refine r_iload1 dX12_rows_41 ?_
      refine q_callV2 zm_RX12_422 dX12_rows_42 (shM_k hs) (by decide) rfl (Nat.le_of_ble_eq_true rfl) (Nat.le_of_ble_eq_true rfl) (Nat.le_of_ble_eq_true rfl) (Nat.le_of_ble_eq_true rfl) (Nat.le_of_ble_eq_true rfl) (s_X12_goes_0 (T := T) (dd := T.2.2.1.2.length) (L := tbL T) (r := []) (ps := []) (Inv := invR A) (Fin := (fun _ _ _ _ => False)) G hs hw hml (see_row G hs hw hml) hk33 hgo hrt (by show (g33 A 29).toInt = ((T.2.2.1.2.length + 0 : Nat) : Int); omega) (by omega) (by simp) invR_iv hi0_z (by rw [List.nil_append]; exact Nat.le_trans (rwF_len hrt) (by decide)) (fun r42 g42 j42 o42 c42 => ?_))
      have hrl : (g42 A 30).toInt = ((rwF 0 (tbL T) []).length : Nat) := by
        rcases c42 with ⟨_, qs, z, rest, _, h9⟩ | ⟨_, h9⟩
        · exact absurd h9 id
        · exact h9.2
      refine r_pop dX12_rows_45 rfl ?_
      refine r_aloadR0 dX12_rows_46 ?_
      refine m_getV (x := (g42 A 30)) zf_RX12_452 rfl dX12_rows_47 (shM_k hs) (rfl) ?_
      refine r_iret dX12_rows_50 rfl (Nat.le_of_ble_eq_true rfl) (Nat.le_of_ble_eq_true rfl) ?_
      refine hQ hnc _ g42 j42 hrl ⟨frM_tr (frM_su of33 (by decide) (by decide)) (frM_su o42.1 (by decide) (by decide)), o42.2.1, fun hm9 i hi_z => ?_, ?_, ?_⟩ (by rw [o42.1.2.2 4 (by decide)]; exact th33)
      · have h8 := hm9 i hi_z
        rw [o42.1.2.2 37 (by decide), of33.2.2 37 (by decide)]
        rcases o42.2.2.2.2 i with e | e
        · rw [e, of33.2.1 15 (by decide) (by decide) (by decide)]; exact h8
        · rw [e, of33.2.2 37 (by decide)]; exact Int.le_refl _
      · rw [o42.1.2.2 37 (by decide), of33.2.2 37 (by decide)]; exact Int.le_refl _
      · rw [o42.1.2.2 37 (by decide), of33.2.2 37 (by decide)]; omega
    · refine r_aloadR0 dX12_rows_0 ?_
      refine n_iconst dX12_rows_1 (by decide) (fun r1 e1_z => ?_)
      refine m_putI zf_RX12_77 (by intro C T N h_z; cases h_z; rfl) rfl dX12_rows_2 (shM_k hs) ?_
      obtain ⟨g2, hg2⟩ : ∃ g9, g9 = zu f A 4 r1 := ⟨_, rfl⟩
      rw [← hg2]
      have og2 : frM A [] [4] f g2 := by rw [hg2]; exact frM_zk frM_rf (by decide)
      have vt2 : (g2 A 4).toInt = r1.toInt := by rw [hg2, zu_at]
      refine r_iload1 dX12_rows_5 ?_
      refine q_callS1 zm_RX12_499 dX12_rows_6 (Nat.le_of_ble_eq_true rfl) (Nat.le_of_ble_eq_true rfl) (Nat.le_of_ble_eq_true rfl) (Nat.le_of_ble_eq_true rfl) (Nat.le_of_ble_eq_true rfl) (s_X12_isMore G (fun r6 e6_z => ?_))
      refine t_ifne (t := 18) dX12_rows_9 (by decide) (fun h9 => ?_) (fun h9 => False.elim (by omega))
      refine r_aloadR0 dX12_rows_18 ?_
      refine n_iconst dX12_rows_19 (by decide) (fun r19 e19_z => ?_)
      refine m_putI zf_RX12_443 (by intro C T N h_z; cases h_z; rfl) rfl dX12_rows_20 (shM_k hs) ?_
      obtain ⟨g20, hg20⟩ : ∃ g9, g9 = zu g2 A 28 r19 := ⟨_, rfl⟩
      rw [← hg20]
      have og20 : frM A [] [28] g2 g20 := by rw [hg20]; exact frM_zk frM_rf (by decide)
      have vt20 : (g20 A 28).toInt = r19.toInt := by rw [hg20, zu_at]
      refine r_aloadR0 dX12_rows_23 ?_
      refine n_iconst dX12_rows_24 (by decide) (fun r24 e24_z => ?_)
      refine m_putI zf_RX12_452 (by intro C T N h_z; cases h_z; rfl) rfl dX12_rows_25 (shM_k hs) ?_
      obtain ⟨g25, hg25⟩ : ∃ g9, g9 = zu g20 A 30 r24 := ⟨_, rfl⟩
      rw [← hg25]
      have og25 : frM A [] [30] g20 g25 := by rw [hg25]; exact frM_zk frM_rf (by decide)
      have vt25 : (g25 A 30).toInt = r24.toInt := by rw [hg25, zu_at]
      refine r_aloadR0 dX12_rows_28 ?_
      refine r_aloadR0 dX12_rows_29 ?_
      have of25 : frM A [] [4, 28, 30] f g25 := frM_tr (frM_su og2 (by decide) (by decide)) (frM_tr (frM_su og20 (by decide) (by decide)) (frM_su og25 (by decide) (by decide)))
      have hk25 : ctKn (g25 (A + 1)) T := by rw [of25.2.1 1 (by decide) (by decide) (by decide)]; exact hk
      refine q_callV0 zm_RX12_343 dX12_rows_30 (shM_k hs) (by decide) rfl (Nat.le_of_ble_eq_true rfl) (Nat.le_of_ble_eq_true rfl) (Nat.le_of_ble_eq_true rfl) (Nat.le_of_ble_eq_true rfl) (Nat.le_of_ble_eq_true rfl) (s_X12_now G hs hk25 hw (fun r30 g30 e30 o30 c30 => ?_))
      refine m_putI zf_RX12_419 (by intro C T N h_z; cases h_z; rfl) rfl dX12_rows_33 (shM_k hs) ?_
      obtain ⟨g33, hg33⟩ : ∃ g9, g9 = zu g30 A 29 r30 := ⟨_, rfl⟩
      rw [← hg33]
      have og33 : frM A [] [29] g30 g33 := by rw [hg33]; exact frM_zk frM_rf (by decide)
      have vt33 : (g33 A 29).toInt = r30.toInt := by rw [hg33, zu_at]
      have of33 : frM A [6] [4, 28, 29, 30] f g33 := frM_tr (frM_su of25 (by decide) (by decide)) (frM_tr (frM_su o30 (by decide) (by decide)) (frM_su og33 (by decide) (by decide)))
      have hk33 : ctKn (g33 (A + 1)) T := by rw [of33.2.1 1 (by decide) (by decide) (by decide)]; exact hk
      have hgo : goAt g33 A T.2.2.1.2.length (tbL T) [] := ⟨by rw [og33.2.1 6 (by decide) (by decide) (by decide)]; exact c30, by omega, fun i e hi_z => absurd hi_z (by simp), by simp⟩
      have hi0_z : invR A g33 j [] := ⟨by rw [og33.2.2 28 (by decide), o30.2.2 28 (by decide), og25.2.2 28 (by decide)]; omega, by rw [og33.2.2 30 (by decide), o30.2.2 30 (by decide)]; show _ = ((0 : Nat) : Int); omega⟩
      have th33 : (g33 A 4).toInt = 0 := by rw [og33.2.2 4 (by decide), o30.2.2 4 (by decide), og25.2.2 4 (by decide), og20.2.2 4 (by decide)]; omega
      refine r_aloadR0 dX12_rows_36 ?_
      refine r_aloadR0 dX12_rows_37 ?_
      refine m_getV (x := (g33 A 29)) zf_RX12_419 rfl dX12_rows_38 (shM_k hs) (rfl) ?_
      refine r_iload1 dX12_rows_41 ?_
      refine q_callV2 zm_RX12_422 dX12_rows_42 (shM_k hs) (by decide) rfl (Nat.le_of_ble_eq_true rfl) (Nat.le_of_ble_eq_true rfl) (Nat.le_of_ble_eq_true rfl) (Nat.le_of_ble_eq_true rfl) (Nat.le_of_ble_eq_true rfl) (s_X12_goes_1 (T := T) (dd := T.2.2.1.2.length) (L := tbL T) (r := []) (ps := []) (Inv := invR A) (Fin := (fun _ _ _ _ => False)) G hs hw hml (see_row G hs hw hml) hk33 hgo hrt (by show (g33 A 29).toInt = ((T.2.2.1.2.length + 0 : Nat) : Int); omega) (by omega) (by simp) invR_iv hi0_z (by rw [List.nil_append]; exact Nat.le_trans (rwF_len hrt) (by decide)) (fun r42 g42 j42 o42 c42 => ?_))
      have hrl : (g42 A 30).toInt = ((rwF 1 (tbL T) []).length : Nat) := by
        rcases c42 with ⟨_, qs, z, rest, _, h9⟩ | ⟨_, h9⟩
        · exact absurd h9 id
        · exact h9.2
      refine r_pop dX12_rows_45 rfl ?_
      refine r_aloadR0 dX12_rows_46 ?_
      refine m_getV (x := (g42 A 30)) zf_RX12_452 rfl dX12_rows_47 (shM_k hs) (rfl) ?_
      refine r_iret dX12_rows_50 rfl (Nat.le_of_ble_eq_true rfl) (Nat.le_of_ble_eq_true rfl) ?_
      refine hQ hnc _ g42 j42 hrl ⟨frM_tr (frM_su of33 (by decide) (by decide)) (frM_su o42.1 (by decide) (by decide)), o42.2.1, fun hm9 i hi_z => ?_, ?_, ?_⟩ (by rw [o42.1.2.2 4 (by decide)]; exact th33)
      · have h8 := hm9 i hi_z
        rw [o42.1.2.2 37 (by decide), of33.2.2 37 (by decide)]
        rcases o42.2.2.2.2 i with e | e
        · rw [e, of33.2.1 15 (by decide) (by decide) (by decide)]; exact h8
        · rw [e, of33.2.2 37 (by decide)]; exact Int.le_refl _
      · rw [o42.1.2.2 37 (by decide), of33.2.2 37 (by decide)]; exact Int.le_refl _
      · rw [o42.1.2.2 37 (by decide), of33.2.2 37 (by decide)]; omega
    · refine r_aloadR0 dX12_rows_0 ?_
      refine n_iconst dX12_rows_1 (by decide) (fun r1 e1_z => ?_)
      refine m_putI zf_RX12_77 (by intro C T N h_z; cases h_z; rfl) rfl dX12_rows_2 (shM_k hs) ?_
      obtain ⟨g2, hg2⟩ : ∃ g9, g9 = zu f A 4 r1 := ⟨_, rfl⟩
      rw [← hg2]
      have og2 : frM A [] [4] f g2 := by rw [hg2]; exact frM_zk frM_rf (by decide)
      have vt2 : (g2 A 4).toInt = r1.toInt := by rw [hg2, zu_at]
      refine r_iload1 dX12_rows_5 ?_
      refine q_callS1 zm_RX12_499 dX12_rows_6 (Nat.le_of_ble_eq_true rfl) (Nat.le_of_ble_eq_true rfl) (Nat.le_of_ble_eq_true rfl) (Nat.le_of_ble_eq_true rfl) (Nat.le_of_ble_eq_true rfl) (s_X12_isMore G (fun r6 e6_z => ?_))
      refine t_ifne (t := 18) dX12_rows_9 (by decide) (fun h9 => ?_) (fun h9 => False.elim (by omega))
      refine r_aloadR0 dX12_rows_18 ?_
      refine n_iconst dX12_rows_19 (by decide) (fun r19 e19_z => ?_)
      refine m_putI zf_RX12_443 (by intro C T N h_z; cases h_z; rfl) rfl dX12_rows_20 (shM_k hs) ?_
      obtain ⟨g20, hg20⟩ : ∃ g9, g9 = zu g2 A 28 r19 := ⟨_, rfl⟩
      rw [← hg20]
      have og20 : frM A [] [28] g2 g20 := by rw [hg20]; exact frM_zk frM_rf (by decide)
      have vt20 : (g20 A 28).toInt = r19.toInt := by rw [hg20, zu_at]
      refine r_aloadR0 dX12_rows_23 ?_
      refine n_iconst dX12_rows_24 (by decide) (fun r24 e24_z => ?_)
      refine m_putI zf_RX12_452 (by intro C T N h_z; cases h_z; rfl) rfl dX12_rows_25 (shM_k hs) ?_
      obtain ⟨g25, hg25⟩ : ∃ g9, g9 = zu g20 A 30 r24 := ⟨_, rfl⟩
      rw [← hg25]
      have og25 : frM A [] [30] g20 g25 := by rw [hg25]; exact frM_zk frM_rf (by decide)
      have vt25 : (g25 A 30).toInt = r24.toInt := by rw [hg25, zu_at]
      refine r_aloadR0 dX12_rows_28 ?_
      refine r_aloadR0 dX12_rows_29 ?_
      have of25 : frM A [] [4, 28, 30] f g25 := frM_tr (frM_su og2 (by decide) (by decide)) (frM_tr (frM_su og20 (by decide) (by decide)) (frM_su og25 (by decide) (by decide)))
      have hk25 : ctKn (g25 (A + 1)) T := by rw [of25.2.1 1 (by decide) (by decide) (by decide)]; exact hk
      refine q_callV0 zm_RX12_343 dX12_rows_30 (shM_k hs) (by decide) rfl (Nat.le_of_ble_eq_true rfl) (Nat.le_of_ble_eq_true rfl) (Nat.le_of_ble_eq_true rfl) (Nat.le_of_ble_eq_true rfl) (Nat.le_of_ble_eq_true rfl) (s_X12_now G hs hk25 hw (fun r30 g30 e30 o30 c30 => ?_))
      refine m_putI zf_RX12_419 (by intro C T N h_z; cases h_z; rfl) rfl dX12_rows_33 (shM_k hs) ?_
      obtain ⟨g33, hg33⟩ : ∃ g9, g9 = zu g30 A 29 r30 := ⟨_, rfl⟩
      rw [← hg33]
      have og33 : frM A [] [29] g30 g33 := by rw [hg33]; exact frM_zk frM_rf (by decide)
      have vt33 : (g33 A 29).toInt = r30.toInt := by rw [hg33, zu_at]
      have of33 : frM A [6] [4, 28, 29, 30] f g33 := frM_tr (frM_su of25 (by decide) (by decide)) (frM_tr (frM_su o30 (by decide) (by decide)) (frM_su og33 (by decide) (by decide)))
      have hk33 : ctKn (g33 (A + 1)) T := by rw [of33.2.1 1 (by decide) (by decide) (by decide)]; exact hk
      have hgo : goAt g33 A T.2.2.1.2.length (tbL T) [] := ⟨by rw [og33.2.1 6 (by decide) (by decide) (by decide)]; exact c30, by omega, fun i e hi_z => absurd hi_z (by simp), by simp⟩
      have hi0_z : invR A g33 j [] := ⟨by rw [og33.2.2 28 (by decide), o30.2.2 28 (by decide), og25.2.2 28 (by decide)]; omega, by rw [og33.2.2 30 (by decide), o30.2.2 30 (by decide)]; show _ = ((0 : Nat) : Int); omega⟩
      have th33 : (g33 A 4).toInt = 0 := by rw [og33.2.2 4 (by decide), o30.2.2 4 (by decide), og25.2.2 4 (by decide), og20.2.2 4 (by decide)]; omega
      refine r_aloadR0 dX12_rows_36 ?_
      refine r_aloadR0 dX12_rows_37 ?_
      refine m_getV (x := (g33 A 29)) zf_RX12_419 rfl dX12_rows_38 (shM_k hs) (rfl) ?_
      refine r_iload1 dX12_rows_41 ?_
      refine q_callV2 zm_RX12_422 dX12_rows_42 (shM_k hs) (by decide) rfl (Nat.le_of_ble_eq_true rfl) (Nat.le_of_ble_eq_true rfl) (Nat.le_of_ble_eq_true rfl) (Nat.le_of_ble_eq_true rfl) (Nat.le_of_ble_eq_true rfl) (s_X12_goes_2 (T := T) (dd := T.2.2.1.2.length) (L := tbL T) (r := []) (ps := []) (Inv := invR A) (Fin := (fun _ _ _ _ => False)) G hs hw hml (see_row G hs hw hml) hk33 hgo hrt (by show (g33 A 29).toInt = ((T.2.2.1.2.length + 0 : Nat) : Int); omega) (by omega) (by simp) invR_iv hi0_z (by rw [List.nil_append]; exact Nat.le_trans (rwF_len hrt) (by decide)) (fun r42 g42 j42 o42 c42 => ?_))
      have hrl : (g42 A 30).toInt = ((rwF 2 (tbL T) []).length : Nat) := by
        rcases c42 with ⟨_, qs, z, rest, _, h9⟩ | ⟨_, h9⟩
        · exact absurd h9 id
        · exact h9.2
      refine r_pop dX12_rows_45 rfl ?_
      refine r_aloadR0 dX12_rows_46 ?_
      refine m_getV (x := (g42 A 30)) zf_RX12_452 rfl dX12_rows_47 (shM_k hs) (rfl) ?_
      refine r_iret dX12_rows_50 rfl (Nat.le_of_ble_eq_true rfl) (Nat.le_of_ble_eq_true rfl) ?_
      refine hQ hnc _ g42 j42 hrl ⟨frM_tr (frM_su of33 (by decide) (by decide)) (frM_su o42.1 (by decide) (by decide)), o42.2.1, fun hm9 i hi_z => ?_, ?_, ?_⟩ (by rw [o42.1.2.2 4 (by decide)]; exact th33)
      · have h8 := hm9 i hi_z
        rw [o42.1.2.2 37 (by decide), of33.2.2 37 (by decide)]
        rcases o42.2.2.2.2 i with e | e
        · rw [e, of33.2.1 15 (by decide) (by decide) (by decide)]; exact h8
        · rw [e, of33.2.2 37 (by decide)]; exact Int.le_refl _
      · rw [o42.1.2.2 37 (by decide), of33.2.2 37 (by decide)]; exact Int.le_refl _
      · rw [o42.1.2.2 37 (by decide), of33.2.2 37 (by decide)]; omega
    · refine r_aloadR0 dX12_rows_0 ?_
      refine n_iconst dX12_rows_1 (by decide) (fun r1 e1_z => ?_)
      refine m_putI zf_RX12_77 (by intro C T N h_z; cases h_z; rfl) rfl dX12_rows_2 (shM_k hs) ?_
      obtain ⟨g2, hg2⟩ : ∃ g9, g9 = zu f A 4 r1 := ⟨_, rfl⟩
      rw [← hg2]
      have og2 : frM A [] [4] f g2 := by rw [hg2]; exact frM_zk frM_rf (by decide)
      have vt2 : (g2 A 4).toInt = r1.toInt := by rw [hg2, zu_at]
      refine r_iload1 dX12_rows_5 ?_
      refine q_callS1 zm_RX12_499 dX12_rows_6 (Nat.le_of_ble_eq_true rfl) (Nat.le_of_ble_eq_true rfl) (Nat.le_of_ble_eq_true rfl) (Nat.le_of_ble_eq_true rfl) (Nat.le_of_ble_eq_true rfl) (s_X12_isMore G (fun r6 e6_z => ?_))
      refine t_ifne (t := 18) dX12_rows_9 (by decide) (fun h9 => ?_) (fun h9 => False.elim (by omega))
      refine r_aloadR0 dX12_rows_18 ?_
      refine n_iconst dX12_rows_19 (by decide) (fun r19 e19_z => ?_)
      refine m_putI zf_RX12_443 (by intro C T N h_z; cases h_z; rfl) rfl dX12_rows_20 (shM_k hs) ?_
      obtain ⟨g20, hg20⟩ : ∃ g9, g9 = zu g2 A 28 r19 := ⟨_, rfl⟩
      rw [← hg20]
      have og20 : frM A [] [28] g2 g20 := by rw [hg20]; exact frM_zk frM_rf (by decide)
      have vt20 : (g20 A 28).toInt = r19.toInt := by rw [hg20, zu_at]
      refine r_aloadR0 dX12_rows_23 ?_
      refine n_iconst dX12_rows_24 (by decide) (fun r24 e24_z => ?_)
      refine m_putI zf_RX12_452 (by intro C T N h_z; cases h_z; rfl) rfl dX12_rows_25 (shM_k hs) ?_
      obtain ⟨g25, hg25⟩ : ∃ g9, g9 = zu g20 A 30 r24 := ⟨_, rfl⟩
      rw [← hg25]
      have og25 : frM A [] [30] g20 g25 := by rw [hg25]; exact frM_zk frM_rf (by decide)
      have vt25 : (g25 A 30).toInt = r24.toInt := by rw [hg25, zu_at]
      refine r_aloadR0 dX12_rows_28 ?_
      refine r_aloadR0 dX12_rows_29 ?_
      have of25 : frM A [] [4, 28, 30] f g25 := frM_tr (frM_su og2 (by decide) (by decide)) (frM_tr (frM_su og20 (by decide) (by decide)) (frM_su og25 (by decide) (by decide)))
      have hk25 : ctKn (g25 (A + 1)) T := by rw [of25.2.1 1 (by decide) (by decide) (by decide)]; exact hk
      refine q_callV0 zm_RX12_343 dX12_rows_30 (shM_k hs) (by decide) rfl (Nat.le_of_ble_eq_true rfl) (Nat.le_of_ble_eq_true rfl) (Nat.le_of_ble_eq_true rfl) (Nat.le_of_ble_eq_true rfl) (Nat.le_of_ble_eq_true rfl) (s_X12_now G hs hk25 hw (fun r30 g30 e30 o30 c30 => ?_))
      refine m_putI zf_RX12_419 (by intro C T N h_z; cases h_z; rfl) rfl dX12_rows_33 (shM_k hs) ?_
      obtain ⟨g33, hg33⟩ : ∃ g9, g9 = zu g30 A 29 r30 := ⟨_, rfl⟩
      rw [← hg33]
      have og33 : frM A [] [29] g30 g33 := by rw [hg33]; exact frM_zk frM_rf (by decide)
      have vt33 : (g33 A 29).toInt = r30.toInt := by rw [hg33, zu_at]
      have of33 : frM A [6] [4, 28, 29, 30] f g33 := frM_tr (frM_su of25 (by decide) (by decide)) (frM_tr (frM_su o30 (by decide) (by decide)) (frM_su og33 (by decide) (by decide)))
      have hk33 : ctKn (g33 (A + 1)) T := by rw [of33.2.1 1 (by decide) (by decide) (by decide)]; exact hk
      have hgo : goAt g33 A T.2.2.1.2.length (tbL T) [] := ⟨by rw [og33.2.1 6 (by decide) (by decide) (by decide)]; exact c30, by omega, fun i e hi_z => absurd hi_z (by simp), by simp⟩
      have hi0_z : invR A g33 j [] := ⟨by rw [og33.2.2 28 (by decide), o30.2.2 28 (by decide), og25.2.2 28 (by decide)]; omega, by rw [og33.2.2 30 (by decide), o30.2.2 30 (by decide)]; show _ = ((0 : Nat) : Int); omega⟩
      have th33 : (g33 A 4).toInt = 0 := by rw [og33.2.2 4 (by decide), o30.2.2 4 (by decide), og25.2.2 4 (by decide), og20.2.2 4 (by decide)]; omega
      refine r_aloadR0 dX12_rows_36 ?_
      refine r_aloadR0 dX12_rows_37 ?_
      refine m_getV (x := (g33 A 29)) zf_RX12_419 rfl dX12_rows_38 (shM_k hs) (rfl) ?_
      refine r_iload1 dX12_rows_41 ?_
      refine q_callV2 zm_RX12_422 dX12_rows_42 (shM_k hs) (by decide) rfl (Nat.le_of_ble_eq_true rfl) (Nat.le_of_ble_eq_true rfl) (Nat.le_of_ble_eq_true rfl) (Nat.le_of_ble_eq_true rfl) (Nat.le_of_ble_eq_true rfl) (s_X12_goes_3 (T := T) (dd := T.2.2.1.2.length) (L := tbL T) (r := []) (ps := []) (Inv := invR A) (Fin := (fun _ _ _ _ => False)) G hs hw hml (see_row G hs hw hml) hk33 hgo hrt (by show (g33 A 29).toInt = ((T.2.2.1.2.length + 0 : Nat) : Int); omega) (by omega) (by simp) invR_iv hi0_z (by rw [List.nil_append]; exact Nat.le_trans (rwF_len hrt) (by decide)) (fun r42 g42 j42 o42 c42 => ?_))
      have hrl : (g42 A 30).toInt = ((rwF 3 (tbL T) []).length : Nat) := by
        rcases c42 with ⟨_, qs, z, rest, _, h9⟩ | ⟨_, h9⟩
        · exact absurd h9 id
        · exact h9.2
      refine r_pop dX12_rows_45 rfl ?_
      refine r_aloadR0 dX12_rows_46 ?_
      refine m_getV (x := (g42 A 30)) zf_RX12_452 rfl dX12_rows_47 (shM_k hs) (rfl) ?_
      refine r_iret dX12_rows_50 rfl (Nat.le_of_ble_eq_true rfl) (Nat.le_of_ble_eq_true rfl) ?_
      refine hQ hnc _ g42 j42 hrl ⟨frM_tr (frM_su of33 (by decide) (by decide)) (frM_su o42.1 (by decide) (by decide)), o42.2.1, fun hm9 i hi_z => ?_, ?_, ?_⟩ (by rw [o42.1.2.2 4 (by decide)]; exact th33)
      · have h8 := hm9 i hi_z
        rw [o42.1.2.2 37 (by decide), of33.2.2 37 (by decide)]
        rcases o42.2.2.2.2 i with e | e
        · rw [e, of33.2.1 15 (by decide) (by decide) (by decide)]; exact h8
        · rw [e, of33.2.2 37 (by decide)]; exact Int.le_refl _
      · rw [o42.1.2.2 37 (by decide), of33.2.2 37 (by decide)]; exact Int.le_refl _
      · rw [o42.1.2.2 37 (by decide), of33.2.2 37 (by decide)]; omega
    · refine r_aloadR0 dX12_rows_0 ?_
      refine n_iconst dX12_rows_1 (by decide) (fun r1 e1_z => ?_)
      refine m_putI zf_RX12_77 (by intro C T N h_z; cases h_z; rfl) rfl dX12_rows_2 (shM_k hs) ?_
      obtain ⟨g2, hg2⟩ : ∃ g9, g9 = zu f A 4 r1 := ⟨_, rfl⟩
      rw [← hg2]
      have og2 : frM A [] [4] f g2 := by rw [hg2]; exact frM_zk frM_rf (by decide)
      have vt2 : (g2 A 4).toInt = r1.toInt := by rw [hg2, zu_at]
      refine r_iload1 dX12_rows_5 ?_
      refine q_callS1 zm_RX12_499 dX12_rows_6 (Nat.le_of_ble_eq_true rfl) (Nat.le_of_ble_eq_true rfl) (Nat.le_of_ble_eq_true rfl) (Nat.le_of_ble_eq_true rfl) (Nat.le_of_ble_eq_true rfl) (s_X12_isMore G (fun r6 e6_z => ?_))
      refine t_ifne (t := 18) dX12_rows_9 (by decide) (fun h9 => ?_) (fun h9 => False.elim (by omega))
      refine r_aloadR0 dX12_rows_18 ?_
      refine n_iconst dX12_rows_19 (by decide) (fun r19 e19_z => ?_)
      refine m_putI zf_RX12_443 (by intro C T N h_z; cases h_z; rfl) rfl dX12_rows_20 (shM_k hs) ?_
      obtain ⟨g20, hg20⟩ : ∃ g9, g9 = zu g2 A 28 r19 := ⟨_, rfl⟩
      rw [← hg20]
      have og20 : frM A [] [28] g2 g20 := by rw [hg20]; exact frM_zk frM_rf (by decide)
      have vt20 : (g20 A 28).toInt = r19.toInt := by rw [hg20, zu_at]
      refine r_aloadR0 dX12_rows_23 ?_
      refine n_iconst dX12_rows_24 (by decide) (fun r24 e24_z => ?_)
      refine m_putI zf_RX12_452 (by intro C T N h_z; cases h_z; rfl) rfl dX12_rows_25 (shM_k hs) ?_
      obtain ⟨g25, hg25⟩ : ∃ g9, g9 = zu g20 A 30 r24 := ⟨_, rfl⟩
      rw [← hg25]
      have og25 : frM A [] [30] g20 g25 := by rw [hg25]; exact frM_zk frM_rf (by decide)
      have vt25 : (g25 A 30).toInt = r24.toInt := by rw [hg25, zu_at]
      refine r_aloadR0 dX12_rows_28 ?_
      refine r_aloadR0 dX12_rows_29 ?_
      have of25 : frM A [] [4, 28, 30] f g25 := frM_tr (frM_su og2 (by decide) (by decide)) (frM_tr (frM_su og20 (by decide) (by decide)) (frM_su og25 (by decide) (by decide)))
      have hk25 : ctKn (g25 (A + 1)) T := by rw [of25.2.1 1 (by decide) (by decide) (by decide)]; exact hk
      refine q_callV0 zm_RX12_343 dX12_rows_30 (shM_k hs) (by decide) rfl (Nat.le_of_ble_eq_true rfl) (Nat.le_of_ble_eq_true rfl) (Nat.le_of_ble_eq_true rfl) (Nat.le_of_ble_eq_true rfl) (Nat.le_of_ble_eq_true rfl) (s_X12_now G hs hk25 hw (fun r30 g30 e30 o30 c30 => ?_))
      refine m_putI zf_RX12_419 (by intro C T N h_z; cases h_z; rfl) rfl dX12_rows_33 (shM_k hs) ?_
      obtain ⟨g33, hg33⟩ : ∃ g9, g9 = zu g30 A 29 r30 := ⟨_, rfl⟩
      rw [← hg33]
      have og33 : frM A [] [29] g30 g33 := by rw [hg33]; exact frM_zk frM_rf (by decide)
      have vt33 : (g33 A 29).toInt = r30.toInt := by rw [hg33, zu_at]
      have of33 : frM A [6] [4, 28, 29, 30] f g33 := frM_tr (frM_su of25 (by decide) (by decide)) (frM_tr (frM_su o30 (by decide) (by decide)) (frM_su og33 (by decide) (by decide)))
      have hk33 : ctKn (g33 (A + 1)) T := by rw [of33.2.1 1 (by decide) (by decide) (by decide)]; exact hk
      have hgo : goAt g33 A T.2.2.1.2.length (tbL T) [] := ⟨by rw [og33.2.1 6 (by decide) (by decide) (by decide)]; exact c30, by omega, fun i e hi_z => absurd hi_z (by simp), by simp⟩
      have hi0_z : invR A g33 j [] := ⟨by rw [og33.2.2 28 (by decide), o30.2.2 28 (by decide), og25.2.2 28 (by decide)]; omega, by rw [og33.2.2 30 (by decide), o30.2.2 30 (by decide)]; show _ = ((0 : Nat) : Int); omega⟩
      have th33 : (g33 A 4).toInt = 0 := by rw [og33.2.2 4 (by decide), o30.2.2 4 (by decide), og25.2.2 4 (by decide), og20.2.2 4 (by decide)]; omega
      refine r_aloadR0 dX12_rows_36 ?_
      refine r_aloadR0 dX12_rows_37 ?_
      refine m_getV (x := (g33 A 29)) zf_RX12_419 rfl dX12_rows_38 (shM_k hs) (rfl) ?_
      refine r_iload1 dX12_rows_41 ?_
      refine q_callV2 zm_RX12_422 dX12_rows_42 (shM_k hs) (by decide) rfl (Nat.le_of_ble_eq_true rfl) (Nat.le_of_ble_eq_true rfl) (Nat.le_of_ble_eq_true rfl) (Nat.le_of_ble_eq_true rfl) (Nat.le_of_ble_eq_true rfl) (s_X12_goes_4 (T := T) (dd := T.2.2.1.2.length) (L := tbL T) (r := []) (ps := []) (Inv := invR A) (Fin := (fun _ _ _ _ => False)) G hs hw hml (see_row G hs hw hml) hk33 hgo hrt (by show (g33 A 29).toInt = ((T.2.2.1.2.length + 0 : Nat) : Int); omega) (by omega) (by simp) invR_iv hi0_z (by rw [List.nil_append]; exact Nat.le_trans (rwF_len hrt) (by decide)) (fun r42 g42 j42 o42 c42 => ?_))
      have hrl : (g42 A 30).toInt = ((rwF 4 (tbL T) []).length : Nat) := by
        rcases c42 with ⟨_, qs, z, rest, _, h9⟩ | ⟨_, h9⟩
        · exact absurd h9 id
        · exact h9.2
      refine r_pop dX12_rows_45 rfl ?_
      refine r_aloadR0 dX12_rows_46 ?_
      refine m_getV (x := (g42 A 30)) zf_RX12_452 rfl dX12_rows_47 (shM_k hs) (rfl) ?_
      refine r_iret dX12_rows_50 rfl (Nat.le_of_ble_eq_true rfl) (Nat.le_of_ble_eq_true rfl) ?_
      refine hQ hnc _ g42 j42 hrl ⟨frM_tr (frM_su of33 (by decide) (by decide)) (frM_su o42.1 (by decide) (by decide)), o42.2.1, fun hm9 i hi_z => ?_, ?_, ?_⟩ (by rw [o42.1.2.2 4 (by decide)]; exact th33)
      · have h8 := hm9 i hi_z
        rw [o42.1.2.2 37 (by decide), of33.2.2 37 (by decide)]
        rcases o42.2.2.2.2 i with e | e
        · rw [e, of33.2.1 15 (by decide) (by decide) (by decide)]; exact h8
        · rw [e, of33.2.2 37 (by decide)]; exact Int.le_refl _
      · rw [o42.1.2.2 37 (by decide), of33.2.2 37 (by decide)]; exact Int.le_refl _
      · rw [o42.1.2.2 37 (by decide), of33.2.2 37 (by decide)]; omega
    · refine r_aloadR0 dX12_rows_0 ?_
      refine n_iconst dX12_rows_1 (by decide) (fun r1 e1_z => ?_)
      refine m_putI zf_RX12_77 (by intro C T N h_z; cases h_z; rfl) rfl dX12_rows_2 (shM_k hs) ?_
      obtain ⟨g2, hg2⟩ : ∃ g9, g9 = zu f A 4 r1 := ⟨_, rfl⟩
      rw [← hg2]
      have og2 : frM A [] [4] f g2 := by rw [hg2]; exact frM_zk frM_rf (by decide)
      have vt2 : (g2 A 4).toInt = r1.toInt := by rw [hg2, zu_at]
      refine r_iload1 dX12_rows_5 ?_
      refine q_callS1 zm_RX12_499 dX12_rows_6 (Nat.le_of_ble_eq_true rfl) (Nat.le_of_ble_eq_true rfl) (Nat.le_of_ble_eq_true rfl) (Nat.le_of_ble_eq_true rfl) (Nat.le_of_ble_eq_true rfl) (s_X12_isMore G (fun r6 e6_z => ?_))
      refine t_ifne (t := 18) dX12_rows_9 (by decide) (fun h9 => ?_) (fun h9 => False.elim (by omega))
      refine r_aloadR0 dX12_rows_18 ?_
      refine n_iconst dX12_rows_19 (by decide) (fun r19 e19_z => ?_)
      refine m_putI zf_RX12_443 (by intro C T N h_z; cases h_z; rfl) rfl dX12_rows_20 (shM_k hs) ?_
      obtain ⟨g20, hg20⟩ : ∃ g9, g9 = zu g2 A 28 r19 := ⟨_, rfl⟩
      rw [← hg20]
      have og20 : frM A [] [28] g2 g20 := by rw [hg20]; exact frM_zk frM_rf (by decide)
      have vt20 : (g20 A 28).toInt = r19.toInt := by rw [hg20, zu_at]
      refine r_aloadR0 dX12_rows_23 ?_
      refine n_iconst dX12_rows_24 (by decide) (fun r24 e24_z => ?_)
      refine m_putI zf_RX12_452 (by intro C T N h_z; cases h_z; rfl) rfl dX12_rows_25 (shM_k hs) ?_
      obtain ⟨g25, hg25⟩ : ∃ g9, g9 = zu g20 A 30 r24 := ⟨_, rfl⟩
      rw [← hg25]
      have og25 : frM A [] [30] g20 g25 := by rw [hg25]; exact frM_zk frM_rf (by decide)
      have vt25 : (g25 A 30).toInt = r24.toInt := by rw [hg25, zu_at]
      refine r_aloadR0 dX12_rows_28 ?_
      refine r_aloadR0 dX12_rows_29 ?_
      have of25 : frM A [] [4, 28, 30] f g25 := frM_tr (frM_su og2 (by decide) (by decide)) (frM_tr (frM_su og20 (by decide) (by decide)) (frM_su og25 (by decide) (by decide)))
      have hk25 : ctKn (g25 (A + 1)) T := by rw [of25.2.1 1 (by decide) (by decide) (by decide)]; exact hk
      refine q_callV0 zm_RX12_343 dX12_rows_30 (shM_k hs) (by decide) rfl (Nat.le_of_ble_eq_true rfl) (Nat.le_of_ble_eq_true rfl) (Nat.le_of_ble_eq_true rfl) (Nat.le_of_ble_eq_true rfl) (Nat.le_of_ble_eq_true rfl) (s_X12_now G hs hk25 hw (fun r30 g30 e30 o30 c30 => ?_))
      refine m_putI zf_RX12_419 (by intro C T N h_z; cases h_z; rfl) rfl dX12_rows_33 (shM_k hs) ?_
      obtain ⟨g33, hg33⟩ : ∃ g9, g9 = zu g30 A 29 r30 := ⟨_, rfl⟩
      rw [← hg33]
      have og33 : frM A [] [29] g30 g33 := by rw [hg33]; exact frM_zk frM_rf (by decide)
      have vt33 : (g33 A 29).toInt = r30.toInt := by rw [hg33, zu_at]
      have of33 : frM A [6] [4, 28, 29, 30] f g33 := frM_tr (frM_su of25 (by decide) (by decide)) (frM_tr (frM_su o30 (by decide) (by decide)) (frM_su og33 (by decide) (by decide)))
      have hk33 : ctKn (g33 (A + 1)) T := by rw [of33.2.1 1 (by decide) (by decide) (by decide)]; exact hk
      have hgo : goAt g33 A T.2.2.1.2.length (tbL T) [] := ⟨by rw [og33.2.1 6 (by decide) (by decide) (by decide)]; exact c30, by omega, fun i e hi_z => absurd hi_z (by simp), by simp⟩
      have hi0_z : invR A g33 j [] := ⟨by rw [og33.2.2 28 (by decide), o30.2.2 28 (by decide), og25.2.2 28 (by decide)]; omega, by rw [og33.2.2 30 (by decide), o30.2.2 30 (by decide)]; show _ = ((0 : Nat) : Int); omega⟩
      have th33 : (g33 A 4).toInt = 0 := by rw [og33.2.2 4 (by decide), o30.2.2 4 (by decide), og25.2.2 4 (by decide), og20.2.2 4 (by decide)]; omega
      refine r_aloadR0 dX12_rows_36 ?_
      refine r_aloadR0 dX12_rows_37 ?_
      refine m_getV (x := (g33 A 29)) zf_RX12_419 rfl dX12_rows_38 (shM_k hs) (rfl) ?_
      refine r_iload1 dX12_rows_41 ?_
      refine q_callV2 zm_RX12_422 dX12_rows_42 (shM_k hs) (by decide) rfl (Nat.le_of_ble_eq_true rfl) (Nat.le_of_ble_eq_true rfl) (Nat.le_of_ble_eq_true rfl) (Nat.le_of_ble_eq_true rfl) (Nat.le_of_ble_eq_true rfl) (s_X12_goes_5 (T := T) (dd := T.2.2.1.2.length) (L := tbL T) (r := []) (ps := []) (Inv := invR A) (Fin := (fun _ _ _ _ => False)) G hs hw hml (see_row G hs hw hml) hk33 hgo hrt (by show (g33 A 29).toInt = ((T.2.2.1.2.length + 0 : Nat) : Int); omega) (by omega) (by simp) invR_iv hi0_z (by rw [List.nil_append]; exact Nat.le_trans (rwF_len hrt) (by decide)) (fun r42 g42 j42 o42 c42 => ?_))
      have hrl : (g42 A 30).toInt = ((rwF 5 (tbL T) []).length : Nat) := by
        rcases c42 with ⟨_, qs, z, rest, _, h9⟩ | ⟨_, h9⟩
        · exact absurd h9 id
        · exact h9.2
      refine r_pop dX12_rows_45 rfl ?_
      refine r_aloadR0 dX12_rows_46 ?_
      refine m_getV (x := (g42 A 30)) zf_RX12_452 rfl dX12_rows_47 (shM_k hs) (rfl) ?_
      refine r_iret dX12_rows_50 rfl (Nat.le_of_ble_eq_true rfl) (Nat.le_of_ble_eq_true rfl) ?_
      refine hQ hnc _ g42 j42 hrl ⟨frM_tr (frM_su of33 (by decide) (by decide)) (frM_su o42.1 (by decide) (by decide)), o42.2.1, fun hm9 i hi_z => ?_, ?_, ?_⟩ (by rw [o42.1.2.2 4 (by decide)]; exact th33)
      · have h8 := hm9 i hi_z
        rw [o42.1.2.2 37 (by decide), of33.2.2 37 (by decide)]
        rcases o42.2.2.2.2 i with e | e
        · rw [e, of33.2.1 15 (by decide) (by decide) (by decide)]; exact h8
        · rw [e, of33.2.2 37 (by decide)]; exact Int.le_refl _
      · rw [o42.1.2.2 37 (by decide), of33.2.2 37 (by decide)]; exact Int.le_refl _
      · rw [o42.1.2.2 37 (by decide), of33.2.2 37 (by decide)]; omega
  · refine r_aloadR0 dX12_rows_0 ?_
    refine n_iconst dX12_rows_1 (by decide) (fun r1 e1_z => ?_)
    refine m_putI zf_RX12_77 (by intro C T N h_z; cases h_z; rfl) rfl dX12_rows_2 (shM_k hs) ?_
    obtain ⟨g2, hg2⟩ : ∃ g9, g9 = zu f A 4 r1 := ⟨_, rfl⟩
    rw [← hg2]
    have og2 : frM A [] [4] f g2 := by rw [hg2]; exact frM_zk frM_rf (by decide)
    have vg2 : g2 A 4 = r1 := by rw [hg2]; exact zu_at
    have vt2 : (g2 A 4).toInt = r1.toInt := by rw [vg2]
    have hk2 : ctKn (g2 (A + 1)) T := by rw [og2.2.1 1 (by decide) (by decide) (by decide)]; exact hk
    refine r_iload1 dX12_rows_5 ?_
    refine q_callS1 zm_RX12_499 dX12_rows_6 (Nat.le_of_ble_eq_true rfl) (Nat.le_of_ble_eq_true rfl) (Nat.le_of_ble_eq_true rfl) (Nat.le_of_ble_eq_true rfl) (Nat.le_of_ble_eq_true rfl) (s_X12_isMore G (fun r6 e6_z => ?_))
    refine t_ifne (t := 18) dX12_rows_9 (by decide) (fun h9 => False.elim (by omega)) (fun h9 => ?_)
    refine r_aloadR0 dX12_rows_12 ?_
    refine n_iconst dX12_rows_13 (by decide) (fun r13 e13_z => ?_)
    refine q_callV1 zm_RX12_244 dX12_rows_14 (shM_k hs) (by decide) rfl (Nat.le_of_ble_eq_true rfl) (Nat.le_of_ble_eq_true rfl) (Nat.le_of_ble_eq_true rfl) (Nat.le_of_ble_eq_true rfl) (Nat.le_of_ble_eq_true rfl) (s_X12_fails G hs (fun r14 g14 e14_z o14 v14 => ?_))
    refine r_iret dX12_rows_17 rfl (Nat.le_of_ble_eq_true rfl) (Nat.le_of_ble_eq_true rfl) ?_
    exact hT1 hnc _ g14 j (qM_q (show frM A [6, 7, 8, 9, 13, 16, 17] [4, 33, 34] f _ from (frM_tr (frM_su og2 (by decide) (by decide)) (frM_su o14 (by decide) (by decide))))) (by rw [v14]; omega)
set_option maxHeartbeats 4000000 in
set_option maxRecDepth 100000 in
theorem s_X12_manyBy_loo {g : zGT} {w : zW} {f : Nat → Nat → Int32} {j : Nat → Nat → Int64} {A : Nat} {T : zTb} {x0 x : Int32} {Q : Option Value → zW → Prop} {QX : String → zW → Prop} (G : zGok g) (hs : shM w A) (hk : ctKn (f (A + 1)) T) (hw : wfT T) (hmb : mbI f A) (htn : (f A 37).toInt < 1900000000) (hx0 : x0.toInt = 1) (hT1 : ¬ (0 ≤ x.toInt ∧ x.toInt ≤ 5) → ∀ (r : Int32) f2_z j2, qM A f f2_z j j2 0 → (f2_z A 4).toInt = 1 → Q (some (.int r)) (zM w f2_z j2)) (hQ : (0 ≤ x.toInt ∧ x.toInt ≤ 5) → ∀ (r : Int32) f2_z j2, r.toInt = ((cntS (fun _ _ => true) (fun L => lkN L (tbC T)) (allF (x.toInt.toNat + 1) (tbL T))).length : Nat) → qM A f f2_z j j2 1 → (f2_z A 4).toInt = 0 → Q (some (.int r)) (zM w f2_z j2)) : zC g 17 yX12_manyBy cX12_manyBy 3 (some .int) [.ref A, .int x0, .int x] (zM w f j) (0, 0) Q QX := by
  refine zC_of G (by decide +kernel) (Nat.le_of_ble_eq_true rfl) ?_
  have hk9 := hk
  obtain ⟨⟨k0_z, k1_z, k2_z, k3_z, k4_z, k5_z, k6_z⟩, km, kg, kp, kl1, kl2, kl3⟩ := hk9
  have km9 := km
  obtain ⟨m1_z, m2_z, m3_z⟩ := km9
  have hn6 : tbC T ≤ 6 := hw.2.1
  have hg4 : tbG T ≤ 4 := hw.2.2.1
  have hwm := hw.2.2.2.2.2.2.2.1
  have hml : T.2.2.1.2.length ≤ 5 := hwm.2.1
  have hm99 := hwm.2.2
  have hrt := wfT_rch hw
  have hLl : (tbL T).length ≤ 6 := Nat.le_trans (rch_cell hrt).2.2.2.2 hn6
  have hpl : T.2.2.2.length ≤ 10 := hw.2.2.2.2.2.2.2.2.1
  rcases Classical.em (0 ≤ x.toInt ∧ x.toInt ≤ 5) with hnc | hnc
  · refine r_aloadR0 dX12_manyBy_0 ?_
    refine n_iconst dX12_manyBy_1 (by decide) (fun r1 e1_z => ?_)
    refine m_putI zf_RX12_77 (by intro C T N h_z; cases h_z; rfl) rfl dX12_manyBy_2 (shM_k hs) ?_
    obtain ⟨g2, hg2⟩ : ∃ g9, g9 = zu f A 4 r1 := ⟨_, rfl⟩
    rw [← hg2]
    have og2 : frM A [] [4] f g2 := by rw [hg2]; exact frM_zk frM_rf (by decide)
    have vg2 : g2 A 4 = r1 := by rw [hg2]; exact zu_at
    have vt2 : (g2 A 4).toInt = r1.toInt := by rw [vg2]
    have hk2 : ctKn (g2 (A + 1)) T := by rw [og2.2.1 1 (by decide) (by decide) (by decide)]; exact hk
    refine r_iload2 dX12_manyBy_5 ?_
    refine q_callS1 zm_RX12_499 dX12_manyBy_6 (Nat.le_of_ble_eq_true rfl) (Nat.le_of_ble_eq_true rfl) (Nat.le_of_ble_eq_true rfl) (Nat.le_of_ble_eq_true rfl) (Nat.le_of_ble_eq_true rfl) (s_X12_isMore G (fun r6 e6_z => ?_))
    refine t_ifne (t := 18) dX12_manyBy_9 (by decide) (fun h9 => ?_) (fun h9 => False.elim (by omega))
    refine r_aloadR0 dX12_manyBy_18 ?_
    refine r_iload1 dX12_manyBy_19 ?_
    refine r_aloadR0 dX12_manyBy_20 ?_
    refine q_callV0 zm_RX12_343 dX12_manyBy_21 (shM_k hs) (by decide) rfl (Nat.le_of_ble_eq_true rfl) (Nat.le_of_ble_eq_true rfl) (Nat.le_of_ble_eq_true rfl) (Nat.le_of_ble_eq_true rfl) (Nat.le_of_ble_eq_true rfl) (s_X12_now G hs hk2 hw (fun r21 g21 e21_z o21 c21 => ?_))
    refine r_iload2 dX12_manyBy_24 ?_
    have ofA := (show frM A [6, 7, 8, 9, 13, 16, 17] [4, 33, 34] f _ from (frM_tr (frM_su og2 (by decide) (by decide)) (frM_su o21 (by decide) (by decide))))
    have hkA : ctKn (g21 (A + 1)) T := by rw [ofA.2.1 1 (by decide) (by decide) (by decide)]; exact hk
    have thA : (g21 A 4).toInt = 0 := by rw [o21.2.2 4 (by decide)]; omega
    have mbA : mbI g21 A := by intro i hi_z; rw [ofA.2.1 15 (by decide) (by decide) (by decide), ofA.2.2 37 (by decide)]; exact hmb i hi_z
    have ofK := (show frM A [6, 7, 8, 9, 16, 17] [4, 33, 34] f _ from (frM_tr (frM_su og2 (by decide) (by decide)) (frM_su o21 (by decide) (by decide))))
    refine q_callV3 zm_RX12_502 dX12_manyBy_25 (shM_k hs) (by decide) rfl (Nat.le_of_ble_eq_true rfl) (Nat.le_of_ble_eq_true rfl) (Nat.le_of_ble_eq_true rfl) (Nat.le_of_ble_eq_true rfl) (Nat.le_of_ble_eq_true rfl) (s_X12_asksAll (T := T) (dd := T.2.2.1.2.length) (mm := x.toInt.toNat) (L := (tbL T)) (wh := 1) (Inv := (invC A T 1 (fun i => (f (A + 13) i).toInt) (fun _ _ => true) (fun L => lkN L (tbC T)))) (Fin := (fun _ _ _ _ => False)) G hs hw hml hkA hx0 e21_z (by omega) (by omega) c21 hrt (by rw [ofA.2.2 37 (by decide)]; omega) (see_loo G hs hw hml) invC_iv (fun f1_z of h28 h30 h31 h32 h37 => invC_0 of h28 h30 h37 mbA (fun i hi_z => by rw [ofK.2.1 13 (by decide) (by decide) (by decide)])) (fun g25 j25 o25 t25 c25 => ?_))
    have oq : qM A f g25 j j25 1 := qM_ga ofA o25 t25
    have oth : (g25 A 4).toInt = 0 := by rw [o25.1.2.2 4 (by decide)]; exact thA
    refine r_aloadR0 dX12_manyBy_28 ?_
    refine m_getV (x := (g25 A 30)) zf_RX12_452 rfl dX12_manyBy_29 (shM_k hs) (rfl) ?_
    refine r_iret dX12_manyBy_32 rfl (Nat.le_of_ble_eq_true rfl) (Nat.le_of_ble_eq_true rfl) ?_
    rcases c25 with ⟨_, _, _, _, h9⟩ | h9
    · exact absurd h9 id
    · exact hQ hnc _ g25 j25 h9.2.1 oq oth
  · refine r_aloadR0 dX12_manyBy_0 ?_
    refine n_iconst dX12_manyBy_1 (by decide) (fun r1 e1_z => ?_)
    refine m_putI zf_RX12_77 (by intro C T N h_z; cases h_z; rfl) rfl dX12_manyBy_2 (shM_k hs) ?_
    obtain ⟨g2, hg2⟩ : ∃ g9, g9 = zu f A 4 r1 := ⟨_, rfl⟩
    rw [← hg2]
    have og2 : frM A [] [4] f g2 := by rw [hg2]; exact frM_zk frM_rf (by decide)
    have vg2 : g2 A 4 = r1 := by rw [hg2]; exact zu_at
    have vt2 : (g2 A 4).toInt = r1.toInt := by rw [vg2]
    have hk2 : ctKn (g2 (A + 1)) T := by rw [og2.2.1 1 (by decide) (by decide) (by decide)]; exact hk
    refine r_iload2 dX12_manyBy_5 ?_
    refine q_callS1 zm_RX12_499 dX12_manyBy_6 (Nat.le_of_ble_eq_true rfl) (Nat.le_of_ble_eq_true rfl) (Nat.le_of_ble_eq_true rfl) (Nat.le_of_ble_eq_true rfl) (Nat.le_of_ble_eq_true rfl) (s_X12_isMore G (fun r6 e6_z => ?_))
    refine t_ifne (t := 18) dX12_manyBy_9 (by decide) (fun h9 => False.elim (by omega)) (fun h9 => ?_)
    refine r_aloadR0 dX12_manyBy_12 ?_
    refine n_iconst dX12_manyBy_13 (by decide) (fun r13 e13_z => ?_)
    refine q_callV1 zm_RX12_244 dX12_manyBy_14 (shM_k hs) (by decide) rfl (Nat.le_of_ble_eq_true rfl) (Nat.le_of_ble_eq_true rfl) (Nat.le_of_ble_eq_true rfl) (Nat.le_of_ble_eq_true rfl) (Nat.le_of_ble_eq_true rfl) (s_X12_fails G hs (fun r14 g14 e14_z o14 v14 => ?_))
    refine r_iret dX12_manyBy_17 rfl (Nat.le_of_ble_eq_true rfl) (Nat.le_of_ble_eq_true rfl) ?_
    exact hT1 hnc _ g14 j (qM_q (show frM A [6, 7, 8, 9, 13, 16, 17] [4, 33, 34] f _ from (frM_tr (frM_su og2 (by decide) (by decide)) (frM_su o14 (by decide) (by decide))))) (by rw [v14]; omega)
set_option maxHeartbeats 4000000 in
set_option maxRecDepth 100000 in
theorem s_X12_manyBy_hol {g : zGT} {w : zW} {f : Nat → Nat → Int32} {j : Nat → Nat → Int64} {A : Nat} {T : zTb} {x0 x : Int32} {Q : Option Value → zW → Prop} {QX : String → zW → Prop} (G : zGok g) (hs : shM w A) (hk : ctKn (f (A + 1)) T) (hw : wfT T) (hmb : mbI f A) (htn : (f A 37).toInt < 1900000000) (hx0 : x0.toInt = 2) (hT1 : ¬ (0 ≤ x.toInt ∧ x.toInt ≤ 5) → ∀ (r : Int32) f2_z j2, qM A f f2_z j j2 0 → (f2_z A 4).toInt = 1 → Q (some (.int r)) (zM w f2_z j2)) (hQ : (0 ≤ x.toInt ∧ x.toInt ≤ 5) → ∀ (r : Int32) f2_z j2, r.toInt = ((cntS (fun L r => decide (holV T L (T.2.2.1.2.length + r.length) ≠ 0)) (fun L => lkN L (tbC T)) (allF (x.toInt.toNat + 1) (tbL T))).length : Nat) → qM A f f2_z j j2 1 → (f2_z A 4).toInt = 0 → Q (some (.int r)) (zM w f2_z j2)) : zC g 17 yX12_manyBy cX12_manyBy 3 (some .int) [.ref A, .int x0, .int x] (zM w f j) (0, 0) Q QX := by
  refine zC_of G (by decide +kernel) (Nat.le_of_ble_eq_true rfl) ?_
  have hk9 := hk
  obtain ⟨⟨k0_z, k1_z, k2_z, k3_z, k4_z, k5_z, k6_z⟩, km, kg, kp, kl1, kl2, kl3⟩ := hk9
  have km9 := km
  obtain ⟨m1_z, m2_z, m3_z⟩ := km9
  have hn6 : tbC T ≤ 6 := hw.2.1
  have hg4 : tbG T ≤ 4 := hw.2.2.1
  have hwm := hw.2.2.2.2.2.2.2.1
  have hml : T.2.2.1.2.length ≤ 5 := hwm.2.1
  have hm99 := hwm.2.2
  have hrt := wfT_rch hw
  have hLl : (tbL T).length ≤ 6 := Nat.le_trans (rch_cell hrt).2.2.2.2 hn6
  have hpl : T.2.2.2.length ≤ 10 := hw.2.2.2.2.2.2.2.2.1
  rcases Classical.em (0 ≤ x.toInt ∧ x.toInt ≤ 5) with hnc | hnc
  · refine r_aloadR0 dX12_manyBy_0 ?_
    refine n_iconst dX12_manyBy_1 (by decide) (fun r1 e1_z => ?_)
    refine m_putI zf_RX12_77 (by intro C T N h_z; cases h_z; rfl) rfl dX12_manyBy_2 (shM_k hs) ?_
    obtain ⟨g2, hg2⟩ : ∃ g9, g9 = zu f A 4 r1 := ⟨_, rfl⟩
    rw [← hg2]
    have og2 : frM A [] [4] f g2 := by rw [hg2]; exact frM_zk frM_rf (by decide)
    have vg2 : g2 A 4 = r1 := by rw [hg2]; exact zu_at
    have vt2 : (g2 A 4).toInt = r1.toInt := by rw [vg2]
    have hk2 : ctKn (g2 (A + 1)) T := by rw [og2.2.1 1 (by decide) (by decide) (by decide)]; exact hk
    refine r_iload2 dX12_manyBy_5 ?_
    refine q_callS1 zm_RX12_499 dX12_manyBy_6 (Nat.le_of_ble_eq_true rfl) (Nat.le_of_ble_eq_true rfl) (Nat.le_of_ble_eq_true rfl) (Nat.le_of_ble_eq_true rfl) (Nat.le_of_ble_eq_true rfl) (s_X12_isMore G (fun r6 e6_z => ?_))
    refine t_ifne (t := 18) dX12_manyBy_9 (by decide) (fun h9 => ?_) (fun h9 => False.elim (by omega))
    refine r_aloadR0 dX12_manyBy_18 ?_
    refine r_iload1 dX12_manyBy_19 ?_
    refine r_aloadR0 dX12_manyBy_20 ?_
    refine q_callV0 zm_RX12_343 dX12_manyBy_21 (shM_k hs) (by decide) rfl (Nat.le_of_ble_eq_true rfl) (Nat.le_of_ble_eq_true rfl) (Nat.le_of_ble_eq_true rfl) (Nat.le_of_ble_eq_true rfl) (Nat.le_of_ble_eq_true rfl) (s_X12_now G hs hk2 hw (fun r21 g21 e21_z o21 c21 => ?_))
    refine r_iload2 dX12_manyBy_24 ?_
    have ofA := (show frM A [6, 7, 8, 9, 13, 16, 17] [4, 33, 34] f _ from (frM_tr (frM_su og2 (by decide) (by decide)) (frM_su o21 (by decide) (by decide))))
    have hkA : ctKn (g21 (A + 1)) T := by rw [ofA.2.1 1 (by decide) (by decide) (by decide)]; exact hk
    have thA : (g21 A 4).toInt = 0 := by rw [o21.2.2 4 (by decide)]; omega
    have mbA : mbI g21 A := by intro i hi_z; rw [ofA.2.1 15 (by decide) (by decide) (by decide), ofA.2.2 37 (by decide)]; exact hmb i hi_z
    have ofK := (show frM A [6, 7, 8, 9, 16, 17] [4, 33, 34] f _ from (frM_tr (frM_su og2 (by decide) (by decide)) (frM_su o21 (by decide) (by decide))))
    refine q_callV3 zm_RX12_502 dX12_manyBy_25 (shM_k hs) (by decide) rfl (Nat.le_of_ble_eq_true rfl) (Nat.le_of_ble_eq_true rfl) (Nat.le_of_ble_eq_true rfl) (Nat.le_of_ble_eq_true rfl) (Nat.le_of_ble_eq_true rfl) (s_X12_asksAll (T := T) (dd := T.2.2.1.2.length) (mm := x.toInt.toNat) (L := (tbL T)) (wh := 2) (Inv := (invC A T 2 (fun i => (f (A + 13) i).toInt) (fun L r => decide (holV T L (T.2.2.1.2.length + r.length) ≠ 0)) (fun L => lkN L (tbC T)))) (Fin := (fun _ _ _ _ => False)) G hs hw hml hkA hx0 e21_z (by omega) (by omega) c21 hrt (by rw [ofA.2.2 37 (by decide)]; omega) (see_hol G hs hw hml) invC_iv (fun f1_z of h28 h30 h31 h32 h37 => invC_0 of h28 h30 h37 mbA (fun i hi_z => by rw [ofK.2.1 13 (by decide) (by decide) (by decide)])) (fun g25 j25 o25 t25 c25 => ?_))
    have oq : qM A f g25 j j25 1 := qM_ga ofA o25 t25
    have oth : (g25 A 4).toInt = 0 := by rw [o25.1.2.2 4 (by decide)]; exact thA
    refine r_aloadR0 dX12_manyBy_28 ?_
    refine m_getV (x := (g25 A 30)) zf_RX12_452 rfl dX12_manyBy_29 (shM_k hs) (rfl) ?_
    refine r_iret dX12_manyBy_32 rfl (Nat.le_of_ble_eq_true rfl) (Nat.le_of_ble_eq_true rfl) ?_
    rcases c25 with ⟨_, _, _, _, h9⟩ | h9
    · exact absurd h9 id
    · exact hQ hnc _ g25 j25 h9.2.1 oq oth
  · refine r_aloadR0 dX12_manyBy_0 ?_
    refine n_iconst dX12_manyBy_1 (by decide) (fun r1 e1_z => ?_)
    refine m_putI zf_RX12_77 (by intro C T N h_z; cases h_z; rfl) rfl dX12_manyBy_2 (shM_k hs) ?_
    obtain ⟨g2, hg2⟩ : ∃ g9, g9 = zu f A 4 r1 := ⟨_, rfl⟩
    rw [← hg2]
    have og2 : frM A [] [4] f g2 := by rw [hg2]; exact frM_zk frM_rf (by decide)
    have vg2 : g2 A 4 = r1 := by rw [hg2]; exact zu_at
    have vt2 : (g2 A 4).toInt = r1.toInt := by rw [vg2]
    have hk2 : ctKn (g2 (A + 1)) T := by rw [og2.2.1 1 (by decide) (by decide) (by decide)]; exact hk
    refine r_iload2 dX12_manyBy_5 ?_
    refine q_callS1 zm_RX12_499 dX12_manyBy_6 (Nat.le_of_ble_eq_true rfl) (Nat.le_of_ble_eq_true rfl) (Nat.le_of_ble_eq_true rfl) (Nat.le_of_ble_eq_true rfl) (Nat.le_of_ble_eq_true rfl) (s_X12_isMore G (fun r6 e6_z => ?_))
    refine t_ifne (t := 18) dX12_manyBy_9 (by decide) (fun h9 => False.elim (by omega)) (fun h9 => ?_)
    refine r_aloadR0 dX12_manyBy_12 ?_
    refine n_iconst dX12_manyBy_13 (by decide) (fun r13 e13_z => ?_)
    refine q_callV1 zm_RX12_244 dX12_manyBy_14 (shM_k hs) (by decide) rfl (Nat.le_of_ble_eq_true rfl) (Nat.le_of_ble_eq_true rfl) (Nat.le_of_ble_eq_true rfl) (Nat.le_of_ble_eq_true rfl) (Nat.le_of_ble_eq_true rfl) (s_X12_fails G hs (fun r14 g14 e14_z o14 v14 => ?_))
    refine r_iret dX12_manyBy_17 rfl (Nat.le_of_ble_eq_true rfl) (Nat.le_of_ble_eq_true rfl) ?_
    exact hT1 hnc _ g14 j (qM_q (show frM A [6, 7, 8, 9, 13, 16, 17] [4, 33, 34] f _ from (frM_tr (frM_su og2 (by decide) (by decide)) (frM_su o14 (by decide) (by decide))))) (by rw [v14]; omega)
set_option maxHeartbeats 4000000 in
set_option maxRecDepth 100000 in
theorem s_X12_manyBy_bet {g : zGT} {w : zW} {f : Nat → Nat → Int32} {j : Nat → Nat → Int64} {A : Nat} {T : zTb} {x0 x : Int32} {K : Nat → Int} {Q : Option Value → zW → Prop} {QX : String → zW → Prop} (G : zGok g) (hs : shM w A) (hk : ctKn (f (A + 1)) T) (hw : wfT T) (hmb : mbI f A) (htn : (f A 37).toInt < 1900000000) (hK_z : ∀ i, i < tbG T → (f (A + 13) i).toInt = K i) (hx0 : x0.toInt = 7) (hT1 : ¬ (0 ≤ x.toInt ∧ x.toInt ≤ 5) → ∀ (r : Int32) f2_z j2, qM A f f2_z j j2 0 → (f2_z A 4).toInt = 1 → Q (some (.int r)) (zM w f2_z j2)) (hQ : (0 ≤ x.toInt ∧ x.toInt ≤ 5) → ∀ (r : Int32) f2_z j2, r.toInt = ((cntS (fun L r => decide (plV K (likV T L (T.2.2.1.2.length + r.length)) (tbG T) ≠ 0)) (fun L => lkN L (tbC T)) (allF (x.toInt.toNat + 1) (tbL T))).length : Nat) → qM A f f2_z j j2 1 → (f2_z A 4).toInt = 0 → Q (some (.int r)) (zM w f2_z j2)) : zC g 17 yX12_manyBy cX12_manyBy 3 (some .int) [.ref A, .int x0, .int x] (zM w f j) (0, 0) Q QX := by
  refine zC_of G (by decide +kernel) (Nat.le_of_ble_eq_true rfl) ?_
  have hk9 := hk
  obtain ⟨⟨k0_z, k1_z, k2_z, k3_z, k4_z, k5_z, k6_z⟩, km, kg, kp, kl1, kl2, kl3⟩ := hk9
  have km9 := km
  obtain ⟨m1_z, m2_z, m3_z⟩ := km9
  have hn6 : tbC T ≤ 6 := hw.2.1
  have hg4 : tbG T ≤ 4 := hw.2.2.1
  have hwm := hw.2.2.2.2.2.2.2.1
  have hml : T.2.2.1.2.length ≤ 5 := hwm.2.1
  have hm99 := hwm.2.2
  have hrt := wfT_rch hw
  have hLl : (tbL T).length ≤ 6 := Nat.le_trans (rch_cell hrt).2.2.2.2 hn6
  have hpl : T.2.2.2.length ≤ 10 := hw.2.2.2.2.2.2.2.2.1
  rcases Classical.em (0 ≤ x.toInt ∧ x.toInt ≤ 5) with hnc | hnc
  · refine r_aloadR0 dX12_manyBy_0 ?_
    refine n_iconst dX12_manyBy_1 (by decide) (fun r1 e1_z => ?_)
    refine m_putI zf_RX12_77 (by intro C T N h_z; cases h_z; rfl) rfl dX12_manyBy_2 (shM_k hs) ?_
    obtain ⟨g2, hg2⟩ : ∃ g9, g9 = zu f A 4 r1 := ⟨_, rfl⟩
    rw [← hg2]
    have og2 : frM A [] [4] f g2 := by rw [hg2]; exact frM_zk frM_rf (by decide)
    have vg2 : g2 A 4 = r1 := by rw [hg2]; exact zu_at
    have vt2 : (g2 A 4).toInt = r1.toInt := by rw [vg2]
    have hk2 : ctKn (g2 (A + 1)) T := by rw [og2.2.1 1 (by decide) (by decide) (by decide)]; exact hk
    refine r_iload2 dX12_manyBy_5 ?_
    refine q_callS1 zm_RX12_499 dX12_manyBy_6 (Nat.le_of_ble_eq_true rfl) (Nat.le_of_ble_eq_true rfl) (Nat.le_of_ble_eq_true rfl) (Nat.le_of_ble_eq_true rfl) (Nat.le_of_ble_eq_true rfl) (s_X12_isMore G (fun r6 e6_z => ?_))
    refine t_ifne (t := 18) dX12_manyBy_9 (by decide) (fun h9 => ?_) (fun h9 => False.elim (by omega))
    refine r_aloadR0 dX12_manyBy_18 ?_
    refine r_iload1 dX12_manyBy_19 ?_
    refine r_aloadR0 dX12_manyBy_20 ?_
    refine q_callV0 zm_RX12_343 dX12_manyBy_21 (shM_k hs) (by decide) rfl (Nat.le_of_ble_eq_true rfl) (Nat.le_of_ble_eq_true rfl) (Nat.le_of_ble_eq_true rfl) (Nat.le_of_ble_eq_true rfl) (Nat.le_of_ble_eq_true rfl) (s_X12_now G hs hk2 hw (fun r21 g21 e21_z o21 c21 => ?_))
    refine r_iload2 dX12_manyBy_24 ?_
    have ofA := (show frM A [6, 7, 8, 9, 13, 16, 17] [4, 33, 34] f _ from (frM_tr (frM_su og2 (by decide) (by decide)) (frM_su o21 (by decide) (by decide))))
    have hkA : ctKn (g21 (A + 1)) T := by rw [ofA.2.1 1 (by decide) (by decide) (by decide)]; exact hk
    have thA : (g21 A 4).toInt = 0 := by rw [o21.2.2 4 (by decide)]; omega
    have mbA : mbI g21 A := by intro i hi_z; rw [ofA.2.1 15 (by decide) (by decide) (by decide), ofA.2.2 37 (by decide)]; exact hmb i hi_z
    have ofK := (show frM A [6, 7, 8, 9, 16, 17] [4, 33, 34] f _ from (frM_tr (frM_su og2 (by decide) (by decide)) (frM_su o21 (by decide) (by decide))))
    refine q_callV3 zm_RX12_502 dX12_manyBy_25 (shM_k hs) (by decide) rfl (Nat.le_of_ble_eq_true rfl) (Nat.le_of_ble_eq_true rfl) (Nat.le_of_ble_eq_true rfl) (Nat.le_of_ble_eq_true rfl) (Nat.le_of_ble_eq_true rfl) (s_X12_asksAll (T := T) (dd := T.2.2.1.2.length) (mm := x.toInt.toNat) (L := (tbL T)) (wh := 7) (Inv := (invC A T 7 K (fun L r => decide (plV K (likV T L (T.2.2.1.2.length + r.length)) (tbG T) ≠ 0)) (fun L => lkN L (tbC T)))) (Fin := (fun _ _ _ _ => False)) G hs hw hml hkA hx0 e21_z (by omega) (by omega) c21 hrt (by rw [ofA.2.2 37 (by decide)]; omega) (see_bet G hs hw hml) invC_iv (fun f1_z of h28 h30 h31 h32 h37 => invC_0 of h28 h30 h37 mbA (fun i hi_z => by rw [ofK.2.1 13 (by decide) (by decide) (by decide)]; exact hK_z i hi_z)) (fun g25 j25 o25 t25 c25 => ?_))
    have oq : qM A f g25 j j25 1 := qM_ga ofA o25 t25
    have oth : (g25 A 4).toInt = 0 := by rw [o25.1.2.2 4 (by decide)]; exact thA
    refine r_aloadR0 dX12_manyBy_28 ?_
    refine m_getV (x := (g25 A 30)) zf_RX12_452 rfl dX12_manyBy_29 (shM_k hs) (rfl) ?_
    refine r_iret dX12_manyBy_32 rfl (Nat.le_of_ble_eq_true rfl) (Nat.le_of_ble_eq_true rfl) ?_
    rcases c25 with ⟨_, _, _, _, h9⟩ | h9
    · exact absurd h9 id
    · exact hQ hnc _ g25 j25 h9.2.1 oq oth
  · refine r_aloadR0 dX12_manyBy_0 ?_
    refine n_iconst dX12_manyBy_1 (by decide) (fun r1 e1_z => ?_)
    refine m_putI zf_RX12_77 (by intro C T N h_z; cases h_z; rfl) rfl dX12_manyBy_2 (shM_k hs) ?_
    obtain ⟨g2, hg2⟩ : ∃ g9, g9 = zu f A 4 r1 := ⟨_, rfl⟩
    rw [← hg2]
    have og2 : frM A [] [4] f g2 := by rw [hg2]; exact frM_zk frM_rf (by decide)
    have vg2 : g2 A 4 = r1 := by rw [hg2]; exact zu_at
    have vt2 : (g2 A 4).toInt = r1.toInt := by rw [vg2]
    have hk2 : ctKn (g2 (A + 1)) T := by rw [og2.2.1 1 (by decide) (by decide) (by decide)]; exact hk
    refine r_iload2 dX12_manyBy_5 ?_
    refine q_callS1 zm_RX12_499 dX12_manyBy_6 (Nat.le_of_ble_eq_true rfl) (Nat.le_of_ble_eq_true rfl) (Nat.le_of_ble_eq_true rfl) (Nat.le_of_ble_eq_true rfl) (Nat.le_of_ble_eq_true rfl) (s_X12_isMore G (fun r6 e6_z => ?_))
    refine t_ifne (t := 18) dX12_manyBy_9 (by decide) (fun h9 => False.elim (by omega)) (fun h9 => ?_)
    refine r_aloadR0 dX12_manyBy_12 ?_
    refine n_iconst dX12_manyBy_13 (by decide) (fun r13 e13_z => ?_)
    refine q_callV1 zm_RX12_244 dX12_manyBy_14 (shM_k hs) (by decide) rfl (Nat.le_of_ble_eq_true rfl) (Nat.le_of_ble_eq_true rfl) (Nat.le_of_ble_eq_true rfl) (Nat.le_of_ble_eq_true rfl) (Nat.le_of_ble_eq_true rfl) (s_X12_fails G hs (fun r14 g14 e14_z o14 v14 => ?_))
    refine r_iret dX12_manyBy_17 rfl (Nat.le_of_ble_eq_true rfl) (Nat.le_of_ble_eq_true rfl) ?_
    exact hT1 hnc _ g14 j (qM_q (show frM A [6, 7, 8, 9, 13, 16, 17] [4, 33, 34] f _ from (frM_tr (frM_su og2 (by decide) (by decide)) (frM_su o14 (by decide) (by decide))))) (by rw [v14]; omega)
set_option maxHeartbeats 4000000 in
set_option maxRecDepth 100000 in
theorem s_X12_looks {g : zGT} {w : zW} {f : Nat → Nat → Int32} {j : Nat → Nat → Int64} {A : Nat} {T : zTb} {x : Int32} {Q : Option Value → zW → Prop} {QX : String → zW → Prop} (G : zGok g) (hs : shM w A) (hk : ctKn (f (A + 1)) T) (hw : wfT T) (hmb : mbI f A) (htn : (f A 37).toInt < 1900000000) (hT1 : ¬ (0 ≤ x.toInt ∧ x.toInt ≤ 5) → ∀ (r : Int32) f2_z j2, qM A f f2_z j j2 0 → (f2_z A 4).toInt = 1 → Q (some (.int r)) (zM w f2_z j2)) (hQ : (0 ≤ x.toInt ∧ x.toInt ≤ 5) → ∀ (r : Int32) f2_z j2, r.toInt = ((cntS (fun _ _ => true) (fun L => lkN L (tbC T)) (allF (x.toInt.toNat + 1) (tbL T))).length : Nat) → qM A f f2_z j j2 1 → (f2_z A 4).toInt = 0 → Q (some (.int r)) (zM w f2_z j2)) : zC g 18 yX12_looks cX12_looks 2 (some .int) [.ref A, .int x] (zM w f j) (0, 0) Q QX := by
  refine zC_of G (by decide +kernel) (Nat.le_of_ble_eq_true rfl) ?_
  refine r_aloadR0 dX12_looks_0 ?_
  refine n_iconst dX12_looks_1 (by decide) (fun r1 e1_z => ?_)
  refine r_iload1 dX12_looks_2 ?_
  refine q_callV2 zm_RX12_505 dX12_looks_3 (shM_k hs) (by decide) rfl (Nat.le_of_ble_eq_true rfl) (Nat.le_of_ble_eq_true rfl) (Nat.le_of_ble_eq_true rfl) (Nat.le_of_ble_eq_true rfl) (Nat.le_of_ble_eq_true rfl) (s_X12_manyBy_loo G hs hk hw hmb htn (by omega) (fun hnc r3 g3_z j3 o3 t3 => (r_iret dX12_looks_6 rfl (Nat.le_of_ble_eq_true rfl) (Nat.le_of_ble_eq_true rfl) (hT1 hnc _ _ _ o3 t3))) (fun hnc r3 g3_z j3 e3_z o3 t3 => ?_))
  refine r_iret dX12_looks_6 rfl (Nat.le_of_ble_eq_true rfl) (Nat.le_of_ble_eq_true rfl) ?_
  exact hQ hnc _ g3_z j3 e3_z o3 t3
set_option maxHeartbeats 4000000 in
set_option maxRecDepth 100000 in
theorem s_X12_holding {g : zGT} {w : zW} {f : Nat → Nat → Int32} {j : Nat → Nat → Int64} {A : Nat} {T : zTb} {x : Int32} {Q : Option Value → zW → Prop} {QX : String → zW → Prop} (G : zGok g) (hs : shM w A) (hk : ctKn (f (A + 1)) T) (hw : wfT T) (hmb : mbI f A) (htn : (f A 37).toInt < 1900000000) (hT1 : ¬ (0 ≤ x.toInt ∧ x.toInt ≤ 5) → ∀ (r : Int32) f2_z j2, qM A f f2_z j j2 0 → (f2_z A 4).toInt = 1 → Q (some (.int r)) (zM w f2_z j2)) (hQ : (0 ≤ x.toInt ∧ x.toInt ≤ 5) → ∀ (r : Int32) f2_z j2, r.toInt = ((cntS (fun L r => decide (holV T L (T.2.2.1.2.length + r.length) ≠ 0)) (fun L => lkN L (tbC T)) (allF (x.toInt.toNat + 1) (tbL T))).length : Nat) → qM A f f2_z j j2 1 → (f2_z A 4).toInt = 0 → Q (some (.int r)) (zM w f2_z j2)) : zC g 18 yX12_holding cX12_holding 2 (some .int) [.ref A, .int x] (zM w f j) (0, 0) Q QX := by
  refine zC_of G (by decide +kernel) (Nat.le_of_ble_eq_true rfl) ?_
  refine r_aloadR0 dX12_holding_0 ?_
  refine n_iconst dX12_holding_1 (by decide) (fun r1 e1_z => ?_)
  refine r_iload1 dX12_holding_2 ?_
  refine q_callV2 zm_RX12_505 dX12_holding_3 (shM_k hs) (by decide) rfl (Nat.le_of_ble_eq_true rfl) (Nat.le_of_ble_eq_true rfl) (Nat.le_of_ble_eq_true rfl) (Nat.le_of_ble_eq_true rfl) (Nat.le_of_ble_eq_true rfl) (s_X12_manyBy_hol G hs hk hw hmb htn (by omega) (fun hnc r3 g3_z j3 o3 t3 => (r_iret dX12_holding_6 rfl (Nat.le_of_ble_eq_true rfl) (Nat.le_of_ble_eq_true rfl) (hT1 hnc _ _ _ o3 t3))) (fun hnc r3 g3_z j3 e3_z o3 t3 => ?_))
  refine r_iret dX12_holding_6 rfl (Nat.le_of_ble_eq_true rfl) (Nat.le_of_ble_eq_true rfl) ?_
  exact hQ hnc _ g3_z j3 e3_z o3 t3
