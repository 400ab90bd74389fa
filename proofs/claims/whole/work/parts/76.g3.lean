/-! the reference: what is asked at a look -/
set_option maxHeartbeats 4000000 in
set_option maxRecDepth 100000 in
theorem s_X12_keepsRow {g : zGT} {w : zW} {f : Nat → Nat → Int32} {j : Nat → Nat → Int64} {A dd : Nat} {r : List Nat} {x y : Int32} {Q : Option Value → zW → Prop} {QX : String → zW → Prop} (G : zGok g) (hs : shM w A) (h29 : (f A 29).toInt = (dd : Nat)) (hrw : ∀ i e, r[i]? = some e → (f (A + 11) i).toInt = ((e : Nat) : Int)) (hr5 : r.length ≤ 5) (hdd : dd ≤ 5) (hx : x.toInt = ((dd + r.length : Nat) : Int)) (hQ : ∀ f2_z, frM A [12] [31, 32] f f2_z → (f2_z A 31).toInt = y.toInt → (f2_z A 32).toInt = (r.length : Nat) → (∀ i e, r[i]? = some e → (f2_z (A + 12) i).toInt = ((e : Nat) : Int)) → Q none (zM w f2_z j)) : zC g 1 yX12_keepsRow cX12_keepsRow 4 none [.ref A, .int x, .int y] (zM w f j) (0, 0) Q QX := by
  refine zC_of G (by decide +kernel) (Nat.le_of_ble_eq_true rfl) ?_
  refine r_aloadR0 dX12_keepsRow_0 ?_
  refine r_iload2 dX12_keepsRow_1 ?_
  refine m_putI zf_RX12_425 (by intro C T N h_z; cases h_z; rfl) rfl dX12_keepsRow_2 (shM_k hs) ?_
  obtain ⟨g2, hg2⟩ : ∃ g9, g9 = zu f A 31 y := ⟨_, rfl⟩
  rw [← hg2]
  have og2 : frM A [] [31] f g2 := by rw [hg2]; exact frM_zk frM_rf (by decide)
  have vg2 : g2 A 31 = y := by rw [hg2]; exact zu_at
  have vt2 : (g2 A 31).toInt = y.toInt := by rw [vg2]
  refine r_aloadR0 dX12_keepsRow_5 ?_
  refine r_iload1 dX12_keepsRow_6 ?_
  refine r_aloadR0 dX12_keepsRow_7 ?_
  refine m_getV (x := (g2 A 29)) zf_RX12_419 rfl dX12_keepsRow_8 (shM_k hs) (rfl) ?_
  have w29 : (g2 A 29).toInt = (dd : Nat) := by rw [og2.2.2 29 (by decide)]; exact h29
  refine n_isub dX12_keepsRow_11 (by omega) (fun r11 e11_z => ?_)
  refine m_putI zf_RX12_428 (by intro C T N h_z; cases h_z; rfl) rfl dX12_keepsRow_12 (shM_k hs) ?_
  obtain ⟨g12, hg12⟩ : ∃ g9, g9 = zu g2 A 32 r11 := ⟨_, rfl⟩
  rw [← hg12]
  have og12 : frM A [] [32] g2 g12 := by rw [hg12]; exact frM_zk frM_rf (by decide)
  have vg12 : g12 A 32 = r11 := by rw [hg12]; exact zu_at
  have vt12 : (g12 A 32).toInt = r11.toInt := by rw [vg12]
  have lp : ∀ (mz : Nat) (c : Int32) (k : Nat) (f2_z : Nat → Nat → Int32), c.toInt = (k : Nat) → k ≤ r.length → (∀ q, q ≠ A + 12 → f2_z q = g12 q) → (∀ i, i < k → f2_z (A + 12) i = g12 (A + 11) i) → r.length - k < mz → zR (zV g 1 yX12_keepsRow 4 none (0, 0) Q QX) cX12_keepsRow yX12_keepsRow.cls 17 [some (.ref A), some (.int x), some (.int y), some (.int c)] [] (zM w f2_z j) (0, 0) := by
    intro mz
    induction mz with
    | zero =>
      intro c k f2_z hck hk8 ho hd_z hmz
      exact absurd hmz (Nat.not_lt_zero _)
    | succ mz ih =>
      intro c k f2_z hck hk8 ho hd_z hmz
      have w32 : (f2_z A 32).toInt = (r.length : Nat) := by rw [ho A (by omega)]; omega
      rcases Nat.lt_or_ge k r.length with hkl | hkl
      · refine r_iload3 dX12_keepsRow_17 ?_
        refine r_aloadR0 dX12_keepsRow_18 ?_
        refine m_getV (x := (f2_z A 32)) zf_RX12_428 rfl dX12_keepsRow_19 (shM_k hs) (rfl) ?_
        refine t_icge (t := 43) dX12_keepsRow_22 (by decide) (fun h22 => False.elim (by omega)) (fun h22 => ?_)
        refine r_aloadR0 dX12_keepsRow_25 ?_
        refine m_getR (q := (A + 12)) zf_RX12_48 rfl dX12_keepsRow_26 (shM_k hs) (shM_p12 hs) ?_
        refine r_iload3 dX12_keepsRow_29 ?_
        refine r_aloadR0 dX12_keepsRow_30 ?_
        refine m_getR (q := (A + 11)) zf_RX12_45 rfl dX12_keepsRow_31 (shM_k hs) (shM_p11 hs) ?_
        refine r_iload3 dX12_keepsRow_34 ?_
        refine m_iald (k := k) (x := (f2_z (A + 11) k)) dX12_keepsRow_35 (shM_k11 hs) (shM_n11 hs) (by omega) (by omega) (rfl) ?_
        refine m_iast (k := k) dX12_keepsRow_36 (shM_k12 hs) (shM_n12 hs) (by omega) (by omega) ?_
        refine n_iinc3 dX12_keepsRow_37 (by decide) rfl (by omega) (fun r37 e37 => ?_)
        refine r_goto (t := 17) dX12_keepsRow_40 (by decide) ?_
        refine ih _ (k + 1) _ (by omega) (by omega) (fun q hq => (zu_ne hq).trans (ho q hq)) (fun i hi_z => ?_) (by omega)
        rcases Nat.lt_or_ge i k with h9 | h9
        · rw [zu_nn (Or.inr (by omega))]
          exact hd_z i h9
        · rw [show i = k by omega, zu_at, ho (A + 11) (by omega)]
      · refine r_iload3 dX12_keepsRow_17 ?_
        refine r_aloadR0 dX12_keepsRow_18 ?_
        refine m_getV (x := (f2_z A 32)) zf_RX12_428 rfl dX12_keepsRow_19 (shM_k hs) (rfl) ?_
        refine t_icge (t := 43) dX12_keepsRow_22 (by decide) (fun h22 => ?_) (fun h22 => False.elim (by omega))
        refine r_vret dX12_keepsRow_43 rfl (Nat.le_of_ble_eq_true rfl) (Nat.le_of_ble_eq_true rfl) ?_
        refine hQ f2_z (frM_tr (frM_su og2 (by decide) (by decide)) (frM_tr (frM_su og12 (by decide) (by decide)) (show frM A [12] [31, 32] g12 f2_z from ⟨fun q hq => ho q (by omega), fun r h2 h3 h4 => ho _ (by intro e9_z; exact h4 (by simp; omega)), fun k9 _ => by rw [ho A (by omega)]⟩))) (by rw [ho A (by omega), og12.2.2 31 (by decide)]; omega) w32 (fun i e hi_z => ?_)
        rw [hd_z i (by have := (List.getElem?_eq_some_iff.mp hi_z).1; omega), og12.2.1 11 (by decide) (by decide) (by decide), og2.2.1 11 (by decide) (by decide) (by decide)]
        exact hrw i e hi_z
  refine n_iconst dX12_keepsRow_15 (by decide) (fun r15 e15_z => ?_)
  refine r_istore3 dX12_keepsRow_16 rfl ?_
  exact lp 6 _ 0 g12 (by omega) (by omega) (fun q hq => rfl) (fun i hi_z => absurd hi_z (by omega)) (by omega)
set_option maxHeartbeats 4000000 in
set_option maxRecDepth 100000 in
theorem s_X12_leastLiked {g : zGT} {w : zW} {f : Nat → Nat → Int32} {j : Nat → Nat → Int64} {A : Nat} {T : zTb} {d : Nat} {x : Int32} {L : zLy} {Q : Option Value → zW → Prop} {QX : String → zW → Prop} (G : zGok g) (hs : shM w A) (hk : ctKn (f (A + 1)) T) (hw : wfT T) (hx : x.toInt = (d : Nat)) (hd_z : d < 11) (hLi : ctLi (f (A + 6)) d L) (hr : rch (tbC T) L) (hQ : ∀ (r : Int32) f2_z, r.toInt = leaV T L d (tbG T) → frM A [8, 9] [] f f2_z → Q (some (.int r)) (zM w f2_z j)) : zC g 7 yX12_leastLiked cX12_leastLiked 4 (some .int) [.ref A, .int x] (zM w f j) (0, 0) Q QX := by
  refine zC_of G (by decide +kernel) (Nat.le_of_ble_eq_true rfl) ?_
  have hn6 : tbC T ≤ 6 := hw.2.1
  have hg4 : tbG T ≤ 4 := hw.2.2.1
  have hrc := rch_cell hr
  have hLn : L.length ≤ 6 := Nat.le_trans hrc.2.2.2.2 hn6
  have hm99 := hw.2.2.2.2.2.2.2.1.2.2
  have lp : ∀ (mz : Nat) (v : Int32) (c : Int32) (k : Nat) (f2_z : Nat → Nat → Int32), c.toInt = (k : Nat) → k ≤ tbG T → frM A [8, 9] [] f f2_z → (k = 0 ∧ v.toInt = (if tbG T = 0 then 0 else 536870912) ∨ 1 ≤ k ∧ v.toInt = leaV T L d k) → tbG T - k < mz → zR (zV g 7 yX12_leastLiked 4 (some .int) (0, 0) Q QX) cX12_leastLiked yX12_leastLiked.cls 19 [some (.ref A), some (.int x), some (.int v), some (.int c)] [] (zM w f2_z j) (0, 0) := by
    intro mz
    induction mz with
    | zero =>
      intro v c k f2_z hck hk8 ho hv hmz
      exact absurd hmz (Nat.not_lt_zero _)
    | succ mz ih =>
      intro v c k f2_z hck hk8 ho hv hmz
      have hk2 : ctKn (f2_z (A + 1)) T := by rw [ho.2.1 1 (by decide) (by decide) (by decide)]; exact hk
      have hLi2 : ctLi (f2_z (A + 6)) d L := by rw [ho.2.1 6 (by decide) (by decide) (by decide)]; exact hLi
      have q2_z : (f2_z (A + 1) 2).toInt = (tbG T : Nat) := hk2.1.2.2.1
      rcases Nat.lt_or_ge k (tbG T) with hkl | hkl
      · refine r_iload3 dX12_leastLiked_19 ?_
        refine r_aloadR0 dX12_leastLiked_20 ?_
        refine m_getR (q := (A + 1)) zf_RX12_9 rfl dX12_leastLiked_21 (shM_k hs) (shM_p1 hs) ?_
        refine n_iconst dX12_leastLiked_24 (by decide) (fun r24 e24_z => ?_)
        refine m_iald (k := 2) (x := (f2_z (A + 1) 2)) dX12_leastLiked_25 (shM_k1 hs) (shM_n1 hs) (by omega) (by omega) (rfl) ?_
        refine t_icge (t := 46) dX12_leastLiked_26 (by decide) (fun h26 => False.elim (by omega)) (fun h26 => ?_)
        refine r_iload2 dX12_leastLiked_29 ?_
        refine r_aloadR0 dX12_leastLiked_30 ?_
        refine r_iload1 dX12_leastLiked_31 ?_
        refine r_iload3 dX12_leastLiked_32 ?_
        refine q_callV2 zm_RX12_355 dX12_leastLiked_33 (shM_k hs) (by decide) rfl (Nat.le_of_ble_eq_true rfl) (Nat.le_of_ble_eq_true rfl) (Nat.le_of_ble_eq_true rfl) (Nat.le_of_ble_eq_true rfl) (Nat.le_of_ble_eq_true rfl) (s_X12_lik (L := L) (T := T) (gu := k) G hs hk2 hw hx hd_z hLi2 hr hck hkl (fun r33 g33 e33_z o33 => ?_))
        have o2x : frM A [8, 9] [] f g33 := frM_tr ho o33
        refine r_mmin zm_RX12_299 dX12_leastLiked_36 (Nat.le_of_ble_eq_true rfl) (Nat.le_of_ble_eq_true rfl) (Nat.le_of_ble_eq_true rfl) (Nat.le_of_ble_eq_true rfl) (Nat.le_of_ble_eq_true rfl) (fun r36 e36 => ?_)
        refine r_istore2 dX12_leastLiked_39 rfl ?_
        refine n_iinc3 dX12_leastLiked_40 (by decide) rfl (by omega) (fun r40 e40 => ?_)
        refine r_goto (t := 19) dX12_leastLiked_43 (by decide) ?_
        have hlb := likV_bd (gu := k) hw hr (show d < 100 by omega) (by omega)
        unfold bdI at hlb
        refine ih _ _ (k + 1) _ (by omega) (by omega) o2x (Or.inr ⟨by omega, ?_⟩) (by omega)
        have hle : leaV T L d (k + 1) = if k = 0 then likV T L d 0 else min (leaV T L d k) (likV T L d k) := rfl
        rcases hv with ⟨h8, h9⟩ | ⟨h8, h9⟩
        · subst h8
          rw [hle, if_pos rfl]
          omega
        · rw [hle, if_neg (by omega)]
          omega
      · refine r_iload3 dX12_leastLiked_19 ?_
        refine r_aloadR0 dX12_leastLiked_20 ?_
        refine m_getR (q := (A + 1)) zf_RX12_9 rfl dX12_leastLiked_21 (shM_k hs) (shM_p1 hs) ?_
        refine n_iconst dX12_leastLiked_24 (by decide) (fun r24 e24_z => ?_)
        refine m_iald (k := 2) (x := (f2_z (A + 1) 2)) dX12_leastLiked_25 (shM_k1 hs) (shM_n1 hs) (by omega) (by omega) (rfl) ?_
        refine t_icge (t := 46) dX12_leastLiked_26 (by decide) (fun h26 => ?_) (fun h26 => False.elim (by omega))
        refine r_iload2 dX12_leastLiked_46 ?_
        refine r_iret dX12_leastLiked_47 rfl (Nat.le_of_ble_eq_true rfl) (Nat.le_of_ble_eq_true rfl) ?_
        rcases hv with ⟨h8, h9⟩ | ⟨h8, h9⟩
        · refine hQ _ f2_z ?_ ho
          rw [show tbG T = 0 by omega] at h9 ⊢
          rw [if_pos rfl] at h9
          exact h9
        · exact hQ _ f2_z (by rw [h9, show k = tbG T by omega]) ho
  have q2_z : (f (A + 1) 2).toInt = (tbG T : Nat) := hk.1.2.2.1
  refine r_aloadR0 dX12_leastLiked_0 ?_
  refine m_getR (q := (A + 1)) zf_RX12_9 rfl dX12_leastLiked_1 (shM_k hs) (shM_p1 hs) ?_
  refine n_iconst dX12_leastLiked_4 (by decide) (fun r4 e4_z => ?_)
  refine m_iald (k := 2) (x := (f (A + 1) 2)) dX12_leastLiked_5 (shM_k1 hs) (shM_n1 hs) (by omega) (by omega) (rfl) ?_
  refine t_ifne (t := 13) dX12_leastLiked_6 (by decide) (fun h6 => ?_) (fun h6 => ?_)
  · refine n_ldcw (n := 536870912) zk_RX12_431 dX12_leastLiked_13 (by decide) (fun r13 e13_z => ?_)
    refine r_istore2 dX12_leastLiked_16 rfl ?_
    refine n_iconst dX12_leastLiked_17 (by decide) (fun r17 e17_z => ?_)
    refine r_istore3 dX12_leastLiked_18 rfl ?_
    refine lp 5 _ _ 0 f (by omega) (by omega) frM_rf (Or.inl ⟨rfl, ?_⟩) (by omega)
    first
      | (rw [if_pos (by omega)]; omega)
      | (rw [if_neg (by omega)]; omega)
  · refine n_iconst dX12_leastLiked_9 (by decide) (fun r9 e9_z => ?_)
    refine r_goto (t := 16) dX12_leastLiked_10 (by decide) ?_
    refine r_istore2 dX12_leastLiked_16 rfl ?_
    refine n_iconst dX12_leastLiked_17 (by decide) (fun r17 e17_z => ?_)
    refine r_istore3 dX12_leastLiked_18 rfl ?_
    refine lp 5 _ _ 0 f (by omega) (by omega) frM_rf (Or.inl ⟨rfl, ?_⟩) (by omega)
    first
      | (rw [if_pos (by omega)]; omega)
      | (rw [if_neg (by omega)]; omega)
set_option maxHeartbeats 4000000 in
set_option maxRecDepth 100000 in
theorem s_X12_isBetter {g : zGT} {w : zW} {f : Nat → Nat → Int32} {j : Nat → Nat → Int64} {A : Nat} {T : zTb} {d : Nat} {x : Int32} {L : zLy} {K : Nat → Int} {Q : Option Value → zW → Prop} {QX : String → zW → Prop} (G : zGok g) (hs : shM w A) (hk : ctKn (f (A + 1)) T) (hw : wfT T) (hx : x.toInt = (d : Nat)) (hd_z : d < 11) (hLi : ctLi (f (A + 6)) d L) (hr : rch (tbC T) L) (hK_z : ∀ i, i < tbG T → (f (A + 13) i).toInt = K i) (hQ : ∀ (r : Int32) f2_z, r.toInt = plV K (likV T L d) (tbG T) → frM A [8, 9] [] f f2_z → Q (some (.int r)) (zM w f2_z j)) : zC g 7 yX12_isBetter cX12_isBetter 5 (some .boolean) [.ref A, .int x] (zM w f j) (0, 0) Q QX := by
  refine zC_of G (by decide +kernel) (Nat.le_of_ble_eq_true rfl) ?_
  have hn6 : tbC T ≤ 6 := hw.2.1
  have hg4 : tbG T ≤ 4 := hw.2.2.1
  have hrc := rch_cell hr
  have hLn : L.length ≤ 6 := Nat.le_trans hrc.2.2.2.2 hn6
  have hm99 := hw.2.2.2.2.2.2.2.1.2.2
  have lp : ∀ (mz : Nat) (v : Int32) (c : Int32) (k : Nat) (f2_z : Nat → Nat → Int32) (v4_ : Option Value), c.toInt = (k : Nat) → k ≤ tbG T → frM A [8, 9] [] f f2_z → plA K (likV T L d) k = true → v.toInt = (if plE K (likV T L d) k = true then 1 else 0) → tbG T - k < mz → zR (zV g 7 yX12_isBetter 5 (some .boolean) (0, 0) Q QX) cX12_isBetter yX12_isBetter.cls 4 [some (.ref A), some (.int x), some (.int v), some (.int c), v4_] [] (zM w f2_z j) (0, 0) := by
    intro mz
    induction mz with
    | zero =>
      intro v c k f2_z v4_ hck hk8 ho hA hv hmz
      exact absurd hmz (Nat.not_lt_zero _)
    | succ mz ih =>
      intro v c k f2_z v4_ hck hk8 ho hA hv hmz
      have hk2 : ctKn (f2_z (A + 1)) T := by rw [ho.2.1 1 (by decide) (by decide) (by decide)]; exact hk
      have hLi2 : ctLi (f2_z (A + 6)) d L := by rw [ho.2.1 6 (by decide) (by decide) (by decide)]; exact hLi
      have q2_z : (f2_z (A + 1) 2).toInt = (tbG T : Nat) := hk2.1.2.2.1
      rcases Nat.lt_or_ge k (tbG T) with hkl | hkl
      · have hKk : (f2_z (A + 13) k).toInt = K k := by rw [ho.2.1 13 (by decide) (by decide) (by decide)]; exact hK_z k hkl
        rcases Int.lt_or_le (likV T L d k) (K k) with hb_z | hb_z
        · refine r_iload3 dX12_isBetter_4 ?_
          refine r_aloadR0 dX12_isBetter_5 ?_
          refine m_getR (q := (A + 1)) zf_RX12_9 rfl dX12_isBetter_6 (shM_k hs) (shM_p1 hs) ?_
          refine n_iconst dX12_isBetter_9 (by decide) (fun r9 e9_z => ?_)
          refine m_iald (k := 2) (x := (f2_z (A + 1) 2)) dX12_isBetter_10 (shM_k1 hs) (shM_n1 hs) (by omega) (by omega) (rfl) ?_
          refine t_icge (t := 62) dX12_isBetter_11 (by decide) (fun h11 => False.elim (by omega)) (fun h11 => ?_)
          refine r_aloadR0 dX12_isBetter_14 ?_
          refine r_iload1 dX12_isBetter_15 ?_
          refine r_iload3 dX12_isBetter_16 ?_
          refine q_callV2 zm_RX12_355 dX12_isBetter_17 (shM_k hs) (by decide) rfl (Nat.le_of_ble_eq_true rfl) (Nat.le_of_ble_eq_true rfl) (Nat.le_of_ble_eq_true rfl) (Nat.le_of_ble_eq_true rfl) (Nat.le_of_ble_eq_true rfl) (s_X12_lik (L := L) (T := T) (gu := k) G hs hk2 hw hx hd_z hLi2 hr hck hkl (fun r17 g17 e17_z o17 => ?_))
          have o2x : frM A [8, 9] [] f g17 := frM_tr ho o17
          have hK2 : (g17 (A + 13) k).toInt = K k := by rw [o17.2.1 13 (by decide) (by decide) (by decide)]; exact hKk
          refine r_istore4 dX12_isBetter_20 rfl ?_
          refine r_iload4 dX12_isBetter_22 ?_
          refine r_aloadR0 dX12_isBetter_24 ?_
          refine m_getR (q := (A + 13)) zf_RX12_51 rfl dX12_isBetter_25 (shM_k hs) (shM_p13 hs) ?_
          refine r_iload3 dX12_isBetter_28 ?_
          refine m_iald (k := k) (x := (g17 (A + 13) k)) dX12_isBetter_29 (shM_k13 hs) (shM_n13 hs) (by omega) (by omega) (rfl) ?_
          refine t_icge (t := 35) dX12_isBetter_30 (by decide) (fun h30 => False.elim (by omega)) (fun h30 => ?_)
          refine n_iconst dX12_isBetter_33 (by decide) (fun r33 e33_z => ?_)
          refine m_zret dX12_isBetter_34 rfl (by omega) (Nat.le_of_ble_eq_true rfl) (Nat.le_of_ble_eq_true rfl) ?_
          refine hQ _ g17 ?_ o2x
          unfold plV
          rw [if_neg (by rw [plA_no hkl hb_z]; simp)]
          omega
        · refine r_iload3 dX12_isBetter_4 ?_
          refine r_aloadR0 dX12_isBetter_5 ?_
          refine m_getR (q := (A + 1)) zf_RX12_9 rfl dX12_isBetter_6 (shM_k hs) (shM_p1 hs) ?_
          refine n_iconst dX12_isBetter_9 (by decide) (fun r9 e9_z => ?_)
          refine m_iald (k := 2) (x := (f2_z (A + 1) 2)) dX12_isBetter_10 (shM_k1 hs) (shM_n1 hs) (by omega) (by omega) (rfl) ?_
          refine t_icge (t := 62) dX12_isBetter_11 (by decide) (fun h11 => False.elim (by omega)) (fun h11 => ?_)
          refine r_aloadR0 dX12_isBetter_14 ?_
          refine r_iload1 dX12_isBetter_15 ?_
          refine r_iload3 dX12_isBetter_16 ?_
          refine q_callV2 zm_RX12_355 dX12_isBetter_17 (shM_k hs) (by decide) rfl (Nat.le_of_ble_eq_true rfl) (Nat.le_of_ble_eq_true rfl) (Nat.le_of_ble_eq_true rfl) (Nat.le_of_ble_eq_true rfl) (Nat.le_of_ble_eq_true rfl) (s_X12_lik (L := L) (T := T) (gu := k) G hs hk2 hw hx hd_z hLi2 hr hck hkl (fun r17 g17 e17_z o17 => ?_))
          have o2x : frM A [8, 9] [] f g17 := frM_tr ho o17
          have hK2 : (g17 (A + 13) k).toInt = K k := by rw [o17.2.1 13 (by decide) (by decide) (by decide)]; exact hKk
          refine r_istore4 dX12_isBetter_20 rfl ?_
          refine r_iload4 dX12_isBetter_22 ?_
          refine r_aloadR0 dX12_isBetter_24 ?_
          refine m_getR (q := (A + 13)) zf_RX12_51 rfl dX12_isBetter_25 (shM_k hs) (shM_p13 hs) ?_
          refine r_iload3 dX12_isBetter_28 ?_
          refine m_iald (k := k) (x := (g17 (A + 13) k)) dX12_isBetter_29 (shM_k13 hs) (shM_n13 hs) (by omega) (by omega) (rfl) ?_
          refine t_icge (t := 35) dX12_isBetter_30 (by decide) (fun h30 => ?_) (fun h30 => False.elim (by omega))
          refine r_iload2 dX12_isBetter_35 ?_
          refine t_ifne (t := 50) dX12_isBetter_36 (by decide) (fun h36 => ?_) (fun h36 => ?_)
          · refine n_iconst dX12_isBetter_50 (by decide) (fun r50 e50 => ?_)
            refine r_goto (t := 55) dX12_isBetter_51 (by decide) ?_
            refine r_istore2 dX12_isBetter_55 rfl ?_
            refine n_iinc3 dX12_isBetter_56 (by decide) rfl (by omega) (fun r56 e56 => ?_)
            refine r_goto (t := 4) dX12_isBetter_59 (by decide) ?_
            refine ih _ _ (k + 1) _ _ (by omega) (by omega) o2x (plA_s hA hb_z) ?_ (by omega)
            rw [plE_s]
            rcases Int.lt_or_le (K k) (likV T L d k) with h9 | h9
            · rw [decide_eq_true h9, Bool.or_true, if_pos rfl]; omega
            · rw [decide_eq_false (by omega), Bool.or_false]
              by_cases hp9 : plE K (likV T L d) k = true
              · rw [if_pos hp9] at hv ⊢; omega
              · rw [if_neg hp9] at hv ⊢; omega
          · refine r_iload4 dX12_isBetter_39 ?_
            refine r_aloadR0 dX12_isBetter_41 ?_
            refine m_getR (q := (A + 13)) zf_RX12_51 rfl dX12_isBetter_42 (shM_k hs) (shM_p13 hs) ?_
            refine r_iload3 dX12_isBetter_45 ?_
            refine m_iald (k := k) (x := (g17 (A + 13) k)) dX12_isBetter_46 (shM_k13 hs) (shM_n13 hs) (by omega) (by omega) (rfl) ?_
            refine t_icle (t := 54) dX12_isBetter_47 (by decide) (fun h47 => ?_) (fun h47 => ?_)
            · refine n_iconst dX12_isBetter_54 (by decide) (fun r54 e54 => ?_)
              refine r_istore2 dX12_isBetter_55 rfl ?_
              refine n_iinc3 dX12_isBetter_56 (by decide) rfl (by omega) (fun r56 e56 => ?_)
              refine r_goto (t := 4) dX12_isBetter_59 (by decide) ?_
              refine ih _ _ (k + 1) _ _ (by omega) (by omega) o2x (plA_s hA hb_z) ?_ (by omega)
              rw [plE_s]
              rcases Int.lt_or_le (K k) (likV T L d k) with h9 | h9
              · rw [decide_eq_true h9, Bool.or_true, if_pos rfl]; omega
              · rw [decide_eq_false (by omega), Bool.or_false]
                by_cases hp9 : plE K (likV T L d) k = true
                · rw [if_pos hp9] at hv ⊢; omega
                · rw [if_neg hp9] at hv ⊢; omega
            · refine n_iconst dX12_isBetter_50 (by decide) (fun r50 e50 => ?_)
              refine r_goto (t := 55) dX12_isBetter_51 (by decide) ?_
              refine r_istore2 dX12_isBetter_55 rfl ?_
              refine n_iinc3 dX12_isBetter_56 (by decide) rfl (by omega) (fun r56 e56 => ?_)
              refine r_goto (t := 4) dX12_isBetter_59 (by decide) ?_
              refine ih _ _ (k + 1) _ _ (by omega) (by omega) o2x (plA_s hA hb_z) ?_ (by omega)
              rw [plE_s]
              rcases Int.lt_or_le (K k) (likV T L d k) with h9 | h9
              · rw [decide_eq_true h9, Bool.or_true, if_pos rfl]; omega
              · rw [decide_eq_false (by omega), Bool.or_false]
                by_cases hp9 : plE K (likV T L d) k = true
                · rw [if_pos hp9] at hv ⊢; omega
                · rw [if_neg hp9] at hv ⊢; omega
      · refine r_iload3 dX12_isBetter_4 ?_
        refine r_aloadR0 dX12_isBetter_5 ?_
        refine m_getR (q := (A + 1)) zf_RX12_9 rfl dX12_isBetter_6 (shM_k hs) (shM_p1 hs) ?_
        refine n_iconst dX12_isBetter_9 (by decide) (fun r9 e9_z => ?_)
        refine m_iald (k := 2) (x := (f2_z (A + 1) 2)) dX12_isBetter_10 (shM_k1 hs) (shM_n1 hs) (by omega) (by omega) (rfl) ?_
        refine t_icge (t := 62) dX12_isBetter_11 (by decide) (fun h11 => ?_) (fun h11 => False.elim (by omega))
        refine r_iload2 dX12_isBetter_62 ?_
        refine m_zret dX12_isBetter_63 rfl (by omega) (Nat.le_of_ble_eq_true rfl) (Nat.le_of_ble_eq_true rfl) ?_
        refine hQ _ f2_z ?_ ho
        have hkg : k = tbG T := by omega
        rw [hkg] at hA hv
        unfold plV
        split at hv
        · rename_i h9
          rw [if_pos ⟨hA, h9⟩]; exact hv
        · rename_i h9
          rw [if_neg (fun e9_z => h9 e9_z.2)]; exact hv
  refine n_iconst dX12_isBetter_0 (by decide) (fun r0 e0_z => ?_)
  refine r_istore2 dX12_isBetter_1 rfl ?_
  refine n_iconst dX12_isBetter_2 (by decide) (fun r2 e2_z => ?_)
  refine r_istore3 dX12_isBetter_3 rfl ?_
  exact lp 5 _ _ 0 f _ (by omega) (by omega) frM_rf rfl (by rw [if_neg (by unfold plE; simp)]; omega) (by omega)
set_option maxHeartbeats 4000000 in
set_option maxRecDepth 100000 in
theorem s_X12_looksSo {g : zGT} {w : zW} {f : Nat → Nat → Int32} {j : Nat → Nat → Int64} {A : Nat} {T : zTb} {d : Nat} {x : Int32} {L : zLy} {t s : Nat} {y : Int32} {l : List Int} {Q : Option Value → zW → Prop} {QX : String → zW → Prop} (G : zGok g) (hs : shM w A) (hk : ctKn (f (A + 1)) T) (hw : wfT T) (hx : x.toInt = (d : Nat)) (hd_z : d < 11) (hLi : ctLi (f (A + 6)) d L) (hr : rch (tbC T) L) (hy : y.toInt = (t : Nat)) (ht : t < 4) (hct : ctTm f j A t (some (s, l))) (hQ : ∀ (r : Int32), (r.toInt = 1 ∧ (lookC T.2.2.1.1 L l) ∨ r.toInt = 0 ∧ ¬ (lookC T.2.2.1.1 L l)) → Q (some (.int r)) (zM w f j)) : zC g 3 yX12_looksSo cX12_looksSo 4 (some .boolean) [.ref A, .int x, .int y] (zM w f j) (0, 0) Q QX := by
  refine zC_of G (by decide +kernel) (Nat.le_of_ble_eq_true rfl) ?_
  have hn6 : tbC T ≤ 6 := hw.2.1
  have hg4 : tbG T ≤ 4 := hw.2.2.1
  have hrc := rch_cell hr
  have hLn : L.length ≤ 6 := Nat.le_trans hrc.2.2.2.2 hn6
  have hm99 := hw.2.2.2.2.2.2.2.1.2.2
  have hct9 := hct
  obtain ⟨t1, t2, t3, t4, t5⟩ := hct9
  have hll : (f (A + 6) (43 * d)).toInt = (L.length : Nat) := hLi.1
  rcases Classical.em (l.length = L.length) with hlen | hlen
  · have hlen9 := hlen
    have lp : ∀ (mz : Nat) (c : Int32) (k : Nat), c.toInt = (k : Nat) → k ≤ l.length → (∀ (i : Nat) (v : Int), i < k → l[i]? = some v → v = -1 ∨ v = (seenA T.2.2.1.1 L i : Nat)) → l.length - k < mz → zR (zV g 3 yX12_looksSo 4 (some .boolean) (0, 0) Q QX) cX12_looksSo yX12_looksSo.cls 18 [some (.ref A), some (.int x), some (.int y), some (.int c)] [] (zM w f j) (0, 0) := by
      intro mz
      induction mz with
      | zero =>
        intro c k hck hk8 hd_ hmz
        exact absurd hmz (Nat.not_lt_zero _)
      | succ mz ih =>
        intro c k hck hk8 hd_ hmz
        rcases Nat.lt_or_ge k l.length with hkl | hkl
        · obtain ⟨v, hv⟩ : ∃ v, l[k]? = some v := ⟨_, List.getElem?_eq_getElem hkl⟩
          have hnum := t5 k v hv
          have hab : seenA T.2.2.1.1 L k ≤ 99 := seenA_le hm99
          refine r_iload3 dX12_looksSo_18 ?_
          refine r_aloadR0 dX12_looksSo_19 ?_
          refine m_getR (q := (A + 19)) zf_RX12_71 rfl dX12_looksSo_20 (shM_k hs) (shM_p19 hs) ?_
          refine r_iload2 dX12_looksSo_23 ?_
          refine m_iald (k := t) (x := (f (A + 19) t)) dX12_looksSo_24 (shM_k19 hs) (shM_n19 hs) (by omega) (by omega) (rfl) ?_
          refine t_icge (t := 76) dX12_looksSo_25 (by decide) (fun h25 => False.elim (by omega)) (fun h25 => ?_)
          refine r_aloadR0 dX12_looksSo_28 ?_
          refine m_getR (q := (A + 20)) zf_RX12_74 rfl dX12_looksSo_29 (shM_k hs) (shM_p20 hs) ?_
          refine n_bipush dX12_looksSo_32 (by decide) (fun r32 e32 => ?_)
          refine r_iload2 dX12_looksSo_34 ?_
          refine n_imulc dX12_looksSo_35 e32 (by omega) (fun r35 e35 => ?_)
          refine r_iload3 dX12_looksSo_36 ?_
          refine n_iadd dX12_looksSo_37 (by omega) (fun r37 e37 => ?_)
          refine m_lald (k := (30 * t + k)) (x := (j (A + 20) ((30 * t + k)))) dX12_looksSo_38 (shM_k20 hs) (shM_n20 hs) (by omega) (by omega) (rfl) ?_
          refine n_ldc2 (n := -1) zk_RX12_375 dX12_looksSo_39 (by decide) (fun r39 e39 => ?_)
          refine n_lcmp dX12_looksSo_42 (fun r42 e42_z => ?_)
          unfold zcmp at e42_z
          refine t_ifeq (t := 70) dX12_looksSo_43 (by decide) (fun h43 => ?_) (fun h43 => ?_)
          · refine n_iinc3 dX12_looksSo_70 (by decide) rfl (by omega) (fun r70 e70 => ?_)
            refine r_goto (t := 18) dX12_looksSo_73 (by decide) ?_
            refine ih _ (k + 1) (by omega) (by omega) (fun i u hi_z h9 => ?_) (by omega)
            rcases Nat.lt_or_ge i k with h8 | h8
            · exact hd_ i u h8 h9
            · rw [show i = k by omega, hv] at h9
              rw [← Option.some.inj h9, show i = k by omega]
              omega
          · refine r_aloadR0 dX12_looksSo_46 ?_
            refine m_getR (q := (A + 20)) zf_RX12_74 rfl dX12_looksSo_47 (shM_k hs) (shM_p20 hs) ?_
            refine n_bipush dX12_looksSo_50 (by decide) (fun r50 e50 => ?_)
            refine r_iload2 dX12_looksSo_52 ?_
            refine n_imulc dX12_looksSo_53 e50 (by omega) (fun r53 e53 => ?_)
            refine r_iload3 dX12_looksSo_54 ?_
            refine n_iadd dX12_looksSo_55 (by omega) (fun r55 e55 => ?_)
            refine m_lald (k := (30 * t + k)) (x := (j (A + 20) ((30 * t + k)))) dX12_looksSo_56 (shM_k20 hs) (shM_n20 hs) (by omega) (by omega) (rfl) ?_
            refine r_aloadR0 dX12_looksSo_57 ?_
            refine r_iload1 dX12_looksSo_58 ?_
            refine r_iload3 dX12_looksSo_59 ?_
            refine q_callV2 zm_RX12_287 dX12_looksSo_60 (shM_k hs) (by decide) rfl (Nat.le_of_ble_eq_true rfl) (Nat.le_of_ble_eq_true rfl) (Nat.le_of_ble_eq_true rfl) (Nat.le_of_ble_eq_true rfl) (Nat.le_of_ble_eq_true rfl) (s_X12_aboveAt (mk := T.2.2.1.1) (n := tbC T) (c := k) G hs (fun c hc_z => hk.2.1.2.2 c hc_z) hx hd_z hLi hr hck (by omega) (fun r60 e60 => ?_))
            refine n_i2l dX12_looksSo_63 (fun r63 e63 => ?_)
            refine n_lcmp dX12_looksSo_64 (fun r64 e64 => ?_)
            unfold zcmp at e64
            refine t_ifeq (t := 70) dX12_looksSo_65 (by decide) (fun h65 => ?_) (fun h65 => ?_)
            · refine n_iinc3 dX12_looksSo_70 (by decide) rfl (by omega) (fun r70 e70 => ?_)
              refine r_goto (t := 18) dX12_looksSo_73 (by decide) ?_
              refine ih _ (k + 1) (by omega) (by omega) (fun i u hi_z h9 => ?_) (by omega)
              rcases Nat.lt_or_ge i k with h8 | h8
              · exact hd_ i u h8 h9
              · rw [show i = k by omega, hv] at h9
                rw [← Option.some.inj h9, show i = k by omega]
                omega
            · refine n_iconst dX12_looksSo_68 (by decide) (fun r68 e68 => ?_)
              refine m_zret dX12_looksSo_69 rfl (by omega) (Nat.le_of_ble_eq_true rfl) (Nat.le_of_ble_eq_true rfl) ?_
              refine hQ _ (Or.inr ⟨by omega, fun h9 => ?_⟩)
              rcases h9.2 k v hv with h8 | h8 <;> omega
        · refine r_iload3 dX12_looksSo_18 ?_
          refine r_aloadR0 dX12_looksSo_19 ?_
          refine m_getR (q := (A + 19)) zf_RX12_71 rfl dX12_looksSo_20 (shM_k hs) (shM_p19 hs) ?_
          refine r_iload2 dX12_looksSo_23 ?_
          refine m_iald (k := t) (x := (f (A + 19) t)) dX12_looksSo_24 (shM_k19 hs) (shM_n19 hs) (by omega) (by omega) (rfl) ?_
          refine t_icge (t := 76) dX12_looksSo_25 (by decide) (fun h25 => ?_) (fun h25 => False.elim (by omega))
          refine n_iconst dX12_looksSo_76 (by decide) (fun r76 e76 => ?_)
          refine m_zret dX12_looksSo_77 rfl (by omega) (Nat.le_of_ble_eq_true rfl) (Nat.le_of_ble_eq_true rfl) ?_
          exact hQ _ (Or.inl ⟨by omega, hlen, fun i u hi_z => hd_ i u (by have := (List.getElem?_eq_some_iff.mp hi_z).1; omega) hi_z⟩)
    refine r_aloadR0 dX12_looksSo_0 ?_
    refine r_iload1 dX12_looksSo_1 ?_
    refine q_callV1 zm_RX12_256 dX12_looksSo_2 (shM_k hs) (by decide) rfl (Nat.le_of_ble_eq_true rfl) (Nat.le_of_ble_eq_true rfl) (Nat.le_of_ble_eq_true rfl) (Nat.le_of_ble_eq_true rfl) (Nat.le_of_ble_eq_true rfl) (s_X12_columnsAt (v := L.length) G hs hx hd_z hll (fun r2 e2_z => ?_))
    refine r_aloadR0 dX12_looksSo_5 ?_
    refine m_getR (q := (A + 19)) zf_RX12_71 rfl dX12_looksSo_6 (shM_k hs) (shM_p19 hs) ?_
    refine r_iload2 dX12_looksSo_9 ?_
    refine m_iald (k := t) (x := (f (A + 19) t)) dX12_looksSo_10 (shM_k19 hs) (shM_n19 hs) (by omega) (by omega) (rfl) ?_
    refine t_iceq (t := 16) dX12_looksSo_11 (by decide) (fun h11 => ?_) (fun h11 => False.elim (by omega))
    refine n_iconst dX12_looksSo_16 (by decide) (fun r16 e16_z => ?_)
    refine r_istore3 dX12_looksSo_17 rfl ?_
    exact lp 31 _ 0 (by omega) (by omega) (fun i v hi_z => absurd hi_z (by omega)) (by omega)
  · refine r_aloadR0 dX12_looksSo_0 ?_
    refine r_iload1 dX12_looksSo_1 ?_
    refine q_callV1 zm_RX12_256 dX12_looksSo_2 (shM_k hs) (by decide) rfl (Nat.le_of_ble_eq_true rfl) (Nat.le_of_ble_eq_true rfl) (Nat.le_of_ble_eq_true rfl) (Nat.le_of_ble_eq_true rfl) (Nat.le_of_ble_eq_true rfl) (s_X12_columnsAt (v := L.length) G hs hx hd_z hll (fun r2 e2_z => ?_))
    refine r_aloadR0 dX12_looksSo_5 ?_
    refine m_getR (q := (A + 19)) zf_RX12_71 rfl dX12_looksSo_6 (shM_k hs) (shM_p19 hs) ?_
    refine r_iload2 dX12_looksSo_9 ?_
    refine m_iald (k := t) (x := (f (A + 19) t)) dX12_looksSo_10 (shM_k19 hs) (shM_n19 hs) (by omega) (by omega) (rfl) ?_
    refine t_iceq (t := 16) dX12_looksSo_11 (by decide) (fun h11 => False.elim (by omega)) (fun h11 => ?_)
    refine n_iconst dX12_looksSo_14 (by decide) (fun r14 e14_z => ?_)
    refine m_zret dX12_looksSo_15 rfl (by omega) (Nat.le_of_ble_eq_true rfl) (Nat.le_of_ble_eq_true rfl) ?_
    exact hQ _ (Or.inr ⟨by omega, fun h9 => hlen h9.1⟩)
set_option maxHeartbeats 4000000 in
set_option maxRecDepth 100000 in
theorem s_X12_isStack {g : zGT} {w : zW} {f : Nat → Nat → Int32} {j : Nat → Nat → Int64} {A : Nat} {T : zTb} {d : Nat} {x : Int32} {L : zLy} {t s : Nat} {y : Int32} {l : List Int} {Q : Option Value → zW → Prop} {QX : String → zW → Prop} (G : zGok g) (hs : shM w A) (hk : ctKn (f (A + 1)) T) (hw : wfT T) (hx : x.toInt = (d : Nat)) (hd_z : d < 11) (hLi : ctLi (f (A + 6)) d L) (hr : rch (tbC T) L) (hy : y.toInt = (t : Nat)) (ht : t < 4) (hct : ctTm f j A t (some (s, l))) (hln : l.length = tbC T) (hQ : ∀ (r : Int32), (r.toInt = 1 ∧ (ordC L l) ∨ r.toInt = 0 ∧ ¬ (ordC L l)) → Q (some (.int r)) (zM w f j)) : zC g 3 yX12_isStack cX12_isStack 4 (some .boolean) [.ref A, .int x, .int y] (zM w f j) (0, 0) Q QX := by
  refine zC_of G (by decide +kernel) (Nat.le_of_ble_eq_true rfl) ?_
  have hn6 : tbC T ≤ 6 := hw.2.1
  have hg4 : tbG T ≤ 4 := hw.2.2.1
  have hrc := rch_cell hr
  have hLn : L.length ≤ 6 := Nat.le_trans hrc.2.2.2.2 hn6
  have hm99 := hw.2.2.2.2.2.2.2.1.2.2
  have hct9 := hct
  obtain ⟨t1, t2, t3, t4, t5⟩ := hct9
  have hll : (f (A + 6) (43 * d)).toInt = (L.length : Nat) := hLi.1
  rcases Nat.lt_or_ge 1 L.length with hlen | hlen
  · refine r_aloadR0 dX12_isStack_0 ?_
    refine r_iload1 dX12_isStack_1 ?_
    refine q_callV1 zm_RX12_256 dX12_isStack_2 (shM_k hs) (by decide) rfl (Nat.le_of_ble_eq_true rfl) (Nat.le_of_ble_eq_true rfl) (Nat.le_of_ble_eq_true rfl) (Nat.le_of_ble_eq_true rfl) (Nat.le_of_ble_eq_true rfl) (s_X12_columnsAt (v := L.length) G hs hx hd_z hll (fun r2 e2_z => ?_))
    refine n_iconst dX12_isStack_5 (by decide) (fun r5 e5_z => ?_)
    refine t_icle (t := 11) dX12_isStack_6 (by decide) (fun h6 => False.elim (by omega)) (fun h6 => ?_)
    refine n_iconst dX12_isStack_9 (by decide) (fun r9 e9_z => ?_)
    refine m_zret dX12_isStack_10 rfl (by omega) (Nat.le_of_ble_eq_true rfl) (Nat.le_of_ble_eq_true rfl) ?_
    exact hQ _ (Or.inr ⟨by omega, fun h9 => by have := h9.1; omega⟩)
  · have hlen9 := hlen
    have lp : ∀ (mz : Nat) (c : Int32) (k : Nat), c.toInt = (k : Nat) → k ≤ l.length → (∀ (i : Nat) (v : Int) (p : Nat × Bool), i < k → l[i]? = some v → L.flatten[i]? = some p → v = (p.1 : Nat)) → l.length - k < mz → zR (zV g 3 yX12_isStack 4 (some .boolean) (0, 0) Q QX) cX12_isStack yX12_isStack.cls 13 [some (.ref A), some (.int x), some (.int y), some (.int c)] [] (zM w f j) (0, 0) := by
      intro mz
      induction mz with
      | zero =>
        intro c k hck hk8 hd_ hmz
        exact absurd hmz (Nat.not_lt_zero _)
      | succ mz ih =>
        intro c k hck hk8 hd_ hmz
        rcases Nat.lt_or_ge k l.length with hkl | hkl
        · obtain ⟨v, hv⟩ : ∃ v, l[k]? = some v := ⟨_, List.getElem?_eq_getElem hkl⟩
          have hnum := t5 k v hv
          obtain ⟨p, hp⟩ : ∃ p, L.flatten[k]? = some p := ⟨_, List.getElem?_eq_getElem (by omega)⟩
          have hp6 := hrc.2.1 p (List.mem_of_getElem? hp)
          have hL1 : L.length = 1 := by
            rcases (show L.length = 0 ∨ L.length = 1 by omega) with h9 | h9
            · rw [List.length_eq_zero_iff.mp h9] at hp; exact absurd hp (by simp)
            · exact h9
          have hz0 : zcol L ((0 : Nat) : Int) = L.flatten := by
            obtain ⟨col, hcol⟩ := List.length_eq_one_iff.mp hL1
            rw [hcol]; unfold zcol; simp
          have hlay := (ctLi_at (c := 0) hLi (by omega)).2 k p (by rw [hz0]; exact hp)
          refine r_iload3 dX12_isStack_13 ?_
          refine r_aloadR0 dX12_isStack_14 ?_
          refine q_callV0 zm_RX12_253 dX12_isStack_15 (shM_k hs) (by decide) rfl (Nat.le_of_ble_eq_true rfl) (Nat.le_of_ble_eq_true rfl) (Nat.le_of_ble_eq_true rfl) (Nat.le_of_ble_eq_true rfl) (Nat.le_of_ble_eq_true rfl) (s_X12_cells G hs hk.1.2.1 (fun r15 e15_z => ?_))
          refine t_icge (t := 54) dX12_isStack_18 (by decide) (fun h18 => False.elim (by omega)) (fun h18 => ?_)
          refine r_aloadR0 dX12_isStack_21 ?_
          refine r_iload1 dX12_isStack_22 ?_
          refine n_iconst dX12_isStack_23 (by decide) (fun r23 e23_z => ?_)
          refine r_iload3 dX12_isStack_24 ?_
          refine q_callV3 zm_RX12_264 dX12_isStack_25 (shM_k hs) (by decide) rfl (Nat.le_of_ble_eq_true rfl) (Nat.le_of_ble_eq_true rfl) (Nat.le_of_ble_eq_true rfl) (Nat.le_of_ble_eq_true rfl) (Nat.le_of_ble_eq_true rfl) (s_X12_layerAt (c := 0) (i := k) (v := cdP p) G hs hx (by omega) hck hd_z (by omega) (by omega) hlay (fun r25 e25_z => ?_))
          unfold cdP at e25_z
          have e25b : r25.toInt / 2 = (p.1 : Nat) := by split at e25_z <;> omega
          refine n_iconst dX12_isStack_28 (by decide) (fun r28 e28_z => ?_)
          refine n_idivc (c := 2) dX12_isStack_29 e28_z (by decide) (by omega) (fun r29 e29 => ?_)
          refine n_i2l dX12_isStack_30 (fun r30 e30 => ?_)
          refine r_aloadR0 dX12_isStack_31 ?_
          refine m_getR (q := (A + 20)) zf_RX12_74 rfl dX12_isStack_32 (shM_k hs) (shM_p20 hs) ?_
          refine n_bipush dX12_isStack_35 (by decide) (fun r35 e35 => ?_)
          refine r_iload2 dX12_isStack_37 ?_
          refine n_imulc dX12_isStack_38 e35 (by omega) (fun r38 e38 => ?_)
          refine r_iload3 dX12_isStack_39 ?_
          refine n_iadd dX12_isStack_40 (by omega) (fun r40 e40 => ?_)
          refine m_lald (k := (30 * t + k)) (x := (j (A + 20) ((30 * t + k)))) dX12_isStack_41 (shM_k20 hs) (shM_n20 hs) (by omega) (by omega) (rfl) ?_
          refine n_lcmp dX12_isStack_42 (fun r42 e42_z => ?_)
          unfold zcmp at e42_z
          refine t_ifeq (t := 48) dX12_isStack_43 (by decide) (fun h43 => ?_) (fun h43 => ?_)
          · refine n_iinc3 dX12_isStack_48 (by decide) rfl (by omega) (fun r48 e48 => ?_)
            refine r_goto (t := 13) dX12_isStack_51 (by decide) ?_
            refine ih _ (k + 1) (by omega) (by omega) (fun i u q hi_z h8 h9 => ?_) (by omega)
            rcases Nat.lt_or_ge i k with h7 | h7
            · exact hd_ i u q h7 h8 h9
            · rw [show i = k by omega, hv] at h8
              rw [show i = k by omega, hp] at h9
              rw [← Option.some.inj h8, ← Option.some.inj h9]
              omega
          · refine n_iconst dX12_isStack_46 (by decide) (fun r46 e46 => ?_)
            refine m_zret dX12_isStack_47 rfl (by omega) (Nat.le_of_ble_eq_true rfl) (Nat.le_of_ble_eq_true rfl) ?_
            refine hQ _ (Or.inr ⟨by omega, fun h9 => ?_⟩)
            have h8 := h9.2 k v p hv hp
            omega
        · refine r_iload3 dX12_isStack_13 ?_
          refine r_aloadR0 dX12_isStack_14 ?_
          refine q_callV0 zm_RX12_253 dX12_isStack_15 (shM_k hs) (by decide) rfl (Nat.le_of_ble_eq_true rfl) (Nat.le_of_ble_eq_true rfl) (Nat.le_of_ble_eq_true rfl) (Nat.le_of_ble_eq_true rfl) (Nat.le_of_ble_eq_true rfl) (s_X12_cells G hs hk.1.2.1 (fun r15 e15_z => ?_))
          refine t_icge (t := 54) dX12_isStack_18 (by decide) (fun h18 => ?_) (fun h18 => False.elim (by omega))
          refine n_iconst dX12_isStack_54 (by decide) (fun r54 e54 => ?_)
          refine m_zret dX12_isStack_55 rfl (by omega) (Nat.le_of_ble_eq_true rfl) (Nat.le_of_ble_eq_true rfl) ?_
          exact hQ _ (Or.inl ⟨by omega, hlen, fun i u q h8 h9 => hd_ i u q (by have := (List.getElem?_eq_some_iff.mp h8).1; omega) h8 h9⟩)
    refine r_aloadR0 dX12_isStack_0 ?_
    refine r_iload1 dX12_isStack_1 ?_
    refine q_callV1 zm_RX12_256 dX12_isStack_2 (shM_k hs) (by decide) rfl (Nat.le_of_ble_eq_true rfl) (Nat.le_of_ble_eq_true rfl) (Nat.le_of_ble_eq_true rfl) (Nat.le_of_ble_eq_true rfl) (Nat.le_of_ble_eq_true rfl) (s_X12_columnsAt (v := L.length) G hs hx hd_z hll (fun r2 e2_z => ?_))
    refine n_iconst dX12_isStack_5 (by decide) (fun r5 e5_z => ?_)
    refine t_icle (t := 11) dX12_isStack_6 (by decide) (fun h6 => ?_) (fun h6 => False.elim (by omega))
    refine n_iconst dX12_isStack_11 (by decide) (fun r11 e11_z => ?_)
    refine r_istore3 dX12_isStack_12 rfl ?_
    exact lp 7 _ 0 (by omega) (by omega) (fun i v p hi_z => absurd hi_z (by omega)) (by omega)
set_option maxHeartbeats 4000000 in
set_option maxRecDepth 100000 in
theorem s_X12_hasCreases {g : zGT} {w : zW} {f : Nat → Nat → Int32} {j : Nat → Nat → Int64} {A : Nat} {T : zTb} {d : Nat} {x : Int32} {L : zLy} {t s : Nat} {y : Int32} {l : List Int} {Q : Option Value → zW → Prop} {QX : String → zW → Prop} (G : zGok g) (hs : shM w A) (hk : ctKn (f (A + 1)) T) (hw : wfT T) (hx : x.toInt = (d : Nat)) (hd_z : d < 11) (hLi : ctLi (f (A + 6)) d L) (hr : rch (tbC T) L) (hy : y.toInt = (t : Nat)) (ht : t < 4) (hct : ctTm f j A t (some (s, l))) (hln : l.length = tbC T - 1) (hQ : ∀ (r : Int32) f2_z, (r.toInt = 1 ∧ (creC L l) ∨ r.toInt = 0 ∧ ¬ (creC L l)) → frM A [7] [] f f2_z → Q (some (.int r)) (zM w f2_z j)) : zC g 3 yX12_hasCreases cX12_hasCreases 4 (some .boolean) [.ref A, .int x, .int y] (zM w f j) (0, 0) Q QX := by
  refine zC_of G (by decide +kernel) (Nat.le_of_ble_eq_true rfl) ?_
  have hn6 : tbC T ≤ 6 := hw.2.1
  have hg4 : tbG T ≤ 4 := hw.2.2.1
  have hrc := rch_cell hr
  have hLn : L.length ≤ 6 := Nat.le_trans hrc.2.2.2.2 hn6
  have hm99 := hw.2.2.2.2.2.2.2.1.2.2
  have hct9 := hct
  obtain ⟨t1, t2, t3, t4, t5⟩ := hct9
  refine r_aloadR0 dX12_hasCreases_0 ?_
  refine r_iload1 dX12_hasCreases_1 ?_
  refine q_callV1 zm_RX12_302 dX12_hasCreases_2 (shM_k hs) (by decide) rfl (Nat.le_of_ble_eq_true rfl) (Nat.le_of_ble_eq_true rfl) (Nat.le_of_ble_eq_true rfl) (Nat.le_of_ble_eq_true rfl) (Nat.le_of_ble_eq_true rfl) (s_X12_laysPlaces (L := L) (n := tbC T) G hs hx hd_z hLi hr (fun g2 o2 c2_z => ?_))
  have t3b : (g2 (A + 19) t).toInt = (l.length : Nat) := by rw [o2.2.1 19 (by decide) (by decide) (by decide)]; exact t3
  have lp : ∀ (mz : Nat) (c : Int32) (k : Nat), c.toInt = (k : Nat) → k ≤ l.length → (∀ (i : Nat) (v : Int), i < k → l[i]? = some v → v = (lyCrease L i : Nat)) → l.length - k < mz → zR (zV g 3 yX12_hasCreases 4 (some .boolean) (0, 0) Q QX) cX12_hasCreases yX12_hasCreases.cls 7 [some (.ref A), some (.int x), some (.int y), some (.int c)] [] (zM w g2 j) (0, 0) := by
    intro mz
    induction mz with
    | zero =>
      intro c k hck hk8 hd_ hmz
      exact absurd hmz (Nat.not_lt_zero _)
    | succ mz ih =>
      intro c k hck hk8 hd_ hmz
      rcases Nat.lt_or_ge k l.length with hkl | hkl
      · obtain ⟨v, hv⟩ : ∃ v, l[k]? = some v := ⟨_, List.getElem?_eq_getElem hkl⟩
        have hnum := t5 k v hv
        refine r_iload3 dX12_hasCreases_7 ?_
        refine r_aloadR0 dX12_hasCreases_8 ?_
        refine m_getR (q := (A + 19)) zf_RX12_71 rfl dX12_hasCreases_9 (shM_k hs) (shM_p19 hs) ?_
        refine r_iload2 dX12_hasCreases_12 ?_
        refine m_iald (k := t) (x := (g2 (A + 19) t)) dX12_hasCreases_13 (shM_k19 hs) (shM_n19 hs) (by omega) (by omega) (rfl) ?_
        refine t_icge (t := 46) dX12_hasCreases_14 (by decide) (fun h14 => False.elim (by omega)) (fun h14 => ?_)
        refine r_aloadR0 dX12_hasCreases_17 ?_
        refine m_getR (q := (A + 20)) zf_RX12_74 rfl dX12_hasCreases_18 (shM_k hs) (shM_p20 hs) ?_
        refine n_bipush dX12_hasCreases_21 (by decide) (fun r21 e21_z => ?_)
        refine r_iload2 dX12_hasCreases_23 ?_
        refine n_imulc dX12_hasCreases_24 e21_z (by omega) (fun r24 e24_z => ?_)
        refine r_iload3 dX12_hasCreases_25 ?_
        refine n_iadd dX12_hasCreases_26 (by omega) (fun r26 e26_z => ?_)
        refine m_lald (k := (30 * t + k)) (x := (j (A + 20) ((30 * t + k)))) dX12_hasCreases_27 (shM_k20 hs) (shM_n20 hs) (by omega) (by omega) (rfl) ?_
        refine r_aloadR0 dX12_hasCreases_28 ?_
        refine r_iload3 dX12_hasCreases_29 ?_
        refine q_callV1 zm_RX12_305 dX12_hasCreases_30 (shM_k hs) (by decide) rfl (Nat.le_of_ble_eq_true rfl) (Nat.le_of_ble_eq_true rfl) (Nat.le_of_ble_eq_true rfl) (Nat.le_of_ble_eq_true rfl) (Nat.le_of_ble_eq_true rfl) (s_X12_creaseOf (n := tbC T) (k := k) G hs c2_z hr hck (by omega) (fun r30 e30 => ?_))
        refine n_i2l dX12_hasCreases_33 (fun r33 e33_z => ?_)
        refine n_lcmp dX12_hasCreases_34 (fun r34 e34 => ?_)
        unfold zcmp at e34
        refine t_ifeq (t := 40) dX12_hasCreases_35 (by decide) (fun h35 => ?_) (fun h35 => ?_)
        · refine n_iinc3 dX12_hasCreases_40 (by decide) rfl (by omega) (fun r40 e40 => ?_)
          refine r_goto (t := 7) dX12_hasCreases_43 (by decide) ?_
          refine ih _ (k + 1) (by omega) (by omega) (fun i u hi_z h9 => ?_) (by omega)
          rcases Nat.lt_or_ge i k with h8 | h8
          · exact hd_ i u h8 h9
          · rw [show i = k by omega, hv] at h9
            rw [← Option.some.inj h9, show i = k by omega]
            omega
        · refine n_iconst dX12_hasCreases_38 (by decide) (fun r38 e38 => ?_)
          refine m_zret dX12_hasCreases_39 rfl (by omega) (Nat.le_of_ble_eq_true rfl) (Nat.le_of_ble_eq_true rfl) ?_
          refine hQ _ g2 (Or.inr ⟨by omega, fun h9 => ?_⟩) o2
          have h8 := h9 k v hv
          omega
      · refine r_iload3 dX12_hasCreases_7 ?_
        refine r_aloadR0 dX12_hasCreases_8 ?_
        refine m_getR (q := (A + 19)) zf_RX12_71 rfl dX12_hasCreases_9 (shM_k hs) (shM_p19 hs) ?_
        refine r_iload2 dX12_hasCreases_12 ?_
        refine m_iald (k := t) (x := (g2 (A + 19) t)) dX12_hasCreases_13 (shM_k19 hs) (shM_n19 hs) (by omega) (by omega) (rfl) ?_
        refine t_icge (t := 46) dX12_hasCreases_14 (by decide) (fun h14 => ?_) (fun h14 => False.elim (by omega))
        refine n_iconst dX12_hasCreases_46 (by decide) (fun r46 e46 => ?_)
        refine m_zret dX12_hasCreases_47 rfl (by omega) (Nat.le_of_ble_eq_true rfl) (Nat.le_of_ble_eq_true rfl) ?_
        exact hQ _ g2 (Or.inl ⟨by omega, fun i u hi_z => hd_ i u (by have := (List.getElem?_eq_some_iff.mp hi_z).1; omega) hi_z⟩) o2
  refine n_iconst dX12_hasCreases_5 (by decide) (fun r5 e5_z => ?_)
  refine r_istore3 dX12_hasCreases_6 rfl ?_
  exact lp 31 _ 0 (by omega) (by omega) (fun i v hi_z => absurd hi_z (by omega)) (by omega)
set_option maxHeartbeats 4000000 in
set_option maxRecDepth 100000 in
theorem s_X12_wAw {g : zGT} {w : zW} {f : Nat → Nat → Int32} {j : Nat → Nat → Int64} {A : Nat} {T : zTb} {d : Nat} {x : Int32} {L : zLy} {Q : Option Value → zW → Prop} {QX : String → zW → Prop} (G : zGok g) (hs : shM w A) (hk : ctKn (f (A + 1)) T) (hw : wfT T) (hx : x.toInt = (d : Nat)) (hd_z : d < 11) (hLi : ctLi (f (A + 6)) d L) (hr : rch (tbC T) L) (h28 : (f A 28).toInt = 3) (hQ : ∀ (r : Int32) f2_z, r.toInt = worV T L d → frM A [8, 9] [] f f2_z → Q (some (.int r)) (zM w f2_z j)) : zC g 8 yX12_worthAsked cX12_worthAsked 2 (some .int) [.ref A, .int x] (zM w f j) (0, 0) Q QX := by
  refine zC_of G (by decide +kernel) (Nat.le_of_ble_eq_true rfl) ?_
  refine r_aloadR0 dX12_worthAsked_0 ?_
  refine m_getV (x := (f A 28)) zf_RX12_443 rfl dX12_worthAsked_1 (shM_k hs) (rfl) ?_
  refine n_iconst dX12_worthAsked_4 (by decide) (fun r4 e4_z => ?_)
  refine t_icne (t := 16) dX12_worthAsked_5 (by decide) (fun h5 => False.elim (by omega)) (fun h5 => ?_)
  refine r_aloadR0 dX12_worthAsked_8 ?_
  refine r_iload1 dX12_worthAsked_9 ?_
  refine q_callV1 zm_RX12_349 dX12_worthAsked_10 (shM_k hs) (by decide) rfl (Nat.le_of_ble_eq_true rfl) (Nat.le_of_ble_eq_true rfl) (Nat.le_of_ble_eq_true rfl) (Nat.le_of_ble_eq_true rfl) (Nat.le_of_ble_eq_true rfl) (s_X12_wor (L := L) (T := T) G hs hk hw hx hd_z hLi hr (fun r10 g10 e10_z o10 => ?_))
  refine r_goto (t := 42) dX12_worthAsked_13 (by decide) ?_
  refine r_iret dX12_worthAsked_42 rfl (Nat.le_of_ble_eq_true rfl) (Nat.le_of_ble_eq_true rfl) ?_
  exact hQ _ g10 e10_z o10
set_option maxHeartbeats 4000000 in
set_option maxRecDepth 100000 in
theorem s_X12_wAl {g : zGT} {w : zW} {f : Nat → Nat → Int32} {j : Nat → Nat → Int64} {A : Nat} {T : zTb} {d : Nat} {x : Int32} {L : zLy} {Q : Option Value → zW → Prop} {QX : String → zW → Prop} (G : zGok g) (hs : shM w A) (hk : ctKn (f (A + 1)) T) (hw : wfT T) (hx : x.toInt = (d : Nat)) (hd_z : d < 11) (hLi : ctLi (f (A + 6)) d L) (hr : rch (tbC T) L) (h28 : (f A 28).toInt = 6) (hQ : ∀ (r : Int32) f2_z, r.toInt = leaV T L d (tbG T) → frM A [8, 9] [] f f2_z → Q (some (.int r)) (zM w f2_z j)) : zC g 8 yX12_worthAsked cX12_worthAsked 2 (some .int) [.ref A, .int x] (zM w f j) (0, 0) Q QX := by
  refine zC_of G (by decide +kernel) (Nat.le_of_ble_eq_true rfl) ?_
  refine r_aloadR0 dX12_worthAsked_0 ?_
  refine m_getV (x := (f A 28)) zf_RX12_443 rfl dX12_worthAsked_1 (shM_k hs) (rfl) ?_
  refine n_iconst dX12_worthAsked_4 (by decide) (fun r4 e4_z => ?_)
  refine t_icne (t := 16) dX12_worthAsked_5 (by decide) (fun h5 => ?_) (fun h5 => False.elim (by omega))
  refine r_aloadR0 dX12_worthAsked_16 ?_
  refine m_getV (x := (f A 28)) zf_RX12_443 rfl dX12_worthAsked_17 (shM_k hs) (rfl) ?_
  refine n_bipush dX12_worthAsked_20 (by decide) (fun r20 e20 => ?_)
  refine t_icne (t := 33) dX12_worthAsked_22 (by decide) (fun h22 => False.elim (by omega)) (fun h22 => ?_)
  refine r_aloadR0 dX12_worthAsked_25 ?_
  refine r_iload1 dX12_worthAsked_26 ?_
  refine q_callV1 zm_RX12_446 dX12_worthAsked_27 (shM_k hs) (by decide) rfl (Nat.le_of_ble_eq_true rfl) (Nat.le_of_ble_eq_true rfl) (Nat.le_of_ble_eq_true rfl) (Nat.le_of_ble_eq_true rfl) (Nat.le_of_ble_eq_true rfl) (s_X12_leastLiked (L := L) (T := T) G hs hk hw hx hd_z hLi hr (fun r27 g27 e27_z o27 => ?_))
  refine r_goto (t := 42) dX12_worthAsked_30 (by decide) ?_
  refine r_iret dX12_worthAsked_42 rfl (Nat.le_of_ble_eq_true rfl) (Nat.le_of_ble_eq_true rfl) ?_
  exact hQ _ g27 e27_z o27
set_option maxHeartbeats 4000000 in
set_option maxRecDepth 100000 in
theorem s_X12_wAg {g : zGT} {w : zW} {f : Nat → Nat → Int32} {j : Nat → Nat → Int64} {A : Nat} {T : zTb} {d : Nat} {x : Int32} {L : zLy} {gu : Nat} {Q : Option Value → zW → Prop} {QX : String → zW → Prop} (G : zGok g) (hs : shM w A) (hk : ctKn (f (A + 1)) T) (hw : wfT T) (hx : x.toInt = (d : Nat)) (hd_z : d < 11) (hLi : ctLi (f (A + 6)) d L) (hr : rch (tbC T) L) (h28 : (f A 28).toInt = 8) (h33 : (f A 33).toInt = (gu : Nat)) (hg : gu < tbG T) (hQ : ∀ (r : Int32) f2_z, r.toInt = likV T L d gu → frM A [8, 9] [] f f2_z → Q (some (.int r)) (zM w f2_z j)) : zC g 8 yX12_worthAsked cX12_worthAsked 2 (some .int) [.ref A, .int x] (zM w f j) (0, 0) Q QX := by
  refine zC_of G (by decide +kernel) (Nat.le_of_ble_eq_true rfl) ?_
  refine r_aloadR0 dX12_worthAsked_0 ?_
  refine m_getV (x := (f A 28)) zf_RX12_443 rfl dX12_worthAsked_1 (shM_k hs) (rfl) ?_
  refine n_iconst dX12_worthAsked_4 (by decide) (fun r4 e4_z => ?_)
  refine t_icne (t := 16) dX12_worthAsked_5 (by decide) (fun h5 => ?_) (fun h5 => False.elim (by omega))
  refine r_aloadR0 dX12_worthAsked_16 ?_
  refine m_getV (x := (f A 28)) zf_RX12_443 rfl dX12_worthAsked_17 (shM_k hs) (rfl) ?_
  refine n_bipush dX12_worthAsked_20 (by decide) (fun r20 e20 => ?_)
  refine t_icne (t := 33) dX12_worthAsked_22 (by decide) (fun h22 => ?_) (fun h22 => False.elim (by omega))
  refine r_aloadR0 dX12_worthAsked_33 ?_
  refine r_iload1 dX12_worthAsked_34 ?_
  refine r_aloadR0 dX12_worthAsked_35 ?_
  refine m_getV (x := (f A 33)) zf_RX12_449 rfl dX12_worthAsked_36 (shM_k hs) (rfl) ?_
  refine q_callV2 zm_RX12_355 dX12_worthAsked_39 (shM_k hs) (by decide) rfl (Nat.le_of_ble_eq_true rfl) (Nat.le_of_ble_eq_true rfl) (Nat.le_of_ble_eq_true rfl) (Nat.le_of_ble_eq_true rfl) (Nat.le_of_ble_eq_true rfl) (s_X12_lik (L := L) (T := T) (gu := gu) G hs hk hw hx hd_z hLi hr h33 hg (fun r39 g39 e39 o39 => ?_))
  refine r_iret dX12_worthAsked_42 rfl (Nat.le_of_ble_eq_true rfl) (Nat.le_of_ble_eq_true rfl) ?_
  exact hQ _ g39 e39 o39
