/-! the reference: likings, the first row and the best row told -/
set_option maxHeartbeats 4000000 in
set_option maxRecDepth 100000 in
theorem s_X12_laysLiked {g : zGT} {w : zW} {f : Nat → Nat → Int32} {j : Nat → Nat → Int64} {A : Nat} {T : zTb} {Q : Option Value → zW → Prop} {QX : String → zW → Prop} (G : zGok g) (hs : shM w A) (hk : ctKn (f (A + 1)) T) (hw : wfT T) (hQ : ∀ f2_z, frM A [6, 8, 9, 13] [] f f2_z → (∀ i, i < tbG T → (f2_z (A + 13) i).toInt = likV T (tbL T) T.2.2.1.2.length i) → Q none (zM w f2_z j)) : zC g 7 yX12_laysLiked cX12_laysLiked 3 none [.ref A] (zM w f j) (0, 0) Q QX := by
  refine zC_of G (by decide +kernel) (Nat.le_of_ble_eq_true rfl) ?_
  have hk9 := hk
  obtain ⟨⟨k0_z, k1_z, k2_z, k3_z, k4_z, k5_z, k6_z⟩, km, kg, kp, kl1, kl2, kl3⟩ := hk9
  have km9 := km
  obtain ⟨m1_z, m2_z, m3_z⟩ := km9
  have hn6 : tbC T ≤ 6 := hw.2.1
  have hg4 : tbG T ≤ 4 := hw.2.2.1
  have hwm := hw.2.2.2.2.2.2.2.1
  have hml : T.2.2.1.2.length ≤ 5 := hwm.2.1
  have hm99 := hwm.2.2
  have hrt := wfT_rch hw
  have hLl : (tbL T).length ≤ 6 := Nat.le_trans (rch_cell hrt).2.2.2.2 hn6
  have hpl : T.2.2.2.length ≤ 10 := hw.2.2.2.2.2.2.2.2.1
  refine r_aloadR0 dX12_laysLiked_0 ?_
  refine q_callV0 zm_RX12_343 dX12_laysLiked_1 (shM_k hs) (by decide) rfl (Nat.le_of_ble_eq_true rfl) (Nat.le_of_ble_eq_true rfl) (Nat.le_of_ble_eq_true rfl) (Nat.le_of_ble_eq_true rfl) (Nat.le_of_ble_eq_true rfl) (s_X12_now G hs hk hw (fun r1 g1 e1_z o1 c1_z => ?_))
  have lp : ∀ (mz : Nat) (c : Int32) (k : Nat) (f2_z : Nat → Nat → Int32), c.toInt = (k : Nat) → k ≤ tbG T → frM A [6, 8, 9, 13] [] g1 f2_z → f2_z (A + 6) = g1 (A + 6) → (∀ i, i < k → (f2_z (A + 13) i).toInt = likV T (tbL T) T.2.2.1.2.length i) → tbG T - k < mz → zR (zV g 7 yX12_laysLiked 3 none (0, 0) Q QX) cX12_laysLiked yX12_laysLiked.cls 7 [some (.ref A), some (.int r1), some (.int c)] [] (zM w f2_z j) (0, 0) := by
    intro mz
    induction mz with
    | zero =>
      intro c k f2_z hck hk8 ho h6e hd_z hmz
      exact absurd hmz (Nat.not_lt_zero _)
    | succ mz ih =>
      intro c k f2_z hck hk8 ho h6e hd_z hmz
      have ofr : frM A [6, 8, 9, 13] [] f f2_z := frM_tr (frM_su o1 (by decide) (by decide)) ho
      have hk2 : ctKn (f2_z (A + 1)) T := by rw [ofr.2.1 1 (by decide) (by decide) (by decide)]; exact hk
      have q2_z : (f2_z (A + 1) 2).toInt = (tbG T : Nat) := hk2.1.2.2.1
      have hl2 : ctLi (f2_z (A + 6)) T.2.2.1.2.length (tbL T) := by rw [h6e]; exact c1_z
      rcases Nat.lt_or_ge k (tbG T) with hkl | hkl
      · refine r_iload2 dX12_laysLiked_7 ?_
        refine r_aloadR0 dX12_laysLiked_8 ?_
        refine m_getR (q := (A + 1)) zf_RX12_9 rfl dX12_laysLiked_9 (shM_k hs) (shM_p1 hs) ?_
        refine n_iconst dX12_laysLiked_12 (by decide) (fun r12 e12_z => ?_)
        refine m_iald (k := 2) (x := (f2_z (A + 1) 2)) dX12_laysLiked_13 (shM_k1 hs) (shM_n1 hs) (by omega) (by omega) (rfl) ?_
        refine t_icge (t := 35) dX12_laysLiked_14 (by decide) (fun h14 => False.elim (by omega)) (fun h14 => ?_)
        refine r_aloadR0 dX12_laysLiked_17 ?_
        refine m_getR (q := (A + 13)) zf_RX12_51 rfl dX12_laysLiked_18 (shM_k hs) (shM_p13 hs) ?_
        refine r_iload2 dX12_laysLiked_21 ?_
        refine r_aloadR0 dX12_laysLiked_22 ?_
        refine r_iload1 dX12_laysLiked_23 ?_
        refine r_iload2 dX12_laysLiked_24 ?_
        refine q_callV2 zm_RX12_355 dX12_laysLiked_25 (shM_k hs) (by decide) rfl (Nat.le_of_ble_eq_true rfl) (Nat.le_of_ble_eq_true rfl) (Nat.le_of_ble_eq_true rfl) (Nat.le_of_ble_eq_true rfl) (Nat.le_of_ble_eq_true rfl) (s_X12_lik (L := tbL T) (T := T) (gu := k) G hs hk2 hw e1_z (by omega) hl2 hrt hck hkl (fun r25 g25 e25_z o25 => ?_))
        refine m_iast (k := k) dX12_laysLiked_28 (shM_k13 hs) (shM_n13 hs) (by omega) (by omega) ?_
        refine n_iinc2 dX12_laysLiked_29 (by decide) rfl (by omega) (fun r29 e29 => ?_)
        refine r_goto (t := 7) dX12_laysLiked_32 (by decide) ?_
        refine ih _ (k + 1) _ (by omega) (by omega) (frM_tr ho (frM_zr (r := 13) (frM_su o25 (by decide) (by decide)) (by decide) (by decide) (by decide))) (by rw [zu_ne (by omega), o25.2.1 6 (by decide) (by decide) (by decide)]; exact h6e) (fun i hi_z => ?_) (by omega)
        rcases Nat.lt_or_ge i k with h9 | h9
        · rw [zu_nn (Or.inr (by omega)), o25.2.1 13 (by decide) (by decide) (by decide)]; exact hd_z i h9
        · rw [show i = k by omega, zu_at]; exact e25_z
      · refine r_iload2 dX12_laysLiked_7 ?_
        refine r_aloadR0 dX12_laysLiked_8 ?_
        refine m_getR (q := (A + 1)) zf_RX12_9 rfl dX12_laysLiked_9 (shM_k hs) (shM_p1 hs) ?_
        refine n_iconst dX12_laysLiked_12 (by decide) (fun r12 e12_z => ?_)
        refine m_iald (k := 2) (x := (f2_z (A + 1) 2)) dX12_laysLiked_13 (shM_k1 hs) (shM_n1 hs) (by omega) (by omega) (rfl) ?_
        refine t_icge (t := 35) dX12_laysLiked_14 (by decide) (fun h14 => ?_) (fun h14 => False.elim (by omega))
        refine r_vret dX12_laysLiked_35 rfl (Nat.le_of_ble_eq_true rfl) (Nat.le_of_ble_eq_true rfl) ?_
        exact hQ f2_z ofr (fun i hi_z => hd_z i (by omega))
  refine r_istore1 dX12_laysLiked_4 rfl ?_
  refine n_iconst dX12_laysLiked_5 (by decide) (fun r5 e5_z => ?_)
  refine r_istore2 dX12_laysLiked_6 rfl ?_
  exact lp 5 _ 0 g1 (by omega) (by omega) frM_rf rfl (fun i hi_z => absurd hi_z (by omega)) (by omega)
set_option maxHeartbeats 4000000 in
set_option maxRecDepth 100000 in
theorem s_X12_better {g : zGT} {w : zW} {f : Nat → Nat → Int32} {j : Nat → Nat → Int64} {A : Nat} {T : zTb} {x : Int32} {Q : Option Value → zW → Prop} {QX : String → zW → Prop} (G : zGok g) (hs : shM w A) (hk : ctKn (f (A + 1)) T) (hw : wfT T) (hmb : mbI f A) (htn : (f A 37).toInt < 1900000000) (hT1 : ¬ (0 ≤ x.toInt ∧ x.toInt ≤ 5) → ∀ (r : Int32) f2_z j2, qM A f f2_z j j2 0 → (f2_z A 4).toInt = 1 → Q (some (.int r)) (zM w f2_z j2)) (hQ : (0 ≤ x.toInt ∧ x.toInt ≤ 5) → ∀ (r : Int32) f2_z j2, r.toInt = ((cntS (fun L r => decide (plV (likV T (tbL T) T.2.2.1.2.length) (likV T L (T.2.2.1.2.length + r.length)) (tbG T) ≠ 0)) (fun L => lkN L (tbC T)) (allF (x.toInt.toNat + 1) (tbL T))).length : Nat) → qM A f f2_z j j2 1 → (f2_z A 4).toInt = 0 → Q (some (.int r)) (zM w f2_z j2)) : zC g 18 yX12_better cX12_better 2 (some .int) [.ref A, .int x] (zM w f j) (0, 0) Q QX := by
  refine zC_of G (by decide +kernel) (Nat.le_of_ble_eq_true rfl) ?_
  refine r_aloadR0 dX12_better_0 ?_
  refine q_callV0 zm_RX12_552 dX12_better_1 (shM_k hs) (by decide) rfl (Nat.le_of_ble_eq_true rfl) (Nat.le_of_ble_eq_true rfl) (Nat.le_of_ble_eq_true rfl) (Nat.le_of_ble_eq_true rfl) (Nat.le_of_ble_eq_true rfl) (s_X12_laysLiked G hs hk hw (fun g1 o1 c1_z => ?_))
  have q1_z : qM A f g1 j j 0 := qM_q (frM_su o1 (by decide) (by decide))
  have hk1 : ctKn (g1 (A + 1)) T := by rw [o1.2.1 1 (by decide) (by decide) (by decide)]; exact hk
  have e37 : (g1 A 37).toInt = (f A 37).toInt := by rw [o1.2.2 37 (by decide)]
  refine r_aloadR0 dX12_better_4 ?_
  refine n_bipush dX12_better_5 (by decide) (fun r5 e5_z => ?_)
  refine r_iload1 dX12_better_7 ?_
  refine q_callV2 zm_RX12_505 dX12_better_8 (shM_k hs) (by decide) rfl (Nat.le_of_ble_eq_true rfl) (Nat.le_of_ble_eq_true rfl) (Nat.le_of_ble_eq_true rfl) (Nat.le_of_ble_eq_true rfl) (Nat.le_of_ble_eq_true rfl) (s_X12_manyBy_bet (K := (likV T (tbL T) T.2.2.1.2.length)) G hs hk1 hw (q1_z.2.2.1 hmb) (by omega) c1_z (by omega) (fun hnc r8 g8 j8 o8 t8 => r_iret dX12_better_11 rfl (Nat.le_of_ble_eq_true rfl) (Nat.le_of_ble_eq_true rfl) (hT1 hnc _ _ _ (qM_tr q1_z o8) t8)) (fun hnc r8 g8 j8 e8 o8 t8 => ?_))
  refine r_iret dX12_better_11 rfl (Nat.le_of_ble_eq_true rfl) (Nat.le_of_ble_eq_true rfl) ?_
  exact hQ hnc _ g8 j8 e8 (qM_tr q1_z o8) t8
set_option maxHeartbeats 4000000 in
set_option maxRecDepth 100000 in
theorem s_X12_toldRow_s {g : zGT} {w : zW} {f : Nat → Nat → Int32} {j : Nat → Nat → Int64} {A : Nat} {r : List Nat} {x : Int32} {v : Int} {Q : Option Value → zW → Prop} {QX : String → zW → Prop} (G : zGok g) (hs : shM w A) (hv : v = (r.length : Nat)) (h31 : (f A 31).toInt = v) (h32 : (f A 32).toInt = (r.length : Nat)) (hrw : ∀ i e, r[i]? = some e → (f (A + 12) i).toInt = ((e : Nat) : Int)) (hr5 : r.length ≤ 5) (hx : x.toInt = 0 ∨ 10 ≤ x.toInt ∧ x.toInt ≤ 14) (hQ : ∀ b : Int32, b.toInt = rowI r 0 x.toInt → Q (some (.int b)) (zM w f j)) : zC g 1 yX12_toldRow cX12_toldRow 2 (some .int) [.ref A, .int x] (zM w f j) (0, 0) Q QX := by
  refine zC_of G (by decide +kernel) (Nat.le_of_ble_eq_true rfl) ?_
  have hrf : ∀ k, k < r.length → ∃ e, r[k]? = some e ∧ (f (A + 12) k).toInt = ((e : Nat) : Int) := fun k h2 => ⟨_, List.getElem?_eq_getElem h2, hrw _ _ (List.getElem?_eq_getElem h2)⟩
  have hrn : ∀ k, r.length ≤ k → r[k]? = none := fun k h1 => List.getElem?_eq_none h1
  refine r_iload1 dX12_toldRow_0 ?_
  refine t_ifne (t := 11) dX12_toldRow_1 (by decide) (fun h1 => ?_) (fun h1 => ?_)
  · refine r_aloadR0 dX12_toldRow_11 ?_
    refine m_getV (x := (f A 31)) zf_RX12_425 rfl dX12_toldRow_12 (shM_k hs) (rfl) ?_
    refine n_iconst dX12_toldRow_15 (by decide) (fun r15 e15_z => ?_)
    refine t_iceq (t := 42) dX12_toldRow_16 (by decide) (fun h16_z => ?_) (fun h16_z => ?_)
    · refine n_iconst dX12_toldRow_42 (by decide) (fun r42 e42_z => ?_)
      refine r_iret dX12_toldRow_43 rfl (Nat.le_of_ble_eq_true rfl) (Nat.le_of_ble_eq_true rfl) ?_
      refine hQ _ ?_
      unfold rowI
      first
        | (rw [if_pos (by omega)]; omega)
        | (rw [if_neg (by omega), if_pos (by omega)]
           obtain ⟨e, q1_z, q2_z⟩ := hrf (x.toInt - 10).toNat (by omega)
           rw [q1_z]; exact q2_z)
        | (rw [if_neg (by omega), if_pos (by omega), hrn _ (by omega)]; show _ = (-1 : Int); omega)
    · refine r_iload1 dX12_toldRow_19 ?_
      refine n_bipush dX12_toldRow_20 (by decide) (fun r20 e20 => ?_)
      refine n_isub dX12_toldRow_22 (by omega) (fun r22 e22_z => ?_)
      refine r_aloadR0 dX12_toldRow_23 ?_
      refine m_getV (x := (f A 32)) zf_RX12_428 rfl dX12_toldRow_24 (shM_k hs) (rfl) ?_
      refine t_icge (t := 42) dX12_toldRow_27 (by decide) (fun h27 => ?_) (fun h27 => ?_)
      · refine n_iconst dX12_toldRow_42 (by decide) (fun r42 e42_z => ?_)
        refine r_iret dX12_toldRow_43 rfl (Nat.le_of_ble_eq_true rfl) (Nat.le_of_ble_eq_true rfl) ?_
        refine hQ _ ?_
        unfold rowI
        first
          | (rw [if_pos (by omega)]; omega)
          | (rw [if_neg (by omega), if_pos (by omega)]
             obtain ⟨e, q1_z, q2_z⟩ := hrf (x.toInt - 10).toNat (by omega)
             rw [q1_z]; exact q2_z)
          | (rw [if_neg (by omega), if_pos (by omega), hrn _ (by omega)]; show _ = (-1 : Int); omega)
      · refine r_aloadR0 dX12_toldRow_30 ?_
        refine m_getR (q := (A + 12)) zf_RX12_48 rfl dX12_toldRow_31 (shM_k hs) (shM_p12 hs) ?_
        refine r_iload1 dX12_toldRow_34 ?_
        refine n_bipush dX12_toldRow_35 (by decide) (fun r35 e35 => ?_)
        refine n_isub dX12_toldRow_37 (by omega) (fun r37 e37 => ?_)
        refine m_iald (k := (x.toInt - 10).toNat) (x := (f (A + 12) ((x.toInt - 10).toNat))) dX12_toldRow_38 (shM_k12 hs) (shM_n12 hs) (by omega) (by omega) (rfl) ?_
        refine r_goto (t := 43) dX12_toldRow_39 (by decide) ?_
        refine r_iret dX12_toldRow_43 rfl (Nat.le_of_ble_eq_true rfl) (Nat.le_of_ble_eq_true rfl) ?_
        refine hQ _ ?_
        unfold rowI
        first
          | (rw [if_pos (by omega)]; omega)
          | (rw [if_neg (by omega), if_pos (by omega)]
             obtain ⟨e, q1_z, q2_z⟩ := hrf (x.toInt - 10).toNat (by omega)
             rw [q1_z]; exact q2_z)
          | (rw [if_neg (by omega), if_pos (by omega), hrn _ (by omega)]; show _ = (-1 : Int); omega)
  · refine r_aloadR0 dX12_toldRow_4 ?_
    refine m_getV (x := (f A 31)) zf_RX12_425 rfl dX12_toldRow_5 (shM_k hs) (rfl) ?_
    refine r_goto (t := 43) dX12_toldRow_8 (by decide) ?_
    refine r_iret dX12_toldRow_43 rfl (Nat.le_of_ble_eq_true rfl) (Nat.le_of_ble_eq_true rfl) ?_
    refine hQ _ ?_
    unfold rowI
    first
      | (rw [if_pos (by omega)]; omega)
      | (rw [if_neg (by omega), if_pos (by omega)]
         obtain ⟨e, q1_z, q2_z⟩ := hrf (x.toInt - 10).toNat (by omega)
         rw [q1_z]; exact q2_z)
      | (rw [if_neg (by omega), if_pos (by omega), hrn _ (by omega)]; show _ = (-1 : Int); omega)
set_option maxHeartbeats 4000000 in
set_option maxRecDepth 100000 in
theorem s_X12_toldRow_n {g : zGT} {w : zW} {f : Nat → Nat → Int32} {j : Nat → Nat → Int64} {A : Nat} {x : Int32} {Q : Option Value → zW → Prop} {QX : String → zW → Prop} (G : zGok g) (hs : shM w A) (h31 : (f A 31).toInt = -1) (hx : x.toInt = 0 ∨ 10 ≤ x.toInt ∧ x.toInt ≤ 14) (hQ : ∀ b : Int32, b.toInt = -1 → Q (some (.int b)) (zM w f j)) : zC g 1 yX12_toldRow cX12_toldRow 2 (some .int) [.ref A, .int x] (zM w f j) (0, 0) Q QX := by
  refine zC_of G (by decide +kernel) (Nat.le_of_ble_eq_true rfl) ?_
  refine r_iload1 dX12_toldRow_0 ?_
  refine t_ifne (t := 11) dX12_toldRow_1 (by decide) (fun h1 => ?_) (fun h1 => ?_)
  · refine r_aloadR0 dX12_toldRow_11 ?_
    refine m_getV (x := (f A 31)) zf_RX12_425 rfl dX12_toldRow_12 (shM_k hs) (rfl) ?_
    refine n_iconst dX12_toldRow_15 (by decide) (fun r15 e15_z => ?_)
    refine t_iceq (t := 42) dX12_toldRow_16 (by decide) (fun h16_z => ?_) (fun h16_z => False.elim (by omega))
    refine n_iconst dX12_toldRow_42 (by decide) (fun r42 e42_z => ?_)
    refine r_iret dX12_toldRow_43 rfl (Nat.le_of_ble_eq_true rfl) (Nat.le_of_ble_eq_true rfl) ?_
    exact hQ _ (by omega)
  · refine r_aloadR0 dX12_toldRow_4 ?_
    refine m_getV (x := (f A 31)) zf_RX12_425 rfl dX12_toldRow_5 (shM_k hs) (rfl) ?_
    refine r_goto (t := 43) dX12_toldRow_8 (by decide) ?_
    refine r_iret dX12_toldRow_43 rfl (Nat.le_of_ble_eq_true rfl) (Nat.le_of_ble_eq_true rfl) ?_
    exact hQ _ (by omega)
set_option maxHeartbeats 4000000 in
set_option maxRecDepth 100000 in
theorem s_X12_toldBest {g : zGT} {w : zW} {f : Nat → Nat → Int32} {j : Nat → Nat → Int64} {A : Nat} {r : List Nat} {x : Int32} {v : Int} {Q : Option Value → zW → Prop} {QX : String → zW → Prop} (G : zGok g) (hs : shM w A) (h31 : (f A 31).toInt = v) (h32 : (f A 32).toInt = (r.length : Nat)) (hrw : ∀ i e, r[i]? = some e → (f (A + 12) i).toInt = ((e : Nat) : Int)) (hr5 : r.length ≤ 5) (hx : x.toInt = 1 ∨ x.toInt = 0 ∨ 10 ≤ x.toInt ∧ x.toInt ≤ 14) (hQ : ∀ b : Int32, b.toInt = bestI (v, r) x.toInt → Q (some (.int b)) (zM w f j)) : zC g 1 yX12_toldBest cX12_toldBest 2 (some .int) [.ref A, .int x] (zM w f j) (0, 0) Q QX := by
  refine zC_of G (by decide +kernel) (Nat.le_of_ble_eq_true rfl) ?_
  have hrf : ∀ k, k < r.length → ∃ e, r[k]? = some e ∧ (f (A + 12) k).toInt = ((e : Nat) : Int) := fun k h2 => ⟨_, List.getElem?_eq_getElem h2, hrw _ _ (List.getElem?_eq_getElem h2)⟩
  have hrn : ∀ k, r.length ≤ k → r[k]? = none := fun k h1 => List.getElem?_eq_none h1
  refine r_iload1 dX12_toldBest_0 ?_
  refine t_ifne (t := 11) dX12_toldBest_1 (by decide) (fun h1 => ?_) (fun h1 => ?_)
  · refine r_iload1 dX12_toldBest_11 ?_
    refine n_iconst dX12_toldBest_12 (by decide) (fun r12 e12_z => ?_)
    refine t_icne (t := 23) dX12_toldBest_13 (by decide) (fun h13 => ?_) (fun h13 => ?_)
    · refine r_iload1 dX12_toldBest_23 ?_
      refine n_bipush dX12_toldBest_24 (by decide) (fun r24 e24_z => ?_)
      refine n_isub dX12_toldBest_26 (by omega) (fun r26 e26_z => ?_)
      refine r_aloadR0 dX12_toldBest_27 ?_
      refine m_getV (x := (f A 32)) zf_RX12_428 rfl dX12_toldBest_28 (shM_k hs) (rfl) ?_
      refine t_icge (t := 46) dX12_toldBest_31 (by decide) (fun h31 => ?_) (fun h31 => ?_)
      · refine n_iconst dX12_toldBest_46 (by decide) (fun r46 e46 => ?_)
        refine r_iret dX12_toldBest_47 rfl (Nat.le_of_ble_eq_true rfl) (Nat.le_of_ble_eq_true rfl) ?_
        refine hQ _ ?_
        unfold bestI rowI
        first
          | (rw [if_pos (by omega)]; exact h31)
          | (rw [if_neg (by omega), if_pos (by omega)]; exact h32)
          | (rw [if_neg (by omega), if_neg (by omega), if_pos (by omega)]
             obtain ⟨e, q1_z, q2_z⟩ := hrf (x.toInt - 10).toNat (by omega)
             rw [q1_z]; exact q2_z)
          | (rw [if_neg (by omega), if_neg (by omega), if_pos (by omega), hrn _ (by omega)]; show _ = (-1 : Int); omega)
      · refine r_aloadR0 dX12_toldBest_34 ?_
        refine m_getR (q := (A + 12)) zf_RX12_48 rfl dX12_toldBest_35 (shM_k hs) (shM_p12 hs) ?_
        refine r_iload1 dX12_toldBest_38 ?_
        refine n_bipush dX12_toldBest_39 (by decide) (fun r39 e39 => ?_)
        refine n_isub dX12_toldBest_41 (by omega) (fun r41 e41_z => ?_)
        refine m_iald (k := (x.toInt - 10).toNat) (x := (f (A + 12) ((x.toInt - 10).toNat))) dX12_toldBest_42 (shM_k12 hs) (shM_n12 hs) (by omega) (by omega) (rfl) ?_
        refine r_goto (t := 47) dX12_toldBest_43 (by decide) ?_
        refine r_iret dX12_toldBest_47 rfl (Nat.le_of_ble_eq_true rfl) (Nat.le_of_ble_eq_true rfl) ?_
        refine hQ _ ?_
        unfold bestI rowI
        first
          | (rw [if_pos (by omega)]; exact h31)
          | (rw [if_neg (by omega), if_pos (by omega)]; exact h32)
          | (rw [if_neg (by omega), if_neg (by omega), if_pos (by omega)]
             obtain ⟨e, q1_z, q2_z⟩ := hrf (x.toInt - 10).toNat (by omega)
             rw [q1_z]; exact q2_z)
          | (rw [if_neg (by omega), if_neg (by omega), if_pos (by omega), hrn _ (by omega)]; show _ = (-1 : Int); omega)
    · refine r_aloadR0 dX12_toldBest_16 ?_
      refine m_getV (x := (f A 32)) zf_RX12_428 rfl dX12_toldBest_17 (shM_k hs) (rfl) ?_
      refine r_goto (t := 47) dX12_toldBest_20 (by decide) ?_
      refine r_iret dX12_toldBest_47 rfl (Nat.le_of_ble_eq_true rfl) (Nat.le_of_ble_eq_true rfl) ?_
      refine hQ _ ?_
      unfold bestI rowI
      first
        | (rw [if_pos (by omega)]; exact h31)
        | (rw [if_neg (by omega), if_pos (by omega)]; exact h32)
        | (rw [if_neg (by omega), if_neg (by omega), if_pos (by omega)]
           obtain ⟨e, q1_z, q2_z⟩ := hrf (x.toInt - 10).toNat (by omega)
           rw [q1_z]; exact q2_z)
        | (rw [if_neg (by omega), if_neg (by omega), if_pos (by omega), hrn _ (by omega)]; show _ = (-1 : Int); omega)
  · refine r_aloadR0 dX12_toldBest_4 ?_
    refine m_getV (x := (f A 31)) zf_RX12_425 rfl dX12_toldBest_5 (shM_k hs) (rfl) ?_
    refine r_goto (t := 47) dX12_toldBest_8 (by decide) ?_
    refine r_iret dX12_toldBest_47 rfl (Nat.le_of_ble_eq_true rfl) (Nat.le_of_ble_eq_true rfl) ?_
    refine hQ _ ?_
    unfold bestI rowI
    first
      | (rw [if_pos (by omega)]; exact h31)
      | (rw [if_neg (by omega), if_pos (by omega)]; exact h32)
      | (rw [if_neg (by omega), if_neg (by omega), if_pos (by omega)]
         obtain ⟨e, q1_z, q2_z⟩ := hrf (x.toInt - 10).toNat (by omega)
         rw [q1_z]; exact q2_z)
      | (rw [if_neg (by omega), if_neg (by omega), if_pos (by omega), hrn _ (by omega)]; show _ = (-1 : Int); omega)
theorem invF_0 {A : Nat} {wh : Int} {ty : Nat → zTy} {p : zLy → List Nat → Bool} {f f1_z : Nat → Nat → Int32} {j : Nat → Nat → Int64} (of : frM A [] [28, 29, 30, 31, 32, 37] f f1_z) (hb_z : bgV wh = -1) (h28 : (f1_z A 28).toInt = wh) (h31 : (f1_z A 31).toInt = bgV wh) (h32 : (f1_z A 32).toInt = 0) (hty : ∀ t, t < 4 → ctTm f j A t (ty t)) : invF A wh (f A 33).toInt ty p f1_z j [] := ⟨h28, by rw [of.2.2 33 (by decide)], by rw [h31, hb_z], h32, tys_of hty of (by decide) (by decide) (fun _ _ => rfl), fun y hy => absurd hy (by simp)⟩
/-- what a search for the first row that does comes to -/
def fstR (p : zLy → List Nat → Bool) (X : List zRo) : Option zRo := X.find? (fun y => p y.1 y.2)
theorem fstR_s {p : zLy → List Nat → Bool} {qs rest : List zRo} {z : zRo} (h1 : ∀ y ∈ qs, p y.1 y.2 = false) (h2 : p z.1 z.2 = true) : fstR p (qs ++ z :: rest) = some z := by
  unfold fstR
  rw [List.find?_append, List.find?_eq_none.mpr (fun y hy => by rw [h1 y hy]; decide)]
  rw [Option.none_or, List.find?_cons_of_pos (by exact h2)]
theorem fstR_n {p : zLy → List Nat → Bool} {qs : List zRo} (h1 : ∀ y ∈ qs, p y.1 y.2 = false) : fstR p qs = none := List.find?_eq_none.mpr (fun y hy => by rw [h1 y hy]; decide)
def fstI (o : Option zRo) (x : Int) : Int := match o with
  | some y => rowI y.2 0 x
  | none => -1
theorem rwF_row {m : Nat} {L : zLy} {r : List Nat} : ∀ y ∈ rwF m L r, y.2.length = r.length + m := by
  induction m generalizing L r with
  | zero =>
    intro y hy
    rw [List.mem_singleton.mp hy]
    rfl
  | succ m ih =>
    intro y hy
    obtain ⟨q, h1, h2⟩ := List.mem_flatMap.mp (show y ∈ (kidL L).flatMap (fun q => rwF m q.2 (r ++ [q.1])) from hy)
    have h3 := ih y h2
    rw [List.length_append, List.length_singleton] at h3
    omega
theorem allF_row {k : Nat} {L : zLy} : ∀ y ∈ allF k L, y.2.length < k := by
  intro y hy
  obtain ⟨n, h1, h2⟩ := List.mem_flatMap.mp (show y ∈ (List.range k).flatMap (fun n => rwF n L []) from hy)
  have h3 := rwF_row y h2
  have h4 := List.mem_range.mp h1
  rw [List.length_nil] at h3
  omega
set_option maxHeartbeats 4000000 in
set_option maxRecDepth 100000 in
theorem s_X12_soonest {g : zGT} {w : zW} {f : Nat → Nat → Int32} {j : Nat → Nat → Int64} {A : Nat} {T : zTb} {x : Int32} {ty : Nat → zTy} {Q : Option Value → zW → Prop} {QX : String → zW → Prop} (G : zGok g) (hs : shM w A) (hk : ctKn (f (A + 1)) T) (hw : wfT T) (hmb : mbI f A) (htn : (f A 37).toInt < 1900000000) (hty : ∀ t, t < 4 → ctTm f j A t (ty t)) (hT1 : ¬ (x.toInt = 0 ∨ 10 ≤ x.toInt ∧ x.toInt ≤ 14) → ∀ (r : Int32) f2_z j2, qM A f f2_z j j2 0 → (f2_z A 4).toInt = 1 → Q (some (.int r)) (zM w f2_z j2)) (hQ : (x.toInt = 0 ∨ 10 ≤ x.toInt ∧ x.toInt ≤ 14) → ∀ (r : Int32) f2_z j2, r.toInt = fstI (fstR (fun L r => decide (holV T L (T.2.2.1.2.length + r.length) ≠ 0)) (allF 6 (tbL T))) x.toInt → qM A f f2_z j j2 1 → (f2_z A 4).toInt = 0 → Q (some (.int r)) (zM w f2_z j2)) : zC g 17 yX12_soonest cX12_soonest 2 (some .int) [.ref A, .int x] (zM w f j) (0, 0) Q QX := by
  refine zC_of G (by decide +kernel) (Nat.le_of_ble_eq_true rfl) ?_
  have hk9 := hk
  obtain ⟨⟨k0_z, k1_z, k2_z, k3_z, k4_z, k5_z, k6_z⟩, km, kg, kp, kl1, kl2, kl3⟩ := hk9
  have km9 := km
  obtain ⟨m1_z, m2_z, m3_z⟩ := km9
  have hn6 : tbC T ≤ 6 := hw.2.1
  have hg4 : tbG T ≤ 4 := hw.2.2.1
  have hwm := hw.2.2.2.2.2.2.2.1
  have hml : T.2.2.1.2.length ≤ 5 := hwm.2.1
  have hm99 := hwm.2.2
  have hrt := wfT_rch hw
  have hLl : (tbL T).length ≤ 6 := Nat.le_trans (rch_cell hrt).2.2.2.2 hn6
  have hpl : T.2.2.2.length ≤ 10 := hw.2.2.2.2.2.2.2.2.1
  rcases Classical.em (x.toInt = 0 ∨ 10 ≤ x.toInt ∧ x.toInt ≤ 14) with hwc | hwc
  · refine r_aloadR0 dX12_soonest_0 ?_
    refine n_iconst dX12_soonest_1 (by decide) (fun r1 e1_z => ?_)
    refine m_putI zf_RX12_77 (by intro C T N h_z; cases h_z; rfl) rfl dX12_soonest_2 (shM_k hs) ?_
    obtain ⟨g2, hg2⟩ : ∃ g9, g9 = zu f A 4 r1 := ⟨_, rfl⟩
    rw [← hg2]
    have og2 : frM A [] [4] f g2 := by rw [hg2]; exact frM_zk frM_rf (by decide)
    have vg2 : g2 A 4 = r1 := by rw [hg2]; exact zu_at
    have vt2 : (g2 A 4).toInt = r1.toInt := by rw [vg2]
    have hk2 : ctKn (g2 (A + 1)) T := by rw [og2.2.1 1 (by decide) (by decide) (by decide)]; exact hk
    refine r_iload1 dX12_soonest_5 ?_
    refine q_callS1 zm_RX12_510 dX12_soonest_6 (Nat.le_of_ble_eq_true rfl) (Nat.le_of_ble_eq_true rfl) (Nat.le_of_ble_eq_true rfl) (Nat.le_of_ble_eq_true rfl) (Nat.le_of_ble_eq_true rfl) (s_X12_isWhat G (fun r6 e6_z => ?_))
    refine t_ifne (t := 18) dX12_soonest_9 (by decide) (fun h9 => ?_) (fun h9 => False.elim (by omega))
    refine r_aloadR0 dX12_soonest_18 ?_
    refine n_iconst dX12_soonest_19 (by decide) (fun r19 e19_z => ?_)
    refine r_aloadR0 dX12_soonest_20 ?_
    refine q_callV0 zm_RX12_343 dX12_soonest_21 (shM_k hs) (by decide) rfl (Nat.le_of_ble_eq_true rfl) (Nat.le_of_ble_eq_true rfl) (Nat.le_of_ble_eq_true rfl) (Nat.le_of_ble_eq_true rfl) (Nat.le_of_ble_eq_true rfl) (s_X12_now G hs hk2 hw (fun r21 g21 e21_z o21 c21 => ?_))
    refine n_iconst dX12_soonest_24 (by decide) (fun r24 e24_z => ?_)
    have ofA := (show frM A [6, 7, 8, 9, 13, 16, 17] [4, 33, 34] f _ from (frM_tr (frM_su og2 (by decide) (by decide)) (frM_su o21 (by decide) (by decide))))
    have hkA : ctKn (g21 (A + 1)) T := by rw [ofA.2.1 1 (by decide) (by decide) (by decide)]; exact hk
    have thA : (g21 A 4).toInt = 0 := by rw [o21.2.2 4 (by decide)]; omega
    have mbA : mbI g21 A := by intro i hi_z; rw [ofA.2.1 15 (by decide) (by decide) (by decide), ofA.2.2 37 (by decide)]; exact hmb i hi_z
    refine q_callV3 zm_RX12_502 dX12_soonest_25 (shM_k hs) (by decide) rfl (Nat.le_of_ble_eq_true rfl) (Nat.le_of_ble_eq_true rfl) (Nat.le_of_ble_eq_true rfl) (Nat.le_of_ble_eq_true rfl) (Nat.le_of_ble_eq_true rfl) (s_X12_asksAll (T := T) (dd := T.2.2.1.2.length) (mm := 5) (L := (tbL T)) (wh := 5) (Inv := (invF A 5 (g21 A 33).toInt ty (fun L r => decide (holV T L (T.2.2.1.2.length + r.length) ≠ 0)))) (Fin := (finF A (fun L r => decide (holV T L (T.2.2.1.2.length + r.length) ≠ 0)))) G hs hw hml hkA e19_z e21_z e24_z (by omega) c21 hrt (by rw [ofA.2.2 37 (by decide)]; omega) (see_soo G hs hw hml) invF_iv (fun f1_z of h28 h30 h31 h32 h37 => invF_0 of rfl h28 h31 h32 (tys_of hty ofA (by decide) (by decide) (fun _ _ => rfl))) (fun g25 j25 o25 t25 c25 => ?_))
    have oq : qM A f g25 j j25 1 := qM_ga ofA o25 t25
    have oth : (g25 A 4).toInt = 0 := by rw [o25.1.2.2 4 (by decide)]; exact thA
    rcases c25 with ⟨qs, z, rest, h1, h2, h3, h4, h5, h6⟩ | ⟨_, _, h9, h10, _, h12⟩
    · have hz5 : z.2.length ≤ 5 := by have h9 := allF_row (k := 6) (L := tbL T) z (by rw [h1]; simp); omega
      refine r_aloadR0 dX12_soonest_28 ?_
      refine r_iload1 dX12_soonest_29 ?_
      refine q_callV1 zm_RX12_513 dX12_soonest_30 (shM_k hs) (by decide) rfl (Nat.le_of_ble_eq_true rfl) (Nat.le_of_ble_eq_true rfl) (Nat.le_of_ble_eq_true rfl) (Nat.le_of_ble_eq_true rfl) (Nat.le_of_ble_eq_true rfl) (s_X12_toldRow_s (r := z.2) (v := (z.2.length : Nat)) G hs rfl h2 h3 h4 hz5 hwc (fun r30 e30 => ?_))
      refine r_iret dX12_soonest_33 rfl (Nat.le_of_ble_eq_true rfl) (Nat.le_of_ble_eq_true rfl) ?_
      refine hQ hwc _ g25 j25 ?_ oq oth
      rw [show allF 6 (tbL T) = qs ++ z :: rest from h1, fstR_s h6 h5]
      exact e30
    · refine r_aloadR0 dX12_soonest_28 ?_
      refine r_iload1 dX12_soonest_29 ?_
      refine q_callV1 zm_RX12_513 dX12_soonest_30 (shM_k hs) (by decide) rfl (Nat.le_of_ble_eq_true rfl) (Nat.le_of_ble_eq_true rfl) (Nat.le_of_ble_eq_true rfl) (Nat.le_of_ble_eq_true rfl) (Nat.le_of_ble_eq_true rfl) (s_X12_toldRow_n G hs h9 hwc (fun r30 e30 => ?_))
      refine r_iret dX12_soonest_33 rfl (Nat.le_of_ble_eq_true rfl) (Nat.le_of_ble_eq_true rfl) ?_
      refine hQ hwc _ g25 j25 ?_ oq oth
      rw [fstR_n h12]
      exact e30
  · refine r_aloadR0 dX12_soonest_0 ?_
    refine n_iconst dX12_soonest_1 (by decide) (fun r1 e1_z => ?_)
    refine m_putI zf_RX12_77 (by intro C T N h_z; cases h_z; rfl) rfl dX12_soonest_2 (shM_k hs) ?_
    obtain ⟨g2, hg2⟩ : ∃ g9, g9 = zu f A 4 r1 := ⟨_, rfl⟩
    rw [← hg2]
    have og2 : frM A [] [4] f g2 := by rw [hg2]; exact frM_zk frM_rf (by decide)
    have vg2 : g2 A 4 = r1 := by rw [hg2]; exact zu_at
    have vt2 : (g2 A 4).toInt = r1.toInt := by rw [vg2]
    have hk2 : ctKn (g2 (A + 1)) T := by rw [og2.2.1 1 (by decide) (by decide) (by decide)]; exact hk
    refine r_iload1 dX12_soonest_5 ?_
    refine q_callS1 zm_RX12_510 dX12_soonest_6 (Nat.le_of_ble_eq_true rfl) (Nat.le_of_ble_eq_true rfl) (Nat.le_of_ble_eq_true rfl) (Nat.le_of_ble_eq_true rfl) (Nat.le_of_ble_eq_true rfl) (s_X12_isWhat G (fun r6 e6_z => ?_))
    refine t_ifne (t := 18) dX12_soonest_9 (by decide) (fun h9 => False.elim (by omega)) (fun h9 => ?_)
    refine r_aloadR0 dX12_soonest_12 ?_
    refine n_iconst dX12_soonest_13 (by decide) (fun r13 e13_z => ?_)
    refine q_callV1 zm_RX12_244 dX12_soonest_14 (shM_k hs) (by decide) rfl (Nat.le_of_ble_eq_true rfl) (Nat.le_of_ble_eq_true rfl) (Nat.le_of_ble_eq_true rfl) (Nat.le_of_ble_eq_true rfl) (Nat.le_of_ble_eq_true rfl) (s_X12_fails G hs (fun r14 g14 e14_z o14 v14 => ?_))
    refine r_iret dX12_soonest_17 rfl (Nat.le_of_ble_eq_true rfl) (Nat.le_of_ble_eq_true rfl) ?_
    exact hT1 hwc _ g14 j (qM_q (show frM A [6, 7, 8, 9, 13, 16, 17] [4, 33, 34] f _ from (frM_tr (frM_su og2 (by decide) (by decide)) (frM_su o14 (by decide) (by decide))))) (by rw [v14]; omega)
theorem invB_0 {A : Nat} {T : zTb} {by9 wh : Int} {dd : Nat} {f f1_z : Nat → Nat → Int32} {j : Nat → Nat → Int64} {K : Nat → Int} (of : frM A [] [28, 29, 30, 31, 32, 37] f f1_z) (hb_z : bgV wh = -536870912) (h28 : (f1_z A 28).toInt = wh) (h31 : (f1_z A 31).toInt = bgV wh) (h32 : (f1_z A 32).toInt = 0) (hK_z : ∀ i, i < tbG T → (f (A + 13) i).toInt = K i) : invB A T by9 dd wh (f A 33).toInt K f1_z j [] := ⟨h28, by rw [of.2.2 33 (by decide)], by rw [h31, hb_z]; rfl, h32, fun i e hi_z => absurd hi_z (by unfold bstS; simp), by rw [of.2.1 13 (by decide) (by decide) (by decide)]; exact hK_z⟩
theorem bstS_row {T : zTb} {by9 : Int} {dd B : Nat} {ps : List zRo} (h_z : ∀ y ∈ ps, y.2.length ≤ B) : (bstS T by9 dd ps).2.length ≤ B := by
  have key : ∀ (qs : List zRo) (s : Int × List Nat), (∀ y ∈ qs, y.2.length ≤ B) → s.2.length ≤ B → (qs.foldl (fun s y => if s.1 < scoV T by9 y.1 (dd + y.2.length) then (scoV T by9 y.1 (dd + y.2.length), y.2) else s) s).2.length ≤ B := by
    intro qs
    induction qs with
    | nil => exact fun s _ h_z => h_z
    | cons y qs ih =>
      intro s hq hs
      rw [List.foldl_cons]
      refine ih _ (fun z hz => hq z (List.mem_cons_of_mem _ hz)) ?_
      split
      · exact hq y List.mem_cons_self
      · exact hs
  exact key ps _ h_z (Nat.zero_le _)
set_option maxHeartbeats 4000000 in
set_option maxRecDepth 100000 in
theorem s_X12_bestBy_bes {g : zGT} {w : zW} {f : Nat → Nat → Int32} {j : Nat → Nat → Int64} {A : Nat} {T : zTb} {x0 x y : Int32} {Q : Option Value → zW → Prop} {QX : String → zW → Prop} (G : zGok g) (hs : shM w A) (hk : ctKn (f (A + 1)) T) (hw : wfT T) (hmb : mbI f A) (htn : (f A 37).toInt < 1900000000) (hx0 : x0.toInt = 3) (hT1 : ¬ ((0 ≤ x.toInt ∧ x.toInt ≤ 5) ∧ (y.toInt = 1 ∨ y.toInt = 0 ∨ 10 ≤ y.toInt ∧ y.toInt ≤ 14)) → ∀ (r : Int32) f2_z j2, qM A f f2_z j j2 0 → (f2_z A 4).toInt = 1 → Q (some (.int r)) (zM w f2_z j2)) (hQ : ((0 ≤ x.toInt ∧ x.toInt ≤ 5) ∧ (y.toInt = 1 ∨ y.toInt = 0 ∨ 10 ≤ y.toInt ∧ y.toInt ≤ 14)) → ∀ (r : Int32) f2_z j2, r.toInt = bestI (bstS T (-1) T.2.2.1.2.length (allF (x.toInt.toNat + 1) (tbL T))) y.toInt → qM A f f2_z j j2 1 → (f2_z A 4).toInt = 0 → Q (some (.int r)) (zM w f2_z j2)) : zC g 17 yX12_bestBy cX12_bestBy 4 (some .int) [.ref A, .int x0, .int x, .int y] (zM w f j) (0, 0) Q QX := by
  refine zC_of G (by decide +kernel) (Nat.le_of_ble_eq_true rfl) ?_
  have hk9 := hk
  obtain ⟨⟨k0_z, k1_z, k2_z, k3_z, k4_z, k5_z, k6_z⟩, km, kg, kp, kl1, kl2, kl3⟩ := hk9
  have km9 := km
  obtain ⟨m1_z, m2_z, m3_z⟩ := km9
  have hn6 : tbC T ≤ 6 := hw.2.1
  have hg4 : tbG T ≤ 4 := hw.2.2.1
  have hwm := hw.2.2.2.2.2.2.2.1
  have hml : T.2.2.1.2.length ≤ 5 := hwm.2.1
  have hm99 := hwm.2.2
  have hrt := wfT_rch hw
  have hLl : (tbL T).length ≤ 6 := Nat.le_trans (rch_cell hrt).2.2.2.2 hn6
  have hpl : T.2.2.2.length ≤ 10 := hw.2.2.2.2.2.2.2.2.1
  rcases Classical.em ((0 ≤ x.toInt ∧ x.toInt ≤ 5) ∧ (y.toInt = 1 ∨ y.toInt = 0 ∨ 10 ≤ y.toInt ∧ y.toInt ≤ 14)) with hnc | hnc
  · refine r_aloadR0 dX12_bestBy_0 ?_
    refine n_iconst dX12_bestBy_1 (by decide) (fun r1 e1_z => ?_)
    refine m_putI zf_RX12_77 (by intro C T N h_z; cases h_z; rfl) rfl dX12_bestBy_2 (shM_k hs) ?_
    obtain ⟨g2, hg2⟩ : ∃ g9, g9 = zu f A 4 r1 := ⟨_, rfl⟩
    rw [← hg2]
    have og2 : frM A [] [4] f g2 := by rw [hg2]; exact frM_zk frM_rf (by decide)
    have vg2 : g2 A 4 = r1 := by rw [hg2]; exact zu_at
    have vt2 : (g2 A 4).toInt = r1.toInt := by rw [vg2]
    have hk2 : ctKn (g2 (A + 1)) T := by rw [og2.2.1 1 (by decide) (by decide) (by decide)]; exact hk
    refine r_iload2 dX12_bestBy_5 ?_
    refine q_callS1 zm_RX12_499 dX12_bestBy_6 (Nat.le_of_ble_eq_true rfl) (Nat.le_of_ble_eq_true rfl) (Nat.le_of_ble_eq_true rfl) (Nat.le_of_ble_eq_true rfl) (Nat.le_of_ble_eq_true rfl) (s_X12_isMore G (fun r6 e6_z => ?_))
    refine t_ifeq (t := 24) dX12_bestBy_9 (by decide) (fun h9 => False.elim (by omega)) (fun h9 => ?_)
    refine r_iload3 dX12_bestBy_12 ?_
    refine n_iconst dX12_bestBy_13 (by decide) (fun r13 e13_z => ?_)
    refine t_iceq (t := 30) dX12_bestBy_14 (by decide) (fun h14 => ?_) (fun h14 => ?_)
    · refine r_aloadR0 dX12_bestBy_30 ?_
      refine r_iload1 dX12_bestBy_31 ?_
      refine r_aloadR0 dX12_bestBy_32 ?_
      refine q_callV0 zm_RX12_343 dX12_bestBy_33 (shM_k hs) (by decide) rfl (Nat.le_of_ble_eq_true rfl) (Nat.le_of_ble_eq_true rfl) (Nat.le_of_ble_eq_true rfl) (Nat.le_of_ble_eq_true rfl) (Nat.le_of_ble_eq_true rfl) (s_X12_now G hs hk2 hw (fun r33 g33 e33_z o33 c33 => ?_))
      refine r_iload2 dX12_bestBy_36 ?_
      have ofA := (show frM A [6, 7, 8, 9, 13, 16, 17] [4, 33, 34] f _ from (frM_tr (frM_su og2 (by decide) (by decide)) (frM_su o33 (by decide) (by decide))))
      have hkA : ctKn (g33 (A + 1)) T := by rw [ofA.2.1 1 (by decide) (by decide) (by decide)]; exact hk
      have thA : (g33 A 4).toInt = 0 := by rw [o33.2.2 4 (by decide)]; omega
      have mbA : mbI g33 A := by intro i hi_z; rw [ofA.2.1 15 (by decide) (by decide) (by decide), ofA.2.2 37 (by decide)]; exact hmb i hi_z
      refine q_callV3 zm_RX12_502 dX12_bestBy_37 (shM_k hs) (by decide) rfl (Nat.le_of_ble_eq_true rfl) (Nat.le_of_ble_eq_true rfl) (Nat.le_of_ble_eq_true rfl) (Nat.le_of_ble_eq_true rfl) (Nat.le_of_ble_eq_true rfl) (s_X12_asksAll (T := T) (dd := T.2.2.1.2.length) (mm := x.toInt.toNat) (L := (tbL T)) (wh := 3) (Inv := (invB A T (-1) T.2.2.1.2.length 3 (g33 A 33).toInt (fun i => (g33 (A + 13) i).toInt))) (Fin := (fun _ _ _ _ => False)) G hs hw hml hkA hx0 e33_z (by omega) (by omega) c33 hrt (by rw [ofA.2.2 37 (by decide)]; omega) (see_bes G hs hw hml) invB_iv (fun f1_z of h28 h30 h31 h32 h37 => invB_0 of rfl h28 h31 h32 (fun _ _ => rfl)) (fun g37 j37 o37 t37 c37 => ?_))
      have oq : qM A f g37 j j37 1 := qM_ga ofA o37 t37
      have oth : (g37 A 4).toInt = 0 := by rw [o37.1.2.2 4 (by decide)]; exact thA
      have hfx : ∀ z ∈ allF (x.toInt.toNat + 1) (tbL T), z.2.length ≤ 5 := fun z hz => by have := allF_row z hz; omega
      have hz5 : (bstS T (-1) T.2.2.1.2.length (allF (x.toInt.toNat + 1) (tbL T))).2.length ≤ 5 := bstS_row hfx
      have h9 : invB A T (-1) T.2.2.1.2.length 3 (g33 A 33).toInt (fun i => (g33 (A + 13) i).toInt) g37 j37 (allF (x.toInt.toNat + 1) (tbL T)) := by
        rcases c37 with ⟨_, _, _, _, h9⟩ | h9
        · exact absurd h9 id
        · exact h9
      refine r_aloadR0 dX12_bestBy_40 ?_
      refine r_iload3 dX12_bestBy_41 ?_
      refine q_callV1 zm_RX12_516 dX12_bestBy_42 (shM_k hs) (by decide) rfl (Nat.le_of_ble_eq_true rfl) (Nat.le_of_ble_eq_true rfl) (Nat.le_of_ble_eq_true rfl) (Nat.le_of_ble_eq_true rfl) (Nat.le_of_ble_eq_true rfl) (s_X12_toldBest (r := (bstS T (-1) T.2.2.1.2.length (allF (x.toInt.toNat + 1) (tbL T))).2) (v := (bstS T (-1) T.2.2.1.2.length (allF (x.toInt.toNat + 1) (tbL T))).1) G hs h9.2.2.1 h9.2.2.2.1 h9.2.2.2.2.1 hz5 hnc.2 (fun r42 e42_z => ?_))
      refine r_iret dX12_bestBy_45 rfl (Nat.le_of_ble_eq_true rfl) (Nat.le_of_ble_eq_true rfl) ?_
      exact hQ hnc _ g37 j37 e42_z oq oth
    · refine r_iload3 dX12_bestBy_17 ?_
      refine q_callS1 zm_RX12_510 dX12_bestBy_18 (Nat.le_of_ble_eq_true rfl) (Nat.le_of_ble_eq_true rfl) (Nat.le_of_ble_eq_true rfl) (Nat.le_of_ble_eq_true rfl) (Nat.le_of_ble_eq_true rfl) (s_X12_isWhat G (fun r18 e18_z => ?_))
      refine t_ifne (t := 30) dX12_bestBy_21 (by decide) (fun h21 => ?_) (fun h21 => False.elim (by omega))
      refine r_aloadR0 dX12_bestBy_30 ?_
      refine r_iload1 dX12_bestBy_31 ?_
      refine r_aloadR0 dX12_bestBy_32 ?_
      refine q_callV0 zm_RX12_343 dX12_bestBy_33 (shM_k hs) (by decide) rfl (Nat.le_of_ble_eq_true rfl) (Nat.le_of_ble_eq_true rfl) (Nat.le_of_ble_eq_true rfl) (Nat.le_of_ble_eq_true rfl) (Nat.le_of_ble_eq_true rfl) (s_X12_now G hs hk2 hw (fun r33 g33 e33_z o33 c33 => ?_))
      refine r_iload2 dX12_bestBy_36 ?_
      have ofA := (show frM A [6, 7, 8, 9, 13, 16, 17] [4, 33, 34] f _ from (frM_tr (frM_su og2 (by decide) (by decide)) (frM_su o33 (by decide) (by decide))))
      have hkA : ctKn (g33 (A + 1)) T := by rw [ofA.2.1 1 (by decide) (by decide) (by decide)]; exact hk
      have thA : (g33 A 4).toInt = 0 := by rw [o33.2.2 4 (by decide)]; omega
      have mbA : mbI g33 A := by intro i hi_z; rw [ofA.2.1 15 (by decide) (by decide) (by decide), ofA.2.2 37 (by decide)]; exact hmb i hi_z
      refine q_callV3 zm_RX12_502 dX12_bestBy_37 (shM_k hs) (by decide) rfl (Nat.le_of_ble_eq_true rfl) (Nat.le_of_ble_eq_true rfl) (Nat.le_of_ble_eq_true rfl) (Nat.le_of_ble_eq_true rfl) (Nat.le_of_ble_eq_true rfl) (s_X12_asksAll (T := T) (dd := T.2.2.1.2.length) (mm := x.toInt.toNat) (L := (tbL T)) (wh := 3) (Inv := (invB A T (-1) T.2.2.1.2.length 3 (g33 A 33).toInt (fun i => (g33 (A + 13) i).toInt))) (Fin := (fun _ _ _ _ => False)) G hs hw hml hkA hx0 e33_z (by omega) (by omega) c33 hrt (by rw [ofA.2.2 37 (by decide)]; omega) (see_bes G hs hw hml) invB_iv (fun f1_z of h28 h30 h31 h32 h37 => invB_0 of rfl h28 h31 h32 (fun _ _ => rfl)) (fun g37 j37 o37 t37 c37 => ?_))
      have oq : qM A f g37 j j37 1 := qM_ga ofA o37 t37
      have oth : (g37 A 4).toInt = 0 := by rw [o37.1.2.2 4 (by decide)]; exact thA
      have hfx : ∀ z ∈ allF (x.toInt.toNat + 1) (tbL T), z.2.length ≤ 5 := fun z hz => by have := allF_row z hz; omega
      have hz5 : (bstS T (-1) T.2.2.1.2.length (allF (x.toInt.toNat + 1) (tbL T))).2.length ≤ 5 := bstS_row hfx
      have h9 : invB A T (-1) T.2.2.1.2.length 3 (g33 A 33).toInt (fun i => (g33 (A + 13) i).toInt) g37 j37 (allF (x.toInt.toNat + 1) (tbL T)) := by
        rcases c37 with ⟨_, _, _, _, h9⟩ | h9
        · exact absurd h9 id
        · exact h9
      refine r_aloadR0 dX12_bestBy_40 ?_
      refine r_iload3 dX12_bestBy_41 ?_
      refine q_callV1 zm_RX12_516 dX12_bestBy_42 (shM_k hs) (by decide) rfl (Nat.le_of_ble_eq_true rfl) (Nat.le_of_ble_eq_true rfl) (Nat.le_of_ble_eq_true rfl) (Nat.le_of_ble_eq_true rfl) (Nat.le_of_ble_eq_true rfl) (s_X12_toldBest (r := (bstS T (-1) T.2.2.1.2.length (allF (x.toInt.toNat + 1) (tbL T))).2) (v := (bstS T (-1) T.2.2.1.2.length (allF (x.toInt.toNat + 1) (tbL T))).1) G hs h9.2.2.1 h9.2.2.2.1 h9.2.2.2.2.1 hz5 hnc.2 (fun r42 e42_z => ?_))
      refine r_iret dX12_bestBy_45 rfl (Nat.le_of_ble_eq_true rfl) (Nat.le_of_ble_eq_true rfl) ?_
      exact hQ hnc _ g37 j37 e42_z oq oth
  · refine r_aloadR0 dX12_bestBy_0 ?_
    refine n_iconst dX12_bestBy_1 (by decide) (fun r1 e1_z => ?_)
    refine m_putI zf_RX12_77 (by intro C T N h_z; cases h_z; rfl) rfl dX12_bestBy_2 (shM_k hs) ?_
    obtain ⟨g2, hg2⟩ : ∃ g9, g9 = zu f A 4 r1 := ⟨_, rfl⟩
    rw [← hg2]
    have og2 : frM A [] [4] f g2 := by rw [hg2]; exact frM_zk frM_rf (by decide)
    have vg2 : g2 A 4 = r1 := by rw [hg2]; exact zu_at
    have vt2 : (g2 A 4).toInt = r1.toInt := by rw [vg2]
    have hk2 : ctKn (g2 (A + 1)) T := by rw [og2.2.1 1 (by decide) (by decide) (by decide)]; exact hk
    refine r_iload2 dX12_bestBy_5 ?_
    refine q_callS1 zm_RX12_499 dX12_bestBy_6 (Nat.le_of_ble_eq_true rfl) (Nat.le_of_ble_eq_true rfl) (Nat.le_of_ble_eq_true rfl) (Nat.le_of_ble_eq_true rfl) (Nat.le_of_ble_eq_true rfl) (s_X12_isMore G (fun r6 e6_z => ?_))
    refine t_ifeq (t := 24) dX12_bestBy_9 (by decide) (fun h9 => ?_) (fun h9 => ?_)
    · refine r_aloadR0 dX12_bestBy_24 ?_
      refine n_iconst dX12_bestBy_25 (by decide) (fun r25 e25_z => ?_)
      refine q_callV1 zm_RX12_244 dX12_bestBy_26 (shM_k hs) (by decide) rfl (Nat.le_of_ble_eq_true rfl) (Nat.le_of_ble_eq_true rfl) (Nat.le_of_ble_eq_true rfl) (Nat.le_of_ble_eq_true rfl) (Nat.le_of_ble_eq_true rfl) (s_X12_fails G hs (fun r26 g26 e26_z o26 v26 => ?_))
      refine r_iret dX12_bestBy_29 rfl (Nat.le_of_ble_eq_true rfl) (Nat.le_of_ble_eq_true rfl) ?_
      exact hT1 hnc _ g26 j (qM_q (show frM A [6, 7, 8, 9, 13, 16, 17] [4, 33, 34] f _ from (frM_tr (frM_su og2 (by decide) (by decide)) (frM_su o26 (by decide) (by decide))))) (by rw [v26]; omega)
    · refine r_iload3 dX12_bestBy_12 ?_
      refine n_iconst dX12_bestBy_13 (by decide) (fun r13 e13_z => ?_)
      refine t_iceq (t := 30) dX12_bestBy_14 (by decide) (fun h14 => ?_) (fun h14 => ?_)
      · exact absurd (show ((0 ≤ x.toInt ∧ x.toInt ≤ 5) ∧ (y.toInt = 1 ∨ y.toInt = 0 ∨ 10 ≤ y.toInt ∧ y.toInt ≤ 14)) by omega) hnc
      · refine r_iload3 dX12_bestBy_17 ?_
        refine q_callS1 zm_RX12_510 dX12_bestBy_18 (Nat.le_of_ble_eq_true rfl) (Nat.le_of_ble_eq_true rfl) (Nat.le_of_ble_eq_true rfl) (Nat.le_of_ble_eq_true rfl) (Nat.le_of_ble_eq_true rfl) (s_X12_isWhat G (fun r18 e18_z => ?_))
        refine t_ifne (t := 30) dX12_bestBy_21 (by decide) (fun h21 => ?_) (fun h21 => ?_)
        · exact absurd (show ((0 ≤ x.toInt ∧ x.toInt ≤ 5) ∧ (y.toInt = 1 ∨ y.toInt = 0 ∨ 10 ≤ y.toInt ∧ y.toInt ≤ 14)) by omega) hnc
        · refine r_aloadR0 dX12_bestBy_24 ?_
          refine n_iconst dX12_bestBy_25 (by decide) (fun r25 e25_z => ?_)
          refine q_callV1 zm_RX12_244 dX12_bestBy_26 (shM_k hs) (by decide) rfl (Nat.le_of_ble_eq_true rfl) (Nat.le_of_ble_eq_true rfl) (Nat.le_of_ble_eq_true rfl) (Nat.le_of_ble_eq_true rfl) (Nat.le_of_ble_eq_true rfl) (s_X12_fails G hs (fun r26 g26 e26_z o26 v26 => ?_))
          refine r_iret dX12_bestBy_29 rfl (Nat.le_of_ble_eq_true rfl) (Nat.le_of_ble_eq_true rfl) ?_
          exact hT1 hnc _ g26 j (qM_q (show frM A [6, 7, 8, 9, 13, 16, 17] [4, 33, 34] f _ from (frM_tr (frM_su og2 (by decide) (by decide)) (frM_su o26 (by decide) (by decide))))) (by rw [v26]; omega)
set_option maxHeartbeats 4000000 in
set_option maxRecDepth 100000 in
theorem s_X12_best {g : zGT} {w : zW} {f : Nat → Nat → Int32} {j : Nat → Nat → Int64} {A : Nat} {T : zTb} {x y : Int32} {Q : Option Value → zW → Prop} {QX : String → zW → Prop} (G : zGok g) (hs : shM w A) (hk : ctKn (f (A + 1)) T) (hw : wfT T) (hmb : mbI f A) (htn : (f A 37).toInt < 1900000000) (hT1 : ¬ ((0 ≤ x.toInt ∧ x.toInt ≤ 5) ∧ (y.toInt = 1 ∨ y.toInt = 0 ∨ 10 ≤ y.toInt ∧ y.toInt ≤ 14)) → ∀ (r : Int32) f2_z j2, qM A f f2_z j j2 0 → (f2_z A 4).toInt = 1 → Q (some (.int r)) (zM w f2_z j2)) (hQ : ((0 ≤ x.toInt ∧ x.toInt ≤ 5) ∧ (y.toInt = 1 ∨ y.toInt = 0 ∨ 10 ≤ y.toInt ∧ y.toInt ≤ 14)) → ∀ (r : Int32) f2_z j2, r.toInt = bestI (bstS T (-1) T.2.2.1.2.length (allF (x.toInt.toNat + 1) (tbL T))) y.toInt → qM A f f2_z j j2 1 → (f2_z A 4).toInt = 0 → Q (some (.int r)) (zM w f2_z j2)) : zC g 18 yX12_best cX12_best 3 (some .int) [.ref A, .int x, .int y] (zM w f j) (0, 0) Q QX := by
  refine zC_of G (by decide +kernel) (Nat.le_of_ble_eq_true rfl) ?_
  refine r_aloadR0 dX12_best_0 ?_
  refine n_iconst dX12_best_1 (by decide) (fun r1 e1_z => ?_)
  refine r_iload1 dX12_best_2 ?_
  refine r_iload2 dX12_best_3 ?_
  refine q_callV3 zm_RX12_519 dX12_best_4 (shM_k hs) (by decide) rfl (Nat.le_of_ble_eq_true rfl) (Nat.le_of_ble_eq_true rfl) (Nat.le_of_ble_eq_true rfl) (Nat.le_of_ble_eq_true rfl) (Nat.le_of_ble_eq_true rfl) (s_X12_bestBy_bes G hs hk hw hmb htn (by omega) (fun hnc rb gb jb ob tb => r_iret dX12_best_7 rfl (Nat.le_of_ble_eq_true rfl) (Nat.le_of_ble_eq_true rfl) (hT1 hnc _ _ _ ob tb)) (fun hnc rb gb jb eb ob tb => ?_))
  refine r_iret dX12_best_7 rfl (Nat.le_of_ble_eq_true rfl) (Nat.le_of_ble_eq_true rfl) ?_
  exact hQ hnc _ gb jb eb ob tb
set_option maxHeartbeats 4000000 in
set_option maxRecDepth 100000 in
theorem s_X12_bestBy_fai {g : zGT} {w : zW} {f : Nat → Nat → Int32} {j : Nat → Nat → Int64} {A : Nat} {T : zTb} {x0 x y : Int32} {Q : Option Value → zW → Prop} {QX : String → zW → Prop} (G : zGok g) (hs : shM w A) (hk : ctKn (f (A + 1)) T) (hw : wfT T) (hmb : mbI f A) (htn : (f A 37).toInt < 1900000000) (hx0 : x0.toInt = 6) (hT1 : ¬ ((0 ≤ x.toInt ∧ x.toInt ≤ 5) ∧ (y.toInt = 1 ∨ y.toInt = 0 ∨ 10 ≤ y.toInt ∧ y.toInt ≤ 14)) → ∀ (r : Int32) f2_z j2, qM A f f2_z j j2 0 → (f2_z A 4).toInt = 1 → Q (some (.int r)) (zM w f2_z j2)) (hQ : ((0 ≤ x.toInt ∧ x.toInt ≤ 5) ∧ (y.toInt = 1 ∨ y.toInt = 0 ∨ 10 ≤ y.toInt ∧ y.toInt ≤ 14)) → ∀ (r : Int32) f2_z j2, r.toInt = bestI (bstS T (-2) T.2.2.1.2.length (allF (x.toInt.toNat + 1) (tbL T))) y.toInt → qM A f f2_z j j2 1 → (f2_z A 4).toInt = 0 → Q (some (.int r)) (zM w f2_z j2)) : zC g 17 yX12_bestBy cX12_bestBy 4 (some .int) [.ref A, .int x0, .int x, .int y] (zM w f j) (0, 0) Q QX := by
  refine zC_of G (by decide +kernel) (Nat.le_of_ble_eq_true rfl) ?_
  have hk9 := hk
  obtain ⟨⟨k0_z, k1_z, k2_z, k3_z, k4_z, k5_z, k6_z⟩, km, kg, kp, kl1, kl2, kl3⟩ := hk9
  have km9 := km
  obtain ⟨m1_z, m2_z, m3_z⟩ := km9
  have hn6 : tbC T ≤ 6 := hw.2.1
  have hg4 : tbG T ≤ 4 := hw.2.2.1
  have hwm := hw.2.2.2.2.2.2.2.1
  have hml : T.2.2.1.2.length ≤ 5 := hwm.2.1
  have hm99 := hwm.2.2
  have hrt := wfT_rch hw
  have hLl : (tbL T).length ≤ 6 := Nat.le_trans (rch_cell hrt).2.2.2.2 hn6
  have hpl : T.2.2.2.length ≤ 10 := hw.2.2.2.2.2.2.2.2.1
  rcases Classical.em ((0 ≤ x.toInt ∧ x.toInt ≤ 5) ∧ (y.toInt = 1 ∨ y.toInt = 0 ∨ 10 ≤ y.toInt ∧ y.toInt ≤ 14)) with hnc | hnc
  · refine r_aloadR0 dX12_bestBy_0 ?_
    refine n_iconst dX12_bestBy_1 (by decide) (fun r1 e1_z => ?_)
    refine m_putI zf_RX12_77 (by intro C T N h_z; cases h_z; rfl) rfl dX12_bestBy_2 (shM_k hs) ?_
    obtain ⟨g2, hg2⟩ : ∃ g9, g9 = zu f A 4 r1 := ⟨_, rfl⟩
    rw [← hg2]
    have og2 : frM A [] [4] f g2 := by rw [hg2]; exact frM_zk frM_rf (by decide)
    have vg2 : g2 A 4 = r1 := by rw [hg2]; exact zu_at
    have vt2 : (g2 A 4).toInt = r1.toInt := by rw [vg2]
    have hk2 : ctKn (g2 (A + 1)) T := by rw [og2.2.1 1 (by decide) (by decide) (by decide)]; exact hk
    refine r_iload2 dX12_bestBy_5 ?_
    refine q_callS1 zm_RX12_499 dX12_bestBy_6 (Nat.le_of_ble_eq_true rfl) (Nat.le_of_ble_eq_true rfl) (Nat.le_of_ble_eq_true rfl) (Nat.le_of_ble_eq_true rfl) (Nat.le_of_ble_eq_true rfl) (s_X12_isMore G (fun r6 e6_z => ?_))
    refine t_ifeq (t := 24) dX12_bestBy_9 (by decide) (fun h9 => False.elim (by omega)) (fun h9 => ?_)
    refine r_iload3 dX12_bestBy_12 ?_
    refine n_iconst dX12_bestBy_13 (by decide) (fun r13 e13_z => ?_)
    refine t_iceq (t := 30) dX12_bestBy_14 (by decide) (fun h14 => ?_) (fun h14 => ?_)
    · refine r_aloadR0 dX12_bestBy_30 ?_
      refine r_iload1 dX12_bestBy_31 ?_
      refine r_aloadR0 dX12_bestBy_32 ?_
      refine q_callV0 zm_RX12_343 dX12_bestBy_33 (shM_k hs) (by decide) rfl (Nat.le_of_ble_eq_true rfl) (Nat.le_of_ble_eq_true rfl) (Nat.le_of_ble_eq_true rfl) (Nat.le_of_ble_eq_true rfl) (Nat.le_of_ble_eq_true rfl) (s_X12_now G hs hk2 hw (fun r33 g33 e33_z o33 c33 => ?_))
      refine r_iload2 dX12_bestBy_36 ?_
      have ofA := (show frM A [6, 7, 8, 9, 13, 16, 17] [4, 33, 34] f _ from (frM_tr (frM_su og2 (by decide) (by decide)) (frM_su o33 (by decide) (by decide))))
      have hkA : ctKn (g33 (A + 1)) T := by rw [ofA.2.1 1 (by decide) (by decide) (by decide)]; exact hk
      have thA : (g33 A 4).toInt = 0 := by rw [o33.2.2 4 (by decide)]; omega
      have mbA : mbI g33 A := by intro i hi_z; rw [ofA.2.1 15 (by decide) (by decide) (by decide), ofA.2.2 37 (by decide)]; exact hmb i hi_z
      refine q_callV3 zm_RX12_502 dX12_bestBy_37 (shM_k hs) (by decide) rfl (Nat.le_of_ble_eq_true rfl) (Nat.le_of_ble_eq_true rfl) (Nat.le_of_ble_eq_true rfl) (Nat.le_of_ble_eq_true rfl) (Nat.le_of_ble_eq_true rfl) (s_X12_asksAll (T := T) (dd := T.2.2.1.2.length) (mm := x.toInt.toNat) (L := (tbL T)) (wh := 6) (Inv := (invB A T (-2) T.2.2.1.2.length 6 (g33 A 33).toInt (fun i => (g33 (A + 13) i).toInt))) (Fin := (fun _ _ _ _ => False)) G hs hw hml hkA hx0 e33_z (by omega) (by omega) c33 hrt (by rw [ofA.2.2 37 (by decide)]; omega) (see_fai G hs hw hml) invB_iv (fun f1_z of h28 h30 h31 h32 h37 => invB_0 of rfl h28 h31 h32 (fun _ _ => rfl)) (fun g37 j37 o37 t37 c37 => ?_))
      have oq : qM A f g37 j j37 1 := qM_ga ofA o37 t37
      have oth : (g37 A 4).toInt = 0 := by rw [o37.1.2.2 4 (by decide)]; exact thA
      have hfx : ∀ z ∈ allF (x.toInt.toNat + 1) (tbL T), z.2.length ≤ 5 := fun z hz => by have := allF_row z hz; omega
      have hz5 : (bstS T (-2) T.2.2.1.2.length (allF (x.toInt.toNat + 1) (tbL T))).2.length ≤ 5 := bstS_row hfx
      have h9 : invB A T (-2) T.2.2.1.2.length 6 (g33 A 33).toInt (fun i => (g33 (A + 13) i).toInt) g37 j37 (allF (x.toInt.toNat + 1) (tbL T)) := by
        rcases c37 with ⟨_, _, _, _, h9⟩ | h9
        · exact absurd h9 id
        · exact h9
      refine r_aloadR0 dX12_bestBy_40 ?_
      refine r_iload3 dX12_bestBy_41 ?_
      refine q_callV1 zm_RX12_516 dX12_bestBy_42 (shM_k hs) (by decide) rfl (Nat.le_of_ble_eq_true rfl) (Nat.le_of_ble_eq_true rfl) (Nat.le_of_ble_eq_true rfl) (Nat.le_of_ble_eq_true rfl) (Nat.le_of_ble_eq_true rfl) (s_X12_toldBest (r := (bstS T (-2) T.2.2.1.2.length (allF (x.toInt.toNat + 1) (tbL T))).2) (v := (bstS T (-2) T.2.2.1.2.length (allF (x.toInt.toNat + 1) (tbL T))).1) G hs h9.2.2.1 h9.2.2.2.1 h9.2.2.2.2.1 hz5 hnc.2 (fun r42 e42_z => ?_))
      refine r_iret dX12_bestBy_45 rfl (Nat.le_of_ble_eq_true rfl) (Nat.le_of_ble_eq_true rfl) ?_
      exact hQ hnc _ g37 j37 e42_z oq oth
    · refine r_iload3 dX12_bestBy_17 ?_
      refine q_callS1 zm_RX12_510 dX12_bestBy_18 (Nat.le_of_ble_eq_true rfl) (Nat.le_of_ble_eq_true rfl) (Nat.le_of_ble_eq_true rfl) (Nat.le_of_ble_eq_true rfl) (Nat.le_of_ble_eq_true rfl) (s_X12_isWhat G (fun r18 e18_z => ?_))
      refine t_ifne (t := 30) dX12_bestBy_21 (by decide) (fun h21 => ?_) (fun h21 => False.elim (by omega))
      refine r_aloadR0 dX12_bestBy_30 ?_
      refine r_iload1 dX12_bestBy_31 ?_
      refine r_aloadR0 dX12_bestBy_32 ?_
      refine q_callV0 zm_RX12_343 dX12_bestBy_33 (shM_k hs) (by decide) rfl (Nat.le_of_ble_eq_true rfl) (Nat.le_of_ble_eq_true rfl) (Nat.le_of_ble_eq_true rfl) (Nat.le_of_ble_eq_true rfl) (Nat.le_of_ble_eq_true rfl) (s_X12_now G hs hk2 hw (fun r33 g33 e33_z o33 c33 => ?_))
      refine r_iload2 dX12_bestBy_36 ?_
      have ofA := (show frM A [6, 7, 8, 9, 13, 16, 17] [4, 33, 34] f _ from (frM_tr (frM_su og2 (by decide) (by decide)) (frM_su o33 (by decide) (by decide))))
      have hkA : ctKn (g33 (A + 1)) T := by rw [ofA.2.1 1 (by decide) (by decide) (by decide)]; exact hk
      have thA : (g33 A 4).toInt = 0 := by rw [o33.2.2 4 (by decide)]; omega
      have mbA : mbI g33 A := by intro i hi_z; rw [ofA.2.1 15 (by decide) (by decide) (by decide), ofA.2.2 37 (by decide)]; exact hmb i hi_z
      refine q_callV3 zm_RX12_502 dX12_bestBy_37 (shM_k hs) (by decide) rfl (Nat.le_of_ble_eq_true rfl) (Nat.le_of_ble_eq_true rfl) (Nat.le_of_ble_eq_true rfl) (Nat.le_of_ble_eq_true rfl) (Nat.le_of_ble_eq_true rfl) (s_X12_asksAll (T := T) (dd := T.2.2.1.2.length) (mm := x.toInt.toNat) (L := (tbL T)) (wh := 6) (Inv := (invB A T (-2) T.2.2.1.2.length 6 (g33 A 33).toInt (fun i => (g33 (A + 13) i).toInt))) (Fin := (fun _ _ _ _ => False)) G hs hw hml hkA hx0 e33_z (by omega) (by omega) c33 hrt (by rw [ofA.2.2 37 (by decide)]; omega) (see_fai G hs hw hml) invB_iv (fun f1_z of h28 h30 h31 h32 h37 => invB_0 of rfl h28 h31 h32 (fun _ _ => rfl)) (fun g37 j37 o37 t37 c37 => ?_))
      have oq : qM A f g37 j j37 1 := qM_ga ofA o37 t37
      have oth : (g37 A 4).toInt = 0 := by rw [o37.1.2.2 4 (by decide)]; exact thA
      have hfx : ∀ z ∈ allF (x.toInt.toNat + 1) (tbL T), z.2.length ≤ 5 := fun z hz => by have := allF_row z hz; omega
      have hz5 : (bstS T (-2) T.2.2.1.2.length (allF (x.toInt.toNat + 1) (tbL T))).2.length ≤ 5 := bstS_row hfx
      have h9 : invB A T (-2) T.2.2.1.2.length 6 (g33 A 33).toInt (fun i => (g33 (A + 13) i).toInt) g37 j37 (allF (x.toInt.toNat + 1) (tbL T)) := by
        rcases c37 with ⟨_, _, _, _, h9⟩ | h9
        · exact absurd h9 id
        · exact h9
      refine r_aloadR0 dX12_bestBy_40 ?_
      refine r_iload3 dX12_bestBy_41 ?_
      refine q_callV1 zm_RX12_516 dX12_bestBy_42 (shM_k hs) (by decide) rfl (Nat.le_of_ble_eq_true rfl) (Nat.le_of_ble_eq_true rfl) (Nat.le_of_ble_eq_true rfl) (Nat.le_of_ble_eq_true rfl) (Nat.le_of_ble_eq_true rfl) (s_X12_toldBest (r := (bstS T (-2) T.2.2.1.2.length (allF (x.toInt.toNat + 1) (tbL T))).2) (v := (bstS T (-2) T.2.2.1.2.length (allF (x.toInt.toNat + 1) (tbL T))).1) G hs h9.2.2.1 h9.2.2.2.1 h9.2.2.2.2.1 hz5 hnc.2 (fun r42 e42_z => ?_))
      refine r_iret dX12_bestBy_45 rfl (Nat.le_of_ble_eq_true rfl) (Nat.le_of_ble_eq_true rfl) ?_
      exact hQ hnc _ g37 j37 e42_z oq oth
  · refine r_aloadR0 dX12_bestBy_0 ?_
    refine n_iconst dX12_bestBy_1 (by decide) (fun r1 e1_z => ?_)
    refine m_putI zf_RX12_77 (by intro C T N h_z; cases h_z; rfl) rfl dX12_bestBy_2 (shM_k hs) ?_
    obtain ⟨g2, hg2⟩ : ∃ g9, g9 = zu f A 4 r1 := ⟨_, rfl⟩
    rw [← hg2]
    have og2 : frM A [] [4] f g2 := by rw [hg2]; exact frM_zk frM_rf (by decide)
    have vg2 : g2 A 4 = r1 := by rw [hg2]; exact zu_at
    have vt2 : (g2 A 4).toInt = r1.toInt := by rw [vg2]
    have hk2 : ctKn (g2 (A + 1)) T := by rw [og2.2.1 1 (by decide) (by decide) (by decide)]; exact hk
    refine r_iload2 dX12_bestBy_5 ?_
    refine q_callS1 zm_RX12_499 dX12_bestBy_6 (Nat.le_of_ble_eq_true rfl) (Nat.le_of_ble_eq_true rfl) (Nat.le_of_ble_eq_true rfl) (Nat.le_of_ble_eq_true rfl) (Nat.le_of_ble_eq_true rfl) (s_X12_isMore G (fun r6 e6_z => ?_))
    refine t_ifeq (t := 24) dX12_bestBy_9 (by decide) (fun h9 => ?_) (fun h9 => ?_)
    · refine r_aloadR0 dX12_bestBy_24 ?_
      refine n_iconst dX12_bestBy_25 (by decide) (fun r25 e25_z => ?_)
      refine q_callV1 zm_RX12_244 dX12_bestBy_26 (shM_k hs) (by decide) rfl (Nat.le_of_ble_eq_true rfl) (Nat.le_of_ble_eq_true rfl) (Nat.le_of_ble_eq_true rfl) (Nat.le_of_ble_eq_true rfl) (Nat.le_of_ble_eq_true rfl) (s_X12_fails G hs (fun r26 g26 e26_z o26 v26 => ?_))
      refine r_iret dX12_bestBy_29 rfl (Nat.le_of_ble_eq_true rfl) (Nat.le_of_ble_eq_true rfl) ?_
      exact hT1 hnc _ g26 j (qM_q (show frM A [6, 7, 8, 9, 13, 16, 17] [4, 33, 34] f _ from (frM_tr (frM_su og2 (by decide) (by decide)) (frM_su o26 (by decide) (by decide))))) (by rw [v26]; omega)
    · refine r_iload3 dX12_bestBy_12 ?_
      refine n_iconst dX12_bestBy_13 (by decide) (fun r13 e13_z => ?_)
      refine t_iceq (t := 30) dX12_bestBy_14 (by decide) (fun h14 => ?_) (fun h14 => ?_)
      · exact absurd (show ((0 ≤ x.toInt ∧ x.toInt ≤ 5) ∧ (y.toInt = 1 ∨ y.toInt = 0 ∨ 10 ≤ y.toInt ∧ y.toInt ≤ 14)) by omega) hnc
      · refine r_iload3 dX12_bestBy_17 ?_
        refine q_callS1 zm_RX12_510 dX12_bestBy_18 (Nat.le_of_ble_eq_true rfl) (Nat.le_of_ble_eq_true rfl) (Nat.le_of_ble_eq_true rfl) (Nat.le_of_ble_eq_true rfl) (Nat.le_of_ble_eq_true rfl) (s_X12_isWhat G (fun r18 e18_z => ?_))
        refine t_ifne (t := 30) dX12_bestBy_21 (by decide) (fun h21 => ?_) (fun h21 => ?_)
        · exact absurd (show ((0 ≤ x.toInt ∧ x.toInt ≤ 5) ∧ (y.toInt = 1 ∨ y.toInt = 0 ∨ 10 ≤ y.toInt ∧ y.toInt ≤ 14)) by omega) hnc
        · refine r_aloadR0 dX12_bestBy_24 ?_
          refine n_iconst dX12_bestBy_25 (by decide) (fun r25 e25_z => ?_)
          refine q_callV1 zm_RX12_244 dX12_bestBy_26 (shM_k hs) (by decide) rfl (Nat.le_of_ble_eq_true rfl) (Nat.le_of_ble_eq_true rfl) (Nat.le_of_ble_eq_true rfl) (Nat.le_of_ble_eq_true rfl) (Nat.le_of_ble_eq_true rfl) (s_X12_fails G hs (fun r26 g26 e26_z o26 v26 => ?_))
          refine r_iret dX12_bestBy_29 rfl (Nat.le_of_ble_eq_true rfl) (Nat.le_of_ble_eq_true rfl) ?_
          exact hT1 hnc _ g26 j (qM_q (show frM A [6, 7, 8, 9, 13, 16, 17] [4, 33, 34] f _ from (frM_tr (frM_su og2 (by decide) (by decide)) (frM_su o26 (by decide) (by decide))))) (by rw [v26]; omega)
set_option maxHeartbeats 4000000 in
set_option maxRecDepth 100000 in
theorem s_X12_fairest {g : zGT} {w : zW} {f : Nat → Nat → Int32} {j : Nat → Nat → Int64} {A : Nat} {T : zTb} {x y : Int32} {Q : Option Value → zW → Prop} {QX : String → zW → Prop} (G : zGok g) (hs : shM w A) (hk : ctKn (f (A + 1)) T) (hw : wfT T) (hmb : mbI f A) (htn : (f A 37).toInt < 1900000000) (hT1 : ¬ ((0 ≤ x.toInt ∧ x.toInt ≤ 5) ∧ (y.toInt = 1 ∨ y.toInt = 0 ∨ 10 ≤ y.toInt ∧ y.toInt ≤ 14)) → ∀ (r : Int32) f2_z j2, qM A f f2_z j j2 0 → (f2_z A 4).toInt = 1 → Q (some (.int r)) (zM w f2_z j2)) (hQ : ((0 ≤ x.toInt ∧ x.toInt ≤ 5) ∧ (y.toInt = 1 ∨ y.toInt = 0 ∨ 10 ≤ y.toInt ∧ y.toInt ≤ 14)) → ∀ (r : Int32) f2_z j2, r.toInt = bestI (bstS T (-2) T.2.2.1.2.length (allF (x.toInt.toNat + 1) (tbL T))) y.toInt → qM A f f2_z j j2 1 → (f2_z A 4).toInt = 0 → Q (some (.int r)) (zM w f2_z j2)) : zC g 18 yX12_fairest cX12_fairest 3 (some .int) [.ref A, .int x, .int y] (zM w f j) (0, 0) Q QX := by
  refine zC_of G (by decide +kernel) (Nat.le_of_ble_eq_true rfl) ?_
  refine r_aloadR0 dX12_fairest_0 ?_
  refine n_bipush dX12_fairest_1 (by decide) (fun r1 e1_z => ?_)
  refine r_iload1 dX12_fairest_3 ?_
  refine r_iload2 dX12_fairest_4 ?_
  refine q_callV3 zm_RX12_519 dX12_fairest_5 (shM_k hs) (by decide) rfl (Nat.le_of_ble_eq_true rfl) (Nat.le_of_ble_eq_true rfl) (Nat.le_of_ble_eq_true rfl) (Nat.le_of_ble_eq_true rfl) (Nat.le_of_ble_eq_true rfl) (s_X12_bestBy_fai G hs hk hw hmb htn (by omega) (fun hnc rb gb jb ob tb => r_iret dX12_fairest_8 rfl (Nat.le_of_ble_eq_true rfl) (Nat.le_of_ble_eq_true rfl) (hT1 hnc _ _ _ ob tb)) (fun hnc rb gb jb eb ob tb => ?_))
  refine r_iret dX12_fairest_8 rfl (Nat.le_of_ble_eq_true rfl) (Nat.le_of_ble_eq_true rfl) ?_
  exact hQ hnc _ gb jb eb ob tb
set_option maxHeartbeats 4000000 in
set_option maxRecDepth 100000 in
theorem s_X12_step {g : zGT} {w : zW} {f : Nat → Nat → Int32} {j : Nat → Nat → Int64} {A : Nat} {T : zTb} {Q : Option Value → zW → Prop} {QX : String → zW → Prop} (G : zGok g) (hs : shM w A) (hk : ctKn (f (A + 1)) T) (hw : wfT T) (hmb : mbI f A) (htn : (f A 37).toInt < 1900000000) (hQ : ∀ (r : Int32) f2_z j2, r.toInt = (moFold (bstS T (-1) T.2.2.1.2.length (allF (1 + 1) (tbL T))).2 0).toInt → qM A f f2_z j j2 1 → (f2_z A 4).toInt = 0 → Q (some (.int r)) (zM w f2_z j2)) : zC g 17 yX12_step cX12_step 1 (some .int) [.ref A] (zM w f j) (0, 0) Q QX := by
  refine zC_of G (by decide +kernel) (Nat.le_of_ble_eq_true rfl) ?_
  have hk9 := hk
  obtain ⟨⟨k0_z, k1_z, k2_z, k3_z, k4_z, k5_z, k6_z⟩, km, kg, kp, kl1, kl2, kl3⟩ := hk9
  have km9 := km
  obtain ⟨m1_z, m2_z, m3_z⟩ := km9
  have hn6 : tbC T ≤ 6 := hw.2.1
  have hg4 : tbG T ≤ 4 := hw.2.2.1
  have hwm := hw.2.2.2.2.2.2.2.1
  have hml : T.2.2.1.2.length ≤ 5 := hwm.2.1
  have hm99 := hwm.2.2
  have hrt := wfT_rch hw
  have hLl : (tbL T).length ≤ 6 := Nat.le_trans (rch_cell hrt).2.2.2.2 hn6
  have hpl : T.2.2.2.length ≤ 10 := hw.2.2.2.2.2.2.2.2.1
  refine r_aloadR0 dX12_step_0 ?_
  refine n_iconst dX12_step_1 (by decide) (fun r1 e1_z => ?_)
  refine m_putI zf_RX12_77 (by intro C T N h_z; cases h_z; rfl) rfl dX12_step_2 (shM_k hs) ?_
  obtain ⟨g2, hg2⟩ : ∃ g9, g9 = zu f A 4 r1 := ⟨_, rfl⟩
  rw [← hg2]
  have og2 : frM A [] [4] f g2 := by rw [hg2]; exact frM_zk frM_rf (by decide)
  have vg2 : g2 A 4 = r1 := by rw [hg2]; exact zu_at
  have vt2 : (g2 A 4).toInt = r1.toInt := by rw [vg2]
  have hk2 : ctKn (g2 (A + 1)) T := by rw [og2.2.1 1 (by decide) (by decide) (by decide)]; exact hk
  refine r_aloadR0 dX12_step_5 ?_
  refine n_iconst dX12_step_6 (by decide) (fun r6 e6_z => ?_)
  refine r_aloadR0 dX12_step_7 ?_
  refine q_callV0 zm_RX12_343 dX12_step_8 (shM_k hs) (by decide) rfl (Nat.le_of_ble_eq_true rfl) (Nat.le_of_ble_eq_true rfl) (Nat.le_of_ble_eq_true rfl) (Nat.le_of_ble_eq_true rfl) (Nat.le_of_ble_eq_true rfl) (s_X12_now G hs hk2 hw (fun r8 g8 e8 o8 c8_z => ?_))
  refine n_iconst dX12_step_11 (by decide) (fun r11 e11_z => ?_)
  have ofA := (show frM A [6, 7, 8, 9, 13, 16, 17] [4, 33, 34] f _ from (frM_tr (frM_su og2 (by decide) (by decide)) (frM_su o8 (by decide) (by decide))))
  have hkA : ctKn (g8 (A + 1)) T := by rw [ofA.2.1 1 (by decide) (by decide) (by decide)]; exact hk
  have thA : (g8 A 4).toInt = 0 := by rw [o8.2.2 4 (by decide)]; omega
  have mbA : mbI g8 A := by intro i hi_z; rw [ofA.2.1 15 (by decide) (by decide) (by decide), ofA.2.2 37 (by decide)]; exact hmb i hi_z
  refine q_callV3 zm_RX12_502 dX12_step_12 (shM_k hs) (by decide) rfl (Nat.le_of_ble_eq_true rfl) (Nat.le_of_ble_eq_true rfl) (Nat.le_of_ble_eq_true rfl) (Nat.le_of_ble_eq_true rfl) (Nat.le_of_ble_eq_true rfl) (s_X12_asksAll (T := T) (dd := T.2.2.1.2.length) (mm := 1) (L := (tbL T)) (wh := 3) (Inv := (invB A T (-1) T.2.2.1.2.length 3 (g8 A 33).toInt (fun i => (g8 (A + 13) i).toInt))) (Fin := (fun _ _ _ _ => False)) G hs hw hml hkA e6_z e8 e11_z (by omega) c8_z hrt (by rw [ofA.2.2 37 (by decide)]; omega) (see_bes G hs hw hml) invB_iv (fun f1_z of h28 h30 h31 h32 h37 => invB_0 of rfl h28 h31 h32 (fun _ _ => rfl)) (fun g12 j12 o12 t12 c12 => ?_))
  have oq : qM A f g12 j j12 1 := qM_ga ofA o12 t12
  have oth : (g12 A 4).toInt = 0 := by rw [o12.1.2.2 4 (by decide)]; exact thA
  have hfx : ∀ z ∈ allF (1 + 1) (tbL T), z.2.length ≤ 5 := fun z hz => by have := allF_row z hz; omega
  have hz5 : (bstS T (-1) T.2.2.1.2.length (allF (1 + 1) (tbL T))).2.length ≤ 5 := bstS_row hfx
  have h9 : invB A T (-1) T.2.2.1.2.length 3 (g8 A 33).toInt (fun i => (g8 (A + 13) i).toInt) g12 j12 (allF (1 + 1) (tbL T)) := by
    rcases c12 with ⟨_, _, _, _, h9⟩ | h9
    · exact absurd h9 id
    · exact h9
  have h32 := h9.2.2.2.1
  have hrw := h9.2.2.2.2.1
  generalize (bstS T (-1) T.2.2.1.2.length (allF (1 + 1) (tbL T))) = bs at h32 hrw hz5 hQ
  refine r_aloadR0 dX12_step_15 ?_
  refine m_getV (x := (g12 A 32)) zf_RX12_428 rfl dX12_step_16 (shM_k hs) (rfl) ?_
  refine t_ifne (t := 26) dX12_step_19 (by decide) (fun h19 => ?_) (fun h19 => ?_)
  · refine r_aloadR0 dX12_step_26 ?_
    refine m_getR (q := (A + 12)) zf_RX12_48 rfl dX12_step_27 (shM_k hs) (shM_p12 hs) ?_
    refine n_iconst dX12_step_30 (by decide) (fun r30 e30 => ?_)
    refine m_iald (k := 0) (x := (g12 (A + 12) 0)) dX12_step_31 (shM_k12 hs) (shM_n12 hs) (by omega) (by omega) (rfl) ?_
    refine r_iret dX12_step_32 rfl (Nat.le_of_ble_eq_true rfl) (Nat.le_of_ble_eq_true rfl) ?_
    refine hQ _ g12 j12 ?_ oq oth
    unfold moFold
    rw [if_pos (by omega)]
    first
      | (obtain ⟨e, he⟩ : ∃ e, bs.2[(0 : Int).toNat]? = some e := ⟨_, List.getElem?_eq_getElem (by show 0 < bs.2.length; omega)⟩
         have h8 := hrw 0 e he
         have h7 := Int32.toInt_lt (g12 (A + 12) 0)
         rw [he]
         show _ = (nI e).toInt
         rw [zi_n (by omega)]; exact h8)
      | (rw [List.getElem?_eq_none (by show bs.2.length ≤ 0; omega)]; exact e22_z)
  · refine n_iconst dX12_step_22 (by decide) (fun r22 e22_z => ?_)
    refine r_goto (t := 32) dX12_step_23 (by decide) ?_
    refine r_iret dX12_step_32 rfl (Nat.le_of_ble_eq_true rfl) (Nat.le_of_ble_eq_true rfl) ?_
    refine hQ _ g12 j12 ?_ oq oth
    unfold moFold
    rw [if_pos (by omega)]
    first
      | (obtain ⟨e, he⟩ : ∃ e, bs.2[(0 : Int).toNat]? = some e := ⟨_, List.getElem?_eq_getElem (by show 0 < bs.2.length; omega)⟩
         have h8 := hrw 0 e he
         have h7 := Int32.toInt_lt (g12 (A + 12) 0)
         rw [he]
         show _ = (nI e).toInt
         rw [zi_n (by omega)]; exact h8)
      | (rw [List.getElem?_eq_none (by show bs.2.length ≤ 0; omega)]; exact e22_z)
