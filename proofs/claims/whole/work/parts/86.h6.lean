/-! the reference: rows seen, what is sure, where to look -/
def s0V (n : Nat) : Int32 := nI (2 ^ (n - 1) - 1)
theorem s0V_e {n : Nat} (h1 : 1 ≤ n) (h6 : n ≤ 6) : ((1 : Int32) <<< (nI (n - 1) &&& 31)) - 1 = s0V n := by
  rcases (show n = 1 ∨ n = 2 ∨ n = 3 ∨ n = 4 ∨ n = 5 ∨ n = 6 by omega) with rfl | rfl | rfl | rfl | rfl | rfl <;> decide
def mxB (c : Nat → Nat) : Nat → Nat
  | 0 => 0
  | v + 1 => max (mxB c v) (c v)
theorem mxB_le {c : Nat → Nat} {B : Nat} (h_z : ∀ v, c v ≤ B) {k : Nat} : mxB c k ≤ B := by
  induction k with
  | zero => exact Nat.zero_le _
  | succ k ih =>
    have h1 := h_z k
    show max (mxB c k) (c k) ≤ B
    omega
def looR (g9 : Nat → Nat) : Nat → Int × Int
  | 0 => (-1, 536870912)
  | k + 1 => if ((g9 k : Nat) : Int) < (looR g9 k).2 then (((k : Nat) : Int), ((g9 k : Nat) : Int)) else looR g9 k
def bnM (M : Nat → Nat) (p : zLy → Bool) (X : List zRo) (k : Nat) : Nat := mxB (fun v => X.countP (bnQ M p k v)) 100
set_option maxHeartbeats 4000000 in
set_option maxRecDepth 100000 in
theorem s_X12_laysSeen {g : zGT} {w : zW} {f : Nat → Nat → Int32} {j : Nat → Nat → Int64} {A : Nat} {T : zTb} {x y : Int32} {tn s : Nat} {l : List Int} {ty : Nat → zTy} {Q : Option Value → zW → Prop} {QX : String → zW → Prop} (G : zGok g) (hs : shM w A) (hk : ctKn (f (A + 1)) T) (hw : wfT T) (hmb : mbI f A) (htn : (f A 37).toInt < 1900000000) (hty : ∀ t, t < 4 → ctTm f j A t (ty t)) (hx : x.toInt = (tn : Nat)) (htn4 : tn < 4) (hcs : ty tn = some (s, l)) (hy : 0 ≤ y.toInt ∧ y.toInt ≤ 4) (hQ : ∀ f2_z j2, qM A f f2_z j j2 1 → f2_z A 4 = f A 4 → (invS A (tbC T) T.2.2.1.1 (tn : Nat) ty (fun L => @decide (lookC T.2.2.1.1 L l) (Classical.propDecidable _)) (s0V (tbC T))) f2_z j2 (allF (y.toInt.toNat + 1) (lyFlat (tbC T))) → Q none (zM w f2_z j2)) : zC g 17 yX12_laysSeen cX12_laysSeen 4 none [.ref A, .int x, .int y] (zM w f j) (0, 0) Q QX := by
  refine zC_of G (by decide +kernel) (Nat.le_of_ble_eq_true rfl) ?_
  have hk9 := hk
  obtain ⟨⟨k0_z, k1_z, k2_z, k3_z, k4_z, k5_z, k6_z⟩, km, kg, kp, kl1, kl2, kl3⟩ := hk9
  have km9 := km
  obtain ⟨m1_z, m2_z, m3_z⟩ := km9
  have hn6 : tbC T ≤ 6 := hw.2.1
  have hg4 : tbG T ≤ 4 := hw.2.2.1
  have hwm := hw.2.2.2.2.2.2.2.1
  have hml : T.2.2.1.2.length ≤ 5 := hwm.2.1
  have hm99 := hwm.2.2
  have hrt := wfT_rch hw
  have hLl : (tbL T).length ≤ 6 := Nat.le_trans (rch_cell hrt).2.2.2.2 hn6
  have hpl : T.2.2.2.length ≤ 10 := hw.2.2.2.2.2.2.2.2.1
  obtain ⟨m5_z, hm5⟩ : ∃ m, m = y.toInt.toNat := ⟨_, rfl⟩
  refine r_aloadR0 dX12_laysSeen_0 ?_
  refine r_iload1 dX12_laysSeen_1 ?_
  refine m_putI zf_RX12_449 (by intro C T N h_z; cases h_z; rfl) rfl dX12_laysSeen_2 (shM_k hs) ?_
  obtain ⟨g2, hg2⟩ : ∃ g9, g9 = zu f A 33 x := ⟨_, rfl⟩
  rw [← hg2]
  have og2 : frM A [] [33] f g2 := by rw [hg2]; exact frM_zk frM_rf (by decide)
  have vg2 : g2 A 33 = x := by rw [hg2]; exact zu_at
  have vt2 : (g2 A 33).toInt = x.toInt := by rw [vg2]
  have hk2 : ctKn (g2 (A + 1)) T := by rw [og2.2.1 1 (by decide) (by decide) (by decide)]; exact hk
  have jn : ∀ rb : Int32, rb = s0V (tbC T) → zR (zV g 17 yX12_laysSeen 4 none (0, 0) Q QX) cX12_laysSeen yX12_laysSeen.cls 27 [some (.ref A), some (.int x), some (.int y), none] [.int rb, .ref A] (zM w g2 j) (0, 0) := by
    intro rb hrb
    refine m_putI zf_RX12_555 (by intro C T N h_z; cases h_z; rfl) rfl dX12_laysSeen_27 (shM_k hs) ?_
    obtain ⟨g27, hg27⟩ : ∃ g9, g9 = zu g2 A 34 rb := ⟨_, rfl⟩
    rw [← hg27]
    have og27 : frM A [] [34] g2 g27 := by rw [hg27]; exact frM_zk frM_rf (by decide)
    have vg27 : g27 A 34 = rb := by rw [hg27]; exact zu_at
    have vt27 : (g27 A 34).toInt = rb.toInt := by rw [vg27]
    have hk27 : ctKn (g27 (A + 1)) T := by rw [og27.2.1 1 (by decide) (by decide) (by decide)]; exact hk2
    have lp : ∀ (mz : Nat) (c : Int32) (k : Nat) (f2_z : Nat → Nat → Int32), c.toInt = (k : Nat) → k ≤ 600 → (∀ q, q ≠ A + 17 → f2_z q = g27 q) → (∀ i, i < k → (f2_z (A + 17) i).toInt = 0) → 600 - k < mz → zR (zV g 17 yX12_laysSeen 4 none (0, 0) Q QX) cX12_laysSeen yX12_laysSeen.cls 32 [some (.ref A), some (.int x), some (.int y), some (.int c)] [] (zM w f2_z j) (0, 0) := by
      intro mz
      induction mz with
      | zero =>
        intro c k f2_z hck hk8 ho hd_z hmz
        exact absurd hmz (Nat.not_lt_zero _)
      | succ mz ih =>
        intro c k f2_z hck hk8 ho hd_z hmz
        rcases Nat.lt_or_ge k 600 with hkl | hkl
        · refine r_iload3 dX12_laysSeen_32 ?_
          refine n_sipush dX12_laysSeen_33 (by decide) (fun r33 e33_z => ?_)
          refine t_icge (t := 52) dX12_laysSeen_36 (by decide) (fun h36 => False.elim (by omega)) (fun h36 => ?_)
          refine r_aloadR0 dX12_laysSeen_39 ?_
          refine m_getR (q := (A + 17)) zf_RX12_65 rfl dX12_laysSeen_40 (shM_k hs) (shM_p17 hs) ?_
          refine r_iload3 dX12_laysSeen_43 ?_
          refine n_iconst dX12_laysSeen_44 (by decide) (fun r44 e44 => ?_)
          refine m_iast (k := k) dX12_laysSeen_45 (shM_k17 hs) (shM_n17 hs) (by omega) (by omega) ?_
          refine n_iinc3 dX12_laysSeen_46 (by decide) rfl (by omega) (fun r46 e46 => ?_)
          refine r_goto (t := 32) dX12_laysSeen_49 (by decide) ?_
          refine ih _ (k + 1) _ (by omega) (by omega) (fun q hq => (zu_ne hq).trans (ho q hq)) (fun i hi_z => ?_) (by omega)
          rcases Nat.lt_or_ge i k with h9 | h9
          · rw [zu_nn (Or.inr (by omega))]; exact hd_z i h9
          · rw [show i = k by omega, zu_at]; exact e44
        · refine r_iload3 dX12_laysSeen_32 ?_
          refine n_sipush dX12_laysSeen_33 (by decide) (fun r33 e33_z => ?_)
          refine t_icge (t := 52) dX12_laysSeen_36 (by decide) (fun h36 => ?_) (fun h36 => False.elim (by omega))
          have o2x : frM A [17] [] g27 f2_z := ⟨fun q hq => ho q (by omega), fun r h2 h3 h4 => ho _ (by intro e9_z; exact h4 (by simp; omega)), fun k9 _ => by rw [ho A (by omega)]⟩
          have hk2x : ctKn (f2_z (A + 1)) T := by rw [o2x.2.1 1 (by decide) (by decide) (by decide)]; exact hk27
          refine r_aloadR0 dX12_laysSeen_52 ?_
          refine q_callV0 zm_RX12_277 dX12_laysSeen_53 (shM_k hs) (by decide) rfl (Nat.le_of_ble_eq_true rfl) (Nat.le_of_ble_eq_true rfl) (Nat.le_of_ble_eq_true rfl) (Nat.le_of_ble_eq_true rfl) (Nat.le_of_ble_eq_true rfl) (s_X12_laysFlat G hs hk2x.1.2.1 hn6 (fun g53 o53 c53 => ?_))
          refine r_aloadR0 dX12_laysSeen_56 ?_
          refine n_bipush dX12_laysSeen_57 (by decide) (fun r57 e57 => ?_)
          refine n_iconst dX12_laysSeen_59 (by decide) (fun r59 e59 => ?_)
          refine r_iload2 dX12_laysSeen_60 ?_
          have ofA := (show frM A [6, 7, 8, 9, 13, 16, 17] [4, 33, 34] f _ from (frM_tr (frM_tr (frM_tr (frM_su og2 (by decide) (by decide)) (frM_su og27 (by decide) (by decide))) (frM_su o2x (by decide) (by decide))) (frM_su o53 (by decide) (by decide))))
          have hkA : ctKn (g53 (A + 1)) T := by rw [ofA.2.1 1 (by decide) (by decide) (by decide)]; exact hk
          have e33A : (g53 A 33).toInt = (tn : Nat) := by rw [o53.2.2 33 (by decide), o2x.2.2 33 (by decide), og27.2.2 33 (by decide)]; omega
          have e34A : g53 A 34 = s0V (tbC T) := by rw [o53.2.2 34 (by decide), o2x.2.2 34 (by decide), vg27]; exact hrb
          have z17 : ∀ i, i < 600 → (g53 (A + 17) i).toInt = 0 := fun i hi_z => by rw [o53.2.1 17 (by decide) (by decide) (by decide)]; exact hd_z i (by omega)
          have e4A : g53 A 4 = f A 4 := by rw [o53.2.2 4 (by decide), o2x.2.2 4 (by decide), og27.2.2 4 (by decide), og2.2.2 4 (by decide)]
          refine q_callV3 zm_RX12_502 dX12_laysSeen_61 (shM_k hs) (by decide) rfl (Nat.le_of_ble_eq_true rfl) (Nat.le_of_ble_eq_true rfl) (Nat.le_of_ble_eq_true rfl) (Nat.le_of_ble_eq_true rfl) (Nat.le_of_ble_eq_true rfl) (s_X12_asksAll (T := T) (dd := 0) (mm := y.toInt.toNat) (L := lyFlat (tbC T)) (wh := 13) (Inv := (invS A (tbC T) T.2.2.1.1 (g53 A 33).toInt ty (fun L => @decide (lookC T.2.2.1.1 L l) (Classical.propDecidable _)) (s0V (tbC T)))) (Fin := (fun _ _ _ _ => False)) G hs hw (by omega) hkA e57 (by omega) (by omega) (by omega) c53 (rch_flat hn6) (by rw [ofA.2.2 37 (by decide)]; omega) (see_see (tn := tn) (s := s) (l := l) G hs hw (by omega) e33A htn4 hcs) invS_iv (fun f1_z of h28 h30 h31 h32 h37 => by rw [← e34A]; exact invS_0 of h28 h30 (tys_of hty ofA (by decide) (by decide) (fun _ _ => rfl)) z17) (fun g61 j61 o61 t61 c61 => ?_))
          refine r_vret dX12_laysSeen_64 rfl (Nat.le_of_ble_eq_true rfl) (Nat.le_of_ble_eq_true rfl) ?_
          rw [e33A] at c61
          rcases c61 with ⟨_, _, _, _, h9⟩ | h9
          · exact absurd h9 id
          · exact hQ g61 j61 (qM_ga ofA o61 t61) (by rw [o61.1.2.2 4 (by decide)]; exact e4A) h9
    refine n_iconst dX12_laysSeen_30 (by decide) (fun r30 e30 => ?_)
    refine r_istore3 dX12_laysSeen_31 rfl ?_
    exact lp 601 _ 0 g27 (by omega) (by omega) (fun q hq => rfl) (fun i hi_z => absurd hi_z (by omega)) (by omega)
  refine r_aloadR0 dX12_laysSeen_5 ?_
  refine r_aloadR0 dX12_laysSeen_6 ?_
  refine q_callV0 zm_RX12_253 dX12_laysSeen_7 (shM_k hs) (by decide) rfl (Nat.le_of_ble_eq_true rfl) (Nat.le_of_ble_eq_true rfl) (Nat.le_of_ble_eq_true rfl) (Nat.le_of_ble_eq_true rfl) (Nat.le_of_ble_eq_true rfl) (s_X12_cells G hs hk2.1.2.1 (fun r7 e7_z => ?_))
  refine t_ifne (t := 17) dX12_laysSeen_10 (by decide) (fun h10 => ?_) (fun h10 => ?_)
  · refine n_iconst dX12_laysSeen_17 (by decide) (fun r17 e17_z => ?_)
    refine r_aloadR0 dX12_laysSeen_18 ?_
    refine q_callV0 zm_RX12_253 dX12_laysSeen_19 (shM_k hs) (by decide) rfl (Nat.le_of_ble_eq_true rfl) (Nat.le_of_ble_eq_true rfl) (Nat.le_of_ble_eq_true rfl) (Nat.le_of_ble_eq_true rfl) (Nat.le_of_ble_eq_true rfl) (s_X12_cells G hs hk2.1.2.1 (fun r19 e19_z => ?_))
    refine n_iconst dX12_laysSeen_22 (by decide) (fun r22 e22_z => ?_)
    refine n_isub dX12_laysSeen_23 (by omega) (fun r23 e23_z => ?_)
    refine r_ishl dX12_laysSeen_24 ?_
    refine n_name (fun r24 e24_z => ?_)
    refine n_iconst dX12_laysSeen_25 (by decide) (fun r25 e25_z => ?_)
    refine r_isub dX12_laysSeen_26 ?_
    refine n_name (fun r26 e26_z => ?_)
    refine jn _ ?_
    rw [e26_z, e24_z, show r17 = 1 from zi_eq.mpr (e17_z.trans (by decide)), show r25 = 1 from zi_eq.mpr (e25_z.trans (by decide)), show r23 = nI (tbC T - 1) from zi_eq.mpr ((show r23.toInt = ((tbC T - 1 : Nat) : Int) by omega).trans (zi_n (by omega)).symm)]
    exact s0V_e (by omega) hn6
  · refine n_iconst dX12_laysSeen_13 (by decide) (fun r13 e13_z => ?_)
    refine r_goto (t := 27) dX12_laysSeen_14 (by decide) ?_
    refine jn _ ?_
    rw [show r13 = 0 from zi_eq.mpr (e13_z.trans (by decide)), show tbC T = 0 by omega]
    rfl
set_option maxHeartbeats 4000000 in
set_option maxRecDepth 100000 in
theorem s_X12_seen {g : zGT} {w : zW} {f : Nat → Nat → Int32} {j : Nat → Nat → Int64} {A : Nat} {T : zTb} {x y : Int32} {ty : Nat → zTy} {Q : Option Value → zW → Prop} {QX : String → zW → Prop} (G : zGok g) (hs : shM w A) (hk : ctKn (f (A + 1)) T) (hw : wfT T) (hmb : mbI f A) (htn : (f A 37).toInt < 1900000000) (hty : ∀ t, t < 4 → ctTm f j A t (ty t)) (hT1 : ¬ (0 ≤ x.toInt ∧ x.toInt < 4) → ∀ (r : Int32) f2_z j2, qM A f f2_z j j2 0 → (f2_z A 4).toInt = 1 → Q (some (.int r)) (zM w f2_z j2)) (hT2 : (0 ≤ x.toInt ∧ x.toInt < 4) → ty x.toInt.toNat = none → ∀ (r : Int32) f2_z j2, qM A f f2_z j j2 0 → (f2_z A 4).toInt = 2 → Q (some (.int r)) (zM w f2_z j2)) (hT3 : (0 ≤ x.toInt ∧ x.toInt < 4) → ∀ s l, ty x.toInt.toNat = some (s, l) → ¬ (sightC l ∧ 0 ≤ y.toInt ∧ y.toInt ≤ 4) → ∀ (r : Int32) f2_z j2, qM A f f2_z j j2 0 → (f2_z A 4).toInt = 3 → Q (some (.int r)) (zM w f2_z j2)) (hQ : (0 ≤ x.toInt ∧ x.toInt < 4) → ∀ s l, ty x.toInt.toNat = some (s, l) → (sightC l ∧ 0 ≤ y.toInt ∧ y.toInt ≤ 4) → ∀ (r : Int32) f2_z j2, r.toInt = (((allF (y.toInt.toNat + 1) (lyFlat (tbC T))).countP (fun y => (fun L => @decide (lookC T.2.2.1.1 L l) (Classical.propDecidable _)) y.1)) : Nat) → qM A f f2_z j j2 1 → (f2_z A 4).toInt = 0 → Q (some (.int r)) (zM w f2_z j2)) : zC g 18 yX12_seen cX12_seen 3 (some .int) [.ref A, .int x, .int y] (zM w f j) (0, 0) Q QX := by
  refine zC_of G (by decide +kernel) (Nat.le_of_ble_eq_true rfl) ?_
  have hk9 := hk
  obtain ⟨⟨k0_z, k1_z, k2_z, k3_z, k4_z, k5_z, k6_z⟩, km, kg, kp, kl1, kl2, kl3⟩ := hk9
  have km9 := km
  obtain ⟨m1_z, m2_z, m3_z⟩ := km9
  have hn6 : tbC T ≤ 6 := hw.2.1
  have hg4 : tbG T ≤ 4 := hw.2.2.1
  have hwm := hw.2.2.2.2.2.2.2.1
  have hml : T.2.2.1.2.length ≤ 5 := hwm.2.1
  have hm99 := hwm.2.2
  have hrt := wfT_rch hw
  have hLl : (tbL T).length ≤ 6 := Nat.le_trans (rch_cell hrt).2.2.2.2 hn6
  have hpl : T.2.2.2.length ≤ 10 := hw.2.2.2.2.2.2.2.2.1
  refine r_aloadR0 dX12_seen_0 ?_
  refine r_aloadR0 dX12_seen_1 ?_
  refine r_iload1 dX12_seen_2 ?_
  refine r_iload2 dX12_seen_3 ?_
  refine q_callV2 zm_RX12_558 dX12_seen_4 (shM_k hs) (by decide) rfl (Nat.le_of_ble_eq_true rfl) (Nat.le_of_ble_eq_true rfl) (Nat.le_of_ble_eq_true rfl) (Nat.le_of_ble_eq_true rfl) (Nat.le_of_ble_eq_true rfl) (s_X12_seenFault G hs hk hw hty (fun r4 e4_z => ?_))
  rcases e4_z with ⟨q1_z, q2_z⟩ | ⟨q1_z, q2_z, q3_z⟩ | ⟨q1_z, s, l, q2_z, ⟨q3_z, q4_z⟩ | ⟨q3_z, q4_z⟩⟩
  · refine m_putI zf_RX12_77 (by intro C T N h_z; cases h_z; rfl) rfl dX12_seen_7 (shM_k hs) ?_
    obtain ⟨g7, hg7⟩ : ∃ g9, g9 = zu f A 4 r4 := ⟨_, rfl⟩
    rw [← hg7]
    have og7 : frM A [] [4] f g7 := by rw [hg7]; exact frM_zk frM_rf (by decide)
    have vg7 : g7 A 4 = r4 := by rw [hg7]; exact zu_at
    have vt7 : (g7 A 4).toInt = r4.toInt := by rw [vg7]
    have hk7 : ctKn (g7 (A + 1)) T := by rw [og7.2.1 1 (by decide) (by decide) (by decide)]; exact hk
    refine r_aloadR0 dX12_seen_10 ?_
    refine m_getV (x := (g7 A 4)) zf_RX12_77 rfl dX12_seen_11 (shM_k hs) (rfl) ?_
    refine t_ifle (t := 19) dX12_seen_14 (by decide) (fun h14 => False.elim (by omega)) (fun h14 => ?_)
    refine n_iconst dX12_seen_17 (by decide) (fun r17 e17_z => ?_)
    refine r_iret dX12_seen_18 rfl (Nat.le_of_ble_eq_true rfl) (Nat.le_of_ble_eq_true rfl) ?_
    exact hT1 q1_z _ g7 j (qM_q (show frM A [6, 7, 8, 9, 13, 16, 17] [4, 33, 34] f _ from (frM_su og7 (by decide) (by decide)))) (by omega)
  · refine m_putI zf_RX12_77 (by intro C T N h_z; cases h_z; rfl) rfl dX12_seen_7 (shM_k hs) ?_
    obtain ⟨g7, hg7⟩ : ∃ g9, g9 = zu f A 4 r4 := ⟨_, rfl⟩
    rw [← hg7]
    have og7 : frM A [] [4] f g7 := by rw [hg7]; exact frM_zk frM_rf (by decide)
    have vg7 : g7 A 4 = r4 := by rw [hg7]; exact zu_at
    have vt7 : (g7 A 4).toInt = r4.toInt := by rw [vg7]
    have hk7 : ctKn (g7 (A + 1)) T := by rw [og7.2.1 1 (by decide) (by decide) (by decide)]; exact hk
    refine r_aloadR0 dX12_seen_10 ?_
    refine m_getV (x := (g7 A 4)) zf_RX12_77 rfl dX12_seen_11 (shM_k hs) (rfl) ?_
    refine t_ifle (t := 19) dX12_seen_14 (by decide) (fun h14 => False.elim (by omega)) (fun h14 => ?_)
    refine n_iconst dX12_seen_17 (by decide) (fun r17 e17_z => ?_)
    refine r_iret dX12_seen_18 rfl (Nat.le_of_ble_eq_true rfl) (Nat.le_of_ble_eq_true rfl) ?_
    exact hT2 q1_z q2_z _ g7 j (qM_q (show frM A [6, 7, 8, 9, 13, 16, 17] [4, 33, 34] f _ from (frM_su og7 (by decide) (by decide)))) (by omega)
  · refine m_putI zf_RX12_77 (by intro C T N h_z; cases h_z; rfl) rfl dX12_seen_7 (shM_k hs) ?_
    obtain ⟨g7, hg7⟩ : ∃ g9, g9 = zu f A 4 r4 := ⟨_, rfl⟩
    rw [← hg7]
    have og7 : frM A [] [4] f g7 := by rw [hg7]; exact frM_zk frM_rf (by decide)
    have vg7 : g7 A 4 = r4 := by rw [hg7]; exact zu_at
    have vt7 : (g7 A 4).toInt = r4.toInt := by rw [vg7]
    have hk7 : ctKn (g7 (A + 1)) T := by rw [og7.2.1 1 (by decide) (by decide) (by decide)]; exact hk
    have qM7 : qM A f g7 j j 0 := qM_q (show frM A [6, 7, 8, 9, 13, 16, 17] [4, 33, 34] f _ from (frM_su og7 (by decide) (by decide)))
    refine r_aloadR0 dX12_seen_10 ?_
    refine m_getV (x := (g7 A 4)) zf_RX12_77 rfl dX12_seen_11 (shM_k hs) (rfl) ?_
    refine t_ifle (t := 19) dX12_seen_14 (by decide) (fun h14 => ?_) (fun h14 => False.elim (by omega))
    refine r_aloadR0 dX12_seen_19 ?_
    refine r_iload1 dX12_seen_20 ?_
    refine r_iload2 dX12_seen_21 ?_
    refine q_callV2 zm_RX12_561 dX12_seen_22 (shM_k hs) (by decide) rfl (Nat.le_of_ble_eq_true rfl) (Nat.le_of_ble_eq_true rfl) (Nat.le_of_ble_eq_true rfl) (Nat.le_of_ble_eq_true rfl) (Nat.le_of_ble_eq_true rfl) (s_X12_laysSeen (tn := x.toInt.toNat) (s := s) (l := l) G hs hk7 hw (qM7.2.2.1 hmb) (by rw [og7.2.2 37 (by decide)]; exact htn) (tys_of hty og7 (by decide) (by decide) (fun _ _ => rfl)) (by omega) (by omega) q2_z q4_z.2 (fun g22 j22 o22 t22 c22 => ?_))
    have oq : qM A f g22 j j22 1 := qM_tr qM7 o22
    have oth : (g22 A 4).toInt = 0 := by rw [t22]; omega
    obtain ⟨_, _, w30, wty, w34, w17⟩ := c22
    refine r_aloadR0 dX12_seen_25 ?_
    refine m_getV (x := (g22 A 30)) zf_RX12_452 rfl dX12_seen_26 (shM_k hs) (rfl) ?_
    refine r_iret dX12_seen_29 rfl (Nat.le_of_ble_eq_true rfl) (Nat.le_of_ble_eq_true rfl) ?_
    exact hQ q1_z s l q2_z q4_z _ g22 j22 w30 oq oth
  · refine m_putI zf_RX12_77 (by intro C T N h_z; cases h_z; rfl) rfl dX12_seen_7 (shM_k hs) ?_
    obtain ⟨g7, hg7⟩ : ∃ g9, g9 = zu f A 4 r4 := ⟨_, rfl⟩
    rw [← hg7]
    have og7 : frM A [] [4] f g7 := by rw [hg7]; exact frM_zk frM_rf (by decide)
    have vg7 : g7 A 4 = r4 := by rw [hg7]; exact zu_at
    have vt7 : (g7 A 4).toInt = r4.toInt := by rw [vg7]
    have hk7 : ctKn (g7 (A + 1)) T := by rw [og7.2.1 1 (by decide) (by decide) (by decide)]; exact hk
    refine r_aloadR0 dX12_seen_10 ?_
    refine m_getV (x := (g7 A 4)) zf_RX12_77 rfl dX12_seen_11 (shM_k hs) (rfl) ?_
    refine t_ifle (t := 19) dX12_seen_14 (by decide) (fun h14 => False.elim (by omega)) (fun h14 => ?_)
    refine n_iconst dX12_seen_17 (by decide) (fun r17 e17_z => ?_)
    refine r_iret dX12_seen_18 rfl (Nat.le_of_ble_eq_true rfl) (Nat.le_of_ble_eq_true rfl) ?_
    exact hT3 q1_z s l q2_z q4_z _ g7 j (qM_q (show frM A [6, 7, 8, 9, 13, 16, 17] [4, 33, 34] f _ from (frM_su og7 (by decide) (by decide)))) (by omega)
set_option maxHeartbeats 4000000 in
set_option maxRecDepth 100000 in
theorem s_X12_sure {g : zGT} {w : zW} {f : Nat → Nat → Int32} {j : Nat → Nat → Int64} {A : Nat} {T : zTb} {x y : Int32} {ty : Nat → zTy} {Q : Option Value → zW → Prop} {QX : String → zW → Prop} (G : zGok g) (hs : shM w A) (hk : ctKn (f (A + 1)) T) (hw : wfT T) (hmb : mbI f A) (htn : (f A 37).toInt < 1900000000) (hty : ∀ t, t < 4 → ctTm f j A t (ty t)) (hT1 : ¬ (0 ≤ x.toInt ∧ x.toInt < 4) → ∀ (r : Int32) f2_z j2, qM A f f2_z j j2 0 → (f2_z A 4).toInt = 1 → Q (some (.int r)) (zM w f2_z j2)) (hT2 : (0 ≤ x.toInt ∧ x.toInt < 4) → ty x.toInt.toNat = none → ∀ (r : Int32) f2_z j2, qM A f f2_z j j2 0 → (f2_z A 4).toInt = 2 → Q (some (.int r)) (zM w f2_z j2)) (hT3 : (0 ≤ x.toInt ∧ x.toInt < 4) → ∀ s l, ty x.toInt.toNat = some (s, l) → ¬ (sightC l ∧ 0 ≤ y.toInt ∧ y.toInt ≤ 4) → ∀ (r : Int32) f2_z j2, qM A f f2_z j j2 0 → (f2_z A 4).toInt = 3 → Q (some (.int r)) (zM w f2_z j2)) (hQ : (0 ≤ x.toInt ∧ x.toInt < 4) → ∀ s l, ty x.toInt.toNat = some (s, l) → (sightC l ∧ 0 ≤ y.toInt ∧ y.toInt ≤ 4) → ∀ (r : Int32) f2_z j2, r.toInt = (if ((allF (y.toInt.toNat + 1) (lyFlat (tbC T))).countP (fun y => (fun L => @decide (lookC T.2.2.1.1 L l) (Classical.propDecidable _)) y.1)) = 0 then 0 else (surE (fun L => @decide (lookC T.2.2.1.1 L l) (Classical.propDecidable _)) (tbC T - 1) (s0V (tbC T)) (allF (y.toInt.toNat + 1) (lyFlat (tbC T)))).toInt) → qM A f f2_z j j2 1 → (f2_z A 4).toInt = 0 → Q (some (.int r)) (zM w f2_z j2)) : zC g 18 yX12_sure cX12_sure 3 (some .int) [.ref A, .int x, .int y] (zM w f j) (0, 0) Q QX := by
  refine zC_of G (by decide +kernel) (Nat.le_of_ble_eq_true rfl) ?_
  have hk9 := hk
  obtain ⟨⟨k0_z, k1_z, k2_z, k3_z, k4_z, k5_z, k6_z⟩, km, kg, kp, kl1, kl2, kl3⟩ := hk9
  have km9 := km
  obtain ⟨m1_z, m2_z, m3_z⟩ := km9
  have hn6 : tbC T ≤ 6 := hw.2.1
  have hg4 : tbG T ≤ 4 := hw.2.2.1
  have hwm := hw.2.2.2.2.2.2.2.1
  have hml : T.2.2.1.2.length ≤ 5 := hwm.2.1
  have hm99 := hwm.2.2
  have hrt := wfT_rch hw
  have hLl : (tbL T).length ≤ 6 := Nat.le_trans (rch_cell hrt).2.2.2.2 hn6
  have hpl : T.2.2.2.length ≤ 10 := hw.2.2.2.2.2.2.2.2.1
  refine r_aloadR0 dX12_sure_0 ?_
  refine r_aloadR0 dX12_sure_1 ?_
  refine r_iload1 dX12_sure_2 ?_
  refine r_iload2 dX12_sure_3 ?_
  refine q_callV2 zm_RX12_558 dX12_sure_4 (shM_k hs) (by decide) rfl (Nat.le_of_ble_eq_true rfl) (Nat.le_of_ble_eq_true rfl) (Nat.le_of_ble_eq_true rfl) (Nat.le_of_ble_eq_true rfl) (Nat.le_of_ble_eq_true rfl) (s_X12_seenFault G hs hk hw hty (fun r4 e4_z => ?_))
  rcases e4_z with ⟨q1_z, q2_z⟩ | ⟨q1_z, q2_z, q3_z⟩ | ⟨q1_z, s, l, q2_z, ⟨q3_z, q4_z⟩ | ⟨q3_z, q4_z⟩⟩
  · refine m_putI zf_RX12_77 (by intro C T N h_z; cases h_z; rfl) rfl dX12_sure_7 (shM_k hs) ?_
    obtain ⟨g7, hg7⟩ : ∃ g9, g9 = zu f A 4 r4 := ⟨_, rfl⟩
    rw [← hg7]
    have og7 : frM A [] [4] f g7 := by rw [hg7]; exact frM_zk frM_rf (by decide)
    have vg7 : g7 A 4 = r4 := by rw [hg7]; exact zu_at
    have vt7 : (g7 A 4).toInt = r4.toInt := by rw [vg7]
    have hk7 : ctKn (g7 (A + 1)) T := by rw [og7.2.1 1 (by decide) (by decide) (by decide)]; exact hk
    refine r_aloadR0 dX12_sure_10 ?_
    refine m_getV (x := (g7 A 4)) zf_RX12_77 rfl dX12_sure_11 (shM_k hs) (rfl) ?_
    refine t_ifle (t := 19) dX12_sure_14 (by decide) (fun h14 => False.elim (by omega)) (fun h14 => ?_)
    refine n_iconst dX12_sure_17 (by decide) (fun r17 e17_z => ?_)
    refine r_iret dX12_sure_18 rfl (Nat.le_of_ble_eq_true rfl) (Nat.le_of_ble_eq_true rfl) ?_
    exact hT1 q1_z _ g7 j (qM_q (show frM A [6, 7, 8, 9, 13, 16, 17] [4, 33, 34] f _ from (frM_su og7 (by decide) (by decide)))) (by omega)
  · refine m_putI zf_RX12_77 (by intro C T N h_z; cases h_z; rfl) rfl dX12_sure_7 (shM_k hs) ?_
    obtain ⟨g7, hg7⟩ : ∃ g9, g9 = zu f A 4 r4 := ⟨_, rfl⟩
    rw [← hg7]
    have og7 : frM A [] [4] f g7 := by rw [hg7]; exact frM_zk frM_rf (by decide)
    have vg7 : g7 A 4 = r4 := by rw [hg7]; exact zu_at
    have vt7 : (g7 A 4).toInt = r4.toInt := by rw [vg7]
    have hk7 : ctKn (g7 (A + 1)) T := by rw [og7.2.1 1 (by decide) (by decide) (by decide)]; exact hk
    refine r_aloadR0 dX12_sure_10 ?_
    refine m_getV (x := (g7 A 4)) zf_RX12_77 rfl dX12_sure_11 (shM_k hs) (rfl) ?_
    refine t_ifle (t := 19) dX12_sure_14 (by decide) (fun h14 => False.elim (by omega)) (fun h14 => ?_)
    refine n_iconst dX12_sure_17 (by decide) (fun r17 e17_z => ?_)
    refine r_iret dX12_sure_18 rfl (Nat.le_of_ble_eq_true rfl) (Nat.le_of_ble_eq_true rfl) ?_
    exact hT2 q1_z q2_z _ g7 j (qM_q (show frM A [6, 7, 8, 9, 13, 16, 17] [4, 33, 34] f _ from (frM_su og7 (by decide) (by decide)))) (by omega)
  · refine m_putI zf_RX12_77 (by intro C T N h_z; cases h_z; rfl) rfl dX12_sure_7 (shM_k hs) ?_
    obtain ⟨g7, hg7⟩ : ∃ g9, g9 = zu f A 4 r4 := ⟨_, rfl⟩
    rw [← hg7]
    have og7 : frM A [] [4] f g7 := by rw [hg7]; exact frM_zk frM_rf (by decide)
    have vg7 : g7 A 4 = r4 := by rw [hg7]; exact zu_at
    have vt7 : (g7 A 4).toInt = r4.toInt := by rw [vg7]
    have hk7 : ctKn (g7 (A + 1)) T := by rw [og7.2.1 1 (by decide) (by decide) (by decide)]; exact hk
    have qM7 : qM A f g7 j j 0 := qM_q (show frM A [6, 7, 8, 9, 13, 16, 17] [4, 33, 34] f _ from (frM_su og7 (by decide) (by decide)))
    refine r_aloadR0 dX12_sure_10 ?_
    refine m_getV (x := (g7 A 4)) zf_RX12_77 rfl dX12_sure_11 (shM_k hs) (rfl) ?_
    refine t_ifle (t := 19) dX12_sure_14 (by decide) (fun h14 => ?_) (fun h14 => False.elim (by omega))
    refine r_aloadR0 dX12_sure_19 ?_
    refine r_iload1 dX12_sure_20 ?_
    refine r_iload2 dX12_sure_21 ?_
    refine q_callV2 zm_RX12_561 dX12_sure_22 (shM_k hs) (by decide) rfl (Nat.le_of_ble_eq_true rfl) (Nat.le_of_ble_eq_true rfl) (Nat.le_of_ble_eq_true rfl) (Nat.le_of_ble_eq_true rfl) (Nat.le_of_ble_eq_true rfl) (s_X12_laysSeen (tn := x.toInt.toNat) (s := s) (l := l) G hs hk7 hw (qM7.2.2.1 hmb) (by rw [og7.2.2 37 (by decide)]; exact htn) (tys_of hty og7 (by decide) (by decide) (fun _ _ => rfl)) (by omega) (by omega) q2_z q4_z.2 (fun g22 j22 o22 t22 c22 => ?_))
    have oq : qM A f g22 j j22 1 := qM_tr qM7 o22
    have oth : (g22 A 4).toInt = 0 := by rw [t22]; omega
    obtain ⟨_, _, w30, wty, w34, w17⟩ := c22
    refine r_aloadR0 dX12_sure_25 ?_
    refine m_getV (x := (g22 A 30)) zf_RX12_452 rfl dX12_sure_26 (shM_k hs) (rfl) ?_
    refine t_ifne (t := 36) dX12_sure_29 (by decide) (fun h29 => ?_) (fun h29 => ?_)
    · refine r_aloadR0 dX12_sure_36 ?_
      refine m_getV (x := (g22 A 34)) zf_RX12_555 rfl dX12_sure_37 (shM_k hs) (rfl) ?_
      refine r_iret dX12_sure_40 rfl (Nat.le_of_ble_eq_true rfl) (Nat.le_of_ble_eq_true rfl) ?_
      refine hQ q1_z s l q2_z q4_z _ g22 j22 ?_ oq oth
      first
        | (rw [if_pos (by omega)]; omega)
        | (rw [if_neg (by omega), w34])
    · refine n_iconst dX12_sure_32 (by decide) (fun r32 e32 => ?_)
      refine r_goto (t := 40) dX12_sure_33 (by decide) ?_
      refine r_iret dX12_sure_40 rfl (Nat.le_of_ble_eq_true rfl) (Nat.le_of_ble_eq_true rfl) ?_
      refine hQ q1_z s l q2_z q4_z _ g22 j22 ?_ oq oth
      first
        | (rw [if_pos (by omega)]; omega)
        | (rw [if_neg (by omega), w34])
  · refine m_putI zf_RX12_77 (by intro C T N h_z; cases h_z; rfl) rfl dX12_sure_7 (shM_k hs) ?_
    obtain ⟨g7, hg7⟩ : ∃ g9, g9 = zu f A 4 r4 := ⟨_, rfl⟩
    rw [← hg7]
    have og7 : frM A [] [4] f g7 := by rw [hg7]; exact frM_zk frM_rf (by decide)
    have vg7 : g7 A 4 = r4 := by rw [hg7]; exact zu_at
    have vt7 : (g7 A 4).toInt = r4.toInt := by rw [vg7]
    have hk7 : ctKn (g7 (A + 1)) T := by rw [og7.2.1 1 (by decide) (by decide) (by decide)]; exact hk
    refine r_aloadR0 dX12_sure_10 ?_
    refine m_getV (x := (g7 A 4)) zf_RX12_77 rfl dX12_sure_11 (shM_k hs) (rfl) ?_
    refine t_ifle (t := 19) dX12_sure_14 (by decide) (fun h14 => False.elim (by omega)) (fun h14 => ?_)
    refine n_iconst dX12_sure_17 (by decide) (fun r17 e17_z => ?_)
    refine r_iret dX12_sure_18 rfl (Nat.le_of_ble_eq_true rfl) (Nat.le_of_ble_eq_true rfl) ?_
    exact hT3 q1_z s l q2_z q4_z _ g7 j (qM_q (show frM A [6, 7, 8, 9, 13, 16, 17] [4, 33, 34] f _ from (frM_su og7 (by decide) (by decide)))) (by omega)
set_option maxHeartbeats 4000000 in
set_option maxRecDepth 100000 in
theorem s_X12_look {g : zGT} {w : zW} {f : Nat → Nat → Int32} {j : Nat → Nat → Int64} {A : Nat} {T : zTb} {x y : Int32} {ty : Nat → zTy} {Q : Option Value → zW → Prop} {QX : String → zW → Prop} (G : zGok g) (hs : shM w A) (hk : ctKn (f (A + 1)) T) (hw : wfT T) (hmb : mbI f A) (htn : (f A 37).toInt < 1900000000) (hty : ∀ t, t < 4 → ctTm f j A t (ty t)) (hT1 : ¬ (0 ≤ x.toInt ∧ x.toInt < 4) → ∀ (r : Int32) f2_z j2, qM A f f2_z j j2 0 → (f2_z A 4).toInt = 1 → Q (some (.int r)) (zM w f2_z j2)) (hT2 : (0 ≤ x.toInt ∧ x.toInt < 4) → ty x.toInt.toNat = none → ∀ (r : Int32) f2_z j2, qM A f f2_z j j2 0 → (f2_z A 4).toInt = 2 → Q (some (.int r)) (zM w f2_z j2)) (hT3 : (0 ≤ x.toInt ∧ x.toInt < 4) → ∀ s l, ty x.toInt.toNat = some (s, l) → ¬ (sightC l ∧ 0 ≤ y.toInt ∧ y.toInt ≤ 4) → ∀ (r : Int32) f2_z j2, qM A f f2_z j j2 0 → (f2_z A 4).toInt = 3 → Q (some (.int r)) (zM w f2_z j2)) (hQ : (0 ≤ x.toInt ∧ x.toInt < 4) → ∀ s l, ty x.toInt.toNat = some (s, l) → (sightC l ∧ 0 ≤ y.toInt ∧ y.toInt ≤ 4) → ∀ (r : Int32) f2_z j2, r.toInt = (if ((allF (y.toInt.toNat + 1) (lyFlat (tbC T))).countP (fun y => (fun L => @decide (lookC T.2.2.1.1 L l) (Classical.propDecidable _)) y.1)) = 0 then -1 else (looR (bnM T.2.2.1.1 (fun L => @decide (lookC T.2.2.1.1 L l) (Classical.propDecidable _)) (allF (y.toInt.toNat + 1) (lyFlat (tbC T)))) l.length).1) → qM A f f2_z j j2 1 → (f2_z A 4).toInt = 0 → Q (some (.int r)) (zM w f2_z j2)) : zC g 18 yX12_look cX12_look 8 (some .int) [.ref A, .int x, .int y] (zM w f j) (0, 0) Q QX := by
  refine zC_of G (by decide +kernel) (Nat.le_of_ble_eq_true rfl) ?_
  have hk9 := hk
  obtain ⟨⟨k0_z, k1_z, k2_z, k3_z, k4_z, k5_z, k6_z⟩, km, kg, kp, kl1, kl2, kl3⟩ := hk9
  have km9 := km
  obtain ⟨m1_z, m2_z, m3_z⟩ := km9
  have hn6 : tbC T ≤ 6 := hw.2.1
  have hg4 : tbG T ≤ 4 := hw.2.2.1
  have hwm := hw.2.2.2.2.2.2.2.1
  have hml : T.2.2.1.2.length ≤ 5 := hwm.2.1
  have hm99 := hwm.2.2
  have hrt := wfT_rch hw
  have hLl : (tbL T).length ≤ 6 := Nat.le_trans (rch_cell hrt).2.2.2.2 hn6
  have hpl : T.2.2.2.length ≤ 10 := hw.2.2.2.2.2.2.2.2.1
  refine r_aloadR0 dX12_look_0 ?_
  refine r_aloadR0 dX12_look_1 ?_
  refine r_iload1 dX12_look_2 ?_
  refine r_iload2 dX12_look_3 ?_
  refine q_callV2 zm_RX12_558 dX12_look_4 (shM_k hs) (by decide) rfl (Nat.le_of_ble_eq_true rfl) (Nat.le_of_ble_eq_true rfl) (Nat.le_of_ble_eq_true rfl) (Nat.le_of_ble_eq_true rfl) (Nat.le_of_ble_eq_true rfl) (s_X12_seenFault G hs hk hw hty (fun r4 e4_z => ?_))
  rcases e4_z with ⟨q1_z, q2_z⟩ | ⟨q1_z, q2_z, q3_z⟩ | ⟨q1_z, s, l, q2_z, ⟨q3_z, q4_z⟩ | ⟨q3_z, q4_z⟩⟩
  · refine m_putI zf_RX12_77 (by intro C T N h_z; cases h_z; rfl) rfl dX12_look_7 (shM_k hs) ?_
    obtain ⟨g7, hg7⟩ : ∃ g9, g9 = zu f A 4 r4 := ⟨_, rfl⟩
    rw [← hg7]
    have og7 : frM A [] [4] f g7 := by rw [hg7]; exact frM_zk frM_rf (by decide)
    have vg7 : g7 A 4 = r4 := by rw [hg7]; exact zu_at
    have vt7 : (g7 A 4).toInt = r4.toInt := by rw [vg7]
    have hk7 : ctKn (g7 (A + 1)) T := by rw [og7.2.1 1 (by decide) (by decide) (by decide)]; exact hk
    refine r_aloadR0 dX12_look_10 ?_
    refine m_getV (x := (g7 A 4)) zf_RX12_77 rfl dX12_look_11 (shM_k hs) (rfl) ?_
    refine t_ifle (t := 19) dX12_look_14 (by decide) (fun h14 => False.elim (by omega)) (fun h14 => ?_)
    refine n_iconst dX12_look_17 (by decide) (fun r17 e17_z => ?_)
    refine r_iret dX12_look_18 rfl (Nat.le_of_ble_eq_true rfl) (Nat.le_of_ble_eq_true rfl) ?_
    exact hT1 q1_z _ g7 j (qM_q (show frM A [6, 7, 8, 9, 13, 16, 17] [4, 33, 34] f _ from (frM_su og7 (by decide) (by decide)))) (by omega)
  · refine m_putI zf_RX12_77 (by intro C T N h_z; cases h_z; rfl) rfl dX12_look_7 (shM_k hs) ?_
    obtain ⟨g7, hg7⟩ : ∃ g9, g9 = zu f A 4 r4 := ⟨_, rfl⟩
    rw [← hg7]
    have og7 : frM A [] [4] f g7 := by rw [hg7]; exact frM_zk frM_rf (by decide)
    have vg7 : g7 A 4 = r4 := by rw [hg7]; exact zu_at
    have vt7 : (g7 A 4).toInt = r4.toInt := by rw [vg7]
    have hk7 : ctKn (g7 (A + 1)) T := by rw [og7.2.1 1 (by decide) (by decide) (by decide)]; exact hk
    refine r_aloadR0 dX12_look_10 ?_
    refine m_getV (x := (g7 A 4)) zf_RX12_77 rfl dX12_look_11 (shM_k hs) (rfl) ?_
    refine t_ifle (t := 19) dX12_look_14 (by decide) (fun h14 => False.elim (by omega)) (fun h14 => ?_)
    refine n_iconst dX12_look_17 (by decide) (fun r17 e17_z => ?_)
    refine r_iret dX12_look_18 rfl (Nat.le_of_ble_eq_true rfl) (Nat.le_of_ble_eq_true rfl) ?_
    exact hT2 q1_z q2_z _ g7 j (qM_q (show frM A [6, 7, 8, 9, 13, 16, 17] [4, 33, 34] f _ from (frM_su og7 (by decide) (by decide)))) (by omega)
  · refine m_putI zf_RX12_77 (by intro C T N h_z; cases h_z; rfl) rfl dX12_look_7 (shM_k hs) ?_
    obtain ⟨g7, hg7⟩ : ∃ g9, g9 = zu f A 4 r4 := ⟨_, rfl⟩
    rw [← hg7]
    have og7 : frM A [] [4] f g7 := by rw [hg7]; exact frM_zk frM_rf (by decide)
    have vg7 : g7 A 4 = r4 := by rw [hg7]; exact zu_at
    have vt7 : (g7 A 4).toInt = r4.toInt := by rw [vg7]
    have hk7 : ctKn (g7 (A + 1)) T := by rw [og7.2.1 1 (by decide) (by decide) (by decide)]; exact hk
    have qM7 : qM A f g7 j j 0 := qM_q (show frM A [6, 7, 8, 9, 13, 16, 17] [4, 33, 34] f _ from (frM_su og7 (by decide) (by decide)))
    refine r_aloadR0 dX12_look_10 ?_
    refine m_getV (x := (g7 A 4)) zf_RX12_77 rfl dX12_look_11 (shM_k hs) (rfl) ?_
    refine t_ifle (t := 19) dX12_look_14 (by decide) (fun h14 => ?_) (fun h14 => False.elim (by omega))
    refine r_aloadR0 dX12_look_19 ?_
    refine r_iload1 dX12_look_20 ?_
    refine r_iload2 dX12_look_21 ?_
    refine q_callV2 zm_RX12_561 dX12_look_22 (shM_k hs) (by decide) rfl (Nat.le_of_ble_eq_true rfl) (Nat.le_of_ble_eq_true rfl) (Nat.le_of_ble_eq_true rfl) (Nat.le_of_ble_eq_true rfl) (Nat.le_of_ble_eq_true rfl) (s_X12_laysSeen (tn := x.toInt.toNat) (s := s) (l := l) G hs hk7 hw (qM7.2.2.1 hmb) (by rw [og7.2.2 37 (by decide)]; exact htn) (tys_of hty og7 (by decide) (by decide) (fun _ _ => rfl)) (by omega) (by omega) q2_z q4_z.2 (fun g22 j22 o22 t22 c22 => ?_))
    have oq : qM A f g22 j j22 1 := qM_tr qM7 o22
    have oth : (g22 A 4).toInt = 0 := by rw [t22]; omega
    obtain ⟨_, _, w30, wty, w34, w17⟩ := c22
    obtain ⟨X9, hX9⟩ : ∃ X9, X9 = (allF (y.toInt.toNat + 1) (lyFlat (tbC T))) := ⟨_, rfl⟩
    have hXl : X9.length ≤ 3400000 := by rw [hX9]; exact allF_len (rch_flat hn6) (by have := q4_z.2; omega)
    rw [← hX9] at w30 w17 hQ
    have hc3 : ∀ k v, X9.countP (bnQ T.2.2.1.1 (fun L => @decide (lookC T.2.2.1.1 L l) (Classical.propDecidable _)) k v) ≤ 3400000 := fun k v => Nat.le_trans List.countP_le_length hXl
    have hct := wty x.toInt.toNat (by omega)
    rw [q2_z] at hct
    obtain ⟨t1, t2, t3, t4, t5⟩ := hct
    have hl6 : l.length ≤ 6 := q4_z.1.1.2
    have lp : ∀ (mz : Nat) (v : Int32) (u : Int32) (c : Int32) (k : Nat) (v6_ : Option Value) (v7_ : Option Value), c.toInt = (k : Nat) → k ≤ l.length → (X9.countP (fun y => (fun L => @decide (lookC T.2.2.1.1 L l) (Classical.propDecidable _)) y.1) = 0 → k = 0) → v.toInt = (looR (bnM T.2.2.1.1 (fun L => @decide (lookC T.2.2.1.1 L l) (Classical.propDecidable _)) X9) k).1 → u.toInt = (looR (bnM T.2.2.1.1 (fun L => @decide (lookC T.2.2.1.1 L l) (Classical.propDecidable _)) X9) k).2 → l.length - k < mz → zR (zV g 18 yX12_look 8 (some .int) (0, 0) Q QX) cX12_look yX12_look.cls 35 [some (.ref A), some (.int x), some (.int y), some (.int v), some (.int u), some (.int c), v6_, v7_] [] (zM w g22 j22) (0, 0) := by
      intro mz
      induction mz with
      | zero =>
        intro v u c k v6_ v7_ hck hk8 hk0 hv hu hmz
        exact absurd hmz (Nat.not_lt_zero _)
      | succ mz ih =>
        intro v u c k v6_ v7_ hck hk8 hk0 hv hu hmz
        have hv0 : X9.countP (fun y => (fun L => @decide (lookC T.2.2.1.1 L l) (Classical.propDecidable _)) y.1) = 0 → v.toInt = -1 := fun e9_z => by have h8 := hk0 e9_z; rw [h8] at hv; exact hv
        rcases Nat.lt_or_ge k l.length with hkl | hkl
        · rcases Nat.eq_zero_or_pos (X9.countP (fun y => (fun L => @decide (lookC T.2.2.1.1 L l) (Classical.propDecidable _)) y.1)) with hz9 | hz9
          · refine r_iload5 dX12_look_35 ?_
            refine r_aloadR0 dX12_look_37 ?_
            refine m_getR (q := (A + 19)) zf_RX12_71 rfl dX12_look_38 (shM_k hs) (shM_p19 hs) ?_
            refine r_iload1 dX12_look_41 ?_
            refine m_iald (k := x.toInt.toNat) (x := (g22 (A + 19) x.toInt.toNat)) dX12_look_42 (shM_k19 hs) (shM_n19 hs) (by omega) (by omega) (rfl) ?_
            refine t_icge (t := 115) dX12_look_43 (by decide) (fun h43 => False.elim (by omega)) (fun h43 => ?_)
            refine r_aloadR0 dX12_look_46 ?_
            refine m_getV (x := (g22 A 30)) zf_RX12_452 rfl dX12_look_47 (shM_k hs) (rfl) ?_
            refine t_ifle (t := 115) dX12_look_50 (by decide) (fun h50 => ?_) (fun h50 => False.elim (by omega))
            refine r_iload3 dX12_look_115 ?_
            refine r_iret dX12_look_116 rfl (Nat.le_of_ble_eq_true rfl) (Nat.le_of_ble_eq_true rfl) ?_
            refine hQ q1_z s l q2_z q4_z _ g22 j22 ?_ oq oth
            rw [if_pos hz9]
            exact hv0 hz9
          · obtain ⟨mo, hmo⟩ : ∃ mo, mo = mz := ⟨_, rfl⟩
            rw [← hmo] at hmz
            have iho := ih
            rw [← hmo] at iho
            have lq : ∀ (mz : Nat) (v : Int32) (u : Int32) (b : Int32) (c2_z : Int32) (m : Nat), c2_z.toInt = (m : Nat) → m ≤ 100 → v.toInt = (looR (bnM T.2.2.1.1 (fun L => @decide (lookC T.2.2.1.1 L l) (Classical.propDecidable _)) X9) k).1 → u.toInt = (looR (bnM T.2.2.1.1 (fun L => @decide (lookC T.2.2.1.1 L l) (Classical.propDecidable _)) X9) k).2 → b.toInt = ((mxB (fun v => X9.countP (bnQ T.2.2.1.1 (fun L => @decide (lookC T.2.2.1.1 L l) (Classical.propDecidable _)) k v)) m : Nat) : Int) → 100 - m < mz → zR (zV g 18 yX12_look 8 (some .int) (0, 0) Q QX) cX12_look yX12_look.cls 59 [some (.ref A), some (.int x), some (.int y), some (.int v), some (.int u), some (.int c), some (.int b), some (.int c2_z)] [] (zM w g22 j22) (0, 0) := by
              intro mz
              induction mz with
              | zero =>
                intro v u b c2_z m hcm hm8 hv1 hu1 hvm hmz
                exact absurd hmz (Nat.not_lt_zero _)
              | succ mz ih =>
                intro v u b c2_z m hcm hm8 hv1 hu1 hvm hmz
                have hmle : mxB (fun v => X9.countP (bnQ T.2.2.1.1 (fun L => @decide (lookC T.2.2.1.1 L l) (Classical.propDecidable _)) k v)) m ≤ 3400000 := mxB_le (fun v => hc3 k v)
                rcases Nat.lt_or_ge m 100 with hml9 | hml9
                · refine r_iload7 dX12_look_59 ?_
                  refine n_bipush dX12_look_61 (by decide) (fun r61 e61 => ?_)
                  refine t_icge (t := 92) dX12_look_63 (by decide) (fun h63 => False.elim (by omega)) (fun h63 => ?_)
                  have hw9 := w17 k m (by omega) hml9
                  have hc9 := hc3 k m
                  refine r_iload6 dX12_look_66 ?_
                  refine r_aloadR0 dX12_look_68 ?_
                  refine m_getR (q := (A + 17)) zf_RX12_65 rfl dX12_look_69 (shM_k hs) (shM_p17 hs) ?_
                  refine n_bipush dX12_look_72 (by decide) (fun r72 e72_z => ?_)
                  refine r_iload5 dX12_look_74 ?_
                  refine n_imulc dX12_look_76 e72_z (by omega) (fun r76 e76 => ?_)
                  refine r_iload7 dX12_look_77 ?_
                  refine n_iadd dX12_look_79 (by omega) (fun r79 e79 => ?_)
                  refine m_iald (k := (100 * k + m)) (x := (g22 (A + 17) ((100 * k + m)))) dX12_look_80 (shM_k17 hs) (shM_n17 hs) (by omega) (by omega) (rfl) ?_
                  refine r_mmax zm_RX12_268 dX12_look_81 (Nat.le_of_ble_eq_true rfl) (Nat.le_of_ble_eq_true rfl) (Nat.le_of_ble_eq_true rfl) (Nat.le_of_ble_eq_true rfl) (Nat.le_of_ble_eq_true rfl) (fun r81 e81 => ?_)
                  refine r_istore6 dX12_look_84 rfl ?_
                  refine n_iinc7 dX12_look_86 (by decide) rfl (by omega) (fun r86 e86 => ?_)
                  refine r_goto (t := 59) dX12_look_89 (by decide) ?_
                  refine ih _ _ _ _ (m + 1) (by omega) (by omega) hv1 hu1 ?_ (by omega)
                  have hms : mxB (fun v => X9.countP (bnQ T.2.2.1.1 (fun L => @decide (lookC T.2.2.1.1 L l) (Classical.propDecidable _)) k v)) (m + 1) = max (mxB (fun v => X9.countP (bnQ T.2.2.1.1 (fun L => @decide (lookC T.2.2.1.1 L l) (Classical.propDecidable _)) k v)) m) (X9.countP (bnQ T.2.2.1.1 (fun L => @decide (lookC T.2.2.1.1 L l) (Classical.propDecidable _)) k m)) := rfl
                  rw [hms]
                  omega
                · refine r_iload7 dX12_look_59 ?_
                  refine n_bipush dX12_look_61 (by decide) (fun r61 e61 => ?_)
                  refine t_icge (t := 92) dX12_look_63 (by decide) (fun h63 => ?_) (fun h63 => False.elim (by omega))
                  have hm100 : m = 100 := by omega
                  rw [hm100] at hvm hmle
                  have hbm : (bnM T.2.2.1.1 (fun L => @decide (lookC T.2.2.1.1 L l) (Classical.propDecidable _)) X9) k = mxB (fun v => X9.countP (bnQ T.2.2.1.1 (fun L => @decide (lookC T.2.2.1.1 L l) (Classical.propDecidable _)) k v)) 100 := rfl
                  have hls : looR (bnM T.2.2.1.1 (fun L => @decide (lookC T.2.2.1.1 L l) (Classical.propDecidable _)) X9) (k + 1) = if (((bnM T.2.2.1.1 (fun L => @decide (lookC T.2.2.1.1 L l) (Classical.propDecidable _)) X9) k : Nat) : Int) < (looR (bnM T.2.2.1.1 (fun L => @decide (lookC T.2.2.1.1 L l) (Classical.propDecidable _)) X9) k).2 then (((k : Nat) : Int), (((bnM T.2.2.1.1 (fun L => @decide (lookC T.2.2.1.1 L l) (Classical.propDecidable _)) X9) k : Nat) : Int)) else looR (bnM T.2.2.1.1 (fun L => @decide (lookC T.2.2.1.1 L l) (Classical.propDecidable _)) X9) k := rfl
                  refine r_iload6 dX12_look_92 ?_
                  refine r_iload4 dX12_look_94 ?_
                  refine t_iclt (t := 102) dX12_look_96 (by decide) (fun h96 => ?_) (fun h96 => ?_)
                  · refine r_iload5 dX12_look_102 ?_
                    refine r_istore3 dX12_look_104 rfl ?_
                    refine r_iload6 dX12_look_105 ?_
                    refine r_istore4 dX12_look_107 rfl ?_
                    refine n_iinc5 dX12_look_109 (by decide) rfl (by omega) (fun r109 e109_z => ?_)
                    refine r_goto (t := 35) dX12_look_112 (by decide) ?_
                    refine iho _ _ _ (k + 1) _ _ (by omega) (by omega) (fun e9_z => absurd e9_z (by omega)) ?_ ?_ (by omega)
                    · rw [hls]
                      split <;> omega
                    · rw [hls]
                      split <;> omega
                  · refine r_goto (t := 109) dX12_look_99 (by decide) ?_
                    refine n_iinc5 dX12_look_109 (by decide) rfl (by omega) (fun r109 e109_z => ?_)
                    refine r_goto (t := 35) dX12_look_112 (by decide) ?_
                    refine iho _ _ _ (k + 1) _ _ (by omega) (by omega) (fun e9_z => absurd e9_z (by omega)) ?_ ?_ (by omega)
                    · rw [hls]
                      split <;> omega
                    · rw [hls]
                      split <;> omega
            refine r_iload5 dX12_look_35 ?_
            refine r_aloadR0 dX12_look_37 ?_
            refine m_getR (q := (A + 19)) zf_RX12_71 rfl dX12_look_38 (shM_k hs) (shM_p19 hs) ?_
            refine r_iload1 dX12_look_41 ?_
            refine m_iald (k := x.toInt.toNat) (x := (g22 (A + 19) x.toInt.toNat)) dX12_look_42 (shM_k19 hs) (shM_n19 hs) (by omega) (by omega) (rfl) ?_
            refine t_icge (t := 115) dX12_look_43 (by decide) (fun h43 => False.elim (by omega)) (fun h43 => ?_)
            refine r_aloadR0 dX12_look_46 ?_
            refine m_getV (x := (g22 A 30)) zf_RX12_452 rfl dX12_look_47 (shM_k hs) (rfl) ?_
            refine t_ifle (t := 115) dX12_look_50 (by decide) (fun h50 => False.elim (by omega)) (fun h50 => ?_)
            refine n_iconst dX12_look_53 (by decide) (fun r53 e53 => ?_)
            refine r_istore6 dX12_look_54 rfl ?_
            refine n_iconst dX12_look_56 (by decide) (fun r56 e56 => ?_)
            refine r_istore7 dX12_look_57 rfl ?_
            exact lq 101 _ _ _ _ 0 (by omega) (by omega) hv hu (by show _ = ((0 : Nat) : Int); omega) (by omega)
        · refine r_iload5 dX12_look_35 ?_
          refine r_aloadR0 dX12_look_37 ?_
          refine m_getR (q := (A + 19)) zf_RX12_71 rfl dX12_look_38 (shM_k hs) (shM_p19 hs) ?_
          refine r_iload1 dX12_look_41 ?_
          refine m_iald (k := x.toInt.toNat) (x := (g22 (A + 19) x.toInt.toNat)) dX12_look_42 (shM_k19 hs) (shM_n19 hs) (by omega) (by omega) (rfl) ?_
          refine t_icge (t := 115) dX12_look_43 (by decide) (fun h43 => ?_) (fun h43 => False.elim (by omega))
          refine r_iload3 dX12_look_115 ?_
          refine r_iret dX12_look_116 rfl (Nat.le_of_ble_eq_true rfl) (Nat.le_of_ble_eq_true rfl) ?_
          refine hQ q1_z s l q2_z q4_z _ g22 j22 ?_ oq oth
          rcases Nat.eq_zero_or_pos (X9.countP (fun y => (fun L => @decide (lookC T.2.2.1.1 L l) (Classical.propDecidable _)) y.1)) with hz9 | hz9
          · rw [if_pos hz9]; exact hv0 hz9
          · rw [if_neg (by omega), hv, show k = l.length by omega]
    refine n_iconst dX12_look_25 (by decide) (fun r25 e25_z => ?_)
    refine r_istore3 dX12_look_26 rfl ?_
    refine n_ldcw (n := 536870912) zk_RX12_431 dX12_look_27 (by decide) (fun r27 e27_z => ?_)
    refine r_istore4 dX12_look_30 rfl ?_
    refine n_iconst dX12_look_32 (by decide) (fun r32 e32 => ?_)
    refine r_istore5 dX12_look_33 rfl ?_
    exact lp 31 _ _ _ 0 _ _ (by omega) (by omega) (fun _ => rfl) (by show _ = (-1 : Int); omega) (by show _ = (536870912 : Int); omega) (by omega)
  · refine m_putI zf_RX12_77 (by intro C T N h_z; cases h_z; rfl) rfl dX12_look_7 (shM_k hs) ?_
    obtain ⟨g7, hg7⟩ : ∃ g9, g9 = zu f A 4 r4 := ⟨_, rfl⟩
    rw [← hg7]
    have og7 : frM A [] [4] f g7 := by rw [hg7]; exact frM_zk frM_rf (by decide)
    have vg7 : g7 A 4 = r4 := by rw [hg7]; exact zu_at
    have vt7 : (g7 A 4).toInt = r4.toInt := by rw [vg7]
    have hk7 : ctKn (g7 (A + 1)) T := by rw [og7.2.1 1 (by decide) (by decide) (by decide)]; exact hk
    refine r_aloadR0 dX12_look_10 ?_
    refine m_getV (x := (g7 A 4)) zf_RX12_77 rfl dX12_look_11 (shM_k hs) (rfl) ?_
    refine t_ifle (t := 19) dX12_look_14 (by decide) (fun h14 => False.elim (by omega)) (fun h14 => ?_)
    refine n_iconst dX12_look_17 (by decide) (fun r17 e17_z => ?_)
    refine r_iret dX12_look_18 rfl (Nat.le_of_ble_eq_true rfl) (Nat.le_of_ble_eq_true rfl) ?_
    exact hT3 q1_z s l q2_z q4_z _ g7 j (qM_q (show frM A [6, 7, 8, 9, 13, 16, 17] [4, 33, 34] f _ from (frM_su og7 (by decide) (by decide)))) (by omega)
