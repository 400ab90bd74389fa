/-! the class: how it lies now, what is in view -/
theorem zsum_2 {mk : Nat → Nat} {n : Nat} : zsum mk (2 * n) = allN mk n := by
  induction n with
  | zero => rfl
  | succ n ih =>
    have h1 : zsum mk (2 * n + 1 + 1) = zsum mk (2 * n) + mk (2 * n) + mk (2 * n + 1) := rfl
    have h2 : allN mk (n + 1) = allN mk n + (mk (2 * n) + mk (2 * n + 1)) := rfl
    rw [show 2 * (n + 1) = 2 * n + 1 + 1 by omega, h1, h2, ih]
    omega
theorem ctLay_zu {f : Nat → Nat → Int32} {a q i : Nat} {x : Int32} {L : zLy} {C : List (Nat × Bool)} (h_z : ctLay f q L C) (ha_z : a < q ∨ q + 4 ≤ a) : ctLay (zu f a i x) q L C := by
  unfold ctLay
  rw [zu_ne (by omega), zu_ne (by omega), zu_ne (by omega), zu_ne (by omega)]
  exact h_z
set_option maxHeartbeats 4000000 in
set_option maxRecDepth 100000 in
theorem s_X6_view {g : zGT} {w : zW} {f : Nat → Nat → Int32} {j : Nat → Nat → Int64} {a q mq n fo : Nat} {L : zLy} {mk : Nat → Nat} {x : Int32} {Q : Option Value → zW → Prop} {QX : String → zW → Prop} (G : zGok g) (hs : shSc w a) (hsq : shLay w q) (hcq : ctLay f q L []) (hqd : q + 4 ≤ a ∨ a + 3 ≤ q) (hmk : zK w mq = 21) (hmn : zN w mq = 12) (hmd : mq ≠ a + 1) (hM_z : ∀ i, i < 12 → (f mq i).toInt = (mk i : Nat)) (hm9 : ∀ i, mk i ≤ 99) (hr : rch n L) (hx : x.toInt = (fo : Nat)) (hfo : fo < 100) (hQ : ∀ f2_z, ofR f f2_z (a + 1) 1 → (∀ k, k < 6 → (f2_z (a + 1) k).toInt = fctN mk n L fo 0 0 k) → Q none (zM w f2_z j)) : zC g 4 yX6_view cX6_view 8 none [.ref a, .ref q, .ref mq, .int x] (zM w f j) (0, 0) Q QX := by
  refine zC_of G (by decide +kernel) (Nat.le_of_ble_eq_true rfl) ?_
  have hcell := rch_cell hr
  have hn6 := rch_le hr
  have hw : (f q 4).toInt = (L.length : Nat) := by rw [hcq.2.1]; exact zi_n (by omega)
  have hbd := rch_bd hr
  have hab : ∀ (k : Nat) (r : Int32) (C : List (Nat × Bool)) (p : Nat × Bool), zcol L (k : Nat) = C ++ [p] → p.1 < 6 → r = f mq (2 * p.1 + if p.2 then 0 else 1) → r.toInt = (seenA mk L k : Nat) := by
    intro k r C p e hp hr9
    rw [seenA_of e, hr9]
    exact hM_z _ (by split <;> omega)
  have hbe : ∀ (k : Nat) (r : Int32) (C : List (Nat × Bool)) (p : Nat × Bool), zcol L (k : Nat) = p :: C → p.1 < 6 → r = f mq (2 * p.1 + if p.2 then 1 else 0) → r.toInt = (seenB mk L k : Nat) := by
    intro k r C p e hp hr9
    rw [seenB_of e, hr9]
    exact hM_z _ (by split <;> omega)
  have lp : ∀ (mz : Nat) (v0_z : Int32) (v1_z : Int32) (c : Int32) (k : Nat) (v7_ : Option Value), c.toInt = (k : Nat) → k ≤ L.length → v0_z.toInt = (zsum (seenA mk L) k : Nat) → v1_z.toInt = (zsum (seenB mk L) k : Nat) → L.length - k < mz → zR (zV g 4 yX6_view 8 none (0, 0) Q QX) cX6_view yX6_view.cls 9 [some (.ref a), some (.ref q), some (.ref mq), some (.int x), some (.int v0_z), some (.int v1_z), some (.int c), v7_] [] (zM w f j) (0, 0) := by
    intro mz
    induction mz with
    | zero =>
      intro v0_z v1_z c k v7_ hc_z hk hv0 hv1 hmz
      exact absurd hmz (Nat.not_lt_zero _)
    | succ mz ih =>
      intro v0_z v1_z c k v7_ hc_z hk hv0 hv1 hmz
      rcases Nat.lt_or_ge k L.length with hkl | hkl
      · obtain ⟨C, p, c1_z, c2_z, c3_z, c4_z, q2_z, D, c5_z, c6_z⟩ := col_ne hr hkl
        obtain ⟨col, hcol⟩ : ∃ col, L[k]? = some col := ⟨_, List.getElem?_eq_getElem hkl⟩
        have hzc := zcol_at hcol
        rw [hzc] at c1_z c5_z
        have h1 := seenA_le (M := mk) (L := L) (c := k) hm9
        have h2 := seenB_le (M := mk) (L := L) (c := k) hm9
        have h3 : zsum (seenA mk L) (k + 1) = zsum (seenA mk L) k + seenA mk L k := rfl
        have h4 : zsum (seenB mk L) (k + 1) = zsum (seenB mk L) k + seenB mk L k := rfl
        have h5 : zsum (seenA mk L) k ≤ k * 99 := zsum_le (fun _ => seenA_le hm9)
        have h6 : zsum (seenB mk L) k ≤ k * 99 := zsum_le (fun _ => seenB_le hm9)
        refine r_iload6 dX6_view_9 ?_
        refine r_aloadR1 dX6_view_11 ?_
        refine m_getV (x := (f q 4)) zf_RX6_18 rfl dX6_view_12 (shLay_k hsq) (rfl) ?_
        refine t_icge (t := 48) dX6_view_15 (by decide) (fun h15 => False.elim (by omega)) (fun h15 => ?_)
        refine r_iload4 dX6_view_18 ?_
        refine r_aloadR1 dX6_view_20 ?_
        refine r_iload6 dX6_view_21 ?_
        refine r_aloadR2 dX6_view_23 ?_
        refine q_callV2 zm_RX6_24 dX6_view_24 (shLay_k hsq) (by decide) rfl (Nat.le_of_ble_eq_true rfl) (Nat.le_of_ble_eq_true rfl) (Nat.le_of_ble_eq_true rfl) (Nat.le_of_ble_eq_true rfl) (Nat.le_of_ble_eq_true rfl) (s_X2_markAbove (w := zM w f j) (C := C) (p := p) G hsq hcq hbd (by rw [hcol, c1_z]) (zi_of (by omega) (by omega)) hmk hmn (fun r24 er24 => ?_))
        have h24 := hab k r24 C p (by rw [hzc, c1_z]) c4_z er24
        refine n_iadd dX6_view_27 (by omega) (fun r27 e27_z => ?_)
        refine r_istore4 dX6_view_28 rfl ?_
        refine r_iload5 dX6_view_30 ?_
        refine r_aloadR1 dX6_view_32 ?_
        refine r_iload6 dX6_view_33 ?_
        refine r_aloadR2 dX6_view_35 ?_
        refine q_callV2 zm_RX6_28 dX6_view_36 (shLay_k hsq) (by decide) rfl (Nat.le_of_ble_eq_true rfl) (Nat.le_of_ble_eq_true rfl) (Nat.le_of_ble_eq_true rfl) (Nat.le_of_ble_eq_true rfl) (Nat.le_of_ble_eq_true rfl) (s_X2_markBeneath (w := zM w f j) (C := D) (p := q2_z) G hsq hcq hbd (by rw [hcol, c5_z]) (zi_of (by omega) (by omega)) hmk hmn (fun r36 er36 => ?_))
        have h36 := hbe k r36 D q2_z (by rw [hzc, c5_z]) c6_z er36
        refine n_iadd dX6_view_39 (by omega) (fun r39 e39 => ?_)
        refine r_istore5 dX6_view_40 rfl ?_
        refine n_iinc6 dX6_view_42 (by decide) rfl (by omega) (fun r42 e42_z => ?_)
        refine r_goto (t := 9) dX6_view_45 (by decide) ?_
        exact ih _ _ _ (k + 1) _ (by omega) (by omega) (by omega) (by omega) (by omega)
      · have hke : k = L.length := by omega
        subst hke
        have lp2 : ∀ (m2_z : Nat) (e u : Int32) (i : Nat), e.toInt = (i : Nat) → i ≤ 2 * n → u.toInt = (zsum mk i : Nat) → 2 * n - i < m2_z → zR (zV g 4 yX6_view 8 none (0, 0) Q QX) cX6_view yX6_view.cls 54 [some (.ref a), some (.ref q), some (.ref mq), some (.int x), some (.int v0_z), some (.int v1_z), some (.int u), some (.int e)] [] (zM w f j) (0, 0) := by
          intro m2_z
          induction m2_z with
          | zero =>
            intro e u i hi_z hik hv2 hm2
            exact absurd hm2 (Nat.not_lt_zero _)
          | succ m2_z ih2 =>
            intro e u i hi_z hik hv2 hm2
            rcases Nat.lt_or_ge i (2 * n) with hil | hil
            · have hmi := hM_z i (by omega)
              have hmi9 := hm9 i
              have hsi : zsum mk (i + 1) = zsum mk i + mk i := rfl
              have hsb : zsum mk i ≤ i * 99 := zsum_le hm9
              refine r_iload7 dX6_view_54 ?_
              refine n_iconst dX6_view_56 (by decide) (fun r56 e56 => ?_)
              refine r_aloadR1 dX6_view_57 ?_
              refine q_callV0 zm_RX6_31 dX6_view_58 (shLay_k hsq) (by decide) rfl (Nat.le_of_ble_eq_true rfl) (Nat.le_of_ble_eq_true rfl) (Nat.le_of_ble_eq_true rfl) (Nat.le_of_ble_eq_true rfl) (Nat.le_of_ble_eq_true rfl) (s_X2_cells (w := zM w f j) (L := L) G hsq hcq ?_)
              rw [hcell.1]
              have hnn : (nI n).toInt = (n : Nat) := zi_n (by omega)
              refine n_imulc dX6_view_61 e56 (by omega) (fun r61 e61 => ?_)
              refine t_icge (t := 87) dX6_view_62 (by decide) (fun h62 => False.elim (by omega)) (fun h62 => ?_)
              refine r_iload7 dX6_view_65 ?_
              refine r_aloadR2 dX6_view_67 ?_
              refine m_alen dX6_view_68 (zge hmk (by decide)) hmn (by first | decide | omega) (fun r68 e68 => ?_)
              refine t_icge (t := 87) dX6_view_69 (by decide) (fun h69 => False.elim (by omega)) (fun h69 => ?_)
              refine r_iload6 dX6_view_72 ?_
              refine r_aloadR2 dX6_view_74 ?_
              refine r_iload7 dX6_view_75 ?_
              refine m_iald (k := i) (x := (f mq i)) dX6_view_77 hmk hmn (by omega) (by omega) (rfl) ?_
              refine n_iadd dX6_view_78 (by omega) (fun r78 e78 => ?_)
              refine r_istore6 dX6_view_79 rfl ?_
              refine n_iinc7 dX6_view_81 (by decide) rfl (by omega) (fun r81 e81 => ?_)
              refine r_goto (t := 54) dX6_view_84 (by decide) ?_
              exact ih2 _ _ (i + 1) (by omega) (by omega) (by omega) (by omega)
            · have hie : i = 2 * n := by omega
              have hall : zsum mk (2 * n) = allN mk n := zsum_2
              have htop : topN mk L = zsum (seenA mk L) L.length := rfl
              have hund : undN mk L = zsum (seenB mk L) L.length := rfl
              have hal9 := allN_le (n := n) hm9
              have hto9 := topN_le (M := mk) (L := L) hm9
              have hun9 := undN_le (M := mk) (L := L) hm9
              rw [hie, hall] at hv2
              refine r_iload7 dX6_view_54 ?_
              refine n_iconst dX6_view_56 (by decide) (fun r56 e56 => ?_)
              refine r_aloadR1 dX6_view_57 ?_
              refine q_callV0 zm_RX6_31 dX6_view_58 (shLay_k hsq) (by decide) rfl (Nat.le_of_ble_eq_true rfl) (Nat.le_of_ble_eq_true rfl) (Nat.le_of_ble_eq_true rfl) (Nat.le_of_ble_eq_true rfl) (Nat.le_of_ble_eq_true rfl) (s_X2_cells (w := zM w f j) (L := L) G hsq hcq ?_)
              rw [hcell.1]
              have hnn : (nI n).toInt = (n : Nat) := zi_n (by omega)
              refine n_imulc dX6_view_61 e56 (by omega) (fun r61 e61 => ?_)
              refine t_icge (t := 87) dX6_view_62 (by decide) (fun h62 => ?_) (fun h62 => False.elim (by omega))
              refine r_aloadR0 dX6_view_87 ?_
              refine n_iconst dX6_view_88 (by decide) (fun r88 e88 => ?_)
              refine r_aloadR1 dX6_view_89 ?_
              refine m_getV (x := (f q 4)) zf_RX6_18 rfl dX6_view_90 (shLay_k hsq) (rfl) ?_
              refine q_callV2 zm_RX6_35 dX6_view_93 (shSc_k hs) (by decide) rfl (Nat.le_of_ble_eq_true rfl) (Nat.le_of_ble_eq_true rfl) (Nat.le_of_ble_eq_true rfl) (Nat.le_of_ble_eq_true rfl) (Nat.le_of_ble_eq_true rfl) (s_X6_put (k := 0) G hs (by omega) (by decide) (fun g0y hg0 => ?_))
              have hcq1 : ctLay g0y q L [] := by rw [hg0]; exact ctLay_zu hcq (by omega)
              refine r_aloadR0 dX6_view_96 ?_
              refine n_iconst dX6_view_97 (by decide) (fun r97 e97_z => ?_)
              refine r_aloadR1 dX6_view_98 ?_
              refine q_callV0 zm_RX6_39 dX6_view_99 (shLay_k hsq) (by decide) rfl (Nat.le_of_ble_eq_true rfl) (Nat.le_of_ble_eq_true rfl) (Nat.le_of_ble_eq_true rfl) (Nat.le_of_ble_eq_true rfl) (Nat.le_of_ble_eq_true rfl) (s_X2_tallest (w := zM w g0y j) (L := L) G hsq hcq1 ?_)
              refine q_callV2 zm_RX6_35 dX6_view_102 (shSc_k hs) (by decide) rfl (Nat.le_of_ble_eq_true rfl) (Nat.le_of_ble_eq_true rfl) (Nat.le_of_ble_eq_true rfl) (Nat.le_of_ble_eq_true rfl) (Nat.le_of_ble_eq_true rfl) (s_X6_put (k := 1) G hs (by omega) (by decide) (fun g1y hg1 => ?_))
              refine r_aloadR0 dX6_view_105 ?_
              refine n_iconst dX6_view_106 (by decide) (fun r106 e106 => ?_)
              refine r_iload3 dX6_view_107 ?_
              refine q_callV2 zm_RX6_35 dX6_view_108 (shSc_k hs) (by decide) rfl (Nat.le_of_ble_eq_true rfl) (Nat.le_of_ble_eq_true rfl) (Nat.le_of_ble_eq_true rfl) (Nat.le_of_ble_eq_true rfl) (Nat.le_of_ble_eq_true rfl) (s_X6_put (k := 2) G hs (by omega) (by decide) (fun g2y hg2 => ?_))
              refine r_aloadR0 dX6_view_111 ?_
              refine n_iconst dX6_view_112 (by decide) (fun r112 e112_z => ?_)
              refine r_iload4 dX6_view_113 ?_
              refine q_callV2 zm_RX6_35 dX6_view_115 (shSc_k hs) (by decide) rfl (Nat.le_of_ble_eq_true rfl) (Nat.le_of_ble_eq_true rfl) (Nat.le_of_ble_eq_true rfl) (Nat.le_of_ble_eq_true rfl) (Nat.le_of_ble_eq_true rfl) (s_X6_put (k := 3) G hs (by omega) (by decide) (fun g3y hg3 => ?_))
              refine r_aloadR0 dX6_view_118 ?_
              refine n_iconst dX6_view_119 (by decide) (fun r119 e119 => ?_)
              refine r_iload5 dX6_view_120 ?_
              refine q_callV2 zm_RX6_35 dX6_view_122 (shSc_k hs) (by decide) rfl (Nat.le_of_ble_eq_true rfl) (Nat.le_of_ble_eq_true rfl) (Nat.le_of_ble_eq_true rfl) (Nat.le_of_ble_eq_true rfl) (Nat.le_of_ble_eq_true rfl) (s_X6_put (k := 4) G hs (by omega) (by decide) (fun g4y hg4 => ?_))
              refine r_aloadR0 dX6_view_125 ?_
              refine n_iconst dX6_view_126 (by decide) (fun r126 e126 => ?_)
              refine r_iload6 dX6_view_127 ?_
              refine r_iload4 dX6_view_129 ?_
              refine n_isub dX6_view_131 (by omega) (fun r131 e131 => ?_)
              refine r_iload5 dX6_view_132 ?_
              refine n_isub dX6_view_134 (by omega) (fun r134 e134 => ?_)
              refine q_callV2 zm_RX6_35 dX6_view_135 (shSc_k hs) (by decide) rfl (Nat.le_of_ble_eq_true rfl) (Nat.le_of_ble_eq_true rfl) (Nat.le_of_ble_eq_true rfl) (Nat.le_of_ble_eq_true rfl) (Nat.le_of_ble_eq_true rfl) (s_X6_put (k := 5) G hs (by omega) (by decide) (fun g5y hg5 => ?_))
              refine r_vret dX6_view_138 rfl (Nat.le_of_ble_eq_true rfl) (Nat.le_of_ble_eq_true rfl) ?_
              refine hQ g5y ?_ (fun k hk => ?_)
              · rw [hg5, hg4, hg3, hg2, hg1, hg0]; exact ofR_zu (ofR_zu (ofR_zu (ofR_zu (ofR_zu (ofR_zu ofR_rf (by omega)) (by omega)) (by omega)) (by omega)) (by omega)) (by omega)
              · have hta : lyTall L ≤ 6 := by have h1 : lyTall L ≤ L.flatten.length := lyTallK_le; omega
                rw [hg5, zu_s2, hg4, zu_s2, hg3, zu_s2, hg2, zu_s2, hg1, zu_s2, hg0, zu_s2]
                rcases (show k = 0 ∨ k = 1 ∨ k = 2 ∨ k = 3 ∨ k = 4 ∨ k = 5 by omega) with rfl | rfl | rfl | rfl | rfl | rfl
                · exact hw
                · exact zi_n (by omega)
                · exact hx
                · exact hv0
                · exact hv1
                · show _ = ((allN mk n : Nat) : Int) - (topN mk L : Nat) - (undN mk L : Nat)
                  rw [if_pos rfl]
                  omega
        refine r_iload6 dX6_view_9 ?_
        refine r_aloadR1 dX6_view_11 ?_
        refine m_getV (x := (f q 4)) zf_RX6_18 rfl dX6_view_12 (shLay_k hsq) (rfl) ?_
        refine t_icge (t := 48) dX6_view_15 (by decide) (fun h15 => ?_) (fun h15 => False.elim (by omega))
        refine n_iconst dX6_view_48 (by decide) (fun r48 e48 => ?_)
        refine r_istore6 dX6_view_49 rfl ?_
        refine n_iconst dX6_view_51 (by decide) (fun r51 e51 => ?_)
        refine r_istore7 dX6_view_52 rfl ?_
        have hz0 : zsum mk 0 = 0 := rfl
        exact lp2 (2 * n + 1) _ _ 0 (by omega) (by omega) (by omega) (by omega)
  refine n_iconst dX6_view_0 (by decide) (fun r0 e0_z => ?_)
  refine r_istore4 dX6_view_1 rfl ?_
  refine n_iconst dX6_view_3 (by decide) (fun r3 e3_z => ?_)
  refine r_istore5 dX6_view_4 rfl ?_
  refine n_iconst dX6_view_6 (by decide) (fun r6 e6_z => ?_)
  refine r_istore6 dX6_view_7 rfl ?_
  have hz0 : zsum (seenA mk L) 0 = 0 := rfl
  have hz1 : zsum (seenB mk L) 0 = 0 := rfl
  exact lp (L.length + 1) _ _ _ 0 none (by omega) (by omega) (by omega) (by omega) (by omega)
