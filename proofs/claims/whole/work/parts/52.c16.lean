/-! the class: looks beside what trays tell; reads, stack -/
def lookC (M : Nat → Nat) (L : zLy) (l : List Int) : Prop := l.length = L.length ∧ ∀ (i : Nat) (v : Int), l[i]? = some v → v = -1 ∨ v = (seenA M L i : Nat)
def ordC (L : zLy) (l : List Int) : Prop := L.length ≤ 1 ∧ ∀ (i : Nat) (v : Int) (p : Nat × Bool), l[i]? = some v → L.flatten[i]? = some p → v = (p.1 : Nat)
def creC (L : zLy) (l : List Int) : Prop := ∀ (i : Nat) (v : Int), l[i]? = some v → v = (lyCrease L i : Nat)
set_option maxHeartbeats 4000000 in
set_option maxRecDepth 100000 in
theorem s_X11_liesInOrder {g : zGT} {w : zW} {f : Nat → Nat → Int32} {j : Nat → Nat → Int64} {b a s n : Nat} {L : zLy} {l : List Int} {Q : Option Value → zW → Prop} {QX : String → zW → Prop} (G : zGok g) (hlb : shLay w b) (hlc : ctLay f b L []) (hta : shTr w a) (htc : ctTr f j a (some (s, l))) (hr : rch n L) (hn6 : n ≤ 6) (hlen : l.length ≤ n) (hQ : ∀ r : Int32, (r.toInt = 1 ∧ ordC L l ∨ r.toInt = 0 ∧ ¬ ordC L l) → Q (some (.int r)) (zM w f j)) : zC g 3 yX11_liesInOrder cX11_liesInOrder 3 (some .boolean) [.ref b, .ref a] (zM w f j) (0, 0) Q QX := by
  refine zC_of G (by decide +kernel) (Nat.le_of_ble_eq_true rfl) ?_
  have hcell := rch_cell hr
  have hl30 : l.length ≤ 30 := htc.2.2.2.2.1
  have hmany : (f a 2).toInt = (l.length : Nat) := htc.2.2.2.1
  have hwid : (f b 4).toInt = (L.length : Nat) := by rw [hlc.2.1]; exact zi_n (by omega)
  have lp : ∀ (mz : Nat) (c : Int32) (k : Nat), L.length ≤ 1 → c.toInt = (k : Nat) → k ≤ l.length → (∀ (i : Nat) (v : Int) (p : Nat × Bool), i < k → l[i]? = some v → L.flatten[i]? = some p → v = (p.1 : Nat)) → l.length - k < mz → zR (zV g 3 yX11_liesInOrder 3 (some .boolean) (0, 0) Q QX) cX11_liesInOrder yX11_liesInOrder.cls 12 [some (.ref b), some (.ref a), some (.int c)] [] (zM w f j) (0, 0) := by
    intro mz
    induction mz with
    | zero =>
      intro c k hw1 hck hk hall hmz
      exact absurd hmz (Nat.not_lt_zero _)
    | succ mz ih =>
      intro c k hw1 hck hk hall hmz
      have hw9 := hw1
      rcases Nat.lt_or_ge k l.length with hkl | hkl
      · obtain ⟨dd, hdd⟩ : ∃ dd, l[k]? = some dd := ⟨_, List.getElem?_eq_getElem hkl⟩
        obtain ⟨p, hp⟩ : ∃ p, L.flatten[k]? = some p := ⟨_, List.getElem?_eq_getElem (by omega)⟩
        have hp6 := hcell.2.1 p (List.mem_of_getElem? hp)
        refine r_iload2 dX11_liesInOrder_12 ?_
        refine r_aloadR1 dX11_liesInOrder_13 ?_
        refine m_getV (x := (f a 2)) zf_RX11_289 rfl dX11_liesInOrder_14 (shTr_k (w := w) hta) (rfl) ?_
        refine t_icge (t := 43) dX11_liesInOrder_17 (by decide) (fun h17 => False.elim (by omega)) (fun h17 => ?_)
        refine r_aloadR0 dX11_liesInOrder_20 ?_
        refine r_iload2 dX11_liesInOrder_21 ?_
        refine q_callV1 zm_RX11_168 dX11_liesInOrder_22 (shLay_k (w := w) hlb) (by decide) rfl (Nat.le_of_ble_eq_true rfl) (Nat.le_of_ble_eq_true rfl) (Nat.le_of_ble_eq_true rfl) (Nat.le_of_ble_eq_true rfl) (Nat.le_of_ble_eq_true rfl) (s_X2_cellAt (w := zM w f j) (i := k) (p := p) G hlb hlc (by rw [List.append_nil]; exact hp) (zi_of hck (by omega)) (fun r22 e22_z => ?_))
        have e22v : r22.toInt = (p.1 : Nat) := by rw [e22_z]; exact zi_n (by omega)
        refine n_i2l dX11_liesInOrder_25 (fun r25 e25_z => ?_)
        refine r_aloadR1 dX11_liesInOrder_26 ?_
        refine r_iload2 dX11_liesInOrder_27 ?_
        refine q_callV1 zm_RX11_292 dX11_liesInOrder_28 (shTr_k (w := w) hta) (by decide) rfl (Nat.le_of_ble_eq_true rfl) (Nat.le_of_ble_eq_true rfl) (Nat.le_of_ble_eq_true rfl) (Nat.le_of_ble_eq_true rfl) (Nat.le_of_ble_eq_true rfl) (s_X8_numberAt (k := k) (v := dd) G hta htc hck hdd (fun r28 e28_z => ?_))
        refine n_lcmp dX11_liesInOrder_31 (fun r31 e31_z => ?_)
        unfold zcmp at e31_z
        refine t_ifeq (t := 37) dX11_liesInOrder_32 (by decide) (fun h32 => ?_) (fun h32 => ?_)
        · refine n_iinc2 dX11_liesInOrder_37 (by decide) rfl (by omega) (fun r37 e37 => ?_)
          refine r_goto (t := 12) dX11_liesInOrder_40 (by decide) ?_
          refine ih _ (k + 1) hw1 (by omega) (by omega) (fun i v p9 hi_z hv hp9 => ?_) (by omega)
          rcases Nat.lt_or_ge i k with h9 | h9
          · exact hall i v p9 h9 hv hp9
          · have h91 : i = k := by omega
            rw [h91, hdd] at hv
            rw [h91, hp] at hp9
            have h92 := Option.some.inj hv
            have h93 := Option.some.inj hp9
            rw [← h92, ← h93]
            omega
        · refine n_iconst dX11_liesInOrder_35 (by decide) (fun r35 e35 => ?_)
          refine m_zret dX11_liesInOrder_36 rfl (by omega) (Nat.le_of_ble_eq_true rfl) (Nat.le_of_ble_eq_true rfl) ?_
          refine hQ _ (Or.inr ⟨by omega, fun h9 => ?_⟩)
          have h91 := h9.2 k dd p hdd hp
          omega
      · refine r_iload2 dX11_liesInOrder_12 ?_
        refine r_aloadR1 dX11_liesInOrder_13 ?_
        refine m_getV (x := (f a 2)) zf_RX11_289 rfl dX11_liesInOrder_14 (shTr_k (w := w) hta) (rfl) ?_
        refine t_icge (t := 43) dX11_liesInOrder_17 (by decide) (fun h17 => ?_) (fun h17 => False.elim (by omega))
        refine n_iconst dX11_liesInOrder_43 (by decide) (fun r43 e43 => ?_)
        refine m_zret dX11_liesInOrder_44 rfl (by omega) (Nat.le_of_ble_eq_true rfl) (Nat.le_of_ble_eq_true rfl) ?_
        refine hQ _ (Or.inl ⟨by omega, by omega, fun i v p9 hv hp9 => hall i v p9 ?_ hv hp9⟩)
        have := (List.getElem?_eq_some_iff.mp hv).1
        omega
  refine r_aloadR0 dX11_liesInOrder_0 ?_
  refine m_getV (x := (f b 4)) zf_RX11_217 rfl dX11_liesInOrder_1 (shLay_k (w := w) hlb) (rfl) ?_
  refine n_iconst dX11_liesInOrder_4 (by decide) (fun r4 e4_z => ?_)
  refine t_icle (t := 10) dX11_liesInOrder_5 (by decide) (fun h5 => ?_) (fun h5 => ?_)
  · refine n_iconst dX11_liesInOrder_10 (by decide) (fun r10 e10_z => ?_)
    refine r_istore2 dX11_liesInOrder_11 rfl ?_
    exact lp 31 _ 0 (by omega) (by omega) (by omega) (fun i v p9 hi_z => absurd hi_z (by omega)) (by omega)
  · refine n_iconst dX11_liesInOrder_8 (by decide) (fun r8 e8 => ?_)
    refine m_zret dX11_liesInOrder_9 rfl (by omega) (Nat.le_of_ble_eq_true rfl) (Nat.le_of_ble_eq_true rfl) ?_
    exact hQ _ (Or.inr ⟨by omega, fun h9 => absurd h9.1 (by omega)⟩)
set_option maxHeartbeats 4000000 in
set_option maxRecDepth 100000 in
theorem s_X11_isCreasedSo {g : zGT} {w : zW} {f : Nat → Nat → Int32} {j : Nat → Nat → Int64} {b a s n : Nat} {L : zLy} {l : List Int} {Q : Option Value → zW → Prop} {QX : String → zW → Prop} (G : zGok g) (hlb : shLay w b) (hlc : ctLay f b L []) (hta : shTr w a) (htc : ctTr f j a (some (s, l))) (hr : rch n L) (hn6 : n ≤ 6) (hlen : l.length ≤ n - 1) (hQ : ∀ r : Int32, (r.toInt = 1 ∧ creC L l ∨ r.toInt = 0 ∧ ¬ creC L l) → Q (some (.int r)) (zM w f j)) : zC g 5 yX11_isCreasedSo cX11_isCreasedSo 3 (some .boolean) [.ref b, .ref a] (zM w f j) (0, 0) Q QX := by
  refine zC_of G (by decide +kernel) (Nat.le_of_ble_eq_true rfl) ?_
  have hcell := rch_cell hr
  have hl30 : l.length ≤ 30 := htc.2.2.2.2.1
  have hmany : (f a 2).toInt = (l.length : Nat) := htc.2.2.2.1
  have hwid : (f b 4).toInt = (L.length : Nat) := by rw [hlc.2.1]; exact zi_n (by omega)
  have lp : ∀ (mz : Nat) (c : Int32) (k : Nat), c.toInt = (k : Nat) → k ≤ l.length → (∀ (i : Nat) (v : Int), i < k → l[i]? = some v → v = (lyCrease L i : Nat)) → l.length - k < mz → zR (zV g 5 yX11_isCreasedSo 3 (some .boolean) (0, 0) Q QX) cX11_isCreasedSo yX11_isCreasedSo.cls 2 [some (.ref b), some (.ref a), some (.int c)] [] (zM w f j) (0, 0) := by
    intro mz
    induction mz with
    | zero =>
      intro c k hck hk hall hmz
      exact absurd hmz (Nat.not_lt_zero _)
    | succ mz ih =>
      intro c k hck hk hall hmz
      rcases Nat.lt_or_ge k l.length with hkl | hkl
      · obtain ⟨dd, hdd⟩ : ∃ dd, l[k]? = some dd := ⟨_, List.getElem?_eq_getElem hkl⟩
        have hcl := lyCrease_le (L := L) (k := k)
        refine r_iload2 dX11_isCreasedSo_2 ?_
        refine r_aloadR1 dX11_isCreasedSo_3 ?_
        refine m_getV (x := (f a 2)) zf_RX11_289 rfl dX11_isCreasedSo_4 (shTr_k (w := w) hta) (rfl) ?_
        refine t_icge (t := 33) dX11_isCreasedSo_7 (by decide) (fun h7 => False.elim (by omega)) (fun h7 => ?_)
        refine r_aloadR0 dX11_isCreasedSo_10 ?_
        refine r_iload2 dX11_isCreasedSo_11 ?_
        refine q_callV1 zm_RX11_190 dX11_isCreasedSo_12 (shLay_k (w := w) hlb) (by decide) rfl (Nat.le_of_ble_eq_true rfl) (Nat.le_of_ble_eq_true rfl) (Nat.le_of_ble_eq_true rfl) (Nat.le_of_ble_eq_true rfl) (Nat.le_of_ble_eq_true rfl) (s_X2_creaseAt (w := zM w f j) (k := k) (n := n) G hlb hlc (rch_bd hr) hcell.2.2.1 (by omega) (by omega) (zi_of hck (by omega)) (fun r12 e12_z => ?_))
        have e12v : r12.toInt = (lyCrease L k : Nat) := by rw [e12_z]; exact zi_n (by omega)
        refine n_i2l dX11_isCreasedSo_15 (fun r15 e15_z => ?_)
        refine r_aloadR1 dX11_isCreasedSo_16 ?_
        refine r_iload2 dX11_isCreasedSo_17 ?_
        refine q_callV1 zm_RX11_292 dX11_isCreasedSo_18 (shTr_k (w := w) hta) (by decide) rfl (Nat.le_of_ble_eq_true rfl) (Nat.le_of_ble_eq_true rfl) (Nat.le_of_ble_eq_true rfl) (Nat.le_of_ble_eq_true rfl) (Nat.le_of_ble_eq_true rfl) (s_X8_numberAt (k := k) (v := dd) G hta htc hck hdd (fun r18 e18_z => ?_))
        refine n_lcmp dX11_isCreasedSo_21 (fun r21 e21_z => ?_)
        unfold zcmp at e21_z
        refine t_ifeq (t := 27) dX11_isCreasedSo_22 (by decide) (fun h22 => ?_) (fun h22 => ?_)
        · refine n_iinc2 dX11_isCreasedSo_27 (by decide) rfl (by omega) (fun r27 e27_z => ?_)
          refine r_goto (t := 2) dX11_isCreasedSo_30 (by decide) ?_
          refine ih _ (k + 1) (by omega) (by omega) (fun i v hi_z hv => ?_) (by omega)
          rcases Nat.lt_or_ge i k with h9 | h9
          · exact hall i v h9 hv
          · have h91 : i = k := by omega
            rw [h91, hdd] at hv
            have h92 := Option.some.inj hv
            rw [← h92, h91]
            omega
        · refine n_iconst dX11_isCreasedSo_25 (by decide) (fun r25 e25_z => ?_)
          refine m_zret dX11_isCreasedSo_26 rfl (by omega) (Nat.le_of_ble_eq_true rfl) (Nat.le_of_ble_eq_true rfl) ?_
          refine hQ _ (Or.inr ⟨by omega, fun h9 => ?_⟩)
          have h91 := h9 k dd hdd
          omega
      · refine r_iload2 dX11_isCreasedSo_2 ?_
        refine r_aloadR1 dX11_isCreasedSo_3 ?_
        refine m_getV (x := (f a 2)) zf_RX11_289 rfl dX11_isCreasedSo_4 (shTr_k (w := w) hta) (rfl) ?_
        refine t_icge (t := 33) dX11_isCreasedSo_7 (by decide) (fun h7 => ?_) (fun h7 => False.elim (by omega))
        refine n_iconst dX11_isCreasedSo_33 (by decide) (fun r33 e33_z => ?_)
        refine m_zret dX11_isCreasedSo_34 rfl (by omega) (Nat.le_of_ble_eq_true rfl) (Nat.le_of_ble_eq_true rfl) ?_
        refine hQ _ (Or.inl ⟨by omega, fun i v hv => hall i v ?_ hv⟩)
        have := (List.getElem?_eq_some_iff.mp hv).1
        omega
  refine n_iconst dX11_isCreasedSo_0 (by decide) (fun r0 e0_z => ?_)
  refine r_istore2 dX11_isCreasedSo_1 rfl ?_
  exact lp 31 _ 0 (by omega) (by omega) (fun i v hi_z => absurd hi_z (by omega)) (by omega)
set_option maxHeartbeats 4000000 in
set_option maxRecDepth 100000 in
theorem s_X11_looksSo {g : zGT} {w : zW} {f : Nat → Nat → Int32} {j : Nat → Nat → Int64} {X : Nat} {T : zTb} {b a s : Nat} {L : zLy} {l : List Int} {Q : Option Value → zW → Prop} {QX : String → zW → Prop} (G : zGok g) (hx : shX w X) (ht : tbAt w f X (X + 11) T) (hlb : shLay w b) (hlc : ctLay f b L []) (hta : shTr w a) (htc : ctTr f j a (some (s, l))) (hr : rch (tbC T) L) (hQ : ∀ r : Int32, (r.toInt = 1 ∧ lookC T.2.2.1.1 L l ∨ r.toInt = 0 ∧ ¬ lookC T.2.2.1.1 L l) → Q (some (.int r)) (zM w f j)) : zC g 3 yX11_looksSo cX11_looksSo 6 (some .boolean) [.ref X, .ref b, .ref a] (zM w f j) (0, 0) Q QX := by
  refine zC_of G (by decide +kernel) (Nat.le_of_ble_eq_true rfl) ?_
  have ht0 := ht
  obtain ⟨nq, pp, g0, p0, hnq, hna0, hpp, hctb, hpast, hwf⟩ := ht0
  have hna1 := hna0
  obtain ⟨hna, hcn, ⟨hz1, hz2, hz3⟩, hl1, hl2, hl3⟩ := hna0
  have hmo := hctb.2.2.1
  have hn6 : tbC T ≤ 6 := hwf.2.1
  have hg4 : tbG T ≤ 4 := hwf.2.2.1
  have hwm := hwf.2.2.2.2.2.2.2.1
  have hrt := wfT_rch hwf
  have hfl : (f (X + 11 + 7) 2).toInt = (T.2.2.1.2.length : Nat) := by rw [hmo.1]; have := hmo.2.1; exact zi_n (by omega)
  have hcells : (f nq 1).toInt = (tbC T : Nat) := by rw [hcn.2.1]; exact zi_n (n := tbC T) (by omega)
  have hgs : (f nq 2).toInt = (tbG T : Nat) := by rw [hcn.2.2.1]; exact zi_n (n := tbG T) (by omega)
  have hcell := rch_cell hr
  have hl30 : l.length ≤ 30 := htc.2.2.2.2.1
  have hmany : (f a 2).toInt = (l.length : Nat) := htc.2.2.2.1
  have hwid : (f b 4).toInt = (L.length : Nat) := by rw [hlc.2.1]; exact zi_n (by omega)
  have lp : ∀ (mz : Nat) (c : Int32) (v4_z : Option Value) (v5 : Option Value) (k : Nat), l.length = L.length → c.toInt = (k : Nat) → k ≤ l.length → (∀ (i : Nat) (v : Int), i < k → l[i]? = some v → v = -1 ∨ v = (seenA T.2.2.1.1 L i : Nat)) → l.length - k < mz → zR (zV g 3 yX11_looksSo 6 (some .boolean) (0, 0) Q QX) cX11_looksSo yX11_looksSo.cls 15 [some (.ref X), some (.ref b), some (.ref a), some (.int c), v4_z, v5] [] (zM w f j) (0, 0) := by
    intro mz
    induction mz with
    | zero =>
      intro c v4_z v5 k hll hck hk hall hmz
      exact absurd hmz (Nat.not_lt_zero _)
    | succ mz ih =>
      intro c v4_z v5 k hll hck hk hall hmz
      rcases Nat.lt_or_ge k l.length with hkl | hkl
      · obtain ⟨dd, hdd⟩ : ∃ dd, l[k]? = some dd := ⟨_, List.getElem?_eq_getElem hkl⟩
        obtain ⟨C, p, k1_z, k2_z, k3_z, k4_z, q, D, k5_z, k6_z⟩ := col_ne hr (c := k) (by omega)
        obtain ⟨col, hcol⟩ : ∃ col, L[k]? = some col := ⟨_, List.getElem?_eq_getElem (by omega)⟩
        have hzc := zcol_at hcol
        have hcc : L[k]? = some (C ++ [p]) := by rw [hcol, ← hzc, k1_z]
        have hsa : seenA T.2.2.1.1 L k = mkAb T.2.2.1.1 p := seenA_of k1_z
        refine r_iload3 dX11_looksSo_15 ?_
        refine r_aloadR1 dX11_looksSo_16 ?_
        refine m_getV (x := (f b 4)) zf_RX11_217 rfl dX11_looksSo_17 (shLay_k (w := w) hlb) (rfl) ?_
        refine t_icge (t := 69) dX11_looksSo_20 (by decide) (fun h20 => False.elim (by omega)) (fun h20 => ?_)
        refine r_aloadR2 dX11_looksSo_23 ?_
        refine r_iload3 dX11_looksSo_24 ?_
        refine q_callV1 zm_RX11_292 dX11_looksSo_25 (shTr_k (w := w) hta) (by decide) rfl (Nat.le_of_ble_eq_true rfl) (Nat.le_of_ble_eq_true rfl) (Nat.le_of_ble_eq_true rfl) (Nat.le_of_ble_eq_true rfl) (Nat.le_of_ble_eq_true rfl) (s_X8_numberAt (k := k) (v := dd) G hta htc hck hdd (fun r25 e25_z => ?_))
        refine r_lstore4 dX11_looksSo_28 rfl ?_
        refine r_lload4 dX11_looksSo_30 ?_
        refine n_ldc2 (n := -1) zk_RX11_304 dX11_looksSo_32 (by decide) (fun r32 e32 => ?_)
        refine n_lcmp dX11_looksSo_35 (fun r35 e35 => ?_)
        unfold zcmp at e35
        refine t_ifeq (t := 63) dX11_looksSo_36 (by decide) (fun h36 => ?_) (fun h36 => ?_)
        · refine n_iinc3 dX11_looksSo_63 (by decide) rfl (by omega) (fun r63 e63 => ?_)
          refine r_goto (t := 15) dX11_looksSo_66 (by decide) ?_
          refine ih _ _ _ (k + 1) (by omega) (by omega) (by omega) (fun i v hi_z hv => ?_) (by omega)
          rcases Nat.lt_or_ge i k with h9 | h9
          · exact hall i v h9 hv
          · have h91 : i = k := by omega
            rw [h91, hdd] at hv
            have h92 := Option.some.inj hv
            rw [← h92, h91]
            omega
        · refine r_lload4 dX11_looksSo_39 ?_
          refine r_aloadR1 dX11_looksSo_41 ?_
          refine r_iload3 dX11_looksSo_42 ?_
          refine r_aloadR0 dX11_looksSo_43 ?_
          refine m_getR (q := (X + 11)) zf_RX11_33 rfl dX11_looksSo_44 (shX_k (w := w) hx) (shX_p5 hx) ?_
          refine m_getR (q := ((X + 11) + 7)) zf_RX11_138 rfl dX11_looksSo_47 (shTb_k (shX_tb hx)) (shTb_p1 (shX_tb hx)) ?_
          refine m_getR (q := (((X + 11) + 7) + 1)) zf_RX11_171 rfl dX11_looksSo_50 (shMo_k (shTb_mo (shX_tb hx))) (shMo_p0 (shTb_mo (shX_tb hx))) ?_
          refine q_callV2 zm_RX11_174 dX11_looksSo_53 (shLay_k (w := w) hlb) (by decide) rfl (Nat.le_of_ble_eq_true rfl) (Nat.le_of_ble_eq_true rfl) (Nat.le_of_ble_eq_true rfl) (Nat.le_of_ble_eq_true rfl) (Nat.le_of_ble_eq_true rfl) (s_X2_markAbove (w := zM w f j) (k := k) (C := C) (p := p) G hlb hlc (rch_bd hr) hcc (zi_of hck (by omega)) (shMo_k1 (shTb_mo (shX_tb hx))) (shMo_n1 (shTb_mo (shX_tb hx))) (fun r53 e53 => ?_))
          have e53b : r53.toInt = (seenA T.2.2.1.1 L k : Nat) := by
            rw [hsa, e53]
            exact moRow hmo hwm.2.2 _ (by split <;> omega)
          refine n_i2l dX11_looksSo_56 (fun r56 e56 => ?_)
          refine n_lcmp dX11_looksSo_57 (fun r57 e57 => ?_)
          unfold zcmp at e57
          refine t_ifeq (t := 63) dX11_looksSo_58 (by decide) (fun h58 => ?_) (fun h58 => ?_)
          · refine n_iinc3 dX11_looksSo_63 (by decide) rfl (by omega) (fun r63 e63 => ?_)
            refine r_goto (t := 15) dX11_looksSo_66 (by decide) ?_
            refine ih _ _ _ (k + 1) (by omega) (by omega) (by omega) (fun i v hi_z hv => ?_) (by omega)
            rcases Nat.lt_or_ge i k with h9 | h9
            · exact hall i v h9 hv
            · have h91 : i = k := by omega
              rw [h91, hdd] at hv
              have h92 := Option.some.inj hv
              rw [← h92, h91]
              omega
          · refine n_iconst dX11_looksSo_61 (by decide) (fun r61 e61 => ?_)
            refine m_zret dX11_looksSo_62 rfl (by omega) (Nat.le_of_ble_eq_true rfl) (Nat.le_of_ble_eq_true rfl) ?_
            refine hQ _ (Or.inr ⟨by omega, fun h9 => ?_⟩)
            have h91 := h9.2 k dd hdd
            omega
      · refine r_iload3 dX11_looksSo_15 ?_
        refine r_aloadR1 dX11_looksSo_16 ?_
        refine m_getV (x := (f b 4)) zf_RX11_217 rfl dX11_looksSo_17 (shLay_k (w := w) hlb) (rfl) ?_
        refine t_icge (t := 69) dX11_looksSo_20 (by decide) (fun h20 => ?_) (fun h20 => False.elim (by omega))
        refine n_iconst dX11_looksSo_69 (by decide) (fun r69 e69 => ?_)
        refine m_zret dX11_looksSo_70 rfl (by omega) (Nat.le_of_ble_eq_true rfl) (Nat.le_of_ble_eq_true rfl) ?_
        refine hQ _ (Or.inl ⟨by omega, hll, fun i v hv => hall i v ?_ hv⟩)
        have := (List.getElem?_eq_some_iff.mp hv).1
        omega
  refine r_aloadR1 dX11_looksSo_0 ?_
  refine m_getV (x := (f b 4)) zf_RX11_217 rfl dX11_looksSo_1 (shLay_k (w := w) hlb) (rfl) ?_
  refine r_aloadR2 dX11_looksSo_4 ?_
  refine m_getV (x := (f a 2)) zf_RX11_289 rfl dX11_looksSo_5 (shTr_k (w := w) hta) (rfl) ?_
  refine t_iceq (t := 13) dX11_looksSo_8 (by decide) (fun h8 => ?_) (fun h8 => ?_)
  · refine n_iconst dX11_looksSo_13 (by decide) (fun r13 e13_z => ?_)
    refine r_istore3 dX11_looksSo_14 rfl ?_
    exact lp 31 _ _ _ 0 (by omega) (by omega) (by omega) (fun i v hi_z => absurd hi_z (by omega)) (by omega)
  · refine n_iconst dX11_looksSo_11 (by decide) (fun r11 e11_z => ?_)
    refine m_zret dX11_looksSo_12 rfl (by omega) (Nat.le_of_ble_eq_true rfl) (Nat.le_of_ble_eq_true rfl) ?_
    exact hQ _ (Or.inr ⟨by omega, fun h9 => absurd h9.1 (by omega)⟩)
set_option maxHeartbeats 4000000 in
set_option maxRecDepth 100000 in
theorem s_X11_reads {g : zGT} {w : zW} {f : Nat → Nat → Int32} {j : Nat → Nat → Int64} {X : Nat} {T : zTb} {x y : Int32} {ty : Nat → zTy} {Q : Option Value → zW → Prop} {QX : String → zW → Prop} (G : zGok g) (hx : shX w X) (ht : tbAt w f X (X + 11) T) (hty : ∀ i, i < 4 → ctTr f j (X + 231 + 2 * i) (ty i)) (hI : wyI f (X + 57)) (hXNE : ¬ (0 ≤ x.toInt ∧ x.toInt < 4) → ∀ n, zS w ≤ n → QX "java/util/NoSuchElementException" (zsS (zM w f j) n)) (hXIS : (0 ≤ x.toInt ∧ x.toInt < 4) → ty x.toInt.toNat = none → ∀ n, zS w ≤ n → QX "java/lang/IllegalStateException" (zsS (zM w f j) n)) (hXIA : (0 ≤ x.toInt ∧ x.toInt < 4) → ∀ s l, ty x.toInt.toNat = some (s, l) → ¬ (sightC l ∧ (y.toInt = 0 ∨ 10 ≤ y.toInt ∧ y.toInt ≤ 14)) → ∀ n, zS w ≤ n → QX "java/lang/IllegalArgumentException" (zsS (zM w f j) n)) (hQ : (0 ≤ x.toInt ∧ x.toInt < 4) → ∀ s l, ty x.toInt.toNat = some (s, l) → (sightC l ∧ (y.toInt = 0 ∨ 10 ≤ y.toInt ∧ y.toInt ≤ 14)) → ∀ (r : Int32) f2_z, r.toInt = findI (findW (fun (L : zLy) (_ : List Nat) => @decide (lookC T.2.2.1.1 L l) (Classical.propDecidable _)) (nodesR (tbL T))) y.toInt → qX X f f2_z → Q (some (.int r)) (zM w f2_z j)) : zC g 8 yX11_reads cX11_reads 6 (some .int) [.ref X, .int x, .int y] (zM w f j) (3, 18) Q QX := by
  refine zC_of G (by decide +kernel) (Nat.le_of_ble_eq_true rfl) ?_
  have ht0 := ht
  obtain ⟨nq, pp, g0, p0, hnq, hna0, hpp, hctb, hpast, hwf⟩ := ht0
  have hna1 := hna0
  obtain ⟨hna, hcn, ⟨hz1, hz2, hz3⟩, hl1, hl2, hl3⟩ := hna0
  have hmo := hctb.2.2.1
  have hn6 : tbC T ≤ 6 := hwf.2.1
  have hg4 : tbG T ≤ 4 := hwf.2.2.1
  have hwm := hwf.2.2.2.2.2.2.2.1
  have hrt := wfT_rch hwf
  have hfl : (f (X + 11 + 7) 2).toInt = (T.2.2.1.2.length : Nat) := by rw [hmo.1]; have := hmo.2.1; exact zi_n (by omega)
  have hcells : (f nq 1).toInt = (tbC T : Nat) := by rw [hcn.2.1]; exact zi_n (n := tbC T) (by omega)
  have hgs : (f nq 2).toInt = (tbG T : Nat) := by rw [hcn.2.2.1]; exact zi_n (n := tbG T) (by omega)
  have hl5 := hmo.2.1
  refine r_aloadR0 dX11_reads_0 ?_
  refine r_iload1 dX11_reads_1 ?_
  refine q_callV1 zm_RX11_280 dX11_reads_2 (shX_k (w := w) hx) (by decide) rfl (Nat.le_of_ble_eq_true rfl) (Nat.le_of_ble_eq_true rfl) (Nat.le_of_ble_eq_true rfl) (Nat.le_of_ble_eq_true rfl) (Nat.le_of_ble_eq_true rfl) (s_X11_trayThere G hx hty (fun hxx n hn => x_out (hXNE hxx n hn) (Nat.le_of_ble_eq_true rfl) (Nat.le_of_ble_eq_true rfl)) (fun hxx hyy n hn => x_out (hXIS hxx hyy n hn) (Nat.le_of_ble_eq_true rfl) (Nat.le_of_ble_eq_true rfl)) (fun hok s l hcs => ?_))
  have hxk : x.toInt.toNat < 4 := by omega
  have hct := hty _ hxk
  rw [hcs] at hct
  have hmany : (f (X + 231 + 2 * x.toInt.toNat) 2).toInt = (l.length : Nat) := hct.2.2.2.1
  have hl30 : l.length ≤ 30 := hct.2.2.2.2.1
  refine r_astore3 dX11_reads_5 rfl ?_
  refine r_aloadR3 dX11_reads_6 ?_
  refine q_callV0 zm_RX11_403 dX11_reads_7 (shTr_k (w := w) (shX_ty hx hxk).1) (by decide) rfl (Nat.le_of_ble_eq_true rfl) (Nat.le_of_ble_eq_true rfl) (Nat.le_of_ble_eq_true rfl) (Nat.le_of_ble_eq_true rfl) (Nat.le_of_ble_eq_true rfl) (s_X8_tellsSight G (shX_ty hx hxk).1 hct (fun r7 e7_z => ?_))
  refine t_ifeq (t := 20) dX11_reads_10 (by decide) (fun h10 => ?_) (fun h10 => ?_)
  · refine r_throwW zth_IA (List.mem_of_getElem? (i := 19) rfl) dX11_reads_20 dX11_reads_23 dX11_reads_24 dX11_reads_27 dX11_reads_30 (Nat.le_of_ble_eq_true rfl) (Nat.le_of_ble_eq_true rfl) (Nat.le_of_ble_eq_true rfl) (Nat.le_of_ble_eq_true rfl) ?_
    refine hXIA hok s l hcs (fun h9 => ?_)
    rcases e7_z with ⟨h91, _⟩ | ⟨_, h92⟩
    · first | omega | (have h93 := h9.2; omega)
    · first | exact h92 h9.1 | omega
  · refine r_iload2 dX11_reads_13 ?_
    refine q_callS1 zm_RX11_373 dX11_reads_14 (Nat.le_of_ble_eq_true rfl) (Nat.le_of_ble_eq_true rfl) (Nat.le_of_ble_eq_true rfl) (Nat.le_of_ble_eq_true rfl) (Nat.le_of_ble_eq_true rfl) (s_X11_asksOfRow G  (fun r14 e14_z => ?_))
    refine t_ifne (t := 31) dX11_reads_17 (by decide) (fun h17 => ?_) (fun h17 => ?_)
    · refine r_aloadR0 dX11_reads_31 ?_
      refine q_callV0 zm_RX11_354 dX11_reads_32 (shX_k (w := w) hx) (by decide) rfl (Nat.le_of_ble_eq_true rfl) (Nat.le_of_ble_eq_true rfl) (Nat.le_of_ble_eq_true rfl) (Nat.le_of_ble_eq_true rfl) (Nat.le_of_ble_eq_true rfl) (s_X11_growOn G hx ht hI (fun f1_z hq1 hw1 hs1 hc1 => ?_))
      have ht1 := tbAt_Q ht hq1
      have hwh : (y.toInt = 0 ∨ 10 ≤ y.toInt ∧ y.toInt ≤ 14) := by omega
      have hsi : sightC l := by
        rcases e7_z with ⟨_, h92⟩ | ⟨h91, _⟩
        · exact h92
        · omega
      have hct1 : ctTr f1_z j (X + 231 + 2 * x.toInt.toNat) (some (s, l)) := ctTr_of hct (hq1 _ (by omega)) rfl
      have hQ9 := hQ hok s l hcs ⟨hsi, hwh⟩
      generalize hPd : (fun (L : zLy) (_ : List Nat) => @decide (lookC T.2.2.1.1 L l) (Classical.propDecidable _)) = PP at hQ9
      refine r_astore4 dX11_reads_35 rfl ?_
      refine n_iconst dX11_reads_37 (by decide) (fun r37 e37 => ?_)
      refine r_istore5 dX11_reads_38 rfl ?_
      have lp : ∀ (mz : Nat) (c : Int32) (k : Nat) (f2_z : Nat → Nat → Int32), c.toInt = (k : Nat) → k ≤ (nodesR (tbL T)).length → frG X f1_z f2_z → ((nodesR (tbL T)).take k).find? (fun y => PP y.1 y.2.1) = none → 1025 - k < mz → zR (zV g 8 yX11_reads 6 (some .int) (3, 18) Q QX) cX11_reads yX11_reads.cls 40 [some (.ref X), some (.int x), some (.int y), some (.ref (X + 231 + 2 * x.toInt.toNat)), some (.ref (X + 57)), some (.int c)] [] (zM w f2_z j) (2, 12) := by
        intro mz
        induction mz with
        | zero =>
          intro c k f2_z hck hk ho hno hmz
          exact absurd hmz (Nat.not_lt_zero _)
        | succ mz ih =>
          intro c k f2_z hck hk ho hno hmz
          have hc2 := frL_wy hc1 (frG_L ho) (Or.inl rfl)
          have ht2 := tbAt_Q ht1 (frL_Q (frG_L ho) (Or.inl rfl))
          have hn1000 := nodes_len hrt
          have hsz : (f2_z (X + 57) 12).toInt = ((nodesR (tbL T)).length : Nat) := hc2.1.1
          have hct2 : ctTr f2_z j (X + 231 + 2 * x.toInt.toNat) (some (s, l)) := ctTr_of hct1 (ho _ (by omega)) rfl
          rcases Nat.lt_or_ge k (nodesR (tbL T)).length with hkl | hkl
          · obtain ⟨y9, hnd⟩ : ∃ y9, (nodesR (tbL T))[k]? = some y9 := ⟨_, List.getElem?_eq_getElem hkl⟩
            have hdle := nd_dep hnd
            refine r_iload5 dX11_reads_40 ?_
            refine r_aloadR4 dX11_reads_42 ?_
            refine m_getV (x := (f2_z (X + 57) 12)) zf_RX11_358 rfl dX11_reads_44 (shWy_k (shX_wo hx)) (rfl) ?_
            refine t_icge (t := 91) dX11_reads_47 (by decide) (fun h47 => False.elim (by omega)) (fun h47 => ?_)
            refine r_aloadR4 dX11_reads_50 ?_
            refine r_iload5 dX11_reads_52 ?_
            refine q_callV1 zm_RX11_361 dX11_reads_54 (shWy_k (shX_wo hx)) (by decide) rfl (Nat.le_of_ble_eq_true rfl) (Nat.le_of_ble_eq_true rfl) (Nat.le_of_ble_eq_true rfl) (Nat.le_of_ble_eq_true rfl) (Nat.le_of_ble_eq_true rfl) (s_X9_depthOf (k := k) G (shX_wo hx) hck (by omega) (fun r54 e54 => ?_))
            have hd54 := wy_dep hc2 hnd e54
            refine n_iconst dX11_reads_57 (by decide) (fun r57 e57 => ?_)
            refine t_icgt (t := 91) dX11_reads_58 (by decide) (fun h58 => False.elim (by omega)) (fun h58 => ?_)
            refine r_aloadR0 dX11_reads_61 ?_
            refine r_aloadR4 dX11_reads_62 ?_
            refine r_iload5 dX11_reads_64 ?_
            refine q_callV1 zm_RX11_408 dX11_reads_66 (shWy_k (shX_wo hx)) (by decide) rfl (Nat.le_of_ble_eq_true rfl) (Nat.le_of_ble_eq_true rfl) (Nat.le_of_ble_eq_true rfl) (Nat.le_of_ble_eq_true rfl) (Nat.le_of_ble_eq_true rfl) (s_X9_layOf G (shX_wo hx) hc2 hck hnd (fun f4_z ho4 hl4 => ?_))
            have hF4 : frG X f2_z f4_z := fun q hq => ho4 q (by omega)
            have ht4 := tbAt_Q ht2 (frL_Q (frG_L hF4) (Or.inl rfl))
            have hct4 : ctTr f4_z j (X + 231 + 2 * x.toInt.toNat) (some (s, l)) := ctTr_of hct2 (ho4 _ (by omega)) rfl
            have hc4 := frL_wy hc1 (frG_L (frG_tr ho hF4)) (Or.inl rfl)
            refine r_aloadR3 dX11_reads_69 ?_
            refine q_callV2 zm_RX11_411 dX11_reads_70 (shX_k (w := w) hx) (by decide) rfl (Nat.le_of_ble_eq_true rfl) (Nat.le_of_ble_eq_true rfl) (Nat.le_of_ble_eq_true rfl) (Nat.le_of_ble_eq_true rfl) (Nat.le_of_ble_eq_true rfl) (s_X11_looksSo G hx ht4 (shWy_s (shX_wo hx)) hl4 (shX_ty hx hxk).1 hct4 (hc2.2.2.2.2 y9 (List.mem_of_getElem? hnd)) (fun r70 e70 => ?_))
            have hPq : PP y9.1 y9.2.1 = true ↔ lookC T.2.2.1.1 y9.1 l := by rw [← hPd]; exact @decide_eq_true_iff _ (Classical.propDecidable _)
            refine t_ifeq (t := 85) dX11_reads_73 (by decide) (fun h73 => ?_) (fun h73 => ?_)
            · refine n_iinc5 dX11_reads_85 (by decide) rfl (by omega) (fun r85 e85 => ?_)
              refine r_goto (t := 40) dX11_reads_88 (by decide) ?_
              refine ih _ (k + 1) f4_z (by omega) (by omega) (frG_tr ho hF4) ?_ (by omega)
              have hPP : ¬ PP y9.1 y9.2.1 = true := by
                intro h9
                rcases e70 with ⟨h91, _⟩ | ⟨_, h92⟩
                · omega
                · exact h92 (hPq.mp h9)
              show ((nodesR (tbL T)).take (k + 1)).find? (fun y => PP y.1 y.2.1) = none
              rw [take_snoc hnd, find_snoc hno]
              exact if_neg hPP
            · refine r_aloadR4 dX11_reads_76 ?_
              refine r_iload5 dX11_reads_78 ?_
              refine r_iload2 dX11_reads_80 ?_
              refine q_callS3 zm_RX11_382 dX11_reads_81 (Nat.le_of_ble_eq_true rfl) (Nat.le_of_ble_eq_true rfl) (Nat.le_of_ble_eq_true rfl) (Nat.le_of_ble_eq_true rfl) (Nat.le_of_ble_eq_true rfl) (s_X11_rowAnswer (y := y9) (k := k) G (shX_wo hx) hc4 hck hnd (nd_deed hrt hnd) (by omega) (fun r81 e81 => ?_))
              refine r_iret dX11_reads_84 rfl (Nat.le_of_ble_eq_true rfl) (Nat.le_of_ble_eq_true rfl) ?_
              refine hQ9 _ f4_z ?_ (qX_on hq1 hw1 hrt hc1 (frG_L (frG_tr ho hF4)))
              have hlk : lookC T.2.2.1.1 y9.1 l := by
                rcases e70 with ⟨_, h92⟩ | ⟨h91, _⟩
                · exact h92
                · omega
              have hfd : (nodesR (tbL T)).find? (fun y => PP y.1 y.2.1) = some y9 := find_hit hno hnd (hPq.mpr hlk)
              have hfd2 : findW PP (nodesR (tbL T)) = some y9 := hfd
              rw [hfd2]
              exact e81
          · have hful : (nodesR (tbL T)).take k = nodesR (tbL T) := List.take_of_length_le hkl
            rw [hful] at hno
            have hfd : findW PP (nodesR (tbL T)) = none := hno
            rw [hfd] at hQ9
            refine r_iload5 dX11_reads_40 ?_
            refine r_aloadR4 dX11_reads_42 ?_
            refine m_getV (x := (f2_z (X + 57) 12)) zf_RX11_358 rfl dX11_reads_44 (shWy_k (shX_wo hx)) (rfl) ?_
            refine t_icge (t := 91) dX11_reads_47 (by decide) (fun h47 => ?_) (fun h47 => False.elim (by omega))
            refine n_iconst dX11_reads_91 (by decide) (fun r91 e91 => ?_)
            refine r_iret dX11_reads_92 rfl (Nat.le_of_ble_eq_true rfl) (Nat.le_of_ble_eq_true rfl) ?_
            exact hQ9 _ f2_z (by show _ = (-1 : Int); omega) (qX_on hq1 hw1 hrt hc1 (frG_L ho))
      exact lp 1026 _ 0 f1_z (by omega) (by omega) frG_rf rfl (by omega)
    · refine r_throwW zth_IA (List.mem_of_getElem? (i := 19) rfl) dX11_reads_20 dX11_reads_23 dX11_reads_24 dX11_reads_27 dX11_reads_30 (Nat.le_of_ble_eq_true rfl) (Nat.le_of_ble_eq_true rfl) (Nat.le_of_ble_eq_true rfl) (Nat.le_of_ble_eq_true rfl) ?_
      refine hXIA hok s l hcs (fun h9 => ?_)
      rcases e7_z with ⟨h91, _⟩ | ⟨_, h92⟩
      · first | omega | (have h93 := h9.2; omega)
      · first | exact h92 h9.1 | omega
