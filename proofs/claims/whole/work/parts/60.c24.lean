/-! the class: greatestGroup -/
noncomputable def talW (p : zLy → Bool) (b9 : zLy → Nat) (v : Nat) (X : List zRw) : Nat := sumR (fun L => p L && decide (b9 L = v)) X
noncomputable def greW (p : zLy → Bool) (b9 : zLy → Nat) (X : List zRw) : Nat → Nat
  | 0 => 0
  | k + 1 => match X[k]? with
    | some y => if p y.1 = true then max (greW p b9 X k) (talW p b9 (b9 y.1) (X.take (k + 1))) else greW p b9 X k
    | none => greW p b9 X k
theorem greW_1 {p : zLy → Bool} {b9 : zLy → Nat} {X : List zRw} {k : Nat} {y : zRw} (h_z : X[k]? = some y) (hp : p y.1 = true) : greW p b9 X (k + 1) = max (greW p b9 X k) (talW p b9 (b9 y.1) (X.take (k + 1))) := by
  show (match X[k]? with | some y => if p y.1 = true then max (greW p b9 X k) (talW p b9 (b9 y.1) (X.take (k + 1))) else greW p b9 X k | none => greW p b9 X k) = _
  rw [h_z]
  exact if_pos hp
theorem greW_0 {p : zLy → Bool} {b9 : zLy → Nat} {X : List zRw} {k : Nat} {y : zRw} (h_z : X[k]? = some y) (hp : ¬ p y.1 = true) : greW p b9 X (k + 1) = greW p b9 X k := by
  show (match X[k]? with | some y => if p y.1 = true then max (greW p b9 X k) (talW p b9 (b9 y.1) (X.take (k + 1))) else greW p b9 X k | none => greW p b9 X k) = _
  rw [h_z]
  exact if_neg hp
theorem talW_s {p : zLy → Bool} {b9 : zLy → Nat} {v k : Nat} {X : List zRw} {y : zRw} (h_z : X[k]? = some y) : talW p b9 v (X.take (k + 1)) = talW p b9 v (X.take k) + (if p y.1 = true ∧ b9 y.1 = v then y.2.2 else 0) := by
  unfold talW
  rw [take_snoc h_z, sumR_app, sumR_one]
  congr 1
  by_cases h1 : p y.1 = true ∧ b9 y.1 = v
  · rw [if_pos h1, if_pos (by rw [h1.1, decide_eq_true h1.2]; rfl)]
  · rw [if_neg h1, if_neg (fun h2 => h1 (by
      rw [Bool.and_eq_true] at h2
      exact ⟨h2.1, of_decide_eq_true h2.2⟩))]
def frY (X : Nat) (f f2_z : Nat → Nat → Int32) : Prop := ∀ q, (q < X + 54 ∨ X + 57 ≤ q ∧ q < X + 85 ∨ X + 89 ≤ q ∧ q ≠ X + 106) → f2_z q = f q
theorem frY_tr {X : Nat} {f f2_z f3_z : Nat → Nat → Int32} (h_z : frY X f f2_z) (h2 : frY X f2_z f3_z) : frY X f f3_z := fun q hq => (h2 q hq).trans (h_z q hq)
theorem frY_Q {X : Nat} {f f2_z : Nat → Nat → Int32} (h_z : frY X f f2_z) : frQ X f f2_z := fun q hq => h_z q (by omega)
set_option maxHeartbeats 4000000 in
set_option maxRecDepth 100000 in
theorem s_X11_greatestGroup {g : zGT} {w : zW} {f : Nat → Nat → Int32} {j : Nat → Nat → Int64} {X : Nat} {T : zTb} {a s m9_z col : Nat} {l : List Int} {x y0 : Int32} {Q : Option Value → zW → Prop} {QX : String → zW → Prop} (G : zGok g) (hx : shX w X) (ht : tbAt w f X (X + 11) T) (hc0 : ctWy f (X + 75) (tbC T) (nodesR (lyFlat (tbC T)))) (hta : shTr w a) (htc : ctTr f j a (some (s, l))) (haz : X + 108 ≤ a) (hm9 : x.toInt = (m9_z : Nat)) (hm5 : m9_z ≤ 5) (hcl : y0.toInt = (col : Nat)) (hcl2 : col < l.length) (hQ : ∀ (r : Int32) f2_z, r.toInt = (greW (fun (L : zLy) => @decide (lookC T.2.2.1.1 L l) (Classical.propDecidable _)) (fun L => seenB T.2.2.1.1 L col) (levs (lyFlat (tbC T)) (m9_z + 1)) (levs (lyFlat (tbC T)) (m9_z + 1)).length : Nat) → frY X f f2_z → Q (some (.int r)) (zM w f2_z j)) : zC g 8 yX11_greatestGroup cX11_greatestGroup 9 (some .int) [.ref X, .ref (X + 75), .ref a, .int x, .int y0] (zM w f j) (0, 0) Q QX := by
  refine zC_of G (by decide +kernel) (Nat.le_of_ble_eq_true rfl) ?_
  have ht0 := ht
  obtain ⟨nq, pp, g0, p0, hnq, hna0, hpp, hctb, hpast, hwf⟩ := ht0
  have hna1 := hna0
  obtain ⟨hna, hcn, ⟨hz1, hz2, hz3⟩, hl1, hl2, hl3⟩ := hna0
  have hmo := hctb.2.2.1
  have hn6 : tbC T ≤ 6 := hwf.2.1
  have hg4 : tbG T ≤ 4 := hwf.2.2.1
  have hwm := hwf.2.2.2.2.2.2.2.1
  have hrt := wfT_rch hwf
  have hfl : (f (X + 11 + 7) 2).toInt = (T.2.2.1.2.length : Nat) := by rw [hmo.1]; have := hmo.2.1; exact zi_n (by omega)
  have hcells : (f nq 1).toInt = (tbC T : Nat) := by rw [hcn.2.1]; exact zi_n (n := tbC T) (by omega)
  have hgs : (f nq 2).toInt = (tbG T : Nat) := by rw [hcn.2.2.1]; exact zi_n (n := tbG T) (by omega)
  have hrf : rch (tbC T) (lyFlat (tbC T)) := rch_flat hn6
  generalize hPd : (fun (L : zLy) => @decide (lookC T.2.2.1.1 L l) (Classical.propDecidable _)) = PP at hQ
  generalize hBd : (fun L => seenB T.2.2.1.1 L col) = BB9 at hQ
  refine r_aloadR0 dX11_greatestGroup_0 ?_
  refine m_getR (q := (X + 106)) zf_RX11_88 rfl dX11_greatestGroup_1 (shX_k (w := w) hx) (shX_p17 hx) ?_
  refine n_iconst dX11_greatestGroup_4 (by decide) (fun r4 e4_z => ?_)
  refine q_callS2 zm_RX11_443 dX11_greatestGroup_5 (Nat.le_of_ble_eq_true rfl) (Nat.le_of_ble_eq_true rfl) (Nat.le_of_ble_eq_true rfl) (Nat.le_of_ble_eq_true rfl) (Nat.le_of_ble_eq_true rfl) (s_J7_fill_53178 G (shX_k107 hx) (shX_n107 hx) (by decide) (fun f1_z ho1 hz1 => ?_))
  refine n_iconst dX11_greatestGroup_8 (by decide) (fun r8 e8 => ?_)
  refine r_istore5 dX11_greatestGroup_9 rfl ?_
  refine n_iconst dX11_greatestGroup_11 (by decide) (fun r11 e11_z => ?_)
  refine r_istore6 dX11_greatestGroup_12 rfl ?_
  have lp : ∀ (mz : Nat) (v : Int32) (c : Int32) (v7 : Option Value) (v8 : Option Value) (k : Nat) (f2_z : Nat → Nat → Int32), c.toInt = (k : Nat) → k ≤ (levs (lyFlat (tbC T)) (m9_z + 1)).length → frY X f f2_z → v.toInt = (greW PP BB9 (levs (lyFlat (tbC T)) (m9_z + 1)) k : Nat) → (∀ v, v < 100 → (f2_z (X + 106) v).toInt = (talW PP BB9 v ((levs (lyFlat (tbC T)) (m9_z + 1)).take k) : Nat)) → 1025 - k < mz → zR (zV g 8 yX11_greatestGroup 9 (some .int) (0, 0) Q QX) cX11_greatestGroup yX11_greatestGroup.cls 14 [some (.ref X), some (.ref (X + 75)), some (.ref a), some (.int x), some (.int y0), some (.int v), some (.int c), v7, v8] [] (zM w f2_z j) (0, 0) := by
    intro mz
    induction mz with
    | zero =>
      intro v c v7 v8 k f2_z hck hk ho hv htal hmz
      exact absurd hmz (Nat.not_lt_zero _)
    | succ mz ih =>
      intro v c v7 v8 k f2_z hck hk ho hv htal hmz
      have hc2 : ctWy f2_z (X + 75) (tbC T) (nodesR (lyFlat (tbC T))) := ctWy_rest hc0 (fun r g1 g2 => ho _ (by omega))
      have ht2 := tbAt_Q ht (frY_Q ho)
      have hn1000 := nodes_len hrf
      have hsz : (f2_z (X + 75) 12).toInt = ((nodesR (lyFlat (tbC T))).length : Nat) := hc2.1.1
      have htc2 : ctTr f2_z j a (some (s, l)) := ctTr_of htc (ho _ (by omega)) rfl
      have hnl := nd_len (L := (lyFlat (tbC T))) (n := m9_z) (by omega)
      rcases Nat.lt_or_ge k (levs (lyFlat (tbC T)) (m9_z + 1)).length with hkl | hkl
      · obtain ⟨y, hy⟩ : ∃ y, (levs (lyFlat (tbC T)) (m9_z + 1))[k]? = some y := ⟨_, List.getElem?_eq_getElem hkl⟩
        obtain ⟨hnd, hdle⟩ := nd_in hm5 hy
        have hry := hc2.2.2.2.2 y (List.mem_of_getElem? hnd)
        have hB9 : BB9 y.1 = seenB T.2.2.1.1 y.1 col := by rw [← hBd]
        have hB99 : BB9 y.1 ≤ 99 := by rw [hB9]; exact seenB_le hwm.2.2
        have hts := fun v => talW_s (p := PP) (b9 := BB9) (v := v) hy
        have htb := fun v n => Nat.le_trans (sumR_take (p := fun L => PP L && decide (BB9 L = v)) (k := n) (X := (levs (lyFlat (tbC T)) (m9_z + 1)))) (Nat.le_trans (sumR_levs hrf _ (m9_z + 1)) (Nat.pow_le_pow_right (by decide) (show m9_z + 1 ≤ 6 by omega)))
        have e20 : (20 : Nat) ^ 6 = 64000000 := rfl
        refine r_iload6 dX11_greatestGroup_14 ?_
        refine r_aloadR1 dX11_greatestGroup_16 ?_
        refine m_getV (x := (f2_z (X + 75) 12)) zf_RX11_358 rfl dX11_greatestGroup_17 (shWy_k (shX_wf hx)) (rfl) ?_
        refine t_icge (t := 121) dX11_greatestGroup_20 (by decide) (fun h20 => False.elim (by omega)) (fun h20 => ?_)
        refine r_aloadR1 dX11_greatestGroup_23 ?_
        refine r_iload6 dX11_greatestGroup_24 ?_
        refine q_callV1 zm_RX11_361 dX11_greatestGroup_26 (shWy_k (shX_wf hx)) (by decide) rfl (Nat.le_of_ble_eq_true rfl) (Nat.le_of_ble_eq_true rfl) (Nat.le_of_ble_eq_true rfl) (Nat.le_of_ble_eq_true rfl) (Nat.le_of_ble_eq_true rfl) (s_X9_depthOf (k := k) G (shX_wf hx) hck (by omega) (fun r26 e26_z => ?_))
        have hd26 := wy_dep hc2 hnd e26_z
        refine r_iload3 dX11_greatestGroup_29 ?_
        refine t_icgt (t := 121) dX11_greatestGroup_30 (by decide) (fun h30 => False.elim (by omega)) (fun h30 => ?_)
        refine r_aloadR1 dX11_greatestGroup_33 ?_
        refine r_iload6 dX11_greatestGroup_34 ?_
        refine q_callV1 zm_RX11_408 dX11_greatestGroup_36 (shWy_k (shX_wf hx)) (by decide) rfl (Nat.le_of_ble_eq_true rfl) (Nat.le_of_ble_eq_true rfl) (Nat.le_of_ble_eq_true rfl) (Nat.le_of_ble_eq_true rfl) (Nat.le_of_ble_eq_true rfl) (s_X9_layOf G (shX_wf hx) hc2 hck hnd (fun f4_z ho4 hl4 => ?_))
        have hF4 : frY X f2_z f4_z := fun q hq => ho4 q (by omega)
        have ht4 := tbAt_Q ht2 (frY_Q hF4)
        have htc4 : ctTr f4_z j a (some (s, l)) := ctTr_of htc2 (ho4 _ (by omega)) rfl
        have hc4 : ctWy f4_z (X + 75) (tbC T) (nodesR (lyFlat (tbC T))) := ctWy_rest hc2 (fun r g1 g2 => hF4 _ (by omega))
        have hmo4 := (tb_mo ht4).1
        have htal4 : ∀ v, v < 100 → (f4_z (X + 106) v).toInt = (talW PP BB9 v ((levs (lyFlat (tbC T)) (m9_z + 1)).take k) : Nat) := fun v hv => by rw [ho4 _ (by omega)]; exact htal v hv
        refine r_astore7 dX11_greatestGroup_39 rfl ?_
        refine r_aloadR0 dX11_greatestGroup_41 ?_
        refine r_aloadR7 dX11_greatestGroup_42 ?_
        refine r_aloadR2 dX11_greatestGroup_44 ?_
        refine q_callV2 zm_RX11_411 dX11_greatestGroup_45 (shX_k (w := w) hx) (by decide) rfl (Nat.le_of_ble_eq_true rfl) (Nat.le_of_ble_eq_true rfl) (Nat.le_of_ble_eq_true rfl) (Nat.le_of_ble_eq_true rfl) (Nat.le_of_ble_eq_true rfl) (s_X11_looksSo G hx ht4 (shWy_s (shX_wf hx)) hl4 hta htc4 hry (fun rA eA => ?_))
        have hPq : PP y.1 = true ↔ lookC T.2.2.1.1 y.1 l := by rw [← hPd]; exact @decide_eq_true_iff _ (Classical.propDecidable _)
        refine t_ifeq (t := 115) dX11_greatestGroup_48 (by decide) (fun h48 => ?_) (fun h48 => ?_)
        · refine n_iinc6 dX11_greatestGroup_115 (by decide) rfl (by omega) (fun r115 e115_z => ?_)
          refine r_goto (t := 14) dX11_greatestGroup_118 (by decide) ?_
          have hno9 : ¬ lookC T.2.2.1.1 y.1 l := by
            intro h9
            rcases eA with ⟨h91, _⟩ | ⟨_, h92⟩
            · omega
            · exact h92 h9
          rw [← greW_0 (b9 := BB9) hy (fun h9 => hno9 (hPq.mp h9))] at hv
          exact ih _ _ _ _ (k + 1) f4_z (by omega) (by omega) (frY_tr ho hF4) hv (fun v hv9 => by rw [htal4 v hv9, hts v, if_neg (fun h9 => hno9 (hPq.mp h9.1))]; rfl) (by omega)
        · have hyes : lookC T.2.2.1.1 y.1 l := by
            rcases eA with ⟨_, h92⟩ | ⟨h91, _⟩
            · exact h92
            · omega
          obtain ⟨C, p, k1_z, k2_z, k3_z, k4_z, q9_z, D, k5_z, k6_z⟩ := col_ne hry (c := col) (by have := hyes.1; omega)
          obtain ⟨cl9, hcol⟩ : ∃ cl9, y.1[col]? = some cl9 := ⟨_, List.getElem?_eq_getElem (by have := hyes.1; omega)⟩
          have hzc := zcol_at hcol
          have hcc : y.1[col]? = some (q9_z :: D) := by rw [hcol, ← hzc, k5_z]
          have hyl := rch_le hry
          have hyn := (rch_cell hry).2.2.2.2
          have hyl9 := hyes.1
          refine r_aloadR7 dX11_greatestGroup_51 ?_
          refine r_iload4 dX11_greatestGroup_53 ?_
          refine r_aloadR0 dX11_greatestGroup_55 ?_
          refine m_getR (q := (X + 11)) zf_RX11_33 rfl dX11_greatestGroup_56 (shX_k (w := w) hx) (shX_p5 hx) ?_
          refine m_getR (q := ((X + 11) + 7)) zf_RX11_138 rfl dX11_greatestGroup_59 (shTb_k (shX_tb hx)) (shTb_p1 (shX_tb hx)) ?_
          refine m_getR (q := (((X + 11) + 7) + 1)) zf_RX11_171 rfl dX11_greatestGroup_62 (shMo_k (shTb_mo (shX_tb hx))) (shMo_p0 (shTb_mo (shX_tb hx))) ?_
          refine q_callV2 zm_RX11_178 dX11_greatestGroup_65 (shLay_k (shWy_s (shX_wf hx))) (by decide) rfl (Nat.le_of_ble_eq_true rfl) (Nat.le_of_ble_eq_true rfl) (Nat.le_of_ble_eq_true rfl) (Nat.le_of_ble_eq_true rfl) (Nat.le_of_ble_eq_true rfl) (s_X2_markBeneath (w := zM w f4_z j) (C := D) (p := q9_z) G (shWy_s (shX_wf hx)) hl4 (rch_bd hry) hcc (zi_of hcl (by omega)) (shMo_k1 (shTb_mo (shX_tb hx))) (shMo_n1 (shTb_mo (shX_tb hx))) (fun r65 e65 => ?_))
          have e65b : r65.toInt = (BB9 y.1 : Nat) := by
            rw [hB9, seenB_of k5_z, e65]
            exact moRow hmo4 hwm.2.2 _ (by split <;> omega)
          have hold := htal4 (BB9 y.1) (by omega)
          have htsb := hts (BB9 y.1)
          rw [if_pos ⟨hPq.mpr hyes, rfl⟩] at htsb
          have htb1 := htb (BB9 y.1) (k + 1)
          have htb2 : talW PP BB9 (BB9 y.1) ((levs (lyFlat (tbC T)) (m9_z + 1)).take (k + 1)) ≤ 20 ^ 6 := htb1
          have hgr := greW_1 (b9 := BB9) hy (hPq.mpr hyes)
          refine r_istore8 dX11_greatestGroup_68 rfl ?_
          refine r_iload8 dX11_greatestGroup_70 ?_
          refine t_iflt (t := 115) dX11_greatestGroup_72 (by decide) (fun h72 => False.elim (by omega)) (fun h72 => ?_)
          refine r_iload8 dX11_greatestGroup_75 ?_
          refine r_aloadR0 dX11_greatestGroup_77 ?_
          refine m_getR (q := (X + 106)) zf_RX11_88 rfl dX11_greatestGroup_78 (shX_k (w := w) hx) (shX_p17 hx) ?_
          refine m_alen dX11_greatestGroup_81 (zge (shX_k107 hx) (by decide)) (shX_n107 hx) (by first | decide | omega) (fun r81 e81 => ?_)
          refine t_icge (t := 115) dX11_greatestGroup_82 (by decide) (fun h82 => False.elim (by omega)) (fun h82 => ?_)
          refine r_aloadR0 dX11_greatestGroup_85 ?_
          refine m_getR (q := (X + 106)) zf_RX11_88 rfl dX11_greatestGroup_86 (shX_k (w := w) hx) (shX_p17 hx) ?_
          refine r_iload8 dX11_greatestGroup_89 ?_
          refine r_dup2 dX11_greatestGroup_91 rfl rfl ?_
          refine m_iald (k := (BB9 y.1)) (x := (f4_z (X + 106) ((BB9 y.1)))) dX11_greatestGroup_92 (shX_k107 hx) (shX_n107 hx) (by omega) (by omega) (rfl) ?_
          refine r_aloadR1 dX11_greatestGroup_93 ?_
          refine r_iload6 dX11_greatestGroup_94 ?_
          refine q_callV1 zm_RX11_364 dX11_greatestGroup_96 (shWy_k (shX_wf hx)) (by decide) rfl (Nat.le_of_ble_eq_true rfl) (Nat.le_of_ble_eq_true rfl) (Nat.le_of_ble_eq_true rfl) (Nat.le_of_ble_eq_true rfl) (Nat.le_of_ble_eq_true rfl) (s_X9_rowsTo (k := k) G (shX_wf hx) hck (by omega) (fun r96 e96 => ?_))
          have hr96 := wy_cou hc4 hnd e96
          refine n_iadd dX11_greatestGroup_99 (by omega) (fun r99 e99_z => ?_)
          refine m_iast (k := (BB9 y.1)) dX11_greatestGroup_100 (shX_k107 hx) (shX_n107 hx) (by omega) (by omega) ?_
          refine r_iload5 dX11_greatestGroup_101 ?_
          refine r_aloadR0 dX11_greatestGroup_103 ?_
          refine m_getR (q := (X + 106)) zf_RX11_88 rfl dX11_greatestGroup_104 (shX_k (w := w) hx) (shX_p17 hx) ?_
          refine r_iload8 dX11_greatestGroup_107 ?_
          refine m_iald (k := (BB9 y.1)) (x := r99) dX11_greatestGroup_109 (shX_k107 hx) (shX_n107 hx) (by omega) (by omega) (zu_at) ?_
          refine r_mmax zm_RX11_346 dX11_greatestGroup_110 (Nat.le_of_ble_eq_true rfl) (Nat.le_of_ble_eq_true rfl) (Nat.le_of_ble_eq_true rfl) (Nat.le_of_ble_eq_true rfl) (Nat.le_of_ble_eq_true rfl) (fun r110 e110 => ?_)
          refine r_istore5 dX11_greatestGroup_113 rfl ?_
          refine n_iinc6 dX11_greatestGroup_115 (by decide) rfl (by omega) (fun r115 e115_z => ?_)
          refine r_goto (t := 14) dX11_greatestGroup_118 (by decide) ?_
          refine ih _ _ _ _ (k + 1) _ (by omega) (by omega) (frY_tr ho (frY_tr hF4 (fun q hq => zu_ne (by omega)))) (by omega) (fun v hv9 => ?_) (by omega)
          by_cases hve : v = BB9 y.1
          · rw [hve, zu_at, htsb]; omega
          · rw [zu_nn (Or.inr hve), htal4 v hv9, hts v, if_neg (fun h9 => hve h9.2.symm)]; rfl
      · have hke : k = (levs (lyFlat (tbC T)) (m9_z + 1)).length := by omega
        rw [hke] at hv
        have hend := hQ v f2_z hv ho
        rcases Nat.lt_or_ge k (nodesR (lyFlat (tbC T))).length with hk2 | hk2
        · obtain ⟨y, hnd⟩ : ∃ y, (nodesR (lyFlat (tbC T)))[k]? = some y := ⟨_, List.getElem?_eq_getElem hk2⟩
          have hdl := nd_out (n := m9_z) (by omega) hnd (by omega)
          refine r_iload6 dX11_greatestGroup_14 ?_
          refine r_aloadR1 dX11_greatestGroup_16 ?_
          refine m_getV (x := (f2_z (X + 75) 12)) zf_RX11_358 rfl dX11_greatestGroup_17 (shWy_k (shX_wf hx)) (rfl) ?_
          refine t_icge (t := 121) dX11_greatestGroup_20 (by decide) (fun h20 => False.elim (by omega)) (fun h20 => ?_)
          refine r_aloadR1 dX11_greatestGroup_23 ?_
          refine r_iload6 dX11_greatestGroup_24 ?_
          refine q_callV1 zm_RX11_361 dX11_greatestGroup_26 (shWy_k (shX_wf hx)) (by decide) rfl (Nat.le_of_ble_eq_true rfl) (Nat.le_of_ble_eq_true rfl) (Nat.le_of_ble_eq_true rfl) (Nat.le_of_ble_eq_true rfl) (Nat.le_of_ble_eq_true rfl) (s_X9_depthOf (k := k) G (shX_wf hx) hck (by omega) (fun r26 e26_z => ?_))
          have hd26 := wy_dep hc2 hnd e26_z
          refine r_iload3 dX11_greatestGroup_29 ?_
          refine t_icgt (t := 121) dX11_greatestGroup_30 (by decide) (fun h30 => ?_) (fun h30 => False.elim (by omega))
          refine r_iload5 dX11_greatestGroup_121 ?_
          refine r_iret dX11_greatestGroup_123 rfl (Nat.le_of_ble_eq_true rfl) (Nat.le_of_ble_eq_true rfl) ?_
          exact hend
        · refine r_iload6 dX11_greatestGroup_14 ?_
          refine r_aloadR1 dX11_greatestGroup_16 ?_
          refine m_getV (x := (f2_z (X + 75) 12)) zf_RX11_358 rfl dX11_greatestGroup_17 (shWy_k (shX_wf hx)) (rfl) ?_
          refine t_icge (t := 121) dX11_greatestGroup_20 (by decide) (fun h20 => ?_) (fun h20 => False.elim (by omega))
          refine r_iload5 dX11_greatestGroup_121 ?_
          refine r_iret dX11_greatestGroup_123 rfl (Nat.le_of_ble_eq_true rfl) (Nat.le_of_ble_eq_true rfl) ?_
          exact hend
  exact lp 1026 _ _ _ _ 0 f1_z (by omega) (by omega) (fun q hq => ho1 q (by omega)) (by show _ = ((0 : Nat) : Int); omega) (fun v hv => by rw [hz1 v hv, List.take_zero]; show _ = ((0 : Nat) : Int); omega) (by omega)
