/-! the class: deeds -/
theorem shX_P1 {w : zW} {P2 : Nat → Nat → Option Nat} {X : Nat} (h_z : shX w X) (e : ∀ q, q ≠ X + 21 → P2 q = zP w q) : shX (zsP w P2) X := shX_P h_z (fun q k hq => congrFun (e q (fun h9 => hq.2 (Or.inl h9))) k)
/-- only the table has_z changed, to T2 -/
def stX (w : zW) (P2 : Nat → Nat → Option Nat) (f f2_z : Nat → Nat → Int32) (X : Nat) (T2 : zTb) : Prop := (∀ q, q ≠ X + 21 → P2 q = zP w q) ∧ frT X f f2_z ∧ tbAt (zsP w P2) f2_z X (X + 11) T2
theorem stX_rf {w : zW} {f : Nat → Nat → Int32} {X : Nat} {T : zTb} (h_z : tbAt w f X (X + 11) T) : stX w (zP w) f f X T := ⟨fun _ _ => rfl, frT_rf, h_z⟩
theorem stX_tr {w : zW} {P2 P3 : Nat → Nat → Option Nat} {f f2_z f3_z : Nat → Nat → Int32} {X : Nat} {T2 T3 : zTb} (h_z : stX w P2 f f2_z X T2) (h2 : stX (zsP w P2) P3 f2_z f3_z X T3) : stX w P3 f f3_z X T3 := ⟨fun q hq => (h2.1 q hq).trans (h_z.1 q hq), frT_tr h_z.2.1 h2.2.1, h2.2.2⟩
def tbBack (T : zTb) (m : Nat) : zTb := (T.1, T.2.1, (T.2.2.2[T.2.2.2.length - m]?).getD T.2.2.1, T.2.2.2.take (T.2.2.2.length - m))
theorem wfT_back {T : zTb} {m : Nat} (h_z : wfT T) : wfT (tbBack T m) := by
  obtain ⟨h1, h2, h3, h4, h5, h6, h7, h8, h9, h10⟩ := h_z
  refine ⟨h1, h2, h3, h4, h5, h6, h7, ?_, ?_, fun M hM_z => h10 M (List.mem_of_mem_take hM_z)⟩
  · show wfMo (tbC T) ((T.2.2.2[T.2.2.2.length - m]?).getD T.2.2.1)
    cases e : T.2.2.2[T.2.2.2.length - m]? with
    | none => exact h8
    | some M => exact h10 M (List.mem_of_getElem? e)
  · show (T.2.2.2.take (T.2.2.2.length - m)).length ≤ 10
    rw [List.length_take]
    omega
/-- trying a tray's deeds one after another: why not, how many places were looked at, the moment then -/
def judW (n : Nat) (M : zMo) : List Int → Nat → Int × Nat × zMo
  | [], i => (0, i, M)
  | d :: l, i => if hinI n M d = 0 then judW n (if d = -1 then M else moDo M d.toNat) l (i + 1) else (hinI n M d, i + 1, M)
theorem hinI_ok {n : Nat} {M : zMo} {d : Int} (h_z : hinI n M d = 0) (hd_z : d ≠ -1) (hn : n ≤ 6) : 0 ≤ d ∧ okD n M d.toNat := by
  unfold hinI at h_z
  rw [if_neg hd_z] at h_z
  unfold okD
  split at h_z
  · omega
  split at h_z
  · split at h_z
    · rename_i a1 a2 a3
      refine ⟨by omega, Or.inr (Or.inr (Or.inl ⟨by omega, by omega, by omega, by omega⟩))⟩
    · exact absurd h_z (by decide)
  split at h_z
  · omega
  split at h_z
  · omega
  · exact absurd h_z (by decide)
set_option maxHeartbeats 4000000 in
set_option maxRecDepth 100000 in
theorem s_X11_needFold {g : zGT} {w : zW} {f : Nat → Nat → Int32} {j : Nat → Nat → Int64} {X : Nat} {T : zTb} {Q : Option Value → zW → Prop} {QX : String → zW → Prop} (G : zGok g) (hx : shX w X) (ht : tbAt w f X (X + 11) T) (hXIS : T.2.2.1.2.length = 0 → ∀ n, zS w ≤ n → QX "java/lang/IllegalStateException" (zsS (zM w f j) n)) (hQ : 1 ≤ T.2.2.1.2.length → Q none (zM w f j)) : zC g 6 yX11_needFold cX11_needFold 1 none [.ref X] (zM w f j) (1, 6) Q QX := by
  refine zC_of G (by decide +kernel) (Nat.le_of_ble_eq_true rfl) ?_
  have ht0 := ht
  obtain ⟨nq, pp, g0, p0, hnq, hna0, hpp, hctb, hpast, hwf⟩ := ht0
  have hna1 := hna0
  obtain ⟨hna, hcn, ⟨hz1, hz2, hz3⟩, hl1, hl2, hl3⟩ := hna0
  have hmo := hctb.2.2.1
  have hn6 : tbC T ≤ 6 := hwf.2.1
  have hg4 : tbG T ≤ 4 := hwf.2.2.1
  have hwm := hwf.2.2.2.2.2.2.2.1
  have hrt := wfT_rch hwf
  have hfl : (f (X + 11 + 7) 2).toInt = (T.2.2.1.2.length : Nat) := by rw [hmo.1]; have := hmo.2.1; exact zi_n (by omega)
  have hcells : (f nq 1).toInt = (tbC T : Nat) := by rw [hcn.2.1]; exact zi_n (n := tbC T) (by omega)
  have hgs : (f nq 2).toInt = (tbG T : Nat) := by rw [hcn.2.2.1]; exact zi_n (n := tbG T) (by omega)
  refine r_aloadR0 dX11_needFold_0 ?_
  refine m_getR (q := (X + 11)) zf_RX11_33 rfl dX11_needFold_1 (shX_k (w := w) hx) (shX_p5 hx) ?_
  refine m_getR (q := ((X + 11) + 7)) zf_RX11_138 rfl dX11_needFold_4 (shTb_k (shX_tb hx)) (shTb_p1 (shX_tb hx)) ?_
  refine m_getV (x := (f ((X + 11) + 7) 2)) zf_RX11_225 rfl dX11_needFold_7 (shMo_k (shTb_mo (shX_tb hx))) (rfl) ?_
  refine t_ifne (t := 24) dX11_needFold_10 (by decide) (fun h10 => ?_) (fun h10 => ?_)
  · refine r_vret dX11_needFold_24 rfl (Nat.le_of_ble_eq_true rfl) (Nat.le_of_ble_eq_true rfl) ?_
    exact hQ (by omega)
  · refine r_throwW zth_IS (List.mem_of_getElem? (i := 9) rfl) dX11_needFold_13 dX11_needFold_16 dX11_needFold_17 dX11_needFold_20 dX11_needFold_23 (Nat.le_of_ble_eq_true rfl) (Nat.le_of_ble_eq_true rfl) (Nat.le_of_ble_eq_true rfl) (Nat.le_of_ble_eq_true rfl) ?_
    exact hXIS (by omega)
set_option maxHeartbeats 4000000 in
set_option maxRecDepth 100000 in
theorem s_X11_doDeed {g : zGT} {w : zW} {f : Nat → Nat → Int32} {j : Nat → Nat → Int64} {X : Nat} {T : zTb} {d : Int32} {Q : Option Value → zW → Prop} {QX : String → zW → Prop} (G : zGok g) (hx : shX w X) (ht : tbAt w f X (X + 11) T) (hd0 : 0 ≤ d.toInt) (hd_z : okD (tbC T) T.2.2.1 d.toInt.toNat) (hQ : ∀ P2 f2_z, stX w P2 f f2_z X (tbDo T d.toInt.toNat) → Q none (zM (zsP w P2) f2_z j)) : zC g 4 yX11_doDeed cX11_doDeed 2 none [.ref X, .int d] (zM w f j) (0, 0) Q QX := by
  refine zC_of G (by decide +kernel) (Nat.le_of_ble_eq_true rfl) ?_
  have ht0 := ht
  obtain ⟨nq, pp, g0, p0, hnq, hna0, hpp, hctb, hpast, hwf⟩ := ht0
  have hna1 := hna0
  obtain ⟨hna, hcn, ⟨hz1, hz2, hz3⟩, hl1, hl2, hl3⟩ := hna0
  have hmo := hctb.2.2.1
  have hn6 : tbC T ≤ 6 := hwf.2.1
  have hg4 : tbG T ≤ 4 := hwf.2.2.1
  have hwm := hwf.2.2.2.2.2.2.2.1
  have hrt := wfT_rch hwf
  have hfl : (f (X + 11 + 7) 2).toInt = (T.2.2.1.2.length : Nat) := by rw [hmo.1]; have := hmo.2.1; exact zi_n (by omega)
  have hcells : (f nq 1).toInt = (tbC T : Nat) := by rw [hcn.2.1]; exact zi_n (n := tbC T) (by omega)
  have hgs : (f nq 2).toInt = (tbG T : Nat) := by rw [hcn.2.2.1]; exact zi_n (n := tbG T) (by omega)
  have hdl : d.toInt.toNat < 2600 := by unfold okD at hd_z; have := (rch_cell hrt).2.2.2.2; have h0 : (layM (tbC T) T.2.2.1.2).length = (tbL T).length := rfl; omega
  have hdn : d = nI d.toInt.toNat := zi_of (by omega) (by omega)
  have hnr := lay_narrow hwm.1
  rw [lyFlat_len] at hnr
  have hw0 : (T.2.2.1.2.foldl (fun L d => lyFold L (d / 10) (d % 10)) (lyFlat (tbC T))).length = (layM (tbC T) T.2.2.1.2).length := rfl
  refine r_aloadR0 dX11_doDeed_0 ?_
  refine m_getR (q := (X + 11)) zf_RX11_33 rfl dX11_doDeed_1 (shX_k (w := w) hx) (shX_p5 hx) ?_
  refine q_callV0 zm_RX11_327 dX11_doDeed_4 (shTb_k (shX_tb hx)) (by decide) rfl (Nat.le_of_ble_eq_true rfl) (Nat.le_of_ble_eq_true rfl) (Nat.le_of_ble_eq_true rfl) (Nat.le_of_ble_eq_true rfl) (Nat.le_of_ble_eq_true rfl) (s_X7_remember G (shX_tb hx) hpp hctb (fun P2 f1_z pp2 g2 p2 hP hpp2 hof hct2 hmap => ?_))
  have hx2 : shX (zsP w P2) X := shX_P1 hx (fun q hq => hP q (by omega))
  have hmo2 := hct2.2.2.1
  refine r_aloadR0 dX11_doDeed_7 ?_
  refine m_getR (q := (X + 11)) zf_RX11_33 rfl dX11_doDeed_8 (shX_k (w := w) hx) (shX_p5 hx2) ?_
  refine m_getR (q := (X + 11 + 7)) zf_RX11_138 rfl dX11_doDeed_11 (shTb_k (shX_tb hx2)) (shTb_p1 (shX_tb hx2)) ?_
  refine r_iload1 dX11_doDeed_14 ?_
  refine q_callV1 zm_RX11_306 dX11_doDeed_15 (shMo_k (shTb_mo (shX_tb hx2))) (by decide) rfl (Nat.le_of_ble_eq_true rfl) (Nat.le_of_ble_eq_true rfl) (Nat.le_of_ble_eq_true rfl) (Nat.le_of_ble_eq_true rfl) (Nat.le_of_ble_eq_true rfl) (s_X3_change (w := zM (zsP w P2) f1_z j) (M := T.2.2.1) (d := d.toInt.toNat) G (shTb_mo (shX_tb hx2)) hmo2 hdn ?_ ?_ (fun f2_z ho hc2 => ?_))
  · unfold okD at hd_z; omega
  · intro h1
    rcases hd_z with e | e | ⟨e1_z, e2_z, e3_z, e4_z⟩ | e | e
    · exact Or.inl e
    · exact Or.inr (Or.inl e)
    · exact Or.inr (Or.inr ⟨e1_z, by omega⟩)
    · omega
    · omega
  refine r_vret dX11_doDeed_18 rfl (Nat.le_of_ble_eq_true rfl) (Nat.le_of_ble_eq_true rfl) ?_
  have hfT : frT X f f2_z := fun q hq => (ho q (by omega)).trans (hof q (by omega))
  refine hQ P2 f2_z ⟨fun q hq => hP q (by omega), hfT, nq, pp2, g2, p2, (congrFun (hP (X + 11) (by omega)) 0).trans hnq, ?_, hpp2, ⟨?_, hct2.2.1, hc2, fun i hi_z => ?_⟩, ?_, wfT_do hwf hd_z⟩
  · exact naAt_P (naAt_q hna1 (fun q hq => frT_z hfT hq)) (fun q hq => hP q (by unfold zoneX at hq; omega))
  · rw [ho (X + 11) (by omega)]; exact hct2.1
  · have := (hpp2.1 i hi_z).2
    exact ctMo_R (hct2.2.2.2 i hi_z) ho (by omega)
  · rw [hmap]
    show (if T.2.2.2.length = 10 then T.2.2.2.drop 1 else T.2.2.2) ++ [T.2.2.1] = _
    have hlen : T.2.2.2.length = p0 := by rw [hpast, List.length_map, List.length_range]
    rw [hlen, ← hpast]
theorem tb_mo {w : zW} {f : Nat → Nat → Int32} {X a : Nat} {T : zTb} (h_z : tbAt w f X a T) : ctMo f (a + 7) T.2.2.1 ∧ wfMo (tbC T) T.2.2.1 := by
  obtain ⟨nq, pp, g0, p0, hnq, hna0, hpp, hctb, hpast, hwf⟩ := h_z
  exact ⟨hctb.2.2.1, hwf.2.2.2.2.2.2.2.1⟩
set_option maxHeartbeats 4000000 in
set_option maxRecDepth 100000 in
theorem s_X11_unfold {g : zGT} {w : zW} {f : Nat → Nat → Int32} {j : Nat → Nat → Int64} {X : Nat} {T : zTb} {Q : Option Value → zW → Prop} {QX : String → zW → Prop} (G : zGok g) (hx : shX w X) (ht : tbAt w f X (X + 11) T) (hXIS : T.2.2.1.2.length = 0 → ∀ n, zS w ≤ n → QX "java/lang/IllegalStateException" (zsS (zM w f j) n)) (hQ : 1 ≤ T.2.2.1.2.length → ∀ (r : Int32) P2 f2_z, r.toInt = ((tbL (tbDo T 100)).length : Nat) → stX w P2 f f2_z X (tbDo T 100) → Q (some (.int r)) (zM (zsP w P2) f2_z j)) : zC g 7 yX11_unfold cX11_unfold 1 (some .int) [.ref X] (zM w f j) (1, 6) Q QX := by
  refine zC_of G (by decide +kernel) (Nat.le_of_ble_eq_true rfl) ?_
  have ht0 := ht
  obtain ⟨nq, pp, g0, p0, hnq, hna0, hpp, hctb, hpast, hwf⟩ := ht0
  have hna1 := hna0
  obtain ⟨hna, hcn, ⟨hz1, hz2, hz3⟩, hl1, hl2, hl3⟩ := hna0
  have hmo := hctb.2.2.1
  have hn6 : tbC T ≤ 6 := hwf.2.1
  have hg4 : tbG T ≤ 4 := hwf.2.2.1
  have hwm := hwf.2.2.2.2.2.2.2.1
  have hrt := wfT_rch hwf
  have hfl : (f (X + 11 + 7) 2).toInt = (T.2.2.1.2.length : Nat) := by rw [hmo.1]; have := hmo.2.1; exact zi_n (by omega)
  have hcells : (f nq 1).toInt = (tbC T : Nat) := by rw [hcn.2.1]; exact zi_n (n := tbC T) (by omega)
  have hgs : (f nq 2).toInt = (tbG T : Nat) := by rw [hcn.2.2.1]; exact zi_n (n := tbG T) (by omega)
  refine r_aloadR0 dX11_unfold_0 ?_
  refine q_callV0 zm_RX11_267 dX11_unfold_1 (shX_k (w := w) hx) (by decide) rfl (Nat.le_of_ble_eq_true rfl) (Nat.le_of_ble_eq_true rfl) (Nat.le_of_ble_eq_true rfl) (Nat.le_of_ble_eq_true rfl) (Nat.le_of_ble_eq_true rfl) (s_X11_needFold G hx ht (fun hxx n hn => x_out (hXIS hxx n hn) (Nat.le_of_ble_eq_true rfl) (Nat.le_of_ble_eq_true rfl)) (fun hok => ?_))
  refine r_aloadR0 dX11_unfold_4 ?_
  refine n_bipush dX11_unfold_5 (by decide) (fun r5 e5_z => ?_)
  refine q_callV1 zm_RX11_264 dX11_unfold_7 (shX_k (w := w) hx) (by decide) rfl (Nat.le_of_ble_eq_true rfl) (Nat.le_of_ble_eq_true rfl) (Nat.le_of_ble_eq_true rfl) (Nat.le_of_ble_eq_true rfl) (Nat.le_of_ble_eq_true rfl) (s_X11_doDeed G hx ht (by omega) (by rw [show r5.toInt.toNat = 100 by omega]; exact Or.inl rfl) (fun P2 f2_z hst => ?_))
  rw [show r5.toInt.toNat = 100 by omega] at hst
  have hx2 := shX_P1 hx hst.1
  have ht2 := hst.2.2
  obtain ⟨ht2M, ht2W⟩ : ctMo f2_z (X + 11 + 7) (tbDo T 100).2.2.1 ∧ wfMo (tbC (tbDo T 100)) (tbDo T 100).2.2.1 := tb_mo ht2
  refine r_aloadR0 dX11_unfold_10 ?_
  refine r_aloadR0 dX11_unfold_11 ?_
  refine m_getR (q := (X + 11)) zf_RX11_33 rfl dX11_unfold_12 (shX_k (w := w) hx) (shX_p5 hx2) ?_
  refine m_getR (q := (X + 11 + 7)) zf_RX11_138 rfl dX11_unfold_15 (shTb_k (shX_tb hx2)) (shTb_p1 (shX_tb hx2)) ?_
  refine q_callV1 zm_RX11_260 dX11_unfold_18 (shX_k (w := w) hx) (by decide) rfl (Nat.le_of_ble_eq_true rfl) (Nat.le_of_ble_eq_true rfl) (Nat.le_of_ble_eq_true rfl) (Nat.le_of_ble_eq_true rfl) (Nat.le_of_ble_eq_true rfl) (s_X11_columnsOf (T := tbDo T 100) (M := (tbDo T 100).2.2.1) G hx2 ht2 (shTb_mo (shX_tb hx2)) ht2M ht2W (fun r18 e18_z => ?_))
  refine r_iret dX11_unfold_21 rfl (Nat.le_of_ble_eq_true rfl) (Nat.le_of_ble_eq_true rfl) ?_
  exact hQ hok _ P2 f2_z e18_z hst
set_option maxHeartbeats 4000000 in
set_option maxRecDepth 100000 in
theorem s_X11_shake {g : zGT} {w : zW} {f : Nat → Nat → Int32} {j : Nat → Nat → Int64} {X : Nat} {T : zTb} {Q : Option Value → zW → Prop} {QX : String → zW → Prop} (G : zGok g) (hx : shX w X) (ht : tbAt w f X (X + 11) T) (hXIS : T.2.2.1.2.length = 0 → ∀ n, zS w ≤ n → QX "java/lang/IllegalStateException" (zsS (zM w f j) n)) (hQ : 1 ≤ T.2.2.1.2.length → ∀ (r : Int32) P2 f2_z, r.toInt = (T.2.2.1.2.length : Nat) → stX w P2 f f2_z X (tbDo T 200) → Q (some (.int r)) (zM (zsP w P2) f2_z j)) : zC g 7 yX11_shake cX11_shake 2 (some .int) [.ref X] (zM w f j) (1, 6) Q QX := by
  refine zC_of G (by decide +kernel) (Nat.le_of_ble_eq_true rfl) ?_
  have ht0 := ht
  obtain ⟨nq, pp, g0, p0, hnq, hna0, hpp, hctb, hpast, hwf⟩ := ht0
  have hna1 := hna0
  obtain ⟨hna, hcn, ⟨hz1, hz2, hz3⟩, hl1, hl2, hl3⟩ := hna0
  have hmo := hctb.2.2.1
  have hn6 : tbC T ≤ 6 := hwf.2.1
  have hg4 : tbG T ≤ 4 := hwf.2.2.1
  have hwm := hwf.2.2.2.2.2.2.2.1
  have hrt := wfT_rch hwf
  have hfl : (f (X + 11 + 7) 2).toInt = (T.2.2.1.2.length : Nat) := by rw [hmo.1]; have := hmo.2.1; exact zi_n (by omega)
  have hcells : (f nq 1).toInt = (tbC T : Nat) := by rw [hcn.2.1]; exact zi_n (n := tbC T) (by omega)
  have hgs : (f nq 2).toInt = (tbG T : Nat) := by rw [hcn.2.2.1]; exact zi_n (n := tbG T) (by omega)
  refine r_aloadR0 dX11_shake_0 ?_
  refine q_callV0 zm_RX11_267 dX11_shake_1 (shX_k (w := w) hx) (by decide) rfl (Nat.le_of_ble_eq_true rfl) (Nat.le_of_ble_eq_true rfl) (Nat.le_of_ble_eq_true rfl) (Nat.le_of_ble_eq_true rfl) (Nat.le_of_ble_eq_true rfl) (s_X11_needFold G hx ht (fun hxx n hn => x_out (hXIS hxx n hn) (Nat.le_of_ble_eq_true rfl) (Nat.le_of_ble_eq_true rfl)) (fun hok => ?_))
  refine r_aloadR0 dX11_shake_4 ?_
  refine m_getR (q := (X + 11)) zf_RX11_33 rfl dX11_shake_5 (shX_k (w := w) hx) (shX_p5 hx) ?_
  refine m_getR (q := ((X + 11) + 7)) zf_RX11_138 rfl dX11_shake_8 (shTb_k (shX_tb hx)) (shTb_p1 (shX_tb hx)) ?_
  refine m_getV (x := (f ((X + 11) + 7) 2)) zf_RX11_225 rfl dX11_shake_11 (shMo_k (shTb_mo (shX_tb hx))) (rfl) ?_
  refine r_istore1 dX11_shake_14 rfl ?_
  refine r_aloadR0 dX11_shake_15 ?_
  refine n_sipush dX11_shake_16 (by decide) (fun r16 e16_z => ?_)
  refine q_callV1 zm_RX11_264 dX11_shake_19 (shX_k (w := w) hx) (by decide) rfl (Nat.le_of_ble_eq_true rfl) (Nat.le_of_ble_eq_true rfl) (Nat.le_of_ble_eq_true rfl) (Nat.le_of_ble_eq_true rfl) (Nat.le_of_ble_eq_true rfl) (s_X11_doDeed G hx ht (by omega) (by rw [show r16.toInt.toNat = 200 by omega]; exact Or.inr (Or.inl rfl)) (fun P2 f2_z hst => ?_))
  rw [show r16.toInt.toNat = 200 by omega] at hst
  have hx2 := shX_P1 hx hst.1
  have ht2 := hst.2.2
  obtain ⟨ht2M, ht2W⟩ : ctMo f2_z (X + 11 + 7) (tbDo T 200).2.2.1 ∧ wfMo (tbC (tbDo T 200)) (tbDo T 200).2.2.1 := tb_mo ht2
  refine r_iload1 dX11_shake_22 ?_
  refine r_iret dX11_shake_23 rfl (Nat.le_of_ble_eq_true rfl) (Nat.le_of_ble_eq_true rfl) ?_
  exact hQ hok _ P2 f2_z hfl hst
set_option maxHeartbeats 4000000 in
set_option maxRecDepth 100000 in
theorem s_X11_fold {g : zGT} {w : zW} {f : Nat → Nat → Int32} {j : Nat → Nat → Int64} {X : Nat} {T : zTb} {x y : Int32} {Q : Option Value → zW → Prop} {QX : String → zW → Prop} (G : zGok g) (hx : shX w X) (ht : tbAt w f X (X + 11) T) (hQ0 : ¬ (1 ≤ x.toInt ∧ x.toInt < ((tbL T).length : Nat) ∧ 0 ≤ y.toInt ∧ y.toInt < 4) → ∀ r : Int32, r.toInt = -1 → Q (some (.int r)) (zM w f j)) (hQ : (1 ≤ x.toInt ∧ x.toInt < ((tbL T).length : Nat) ∧ 0 ≤ y.toInt ∧ y.toInt < 4) → ∀ (r : Int32) P2 f2_z, r.toInt = ((tbL (tbDo T (10 * x.toInt.toNat + y.toInt.toNat))).length : Nat) → stX w P2 f f2_z X (tbDo T (10 * x.toInt.toNat + y.toInt.toNat)) → Q (some (.int r)) (zM (zsP w P2) f2_z j)) : zC g 5 yX11_fold cX11_fold 4 (some .int) [.ref X, .int x, .int y] (zM w f j) (0, 0) Q QX := by
  refine zC_of G (by decide +kernel) (Nat.le_of_ble_eq_true rfl) ?_
  have ht0 := ht
  obtain ⟨nq, pp, g0, p0, hnq, hna0, hpp, hctb, hpast, hwf⟩ := ht0
  have hna1 := hna0
  obtain ⟨hna, hcn, ⟨hz1, hz2, hz3⟩, hl1, hl2, hl3⟩ := hna0
  have hmo := hctb.2.2.1
  have hn6 : tbC T ≤ 6 := hwf.2.1
  have hg4 : tbG T ≤ 4 := hwf.2.2.1
  have hwm := hwf.2.2.2.2.2.2.2.1
  have hrt := wfT_rch hwf
  have hfl : (f (X + 11 + 7) 2).toInt = (T.2.2.1.2.length : Nat) := by rw [hmo.1]; have := hmo.2.1; exact zi_n (by omega)
  have hcells : (f nq 1).toInt = (tbC T : Nat) := by rw [hcn.2.1]; exact zi_n (n := tbC T) (by omega)
  have hgs : (f nq 2).toInt = (tbG T : Nat) := by rw [hcn.2.2.1]; exact zi_n (n := tbG T) (by omega)
  have hcell := rch_cell hrt
  refine r_aloadR0 dX11_fold_0 ?_
  refine r_aloadR0 dX11_fold_1 ?_
  refine m_getR (q := (X + 11)) zf_RX11_33 rfl dX11_fold_2 (shX_k (w := w) hx) (shX_p5 hx) ?_
  refine m_getR (q := ((X + 11) + 7)) zf_RX11_138 rfl dX11_fold_5 (shTb_k (shX_tb hx)) (shTb_p1 (shX_tb hx)) ?_
  refine q_callV1 zm_RX11_260 dX11_fold_8 (shX_k (w := w) hx) (by decide) rfl (Nat.le_of_ble_eq_true rfl) (Nat.le_of_ble_eq_true rfl) (Nat.le_of_ble_eq_true rfl) (Nat.le_of_ble_eq_true rfl) (Nat.le_of_ble_eq_true rfl) (s_X11_columnsOf (M := T.2.2.1) G hx ht (shTb_mo (shX_tb hx)) hmo hwm (fun r8 e8 => ?_))
  have e8L : r8.toInt = ((tbL T).length : Nat) := e8
  refine r_istore3 dX11_fold_11 rfl ?_
  refine r_iload1 dX11_fold_12 ?_
  refine n_iconst dX11_fold_13 (by decide) (fun r13 e13_z => ?_)
  refine t_iclt (t := 31) dX11_fold_14 (by decide) (fun h14 => ?_) (fun h14 => ?_)
  · refine n_iconst dX11_fold_31 (by decide) (fun r31 e31_z => ?_)
    refine r_iret dX11_fold_32 rfl (Nat.le_of_ble_eq_true rfl) (Nat.le_of_ble_eq_true rfl) ?_
    exact hQ0 (by omega) _ (by omega)
  · refine r_iload1 dX11_fold_17 ?_
    refine r_iload3 dX11_fold_18 ?_
    refine t_icge (t := 31) dX11_fold_19 (by decide) (fun h19 => ?_) (fun h19 => ?_)
    · refine n_iconst dX11_fold_31 (by decide) (fun r31 e31_z => ?_)
      refine r_iret dX11_fold_32 rfl (Nat.le_of_ble_eq_true rfl) (Nat.le_of_ble_eq_true rfl) ?_
      exact hQ0 (by omega) _ (by omega)
    · refine r_iload2 dX11_fold_22 ?_
      refine t_iflt (t := 31) dX11_fold_23 (by decide) (fun h23 => ?_) (fun h23 => ?_)
      · refine n_iconst dX11_fold_31 (by decide) (fun r31 e31_z => ?_)
        refine r_iret dX11_fold_32 rfl (Nat.le_of_ble_eq_true rfl) (Nat.le_of_ble_eq_true rfl) ?_
        exact hQ0 (by omega) _ (by omega)
      · refine r_iload2 dX11_fold_26 ?_
        refine n_iconst dX11_fold_27 (by decide) (fun r27 e27_z => ?_)
        refine t_iclt (t := 33) dX11_fold_28 (by decide) (fun h28 => ?_) (fun h28 => ?_)
        · refine r_aloadR0 dX11_fold_33 ?_
          refine n_bipush dX11_fold_34 (by decide) (fun r34 e34 => ?_)
          refine r_iload1 dX11_fold_36 ?_
          refine n_imulc dX11_fold_37 e34 (by omega) (fun r37 e37 => ?_)
          refine r_iload2 dX11_fold_38 ?_
          refine n_iadd dX11_fold_39 (by omega) (fun r39 e39 => ?_)
          have hdd : r39.toInt.toNat = 10 * x.toInt.toNat + y.toInt.toNat := by omega
          refine q_callV1 zm_RX11_264 dX11_fold_40 (shX_k (w := w) hx) (by decide) rfl (Nat.le_of_ble_eq_true rfl) (Nat.le_of_ble_eq_true rfl) (Nat.le_of_ble_eq_true rfl) (Nat.le_of_ble_eq_true rfl) (Nat.le_of_ble_eq_true rfl) (s_X11_doDeed G hx ht (by omega) (by rw [hdd]; exact Or.inr (Or.inr (Or.inl ⟨by omega, by omega, by have : (layM (tbC T) T.2.2.1.2).length = (tbL T).length := rfl; omega, by omega⟩))) (fun P2 f2_z hst => ?_))
          rw [hdd] at hst
          have hx2 := shX_P1 hx hst.1
          have ht2 := hst.2.2
          obtain ⟨ht2M, ht2W⟩ : ctMo f2_z (X + 11 + 7) (tbDo T (10 * x.toInt.toNat + y.toInt.toNat)).2.2.1 ∧ wfMo (tbC (tbDo T (10 * x.toInt.toNat + y.toInt.toNat))) (tbDo T (10 * x.toInt.toNat + y.toInt.toNat)).2.2.1 := tb_mo ht2
          refine r_aloadR0 dX11_fold_43 ?_
          refine r_aloadR0 dX11_fold_44 ?_
          refine m_getR (q := (X + 11)) zf_RX11_33 rfl dX11_fold_45 (shX_k (w := w) hx) (shX_p5 hx2) ?_
          refine m_getR (q := (X + 11 + 7)) zf_RX11_138 rfl dX11_fold_48 (shTb_k (shX_tb hx2)) (shTb_p1 (shX_tb hx2)) ?_
          refine q_callV1 zm_RX11_260 dX11_fold_51 (shX_k (w := w) hx) (by decide) rfl (Nat.le_of_ble_eq_true rfl) (Nat.le_of_ble_eq_true rfl) (Nat.le_of_ble_eq_true rfl) (Nat.le_of_ble_eq_true rfl) (Nat.le_of_ble_eq_true rfl) (s_X11_columnsOf (T := tbDo T (10 * x.toInt.toNat + y.toInt.toNat)) (M := (tbDo T (10 * x.toInt.toNat + y.toInt.toNat)).2.2.1) G hx2 ht2 (shTb_mo (shX_tb hx2)) ht2M ht2W (fun r51 e51 => ?_))
          refine r_iret dX11_fold_54 rfl (Nat.le_of_ble_eq_true rfl) (Nat.le_of_ble_eq_true rfl) ?_
          exact hQ (by omega) _ P2 f2_z e51 hst
        · refine n_iconst dX11_fold_31 (by decide) (fun r31 e31_z => ?_)
          refine r_iret dX11_fold_32 rfl (Nat.le_of_ble_eq_true rfl) (Nat.le_of_ble_eq_true rfl) ?_
          exact hQ0 (by omega) _ (by omega)
set_option maxHeartbeats 4000000 in
set_option maxRecDepth 100000 in
theorem s_X11_undo {g : zGT} {w : zW} {f : Nat → Nat → Int32} {j : Nat → Nat → Int64} {X : Nat} {T : zTb} {x : Int32} {Q : Option Value → zW → Prop} {QX : String → zW → Prop} (G : zGok g) (hx : shX w X) (ht : tbAt w f X (X + 11) T) (hXIA : ¬ (1 ≤ x.toInt ∧ x.toInt ≤ (T.2.2.2.length : Nat)) → ∀ n, zS w ≤ n → QX "java/lang/IllegalArgumentException" (zsS (zM w f j) n)) (hQ : (1 ≤ x.toInt ∧ x.toInt ≤ (T.2.2.2.length : Nat)) → ∀ (r : Int32) P2 f2_z, r.toInt = ((T.2.2.2.length - x.toInt.toNat : Nat) : Int) → stX w P2 f f2_z X (tbBack T x.toInt.toNat) → Q (some (.int r)) (zM (zsP w P2) f2_z j)) : zC g 6 yX11_undo cX11_undo 2 (some .int) [.ref X, .int x] (zM w f j) (1, 6) Q QX := by
  refine zC_of G (by decide +kernel) (Nat.le_of_ble_eq_true rfl) ?_
  have ht0 := ht
  obtain ⟨nq, pp, g0, p0, hnq, hna0, hpp, hctb, hpast, hwf⟩ := ht0
  have hna1 := hna0
  obtain ⟨hna, hcn, ⟨hz1, hz2, hz3⟩, hl1, hl2, hl3⟩ := hna0
  have hmo := hctb.2.2.1
  have hn6 : tbC T ≤ 6 := hwf.2.1
  have hg4 : tbG T ≤ 4 := hwf.2.2.1
  have hwm := hwf.2.2.2.2.2.2.2.1
  have hrt := wfT_rch hwf
  have hfl : (f (X + 11 + 7) 2).toInt = (T.2.2.1.2.length : Nat) := by rw [hmo.1]; have := hmo.2.1; exact zi_n (by omega)
  have hcells : (f nq 1).toInt = (tbC T : Nat) := by rw [hcn.2.1]; exact zi_n (n := tbC T) (by omega)
  have hgs : (f nq 2).toInt = (tbG T : Nat) := by rw [hcn.2.2.1]; exact zi_n (n := tbG T) (by omega)
  have hlen : T.2.2.2.length = p0 := by rw [hpast, List.length_map, List.length_range]
  have hps := hctb.1
  refine r_iload1 dX11_undo_0 ?_
  refine n_iconst dX11_undo_1 (by decide) (fun r1 e1_z => ?_)
  refine t_iclt (t := 16) dX11_undo_2 (by decide) (fun h2 => ?_) (fun h2 => ?_)
  · refine r_throwW zth_IA (List.mem_of_getElem? (i := 11) rfl) dX11_undo_16 dX11_undo_19 dX11_undo_20 dX11_undo_23 dX11_undo_26 (Nat.le_of_ble_eq_true rfl) (Nat.le_of_ble_eq_true rfl) (Nat.le_of_ble_eq_true rfl) (Nat.le_of_ble_eq_true rfl) ?_
    exact hXIA (by omega)
  · refine r_iload1 dX11_undo_5 ?_
    refine r_aloadR0 dX11_undo_6 ?_
    refine m_getR (q := (X + 11)) zf_RX11_33 rfl dX11_undo_7 (shX_k (w := w) hx) (shX_p5 hx) ?_
    refine m_getV (x := (f (X + 11) 3)) zf_RX11_272 rfl dX11_undo_10 (shTb_k (shX_tb hx)) (rfl) ?_
    refine t_icle (t := 27) dX11_undo_13 (by decide) (fun h13 => ?_) (fun h13 => ?_)
    · refine r_aloadR0 dX11_undo_27 ?_
      refine m_getR (q := (X + 11)) zf_RX11_33 rfl dX11_undo_28 (shX_k (w := w) hx) (shX_p5 hx) ?_
      refine r_iload1 dX11_undo_31 ?_
      refine q_callV1 zm_RX11_277 dX11_undo_32 (shTb_k (shX_tb hx)) (by decide) rfl (Nat.le_of_ble_eq_true rfl) (Nat.le_of_ble_eq_true rfl) (Nat.le_of_ble_eq_true rfl) (Nat.le_of_ble_eq_true rfl) (Nat.le_of_ble_eq_true rfl) (s_X7_goBack (m := x.toInt.toNat) G (shX_tb hx) hpp hctb (by omega) (by omega) (by omega) (fun f2_z hof hct => ?_))
      have hps2 := hct.1
      refine r_aloadR0 dX11_undo_35 ?_
      refine m_getR (q := (X + 11)) zf_RX11_33 rfl dX11_undo_36 (shX_k (w := w) hx) (shX_p5 hx) ?_
      refine m_getV (x := (f2_z (X + 11) 3)) zf_RX11_272 rfl dX11_undo_39 (shTb_k (shX_tb hx)) (rfl) ?_
      refine r_iret dX11_undo_42 rfl (Nat.le_of_ble_eq_true rfl) (Nat.le_of_ble_eq_true rfl) ?_
      refine hQ (by omega) _ (zP w) f2_z (by omega) ⟨fun _ _ => rfl, fun q hq => hof q (by omega), nq, pp, g0, p0 - x.toInt.toNat, hnq, naAt_q hna1 (fun q hq => hof q (by unfold zoneX at hq; omega)), hpp, ?_, ?_, wfT_back hwf⟩
      · have hbk : (tbBack T x.toInt.toNat).2.2.1 = g0 (p0 - x.toInt.toNat) := by
          show (T.2.2.2[T.2.2.2.length - x.toInt.toNat]?).getD T.2.2.1 = _
          rw [hlen, hpast, List.getElem?_map, List.getElem?_range (by omega)]
          rfl
        rw [hbk]
        exact hct
      · show T.2.2.2.take (T.2.2.2.length - x.toInt.toNat) = _
        rw [hlen, hpast, ← List.map_take, List.take_range, Nat.min_eq_left (by omega)]
    · refine r_throwW zth_IA (List.mem_of_getElem? (i := 11) rfl) dX11_undo_16 dX11_undo_19 dX11_undo_20 dX11_undo_23 dX11_undo_26 (Nat.le_of_ble_eq_true rfl) (Nat.le_of_ble_eq_true rfl) (Nat.le_of_ble_eq_true rfl) (Nat.le_of_ble_eq_true rfl) ?_
      exact hXIA (by omega)
