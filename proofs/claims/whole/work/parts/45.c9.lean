/-! the class: amend; trays; judge, perform -/
theorem okD_ch {n d : Nat} {M : zMo} (h_z : okD n M d) (hw : wfMo n M) (hn : n ≤ 6) : d < 2600 ∧ (d < 1600 ∨ 2000 ≤ d ∧ d < 2600) ∧ (d < 1000 → d = 100 ∨ d = 200 ∨ d < 100 ∧ M.2.length < 5) := by
  have hnr := lay_narrow hw.1
  rw [lyFlat_len] at hnr
  have hw0 : (M.2.foldl (fun L d => lyFold L (d / 10) (d % 10)) (lyFlat n)).length = (layM n M.2).length := rfl
  unfold okD at h_z
  refine ⟨by omega, by omega, fun h1 => ?_⟩
  rcases h_z with e | e | ⟨e1_z, e2_z, e3_z, e4_z⟩ | e | e
  · exact Or.inl e
  · exact Or.inr (Or.inl e)
  · exact Or.inr (Or.inr ⟨e1_z, by omega⟩)
  · omega
  · omega
def judR (W : Int × Nat × zMo) (n : Nat) (y : Int) : Int := if y = 0 then (if W.1 = 0 then -1 else (W.2.1 : Nat) - 1) else if y = 1 then W.1 else if y = 2 then ((layM n W.2.2.2).length : Nat) else (W.2.2.2.length : Nat)
def perW : zTb → List Int → Nat → Nat × zTb
  | T, [], k => (k, T)
  | T, d :: l, k => if hinI (tbC T) T.2.2.1 d = 0 then perW (if d = -1 then T else tbDo T d.toNat) l (k + 1) else (k, T)
theorem drop_cons9 {α : Type} {l : List α} {k : Nat} {d : α} (h_z : l[k]? = some d) : l.drop k = d :: l.drop (k + 1) := by
  obtain ⟨h1, h2⟩ := List.getElem?_eq_some_iff.mp h_z
  rw [← h2]
  exact List.drop_eq_getElem_cons h1
set_option maxHeartbeats 4000000 in
set_option maxRecDepth 100000 in
theorem s_X11_amend {g : zGT} {w : zW} {f : Nat → Nat → Int32} {j : Nat → Nat → Int64} {X : Nat} {T : zTb} {x y z : Int32} {Q : Option Value → zW → Prop} {QX : String → zW → Prop} (G : zGok g) (hx : shX w X) (ht : tbAt w f X (X + 11) T) (hXNE : ¬ (0 ≤ x.toInt ∧ x.toInt < (tbC T : Nat)) → ∀ n, zS w ≤ n → QX "java/util/NoSuchElementException" (zsS (zM w f j) n)) (hXIA : (0 ≤ x.toInt ∧ x.toInt < (tbC T : Nat)) → ¬ ((0 ≤ y.toInt ∧ y.toInt ≤ 1) ∧ 0 ≤ z.toInt ∧ z.toInt ≤ 99) → ∀ n, zS w ≤ n → QX "java/lang/IllegalArgumentException" (zsS (zM w f j) n)) (hQ : (0 ≤ x.toInt ∧ x.toInt < (tbC T : Nat)) → ((0 ≤ y.toInt ∧ y.toInt ≤ 1) ∧ 0 ≤ z.toInt ∧ z.toInt ≤ 99) → ∀ (r : Int32) P2 f2_z, r.toInt = (T.2.2.1.1 (2 * x.toInt.toNat + y.toInt.toNat) : Nat) → stX w P2 f f2_z X (tbDo T (1000 + 1000 * y.toInt.toNat + 100 * x.toInt.toNat + z.toInt.toNat)) → Q (some (.int r)) (zM (zsP w P2) f2_z j)) : zC g 6 yX11_amend cX11_amend 5 (some .int) [.ref X, .int x, .int y, .int z] (zM w f j) (1, 6) Q QX := by
  refine zC_of G (by decide +kernel) (Nat.le_of_ble_eq_true rfl) ?_
  have ht0 := ht
  obtain ⟨nq, pp, g0, p0, hnq, hna0, hpp, hctb, hpast, hwf⟩ := ht0
  have hna1 := hna0
  obtain ⟨hna, hcn, ⟨hz1, hz2, hz3⟩, hl1, hl2, hl3⟩ := hna0
  have hmo := hctb.2.2.1
  have hn6 : tbC T ≤ 6 := hwf.2.1
  have hg4 : tbG T ≤ 4 := hwf.2.2.1
  have hwm := hwf.2.2.2.2.2.2.2.1
  have hrt := wfT_rch hwf
  have hfl : (f (X + 11 + 7) 2).toInt = (T.2.2.1.2.length : Nat) := by rw [hmo.1]; have := hmo.2.1; exact zi_n (by omega)
  have hcells : (f nq 1).toInt = (tbC T : Nat) := by rw [hcn.2.1]; exact zi_n (n := tbC T) (by omega)
  have hgs : (f nq 2).toInt = (tbG T : Nat) := by rw [hcn.2.2.1]; exact zi_n (n := tbG T) (by omega)
  have hcl := rch_cell hrt
  refine r_aloadR0 dX11_amend_0 ?_
  refine r_iload1 dX11_amend_1 ?_
  refine n_i2l dX11_amend_2 (fun r2 e2_z => ?_)
  refine q_callV1 zm_RX11_123 dX11_amend_3 (shX_k (w := w) hx) (by decide) rfl (Nat.le_of_ble_eq_true rfl) (Nat.le_of_ble_eq_true rfl) (Nat.le_of_ble_eq_true rfl) (Nat.le_of_ble_eq_true rfl) (Nat.le_of_ble_eq_true rfl) (s_X11_isCell G hx ht  (fun r3 e3_z => ?_))
  refine t_ifne (t := 19) dX11_amend_6 (by decide) (fun h6 => ?_) (fun h6 => ?_)
  · refine r_iload2 dX11_amend_19 ?_
    refine t_iflt (t := 38) dX11_amend_20 (by decide) (fun h20 => ?_) (fun h20 => ?_)
    · refine r_throwW zth_IA (List.mem_of_getElem? (i := 10) rfl) dX11_amend_38 dX11_amend_41 dX11_amend_42 dX11_amend_45 dX11_amend_48 (Nat.le_of_ble_eq_true rfl) (Nat.le_of_ble_eq_true rfl) (Nat.le_of_ble_eq_true rfl) (Nat.le_of_ble_eq_true rfl) ?_
      exact hXIA (by omega) (by omega)
    · refine r_iload2 dX11_amend_23 ?_
      refine n_iconst dX11_amend_24 (by decide) (fun r24 e24_z => ?_)
      refine t_icgt (t := 38) dX11_amend_25 (by decide) (fun h25 => ?_) (fun h25 => ?_)
      · refine r_throwW zth_IA (List.mem_of_getElem? (i := 10) rfl) dX11_amend_38 dX11_amend_41 dX11_amend_42 dX11_amend_45 dX11_amend_48 (Nat.le_of_ble_eq_true rfl) (Nat.le_of_ble_eq_true rfl) (Nat.le_of_ble_eq_true rfl) (Nat.le_of_ble_eq_true rfl) ?_
        exact hXIA (by omega) (by omega)
      · refine r_iload3 dX11_amend_28 ?_
        refine t_iflt (t := 38) dX11_amend_29 (by decide) (fun h29 => ?_) (fun h29 => ?_)
        · refine r_throwW zth_IA (List.mem_of_getElem? (i := 10) rfl) dX11_amend_38 dX11_amend_41 dX11_amend_42 dX11_amend_45 dX11_amend_48 (Nat.le_of_ble_eq_true rfl) (Nat.le_of_ble_eq_true rfl) (Nat.le_of_ble_eq_true rfl) (Nat.le_of_ble_eq_true rfl) ?_
          exact hXIA (by omega) (by omega)
        · refine r_iload3 dX11_amend_32 ?_
          refine n_bipush dX11_amend_33 (by decide) (fun r33 e33_z => ?_)
          refine t_icle (t := 49) dX11_amend_35 (by decide) (fun h35 => ?_) (fun h35 => ?_)
          · refine r_aloadR0 dX11_amend_49 ?_
            refine m_getR (q := (X + 11)) zf_RX11_33 rfl dX11_amend_50 (shX_k (w := w) hx) (shX_p5 hx) ?_
            refine m_getR (q := ((X + 11) + 7)) zf_RX11_138 rfl dX11_amend_53 (shTb_k (shX_tb hx)) (shTb_p1 (shX_tb hx)) ?_
            refine r_iload1 dX11_amend_56 ?_
            refine r_iload2 dX11_amend_57 ?_
            refine q_callV2 zm_RX11_141 dX11_amend_58 (shMo_k (shTb_mo (shX_tb hx))) (by decide) rfl (Nat.le_of_ble_eq_true rfl) (Nat.le_of_ble_eq_true rfl) (Nat.le_of_ble_eq_true rfl) (Nat.le_of_ble_eq_true rfl) (Nat.le_of_ble_eq_true rfl) (s_X3_markOf (w := zM w f j) (M := T.2.2.1) (c := x.toInt.toNat) (e := y.toInt.toNat) G (shTb_mo (shX_tb hx)) hmo (by omega) (by omega) (zi_of (by omega) (by omega)) (zi_of (by omega) (by omega)) ?_)
            have hmv : (nI (T.2.2.1.1 (2 * x.toInt.toNat + y.toInt.toNat))).toInt = (T.2.2.1.1 (2 * x.toInt.toNat + y.toInt.toNat) : Nat) := zi_n (by have := hwm.2.2 (2 * x.toInt.toNat + y.toInt.toNat); omega)
            refine r_istore4 dX11_amend_61 rfl ?_
            refine r_aloadR0 dX11_amend_63 ?_
            refine r_iload2 dX11_amend_64 ?_
            refine t_ifne (t := 74) dX11_amend_65 (by decide) (fun h65 => ?_) (fun h65 => ?_)
            · refine n_sipush dX11_amend_74 (by decide) (fun r74 e74_z => ?_)
              refine n_bipush dX11_amend_77 (by decide) (fun r77 e77 => ?_)
              refine r_iload1 dX11_amend_79 ?_
              refine n_imulc dX11_amend_80 e77 (by omega) (fun r80 e80 => ?_)
              refine n_iadd dX11_amend_81 (by omega) (fun r81 e81 => ?_)
              refine r_iload3 dX11_amend_82 ?_
              refine n_iadd dX11_amend_83 (by omega) (fun r83 e83 => ?_)
              have hdd : r83.toInt.toNat = 1000 + 1000 * y.toInt.toNat + 100 * x.toInt.toNat + z.toInt.toNat := by omega
              refine q_callV1 zm_RX11_264 dX11_amend_84 (shX_k (w := w) hx) (by decide) rfl (Nat.le_of_ble_eq_true rfl) (Nat.le_of_ble_eq_true rfl) (Nat.le_of_ble_eq_true rfl) (Nat.le_of_ble_eq_true rfl) (Nat.le_of_ble_eq_true rfl) (s_X11_doDeed G hx ht (by omega) (by rw [hdd]; unfold okD; omega) (fun P2 f2_z hst => ?_))
              rw [hdd] at hst
              refine r_iload4 dX11_amend_87 ?_
              refine r_iret dX11_amend_89 rfl (Nat.le_of_ble_eq_true rfl) (Nat.le_of_ble_eq_true rfl) ?_
              exact hQ (by omega) (by omega) _ P2 f2_z hmv hst
            · refine n_sipush dX11_amend_68 (by decide) (fun r68 e68 => ?_)
              refine r_goto (t := 77) dX11_amend_71 (by decide) ?_
              refine n_bipush dX11_amend_77 (by decide) (fun r77 e77 => ?_)
              refine r_iload1 dX11_amend_79 ?_
              refine n_imulc dX11_amend_80 e77 (by omega) (fun r80 e80 => ?_)
              refine n_iadd dX11_amend_81 (by omega) (fun r81 e81 => ?_)
              refine r_iload3 dX11_amend_82 ?_
              refine n_iadd dX11_amend_83 (by omega) (fun r83 e83 => ?_)
              have hdd : r83.toInt.toNat = 1000 + 1000 * y.toInt.toNat + 100 * x.toInt.toNat + z.toInt.toNat := by omega
              refine q_callV1 zm_RX11_264 dX11_amend_84 (shX_k (w := w) hx) (by decide) rfl (Nat.le_of_ble_eq_true rfl) (Nat.le_of_ble_eq_true rfl) (Nat.le_of_ble_eq_true rfl) (Nat.le_of_ble_eq_true rfl) (Nat.le_of_ble_eq_true rfl) (s_X11_doDeed G hx ht (by omega) (by rw [hdd]; unfold okD; omega) (fun P2 f2_z hst => ?_))
              rw [hdd] at hst
              refine r_iload4 dX11_amend_87 ?_
              refine r_iret dX11_amend_89 rfl (Nat.le_of_ble_eq_true rfl) (Nat.le_of_ble_eq_true rfl) ?_
              exact hQ (by omega) (by omega) _ P2 f2_z hmv hst
          · refine r_throwW zth_IA (List.mem_of_getElem? (i := 10) rfl) dX11_amend_38 dX11_amend_41 dX11_amend_42 dX11_amend_45 dX11_amend_48 (Nat.le_of_ble_eq_true rfl) (Nat.le_of_ble_eq_true rfl) (Nat.le_of_ble_eq_true rfl) (Nat.le_of_ble_eq_true rfl) ?_
            exact hXIA (by omega) (by omega)
  · refine r_throwNE (List.mem_of_getElem? (i := 2) rfl) dX11_amend_9 dX11_amend_12 dX11_amend_13 dX11_amend_15 dX11_amend_18 (Nat.le_of_ble_eq_true rfl) (Nat.le_of_ble_eq_true rfl) (Nat.le_of_ble_eq_true rfl) (Nat.le_of_ble_eq_true rfl) ?_
    exact hXNE (by omega)
set_option maxHeartbeats 4000000 in
set_option maxRecDepth 100000 in
theorem s_X11_tryDeed {g : zGT} {w : zW} {f : Nat → Nat → Int32} {j : Nat → Nat → Int64} {X : Nat} {T : zTb} {M : zMo} {d : Int64} {Q : Option Value → zW → Prop} {QX : String → zW → Prop} (G : zGok g) (hx : shX w X) (ht : tbAt w f X (X + 11) T) (hmt : ctMo f (X + 101) M) (hwt : wfMo (tbC T) M) (hQ : ∀ (r : Int32) f2_z, r.toInt = hinI (tbC T) M d.toInt → ofR f f2_z (X + 101) 3 → ctMo f2_z (X + 101) (if hinI (tbC T) M d.toInt = 0 ∧ d.toInt ≠ -1 then moDo M d.toInt.toNat else M) → Q (some (.int r)) (zM w f2_z j)) : zC g 4 yX11_tryDeed cX11_tryDeed 4 (some .int) [.ref X, .long d] (zM w f j) (0, 0) Q QX := by
  refine zC_of G (by decide +kernel) (Nat.le_of_ble_eq_true rfl) ?_
  have ht0 := ht
  obtain ⟨nq, pp, g0, p0, hnq, hna0, hpp, hctb, hpast, hwf⟩ := ht0
  have hna1 := hna0
  obtain ⟨hna, hcn, ⟨hz1, hz2, hz3⟩, hl1, hl2, hl3⟩ := hna0
  have hmo := hctb.2.2.1
  have hn6 : tbC T ≤ 6 := hwf.2.1
  have hg4 : tbG T ≤ 4 := hwf.2.2.1
  have hwm := hwf.2.2.2.2.2.2.2.1
  have hrt := wfT_rch hwf
  have hfl : (f (X + 11 + 7) 2).toInt = (T.2.2.1.2.length : Nat) := by rw [hmo.1]; have := hmo.2.1; exact zi_n (by omega)
  have hcells : (f nq 1).toInt = (tbC T : Nat) := by rw [hcn.2.1]; exact zi_n (n := tbC T) (by omega)
  have hgs : (f nq 2).toInt = (tbG T : Nat) := by rw [hcn.2.2.1]; exact zi_n (n := tbG T) (by omega)
  refine r_aloadR0 dX11_tryDeed_0 ?_
  refine r_aloadR0 dX11_tryDeed_1 ?_
  refine m_getR (q := (X + 101)) zf_RX11_77 rfl dX11_tryDeed_2 (shX_k (w := w) hx) (shX_p14 hx) ?_
  refine r_lload1 dX11_tryDeed_5 ?_
  refine q_callV2 zm_RX11_300 dX11_tryDeed_6 (shX_k (w := w) hx) (by decide) rfl (Nat.le_of_ble_eq_true rfl) (Nat.le_of_ble_eq_true rfl) (Nat.le_of_ble_eq_true rfl) (Nat.le_of_ble_eq_true rfl) (Nat.le_of_ble_eq_true rfl) (s_X11_hindrance (M := M) G hx ht (shX_tr hx) hmt hwt (fun r6 e6_z => ?_))
  refine r_istore3 dX11_tryDeed_9 rfl ?_
  refine r_iload3 dX11_tryDeed_10 ?_
  refine t_ifne (t := 31) dX11_tryDeed_11 (by decide) (fun h11 => ?_) (fun h11 => ?_)
  · refine r_iload3 dX11_tryDeed_31 ?_
    refine r_iret dX11_tryDeed_32 rfl (Nat.le_of_ble_eq_true rfl) (Nat.le_of_ble_eq_true rfl) ?_
    refine hQ _ f e6_z ofR_rf ?_
    rw [if_neg (by omega)]
    exact hmt
  · refine r_lload1 dX11_tryDeed_14 ?_
    refine n_ldc2 (n := -1) zk_RX11_304 dX11_tryDeed_15 (by decide) (fun r15 e15_z => ?_)
    refine n_lcmp dX11_tryDeed_18 (fun r18 e18_z => ?_)
    unfold zcmp at e18_z
    refine t_ifeq (t := 31) dX11_tryDeed_19 (by decide) (fun h19 => ?_) (fun h19 => ?_)
    · refine r_iload3 dX11_tryDeed_31 ?_
      refine r_iret dX11_tryDeed_32 rfl (Nat.le_of_ble_eq_true rfl) (Nat.le_of_ble_eq_true rfl) ?_
      refine hQ _ f e6_z ofR_rf ?_
      rw [if_neg (by omega)]
      exact hmt
    · have hok := hinI_ok (n := tbC T) (M := M) (d := d.toInt) (by omega) (by omega) hn6
      have hch := okD_ch hok.2 hwt hn6
      have hd9 : d.toInt < 2600 := by have := hch.1; omega
      refine r_aloadR0 dX11_tryDeed_22 ?_
      refine m_getR (q := (X + 101)) zf_RX11_77 rfl dX11_tryDeed_23 (shX_k (w := w) hx) (shX_p14 hx) ?_
      refine r_lload1 dX11_tryDeed_26 ?_
      refine n_l2i dX11_tryDeed_27 (by omega) (fun r27 e27_z => ?_)
      refine q_callV1 zm_RX11_306 dX11_tryDeed_28 (shMo_k (shX_tr hx)) (by decide) rfl (Nat.le_of_ble_eq_true rfl) (Nat.le_of_ble_eq_true rfl) (Nat.le_of_ble_eq_true rfl) (Nat.le_of_ble_eq_true rfl) (Nat.le_of_ble_eq_true rfl) (s_X3_change (w := zM w f j) (M := M) (d := d.toInt.toNat) G (shX_tr hx) hmt (zi_of (by omega) (by omega)) hch.2.1 hch.2.2 (fun f2_z ho hc2 => ?_))
      show zR _ _ _ _ _ _ (zM w f2_z j) _
      refine r_iload3 dX11_tryDeed_31 ?_
      refine r_iret dX11_tryDeed_32 rfl (Nat.le_of_ble_eq_true rfl) (Nat.le_of_ble_eq_true rfl) ?_
      refine hQ _ f2_z e6_z ho ?_
      rw [if_pos ⟨by omega, by omega⟩]
      exact hc2
set_option maxHeartbeats 4000000 in
set_option maxRecDepth 100000 in
theorem s_X11_trayAt {g : zGT} {w : zW} {f : Nat → Nat → Int32} {j : Nat → Nat → Int64} {X : Nat} {x : Int32} {Q : Option Value → zW → Prop} {QX : String → zW → Prop} (G : zGok g) (hx : shX w X) (hXNE : ¬ (0 ≤ x.toInt ∧ x.toInt < 4) → ∀ n, zS w ≤ n → QX "java/util/NoSuchElementException" (zsS (zM w f j) n)) (hQ : (0 ≤ x.toInt ∧ x.toInt < 4) → Q (some (.ref (X + 231 + 2 * x.toInt.toNat))) (zM w f j)) : zC g 6 yX11_trayAt cX11_trayAt 2 (some (.object "NapkinDeeds$Tray")) [.ref X, .int x] (zM w f j) (1, 6) Q QX := by
  refine zC_of G (by decide +kernel) (Nat.le_of_ble_eq_true rfl) ?_
  have hxx : x.toInt.toNat < 4 → x.toInt.toNat < 4 := id
  refine r_iload1 dX11_trayAt_0 ?_
  refine t_iflt (t := 22) dX11_trayAt_1 (by decide) (fun h1 => ?_) (fun h1 => ?_)
  · refine r_throwWNE (List.mem_of_getElem? (i := 12) rfl) dX11_trayAt_22 dX11_trayAt_25 dX11_trayAt_26 dX11_trayAt_29 dX11_trayAt_32 (Nat.le_of_ble_eq_true rfl) (Nat.le_of_ble_eq_true rfl) (Nat.le_of_ble_eq_true rfl) (Nat.le_of_ble_eq_true rfl) ?_
    exact hXNE (by omega)
  · refine r_iload1 dX11_trayAt_4 ?_
    refine r_aloadR0 dX11_trayAt_5 ?_
    refine m_getR (q := (X + 53)) zf_RX11_43 rfl dX11_trayAt_6 (shX_k (w := w) hx) (shX_p8 hx) ?_
    refine m_alen dX11_trayAt_9 (zge (shX_k54 hx) (by decide)) (shX_n54 hx) (by first | decide | omega) (fun r9 e9_z => ?_)
    refine t_icge (t := 22) dX11_trayAt_10 (by decide) (fun h10 => ?_) (fun h10 => ?_)
    · refine r_throwWNE (List.mem_of_getElem? (i := 12) rfl) dX11_trayAt_22 dX11_trayAt_25 dX11_trayAt_26 dX11_trayAt_29 dX11_trayAt_32 (Nat.le_of_ble_eq_true rfl) (Nat.le_of_ble_eq_true rfl) (Nat.le_of_ble_eq_true rfl) (Nat.le_of_ble_eq_true rfl) ?_
      exact hXNE (by omega)
    · refine r_aloadR0 dX11_trayAt_13 ?_
      have hxk : x.toInt.toNat < 4 := by omega
      refine m_getR (q := (X + 53)) zf_RX11_43 rfl dX11_trayAt_14 (shX_k (w := w) hx) (shX_p8 hx) ?_
      refine r_iload1 dX11_trayAt_17 ?_
      refine m_aald (ci := 7) (k := x.toInt.toNat) (q := (X + 231 + 2 * x.toInt.toNat)) dX11_trayAt_18 (shX_k54 hx) (shX_n54 hx) (by omega) (by omega) ((shX_ty hx hxk).2) ?_
      refine r_ifnonnull (r := some (X + 231 + 2 * x.toInt.toNat)) (t := 33) dX11_trayAt_19 (by decide) (fun q19 h19 => ?_) (fun h19 => False.elim (absurd h19 (fun h9 => by cases h9)))
      refine r_aloadR0 dX11_trayAt_33 ?_
      refine m_getR (q := (X + 53)) zf_RX11_43 rfl dX11_trayAt_34 (shX_k (w := w) hx) (shX_p8 hx) ?_
      refine r_iload1 dX11_trayAt_37 ?_
      refine m_aald (ci := 7) (k := x.toInt.toNat) (q := (X + 231 + 2 * x.toInt.toNat)) dX11_trayAt_38 (shX_k54 hx) (shX_n54 hx) (by omega) (by omega) ((shX_ty hx hxk).2) ?_
      refine r_aret dX11_trayAt_39 rfl (by first | exact Or.inl ⟨_, rfl⟩ | exact Or.inr ⟨_, rfl⟩) (by first | exact zrf_r | exact zrf_o | exact zrf_n) (Nat.le_of_ble_eq_true rfl) (Nat.le_of_ble_eq_true rfl) ?_
      exact hQ (by omega)
set_option maxHeartbeats 4000000 in
set_option maxRecDepth 100000 in
theorem s_X11_trayThere {g : zGT} {w : zW} {f : Nat → Nat → Int32} {j : Nat → Nat → Int64} {X : Nat} {x : Int32} {ty : Nat → zTy} {Q : Option Value → zW → Prop} {QX : String → zW → Prop} (G : zGok g) (hx : shX w X) (hty : ∀ i, i < 4 → ctTr f j (X + 231 + 2 * i) (ty i)) (hXNE : ¬ (0 ≤ x.toInt ∧ x.toInt < 4) → ∀ n, zS w ≤ n → QX "java/util/NoSuchElementException" (zsS (zM w f j) n)) (hXIS : (0 ≤ x.toInt ∧ x.toInt < 4) → ty x.toInt.toNat = none → ∀ n, zS w ≤ n → QX "java/lang/IllegalStateException" (zsS (zM w f j) n)) (hQ : (0 ≤ x.toInt ∧ x.toInt < 4) → ∀ s l, ty x.toInt.toNat = some (s, l) → Q (some (.ref (X + 231 + 2 * x.toInt.toNat))) (zM w f j)) : zC g 7 yX11_trayThere cX11_trayThere 3 (some (.object "NapkinDeeds$Tray")) [.ref X, .int x] (zM w f j) (2, 12) Q QX := by
  refine zC_of G (by decide +kernel) (Nat.le_of_ble_eq_true rfl) ?_
  refine r_aloadR0 dX11_trayThere_0 ?_
  refine r_iload1 dX11_trayThere_1 ?_
  refine q_callV1 zm_RX11_508 dX11_trayThere_2 (shX_k (w := w) hx) (by decide) rfl (Nat.le_of_ble_eq_true rfl) (Nat.le_of_ble_eq_true rfl) (Nat.le_of_ble_eq_true rfl) (Nat.le_of_ble_eq_true rfl) (Nat.le_of_ble_eq_true rfl) (s_X11_trayAt G hx (fun hxx n hn => x_out (hXNE hxx n hn) (Nat.le_of_ble_eq_true rfl) (Nat.le_of_ble_eq_true rfl)) (fun hok => ?_))
  have hxk : x.toInt.toNat < 4 := by omega
  have hct := hty _ hxk
  refine r_astore2 dX11_trayThere_5 rfl ?_
  refine r_aloadR2 dX11_trayThere_6 ?_
  cases hcs : ty x.toInt.toNat with
  | none =>
    rw [hcs] at hct
    have hmi : (f (X + 231 + 2 * x.toInt.toNat) 3).toInt = 1 := hct.1
    refine m_getV (x := (f (X + 231 + 2 * x.toInt.toNat) 3)) zf_RX11_546 rfl dX11_trayThere_7 (shTr_k (w := w) (shX_ty hx hxk).1) (rfl) ?_
    refine t_ifeq (t := 24) dX11_trayThere_10 (by decide) (fun h10 => False.elim (by omega)) (fun h10 => ?_)
    refine r_throwW zth_IS (List.mem_of_getElem? (i := 13) rfl) dX11_trayThere_13 dX11_trayThere_16 dX11_trayThere_17 dX11_trayThere_20 dX11_trayThere_23 (Nat.le_of_ble_eq_true rfl) (Nat.le_of_ble_eq_true rfl) (Nat.le_of_ble_eq_true rfl) (Nat.le_of_ble_eq_true rfl) ?_
    exact hXIS hok hcs
  | some sl =>
    obtain ⟨s, l⟩ := sl
    rw [hcs] at hct
    have hmi : (f (X + 231 + 2 * x.toInt.toNat) 3).toInt = 0 := hct.1
    refine m_getV (x := (f (X + 231 + 2 * x.toInt.toNat) 3)) zf_RX11_546 rfl dX11_trayThere_7 (shTr_k (w := w) (shX_ty hx hxk).1) (rfl) ?_
    refine t_ifeq (t := 24) dX11_trayThere_10 (by decide) (fun h10 => ?_) (fun h10 => False.elim (by omega))
    refine r_aloadR2 dX11_trayThere_24 ?_
    refine r_aret dX11_trayThere_25 rfl (by first | exact Or.inl ⟨_, rfl⟩ | exact Or.inr ⟨_, rfl⟩) (by first | exact zrf_r | exact zrf_o | exact zrf_n) (Nat.le_of_ble_eq_true rfl) (Nat.le_of_ble_eq_true rfl) ?_
    exact hQ hok s l hcs
