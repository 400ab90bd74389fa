/-! the class: what is told of a cell; looks and trays -/
def celI (T : zTb) (c : Nat) (y : Int) : Int := if y = 0 then (T.2.2.1.1 (2 * c) : Nat) else if y = 1 then (T.2.2.1.1 (2 * c + 1) : Nat) else if y = 2 then lyColOf (tbL T) (c : Nat) else if y = 3 then lyPlace (tbL T) (c : Nat) - (zst (tbL T) (lyColOf (tbL T) (c : Nat)) : Nat) else if lyUpAt (tbL T) (lyPlace (tbL T) (c : Nat)) = true then 1 else 0
theorem ly_place {n : Nat} {L : zLy} (h_z : rch n L) {c : Nat} (hc_z : c < n) : ∃ (i : Nat) (p : Nat × Bool), lyPlace L (c : Nat) = (i : Nat) ∧ L.flatten[i]? = some p ∧ i < n ∧ lyUpAt L (lyPlace L (c : Nat)) = p.2 := by
  have hcell := rch_cell h_z
  have h0 := hcell.2.2.1 c hc_z
  rcases lyPl_spec (M := L.flatten) (c := (c : Nat)) (k := 0) with e | ⟨i, p, h1, h2, h3⟩
  · unfold lyPlace at h0
    omega
  · have h4 : lyPlace L (c : Nat) = (i : Nat) := by unfold lyPlace; rw [h1]; omega
    refine ⟨i, p, h4, h2, by have := (List.getElem?_eq_some_iff.mp h2).1; omega, ?_⟩
    rw [h4]
    unfold lyUpAt
    rw [Int.toNat_natCast, h2]
set_option maxHeartbeats 4000000 in
set_option maxRecDepth 100000 in
theorem s_X11_cell {g : zGT} {w : zW} {f : Nat → Nat → Int32} {j : Nat → Nat → Int64} {X : Nat} {T : zTb} {x y : Int32} {Q : Option Value → zW → Prop} {QX : String → zW → Prop} (G : zGok g) (hx : shX w X) (ht : tbAt w f X (X + 11) T) (hXNE : ¬ (0 ≤ x.toInt ∧ x.toInt < (tbC T : Nat)) → ∀ n, zS w ≤ n → QX "java/util/NoSuchElementException" (zsS (zM w f j) n)) (hXIA : (0 ≤ x.toInt ∧ x.toInt < (tbC T : Nat)) → ¬ (0 ≤ y.toInt ∧ y.toInt ≤ 4) → ∀ n, zS w ≤ n → QX "java/lang/IllegalArgumentException" (zsS (zM w f j) n)) (hQ : (0 ≤ x.toInt ∧ x.toInt < (tbC T : Nat)) → (0 ≤ y.toInt ∧ y.toInt ≤ 4) → ∀ (r : Int32) f2_z, r.toInt = celI T x.toInt.toNat y.toInt → qX X f f2_z → Q (some (.int r)) (zM w f2_z j)) : zC g 7 yX11_cell cX11_cell 4 (some .int) [.ref X, .int x, .int y] (zM w f j) (1, 6) Q QX := by
  refine zC_of G (by decide +kernel) (Nat.le_of_ble_eq_true rfl) ?_
  have ht0 := ht
  obtain ⟨nq, pp, g0, p0, hnq, hna0, hpp, hctb, hpast, hwf⟩ := ht0
  have hna1 := hna0
  obtain ⟨hna, hcn, ⟨hz1, hz2, hz3⟩, hl1, hl2, hl3⟩ := hna0
  have hmo := hctb.2.2.1
  have hn6 : tbC T ≤ 6 := hwf.2.1
  have hg4 : tbG T ≤ 4 := hwf.2.2.1
  have hwm := hwf.2.2.2.2.2.2.2.1
  have hrt := wfT_rch hwf
  have hfl : (f (X + 11 + 7) 2).toInt = (T.2.2.1.2.length : Nat) := by rw [hmo.1]; have := hmo.2.1; exact zi_n (by omega)
  have hcells : (f nq 1).toInt = (tbC T : Nat) := by rw [hcn.2.1]; exact zi_n (n := tbC T) (by omega)
  have hgs : (f nq 2).toInt = (tbG T : Nat) := by rw [hcn.2.2.1]; exact zi_n (n := tbG T) (by omega)
  have hcell := rch_cell hrt
  have hxn : x.toInt = (x.toInt.toNat : Nat) ∨ x.toInt < 0 := by omega
  refine r_aloadR0 dX11_cell_0 ?_
  refine r_iload1 dX11_cell_1 ?_
  refine n_i2l dX11_cell_2 (fun r2 e2_z => ?_)
  refine q_callV1 zm_RX11_123 dX11_cell_3 (shX_k (w := w) hx) (by decide) rfl (Nat.le_of_ble_eq_true rfl) (Nat.le_of_ble_eq_true rfl) (Nat.le_of_ble_eq_true rfl) (Nat.le_of_ble_eq_true rfl) (Nat.le_of_ble_eq_true rfl) (s_X11_isCell G hx ht  (fun r3 e3_z => ?_))
  refine t_ifne (t := 19) dX11_cell_6 (by decide) (fun h6 => ?_) (fun h6 => ?_)
  · refine r_iload2 dX11_cell_19 ?_
    refine t_iflt (t := 28) dX11_cell_20 (by decide) (fun h20 => ?_) (fun h20 => ?_)
    · refine r_throw zth_IA (List.mem_of_getElem? (i := 3) rfl) dX11_cell_28 dX11_cell_31 dX11_cell_32 dX11_cell_34 dX11_cell_37 (Nat.le_of_ble_eq_true rfl) (Nat.le_of_ble_eq_true rfl) (Nat.le_of_ble_eq_true rfl) (Nat.le_of_ble_eq_true rfl) ?_
      exact hXIA (by omega) (by omega)
    · refine r_iload2 dX11_cell_23 ?_
      refine n_iconst dX11_cell_24 (by decide) (fun r24 e24_z => ?_)
      refine t_icle (t := 38) dX11_cell_25 (by decide) (fun h25 => ?_) (fun h25 => ?_)
      · refine r_aloadR0 dX11_cell_38 ?_
        refine q_callV0 zm_RX11_134 dX11_cell_39 (shX_k (w := w) hx) (by decide) rfl (Nat.le_of_ble_eq_true rfl) (Nat.le_of_ble_eq_true rfl) (Nat.le_of_ble_eq_true rfl) (Nat.le_of_ble_eq_true rfl) (Nat.le_of_ble_eq_true rfl) (s_X11_layNow G hx ht (fun f1_z ho1 hla => ?_))
        have hmo1 : ctMo f1_z (X + 11 + 7) T.2.2.1 := ctMo_R hmo ho1 (by omega)
        have hq1 : qX X f f1_z := qX_S (frS_R ho1 (by omega))
        have hxk : x.toInt = (x.toInt.toNat : Nat) := by omega
        obtain ⟨il, pl, hpl, hfl9, hiln, hup⟩ := ly_place hrt (c := x.toInt.toNat) (by omega)
        refine r_astore3 dX11_cell_42 rfl ?_
        refine r_iload2 dX11_cell_43 ?_
        refine n_tabC (k := 0) (t := 76) dX11_cell_44 (by decide) rfl (by decide) (fun h44_0 => ?_) (fun h44_0 => ?_)
        · refine r_aloadR0 dX11_cell_76 ?_
          refine m_getR (q := (X + 11)) zf_RX11_33 rfl dX11_cell_77 (shX_k (w := w) hx) (shX_p5 hx) ?_
          refine m_getR (q := ((X + 11) + 7)) zf_RX11_138 rfl dX11_cell_80 (shTb_k (shX_tb hx)) (shTb_p1 (shX_tb hx)) ?_
          refine r_iload1 dX11_cell_83 ?_
          refine n_iconst dX11_cell_84 (by decide) (fun r84 e84 => ?_)
          refine q_callV2 zm_RX11_141 dX11_cell_85 (shMo_k (shTb_mo (shX_tb hx))) (by decide) rfl (Nat.le_of_ble_eq_true rfl) (Nat.le_of_ble_eq_true rfl) (Nat.le_of_ble_eq_true rfl) (Nat.le_of_ble_eq_true rfl) (Nat.le_of_ble_eq_true rfl) (s_X3_markOf (w := zM w f1_z j) (M := T.2.2.1) (c := x.toInt.toNat) (e := 0) G (shTb_mo (shX_tb hx)) hmo1 (by omega) (by omega) (zi_of (by omega) (by omega)) (zi_of (by omega) (by omega)) ?_)
          have hmv : (nI (T.2.2.1.1 (2 * x.toInt.toNat + 0))).toInt = (T.2.2.1.1 (2 * x.toInt.toNat + 0) : Nat) := zi_n (by have := hwm.2.2 (2 * x.toInt.toNat + 0); omega)
          refine r_iret dX11_cell_88 rfl (Nat.le_of_ble_eq_true rfl) (Nat.le_of_ble_eq_true rfl) ?_
          refine hQ (by omega) (by omega) _ f1_z ?_ hq1
          unfold celI
          rw [if_pos (by omega)]
          exact hmv
        refine n_tabC (k := 1) (t := 89) dX11_cell_44 (by decide) rfl (by decide) (fun h44_1 => ?_) (fun h44_1 => ?_)
        · refine r_aloadR0 dX11_cell_89 ?_
          refine m_getR (q := (X + 11)) zf_RX11_33 rfl dX11_cell_90 (shX_k (w := w) hx) (shX_p5 hx) ?_
          refine m_getR (q := ((X + 11) + 7)) zf_RX11_138 rfl dX11_cell_93 (shTb_k (shX_tb hx)) (shTb_p1 (shX_tb hx)) ?_
          refine r_iload1 dX11_cell_96 ?_
          refine n_iconst dX11_cell_97 (by decide) (fun r97 e97_z => ?_)
          refine q_callV2 zm_RX11_141 dX11_cell_98 (shMo_k (shTb_mo (shX_tb hx))) (by decide) rfl (Nat.le_of_ble_eq_true rfl) (Nat.le_of_ble_eq_true rfl) (Nat.le_of_ble_eq_true rfl) (Nat.le_of_ble_eq_true rfl) (Nat.le_of_ble_eq_true rfl) (s_X3_markOf (w := zM w f1_z j) (M := T.2.2.1) (c := x.toInt.toNat) (e := 1) G (shTb_mo (shX_tb hx)) hmo1 (by omega) (by omega) (zi_of (by omega) (by omega)) (zi_of (by omega) (by omega)) ?_)
          have hmv : (nI (T.2.2.1.1 (2 * x.toInt.toNat + 1))).toInt = (T.2.2.1.1 (2 * x.toInt.toNat + 1) : Nat) := zi_n (by have := hwm.2.2 (2 * x.toInt.toNat + 1); omega)
          refine r_iret dX11_cell_101 rfl (Nat.le_of_ble_eq_true rfl) (Nat.le_of_ble_eq_true rfl) ?_
          refine hQ (by omega) (by omega) _ f1_z ?_ hq1
          unfold celI
          rw [if_neg (by omega), if_pos (by omega)]
          exact hmv
        refine n_tabC (k := 2) (t := 102) dX11_cell_44 (by decide) rfl (by decide) (fun h44_2 => ?_) (fun h44_2 => ?_)
        · refine r_aloadR3 dX11_cell_102 ?_
          refine r_iload1 dX11_cell_103 ?_
          refine q_callV1 zm_RX11_145 dX11_cell_104 (shLay_k (shX_ly hx)) (by decide) rfl (Nat.le_of_ble_eq_true rfl) (Nat.le_of_ble_eq_true rfl) (Nat.le_of_ble_eq_true rfl) (Nat.le_of_ble_eq_true rfl) (Nat.le_of_ble_eq_true rfl) (s_X2_columnOf (w := zM w f1_z j) G (shX_ly hx) hla (rch_bd hrt) (fun r104 e104_z => ?_))
          rw [hxk] at e104_z
          refine r_iret dX11_cell_107 rfl (Nat.le_of_ble_eq_true rfl) (Nat.le_of_ble_eq_true rfl) ?_
          refine hQ (by omega) (by omega) _ f1_z ?_ hq1
          unfold celI
          rw [if_neg (by omega), if_neg (by omega), if_pos (by omega)]
          exact e104_z
        refine n_tabC (k := 3) (t := 108) dX11_cell_44 (by decide) rfl (by decide) (fun h44_3 => ?_) (fun h44_3 => ?_)
        · refine r_aloadR3 dX11_cell_108 ?_
          refine r_iload1 dX11_cell_109 ?_
          refine q_callV1 zm_RX11_149 dX11_cell_110 (shLay_k (shX_ly hx)) (by decide) rfl (Nat.le_of_ble_eq_true rfl) (Nat.le_of_ble_eq_true rfl) (Nat.le_of_ble_eq_true rfl) (Nat.le_of_ble_eq_true rfl) (Nat.le_of_ble_eq_true rfl) (s_X2_placeOf (w := zM w f1_z j) G (shX_ly hx) hla (rch_bd hrt) (fun r110 e110 => ?_))
          rw [hxk, hpl] at e110
          refine r_aloadR3 dX11_cell_113 ?_
          refine r_aloadR3 dX11_cell_114 ?_
          refine r_iload1 dX11_cell_115 ?_
          refine q_callV1 zm_RX11_145 dX11_cell_116 (shLay_k (shX_ly hx)) (by decide) rfl (Nat.le_of_ble_eq_true rfl) (Nat.le_of_ble_eq_true rfl) (Nat.le_of_ble_eq_true rfl) (Nat.le_of_ble_eq_true rfl) (Nat.le_of_ble_eq_true rfl) (s_X2_columnOf (w := zM w f1_z j) G (shX_ly hx) hla (rch_bd hrt) (fun r116 e116 => ?_))
          rw [hxk] at e116
          refine q_callV1 zm_RX11_152 dX11_cell_119 (shLay_k (shX_ly hx)) (by decide) rfl (Nat.le_of_ble_eq_true rfl) (Nat.le_of_ble_eq_true rfl) (Nat.le_of_ble_eq_true rfl) (Nat.le_of_ble_eq_true rfl) (Nat.le_of_ble_eq_true rfl) (s_X2_startOf (w := zM w f1_z j) G (shX_ly hx) hla (fun r119 e119 => ?_))
          have hzb0 := zcol_bnd (L := tbL T) (c := r116.toInt)
          rw [hcell.1] at hzb0
          have h119w : r119.toInt = (zst (tbL T) r116.toInt : Nat) := by rw [e119]; exact zi_n (by omega)
          refine n_isub dX11_cell_122 (by omega) (fun r122 e122_z => ?_)
          refine r_iret dX11_cell_123 rfl (Nat.le_of_ble_eq_true rfl) (Nat.le_of_ble_eq_true rfl) ?_
          refine hQ (by omega) (by omega) _ f1_z ?_ hq1
          unfold celI
          rw [if_neg (by omega), if_neg (by omega), if_neg (by omega), if_pos (by omega)]
          rw [hpl]
          rw [e116] at e119
          have hzb := zcol_bnd (L := tbL T) (c := lyColOf (tbL T) (x.toInt.toNat : Nat))
          rw [hcell.1] at hzb
          have h119v : r119.toInt = (zst (tbL T) (lyColOf (tbL T) (x.toInt.toNat : Nat)) : Nat) := by rw [e119]; exact zi_n (by omega)
          omega
        refine n_tabD (t := 124) dX11_cell_44 (by decide) (by omega) ?_
        refine r_aloadR3 dX11_cell_124 ?_
        refine r_aloadR3 dX11_cell_125 ?_
        refine r_iload1 dX11_cell_126 ?_
        refine q_callV1 zm_RX11_149 dX11_cell_127 (shLay_k (shX_ly hx)) (by decide) rfl (Nat.le_of_ble_eq_true rfl) (Nat.le_of_ble_eq_true rfl) (Nat.le_of_ble_eq_true rfl) (Nat.le_of_ble_eq_true rfl) (Nat.le_of_ble_eq_true rfl) (s_X2_placeOf (w := zM w f1_z j) G (shX_ly hx) hla (rch_bd hrt) (fun r127 e127_z => ?_))
        rw [hxk, hpl] at e127_z
        refine q_callV1 zm_RX11_155 dX11_cell_130 (shLay_k (shX_ly hx)) (by decide) rfl (Nat.le_of_ble_eq_true rfl) (Nat.le_of_ble_eq_true rfl) (Nat.le_of_ble_eq_true rfl) (Nat.le_of_ble_eq_true rfl) (Nat.le_of_ble_eq_true rfl) (s_X2_isUp (w := zM w f1_z j) (i := il) (p := pl) G (shX_ly hx) hla (by rw [List.append_nil]; exact hfl9) (zi_of e127_z (by omega)) (fun r130 e130 => ?_))
        refine t_ifeq (t := 140) dX11_cell_133 (by decide) (fun h133 => ?_) (fun h133 => ?_)
        · refine n_iconst dX11_cell_140 (by decide) (fun r140 e140 => ?_)
          refine r_iret dX11_cell_141 rfl (Nat.le_of_ble_eq_true rfl) (Nat.le_of_ble_eq_true rfl) ?_
          refine hQ (by omega) (by omega) _ f1_z ?_ hq1
          unfold celI
          rw [if_neg (by omega), if_neg (by omega), if_neg (by omega), if_neg (by omega)]
          rw [hup]
          rw [e130] at h133
          cases hp2 : pl.2 with
          | false => rw [hp2] at h133; first | exact e136 | exact e140 | exact absurd rfl h133 | (exfalso; exact absurd h133 (by decide))
          | true => rw [hp2] at h133; first | exact e136 | exact e140 | (exfalso; exact absurd h133 (by decide))
        · refine n_iconst dX11_cell_136 (by decide) (fun r136 e136 => ?_)
          refine r_goto (t := 141) dX11_cell_137 (by decide) ?_
          refine r_iret dX11_cell_141 rfl (Nat.le_of_ble_eq_true rfl) (Nat.le_of_ble_eq_true rfl) ?_
          refine hQ (by omega) (by omega) _ f1_z ?_ hq1
          unfold celI
          rw [if_neg (by omega), if_neg (by omega), if_neg (by omega), if_neg (by omega)]
          rw [hup]
          rw [e130] at h133
          cases hp2 : pl.2 with
          | false => rw [hp2] at h133; first | exact e136 | exact e140 | exact absurd rfl h133 | (exfalso; exact absurd h133 (by decide))
          | true => rw [hp2] at h133; first | exact e136 | exact e140 | (exfalso; exact absurd h133 (by decide))
      · refine r_throw zth_IA (List.mem_of_getElem? (i := 3) rfl) dX11_cell_28 dX11_cell_31 dX11_cell_32 dX11_cell_34 dX11_cell_37 (Nat.le_of_ble_eq_true rfl) (Nat.le_of_ble_eq_true rfl) (Nat.le_of_ble_eq_true rfl) (Nat.le_of_ble_eq_true rfl) ?_
        exact hXIA (by omega) (by omega)
  · refine r_throwNE (List.mem_of_getElem? (i := 2) rfl) dX11_cell_9 dX11_cell_12 dX11_cell_13 dX11_cell_15 dX11_cell_18 (Nat.le_of_ble_eq_true rfl) (Nat.le_of_ble_eq_true rfl) (Nat.le_of_ble_eq_true rfl) (Nat.le_of_ble_eq_true rfl) ?_
    exact hXNE (by omega)
