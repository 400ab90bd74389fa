/-! the class: simple, patterns -/
def numS (p : zLy → Bool) (g9 : zLy → Int) (s : List Int) (y : zRw) : List Int := if p y.1 = true ∧ (0 ≤ g9 y.1 ∧ g9 y.1 < 720) ∧ g9 y.1 ∉ s then s ++ [g9 y.1] else s
def numW (p : zLy → Bool) (g9 : zLy → Int) (X : List zRw) : List Int := X.foldl (numS p g9) []
theorem numW_snoc {p : zLy → Bool} {g9 : zLy → Int} {X : List zRw} {y : zRw} : numW p g9 (X ++ [y]) = numS p g9 (numW p g9 X) y := by
  unfold numW
  rw [List.foldl_append]
  rfl
theorem numS_len {p : zLy → Bool} {g9 : zLy → Int} {s : List Int} {y : zRw} : (numS p g9 s y).length ≤ s.length + 1 := by
  unfold numS
  split
  · rw [List.length_append, List.length_singleton]
    omega
  · omega
theorem numW_len {p : zLy → Bool} {g9 : zLy → Int} {X : List zRw} : ∀ k, k ≤ X.length → (numW p g9 (X.take k)).length ≤ k := by
  intro k
  induction k with
  | zero => exact fun _ => by rw [List.take_zero]; exact Nat.le_refl _
  | succ k ih =>
    intro hk
    obtain ⟨y, hy⟩ : ∃ y, X[k]? = some y := ⟨_, List.getElem?_eq_getElem (by omega)⟩
    rw [take_snoc hy, numW_snoc]
    have h1 := numS_len (p := p) (g9 := g9) (s := numW p g9 (X.take k)) (y := y)
    have h2 := ih (by omega)
    omega
def metI (g9 : Nat → Int32) (s : List Int) : Prop := ∀ i, i < 720 → ((g9 i).toInt = 0 ∧ ((i : Nat) : Int) ∉ s ∨ (g9 i).toInt ≠ 0 ∧ ((i : Nat) : Int) ∈ s)
theorem metI_put {g1 g2 : Nat → Int32} {s : List Int} {v : Nat} (h_z : metI g1 s) (h1 : ∀ k, k ≠ v → g2 k = g1 k) (h2 : (g2 v).toInt = 1) : metI g2 (s ++ [((v : Nat) : Int)]) := by
  intro i hi_z
  by_cases e : i = v
  · refine Or.inr ⟨by rw [e, h2]; decide, List.mem_append.mpr (Or.inr (by rw [e]; exact List.mem_singleton.mpr rfl))⟩
  · rw [h1 i e]
    rcases h_z i hi_z with ⟨g3_z, g4⟩ | ⟨g3_z, g4⟩
    · refine Or.inl ⟨g3_z, fun h9 => ?_⟩
      rcases List.mem_append.mp h9 with h9 | h9
      · exact g4 h9
      · have := List.mem_singleton.mp h9
        omega
    · exact Or.inr ⟨g3_z, List.mem_append.mpr (Or.inl g4)⟩
def frN (X : Nat) (f f2_z : Nat → Nat → Int32) : Prop := ∀ q, (q < X + 54 ∨ X + 57 ≤ q ∧ q < X + 85 ∨ X + 89 ≤ q ∧ q ≠ X + 107) → f2_z q = f q
theorem frN_tr {X : Nat} {f f2_z f3_z : Nat → Nat → Int32} (h_z : frN X f f2_z) (h2 : frN X f2_z f3_z) : frN X f f3_z := fun q hq => (h2 q hq).trans (h_z q hq)
set_option maxHeartbeats 4000000 in
set_option maxRecDepth 100000 in
theorem s_X11_meet9 {g : zGT} {w : zW} {f : Nat → Nat → Int32} {j : Nat → Nat → Int64} {X : Nat} {x : Int32} {Q : Option Value → zW → Prop} {QX : String → zW → Prop} (G : zGok g) (hx : shX w X) (hQ : ∀ (r : Int32) f2_z, (r.toInt = 1 ∧ ((0 ≤ x.toInt ∧ x.toInt < 720) ∧ (f (X + 107) x.toInt.toNat).toInt = 0) ∧ (∀ q, q ≠ X + 107 → f2_z q = f q) ∧ (∀ k, k ≠ x.toInt.toNat → f2_z (X + 107) k = f (X + 107) k) ∧ (f2_z (X + 107) x.toInt.toNat).toInt = 1 ∨ r.toInt = 0 ∧ ¬ ((0 ≤ x.toInt ∧ x.toInt < 720) ∧ (f (X + 107) x.toInt.toNat).toInt = 0) ∧ f2_z = f) → Q (some (.int r)) (zM w f2_z j)) : zC g 1 yX11_meet cX11_meet 2 (some .boolean) [.ref X, .int x] (zM w f j) (0, 0) Q QX := by
  refine zC_of G (by decide +kernel) (Nat.le_of_ble_eq_true rfl) ?_
  refine r_iload1 dX11_meet_0 ?_
  refine t_iflt (t := 22) dX11_meet_1 (by decide) (fun h1 => ?_) (fun h1 => ?_)
  · refine n_iconst dX11_meet_22 (by decide) (fun r22 e22_z => ?_)
    refine m_zret dX11_meet_23 rfl (by omega) (Nat.le_of_ble_eq_true rfl) (Nat.le_of_ble_eq_true rfl) ?_
    exact hQ _ f (Or.inr ⟨by omega, by omega, rfl⟩)
  · refine r_iload1 dX11_meet_4 ?_
    refine r_aloadR0 dX11_meet_5 ?_
    refine m_getR (q := (X + 107)) zf_RX11_91 rfl dX11_meet_6 (shX_k (w := w) hx) (shX_p18 hx) ?_
    refine m_alen dX11_meet_9 (zge (shX_k108 hx) (by decide)) (shX_n108 hx) (by first | decide | omega) (fun r9 e9_z => ?_)
    refine t_icge (t := 22) dX11_meet_10 (by decide) (fun h10 => ?_) (fun h10 => ?_)
    · refine n_iconst dX11_meet_22 (by decide) (fun r22 e22_z => ?_)
      refine m_zret dX11_meet_23 rfl (by omega) (Nat.le_of_ble_eq_true rfl) (Nat.le_of_ble_eq_true rfl) ?_
      exact hQ _ f (Or.inr ⟨by omega, by omega, rfl⟩)
    · refine r_aloadR0 dX11_meet_13 ?_
      refine m_getR (q := (X + 107)) zf_RX11_91 rfl dX11_meet_14 (shX_k (w := w) hx) (shX_p18 hx) ?_
      refine r_iload1 dX11_meet_17 ?_
      refine m_iald (k := x.toInt.toNat) (x := (f (X + 107) x.toInt.toNat)) dX11_meet_18 (shX_k108 hx) (shX_n108 hx) (by omega) (by omega) (rfl) ?_
      refine t_ifeq (t := 24) dX11_meet_19 (by decide) (fun h19 => ?_) (fun h19 => ?_)
      · refine r_aloadR0 dX11_meet_24 ?_
        refine m_getR (q := (X + 107)) zf_RX11_91 rfl dX11_meet_25 (shX_k (w := w) hx) (shX_p18 hx) ?_
        refine r_iload1 dX11_meet_28 ?_
        refine n_iconst dX11_meet_29 (by decide) (fun r29 e29 => ?_)
        refine m_iast (k := x.toInt.toNat) dX11_meet_30 (shX_k108 hx) (shX_n108 hx) (by omega) (by omega) ?_
        refine n_iconst dX11_meet_31 (by decide) (fun r31 e31_z => ?_)
        refine m_zret dX11_meet_32 rfl (by omega) (Nat.le_of_ble_eq_true rfl) (Nat.le_of_ble_eq_true rfl) ?_
        exact hQ _ _ (Or.inl ⟨by omega, by omega, fun q hq => zu_ne hq, fun k hk => zu_nn (Or.inr hk), by rw [zu_at]; omega⟩)
      · refine n_iconst dX11_meet_22 (by decide) (fun r22 e22_z => ?_)
        refine m_zret dX11_meet_23 rfl (by omega) (Nat.le_of_ble_eq_true rfl) (Nat.le_of_ble_eq_true rfl) ?_
        exact hQ _ f (Or.inr ⟨by omega, by omega, rfl⟩)
set_option maxHeartbeats 4000000 in
set_option maxRecDepth 100000 in
theorem s_X11_simple {g : zGT} {w : zW} {f : Nat → Nat → Int32} {j : Nat → Nat → Int64} {X : Nat} {T : zTb} {Q : Option Value → zW → Prop} {QX : String → zW → Prop} (G : zGok g) (hx : shX w X) (ht : tbAt w f X (X + 11) T) (hI : wyI f (X + 75)) (hQ : ∀ (r : Int32) f2_z, r.toInt = ((numW (fun (L : zLy) => decide (L.length ≤ 1)) (fun (L : zLy) => (lyOrd L L.flatten.length).toInt) (nodesR (lyFlat (tbC T)))).length : Nat) → qX X f f2_z → Q (some (.int r)) (zM w f2_z j)) : zC g 8 yX11_simple cX11_simple 5 (some .int) [.ref X] (zM w f j) (0, 0) Q QX := by
  refine zC_of G (by decide +kernel) (Nat.le_of_ble_eq_true rfl) ?_
  have ht0 := ht
  obtain ⟨nq, pp, g0, p0, hnq, hna0, hpp, hctb, hpast, hwf⟩ := ht0
  have hna1 := hna0
  obtain ⟨hna, hcn, ⟨hz1, hz2, hz3⟩, hl1, hl2, hl3⟩ := hna0
  have hmo := hctb.2.2.1
  have hn6 : tbC T ≤ 6 := hwf.2.1
  have hg4 : tbG T ≤ 4 := hwf.2.2.1
  have hwm := hwf.2.2.2.2.2.2.2.1
  have hrt := wfT_rch hwf
  have hfl : (f (X + 11 + 7) 2).toInt = (T.2.2.1.2.length : Nat) := by rw [hmo.1]; have := hmo.2.1; exact zi_n (by omega)
  have hcells : (f nq 1).toInt = (tbC T : Nat) := by rw [hcn.2.1]; exact zi_n (n := tbC T) (by omega)
  have hgs : (f nq 2).toInt = (tbG T : Nat) := by rw [hcn.2.2.1]; exact zi_n (n := tbG T) (by omega)
  have hrf : rch (tbC T) (lyFlat (tbC T)) := rch_flat hn6
  generalize hPd : (fun (L : zLy) => decide (L.length ≤ 1)) = PP at hQ
  generalize hGd : (fun (L : zLy) => (lyOrd L L.flatten.length).toInt) = GG at hQ
  refine r_aloadR0 dX11_simple_0 ?_
  refine q_callV0 zm_RX11_437 dX11_simple_1 (shX_k (w := w) hx) (by decide) rfl (Nat.le_of_ble_eq_true rfl) (Nat.le_of_ble_eq_true rfl) (Nat.le_of_ble_eq_true rfl) (Nat.le_of_ble_eq_true rfl) (Nat.le_of_ble_eq_true rfl) (s_X11_growFromFlat G hx ht hI (fun f0_z hq1 hw1 hs1 hc0 => ?_))
  refine r_astore1 dX11_simple_4 rfl ?_
  refine r_aloadR0 dX11_simple_5 ?_
  refine m_getR (q := (X + 107)) zf_RX11_91 rfl dX11_simple_6 (shX_k (w := w) hx) (shX_p18 hx) ?_
  refine n_iconst dX11_simple_9 (by decide) (fun r9 e9_z => ?_)
  refine q_callS2 zm_RX11_443 dX11_simple_10 (Nat.le_of_ble_eq_true rfl) (Nat.le_of_ble_eq_true rfl) (Nat.le_of_ble_eq_true rfl) (Nat.le_of_ble_eq_true rfl) (Nat.le_of_ble_eq_true rfl) (s_J7_fill_53178 G (shX_k108 hx) (shX_n108 hx) (by decide) (fun f1_z ho1 hz1 => ?_))
  have hc1 : ctWy f1_z (X + 75) (tbC T) (nodesR (lyFlat (tbC T))) := ctWy_rest hc0 (fun r g1 g2 => ho1 _ (by omega))
  have HEND : ∀ f2_z, frN X f1_z f2_z → qX X f f2_z := fun f2_z h9 => qX_tr (qX_fl hq1 hw1 hrf hc0 frL_rf) ⟨fun q hq => (h9 q (by omega)).trans (ho1 q (by omega)), fun e => wyI_e e (fun r g1 g2 => (h9 _ (by omega)).trans (ho1 _ (by omega))), fun _ => Or.inr ⟨tbC T, lyFlat (tbC T), hrf, ctWy_rest hc1 (fun r g1 g2 => h9 _ (by omega))⟩⟩
  refine n_iconst dX11_simple_13 (by decide) (fun r13 e13_z => ?_)
  refine r_istore2 dX11_simple_14 rfl ?_
  refine n_iconst dX11_simple_15 (by decide) (fun r15 e15_z => ?_)
  refine r_istore3 dX11_simple_16 rfl ?_
  have lp : ∀ (mz : Nat) (v : Int32) (c : Int32) (v4_z : Option Value) (k : Nat) (f2_z : Nat → Nat → Int32), c.toInt = (k : Nat) → k ≤ (nodesR (lyFlat (tbC T))).length → frN X f1_z f2_z → v.toInt = ((numW PP GG ((nodesR (lyFlat (tbC T))).take k)).length : Nat) → metI (f2_z (X + 107)) (numW PP GG ((nodesR (lyFlat (tbC T))).take k)) → 1025 - k < mz → zR (zV g 8 yX11_simple 5 (some .int) (0, 0) Q QX) cX11_simple yX11_simple.cls 17 [some (.ref X), some (.ref (X + 75)), some (.int v), some (.int c), v4_z] [] (zM w f2_z j) (0, 0) := by
    intro mz
    induction mz with
    | zero =>
      intro v c v4_z k f2_z hck hk ho hv hmt hmz
      exact absurd hmz (Nat.not_lt_zero _)
    | succ mz ih =>
      intro v c v4_z k f2_z hck hk ho hv hmt hmz
      have hc2 : ctWy f2_z (X + 75) (tbC T) (nodesR (lyFlat (tbC T))) := ctWy_rest hc1 (fun r g1 g2 => ho _ (by omega))
      have hn1000 := nodes_len hrf
      have hsz : (f2_z (X + 75) 12).toInt = ((nodesR (lyFlat (tbC T))).length : Nat) := hc2.1.1
      rcases Nat.lt_or_ge k (nodesR (lyFlat (tbC T))).length with hkl | hkl
      · obtain ⟨y, hnd⟩ : ∃ y, (nodesR (lyFlat (tbC T)))[k]? = some y := ⟨_, List.getElem?_eq_getElem hkl⟩
        have hdle := nd_dep hnd
        have hsn : numW PP GG ((nodesR (lyFlat (tbC T))).take (k + 1)) = numS PP GG (numW PP GG ((nodesR (lyFlat (tbC T))).take k)) y := by rw [take_snoc hnd, numW_snoc]
        have hml := numW_len (p := PP) (g9 := GG) (X := (nodesR (lyFlat (tbC T)))) k hk
        have hry := hc2.2.2.2.2 y (List.mem_of_getElem? hnd)
        have hyl := rch_le hry
        have hyc := rch_cell hry
        have hPy : PP y.1 = (fun (L : zLy) => decide (L.length ≤ 1)) y.1 := by rw [← hPd]
        have hGy : GG y.1 = (fun (L : zLy) => (lyOrd L L.flatten.length).toInt) y.1 := by rw [← hGd]
        refine r_iload3 dX11_simple_17 ?_
        refine r_aloadR1 dX11_simple_18 ?_
        refine m_getV (x := (f2_z (X + 75) 12)) zf_RX11_358 rfl dX11_simple_19 (shWy_k (shX_wf hx)) (rfl) ?_
        refine t_icge (t := 71) dX11_simple_22 (by decide) (fun h22 => False.elim (by omega)) (fun h22 => ?_)
        refine r_aloadR1 dX11_simple_25 ?_
        refine r_iload3 dX11_simple_26 ?_
        refine q_callV1 zm_RX11_361 dX11_simple_27 (shWy_k (shX_wf hx)) (by decide) rfl (Nat.le_of_ble_eq_true rfl) (Nat.le_of_ble_eq_true rfl) (Nat.le_of_ble_eq_true rfl) (Nat.le_of_ble_eq_true rfl) (Nat.le_of_ble_eq_true rfl) (s_X9_depthOf (k := k) G (shX_wf hx) hck (by omega) (fun r27 e27_z => ?_))
        have hd27 := wy_dep hc2 hnd e27_z
        refine n_iconst dX11_simple_30 (by decide) (fun r30 e30 => ?_)
        refine t_icgt (t := 71) dX11_simple_31 (by decide) (fun h31 => False.elim (by omega)) (fun h31 => ?_)
        refine r_aloadR1 dX11_simple_34 ?_
        refine r_iload3 dX11_simple_35 ?_
        refine q_callV1 zm_RX11_408 dX11_simple_36 (shWy_k (shX_wf hx)) (by decide) rfl (Nat.le_of_ble_eq_true rfl) (Nat.le_of_ble_eq_true rfl) (Nat.le_of_ble_eq_true rfl) (Nat.le_of_ble_eq_true rfl) (Nat.le_of_ble_eq_true rfl) (s_X9_layOf G (shX_wf hx) hc2 hck hnd (fun f4_z ho4 hl4 => ?_))
        have hF4 : frN X f2_z f4_z := fun q hq => ho4 q (by omega)
        have hmt4 : metI (f4_z (X + 107)) (numW PP GG ((nodesR (lyFlat (tbC T))).take k)) := by rw [ho4 _ (by omega)]; exact hmt
        have hwy : (f4_z (X + 75 + 10) 4).toInt = (y.1.length : Nat) := by rw [hl4.2.1]; exact zi_n (by omega)
        refine r_astore4 dX11_simple_39 rfl ?_
        refine r_aloadR4 dX11_simple_41 ?_
        refine m_getV (x := (f4_z (X + 75 + 10) 4)) zf_RX11_217 rfl dX11_simple_43 (shLay_k (shWy_s (shX_wf hx))) (rfl) ?_
        refine n_iconst dX11_simple_46 (by decide) (fun r46 e46 => ?_)
        refine t_icgt (t := 65) dX11_simple_47 (by decide) (fun h47 => ?_) (fun h47 => ?_)
        · refine n_iinc3 dX11_simple_65 (by decide) rfl (by omega) (fun r65 e65 => ?_)
          refine r_goto (t := 17) dX11_simple_68 (by decide) ?_
          rw [show numS PP GG (numW PP GG ((nodesR (lyFlat (tbC T))).take k)) y = numW PP GG ((nodesR (lyFlat (tbC T))).take k) from if_neg (fun h9 => by have h91 := h9.1; rw [hPy] at h91; have h92 := of_decide_eq_true h91; omega)] at hsn
          exact ih _ _ _ (k + 1) f4_z (by omega) (by omega) (frN_tr ho hF4) (by rw [hsn]; exact hv) (by rw [hsn]; exact hmt4) (by omega)
        · refine r_aloadR0 dX11_simple_50 ?_
          refine r_aloadR4 dX11_simple_51 ?_
          refine q_callV0 zm_RX11_449 dX11_simple_53 (shLay_k (shWy_s (shX_wf hx))) (by decide) rfl (Nat.le_of_ble_eq_true rfl) (Nat.le_of_ble_eq_true rfl) (Nat.le_of_ble_eq_true rfl) (Nat.le_of_ble_eq_true rfl) (Nat.le_of_ble_eq_true rfl) (s_X2_orderNumber (w := zM w f4_z j) G (shWy_s (shX_wf hx)) hl4 (rch_bd hry) ?_)
          refine q_callV1 zm_RX11_452 dX11_simple_56 (shX_k (w := w) hx) (by decide) rfl (Nat.le_of_ble_eq_true rfl) (Nat.le_of_ble_eq_true rfl) (Nat.le_of_ble_eq_true rfl) (Nat.le_of_ble_eq_true rfl) (Nat.le_of_ble_eq_true rfl) (s_X11_meet9 G hx (fun rM f5_z eM => ?_))
          rw [show (lyOrd y.1 y.1.flatten.length).toInt = GG y.1 by rw [hGy]] at eM
          refine t_ifeq (t := 65) dX11_simple_59 (by decide) (fun h59 => ?_) (fun h59 => ?_)
          · refine n_iinc3 dX11_simple_65 (by decide) rfl (by omega) (fun r65 e65 => ?_)
            refine r_goto (t := 17) dX11_simple_68 (by decide) ?_
            rcases eM with ⟨g1, g2⟩ | ⟨g1, g2, g3_z⟩
            · omega
            have hnum : numS PP GG (numW PP GG ((nodesR (lyFlat (tbC T))).take k)) y = numW PP GG ((nodesR (lyFlat (tbC T))).take k) := if_neg (fun h9 => by
              rcases hmt4 (GG y.1).toNat (by omega) with ⟨g7, g8⟩ | ⟨g7, g8⟩
              · exact g2 ⟨h9.2.1, g7⟩
              · rw [show (((GG y.1).toNat : Nat) : Int) = GG y.1 by have := h9.2.1; omega] at g8; exact h9.2.2 g8)
            rw [hnum] at hsn
            rw [g3_z]
            exact ih _ _ _ (k + 1) f4_z (by omega) (by omega) (frN_tr ho hF4) (by rw [hsn]; exact hv) (by rw [hsn]; exact hmt4) (by omega)
          · refine n_iinc2 dX11_simple_62 (by decide) rfl (by omega) (fun r62 e62 => ?_)
            refine n_iinc3 dX11_simple_65 (by decide) rfl (by omega) (fun r65 e65 => ?_)
            refine r_goto (t := 17) dX11_simple_68 (by decide) ?_
            rcases eM with ⟨g1, ⟨g2, g3_z⟩, g4, g5_z, g6⟩ | ⟨g1, g2, g3_z⟩
            rotate_left
            · omega
            have hnin : GG y.1 ∉ numW PP GG ((nodesR (lyFlat (tbC T))).take k) := by
              intro h9
              rcases hmt4 (GG y.1).toNat (by omega) with ⟨g7, g8⟩ | ⟨g7, g8⟩
              · rw [show (((GG y.1).toNat : Nat) : Int) = GG y.1 by omega] at g8; exact g8 h9
              · omega
            rw [show numS PP GG (numW PP GG ((nodesR (lyFlat (tbC T))).take k)) y = numW PP GG ((nodesR (lyFlat (tbC T))).take k) ++ [GG y.1] from if_pos ⟨by rw [hPy]; exact decide_eq_true (by omega), g2, hnin⟩] at hsn
            have hmt5 := metI_put hmt4 g5_z g6
            rw [show (((GG y.1).toNat : Nat) : Int) = GG y.1 by omega] at hmt5
            exact ih _ _ _ (k + 1) f5_z (by omega) (by omega) (frN_tr ho (frN_tr hF4 (fun q hq => g4 q (by omega)))) (by rw [hsn, List.length_append, List.length_singleton]; omega) (by rw [hsn]; exact hmt5) (by omega)
      · have hful : (nodesR (lyFlat (tbC T))).take k = (nodesR (lyFlat (tbC T))) := List.take_of_length_le hkl
        rw [hful] at hv
        refine r_iload3 dX11_simple_17 ?_
        refine r_aloadR1 dX11_simple_18 ?_
        refine m_getV (x := (f2_z (X + 75) 12)) zf_RX11_358 rfl dX11_simple_19 (shWy_k (shX_wf hx)) (rfl) ?_
        refine t_icge (t := 71) dX11_simple_22 (by decide) (fun h22 => ?_) (fun h22 => False.elim (by omega))
        refine r_iload2 dX11_simple_71 ?_
        refine r_iret dX11_simple_72 rfl (Nat.le_of_ble_eq_true rfl) (Nat.le_of_ble_eq_true rfl) ?_
        exact hQ v f2_z hv (HEND f2_z ho)
  exact lp 1026 _ _ _ 0 f1_z (by omega) (by omega) (fun _ _ => rfl) (by rw [List.take_zero]; show _ = ((0 : Nat) : Int); omega) (fun i hi_z => Or.inl ⟨by rw [hz1 i hi_z]; omega, by rw [List.take_zero]; exact List.not_mem_nil⟩) (by omega)
set_option maxHeartbeats 4000000 in
set_option maxRecDepth 100000 in
theorem s_X11_patterns {g : zGT} {w : zW} {f : Nat → Nat → Int32} {j : Nat → Nat → Int64} {X : Nat} {T : zTb} {Q : Option Value → zW → Prop} {QX : String → zW → Prop} (G : zGok g) (hx : shX w X) (ht : tbAt w f X (X + 11) T) (hI : wyI f (X + 75)) (hQ : ∀ (r : Int32) f2_z, r.toInt = ((numW (fun (L : zLy) => decide ((lyCrNo L (L.flatten.length - 1)).toInt < 243)) (fun (L : zLy) => (lyCrNo L (L.flatten.length - 1)).toInt) (nodesR (lyFlat (tbC T)))).length : Nat) → qX X f f2_z → Q (some (.int r)) (zM w f2_z j)) : zC g 8 yX11_patterns cX11_patterns 5 (some .int) [.ref X] (zM w f j) (0, 0) Q QX := by
  refine zC_of G (by decide +kernel) (Nat.le_of_ble_eq_true rfl) ?_
  have ht0 := ht
  obtain ⟨nq, pp, g0, p0, hnq, hna0, hpp, hctb, hpast, hwf⟩ := ht0
  have hna1 := hna0
  obtain ⟨hna, hcn, ⟨hz1, hz2, hz3⟩, hl1, hl2, hl3⟩ := hna0
  have hmo := hctb.2.2.1
  have hn6 : tbC T ≤ 6 := hwf.2.1
  have hg4 : tbG T ≤ 4 := hwf.2.2.1
  have hwm := hwf.2.2.2.2.2.2.2.1
  have hrt := wfT_rch hwf
  have hfl : (f (X + 11 + 7) 2).toInt = (T.2.2.1.2.length : Nat) := by rw [hmo.1]; have := hmo.2.1; exact zi_n (by omega)
  have hcells : (f nq 1).toInt = (tbC T : Nat) := by rw [hcn.2.1]; exact zi_n (n := tbC T) (by omega)
  have hgs : (f nq 2).toInt = (tbG T : Nat) := by rw [hcn.2.2.1]; exact zi_n (n := tbG T) (by omega)
  have hrf : rch (tbC T) (lyFlat (tbC T)) := rch_flat hn6
  generalize hPd : (fun (L : zLy) => decide ((lyCrNo L (L.flatten.length - 1)).toInt < 243)) = PP at hQ
  generalize hGd : (fun (L : zLy) => (lyCrNo L (L.flatten.length - 1)).toInt) = GG at hQ
  refine r_aloadR0 dX11_patterns_0 ?_
  refine q_callV0 zm_RX11_437 dX11_patterns_1 (shX_k (w := w) hx) (by decide) rfl (Nat.le_of_ble_eq_true rfl) (Nat.le_of_ble_eq_true rfl) (Nat.le_of_ble_eq_true rfl) (Nat.le_of_ble_eq_true rfl) (Nat.le_of_ble_eq_true rfl) (s_X11_growFromFlat G hx ht hI (fun f0_z hq1 hw1 hs1 hc0 => ?_))
  refine r_astore1 dX11_patterns_4 rfl ?_
  refine r_aloadR0 dX11_patterns_5 ?_
  refine m_getR (q := (X + 107)) zf_RX11_91 rfl dX11_patterns_6 (shX_k (w := w) hx) (shX_p18 hx) ?_
  refine n_iconst dX11_patterns_9 (by decide) (fun r9 e9_z => ?_)
  refine q_callS2 zm_RX11_443 dX11_patterns_10 (Nat.le_of_ble_eq_true rfl) (Nat.le_of_ble_eq_true rfl) (Nat.le_of_ble_eq_true rfl) (Nat.le_of_ble_eq_true rfl) (Nat.le_of_ble_eq_true rfl) (s_J7_fill_53178 G (shX_k108 hx) (shX_n108 hx) (by decide) (fun f1_z ho1 hz1 => ?_))
  have hc1 : ctWy f1_z (X + 75) (tbC T) (nodesR (lyFlat (tbC T))) := ctWy_rest hc0 (fun r g1 g2 => ho1 _ (by omega))
  have HEND : ∀ f2_z, frN X f1_z f2_z → qX X f f2_z := fun f2_z h9 => qX_tr (qX_fl hq1 hw1 hrf hc0 frL_rf) ⟨fun q hq => (h9 q (by omega)).trans (ho1 q (by omega)), fun e => wyI_e e (fun r g1 g2 => (h9 _ (by omega)).trans (ho1 _ (by omega))), fun _ => Or.inr ⟨tbC T, lyFlat (tbC T), hrf, ctWy_rest hc1 (fun r g1 g2 => h9 _ (by omega))⟩⟩
  refine n_iconst dX11_patterns_13 (by decide) (fun r13 e13_z => ?_)
  refine r_istore2 dX11_patterns_14 rfl ?_
  refine n_iconst dX11_patterns_15 (by decide) (fun r15 e15_z => ?_)
  refine r_istore3 dX11_patterns_16 rfl ?_
  have lp : ∀ (mz : Nat) (v : Int32) (c : Int32) (v4_z : Option Value) (k : Nat) (f2_z : Nat → Nat → Int32), c.toInt = (k : Nat) → k ≤ (nodesR (lyFlat (tbC T))).length → frN X f1_z f2_z → v.toInt = ((numW PP GG ((nodesR (lyFlat (tbC T))).take k)).length : Nat) → metI (f2_z (X + 107)) (numW PP GG ((nodesR (lyFlat (tbC T))).take k)) → 1025 - k < mz → zR (zV g 8 yX11_patterns 5 (some .int) (0, 0) Q QX) cX11_patterns yX11_patterns.cls 17 [some (.ref X), some (.ref (X + 75)), some (.int v), some (.int c), v4_z] [] (zM w f2_z j) (0, 0) := by
    intro mz
    induction mz with
    | zero =>
      intro v c v4_z k f2_z hck hk ho hv hmt hmz
      exact absurd hmz (Nat.not_lt_zero _)
    | succ mz ih =>
      intro v c v4_z k f2_z hck hk ho hv hmt hmz
      have hc2 : ctWy f2_z (X + 75) (tbC T) (nodesR (lyFlat (tbC T))) := ctWy_rest hc1 (fun r g1 g2 => ho _ (by omega))
      have hn1000 := nodes_len hrf
      have hsz : (f2_z (X + 75) 12).toInt = ((nodesR (lyFlat (tbC T))).length : Nat) := hc2.1.1
      rcases Nat.lt_or_ge k (nodesR (lyFlat (tbC T))).length with hkl | hkl
      · obtain ⟨y, hnd⟩ : ∃ y, (nodesR (lyFlat (tbC T)))[k]? = some y := ⟨_, List.getElem?_eq_getElem hkl⟩
        have hdle := nd_dep hnd
        have hsn : numW PP GG ((nodesR (lyFlat (tbC T))).take (k + 1)) = numS PP GG (numW PP GG ((nodesR (lyFlat (tbC T))).take k)) y := by rw [take_snoc hnd, numW_snoc]
        have hml := numW_len (p := PP) (g9 := GG) (X := (nodesR (lyFlat (tbC T)))) k hk
        have hry := hc2.2.2.2.2 y (List.mem_of_getElem? hnd)
        have hyl := rch_le hry
        have hyc := rch_cell hry
        have hPy : PP y.1 = (fun (L : zLy) => decide ((lyCrNo L (L.flatten.length - 1)).toInt < 243)) y.1 := by rw [← hPd]
        have hGy : GG y.1 = (fun (L : zLy) => (lyCrNo L (L.flatten.length - 1)).toInt) y.1 := by rw [← hGd]
        refine r_iload3 dX11_patterns_17 ?_
        refine r_aloadR1 dX11_patterns_18 ?_
        refine m_getV (x := (f2_z (X + 75) 12)) zf_RX11_358 rfl dX11_patterns_19 (shWy_k (shX_wf hx)) (rfl) ?_
        refine t_icge (t := 70) dX11_patterns_22 (by decide) (fun h22 => False.elim (by omega)) (fun h22 => ?_)
        refine r_aloadR1 dX11_patterns_25 ?_
        refine r_iload3 dX11_patterns_26 ?_
        refine q_callV1 zm_RX11_361 dX11_patterns_27 (shWy_k (shX_wf hx)) (by decide) rfl (Nat.le_of_ble_eq_true rfl) (Nat.le_of_ble_eq_true rfl) (Nat.le_of_ble_eq_true rfl) (Nat.le_of_ble_eq_true rfl) (Nat.le_of_ble_eq_true rfl) (s_X9_depthOf (k := k) G (shX_wf hx) hck (by omega) (fun r27 e27_z => ?_))
        have hd27 := wy_dep hc2 hnd e27_z
        refine n_iconst dX11_patterns_30 (by decide) (fun r30 e30 => ?_)
        refine t_icgt (t := 70) dX11_patterns_31 (by decide) (fun h31 => False.elim (by omega)) (fun h31 => ?_)
        refine r_aloadR1 dX11_patterns_34 ?_
        refine r_iload3 dX11_patterns_35 ?_
        refine q_callV1 zm_RX11_408 dX11_patterns_36 (shWy_k (shX_wf hx)) (by decide) rfl (Nat.le_of_ble_eq_true rfl) (Nat.le_of_ble_eq_true rfl) (Nat.le_of_ble_eq_true rfl) (Nat.le_of_ble_eq_true rfl) (Nat.le_of_ble_eq_true rfl) (s_X9_layOf G (shX_wf hx) hc2 hck hnd (fun f4_z ho4 hl4 => ?_))
        have hF4 : frN X f2_z f4_z := fun q hq => ho4 q (by omega)
        have hmt4 : metI (f4_z (X + 107)) (numW PP GG ((nodesR (lyFlat (tbC T))).take k)) := by rw [ho4 _ (by omega)]; exact hmt
        have hwy : (f4_z (X + 75 + 10) 4).toInt = (y.1.length : Nat) := by rw [hl4.2.1]; exact zi_n (by omega)
        refine q_callV0 zm_RX11_459 dX11_patterns_39 (shLay_k (shWy_s (shX_wf hx))) (by decide) rfl (Nat.le_of_ble_eq_true rfl) (Nat.le_of_ble_eq_true rfl) (Nat.le_of_ble_eq_true rfl) (Nat.le_of_ble_eq_true rfl) (Nat.le_of_ble_eq_true rfl) (s_X2_creaseNumber (w := zM w f4_z j) G (shWy_s (shX_wf hx)) hl4 (rch_bd hry) (by rw [(rch_cell hry).1]; exact (rch_cell hry).2.2.1) ?_)
        refine r_istore4 dX11_patterns_42 rfl ?_
        refine r_iload4 dX11_patterns_44 ?_
        refine n_sipush dX11_patterns_46 (by decide) (fun r46 e46 => ?_)
        refine t_icge (t := 64) dX11_patterns_49 (by decide) (fun h49 => ?_) (fun h49 => ?_)
        · refine n_iinc3 dX11_patterns_64 (by decide) rfl (by omega) (fun r64 e64 => ?_)
          refine r_goto (t := 17) dX11_patterns_67 (by decide) ?_
          rw [show numS PP GG (numW PP GG ((nodesR (lyFlat (tbC T))).take k)) y = numW PP GG ((nodesR (lyFlat (tbC T))).take k) from if_neg (fun h9 => by have h91 := h9.1; rw [hPy] at h91; have h92 := of_decide_eq_true h91; omega)] at hsn
          exact ih _ _ _ (k + 1) f4_z (by omega) (by omega) (frN_tr ho hF4) (by rw [hsn]; exact hv) (by rw [hsn]; exact hmt4) (by omega)
        · refine r_aloadR0 dX11_patterns_52 ?_
          refine r_iload4 dX11_patterns_53 ?_
          refine q_callV1 zm_RX11_452 dX11_patterns_55 (shX_k (w := w) hx) (by decide) rfl (Nat.le_of_ble_eq_true rfl) (Nat.le_of_ble_eq_true rfl) (Nat.le_of_ble_eq_true rfl) (Nat.le_of_ble_eq_true rfl) (Nat.le_of_ble_eq_true rfl) (s_X11_meet9 G hx (fun rM f5_z eM => ?_))
          rw [show (lyCrNo y.1 (y.1.flatten.length - 1)).toInt = GG y.1 by rw [hGy]] at eM
          refine t_ifeq (t := 64) dX11_patterns_58 (by decide) (fun h58 => ?_) (fun h58 => ?_)
          · refine n_iinc3 dX11_patterns_64 (by decide) rfl (by omega) (fun r64 e64 => ?_)
            refine r_goto (t := 17) dX11_patterns_67 (by decide) ?_
            rcases eM with ⟨g1, g2⟩ | ⟨g1, g2, g3_z⟩
            · omega
            have hnum : numS PP GG (numW PP GG ((nodesR (lyFlat (tbC T))).take k)) y = numW PP GG ((nodesR (lyFlat (tbC T))).take k) := if_neg (fun h9 => by
              rcases hmt4 (GG y.1).toNat (by omega) with ⟨g7, g8⟩ | ⟨g7, g8⟩
              · exact g2 ⟨h9.2.1, g7⟩
              · rw [show (((GG y.1).toNat : Nat) : Int) = GG y.1 by have := h9.2.1; omega] at g8; exact h9.2.2 g8)
            rw [hnum] at hsn
            rw [g3_z]
            exact ih _ _ _ (k + 1) f4_z (by omega) (by omega) (frN_tr ho hF4) (by rw [hsn]; exact hv) (by rw [hsn]; exact hmt4) (by omega)
          · refine n_iinc2 dX11_patterns_61 (by decide) rfl (by omega) (fun r61 e61 => ?_)
            refine n_iinc3 dX11_patterns_64 (by decide) rfl (by omega) (fun r64 e64 => ?_)
            refine r_goto (t := 17) dX11_patterns_67 (by decide) ?_
            rcases eM with ⟨g1, ⟨g2, g3_z⟩, g4, g5_z, g6⟩ | ⟨g1, g2, g3_z⟩
            rotate_left
            · omega
            have hnin : GG y.1 ∉ numW PP GG ((nodesR (lyFlat (tbC T))).take k) := by
              intro h9
              rcases hmt4 (GG y.1).toNat (by omega) with ⟨g7, g8⟩ | ⟨g7, g8⟩
              · rw [show (((GG y.1).toNat : Nat) : Int) = GG y.1 by omega] at g8; exact g8 h9
              · omega
            rw [show numS PP GG (numW PP GG ((nodesR (lyFlat (tbC T))).take k)) y = numW PP GG ((nodesR (lyFlat (tbC T))).take k) ++ [GG y.1] from if_pos ⟨by rw [hPy]; exact decide_eq_true (by omega), g2, hnin⟩] at hsn
            have hmt5 := metI_put hmt4 g5_z g6
            rw [show (((GG y.1).toNat : Nat) : Int) = GG y.1 by omega] at hmt5
            exact ih _ _ _ (k + 1) f5_z (by omega) (by omega) (frN_tr ho (frN_tr hF4 (fun q hq => g4 q (by omega)))) (by rw [hsn, List.length_append, List.length_singleton]; omega) (by rw [hsn]; exact hmt5) (by omega)
      · have hful : (nodesR (lyFlat (tbC T))).take k = (nodesR (lyFlat (tbC T))) := List.take_of_length_le hkl
        rw [hful] at hv
        refine r_iload3 dX11_patterns_17 ?_
        refine r_aloadR1 dX11_patterns_18 ?_
        refine m_getV (x := (f2_z (X + 75) 12)) zf_RX11_358 rfl dX11_patterns_19 (shWy_k (shX_wf hx)) (rfl) ?_
        refine t_icge (t := 70) dX11_patterns_22 (by decide) (fun h22 => ?_) (fun h22 => False.elim (by omega))
        refine r_iload2 dX11_patterns_70 ?_
        refine r_iret dX11_patterns_71 rfl (Nat.le_of_ble_eq_true rfl) (Nat.le_of_ble_eq_true rfl) ?_
        exact hQ v f2_z hv (HEND f2_z ho)
  exact lp 1026 _ _ _ 0 f1_z (by omega) (by omega) (fun _ _ => rfl) (by rw [List.take_zero]; show _ = ((0 : Nat) : Int); omega) (fun i hi_z => Or.inl ⟨by rw [hz1 i hi_z]; omega, by rw [List.take_zero]; exact List.not_mem_nil⟩) (by omega)
