/-! the class: sure -/
def cbW (L : zLy) : Int32 := lyBits L (L.flatten.length - 1)
def surS (p : zLy → Bool) (s : Option Int32) (y : zRw) : Option Int32 := if p y.1 = true then (match s with | none => some (cbW y.1) | some b => some (b &&& cbW y.1)) else s
theorem surS_0 {p : zLy → Bool} {y : zRw} (h_z : p y.1 = true) : surS p none y = some (cbW y.1) := if_pos h_z
theorem surS_1 {p : zLy → Bool} {b : Int32} {y : zRw} (h_z : p y.1 = true) : surS p (some b) y = some (b &&& cbW y.1) := if_pos h_z
theorem surS_n {p : zLy → Bool} {s : Option Int32} {y : zRw} (h_z : ¬ p y.1 = true) : surS p s y = s := if_neg h_z
def surW (p : zLy → Bool) (X : List zRw) : Option Int32 := X.foldl (surS p) none
theorem surW_snoc {p : zLy → Bool} {X : List zRw} {y : zRw} : surW p (X ++ [y]) = surS p (surW p X) y := by
  unfold surW
  rw [List.foldl_append]
  rfl
set_option maxHeartbeats 4000000 in
set_option maxRecDepth 100000 in
theorem s_X11_sure {g : zGT} {w : zW} {f : Nat → Nat → Int32} {j : Nat → Nat → Int64} {X : Nat} {T : zTb} {x y0 : Int32} {ty : Nat → zTy} {Q : Option Value → zW → Prop} {QX : String → zW → Prop} (G : zGok g) (hx : shX w X) (ht : tbAt w f X (X + 11) T) (hty : ∀ i, i < 4 → ctTr f j (X + 231 + 2 * i) (ty i)) (hI : wyI f (X + 75)) (hXNE : ¬ (0 ≤ x.toInt ∧ x.toInt < 4) → ∀ n, zS w ≤ n → QX "java/util/NoSuchElementException" (zsS (zM w f j) n)) (hXIS : (0 ≤ x.toInt ∧ x.toInt < 4) → ty x.toInt.toNat = none → ∀ n, zS w ≤ n → QX "java/lang/IllegalStateException" (zsS (zM w f j) n)) (hXIA : (0 ≤ x.toInt ∧ x.toInt < 4) → ∀ s l, ty x.toInt.toNat = some (s, l) → ¬ (sightC l ∧ 0 ≤ y0.toInt ∧ y0.toInt ≤ 4) → ∀ n, zS w ≤ n → QX "java/lang/IllegalArgumentException" (zsS (zM w f j) n)) (hQ : (0 ≤ x.toInt ∧ x.toInt < 4) → ∀ s l, ty x.toInt.toNat = some (s, l) → (sightC l ∧ 0 ≤ y0.toInt ∧ y0.toInt ≤ 4) → ∀ (r : Int32) f2_z, r.toInt = ((surW (fun (L : zLy) => @decide (lookC T.2.2.1.1 L l) (Classical.propDecidable _)) (levs (lyFlat (tbC T)) (y0.toInt.toNat + 1))).getD 0).toInt → qX X f f2_z → Q (some (.int r)) (zM w f2_z j)) : zC g 9 yX11_sure cX11_sure 9 (some .int) [.ref X, .int x, .int y0] (zM w f j) (3, 18) Q QX := by
  refine zC_of G (by decide +kernel) (Nat.le_of_ble_eq_true rfl) ?_
  have ht0 := ht
  obtain ⟨nq, pp, g0, p0, hnq, hna0, hpp, hctb, hpast, hwf⟩ := ht0
  have hna1 := hna0
  obtain ⟨hna, hcn, ⟨hz1, hz2, hz3⟩, hl1, hl2, hl3⟩ := hna0
  have hmo := hctb.2.2.1
  have hn6 : tbC T ≤ 6 := hwf.2.1
  have hg4 : tbG T ≤ 4 := hwf.2.2.1
  have hwm := hwf.2.2.2.2.2.2.2.1
  have hrt := wfT_rch hwf
  have hfl : (f (X + 11 + 7) 2).toInt = (T.2.2.1.2.length : Nat) := by rw [hmo.1]; have := hmo.2.1; exact zi_n (by omega)
  have hcells : (f nq 1).toInt = (tbC T : Nat) := by rw [hcn.2.1]; exact zi_n (n := tbC T) (by omega)
  have hgs : (f nq 2).toInt = (tbG T : Nat) := by rw [hcn.2.2.1]; exact zi_n (n := tbG T) (by omega)
  have hrf : rch (tbC T) (lyFlat (tbC T)) := rch_flat hn6
  refine r_aloadR0 dX11_sure_0 ?_
  refine r_iload1 dX11_sure_1 ?_
  refine r_iload2 dX11_sure_2 ?_
  refine q_callV2 zm_RX11_495 dX11_sure_3 (shX_k (w := w) hx) (by decide) rfl (Nat.le_of_ble_eq_true rfl) (Nat.le_of_ble_eq_true rfl) (Nat.le_of_ble_eq_true rfl) (Nat.le_of_ble_eq_true rfl) (Nat.le_of_ble_eq_true rfl) (s_X11_sightIn G hx hty (fun hxx n hn => x_out (hXNE hxx n hn) (Nat.le_of_ble_eq_true rfl) (Nat.le_of_ble_eq_true rfl)) (fun hxx hyy n hn => x_out (hXIS hxx hyy n hn) (Nat.le_of_ble_eq_true rfl) (Nat.le_of_ble_eq_true rfl)) (fun hxx s l hcs hyy n hn => x_out (hXIA hxx s l hcs hyy n hn) (Nat.le_of_ble_eq_true rfl) (Nat.le_of_ble_eq_true rfl)) (fun hok s l hcs hcr => ?_))
  have hxk : x.toInt.toNat < 4 := by omega
  have hct := hty _ hxk
  rw [hcs] at hct
  have hl30 : l.length ≤ 30 := hct.2.2.2.2.1
  refine r_astore3 dX11_sure_6 rfl ?_
  refine r_aloadR0 dX11_sure_7 ?_
  refine q_callV0 zm_RX11_437 dX11_sure_8 (shX_k (w := w) hx) (by decide) rfl (Nat.le_of_ble_eq_true rfl) (Nat.le_of_ble_eq_true rfl) (Nat.le_of_ble_eq_true rfl) (Nat.le_of_ble_eq_true rfl) (Nat.le_of_ble_eq_true rfl) (s_X11_growFromFlat G hx ht hI (fun f1_z hq1 hw1 hs1 hc1 => ?_))
  have ht1 := tbAt_Q ht hq1
  have hct1 : ctTr f1_z j (X + 231 + 2 * x.toInt.toNat) (some (s, l)) := ctTr_of hct (hq1 _ (by omega)) rfl
  have HEND : ∀ f2_z, frF X f1_z f2_z → qX X f f2_z := fun f2_z h9 => qX_fl hq1 hw1 hrf hc1 (frF_L h9)
  have hQ9 := hQ hok s l hcs hcr
  have hy04 := hcr.2
  generalize hPd : (fun (L : zLy) => @decide (lookC T.2.2.1.1 L l) (Classical.propDecidable _)) = PP at hQ9
  refine r_astore4 dX11_sure_11 rfl ?_
  refine n_iconst dX11_sure_13 (by decide) (fun r13 e13_z => ?_)
  refine r_istore5 dX11_sure_14 rfl ?_
  refine n_iconst dX11_sure_16 (by decide) (fun r16 e16_z => ?_)
  refine r_istore6 dX11_sure_17 rfl ?_
  refine n_iconst dX11_sure_19 (by decide) (fun r19 e19_z => ?_)
  refine r_istore7 dX11_sure_20 rfl ?_
  have lp : ∀ (mz : Nat) (v : Int32) (a9 : Int32) (c : Int32) (v8 : Option Value) (k : Nat) (f2_z : Nat → Nat → Int32), c.toInt = (k : Nat) → k ≤ (levs (lyFlat (tbC T)) (y0.toInt.toNat + 1)).length → frF X f1_z f2_z → (a9.toInt = 0 ∧ v.toInt = 0 ∧ surW PP ((levs (lyFlat (tbC T)) (y0.toInt.toNat + 1)).take k) = none ∨ a9.toInt = 1 ∧ surW PP ((levs (lyFlat (tbC T)) (y0.toInt.toNat + 1)).take k) = some v) → 1025 - k < mz → zR (zV g 9 yX11_sure 9 (some .int) (3, 18) Q QX) cX11_sure yX11_sure.cls 22 [some (.ref X), some (.int x), some (.int y0), some (.ref (X + 231 + 2 * x.toInt.toNat)), some (.ref (X + 75)), some (.int v), some (.int a9), some (.int c), v8] [] (zM w f2_z j) (3, 18) := by
    intro mz
    induction mz with
    | zero =>
      intro v a9 c v8 k f2_z hck hk ho hs9 hmz
      exact absurd hmz (Nat.not_lt_zero _)
    | succ mz ih =>
      intro v a9 c v8 k f2_z hck hk ho hs9 hmz
      have hc2 := frL_wy hc1 (frF_L ho) (Or.inr rfl)
      have ht2 := tbAt_Q ht1 (frL_Q (frF_L ho) (Or.inr rfl))
      have hn1000 := nodes_len hrf
      have hsz : (f2_z (X + 75) 12).toInt = ((nodesR (lyFlat (tbC T))).length : Nat) := hc2.1.1
      have hct2 : ctTr f2_z j (X + 231 + 2 * x.toInt.toNat) (some (s, l)) := ctTr_of hct1 (ho _ (by omega)) rfl
      have hnl := nd_len (L := (lyFlat (tbC T))) (n := y0.toInt.toNat) (by omega)
      rcases Nat.lt_or_ge k (levs (lyFlat (tbC T)) (y0.toInt.toNat + 1)).length with hkl | hkl
      · obtain ⟨y, hy⟩ : ∃ y, (levs (lyFlat (tbC T)) (y0.toInt.toNat + 1))[k]? = some y := ⟨_, List.getElem?_eq_getElem hkl⟩
        obtain ⟨hnd, hdle⟩ := nd_in (by omega) hy
        have hsn : surW PP ((levs (lyFlat (tbC T)) (y0.toInt.toNat + 1)).take (k + 1)) = surS PP (surW PP ((levs (lyFlat (tbC T)) (y0.toInt.toNat + 1)).take k)) y := by rw [take_snoc hy, surW_snoc]
        refine r_iload7 dX11_sure_22 ?_
        refine r_aloadR4 dX11_sure_24 ?_
        refine m_getV (x := (f2_z (X + 75) 12)) zf_RX11_358 rfl dX11_sure_26 (shWy_k (shX_wf hx)) (rfl) ?_
        refine t_icge (t := 94) dX11_sure_29 (by decide) (fun h29 => False.elim (by omega)) (fun h29 => ?_)
        refine r_aloadR4 dX11_sure_32 ?_
        refine r_iload7 dX11_sure_34 ?_
        refine q_callV1 zm_RX11_361 dX11_sure_36 (shWy_k (shX_wf hx)) (by decide) rfl (Nat.le_of_ble_eq_true rfl) (Nat.le_of_ble_eq_true rfl) (Nat.le_of_ble_eq_true rfl) (Nat.le_of_ble_eq_true rfl) (Nat.le_of_ble_eq_true rfl) (s_X9_depthOf (k := k) G (shX_wf hx) hck (by omega) (fun r36 e36 => ?_))
        have hd36 := wy_dep hc2 hnd e36
        refine r_iload2 dX11_sure_39 ?_
        refine t_icgt (t := 94) dX11_sure_40 (by decide) (fun h40 => False.elim (by omega)) (fun h40 => ?_)
        refine r_aloadR4 dX11_sure_43 ?_
        refine r_iload7 dX11_sure_45 ?_
        refine q_callV1 zm_RX11_408 dX11_sure_47 (shWy_k (shX_wf hx)) (by decide) rfl (Nat.le_of_ble_eq_true rfl) (Nat.le_of_ble_eq_true rfl) (Nat.le_of_ble_eq_true rfl) (Nat.le_of_ble_eq_true rfl) (Nat.le_of_ble_eq_true rfl) (s_X9_layOf G (shX_wf hx) hc2 hck hnd (fun f4_z ho4 hl4 => ?_))
        have hF4 : frF X f2_z f4_z := fun q hq => ho4 q (by omega)
        have ht4 := tbAt_Q ht2 (frL_Q (frF_L hF4) (Or.inr rfl))
        have hct4 : ctTr f4_z j (X + 231 + 2 * x.toInt.toNat) (some (s, l)) := ctTr_of hct2 (ho4 _ (by omega)) rfl
        have hc4 := frL_wy hc1 (frF_L (frF_tr ho hF4)) (Or.inr rfl)
        have hry := hc2.2.2.2.2 y (List.mem_of_getElem? hnd)
        refine r_astore8 dX11_sure_50 rfl ?_
        refine r_aloadR0 dX11_sure_52 ?_
        refine r_aloadR8 dX11_sure_53 ?_
        refine r_aloadR3 dX11_sure_55 ?_
        refine q_callV2 zm_RX11_411 dX11_sure_56 (shX_k (w := w) hx) (by decide) rfl (Nat.le_of_ble_eq_true rfl) (Nat.le_of_ble_eq_true rfl) (Nat.le_of_ble_eq_true rfl) (Nat.le_of_ble_eq_true rfl) (Nat.le_of_ble_eq_true rfl) (s_X11_looksSo G hx ht4 (shWy_s (shX_wf hx)) hl4 (shX_ty hx hxk).1 hct4 hry (fun rA eA => ?_))
        have hPq : PP y.1 = true ↔ lookC T.2.2.1.1 y.1 l := by rw [← hPd]; exact @decide_eq_true_iff _ (Classical.propDecidable _)
        refine t_ifeq (t := 88) dX11_sure_59 (by decide) (fun h59 => ?_) (fun h59 => ?_)
        · refine n_iinc7 dX11_sure_88 (by decide) rfl (by omega) (fun r88 e88 => ?_)
          refine r_goto (t := 22) dX11_sure_91 (by decide) ?_
          have hno9 : ¬ lookC T.2.2.1.1 y.1 l := by
            intro h9
            rcases eA with ⟨h91, _⟩ | ⟨_, h92⟩
            · omega
            · exact h92 h9
          rw [surS_n (fun h9 => hno9 (hPq.mp h9))] at hsn
          rw [← hsn] at hs9
          exact ih _ _ _ _ (k + 1) f4_z (by omega) (by omega) (frF_tr ho hF4) hs9 (by omega)
        · have hyes : lookC T.2.2.1.1 y.1 l := by
            rcases eA with ⟨_, h92⟩ | ⟨h91, _⟩
            · exact h92
            · omega
          refine r_iload6 dX11_sure_62 ?_
          refine t_ifeq (t := 78) dX11_sure_64 (by decide) (fun h64 => ?_) (fun h64 => ?_)
          · refine r_aloadR8 dX11_sure_78 ?_
            refine q_callV0 zm_RX11_499 dX11_sure_80 (shLay_k (shWy_s (shX_wf hx))) (by decide) rfl (Nat.le_of_ble_eq_true rfl) (Nat.le_of_ble_eq_true rfl) (Nat.le_of_ble_eq_true rfl) (Nat.le_of_ble_eq_true rfl) (Nat.le_of_ble_eq_true rfl) (s_X2_creaseBits (w := zM w f4_z j) G (shWy_s (shX_wf hx)) hl4 (rch_bd hry) (by rw [(rch_cell hry).1]; exact (rch_cell hry).2.2.1) ?_)
            refine r_istore5 dX11_sure_83 rfl ?_
            refine n_iconst dX11_sure_85 (by decide) (fun r85 e85 => ?_)
            refine r_istore6 dX11_sure_86 rfl ?_
            refine n_iinc7 dX11_sure_88 (by decide) rfl (by omega) (fun r88 e88 => ?_)
            refine r_goto (t := 22) dX11_sure_91 (by decide) ?_
            rcases hs9 with ⟨g1, g2, g3_z⟩ | ⟨g1, g2⟩
            rotate_left
            · omega
            rw [g3_z, surS_0 (hPq.mpr hyes)] at hsn
            exact ih _ _ _ _ (k + 1) f4_z (by omega) (by omega) (frF_tr ho hF4) (Or.inr ⟨by omega, hsn⟩) (by omega)
          · refine r_iload5 dX11_sure_67 ?_
            refine r_aloadR8 dX11_sure_69 ?_
            refine q_callV0 zm_RX11_499 dX11_sure_71 (shLay_k (shWy_s (shX_wf hx))) (by decide) rfl (Nat.le_of_ble_eq_true rfl) (Nat.le_of_ble_eq_true rfl) (Nat.le_of_ble_eq_true rfl) (Nat.le_of_ble_eq_true rfl) (Nat.le_of_ble_eq_true rfl) (s_X2_creaseBits (w := zM w f4_z j) G (shWy_s (shX_wf hx)) hl4 (rch_bd hry) (by rw [(rch_cell hry).1]; exact (rch_cell hry).2.2.1) ?_)
            refine r_iand dX11_sure_74 ?_
            refine n_name (fun r74 e74_z => ?_)
            refine r_goto (t := 83) dX11_sure_75 (by decide) ?_
            refine r_istore5 dX11_sure_83 rfl ?_
            refine n_iconst dX11_sure_85 (by decide) (fun r85 e85 => ?_)
            refine r_istore6 dX11_sure_86 rfl ?_
            refine n_iinc7 dX11_sure_88 (by decide) rfl (by omega) (fun r88 e88 => ?_)
            refine r_goto (t := 22) dX11_sure_91 (by decide) ?_
            rcases hs9 with ⟨g1, g2, g3_z⟩ | ⟨g1, g2⟩
            · omega
            rw [g2, surS_1 (hPq.mpr hyes)] at hsn
            exact ih _ _ _ _ (k + 1) f4_z (by omega) (by omega) (frF_tr ho hF4) (Or.inr ⟨by omega, by rw [hsn, e74_z]; rfl⟩) (by omega)
      · have hful : (levs (lyFlat (tbC T)) (y0.toInt.toNat + 1)).take k = (levs (lyFlat (tbC T)) (y0.toInt.toNat + 1)) := List.take_of_length_le hkl
        rw [hful] at hs9
        have hend := hQ9 v f2_z (by rcases hs9 with ⟨g1, g2, g3_z⟩ | ⟨g1, g2⟩; rw [g3_z]; exact g2; rw [g2]; rfl) (HEND f2_z ho)
        rcases Nat.lt_or_ge k (nodesR (lyFlat (tbC T))).length with hk2 | hk2
        · obtain ⟨y, hnd⟩ : ∃ y, (nodesR (lyFlat (tbC T)))[k]? = some y := ⟨_, List.getElem?_eq_getElem hk2⟩
          have hdl := nd_out (n := y0.toInt.toNat) (by omega) hnd (by omega)
          refine r_iload7 dX11_sure_22 ?_
          refine r_aloadR4 dX11_sure_24 ?_
          refine m_getV (x := (f2_z (X + 75) 12)) zf_RX11_358 rfl dX11_sure_26 (shWy_k (shX_wf hx)) (rfl) ?_
          refine t_icge (t := 94) dX11_sure_29 (by decide) (fun h29 => False.elim (by omega)) (fun h29 => ?_)
          refine r_aloadR4 dX11_sure_32 ?_
          refine r_iload7 dX11_sure_34 ?_
          refine q_callV1 zm_RX11_361 dX11_sure_36 (shWy_k (shX_wf hx)) (by decide) rfl (Nat.le_of_ble_eq_true rfl) (Nat.le_of_ble_eq_true rfl) (Nat.le_of_ble_eq_true rfl) (Nat.le_of_ble_eq_true rfl) (Nat.le_of_ble_eq_true rfl) (s_X9_depthOf (k := k) G (shX_wf hx) hck (by omega) (fun r36 e36 => ?_))
          have hd36 := wy_dep hc2 hnd e36
          refine r_iload2 dX11_sure_39 ?_
          refine t_icgt (t := 94) dX11_sure_40 (by decide) (fun h40 => ?_) (fun h40 => False.elim (by omega))
          refine r_iload5 dX11_sure_94 ?_
          refine r_iret dX11_sure_96 rfl (Nat.le_of_ble_eq_true rfl) (Nat.le_of_ble_eq_true rfl) ?_
          exact hend
        · refine r_iload7 dX11_sure_22 ?_
          refine r_aloadR4 dX11_sure_24 ?_
          refine m_getV (x := (f2_z (X + 75) 12)) zf_RX11_358 rfl dX11_sure_26 (shWy_k (shX_wf hx)) (rfl) ?_
          refine t_icge (t := 94) dX11_sure_29 (by decide) (fun h29 => ?_) (fun h29 => False.elim (by omega))
          refine r_iload5 dX11_sure_94 ?_
          refine r_iret dX11_sure_96 rfl (Nat.le_of_ble_eq_true rfl) (Nat.le_of_ble_eq_true rfl) ?_
          exact hend
  exact lp 1026 _ _ _ _ 0 f1_z (by omega) (by omega) frF_rf (Or.inl ⟨by omega, by omega, rfl⟩) (by omega)
