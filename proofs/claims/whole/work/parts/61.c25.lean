/-! the class: look -/
def looW (g9 : Nat → Nat) : Nat → Int × Int
  | 0 => (-1, 0)
  | k + 1 => if 0 < g9 k ∧ ((looW g9 k).1 = -1 ∨ ((g9 k : Nat) : Int) < (looW g9 k).2) then (((k : Nat) : Int), ((g9 k : Nat) : Int)) else looW g9 k
set_option maxHeartbeats 4000000 in
set_option maxRecDepth 100000 in
theorem s_X11_look {g : zGT} {w : zW} {f : Nat → Nat → Int32} {j : Nat → Nat → Int64} {X : Nat} {T : zTb} {x y0 : Int32} {ty : Nat → zTy} {Q : Option Value → zW → Prop} {QX : String → zW → Prop} (G : zGok g) (hx : shX w X) (ht : tbAt w f X (X + 11) T) (hty : ∀ i, i < 4 → ctTr f j (X + 231 + 2 * i) (ty i)) (hI : wyI f (X + 75)) (hXNE : ¬ (0 ≤ x.toInt ∧ x.toInt < 4) → ∀ n, zS w ≤ n → QX "java/util/NoSuchElementException" (zsS (zM w f j) n)) (hXIS : (0 ≤ x.toInt ∧ x.toInt < 4) → ty x.toInt.toNat = none → ∀ n, zS w ≤ n → QX "java/lang/IllegalStateException" (zsS (zM w f j) n)) (hXIA : (0 ≤ x.toInt ∧ x.toInt < 4) → ∀ s l, ty x.toInt.toNat = some (s, l) → ¬ (sightC l ∧ 0 ≤ y0.toInt ∧ y0.toInt ≤ 4) → ∀ n, zS w ≤ n → QX "java/lang/IllegalArgumentException" (zsS (zM w f j) n)) (hQ : (0 ≤ x.toInt ∧ x.toInt < 4) → ∀ s l, ty x.toInt.toNat = some (s, l) → (sightC l ∧ 0 ≤ y0.toInt ∧ y0.toInt ≤ 4) → ∀ (r : Int32) f2_z, r.toInt = (looW (fun col : Nat => greW (fun (L : zLy) => @decide (lookC T.2.2.1.1 L l) (Classical.propDecidable _)) (fun L => seenB T.2.2.1.1 L col) (levs (lyFlat (tbC T)) (y0.toInt.toNat + 1)) (levs (lyFlat (tbC T)) (y0.toInt.toNat + 1)).length) l.length).1 → qX X f f2_z → Q (some (.int r)) (zM w f2_z j)) : zC g 9 yX11_look cX11_look 9 (some .int) [.ref X, .int x, .int y0] (zM w f j) (3, 18) Q QX := by
  refine zC_of G (by decide +kernel) (Nat.le_of_ble_eq_true rfl) ?_
  have ht0 := ht
  obtain ⟨nq, pp, g0, p0, hnq, hna0, hpp, hctb, hpast, hwf⟩ := ht0
  have hna1 := hna0
  obtain ⟨hna, hcn, ⟨hz1, hz2, hz3⟩, hl1, hl2, hl3⟩ := hna0
  have hmo := hctb.2.2.1
  have hn6 : tbC T ≤ 6 := hwf.2.1
  have hg4 : tbG T ≤ 4 := hwf.2.2.1
  have hwm := hwf.2.2.2.2.2.2.2.1
  have hrt := wfT_rch hwf
  have hfl : (f (X + 11 + 7) 2).toInt = (T.2.2.1.2.length : Nat) := by rw [hmo.1]; have := hmo.2.1; exact zi_n (by omega)
  have hcells : (f nq 1).toInt = (tbC T : Nat) := by rw [hcn.2.1]; exact zi_n (n := tbC T) (by omega)
  have hgs : (f nq 2).toInt = (tbG T : Nat) := by rw [hcn.2.2.1]; exact zi_n (n := tbG T) (by omega)
  have hrf : rch (tbC T) (lyFlat (tbC T)) := rch_flat hn6
  refine r_aloadR0 dX11_look_0 ?_
  refine r_iload1 dX11_look_1 ?_
  refine r_iload2 dX11_look_2 ?_
  refine q_callV2 zm_RX11_495 dX11_look_3 (shX_k (w := w) hx) (by decide) rfl (Nat.le_of_ble_eq_true rfl) (Nat.le_of_ble_eq_true rfl) (Nat.le_of_ble_eq_true rfl) (Nat.le_of_ble_eq_true rfl) (Nat.le_of_ble_eq_true rfl) (s_X11_sightIn G hx hty (fun hxx n hn => x_out (hXNE hxx n hn) (Nat.le_of_ble_eq_true rfl) (Nat.le_of_ble_eq_true rfl)) (fun hxx hyy n hn => x_out (hXIS hxx hyy n hn) (Nat.le_of_ble_eq_true rfl) (Nat.le_of_ble_eq_true rfl)) (fun hxx s l hcs hyy n hn => x_out (hXIA hxx s l hcs hyy n hn) (Nat.le_of_ble_eq_true rfl) (Nat.le_of_ble_eq_true rfl)) (fun hok s l hcs hcr => ?_))
  have hxk : x.toInt.toNat < 4 := by omega
  have hct := hty _ hxk
  rw [hcs] at hct
  have hl30 : l.length ≤ 30 := hct.2.2.2.2.1
  refine r_astore3 dX11_look_6 rfl ?_
  refine r_aloadR0 dX11_look_7 ?_
  refine q_callV0 zm_RX11_437 dX11_look_8 (shX_k (w := w) hx) (by decide) rfl (Nat.le_of_ble_eq_true rfl) (Nat.le_of_ble_eq_true rfl) (Nat.le_of_ble_eq_true rfl) (Nat.le_of_ble_eq_true rfl) (Nat.le_of_ble_eq_true rfl) (s_X11_growFromFlat G hx ht hI (fun f1_z hq1 hw1 hs1 hc1 => ?_))
  have ht1 := tbAt_Q ht hq1
  have hct1 : ctTr f1_z j (X + 231 + 2 * x.toInt.toNat) (some (s, l)) := ctTr_of hct (hq1 _ (by omega)) rfl
  have HEND : ∀ f2_z, frY X f1_z f2_z → qX X f f2_z := fun f2_z h9 => qX_tr (qX_fl hq1 hw1 hrf hc1 frL_rf) ⟨frY_Q h9, fun e => wyI_e e (fun r g1 g2 => h9 _ (by omega)), fun _ => Or.inr ⟨tbC T, lyFlat (tbC T), hrf, ctWy_rest hc1 (fun r g1 g2 => h9 _ (by omega))⟩⟩
  have hQ9 := hQ hok s l hcs hcr
  have hy04 := hcr.2
  generalize hGd : (fun col : Nat => greW (fun (L : zLy) => @decide (lookC T.2.2.1.1 L l) (Classical.propDecidable _)) (fun L => seenB T.2.2.1.1 L col) (levs (lyFlat (tbC T)) (y0.toInt.toNat + 1)) (levs (lyFlat (tbC T)) (y0.toInt.toNat + 1)).length) = GG at hQ9
  refine r_astore4 dX11_look_11 rfl ?_
  refine n_iconst dX11_look_13 (by decide) (fun r13 e13_z => ?_)
  refine r_istore5 dX11_look_14 rfl ?_
  refine n_iconst dX11_look_16 (by decide) (fun r16 e16_z => ?_)
  refine r_istore6 dX11_look_17 rfl ?_
  refine n_iconst dX11_look_19 (by decide) (fun r19 e19_z => ?_)
  refine r_istore7 dX11_look_20 rfl ?_
  have lp : ∀ (mz : Nat) (v : Int32) (m : Int32) (c : Int32) (v8 : Option Value) (k : Nat) (f2_z : Nat → Nat → Int32), c.toInt = (k : Nat) → k ≤ l.length → frY X f1_z f2_z → (v.toInt, m.toInt) = looW GG k → l.length - k < mz → zR (zV g 9 yX11_look 9 (some .int) (3, 18) Q QX) cX11_look yX11_look.cls 22 [some (.ref X), some (.int x), some (.int y0), some (.ref (X + 231 + 2 * x.toInt.toNat)), some (.ref (X + 75)), some (.int v), some (.int m), some (.int c), v8] [] (zM w f2_z j) (3, 18) := by
    intro mz
    induction mz with
    | zero =>
      intro v m c v8 k f2_z hck hk ho hs9 hmz
      exact absurd hmz (Nat.not_lt_zero _)
    | succ mz ih =>
      intro v m c v8 k f2_z hck hk ho hs9 hmz
      have hc2 : ctWy f2_z (X + 75) (tbC T) (nodesR (lyFlat (tbC T))) := ctWy_rest hc1 (fun r g1 g2 => ho _ (by omega))
      have ht2 := tbAt_Q ht1 (frY_Q ho)
      have hct2 : ctTr f2_z j (X + 231 + 2 * x.toInt.toNat) (some (s, l)) := ctTr_of hct1 (ho _ (by omega)) rfl
      have hmany : (f2_z (X + 231 + 2 * x.toInt.toNat) 2).toInt = (l.length : Nat) := hct2.2.2.2.1
      rcases Nat.lt_or_ge k l.length with hkl | hkl
      · have hks : looW GG (k + 1) = if 0 < GG k ∧ ((looW GG k).1 = -1 ∨ ((GG k : Nat) : Int) < (looW GG k).2) then (((k : Nat) : Int), ((GG k : Nat) : Int)) else looW GG k := rfl
        rw [← hs9] at hks
        refine r_iload7 dX11_look_22 ?_
        refine r_aloadR3 dX11_look_24 ?_
        refine m_getV (x := (f2_z (X + 231 + 2 * x.toInt.toNat) 2)) zf_RX11_289 rfl dX11_look_25 (shTr_k (w := w) (shX_ty hx hxk).1) (rfl) ?_
        refine t_icge (t := 75) dX11_look_28 (by decide) (fun h28 => False.elim (by omega)) (fun h28 => ?_)
        refine r_aloadR0 dX11_look_31 ?_
        refine r_aloadR4 dX11_look_32 ?_
        refine r_aloadR3 dX11_look_34 ?_
        refine r_iload2 dX11_look_35 ?_
        refine r_iload7 dX11_look_36 ?_
        refine q_callV4 zm_RX11_502 dX11_look_38 (shX_k (w := w) hx) (by decide) rfl (Nat.le_of_ble_eq_true rfl) (Nat.le_of_ble_eq_true rfl) (Nat.le_of_ble_eq_true rfl) (Nat.le_of_ble_eq_true rfl) (Nat.le_of_ble_eq_true rfl) (s_X11_greatestGroup (m9_z := y0.toInt.toNat) (col := k) G hx ht2 hc2 (shX_ty hx hxk).1 hct2 (by omega) (by omega) (by omega) hck hkl (fun r38 f5_z e38 ho5 => ?_))
        have e38g : r38.toInt = (GG k : Nat) := by rw [e38, ← hGd]
        refine r_istore8 dX11_look_41 rfl ?_
        refine r_iload8 dX11_look_43 ?_
        refine t_ifle (t := 69) dX11_look_45 (by decide) (fun h45 => ?_) (fun h45 => ?_)
        · refine n_iinc7 dX11_look_69 (by decide) rfl (by omega) (fun r69 e69 => ?_)
          refine r_goto (t := 22) dX11_look_72 (by decide) ?_
          rw [if_neg (by show ¬ (0 < GG k ∧ (v.toInt = -1 ∨ ((GG k : Nat) : Int) < m.toInt)); omega)] at hks
          exact ih _ _ _ _ (k + 1) f5_z (by omega) (by omega) (frY_tr ho ho5) (by rw [hks]) (by omega)
        · refine r_iload5 dX11_look_48 ?_
          refine n_iconst dX11_look_50 (by decide) (fun r50 e50 => ?_)
          refine t_iceq (t := 61) dX11_look_51 (by decide) (fun h51 => ?_) (fun h51 => ?_)
          · refine r_iload7 dX11_look_61 ?_
            refine r_istore5 dX11_look_63 rfl ?_
            refine r_iload8 dX11_look_65 ?_
            refine r_istore6 dX11_look_67 rfl ?_
            refine n_iinc7 dX11_look_69 (by decide) rfl (by omega) (fun r69 e69 => ?_)
            refine r_goto (t := 22) dX11_look_72 (by decide) ?_
            rw [if_pos (by show 0 < GG k ∧ (v.toInt = -1 ∨ ((GG k : Nat) : Int) < m.toInt); omega)] at hks
            exact ih _ _ _ _ (k + 1) f5_z (by omega) (by omega) (frY_tr ho ho5) (by rw [hks, Prod.mk.injEq]; omega) (by omega)
          · refine r_iload8 dX11_look_54 ?_
            refine r_iload6 dX11_look_56 ?_
            refine t_icge (t := 69) dX11_look_58 (by decide) (fun h58 => ?_) (fun h58 => ?_)
            · refine n_iinc7 dX11_look_69 (by decide) rfl (by omega) (fun r69 e69 => ?_)
              refine r_goto (t := 22) dX11_look_72 (by decide) ?_
              rw [if_neg (by show ¬ (0 < GG k ∧ (v.toInt = -1 ∨ ((GG k : Nat) : Int) < m.toInt)); omega)] at hks
              exact ih _ _ _ _ (k + 1) f5_z (by omega) (by omega) (frY_tr ho ho5) (by rw [hks]) (by omega)
            · refine r_iload7 dX11_look_61 ?_
              refine r_istore5 dX11_look_63 rfl ?_
              refine r_iload8 dX11_look_65 ?_
              refine r_istore6 dX11_look_67 rfl ?_
              refine n_iinc7 dX11_look_69 (by decide) rfl (by omega) (fun r69 e69 => ?_)
              refine r_goto (t := 22) dX11_look_72 (by decide) ?_
              rw [if_pos (by show 0 < GG k ∧ (v.toInt = -1 ∨ ((GG k : Nat) : Int) < m.toInt); omega)] at hks
              exact ih _ _ _ _ (k + 1) f5_z (by omega) (by omega) (frY_tr ho ho5) (by rw [hks, Prod.mk.injEq]; omega) (by omega)
      · refine r_iload7 dX11_look_22 ?_
        refine r_aloadR3 dX11_look_24 ?_
        refine m_getV (x := (f2_z (X + 231 + 2 * x.toInt.toNat) 2)) zf_RX11_289 rfl dX11_look_25 (shTr_k (w := w) (shX_ty hx hxk).1) (rfl) ?_
        refine t_icge (t := 75) dX11_look_28 (by decide) (fun h28 => ?_) (fun h28 => False.elim (by omega))
        refine r_iload5 dX11_look_75 ?_
        refine r_iret dX11_look_77 rfl (Nat.le_of_ble_eq_true rfl) (Nat.le_of_ble_eq_true rfl) ?_
        have hke : k = l.length := by omega
        refine hQ9 _ f2_z ?_ (HEND f2_z ho)
        rw [← hke, ← hs9]
  exact lp 31 _ _ _ _ 0 f1_z (by omega) (by omega) (fun _ _ => rfl) (by show (_, _) = ((-1 : Int), (0 : Int)); rw [Prod.mk.injEq]; omega) (by omega)
