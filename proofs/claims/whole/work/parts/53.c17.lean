/-! the class: from the flat napkin: stack, made, madeBy, seen -/
theorem sumR_app {p : zLy → Bool} {X Y : List zRw} : sumR p (X ++ Y) = sumR p X + sumR p Y := by
  unfold sumR
  rw [List.map_append, List.sum_append]
theorem sumR_one {p : zLy → Bool} {x : zRw} : sumR p [x] = if p x.1 then x.2.2 else 0 := by
  rw [sumR_cons]
  rfl
theorem sumR_all {p : zLy → Bool} {X : List zRw} : sumR p X ≤ sumR allL X := by
  induction X with
  | nil => exact Nat.le_refl _
  | cons x X ih =>
    rw [sumR_cons, sumR_cons]
    have : (if allL x.1 then x.2.2 else 0) = x.2.2 := rfl
    split <;> omega
theorem sumR_levs {n : Nat} {L : zLy} (h_z : rch n L) (p : zLy → Bool) (d : Nat) : sumR p (levs L d) ≤ 20 ^ d := by
  refine Nat.le_trans sumR_all ?_
  induction d with
  | zero => exact Nat.zero_le _
  | succ d ih =>
    rw [levs_succ, sumR_app, Nat.pow_succ]
    have := lev_sum h_z (d := d)
    omega
theorem sumR_take {p : zLy → Bool} {k : Nat} {X : List zRw} : sumR p (X.take k) ≤ sumR p X := by
  conv => rhs; rw [← List.take_append_drop k X, sumR_app]
  omega
def frF (X : Nat) (f f2_z : Nat → Nat → Int32) : Prop := ∀ q, (q < X + 54 ∨ X + 57 ≤ q ∧ q < X + 85 ∨ X + 89 ≤ q) → f2_z q = f q
theorem frF_rf {X : Nat} {f : Nat → Nat → Int32} : frF X f f := fun _ _ => rfl
theorem frF_tr {X : Nat} {f f2_z f3_z : Nat → Nat → Int32} (h_z : frF X f f2_z) (h2 : frF X f2_z f3_z) : frF X f f3_z := fun q hq => (h2 q hq).trans (h_z q hq)
theorem frF_L {X : Nat} {f f2_z : Nat → Nat → Int32} (h_z : frF X f f2_z) : frL X (X + 75) f f2_z := fun q hq => h_z q (by omega)
def depI (o : Option zRw) : Int := match o with
  | some y => (y.2.1.length : Nat)
  | none => -1
def fdI (o : Option zRw) (z : Int) : Int := match o with
  | some y => (moFold y.2.1 z).toInt
  | none => -1
set_option maxHeartbeats 4000000 in
set_option maxRecDepth 100000 in
theorem s_X11_stack {g : zGT} {w : zW} {f : Nat → Nat → Int32} {j : Nat → Nat → Int64} {X : Nat} {T : zTb} {x : Int32} {ty : Nat → zTy} {Q : Option Value → zW → Prop} {QX : String → zW → Prop} (G : zGok g) (hx : shX w X) (ht : tbAt w f X (X + 11) T) (hty : ∀ i, i < 4 → ctTr f j (X + 231 + 2 * i) (ty i)) (hI : wyI f (X + 75)) (hXNE : ¬ (0 ≤ x.toInt ∧ x.toInt < 4) → ∀ n, zS w ≤ n → QX "java/util/NoSuchElementException" (zsS (zM w f j) n)) (hXIS : (0 ≤ x.toInt ∧ x.toInt < 4) → ty x.toInt.toNat = none → ∀ n, zS w ≤ n → QX "java/lang/IllegalStateException" (zsS (zM w f j) n)) (hXIA : (0 ≤ x.toInt ∧ x.toInt < 4) → ∀ s l, ty x.toInt.toNat = some (s, l) → ¬ (onceC l (tbC T)) → ∀ n, zS w ≤ n → QX "java/lang/IllegalArgumentException" (zsS (zM w f j) n)) (hQ : (0 ≤ x.toInt ∧ x.toInt < 4) → ∀ s l, ty x.toInt.toNat = some (s, l) → onceC l (tbC T) → ∀ (r : Int32) f2_z, r.toInt = depI (findW (fun (L : zLy) (_ : List Nat) => @decide (ordC L l) (Classical.propDecidable _)) (nodesR (lyFlat (tbC T)))) → qX X f f2_z → Q (some (.int r)) (zM w f2_z j)) : zC g 9 yX11_stack cX11_stack 5 (some .int) [.ref X, .int x] (zM w f j) (3, 18) Q QX := by
  refine zC_of G (by decide +kernel) (Nat.le_of_ble_eq_true rfl) ?_
  have ht0 := ht
  obtain ⟨nq, pp, g0, p0, hnq, hna0, hpp, hctb, hpast, hwf⟩ := ht0
  have hna1 := hna0
  obtain ⟨hna, hcn, ⟨hz1, hz2, hz3⟩, hl1, hl2, hl3⟩ := hna0
  have hmo := hctb.2.2.1
  have hn6 : tbC T ≤ 6 := hwf.2.1
  have hg4 : tbG T ≤ 4 := hwf.2.2.1
  have hwm := hwf.2.2.2.2.2.2.2.1
  have hrt := wfT_rch hwf
  have hfl : (f (X + 11 + 7) 2).toInt = (T.2.2.1.2.length : Nat) := by rw [hmo.1]; have := hmo.2.1; exact zi_n (by omega)
  have hcells : (f nq 1).toInt = (tbC T : Nat) := by rw [hcn.2.1]; exact zi_n (n := tbC T) (by omega)
  have hgs : (f nq 2).toInt = (tbG T : Nat) := by rw [hcn.2.2.1]; exact zi_n (n := tbG T) (by omega)
  have hrf : rch (tbC T) (lyFlat (tbC T)) := rch_flat hn6
  refine r_aloadR0 dX11_stack_0 ?_
  refine r_iload1 dX11_stack_1 ?_
  refine q_callV1 zm_RX11_426 dX11_stack_2 (shX_k (w := w) hx) (by decide) rfl (Nat.le_of_ble_eq_true rfl) (Nat.le_of_ble_eq_true rfl) (Nat.le_of_ble_eq_true rfl) (Nat.le_of_ble_eq_true rfl) (Nat.le_of_ble_eq_true rfl) (s_X11_stackIn G hx ht hty (fun hxx n hn => x_out (hXNE hxx n hn) (Nat.le_of_ble_eq_true rfl) (Nat.le_of_ble_eq_true rfl)) (fun hxx hyy n hn => x_out (hXIS hxx hyy n hn) (Nat.le_of_ble_eq_true rfl) (Nat.le_of_ble_eq_true rfl)) (fun hxx s l hcs hyy n hn => x_out (hXIA hxx s l hcs hyy n hn) (Nat.le_of_ble_eq_true rfl) (Nat.le_of_ble_eq_true rfl)) (fun hok s l hcs hcr => ?_))
  have hxk : x.toInt.toNat < 4 := by omega
  have hct := hty _ hxk
  rw [hcs] at hct
  have hl30 : l.length ≤ 30 := hct.2.2.2.2.1
  refine r_astore2 dX11_stack_5 rfl ?_
  refine r_aloadR0 dX11_stack_6 ?_
  refine q_callV0 zm_RX11_437 dX11_stack_7 (shX_k (w := w) hx) (by decide) rfl (Nat.le_of_ble_eq_true rfl) (Nat.le_of_ble_eq_true rfl) (Nat.le_of_ble_eq_true rfl) (Nat.le_of_ble_eq_true rfl) (Nat.le_of_ble_eq_true rfl) (s_X11_growFromFlat G hx ht hI (fun f1_z hq1 hw1 hs1 hc1 => ?_))
  have ht1 := tbAt_Q ht hq1
  have hct1 : ctTr f1_z j (X + 231 + 2 * x.toInt.toNat) (some (s, l)) := ctTr_of hct (hq1 _ (by omega)) rfl
  have HEND : ∀ f2_z, frF X f1_z f2_z → qX X f f2_z := fun f2_z h9 => qX_fl hq1 hw1 hrf hc1 (frF_L h9)
  have hQ9 := hQ hok s l hcs hcr
  generalize hPd : (fun (L : zLy) (_ : List Nat) => @decide (ordC L l) (Classical.propDecidable _)) = PP at hQ9
  refine r_astore3 dX11_stack_10 rfl ?_
  refine n_iconst dX11_stack_11 (by decide) (fun r11 e11_z => ?_)
  refine r_istore4 dX11_stack_12 rfl ?_
  have lp : ∀ (mz : Nat) (c : Int32) (k : Nat) (f2_z : Nat → Nat → Int32), c.toInt = (k : Nat) → k ≤ (nodesR (lyFlat (tbC T))).length → frF X f1_z f2_z → ((nodesR (lyFlat (tbC T))).take k).find? (fun y => PP y.1 y.2.1) = none → 1025 - k < mz → zR (zV g 9 yX11_stack 5 (some .int) (3, 18) Q QX) cX11_stack yX11_stack.cls 14 [some (.ref X), some (.int x), some (.ref (X + 231 + 2 * x.toInt.toNat)), some (.ref (X + 75)), some (.int c)] [] (zM w f2_z j) (3, 18) := by
    intro mz
    induction mz with
    | zero =>
      intro c k f2_z hck hk ho hno hmz
      exact absurd hmz (Nat.not_lt_zero _)
    | succ mz ih =>
      intro c k f2_z hck hk ho hno hmz
      have hc2 := frL_wy hc1 (frF_L ho) (Or.inr rfl)
      have ht2 := tbAt_Q ht1 (frL_Q (frF_L ho) (Or.inr rfl))
      have hn1000 := nodes_len hrf
      have hsz : (f2_z (X + 75) 12).toInt = ((nodesR (lyFlat (tbC T))).length : Nat) := hc2.1.1
      have hct2 : ctTr f2_z j (X + 231 + 2 * x.toInt.toNat) (some (s, l)) := ctTr_of hct1 (ho _ (by omega)) rfl
      rcases Nat.lt_or_ge k (nodesR (lyFlat (tbC T))).length with hkl | hkl
      · obtain ⟨y, hnd⟩ : ∃ y, (nodesR (lyFlat (tbC T)))[k]? = some y := ⟨_, List.getElem?_eq_getElem hkl⟩
        have hdle := nd_dep hnd
        refine r_iload4 dX11_stack_14 ?_
        refine r_aloadR3 dX11_stack_16 ?_
        refine m_getV (x := (f2_z (X + 75) 12)) zf_RX11_358 rfl dX11_stack_17 (shWy_k (shX_wf hx)) (rfl) ?_
        refine t_icge (t := 59) dX11_stack_20 (by decide) (fun h20 => False.elim (by omega)) (fun h20 => ?_)
        refine r_aloadR3 dX11_stack_23 ?_
        refine r_iload4 dX11_stack_24 ?_
        refine q_callV1 zm_RX11_361 dX11_stack_26 (shWy_k (shX_wf hx)) (by decide) rfl (Nat.le_of_ble_eq_true rfl) (Nat.le_of_ble_eq_true rfl) (Nat.le_of_ble_eq_true rfl) (Nat.le_of_ble_eq_true rfl) (Nat.le_of_ble_eq_true rfl) (s_X9_depthOf (k := k) G (shX_wf hx) hck (by omega) (fun r26 e26_z => ?_))
        have hd26 := wy_dep hc2 hnd e26_z
        refine n_iconst dX11_stack_29 (by decide) (fun r29 e29 => ?_)
        refine t_icgt (t := 59) dX11_stack_30 (by decide) (fun h30 => False.elim (by omega)) (fun h30 => ?_)
        refine r_aloadR3 dX11_stack_33 ?_
        refine r_iload4 dX11_stack_34 ?_
        refine q_callV1 zm_RX11_408 dX11_stack_36 (shWy_k (shX_wf hx)) (by decide) rfl (Nat.le_of_ble_eq_true rfl) (Nat.le_of_ble_eq_true rfl) (Nat.le_of_ble_eq_true rfl) (Nat.le_of_ble_eq_true rfl) (Nat.le_of_ble_eq_true rfl) (s_X9_layOf G (shX_wf hx) hc2 hck hnd (fun f4_z ho4 hl4 => ?_))
        have hF4 : frF X f2_z f4_z := fun q hq => ho4 q (by omega)
        have ht4 := tbAt_Q ht2 (frL_Q (frF_L hF4) (Or.inr rfl))
        have hct4 : ctTr f4_z j (X + 231 + 2 * x.toInt.toNat) (some (s, l)) := ctTr_of hct2 (ho4 _ (by omega)) rfl
        have hc4 := frL_wy hc1 (frF_L (frF_tr ho hF4)) (Or.inr rfl)
        have hry := hc2.2.2.2.2 y (List.mem_of_getElem? hnd)
        refine r_aloadR2 dX11_stack_39 ?_
        refine q_callS2 zm_RX11_440 dX11_stack_40 (Nat.le_of_ble_eq_true rfl) (Nat.le_of_ble_eq_true rfl) (Nat.le_of_ble_eq_true rfl) (Nat.le_of_ble_eq_true rfl) (Nat.le_of_ble_eq_true rfl) (s_X11_liesInOrder (n := tbC T) G (shWy_s (shX_wf hx)) hl4 (shX_ty hx hxk).1 hct4 hry hn6 (by have := hcr.1; omega) (fun rA eA => ?_))
        have hPq : PP y.1 y.2.1 = true ↔ ordC y.1 l := by rw [← hPd]; exact @decide_eq_true_iff _ (Classical.propDecidable _)
        refine t_ifeq (t := 53) dX11_stack_43 (by decide) (fun h43 => ?_) (fun h43 => ?_)
        · refine n_iinc4 dX11_stack_53 (by decide) rfl (by omega) (fun r53 e53 => ?_)
          refine r_goto (t := 14) dX11_stack_56 (by decide) ?_
          have hno9 : ¬ ordC y.1 l := by
            intro h9
            rcases eA with ⟨h91, _⟩ | ⟨_, h92⟩
            · omega
            · exact h92 h9
          refine ih _ (k + 1) f4_z (by omega) (by omega) (frF_tr ho hF4) ?_ (by omega)
          show ((nodesR (lyFlat (tbC T))).take (k + 1)).find? (fun y => PP y.1 y.2.1) = none
          rw [take_snoc hnd, find_snoc hno]
          exact if_neg (fun h9 => hno9 (hPq.mp h9))
        · refine r_aloadR3 dX11_stack_46 ?_
          refine r_iload4 dX11_stack_47 ?_
          refine q_callV1 zm_RX11_361 dX11_stack_49 (shWy_k (shX_wf hx)) (by decide) rfl (Nat.le_of_ble_eq_true rfl) (Nat.le_of_ble_eq_true rfl) (Nat.le_of_ble_eq_true rfl) (Nat.le_of_ble_eq_true rfl) (Nat.le_of_ble_eq_true rfl) (s_X9_depthOf (k := k) G (shX_wf hx) hck (by omega) (fun r49 e49 => ?_))
          have hd49 := wy_dep hc4 hnd e49
          refine r_iret dX11_stack_52 rfl (Nat.le_of_ble_eq_true rfl) (Nat.le_of_ble_eq_true rfl) ?_
          have hyes : ordC y.1 l := by
            rcases eA with ⟨_, h92⟩ | ⟨h91, _⟩
            · exact h92
            · omega
          refine hQ9 _ f4_z ?_ (HEND f4_z (frF_tr ho hF4))
          have hfd : (nodesR (lyFlat (tbC T))).find? (fun y => PP y.1 y.2.1) = some y := find_hit hno hnd (hPq.mpr hyes)
          have hfd2 : findW PP (nodesR (lyFlat (tbC T))) = some y := hfd
          rw [hfd2]
          exact hd49
      · have hful : (nodesR (lyFlat (tbC T))).take k = nodesR (lyFlat (tbC T)) := List.take_of_length_le hkl
        rw [hful] at hno
        have hfd : findW PP (nodesR (lyFlat (tbC T))) = none := hno
        rw [hfd] at hQ9
        refine r_iload4 dX11_stack_14 ?_
        refine r_aloadR3 dX11_stack_16 ?_
        refine m_getV (x := (f2_z (X + 75) 12)) zf_RX11_358 rfl dX11_stack_17 (shWy_k (shX_wf hx)) (rfl) ?_
        refine t_icge (t := 59) dX11_stack_20 (by decide) (fun h20 => ?_) (fun h20 => False.elim (by omega))
        refine n_iconst dX11_stack_59 (by decide) (fun r59 e59 => ?_)
        refine r_iret dX11_stack_60 rfl (Nat.le_of_ble_eq_true rfl) (Nat.le_of_ble_eq_true rfl) ?_
        exact hQ9 _ f2_z (by show _ = (-1 : Int); omega) (HEND f2_z ho)
  exact lp 1026 _ 0 f1_z (by omega) (by omega) frF_rf rfl (by omega)
set_option maxHeartbeats 4000000 in
set_option maxRecDepth 100000 in
theorem s_X11_madeBy {g : zGT} {w : zW} {f : Nat → Nat → Int32} {j : Nat → Nat → Int64} {X : Nat} {T : zTb} {x y0 : Int32} {ty : Nat → zTy} {Q : Option Value → zW → Prop} {QX : String → zW → Prop} (G : zGok g) (hx : shX w X) (ht : tbAt w f X (X + 11) T) (hty : ∀ i, i < 4 → ctTr f j (X + 231 + 2 * i) (ty i)) (hI : wyI f (X + 75)) (hXNE : ¬ (0 ≤ x.toInt ∧ x.toInt < 4) → ∀ n, zS w ≤ n → QX "java/util/NoSuchElementException" (zsS (zM w f j) n)) (hXIS : (0 ≤ x.toInt ∧ x.toInt < 4) → ty x.toInt.toNat = none → ∀ n, zS w ≤ n → QX "java/lang/IllegalStateException" (zsS (zM w f j) n)) (hXIA : (0 ≤ x.toInt ∧ x.toInt < 4) → ∀ s l, ty x.toInt.toNat = some (s, l) → ¬ ((l.length = tbC T - 1 ∧ ∀ v ∈ l, 0 ≤ v ∧ v ≤ 2) ∧ 0 ≤ y0.toInt) → ∀ n, zS w ≤ n → QX "java/lang/IllegalArgumentException" (zsS (zM w f j) n)) (hQ : (0 ≤ x.toInt ∧ x.toInt < 4) → ∀ s l, ty x.toInt.toNat = some (s, l) → ((l.length = tbC T - 1 ∧ ∀ v ∈ l, 0 ≤ v ∧ v ≤ 2) ∧ 0 ≤ y0.toInt) → ∀ (r : Int32) f2_z, r.toInt = fdI (findW (fun (L : zLy) (_ : List Nat) => @decide (creC L l) (Classical.propDecidable _)) (nodesR (lyFlat (tbC T)))) y0.toInt → qX X f f2_z → Q (some (.int r)) (zM w f2_z j)) : zC g 9 yX11_madeBy cX11_madeBy 6 (some .int) [.ref X, .int x, .int y0] (zM w f j) (4, 24) Q QX := by
  refine zC_of G (by decide +kernel) (Nat.le_of_ble_eq_true rfl) ?_
  have ht0 := ht
  obtain ⟨nq, pp, g0, p0, hnq, hna0, hpp, hctb, hpast, hwf⟩ := ht0
  have hna1 := hna0
  obtain ⟨hna, hcn, ⟨hz1, hz2, hz3⟩, hl1, hl2, hl3⟩ := hna0
  have hmo := hctb.2.2.1
  have hn6 : tbC T ≤ 6 := hwf.2.1
  have hg4 : tbG T ≤ 4 := hwf.2.2.1
  have hwm := hwf.2.2.2.2.2.2.2.1
  have hrt := wfT_rch hwf
  have hfl : (f (X + 11 + 7) 2).toInt = (T.2.2.1.2.length : Nat) := by rw [hmo.1]; have := hmo.2.1; exact zi_n (by omega)
  have hcells : (f nq 1).toInt = (tbC T : Nat) := by rw [hcn.2.1]; exact zi_n (n := tbC T) (by omega)
  have hgs : (f nq 2).toInt = (tbG T : Nat) := by rw [hcn.2.2.1]; exact zi_n (n := tbG T) (by omega)
  have hrf : rch (tbC T) (lyFlat (tbC T)) := rch_flat hn6
  refine r_aloadR0 dX11_madeBy_0 ?_
  refine r_iload1 dX11_madeBy_1 ?_
  refine q_callV1 zm_RX11_453 dX11_madeBy_2 (shX_k (w := w) hx) (by decide) rfl (Nat.le_of_ble_eq_true rfl) (Nat.le_of_ble_eq_true rfl) (Nat.le_of_ble_eq_true rfl) (Nat.le_of_ble_eq_true rfl) (Nat.le_of_ble_eq_true rfl) (s_X11_creasesIn G hx ht hty (fun hxx n hn => x_out (hXNE hxx n hn) (Nat.le_of_ble_eq_true rfl) (Nat.le_of_ble_eq_true rfl)) (fun hxx hyy n hn => x_out (hXIS hxx hyy n hn) (Nat.le_of_ble_eq_true rfl) (Nat.le_of_ble_eq_true rfl)) (fun hxx s l hcs hyy n hn => x_out (hXIA hxx s l hcs (fun h9 => hyy h9.1) n hn) (Nat.le_of_ble_eq_true rfl) (Nat.le_of_ble_eq_true rfl)) (fun hok s l hcs hcr => ?_))
  have hxk : x.toInt.toNat < 4 := by omega
  have hct := hty _ hxk
  rw [hcs] at hct
  have hl30 : l.length ≤ 30 := hct.2.2.2.2.1
  refine r_astore3 dX11_madeBy_5 rfl ?_
  refine r_iload2 dX11_madeBy_6 ?_
  refine t_ifge (t := 20) dX11_madeBy_7 (by decide) (fun h7 => ?_) (fun h7 => ?_)
  · refine r_aloadR0 dX11_madeBy_20 ?_
    refine q_callV0 zm_RX11_437 dX11_madeBy_21 (shX_k (w := w) hx) (by decide) rfl (Nat.le_of_ble_eq_true rfl) (Nat.le_of_ble_eq_true rfl) (Nat.le_of_ble_eq_true rfl) (Nat.le_of_ble_eq_true rfl) (Nat.le_of_ble_eq_true rfl) (s_X11_growFromFlat G hx ht hI (fun f1_z hq1 hw1 hs1 hc1 => ?_))
    have ht1 := tbAt_Q ht hq1
    have hct1 : ctTr f1_z j (X + 231 + 2 * x.toInt.toNat) (some (s, l)) := ctTr_of hct (hq1 _ (by omega)) rfl
    have HEND : ∀ f2_z, frF X f1_z f2_z → qX X f f2_z := fun f2_z h9 => qX_fl hq1 hw1 hrf hc1 (frF_L h9)
    have hQ9 := hQ hok s l hcs ⟨hcr, by omega⟩
    generalize hPd : (fun (L : zLy) (_ : List Nat) => @decide (creC L l) (Classical.propDecidable _)) = PP at hQ9
    refine r_astore4 dX11_madeBy_24 rfl ?_
    refine n_iconst dX11_madeBy_26 (by decide) (fun r26 e26_z => ?_)
    refine r_istore5 dX11_madeBy_27 rfl ?_
    have lp : ∀ (mz : Nat) (c : Int32) (k : Nat) (f2_z : Nat → Nat → Int32), c.toInt = (k : Nat) → k ≤ (nodesR (lyFlat (tbC T))).length → frF X f1_z f2_z → ((nodesR (lyFlat (tbC T))).take k).find? (fun y => PP y.1 y.2.1) = none → 1025 - k < mz → zR (zV g 9 yX11_madeBy 6 (some .int) (4, 24) Q QX) cX11_madeBy yX11_madeBy.cls 29 [some (.ref X), some (.int x), some (.int y0), some (.ref (X + 231 + 2 * x.toInt.toNat)), some (.ref (X + 75)), some (.int c)] [] (zM w f2_z j) (3, 18) := by
      intro mz
      induction mz with
      | zero =>
        intro c k f2_z hck hk ho hno hmz
        exact absurd hmz (Nat.not_lt_zero _)
      | succ mz ih =>
        intro c k f2_z hck hk ho hno hmz
        have hc2 := frL_wy hc1 (frF_L ho) (Or.inr rfl)
        have ht2 := tbAt_Q ht1 (frL_Q (frF_L ho) (Or.inr rfl))
        have hn1000 := nodes_len hrf
        have hsz : (f2_z (X + 75) 12).toInt = ((nodesR (lyFlat (tbC T))).length : Nat) := hc2.1.1
        have hct2 : ctTr f2_z j (X + 231 + 2 * x.toInt.toNat) (some (s, l)) := ctTr_of hct1 (ho _ (by omega)) rfl
        rcases Nat.lt_or_ge k (nodesR (lyFlat (tbC T))).length with hkl | hkl
        · obtain ⟨y, hnd⟩ : ∃ y, (nodesR (lyFlat (tbC T)))[k]? = some y := ⟨_, List.getElem?_eq_getElem hkl⟩
          have hdle := nd_dep hnd
          refine r_iload5 dX11_madeBy_29 ?_
          refine r_aloadR4 dX11_madeBy_31 ?_
          refine m_getV (x := (f2_z (X + 75) 12)) zf_RX11_358 rfl dX11_madeBy_33 (shWy_k (shX_wf hx)) (rfl) ?_
          refine t_icge (t := 79) dX11_madeBy_36 (by decide) (fun h36 => False.elim (by omega)) (fun h36 => ?_)
          refine r_aloadR4 dX11_madeBy_39 ?_
          refine r_iload5 dX11_madeBy_41 ?_
          refine q_callV1 zm_RX11_361 dX11_madeBy_43 (shWy_k (shX_wf hx)) (by decide) rfl (Nat.le_of_ble_eq_true rfl) (Nat.le_of_ble_eq_true rfl) (Nat.le_of_ble_eq_true rfl) (Nat.le_of_ble_eq_true rfl) (Nat.le_of_ble_eq_true rfl) (s_X9_depthOf (k := k) G (shX_wf hx) hck (by omega) (fun r43 e43 => ?_))
          have hd43 := wy_dep hc2 hnd e43
          refine n_iconst dX11_madeBy_46 (by decide) (fun r46 e46 => ?_)
          refine t_icgt (t := 79) dX11_madeBy_47 (by decide) (fun h47 => False.elim (by omega)) (fun h47 => ?_)
          refine r_aloadR4 dX11_madeBy_50 ?_
          refine r_iload5 dX11_madeBy_52 ?_
          refine q_callV1 zm_RX11_408 dX11_madeBy_54 (shWy_k (shX_wf hx)) (by decide) rfl (Nat.le_of_ble_eq_true rfl) (Nat.le_of_ble_eq_true rfl) (Nat.le_of_ble_eq_true rfl) (Nat.le_of_ble_eq_true rfl) (Nat.le_of_ble_eq_true rfl) (s_X9_layOf G (shX_wf hx) hc2 hck hnd (fun f4_z ho4 hl4 => ?_))
          have hF4 : frF X f2_z f4_z := fun q hq => ho4 q (by omega)
          have ht4 := tbAt_Q ht2 (frL_Q (frF_L hF4) (Or.inr rfl))
          have hct4 : ctTr f4_z j (X + 231 + 2 * x.toInt.toNat) (some (s, l)) := ctTr_of hct2 (ho4 _ (by omega)) rfl
          have hc4 := frL_wy hc1 (frF_L (frF_tr ho hF4)) (Or.inr rfl)
          have hry := hc2.2.2.2.2 y (List.mem_of_getElem? hnd)
          refine r_aloadR3 dX11_madeBy_57 ?_
          refine q_callS2 zm_RX11_456 dX11_madeBy_58 (Nat.le_of_ble_eq_true rfl) (Nat.le_of_ble_eq_true rfl) (Nat.le_of_ble_eq_true rfl) (Nat.le_of_ble_eq_true rfl) (Nat.le_of_ble_eq_true rfl) (s_X11_isCreasedSo (n := tbC T) G (shWy_s (shX_wf hx)) hl4 (shX_ty hx hxk).1 hct4 hry hn6 (by have := hcr.1; omega) (fun rA eA => ?_))
          have hPq : PP y.1 y.2.1 = true ↔ creC y.1 l := by rw [← hPd]; exact @decide_eq_true_iff _ (Classical.propDecidable _)
          refine t_ifeq (t := 73) dX11_madeBy_61 (by decide) (fun h61 => ?_) (fun h61 => ?_)
          · refine n_iinc5 dX11_madeBy_73 (by decide) rfl (by omega) (fun r73 e73 => ?_)
            refine r_goto (t := 29) dX11_madeBy_76 (by decide) ?_
            have hno9 : ¬ creC y.1 l := by
              intro h9
              rcases eA with ⟨h91, _⟩ | ⟨_, h92⟩
              · omega
              · exact h92 h9
            refine ih _ (k + 1) f4_z (by omega) (by omega) (frF_tr ho hF4) ?_ (by omega)
            show ((nodesR (lyFlat (tbC T))).take (k + 1)).find? (fun y => PP y.1 y.2.1) = none
            rw [take_snoc hnd, find_snoc hno]
            exact if_neg (fun h9 => hno9 (hPq.mp h9))
          · refine r_aloadR4 dX11_madeBy_64 ?_
            refine r_iload5 dX11_madeBy_66 ?_
            refine r_iload2 dX11_madeBy_68 ?_
            refine q_callV2 zm_RX11_415 dX11_madeBy_69 (shWy_k (shX_wf hx)) (by decide) rfl (Nat.le_of_ble_eq_true rfl) (Nat.le_of_ble_eq_true rfl) (Nat.le_of_ble_eq_true rfl) (Nat.le_of_ble_eq_true rfl) (Nat.le_of_ble_eq_true rfl) (s_X9_foldOf G (shX_wf hx) hc4 hck hnd (fun r69 e69 => ?_))
            refine r_iret dX11_madeBy_72 rfl (Nat.le_of_ble_eq_true rfl) (Nat.le_of_ble_eq_true rfl) ?_
            have hyes : creC y.1 l := by
              rcases eA with ⟨_, h92⟩ | ⟨h91, _⟩
              · exact h92
              · omega
            refine hQ9 _ f4_z ?_ (HEND f4_z (frF_tr ho hF4))
            have hfd : (nodesR (lyFlat (tbC T))).find? (fun y => PP y.1 y.2.1) = some y := find_hit hno hnd (hPq.mpr hyes)
            have hfd2 : findW PP (nodesR (lyFlat (tbC T))) = some y := hfd
            rw [hfd2]
            show r69.toInt = (moFold y.2.1 y0.toInt).toInt
            rw [e69]
        · have hful : (nodesR (lyFlat (tbC T))).take k = nodesR (lyFlat (tbC T)) := List.take_of_length_le hkl
          rw [hful] at hno
          have hfd : findW PP (nodesR (lyFlat (tbC T))) = none := hno
          rw [hfd] at hQ9
          refine r_iload5 dX11_madeBy_29 ?_
          refine r_aloadR4 dX11_madeBy_31 ?_
          refine m_getV (x := (f2_z (X + 75) 12)) zf_RX11_358 rfl dX11_madeBy_33 (shWy_k (shX_wf hx)) (rfl) ?_
          refine t_icge (t := 79) dX11_madeBy_36 (by decide) (fun h36 => ?_) (fun h36 => False.elim (by omega))
          refine n_iconst dX11_madeBy_79 (by decide) (fun r79 e79 => ?_)
          refine r_iret dX11_madeBy_80 rfl (Nat.le_of_ble_eq_true rfl) (Nat.le_of_ble_eq_true rfl) ?_
          exact hQ9 _ f2_z (by show _ = (-1 : Int); omega) (HEND f2_z ho)
    exact lp 1026 _ 0 f1_z (by omega) (by omega) frF_rf rfl (by omega)
  · refine r_throw zth_IA (List.mem_of_getElem? (i := 7) rfl) dX11_madeBy_10 dX11_madeBy_13 dX11_madeBy_14 dX11_madeBy_16 dX11_madeBy_19 (Nat.le_of_ble_eq_true rfl) (Nat.le_of_ble_eq_true rfl) (Nat.le_of_ble_eq_true rfl) (Nat.le_of_ble_eq_true rfl) ?_
    exact hXIA hok s l hcs (fun h9 => absurd h9.2 (by omega))
set_option maxHeartbeats 4000000 in
set_option maxRecDepth 100000 in
theorem s_X11_made {g : zGT} {w : zW} {f : Nat → Nat → Int32} {j : Nat → Nat → Int64} {X : Nat} {T : zTb} {x : Int32} {ty : Nat → zTy} {Q : Option Value → zW → Prop} {QX : String → zW → Prop} (G : zGok g) (hx : shX w X) (ht : tbAt w f X (X + 11) T) (hty : ∀ i, i < 4 → ctTr f j (X + 231 + 2 * i) (ty i)) (hI : wyI f (X + 75)) (hXNE : ¬ (0 ≤ x.toInt ∧ x.toInt < 4) → ∀ n, zS w ≤ n → QX "java/util/NoSuchElementException" (zsS (zM w f j) n)) (hXIS : (0 ≤ x.toInt ∧ x.toInt < 4) → ty x.toInt.toNat = none → ∀ n, zS w ≤ n → QX "java/lang/IllegalStateException" (zsS (zM w f j) n)) (hXIA : (0 ≤ x.toInt ∧ x.toInt < 4) → ∀ s l, ty x.toInt.toNat = some (s, l) → ¬ (l.length = tbC T - 1 ∧ ∀ v ∈ l, 0 ≤ v ∧ v ≤ 2) → ∀ n, zS w ≤ n → QX "java/lang/IllegalArgumentException" (zsS (zM w f j) n)) (hQ : (0 ≤ x.toInt ∧ x.toInt < 4) → ∀ s l, ty x.toInt.toNat = some (s, l) → (l.length = tbC T - 1 ∧ ∀ v ∈ l, 0 ≤ v ∧ v ≤ 2) → ∀ (r : Int32) f2_z, r.toInt = (sumR (fun (L : zLy) => @decide (creC L l) (Classical.propDecidable _)) (nodesR (lyFlat (tbC T))) : Nat) → qX X f f2_z → Q (some (.int r)) (zM w f2_z j)) : zC g 9 yX11_made cX11_made 6 (some .int) [.ref X, .int x] (zM w f j) (3, 18) Q QX := by
  refine zC_of G (by decide +kernel) (Nat.le_of_ble_eq_true rfl) ?_
  have ht0 := ht
  obtain ⟨nq, pp, g0, p0, hnq, hna0, hpp, hctb, hpast, hwf⟩ := ht0
  have hna1 := hna0
  obtain ⟨hna, hcn, ⟨hz1, hz2, hz3⟩, hl1, hl2, hl3⟩ := hna0
  have hmo := hctb.2.2.1
  have hn6 : tbC T ≤ 6 := hwf.2.1
  have hg4 : tbG T ≤ 4 := hwf.2.2.1
  have hwm := hwf.2.2.2.2.2.2.2.1
  have hrt := wfT_rch hwf
  have hfl : (f (X + 11 + 7) 2).toInt = (T.2.2.1.2.length : Nat) := by rw [hmo.1]; have := hmo.2.1; exact zi_n (by omega)
  have hcells : (f nq 1).toInt = (tbC T : Nat) := by rw [hcn.2.1]; exact zi_n (n := tbC T) (by omega)
  have hgs : (f nq 2).toInt = (tbG T : Nat) := by rw [hcn.2.2.1]; exact zi_n (n := tbG T) (by omega)
  have hrf : rch (tbC T) (lyFlat (tbC T)) := rch_flat hn6
  refine r_aloadR0 dX11_made_0 ?_
  refine r_iload1 dX11_made_1 ?_
  refine q_callV1 zm_RX11_453 dX11_made_2 (shX_k (w := w) hx) (by decide) rfl (Nat.le_of_ble_eq_true rfl) (Nat.le_of_ble_eq_true rfl) (Nat.le_of_ble_eq_true rfl) (Nat.le_of_ble_eq_true rfl) (Nat.le_of_ble_eq_true rfl) (s_X11_creasesIn G hx ht hty (fun hxx n hn => x_out (hXNE hxx n hn) (Nat.le_of_ble_eq_true rfl) (Nat.le_of_ble_eq_true rfl)) (fun hxx hyy n hn => x_out (hXIS hxx hyy n hn) (Nat.le_of_ble_eq_true rfl) (Nat.le_of_ble_eq_true rfl)) (fun hxx s l hcs hyy n hn => x_out (hXIA hxx s l hcs hyy n hn) (Nat.le_of_ble_eq_true rfl) (Nat.le_of_ble_eq_true rfl)) (fun hok s l hcs hcr => ?_))
  have hxk : x.toInt.toNat < 4 := by omega
  have hct := hty _ hxk
  rw [hcs] at hct
  have hl30 : l.length ≤ 30 := hct.2.2.2.2.1
  refine r_astore2 dX11_made_5 rfl ?_
  refine r_aloadR0 dX11_made_6 ?_
  refine q_callV0 zm_RX11_437 dX11_made_7 (shX_k (w := w) hx) (by decide) rfl (Nat.le_of_ble_eq_true rfl) (Nat.le_of_ble_eq_true rfl) (Nat.le_of_ble_eq_true rfl) (Nat.le_of_ble_eq_true rfl) (Nat.le_of_ble_eq_true rfl) (s_X11_growFromFlat G hx ht hI (fun f1_z hq1 hw1 hs1 hc1 => ?_))
  have ht1 := tbAt_Q ht hq1
  have hct1 : ctTr f1_z j (X + 231 + 2 * x.toInt.toNat) (some (s, l)) := ctTr_of hct (hq1 _ (by omega)) rfl
  have HEND : ∀ f2_z, frF X f1_z f2_z → qX X f f2_z := fun f2_z h9 => qX_fl hq1 hw1 hrf hc1 (frF_L h9)
  have hQ9 := hQ hok s l hcs hcr
  generalize hPd : (fun (L : zLy) => @decide (creC L l) (Classical.propDecidable _)) = PP at hQ9
  refine r_astore3 dX11_made_10 rfl ?_
  refine n_iconst dX11_made_11 (by decide) (fun r11 e11_z => ?_)
  refine r_istore4 dX11_made_12 rfl ?_
  refine n_iconst dX11_made_14 (by decide) (fun r14 e14_z => ?_)
  refine r_istore5 dX11_made_15 rfl ?_
  have lp : ∀ (mz : Nat) (v : Int32) (c : Int32) (k : Nat) (f2_z : Nat → Nat → Int32), c.toInt = (k : Nat) → k ≤ (nodesR (lyFlat (tbC T))).length → frF X f1_z f2_z → v.toInt = (sumR PP ((nodesR (lyFlat (tbC T))).take k) : Nat) → 1025 - k < mz → zR (zV g 9 yX11_made 6 (some .int) (3, 18) Q QX) cX11_made yX11_made.cls 17 [some (.ref X), some (.int x), some (.ref (X + 231 + 2 * x.toInt.toNat)), some (.ref (X + 75)), some (.int v), some (.int c)] [] (zM w f2_z j) (3, 18) := by
    intro mz
    induction mz with
    | zero =>
      intro v c k f2_z hck hk ho hv hmz
      exact absurd hmz (Nat.not_lt_zero _)
    | succ mz ih =>
      intro v c k f2_z hck hk ho hv hmz
      have hc2 := frL_wy hc1 (frF_L ho) (Or.inr rfl)
      have ht2 := tbAt_Q ht1 (frL_Q (frF_L ho) (Or.inr rfl))
      have hn1000 := nodes_len hrf
      have hsz : (f2_z (X + 75) 12).toInt = ((nodesR (lyFlat (tbC T))).length : Nat) := hc2.1.1
      have hct2 : ctTr f2_z j (X + 231 + 2 * x.toInt.toNat) (some (s, l)) := ctTr_of hct1 (ho _ (by omega)) rfl
      rcases Nat.lt_or_ge k (nodesR (lyFlat (tbC T))).length with hkl | hkl
      · obtain ⟨y, hy⟩ : ∃ y, (nodesR (lyFlat (tbC T)))[k]? = some y := ⟨_, List.getElem?_eq_getElem hkl⟩
        have hnd := hy
        have hdle := nd_dep hnd
        have hsn : sumR PP ((nodesR (lyFlat (tbC T))).take (k + 1)) = sumR PP ((nodesR (lyFlat (tbC T))).take k) + (if PP y.1 = true then y.2.2 else 0) := by rw [take_snoc hy, sumR_app, sumR_one]
        have hbd := sumR_take (p := PP) (k := k + 1) (X := (nodesR (lyFlat (tbC T))))
        have hls : sumR PP (nodesR (lyFlat (tbC T))) ≤ 20 ^ 6 := sumR_levs hrf PP 6
        have e20 : (20 : Nat) ^ 6 = 64000000 := rfl
        refine r_iload5 dX11_made_17 ?_
        refine r_aloadR3 dX11_made_19 ?_
        refine m_getV (x := (f2_z (X + 75) 12)) zf_RX11_358 rfl dX11_made_20 (shWy_k (shX_wf hx)) (rfl) ?_
        refine t_icge (t := 66) dX11_made_23 (by decide) (fun h23 => False.elim (by omega)) (fun h23 => ?_)
        refine r_aloadR3 dX11_made_26 ?_
        refine r_iload5 dX11_made_27 ?_
        refine q_callV1 zm_RX11_361 dX11_made_29 (shWy_k (shX_wf hx)) (by decide) rfl (Nat.le_of_ble_eq_true rfl) (Nat.le_of_ble_eq_true rfl) (Nat.le_of_ble_eq_true rfl) (Nat.le_of_ble_eq_true rfl) (Nat.le_of_ble_eq_true rfl) (s_X9_depthOf (k := k) G (shX_wf hx) hck (by omega) (fun r29 e29 => ?_))
        have hd29 := wy_dep hc2 hnd e29
        refine n_iconst dX11_made_32 (by decide) (fun r32 e32 => ?_)
        refine t_icgt (t := 66) dX11_made_33 (by decide) (fun h33 => False.elim (by omega)) (fun h33 => ?_)
        refine r_aloadR3 dX11_made_36 ?_
        refine r_iload5 dX11_made_37 ?_
        refine q_callV1 zm_RX11_408 dX11_made_39 (shWy_k (shX_wf hx)) (by decide) rfl (Nat.le_of_ble_eq_true rfl) (Nat.le_of_ble_eq_true rfl) (Nat.le_of_ble_eq_true rfl) (Nat.le_of_ble_eq_true rfl) (Nat.le_of_ble_eq_true rfl) (s_X9_layOf G (shX_wf hx) hc2 hck hnd (fun f4_z ho4 hl4 => ?_))
        have hF4 : frF X f2_z f4_z := fun q hq => ho4 q (by omega)
        have ht4 := tbAt_Q ht2 (frL_Q (frF_L hF4) (Or.inr rfl))
        have hct4 : ctTr f4_z j (X + 231 + 2 * x.toInt.toNat) (some (s, l)) := ctTr_of hct2 (ho4 _ (by omega)) rfl
        have hc4 := frL_wy hc1 (frF_L (frF_tr ho hF4)) (Or.inr rfl)
        have hry := hc2.2.2.2.2 y (List.mem_of_getElem? hnd)
        refine r_aloadR2 dX11_made_42 ?_
        refine q_callS2 zm_RX11_456 dX11_made_43 (Nat.le_of_ble_eq_true rfl) (Nat.le_of_ble_eq_true rfl) (Nat.le_of_ble_eq_true rfl) (Nat.le_of_ble_eq_true rfl) (Nat.le_of_ble_eq_true rfl) (s_X11_isCreasedSo (n := tbC T) G (shWy_s (shX_wf hx)) hl4 (shX_ty hx hxk).1 hct4 hry hn6 (by have := hcr.1; omega) (fun rA eA => ?_))
        have hPq : PP y.1 = true ↔ creC y.1 l := by rw [← hPd]; exact @decide_eq_true_iff _ (Classical.propDecidable _)
        refine t_ifeq (t := 60) dX11_made_46 (by decide) (fun h46 => ?_) (fun h46 => ?_)
        · refine n_iinc5 dX11_made_60 (by decide) rfl (by omega) (fun r60 e60 => ?_)
          refine r_goto (t := 17) dX11_made_63 (by decide) ?_
          have hno9 : ¬ creC y.1 l := by
            intro h9
            rcases eA with ⟨h91, _⟩ | ⟨_, h92⟩
            · omega
            · exact h92 h9
          rw [if_neg (fun h9 => hno9 (hPq.mp h9))] at hsn
          exact ih _ _ (k + 1) f4_z (by omega) (by omega) (frF_tr ho hF4) (by omega) (by omega)
        · have hyes : creC y.1 l := by
            rcases eA with ⟨_, h92⟩ | ⟨h91, _⟩
            · exact h92
            · omega
          refine r_iload4 dX11_made_49 ?_
          refine r_aloadR3 dX11_made_51 ?_
          refine r_iload5 dX11_made_52 ?_
          refine q_callV1 zm_RX11_364 dX11_made_54 (shWy_k (shX_wf hx)) (by decide) rfl (Nat.le_of_ble_eq_true rfl) (Nat.le_of_ble_eq_true rfl) (Nat.le_of_ble_eq_true rfl) (Nat.le_of_ble_eq_true rfl) (Nat.le_of_ble_eq_true rfl) (s_X9_rowsTo (k := k) G (shX_wf hx) hck (by omega) (fun r54 e54 => ?_))
          have hr54 := wy_cou hc4 hnd e54
          rw [if_pos (hPq.mpr hyes)] at hsn
          refine n_iadd dX11_made_57 (by omega) (fun r57 e57 => ?_)
          refine r_istore4 dX11_made_58 rfl ?_
          refine n_iinc5 dX11_made_60 (by decide) rfl (by omega) (fun r60 e60 => ?_)
          refine r_goto (t := 17) dX11_made_63 (by decide) ?_
          exact ih _ _ (k + 1) f4_z (by omega) (by omega) (frF_tr ho hF4) (by omega) (by omega)
      · have hful : (nodesR (lyFlat (tbC T))).take k = (nodesR (lyFlat (tbC T))) := List.take_of_length_le hkl
        rw [hful] at hv
        refine r_iload5 dX11_made_17 ?_
        refine r_aloadR3 dX11_made_19 ?_
        refine m_getV (x := (f2_z (X + 75) 12)) zf_RX11_358 rfl dX11_made_20 (shWy_k (shX_wf hx)) (rfl) ?_
        refine t_icge (t := 66) dX11_made_23 (by decide) (fun h23 => ?_) (fun h23 => False.elim (by omega))
        refine r_iload4 dX11_made_66 ?_
        refine r_iret dX11_made_68 rfl (Nat.le_of_ble_eq_true rfl) (Nat.le_of_ble_eq_true rfl) ?_
        exact hQ9 _ f2_z hv (HEND f2_z ho)
  exact lp 1026 _ _ 0 f1_z (by omega) (by omega) frF_rf (by rw [List.take_zero]; show _ = ((0 : Nat) : Int); omega) (by omega)
set_option maxHeartbeats 4000000 in
set_option maxRecDepth 100000 in
theorem s_X11_seen {g : zGT} {w : zW} {f : Nat → Nat → Int32} {j : Nat → Nat → Int64} {X : Nat} {T : zTb} {x y0 : Int32} {ty : Nat → zTy} {Q : Option Value → zW → Prop} {QX : String → zW → Prop} (G : zGok g) (hx : shX w X) (ht : tbAt w f X (X + 11) T) (hty : ∀ i, i < 4 → ctTr f j (X + 231 + 2 * i) (ty i)) (hI : wyI f (X + 75)) (hXNE : ¬ (0 ≤ x.toInt ∧ x.toInt < 4) → ∀ n, zS w ≤ n → QX "java/util/NoSuchElementException" (zsS (zM w f j) n)) (hXIS : (0 ≤ x.toInt ∧ x.toInt < 4) → ty x.toInt.toNat = none → ∀ n, zS w ≤ n → QX "java/lang/IllegalStateException" (zsS (zM w f j) n)) (hXIA : (0 ≤ x.toInt ∧ x.toInt < 4) → ∀ s l, ty x.toInt.toNat = some (s, l) → ¬ (sightC l ∧ 0 ≤ y0.toInt ∧ y0.toInt ≤ 4) → ∀ n, zS w ≤ n → QX "java/lang/IllegalArgumentException" (zsS (zM w f j) n)) (hQ : (0 ≤ x.toInt ∧ x.toInt < 4) → ∀ s l, ty x.toInt.toNat = some (s, l) → (sightC l ∧ 0 ≤ y0.toInt ∧ y0.toInt ≤ 4) → ∀ (r : Int32) f2_z, r.toInt = (sumR (fun (L : zLy) => @decide (lookC T.2.2.1.1 L l) (Classical.propDecidable _)) (levs (lyFlat (tbC T)) (y0.toInt.toNat + 1)) : Nat) → qX X f f2_z → Q (some (.int r)) (zM w f2_z j)) : zC g 9 yX11_seen cX11_seen 7 (some .int) [.ref X, .int x, .int y0] (zM w f j) (3, 18) Q QX := by
  refine zC_of G (by decide +kernel) (Nat.le_of_ble_eq_true rfl) ?_
  have ht0 := ht
  obtain ⟨nq, pp, g0, p0, hnq, hna0, hpp, hctb, hpast, hwf⟩ := ht0
  have hna1 := hna0
  obtain ⟨hna, hcn, ⟨hz1, hz2, hz3⟩, hl1, hl2, hl3⟩ := hna0
  have hmo := hctb.2.2.1
  have hn6 : tbC T ≤ 6 := hwf.2.1
  have hg4 : tbG T ≤ 4 := hwf.2.2.1
  have hwm := hwf.2.2.2.2.2.2.2.1
  have hrt := wfT_rch hwf
  have hfl : (f (X + 11 + 7) 2).toInt = (T.2.2.1.2.length : Nat) := by rw [hmo.1]; have := hmo.2.1; exact zi_n (by omega)
  have hcells : (f nq 1).toInt = (tbC T : Nat) := by rw [hcn.2.1]; exact zi_n (n := tbC T) (by omega)
  have hgs : (f nq 2).toInt = (tbG T : Nat) := by rw [hcn.2.2.1]; exact zi_n (n := tbG T) (by omega)
  have hrf : rch (tbC T) (lyFlat (tbC T)) := rch_flat hn6
  refine r_aloadR0 dX11_seen_0 ?_
  refine r_iload1 dX11_seen_1 ?_
  refine r_iload2 dX11_seen_2 ?_
  refine q_callV2 zm_RX11_495 dX11_seen_3 (shX_k (w := w) hx) (by decide) rfl (Nat.le_of_ble_eq_true rfl) (Nat.le_of_ble_eq_true rfl) (Nat.le_of_ble_eq_true rfl) (Nat.le_of_ble_eq_true rfl) (Nat.le_of_ble_eq_true rfl) (s_X11_sightIn G hx hty (fun hxx n hn => x_out (hXNE hxx n hn) (Nat.le_of_ble_eq_true rfl) (Nat.le_of_ble_eq_true rfl)) (fun hxx hyy n hn => x_out (hXIS hxx hyy n hn) (Nat.le_of_ble_eq_true rfl) (Nat.le_of_ble_eq_true rfl)) (fun hxx s l hcs hyy n hn => x_out (hXIA hxx s l hcs hyy n hn) (Nat.le_of_ble_eq_true rfl) (Nat.le_of_ble_eq_true rfl)) (fun hok s l hcs hcr => ?_))
  have hxk : x.toInt.toNat < 4 := by omega
  have hct := hty _ hxk
  rw [hcs] at hct
  have hl30 : l.length ≤ 30 := hct.2.2.2.2.1
  refine r_astore3 dX11_seen_6 rfl ?_
  refine r_aloadR0 dX11_seen_7 ?_
  refine q_callV0 zm_RX11_437 dX11_seen_8 (shX_k (w := w) hx) (by decide) rfl (Nat.le_of_ble_eq_true rfl) (Nat.le_of_ble_eq_true rfl) (Nat.le_of_ble_eq_true rfl) (Nat.le_of_ble_eq_true rfl) (Nat.le_of_ble_eq_true rfl) (s_X11_growFromFlat G hx ht hI (fun f1_z hq1 hw1 hs1 hc1 => ?_))
  have ht1 := tbAt_Q ht hq1
  have hct1 : ctTr f1_z j (X + 231 + 2 * x.toInt.toNat) (some (s, l)) := ctTr_of hct (hq1 _ (by omega)) rfl
  have HEND : ∀ f2_z, frF X f1_z f2_z → qX X f f2_z := fun f2_z h9 => qX_fl hq1 hw1 hrf hc1 (frF_L h9)
  have hQ9 := hQ hok s l hcs hcr
  have hy04 := hcr.2
  generalize hPd : (fun (L : zLy) => @decide (lookC T.2.2.1.1 L l) (Classical.propDecidable _)) = PP at hQ9
  refine r_astore4 dX11_seen_11 rfl ?_
  refine n_iconst dX11_seen_13 (by decide) (fun r13 e13_z => ?_)
  refine r_istore5 dX11_seen_14 rfl ?_
  refine n_iconst dX11_seen_16 (by decide) (fun r16 e16_z => ?_)
  refine r_istore6 dX11_seen_17 rfl ?_
  have lp : ∀ (mz : Nat) (v : Int32) (c : Int32) (k : Nat) (f2_z : Nat → Nat → Int32), c.toInt = (k : Nat) → k ≤ (levs (lyFlat (tbC T)) (y0.toInt.toNat + 1)).length → frF X f1_z f2_z → v.toInt = (sumR PP ((levs (lyFlat (tbC T)) (y0.toInt.toNat + 1)).take k) : Nat) → 1025 - k < mz → zR (zV g 9 yX11_seen 7 (some .int) (3, 18) Q QX) cX11_seen yX11_seen.cls 19 [some (.ref X), some (.int x), some (.int y0), some (.ref (X + 231 + 2 * x.toInt.toNat)), some (.ref (X + 75)), some (.int v), some (.int c)] [] (zM w f2_z j) (3, 18) := by
    intro mz
    induction mz with
    | zero =>
      intro v c k f2_z hck hk ho hv hmz
      exact absurd hmz (Nat.not_lt_zero _)
    | succ mz ih =>
      intro v c k f2_z hck hk ho hv hmz
      have hc2 := frL_wy hc1 (frF_L ho) (Or.inr rfl)
      have ht2 := tbAt_Q ht1 (frL_Q (frF_L ho) (Or.inr rfl))
      have hn1000 := nodes_len hrf
      have hsz : (f2_z (X + 75) 12).toInt = ((nodesR (lyFlat (tbC T))).length : Nat) := hc2.1.1
      have hct2 : ctTr f2_z j (X + 231 + 2 * x.toInt.toNat) (some (s, l)) := ctTr_of hct1 (ho _ (by omega)) rfl
      have hnl := nd_len (L := (lyFlat (tbC T))) (n := y0.toInt.toNat) (by omega)
      rcases Nat.lt_or_ge k (levs (lyFlat (tbC T)) (y0.toInt.toNat + 1)).length with hkl | hkl
      · obtain ⟨y, hy⟩ : ∃ y, (levs (lyFlat (tbC T)) (y0.toInt.toNat + 1))[k]? = some y := ⟨_, List.getElem?_eq_getElem hkl⟩
        obtain ⟨hnd, hdle⟩ := nd_in (by omega) hy
        have hsn : sumR PP ((levs (lyFlat (tbC T)) (y0.toInt.toNat + 1)).take (k + 1)) = sumR PP ((levs (lyFlat (tbC T)) (y0.toInt.toNat + 1)).take k) + (if PP y.1 = true then y.2.2 else 0) := by rw [take_snoc hy, sumR_app, sumR_one]
        have hbd := sumR_take (p := PP) (k := k + 1) (X := (levs (lyFlat (tbC T)) (y0.toInt.toNat + 1)))
        have hls : sumR PP (levs (lyFlat (tbC T)) (y0.toInt.toNat + 1)) ≤ 20 ^ 6 := Nat.le_trans (sumR_levs hrf PP _) (Nat.pow_le_pow_right (by decide) (by omega))
        have e20 : (20 : Nat) ^ 6 = 64000000 := rfl
        refine r_iload6 dX11_seen_19 ?_
        refine r_aloadR4 dX11_seen_21 ?_
        refine m_getV (x := (f2_z (X + 75) 12)) zf_RX11_358 rfl dX11_seen_23 (shWy_k (shX_wf hx)) (rfl) ?_
        refine t_icge (t := 73) dX11_seen_26 (by decide) (fun h26 => False.elim (by omega)) (fun h26 => ?_)
        refine r_aloadR4 dX11_seen_29 ?_
        refine r_iload6 dX11_seen_31 ?_
        refine q_callV1 zm_RX11_361 dX11_seen_33 (shWy_k (shX_wf hx)) (by decide) rfl (Nat.le_of_ble_eq_true rfl) (Nat.le_of_ble_eq_true rfl) (Nat.le_of_ble_eq_true rfl) (Nat.le_of_ble_eq_true rfl) (Nat.le_of_ble_eq_true rfl) (s_X9_depthOf (k := k) G (shX_wf hx) hck (by omega) (fun r33 e33_z => ?_))
        have hd33 := wy_dep hc2 hnd e33_z
        refine r_iload2 dX11_seen_36 ?_
        refine t_icgt (t := 73) dX11_seen_37 (by decide) (fun h37 => False.elim (by omega)) (fun h37 => ?_)
        refine r_aloadR0 dX11_seen_40 ?_
        refine r_aloadR4 dX11_seen_41 ?_
        refine r_iload6 dX11_seen_43 ?_
        refine q_callV1 zm_RX11_408 dX11_seen_45 (shWy_k (shX_wf hx)) (by decide) rfl (Nat.le_of_ble_eq_true rfl) (Nat.le_of_ble_eq_true rfl) (Nat.le_of_ble_eq_true rfl) (Nat.le_of_ble_eq_true rfl) (Nat.le_of_ble_eq_true rfl) (s_X9_layOf G (shX_wf hx) hc2 hck hnd (fun f4_z ho4 hl4 => ?_))
        have hF4 : frF X f2_z f4_z := fun q hq => ho4 q (by omega)
        have ht4 := tbAt_Q ht2 (frL_Q (frF_L hF4) (Or.inr rfl))
        have hct4 : ctTr f4_z j (X + 231 + 2 * x.toInt.toNat) (some (s, l)) := ctTr_of hct2 (ho4 _ (by omega)) rfl
        have hc4 := frL_wy hc1 (frF_L (frF_tr ho hF4)) (Or.inr rfl)
        have hry := hc2.2.2.2.2 y (List.mem_of_getElem? hnd)
        refine r_aloadR3 dX11_seen_48 ?_
        refine q_callV2 zm_RX11_411 dX11_seen_49 (shX_k (w := w) hx) (by decide) rfl (Nat.le_of_ble_eq_true rfl) (Nat.le_of_ble_eq_true rfl) (Nat.le_of_ble_eq_true rfl) (Nat.le_of_ble_eq_true rfl) (Nat.le_of_ble_eq_true rfl) (s_X11_looksSo G hx ht4 (shWy_s (shX_wf hx)) hl4 (shX_ty hx hxk).1 hct4 hry (fun rA eA => ?_))
        have hPq : PP y.1 = true ↔ lookC T.2.2.1.1 y.1 l := by rw [← hPd]; exact @decide_eq_true_iff _ (Classical.propDecidable _)
        refine t_ifeq (t := 67) dX11_seen_52 (by decide) (fun h52 => ?_) (fun h52 => ?_)
        · refine n_iinc6 dX11_seen_67 (by decide) rfl (by omega) (fun r67 e67 => ?_)
          refine r_goto (t := 19) dX11_seen_70 (by decide) ?_
          have hno9 : ¬ lookC T.2.2.1.1 y.1 l := by
            intro h9
            rcases eA with ⟨h91, _⟩ | ⟨_, h92⟩
            · omega
            · exact h92 h9
          rw [if_neg (fun h9 => hno9 (hPq.mp h9))] at hsn
          exact ih _ _ (k + 1) f4_z (by omega) (by omega) (frF_tr ho hF4) (by omega) (by omega)
        · have hyes : lookC T.2.2.1.1 y.1 l := by
            rcases eA with ⟨_, h92⟩ | ⟨h91, _⟩
            · exact h92
            · omega
          refine r_iload5 dX11_seen_55 ?_
          refine r_aloadR4 dX11_seen_57 ?_
          refine r_iload6 dX11_seen_59 ?_
          refine q_callV1 zm_RX11_364 dX11_seen_61 (shWy_k (shX_wf hx)) (by decide) rfl (Nat.le_of_ble_eq_true rfl) (Nat.le_of_ble_eq_true rfl) (Nat.le_of_ble_eq_true rfl) (Nat.le_of_ble_eq_true rfl) (Nat.le_of_ble_eq_true rfl) (s_X9_rowsTo (k := k) G (shX_wf hx) hck (by omega) (fun r61 e61 => ?_))
          have hr61 := wy_cou hc4 hnd e61
          rw [if_pos (hPq.mpr hyes)] at hsn
          refine n_iadd dX11_seen_64 (by omega) (fun r64 e64 => ?_)
          refine r_istore5 dX11_seen_65 rfl ?_
          refine n_iinc6 dX11_seen_67 (by decide) rfl (by omega) (fun r67 e67 => ?_)
          refine r_goto (t := 19) dX11_seen_70 (by decide) ?_
          exact ih _ _ (k + 1) f4_z (by omega) (by omega) (frF_tr ho hF4) (by omega) (by omega)
      · have hful : (levs (lyFlat (tbC T)) (y0.toInt.toNat + 1)).take k = (levs (lyFlat (tbC T)) (y0.toInt.toNat + 1)) := List.take_of_length_le hkl
        rw [hful] at hv
        have hend := hQ9 v f2_z hv (HEND f2_z ho)
        rcases Nat.lt_or_ge k (nodesR (lyFlat (tbC T))).length with hk2 | hk2
        · obtain ⟨y, hnd⟩ : ∃ y, (nodesR (lyFlat (tbC T)))[k]? = some y := ⟨_, List.getElem?_eq_getElem hk2⟩
          have hdl := nd_out (n := y0.toInt.toNat) (by omega) hnd (by omega)
          refine r_iload6 dX11_seen_19 ?_
          refine r_aloadR4 dX11_seen_21 ?_
          refine m_getV (x := (f2_z (X + 75) 12)) zf_RX11_358 rfl dX11_seen_23 (shWy_k (shX_wf hx)) (rfl) ?_
          refine t_icge (t := 73) dX11_seen_26 (by decide) (fun h26 => False.elim (by omega)) (fun h26 => ?_)
          refine r_aloadR4 dX11_seen_29 ?_
          refine r_iload6 dX11_seen_31 ?_
          refine q_callV1 zm_RX11_361 dX11_seen_33 (shWy_k (shX_wf hx)) (by decide) rfl (Nat.le_of_ble_eq_true rfl) (Nat.le_of_ble_eq_true rfl) (Nat.le_of_ble_eq_true rfl) (Nat.le_of_ble_eq_true rfl) (Nat.le_of_ble_eq_true rfl) (s_X9_depthOf (k := k) G (shX_wf hx) hck (by omega) (fun r33 e33_z => ?_))
          have hd33 := wy_dep hc2 hnd e33_z
          refine r_iload2 dX11_seen_36 ?_
          refine t_icgt (t := 73) dX11_seen_37 (by decide) (fun h37 => ?_) (fun h37 => False.elim (by omega))
          refine r_iload5 dX11_seen_73 ?_
          refine r_iret dX11_seen_75 rfl (Nat.le_of_ble_eq_true rfl) (Nat.le_of_ble_eq_true rfl) ?_
          exact hend
        · refine r_iload6 dX11_seen_19 ?_
          refine r_aloadR4 dX11_seen_21 ?_
          refine m_getV (x := (f2_z (X + 75) 12)) zf_RX11_358 rfl dX11_seen_23 (shWy_k (shX_wf hx)) (rfl) ?_
          refine t_icge (t := 73) dX11_seen_26 (by decide) (fun h26 => ?_) (fun h26 => False.elim (by omega))
          refine r_iload5 dX11_seen_73 ?_
          refine r_iret dX11_seen_75 rfl (Nat.le_of_ble_eq_true rfl) (Nat.le_of_ble_eq_true rfl) ?_
          exact hend
  exact lp 1026 _ _ 0 f1_z (by omega) (by omega) frF_rf (by rw [List.take_zero]; show _ = ((0 : Nat) : Int); omega) (by omega)
