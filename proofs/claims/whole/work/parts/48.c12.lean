/-! the class: better, keenest -/
set_option maxHeartbeats 4000000 in
set_option maxRecDepth 100000 in
theorem s_X11_better {g : zGT} {w : zW} {f : Nat → Nat → Int32} {j : Nat → Nat → Int64} {X : Nat} {T : zTb} {x : Int32} {Q : Option Value → zW → Prop} {QX : String → zW → Prop} (G : zGok g) (hx : shX w X) (ht : tbAt w f X (X + 11) T) (hI : wyI f (X + 57)) (hXIA : ¬ (0 ≤ x.toInt ∧ x.toInt ≤ 5) → ∀ n, zS w ≤ n → QX "java/lang/IllegalArgumentException" (zsS (zM w f j) n)) (hQ : (0 ≤ x.toInt ∧ x.toInt ≤ 5) → ∀ (r : Int32) f2_z, r.toInt = ((metL (fun (L : zLy) (r : List Nat) => decide (plV (likV T (tbL T) T.2.2.1.2.length) (likV T L (T.2.2.1.2.length + r.length)) (tbG T) ≠ 0)) (levs (tbL T) (x.toInt.toNat + 1))).length : Nat) → qX X f f2_z → Q (some (.int r)) (zM w f2_z j)) : zC g 9 yX11_better cX11_better 5 (some .int) [.ref X, .int x] (zM w f j) (1, 6) Q QX := by
  refine zC_of G (by decide +kernel) (Nat.le_of_ble_eq_true rfl) ?_
  have ht0 := ht
  obtain ⟨nq, pp, g0, p0, hnq, hna0, hpp, hctb, hpast, hwf⟩ := ht0
  have hna1 := hna0
  obtain ⟨hna, hcn, ⟨hz1, hz2, hz3⟩, hl1, hl2, hl3⟩ := hna0
  have hmo := hctb.2.2.1
  have hn6 : tbC T ≤ 6 := hwf.2.1
  have hg4 : tbG T ≤ 4 := hwf.2.2.1
  have hwm := hwf.2.2.2.2.2.2.2.1
  have hrt := wfT_rch hwf
  have hfl : (f (X + 11 + 7) 2).toInt = (T.2.2.1.2.length : Nat) := by rw [hmo.1]; have := hmo.2.1; exact zi_n (by omega)
  have hcells : (f nq 1).toInt = (tbC T : Nat) := by rw [hcn.2.1]; exact zi_n (n := tbC T) (by omega)
  have hgs : (f nq 2).toInt = (tbG T : Nat) := by rw [hcn.2.2.1]; exact zi_n (n := tbG T) (by omega)
  generalize hPd : (fun (L : zLy) (r : List Nat) => decide (plV (likV T (tbL T) T.2.2.1.2.length) (likV T L (T.2.2.1.2.length + r.length)) (tbG T) ≠ 0)) = PP at hQ
  refine r_iload1 dX11_better_0 ?_
  refine q_callS1 zm_RX11_351 dX11_better_1 (Nat.le_of_ble_eq_true rfl) (Nat.le_of_ble_eq_true rfl) (Nat.le_of_ble_eq_true rfl) (Nat.le_of_ble_eq_true rfl) (Nat.le_of_ble_eq_true rfl) (s_X11_needFoldsOn G (fun hxx n hn => x_out (hXIA hxx n hn) (Nat.le_of_ble_eq_true rfl) (Nat.le_of_ble_eq_true rfl)) (fun hok => ?_))
  refine r_aloadR0 dX11_better_4 ?_
  refine q_callV0 zm_RX11_354 dX11_better_5 (shX_k hx) (by decide) rfl (Nat.le_of_ble_eq_true rfl) (Nat.le_of_ble_eq_true rfl) (Nat.le_of_ble_eq_true rfl) (Nat.le_of_ble_eq_true rfl) (Nat.le_of_ble_eq_true rfl) (s_X11_growOn G hx ht hI (fun f0_z hq1 hw1 hs1 hc0 => ?_))
  have ht0 := tbAt_Q ht hq1
  refine r_astore2 dX11_better_8 rfl ?_
  refine r_aloadR0 dX11_better_9 ?_
  refine q_callV0 zm_RX11_198 dX11_better_10 (shX_k hx) (by decide) rfl (Nat.le_of_ble_eq_true rfl) (Nat.le_of_ble_eq_true rfl) (Nat.le_of_ble_eq_true rfl) (Nat.le_of_ble_eq_true rfl) (Nat.le_of_ble_eq_true rfl) (s_X11_viewNow G hx ht0 (fun f6_z ho6 hv6 => ?_))
  have ht6 := tbAt_Q ht0 (frS_Q ho6)
  have hl5 := hmo.2.1
  refine r_aloadR0 dX11_better_13 ?_
  refine q_callV0 zm_RX11_486 dX11_better_14 (shX_k hx) (by decide) rfl (Nat.le_of_ble_eq_true rfl) (Nat.le_of_ble_eq_true rfl) (Nat.le_of_ble_eq_true rfl) (Nat.le_of_ble_eq_true rfl) (Nat.le_of_ble_eq_true rfl) (s_X11_keepLikes (L := tbL T) (d := T.2.2.1.2.length) G hx ht6 hv6 hrt (by omega) (fun f7_z ho7 hk7 hlk7 => ?_))
  have ht7 := tbAt_Q ht6 (frK_Q ho7)
  have hSS : frS X f0_z f7_z := frS_tr ho6 (frK_S ho7)
  have hc7 : ctWy f7_z (X + 57) (tbC T) (nodesR (tbL T)) := ctWy_rest hc0 (fun r h1 h2 => hSS _ (by omega))
  refine r_aloadR2 dX11_better_17 ?_
  refine q_callV0 zm_RX11_367 dX11_better_18 (shWy_k (shX_wo hx)) (by decide) rfl (Nat.le_of_ble_eq_true rfl) (Nat.le_of_ble_eq_true rfl) (Nat.le_of_ble_eq_true rfl) (Nat.le_of_ble_eq_true rfl) (Nat.le_of_ble_eq_true rfl) (s_X9_forgetMet G (shX_wo hx) (fun f1_z hfm hfz => ?_))
  have hfL : frL X (X + 57) f7_z f1_z := fun q hq => hfm q (by omega)
  have hc1 := frL_wy hc7 hfL (Or.inl rfl)
  have ht1 := tbAt_Q ht7 (frL_Q hfL (Or.inl rfl))
  have HEND : ∀ f2_z, frL X (X + 57) f1_z f2_z → qX X f f2_z := fun f2_z h9 => qX_tr (qX_on hq1 hw1 hrt hc0 frL_rf) (qX_tr (qX_S hSS) (qX_on frQ_rf (fun _ _ _ => rfl) hrt hc7 (frL_tr hfL h9)))
  have hmr0 := metR_0 hfz hc1.1.2.2.1
  have hlk1 : ∀ i, i < tbG T → (f1_z (X + 105) i).toInt = likV T (tbL T) T.2.2.1.2.length i := fun i hi_z => by rw [hfm _ (by omega)]; exact hlk7 i hi_z
  refine n_iconst dX11_better_21 (by decide) (fun r21 e21_z => ?_)
  refine r_istore3 dX11_better_22 rfl ?_
  refine n_iconst dX11_better_23 (by decide) (fun r23 e23_z => ?_)
  refine r_istore4 dX11_better_24 rfl ?_
  have lp : ∀ (mz : Nat) (v : Int32) (c : Int32) (k : Nat) (f2_z : Nat → Nat → Int32), c.toInt = (k : Nat) → k ≤ (levs (tbL T) (x.toInt.toNat + 1)).length → frL X (X + 57) f1_z f2_z → v.toInt = ((metL PP ((levs (tbL T) (x.toInt.toNat + 1)).take k)).length : Nat) → metR (f2_z (X + 57 + 8)) (nodesR (tbL T)) (metL PP ((levs (tbL T) (x.toInt.toNat + 1)).take k)) → 1025 - k < mz → zR (zV g 9 yX11_better 5 (some .int) (1, 6) Q QX) cX11_better yX11_better.cls 26 [some (.ref X), some (.int x), some (.ref (X + 57)), some (.int v), some (.int c)] [] (zM w f2_z j) (1, 6) := by
    intro mz
    induction mz with
    | zero =>
      intro v c k f2_z hc_z hk ho hv hmr hmz
      exact absurd hmz (Nat.not_lt_zero _)
    | succ mz ih =>
      intro v c k f2_z hc_z hk ho hv hmr hmz
      have hc2 := frL_wy hc1 ho (Or.inl rfl)
      have ht2 := tbAt_Q ht1 (frL_Q ho (Or.inl rfl))
      have hnl := nd_len (L := tbL T) (n := x.toInt.toNat) (by omega)
      have hn1000 := nodes_len hrt
      have hsz : (f2_z (X + 57) 12).toInt = ((nodesR (tbL T)).length : Nat) := hc2.1.1
      rcases Nat.lt_or_ge k (levs (tbL T) (x.toInt.toNat + 1)).length with hkl | hkl
      · obtain ⟨y, hy⟩ : ∃ y, (levs (tbL T) (x.toInt.toNat + 1))[k]? = some y := ⟨_, List.getElem?_eq_getElem hkl⟩
        obtain ⟨hnd, hdle⟩ := nd_in (by omega) hy
        have hsn : metL PP ((levs (tbL T) (x.toInt.toNat + 1)).take (k + 1)) = metF PP (metL PP ((levs (tbL T) (x.toInt.toNat + 1)).take k)) y := by rw [take_snoc hy, metL_snoc]
        have hml := metL_len (p := PP) (X := (levs (tbL T) (x.toInt.toNat + 1))) (k := k) hk
        obtain ⟨p, hp1, hp2⟩ := hc2.2.2.1.1 k y hnd
        have hp3 : p < 1024 := by obtain ⟨u, hu, -⟩ := hp2; exact wy_lt hc2 hu
        have hmt := hmr p y.1 hp2
        skip
        refine r_iload4 dX11_better_26 ?_
        refine r_aloadR2 dX11_better_28 ?_
        refine m_getV (x := (f2_z (X + 57) 12)) zf_RX11_358 rfl dX11_better_29 (shWy_k (shX_wo hx)) (rfl) ?_
        refine t_icge (t := 77) dX11_better_32 (by decide) (fun h32 => False.elim (by omega)) (fun h32 => ?_)
        refine r_aloadR2 dX11_better_35 ?_
        refine r_iload4 dX11_better_36 ?_
        refine q_callV1 zm_RX11_361 dX11_better_38 (shWy_k (shX_wo hx)) (by decide) rfl (Nat.le_of_ble_eq_true rfl) (Nat.le_of_ble_eq_true rfl) (Nat.le_of_ble_eq_true rfl) (Nat.le_of_ble_eq_true rfl) (Nat.le_of_ble_eq_true rfl) (s_X9_depthOf (k := k) G (shX_wo hx) hc_z (by omega) (fun r38 e38 => ?_))
        have hd38 := wy_dep hc2 hnd e38
        refine r_iload1 dX11_better_41 ?_
        refine t_icgt (t := 77) dX11_better_42 (by decide) (fun h42 => False.elim (by omega)) (fun h42 => ?_)
        refine r_aloadR0 dX11_better_45 ?_
        refine r_aloadR2 dX11_better_46 ?_
        refine r_iload4 dX11_better_47 ?_
        refine q_callV2 zm_RX11_378 dX11_better_49 (shX_k hx) (by decide) rfl (Nat.le_of_ble_eq_true rfl) (Nat.le_of_ble_eq_true rfl) (Nat.le_of_ble_eq_true rfl) (Nat.le_of_ble_eq_true rfl) (Nat.le_of_ble_eq_true rfl) (s_X11_viewOn (y := y) G hx ht2 (Or.inl rfl) (shX_wo hx) hc2 rfl hnd hc_z (nd_dep hnd) (fun f4_z ho4 hv4 => ?_))
        have ht4 : tbAt w f4_z X (X + 11) T := tbAt_Q ht2 (fun q hq => ho4 q (by omega))
        refine r_aloadR0 dX11_better_52 ?_
        refine q_callV0 zm_RX11_492 dX11_better_53 (shX_k hx) (by decide) rfl (Nat.le_of_ble_eq_true rfl) (Nat.le_of_ble_eq_true rfl) (Nat.le_of_ble_eq_true rfl) (Nat.le_of_ble_eq_true rfl) (Nat.le_of_ble_eq_true rfl) (s_X11_pleasesInView (L := y.1) (d := (T.2.2.1.2.length + y.2.1.length)) (K := (likV T (tbL T) T.2.2.1.2.length)) G hx ht4 hv4 (hc2.2.2.2.2 y (List.mem_of_getElem? hnd)) (by have := hmo.2.1; have := nd_dep hnd; omega) (fun i hi_z => by rw [ho4 _ (by omega), ho _ (by omega)]; exact hlk1 i hi_z) (fun r53 f3_z e53 ho5 hk5 => ?_))
        have ho3 : frL X (X + 57) f2_z f3_z := fun q hq => (ho5 q (by omega)).trans (ho4 q (by omega))
        have hme3 : f3_z (X + 57 + 8) = f2_z (X + 57 + 8) := (ho5 _ (by omega)).trans (ho4 _ (by omega))
        have hPq : PP y.1 y.2.1 = true ↔ plV (likV T (tbL T) T.2.2.1.2.length) (likV T y.1 (T.2.2.1.2.length + y.2.1.length)) (tbG T) ≠ 0 := by rw [← hPd]; exact decide_eq_true_iff
        refine t_ifeq (t := 71) dX11_better_56 (by decide) (fun h56 => ?_) (fun h56 => ?_)
        · refine n_iinc4 dX11_better_71 (by decide) rfl (by omega) (fun r71 e71_z => ?_)
          refine r_goto (t := 26) dX11_better_74 (by decide) ?_
          have hPP : ¬ PP y.1 y.2.1 = true := fun h9 => absurd (hPq.mp h9) (by omega)
          have hmf : metF PP (metL PP ((levs (tbL T) (x.toInt.toNat + 1)).take k)) y = metL PP ((levs (tbL T) (x.toInt.toNat + 1)).take k) := if_neg (fun h9 => hPP h9.1)
          exact ih _ _ (k + 1) f3_z (by omega) (by omega) (frL_tr ho ho3) (by rw [hsn, hmf]; omega) (by rw [hsn, hmf, hme3]; exact hmr) (by omega)
        · refine r_aloadR2 dX11_better_59 ?_
          refine r_iload4 dX11_better_60 ?_
          refine q_callV1 zm_RX11_370 dX11_better_62 (shWy_k (shX_wo hx)) (by decide) rfl (Nat.le_of_ble_eq_true rfl) (Nat.le_of_ble_eq_true rfl) (Nat.le_of_ble_eq_true rfl) (Nat.le_of_ble_eq_true rfl) (Nat.le_of_ble_eq_true rfl) (s_X9_meet (k := k) (p := p) G (shX_wo hx) hc_z (wy_lt hc2 hnd) (by rw [ho3 _ (by omega)]; exact hp1) hp3 (fun r62 f9_z e62 hom hmm => ?_))
          have ho9 : frL X (X + 57) f1_z f9_z := frL_tr (frL_tr ho ho3) (fun q hq => hom q (by omega))
          have hmr9 : metR (f3_z (X + 57 + 8)) (nodesR (tbL T)) (metL PP ((levs (tbL T) (x.toInt.toNat + 1)).take k)) := by rw [hme3]; exact hmr
          have hadd := metR_add hmr9 hp2 hmm
          rw [hme3] at e62
          refine t_ifeq (t := 71) dX11_better_65 (by decide) (fun h65 => ?_) (fun h65 => ?_)
          · refine n_iinc4 dX11_better_71 (by decide) rfl (by omega) (fun r71 e71_z => ?_)
            refine r_goto (t := 26) dX11_better_74 (by decide) ?_
            have hPP : PP y.1 y.2.1 = true := hPq.mpr (by omega)
            first
              | (have hin : y.1 ∉ metL PP ((levs (tbL T) (x.toInt.toNat + 1)).take k) := fun h9 => by rcases hmt with ⟨g1, g2⟩ | ⟨g1, g2⟩; exact g2 h9; omega
                 have hmf : metF PP (metL PP ((levs (tbL T) (x.toInt.toNat + 1)).take k)) y = metL PP ((levs (tbL T) (x.toInt.toNat + 1)).take k) ++ [y.1] := if_pos ⟨hPP, hin⟩
                 exact ih _ _ (k + 1) f9_z (by omega) (by omega) ho9 (by rw [hsn, hmf, List.length_append, List.length_singleton]; omega) (by rw [hsn, hmf]; exact hadd.1) (by omega))
              | (have hin : y.1 ∈ metL PP ((levs (tbL T) (x.toInt.toNat + 1)).take k) := by rcases hmt with ⟨g1, g2⟩ | ⟨g1, g2⟩; omega; exact g2
                 have hmf : metF PP (metL PP ((levs (tbL T) (x.toInt.toNat + 1)).take k)) y = metL PP ((levs (tbL T) (x.toInt.toNat + 1)).take k) := if_neg (fun h9 => h9.2 hin)
                 exact ih _ _ (k + 1) f9_z (by omega) (by omega) ho9 (by rw [hsn, hmf]; omega) (by rw [hsn, hmf]; exact hadd.2 hin) (by omega))
          · refine n_iinc3 dX11_better_68 (by decide) rfl (by omega) (fun r68 e68 => ?_)
            refine n_iinc4 dX11_better_71 (by decide) rfl (by omega) (fun r71 e71_z => ?_)
            refine r_goto (t := 26) dX11_better_74 (by decide) ?_
            have hPP : PP y.1 y.2.1 = true := hPq.mpr (by omega)
            first
              | (have hin : y.1 ∉ metL PP ((levs (tbL T) (x.toInt.toNat + 1)).take k) := fun h9 => by rcases hmt with ⟨g1, g2⟩ | ⟨g1, g2⟩; exact g2 h9; omega
                 have hmf : metF PP (metL PP ((levs (tbL T) (x.toInt.toNat + 1)).take k)) y = metL PP ((levs (tbL T) (x.toInt.toNat + 1)).take k) ++ [y.1] := if_pos ⟨hPP, hin⟩
                 exact ih _ _ (k + 1) f9_z (by omega) (by omega) ho9 (by rw [hsn, hmf, List.length_append, List.length_singleton]; omega) (by rw [hsn, hmf]; exact hadd.1) (by omega))
              | (have hin : y.1 ∈ metL PP ((levs (tbL T) (x.toInt.toNat + 1)).take k) := by rcases hmt with ⟨g1, g2⟩ | ⟨g1, g2⟩; omega; exact g2
                 have hmf : metF PP (metL PP ((levs (tbL T) (x.toInt.toNat + 1)).take k)) y = metL PP ((levs (tbL T) (x.toInt.toNat + 1)).take k) := if_neg (fun h9 => h9.2 hin)
                 exact ih _ _ (k + 1) f9_z (by omega) (by omega) ho9 (by rw [hsn, hmf]; omega) (by rw [hsn, hmf]; exact hadd.2 hin) (by omega))
      · have hke : k = (levs (tbL T) (x.toInt.toNat + 1)).length := by omega
        have hful : (levs (tbL T) (x.toInt.toNat + 1)).take k = (levs (tbL T) (x.toInt.toNat + 1)) := List.take_of_length_le (by omega)
        rw [hful] at hv
        have hend := hQ hok v f2_z hv (HEND f2_z ho)
        rcases Nat.lt_or_ge k (nodesR (tbL T)).length with hk2 | hk2
        · obtain ⟨y, hnd⟩ : ∃ y, (nodesR (tbL T))[k]? = some y := ⟨_, List.getElem?_eq_getElem hk2⟩
          have hdl := nd_out (n := x.toInt.toNat) (by omega) hnd (by omega)
          refine r_iload4 dX11_better_26 ?_
          refine r_aloadR2 dX11_better_28 ?_
          refine m_getV (x := (f2_z (X + 57) 12)) zf_RX11_358 rfl dX11_better_29 (shWy_k (shX_wo hx)) (rfl) ?_
          refine t_icge (t := 77) dX11_better_32 (by decide) (fun h32 => False.elim (by omega)) (fun h32 => ?_)
          refine r_aloadR2 dX11_better_35 ?_
          refine r_iload4 dX11_better_36 ?_
          refine q_callV1 zm_RX11_361 dX11_better_38 (shWy_k (shX_wo hx)) (by decide) rfl (Nat.le_of_ble_eq_true rfl) (Nat.le_of_ble_eq_true rfl) (Nat.le_of_ble_eq_true rfl) (Nat.le_of_ble_eq_true rfl) (Nat.le_of_ble_eq_true rfl) (s_X9_depthOf (k := k) G (shX_wo hx) hc_z (by omega) (fun r38 e38 => ?_))
          have hd38 := wy_dep hc2 hnd e38
          refine r_iload1 dX11_better_41 ?_
          refine t_icgt (t := 77) dX11_better_42 (by decide) (fun h42 => ?_) (fun h42 => False.elim (by omega))
          refine r_iload3 dX11_better_77 ?_
          refine r_iret dX11_better_78 rfl (Nat.le_of_ble_eq_true rfl) (Nat.le_of_ble_eq_true rfl) ?_
          exact hend
        · refine r_iload4 dX11_better_26 ?_
          refine r_aloadR2 dX11_better_28 ?_
          refine m_getV (x := (f2_z (X + 57) 12)) zf_RX11_358 rfl dX11_better_29 (shWy_k (shX_wo hx)) (rfl) ?_
          refine t_icge (t := 77) dX11_better_32 (by decide) (fun h32 => ?_) (fun h32 => False.elim (by omega))
          refine r_iload3 dX11_better_77 ?_
          refine r_iret dX11_better_78 rfl (Nat.le_of_ble_eq_true rfl) (Nat.le_of_ble_eq_true rfl) ?_
          exact hend
  exact lp 1026 _ _ 0 f1_z (by omega) (by omega) frL_rf (by rw [List.take_zero]; show _ = ((0 : Nat) : Int); omega) (by rw [List.take_zero]; exact hmr0) (by omega)
def keeW (T : zTb) (X : List zRw) : Nat → Int × Int
  | 0 => (-1, 0)
  | k + 1 => if (keeW T X k).1 = -1 ∨ (keeW T X k).2 < (bestW T (k : Nat) X).1 - scoV T (k : Nat) (tbL T) (T.2.2.1.2.length + 0) then (((k : Nat) : Int), (bestW T (k : Nat) X).1 - scoV T (k : Nat) (tbL T) (T.2.2.1.2.length + 0)) else keeW T X k
set_option maxHeartbeats 4000000 in
set_option maxRecDepth 100000 in
theorem s_X11_keenest {g : zGT} {w : zW} {f : Nat → Nat → Int32} {j : Nat → Nat → Int64} {X : Nat} {T : zTb} {x : Int32} {Q : Option Value → zW → Prop} {QX : String → zW → Prop} (G : zGok g) (hx : shX w X) (ht : tbAt w f X (X + 11) T) (hI : wyI f (X + 57)) (hXIA : ¬ (0 ≤ x.toInt ∧ x.toInt ≤ 5) → ∀ n, zS w ≤ n → QX "java/lang/IllegalArgumentException" (zsS (zM w f j) n)) (hQ : (0 ≤ x.toInt ∧ x.toInt ≤ 5) → ∀ (r : Int32) f2_z, r.toInt = (keeW T (levs (tbL T) (x.toInt.toNat + 1)) (tbG T)).1 → qX X f f2_z → Q (some (.int r)) (zM w f2_z j)) : zC g 9 yX11_keenest cX11_keenest 8 (some .int) [.ref X, .int x] (zM w f j) (1, 6) Q QX := by
  refine zC_of G (by decide +kernel) (Nat.le_of_ble_eq_true rfl) ?_
  have ht0 := ht
  obtain ⟨nq, pp, g0, p0, hnq, hna0, hpp, hctb, hpast, hwf⟩ := ht0
  have hna1 := hna0
  obtain ⟨hna, hcn, ⟨hz1, hz2, hz3⟩, hl1, hl2, hl3⟩ := hna0
  have hmo := hctb.2.2.1
  have hn6 : tbC T ≤ 6 := hwf.2.1
  have hg4 : tbG T ≤ 4 := hwf.2.2.1
  have hwm := hwf.2.2.2.2.2.2.2.1
  have hrt := wfT_rch hwf
  have hfl : (f (X + 11 + 7) 2).toInt = (T.2.2.1.2.length : Nat) := by rw [hmo.1]; have := hmo.2.1; exact zi_n (by omega)
  have hcells : (f nq 1).toInt = (tbC T : Nat) := by rw [hcn.2.1]; exact zi_n (n := tbC T) (by omega)
  have hgs : (f nq 2).toInt = (tbG T : Nat) := by rw [hcn.2.2.1]; exact zi_n (n := tbG T) (by omega)
  have hl5 := hmo.2.1
  refine r_iload1 dX11_keenest_0 ?_
  refine q_callS1 zm_RX11_351 dX11_keenest_1 (Nat.le_of_ble_eq_true rfl) (Nat.le_of_ble_eq_true rfl) (Nat.le_of_ble_eq_true rfl) (Nat.le_of_ble_eq_true rfl) (Nat.le_of_ble_eq_true rfl) (s_X11_needFoldsOn G (fun hxx n hn => x_out (hXIA hxx n hn) (Nat.le_of_ble_eq_true rfl) (Nat.le_of_ble_eq_true rfl)) (fun hok => ?_))
  refine r_aloadR0 dX11_keenest_4 ?_
  refine q_callV0 zm_RX11_354 dX11_keenest_5 (shX_k hx) (by decide) rfl (Nat.le_of_ble_eq_true rfl) (Nat.le_of_ble_eq_true rfl) (Nat.le_of_ble_eq_true rfl) (Nat.le_of_ble_eq_true rfl) (Nat.le_of_ble_eq_true rfl) (s_X11_growOn G hx ht hI (fun f1_z hq1 hw1 hs1 hc1 => ?_))
  have ht1 := tbAt_Q ht hq1
  have lp : ∀ (mz : Nat) (v : Int32) (m : Int32) (c : Int32) (v6 : Option Value) (v7 : Option Value) (k : Nat) (f2_z : Nat → Nat → Int32), c.toInt = (k : Nat) → k ≤ tbG T → (v.toInt, m.toInt) = keeW T (levs (tbL T) (x.toInt.toNat + 1)) k → frG X f1_z f2_z → tbG T - k < mz → zR (zV g 9 yX11_keenest 8 (some .int) (1, 6) Q QX) cX11_keenest yX11_keenest.cls 17 [some (.ref X), some (.int x), some (.ref (X + 57)), some (.int v), some (.int m), some (.int c), v6, v7] [] (zM w f2_z j) (1, 6) := by
    intro mz
    induction mz with
    | zero =>
      intro v m c v6 v7 k f2_z hck hk hs9 ho hmz
      exact absurd hmz (Nat.not_lt_zero _)
    | succ mz ih =>
      intro v m c v6 v7 k f2_z hck hk hs9 ho hmz
      have hc2 := frL_wy hc1 (frG_L ho) (Or.inl rfl)
      have ht2 := tbAt_Q ht1 (frL_Q (frG_L ho) (Or.inl rfl))
      have hgs2 : (f2_z nq 2).toInt = (tbG T : Nat) := by rw [(frL_Q (frG_L ho) (Or.inl rfl)) nq (zone_q hz1), hq1 nq (zone_q hz1)]; exact hgs
      rcases Nat.lt_or_ge k (tbG T) with hkl | hkl
      · have hks : keeW T (levs (tbL T) (x.toInt.toNat + 1)) (k + 1) = if (keeW T (levs (tbL T) (x.toInt.toNat + 1)) k).1 = -1 ∨ (keeW T (levs (tbL T) (x.toInt.toNat + 1)) k).2 < (bestW T (k : Nat) (levs (tbL T) (x.toInt.toNat + 1))).1 - scoV T (k : Nat) (tbL T) (T.2.2.1.2.length + 0) then (((k : Nat) : Int), (bestW T (k : Nat) (levs (tbL T) (x.toInt.toNat + 1))).1 - scoV T (k : Nat) (tbL T) (T.2.2.1.2.length + 0)) else keeW T (levs (tbL T) (x.toInt.toNat + 1)) k := rfl
        rw [← hs9] at hks
        have hbd0 := scoV_bd (by9 := (k : Nat)) (L := tbL T) (d := T.2.2.1.2.length + 0) hwf hrt (by omega) (by omega)
        unfold bdI at hbd0
        refine r_iload5 dX11_keenest_17 ?_
        refine r_aloadR0 dX11_keenest_19 ?_
        refine m_getR (q := (X + 11)) zf_RX11_33 rfl dX11_keenest_20 (shX_k hx) (shX_p5 hx) ?_
        refine m_getR (q := nq) zf_RX11_181 rfl dX11_keenest_23 (shTb_k (shX_tb hx)) hnq ?_
        refine m_getV (x := (f2_z nq 2)) zf_RX11_209 rfl dX11_keenest_26 (shNa_k hna) (rfl) ?_
        refine t_icge (t := 87) dX11_keenest_29 (by decide) (fun h29 => False.elim (by omega)) (fun h29 => ?_)
        refine r_aloadR0 dX11_keenest_32 ?_
        refine r_aloadR2 dX11_keenest_33 ?_
        refine r_aloadR0 dX11_keenest_34 ?_
        refine r_aloadR2 dX11_keenest_35 ?_
        refine r_iload1 dX11_keenest_36 ?_
        refine r_iload5 dX11_keenest_37 ?_
        refine q_callV3 zm_RX11_394 dX11_keenest_39 (shX_k hx) (by decide) rfl (Nat.le_of_ble_eq_true rfl) (Nat.le_of_ble_eq_true rfl) (Nat.le_of_ble_eq_true rfl) (Nat.le_of_ble_eq_true rfl) (Nat.le_of_ble_eq_true rfl) (s_X11_greatestNode G hx ht2 hc2 hok (by omega) (fun r39 f3_z p y e39 hp hb_z ho4 => ?_))
        have hc3 := frL_wy hc2 (frG_L ho4) (Or.inl rfl)
        have ht3 := tbAt_Q ht2 (frL_Q (frG_L ho4) (Or.inl rfl))
        rw [hck] at hb_z
        have hb1 : scoV T (k : Nat) y.1 (T.2.2.1.2.length + y.2.1.length) = (bestW T (k : Nat) (levs (tbL T) (x.toInt.toNat + 1))).1 := by rw [← hb_z]
        have hyd := nd_dep hp
        have hbd1 := scoV_bd (by9 := (k : Nat)) (L := y.1) (d := T.2.2.1.2.length + y.2.1.length) hwf (hc2.2.2.2.2 y (List.mem_of_getElem? hp)) (by omega) (by omega)
        unfold bdI at hbd1
        refine r_iload5 dX11_keenest_42 ?_
        refine q_callV3 zm_RX11_397 dX11_keenest_44 (shX_k hx) (by decide) rfl (Nat.le_of_ble_eq_true rfl) (Nat.le_of_ble_eq_true rfl) (Nat.le_of_ble_eq_true rfl) (Nat.le_of_ble_eq_true rfl) (Nat.le_of_ble_eq_true rfl) (s_X11_scoreOn (y := y) (k := p) G hx ht3 (Or.inl rfl) (shX_wo hx) hc3 rfl hp e39 (nd_dep hp) (by omega) (fun r44 f4_z e44 ho44 => ?_))
        rw [hck] at e44
        have hF4 : frG X f3_z f4_z := fun q hq => ho44 q (by omega)
        have hc4 := frL_wy hc3 (frG_L hF4) (Or.inl rfl)
        have ht4 := tbAt_Q ht3 (frL_Q (frG_L hF4) (Or.inl rfl))
        refine r_istore6 dX11_keenest_47 rfl ?_
        refine r_iload6 dX11_keenest_49 ?_
        refine r_aloadR0 dX11_keenest_51 ?_
        refine r_aloadR2 dX11_keenest_52 ?_
        refine n_iconst dX11_keenest_53 (by decide) (fun r53 e53 => ?_)
        refine r_iload5 dX11_keenest_54 ?_
        refine q_callV3 zm_RX11_397 dX11_keenest_56 (shX_k hx) (by decide) rfl (Nat.le_of_ble_eq_true rfl) (Nat.le_of_ble_eq_true rfl) (Nat.le_of_ble_eq_true rfl) (Nat.le_of_ble_eq_true rfl) (Nat.le_of_ble_eq_true rfl) (s_X11_scoreOn (y := (tbL T, [], 1)) (k := 0) G hx ht4 (Or.inl rfl) (shX_wo hx) hc4 rfl nodes_0 (by omega) (Nat.zero_le _) (by omega) (fun r56 f5_z e56 ho56 => ?_))
        rw [hck] at e56
        have e56b : r56.toInt = scoV T (k : Nat) (tbL T) (T.2.2.1.2.length + 0) := e56
        refine n_isub dX11_keenest_59 (by omega) (fun r59 e59 => ?_)
        refine r_istore7 dX11_keenest_60 rfl ?_
        refine r_iload3 dX11_keenest_62 ?_
        refine n_iconst dX11_keenest_63 (by decide) (fun r63 e63 => ?_)
        refine t_iceq (t := 74) dX11_keenest_64 (by decide) (fun h64 => ?_) (fun h64 => ?_)
        · refine r_iload5 dX11_keenest_74 ?_
          refine r_istore3 dX11_keenest_76 rfl ?_
          refine r_iload7 dX11_keenest_77 ?_
          refine r_istore4 dX11_keenest_79 rfl ?_
          refine n_iinc5 dX11_keenest_81 (by decide) rfl (by omega) (fun r81 e81 => ?_)
          refine r_goto (t := 17) dX11_keenest_84 (by decide) ?_
          skip
          rw [if_pos (by show v.toInt = -1 ∨ m.toInt < _; omega)] at hks
          refine ih _ _ _ _ _ (k + 1) f5_z (by omega) (by omega) ?_ (frG_tr ho (frG_tr ho4 (frG_tr (fun q hq => ho44 q (by omega)) (fun q hq => ho56 q (by omega))))) (by omega)
          rw [hks]
          rw [Prod.mk.injEq]
          omega
        · refine r_iload7 dX11_keenest_67 ?_
          refine r_iload4 dX11_keenest_69 ?_
          refine t_icle (t := 81) dX11_keenest_71 (by decide) (fun h71 => ?_) (fun h71 => ?_)
          · refine n_iinc5 dX11_keenest_81 (by decide) rfl (by omega) (fun r81 e81 => ?_)
            refine r_goto (t := 17) dX11_keenest_84 (by decide) ?_
            skip
            rw [if_neg (by show ¬ (v.toInt = -1 ∨ m.toInt < _); omega)] at hks
            refine ih _ _ _ _ _ (k + 1) f5_z (by omega) (by omega) ?_ (frG_tr ho (frG_tr ho4 (frG_tr (fun q hq => ho44 q (by omega)) (fun q hq => ho56 q (by omega))))) (by omega)
            rw [hks]
          · refine r_iload5 dX11_keenest_74 ?_
            refine r_istore3 dX11_keenest_76 rfl ?_
            refine r_iload7 dX11_keenest_77 ?_
            refine r_istore4 dX11_keenest_79 rfl ?_
            refine n_iinc5 dX11_keenest_81 (by decide) rfl (by omega) (fun r81 e81 => ?_)
            refine r_goto (t := 17) dX11_keenest_84 (by decide) ?_
            skip
            rw [if_pos (by show v.toInt = -1 ∨ m.toInt < _; omega)] at hks
            refine ih _ _ _ _ _ (k + 1) f5_z (by omega) (by omega) ?_ (frG_tr ho (frG_tr ho4 (frG_tr (fun q hq => ho44 q (by omega)) (fun q hq => ho56 q (by omega))))) (by omega)
            rw [hks]
            rw [Prod.mk.injEq]
            omega
      · refine r_iload5 dX11_keenest_17 ?_
        refine r_aloadR0 dX11_keenest_19 ?_
        refine m_getR (q := (X + 11)) zf_RX11_33 rfl dX11_keenest_20 (shX_k hx) (shX_p5 hx) ?_
        refine m_getR (q := nq) zf_RX11_181 rfl dX11_keenest_23 (shTb_k (shX_tb hx)) hnq ?_
        refine m_getV (x := (f2_z nq 2)) zf_RX11_209 rfl dX11_keenest_26 (shNa_k hna) (rfl) ?_
        refine t_icge (t := 87) dX11_keenest_29 (by decide) (fun h29 => ?_) (fun h29 => False.elim (by omega))
        refine r_iload3 dX11_keenest_87 ?_
        refine r_iret dX11_keenest_88 rfl (Nat.le_of_ble_eq_true rfl) (Nat.le_of_ble_eq_true rfl) ?_
        have hke : k = tbG T := by omega
        refine hQ hok _ f2_z ?_ (qX_on hq1 hw1 hrt hc1 (frG_L ho))
        rw [← hke, ← hs9]
  refine r_astore2 dX11_keenest_8 rfl ?_
  refine n_iconst dX11_keenest_9 (by decide) (fun r9 e9_z => ?_)
  refine r_istore3 dX11_keenest_10 rfl ?_
  refine n_iconst dX11_keenest_11 (by decide) (fun r11 e11_z => ?_)
  refine r_istore4 dX11_keenest_12 rfl ?_
  refine n_iconst dX11_keenest_14 (by decide) (fun r14 e14_z => ?_)
  refine r_istore5 dX11_keenest_15 rfl ?_
  exact lp (tbG T + 1) _ _ _ _ _ 0 f1_z (by omega) (by omega) (by show (_, _) = ((-1 : Int), (0 : Int)); rw [Prod.mk.injEq]; omega) (fun _ _ => rfl) (by omega)
