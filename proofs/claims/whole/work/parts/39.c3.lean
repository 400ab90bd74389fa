/-! the class: what is on, by the nodes -/
set_option maxHeartbeats 4000000 in
set_option maxRecDepth 100000 in
theorem s_X11_isFoldsOn {g : zGT} {w : zW} {f : Nat → Nat → Int32} {j : Nat → Nat → Int64} {x : Int32} {Q : Option Value → zW → Prop} {QX : String → zW → Prop} (G : zGok g)  (hQ : ∀ r : Int32, (r.toInt = 1 ∧ (0 ≤ x.toInt ∧ x.toInt ≤ 5) ∨ r.toInt = 0 ∧ ¬ (0 ≤ x.toInt ∧ x.toInt ≤ 5)) → Q (some (.int r)) (zM w f j)) : zC g 1 yX11_isFoldsOn cX11_isFoldsOn 1 (some .boolean) [.int x] (zM w f j) (0, 0) Q QX := by
  refine zC_of G (by decide +kernel) (Nat.le_of_ble_eq_true rfl) ?_
  refine r_iload0 dX11_isFoldsOn_0 ?_
  refine t_iflt (t := 13) dX11_isFoldsOn_1 (by decide) (fun h1 => ?_) (fun h1 => ?_)
  · refine n_iconst dX11_isFoldsOn_13 (by decide) (fun r13 e13_z => ?_)
    refine m_zret dX11_isFoldsOn_14 rfl (by omega) (Nat.le_of_ble_eq_true rfl) (Nat.le_of_ble_eq_true rfl) ?_
    exact hQ _ (by omega)
  · refine r_iload0 dX11_isFoldsOn_4 ?_
    refine n_iconst dX11_isFoldsOn_5 (by decide) (fun r5 e5_z => ?_)
    refine t_icgt (t := 13) dX11_isFoldsOn_6 (by decide) (fun h6 => ?_) (fun h6 => ?_)
    · refine n_iconst dX11_isFoldsOn_13 (by decide) (fun r13 e13_z => ?_)
      refine m_zret dX11_isFoldsOn_14 rfl (by omega) (Nat.le_of_ble_eq_true rfl) (Nat.le_of_ble_eq_true rfl) ?_
      exact hQ _ (by omega)
    · refine n_iconst dX11_isFoldsOn_9 (by decide) (fun r9 e9_z => ?_)
      refine r_goto (t := 14) dX11_isFoldsOn_10 (by decide) ?_
      refine m_zret dX11_isFoldsOn_14 rfl (by omega) (Nat.le_of_ble_eq_true rfl) (Nat.le_of_ble_eq_true rfl) ?_
      exact hQ _ (by omega)
set_option maxHeartbeats 4000000 in
set_option maxRecDepth 100000 in
theorem s_X11_needFoldsOn {g : zGT} {w : zW} {f : Nat → Nat → Int32} {j : Nat → Nat → Int64} {x : Int32} {Q : Option Value → zW → Prop} {QX : String → zW → Prop} (G : zGok g) (hXIA : ¬ (0 ≤ x.toInt ∧ x.toInt ≤ 5) → ∀ n, zS w ≤ n → QX "java/lang/IllegalArgumentException" (zsS (zM w f j) n)) (hQ : (0 ≤ x.toInt ∧ x.toInt ≤ 5) → Q none (zM w f j)) : zC g 6 yX11_needFoldsOn cX11_needFoldsOn 1 none [.int x] (zM w f j) (1, 6) Q QX := by
  refine zC_of G (by decide +kernel) (Nat.le_of_ble_eq_true rfl) ?_
  refine r_iload0 dX11_needFoldsOn_0 ?_
  refine q_callS1 zm_RX11_386 dX11_needFoldsOn_1 (Nat.le_of_ble_eq_true rfl) (Nat.le_of_ble_eq_true rfl) (Nat.le_of_ble_eq_true rfl) (Nat.le_of_ble_eq_true rfl) (Nat.le_of_ble_eq_true rfl) (s_X11_isFoldsOn G  (fun r1 e1_z => ?_))
  refine t_ifne (t := 18) dX11_needFoldsOn_4 (by decide) (fun h4 => ?_) (fun h4 => ?_)
  · refine r_vret dX11_needFoldsOn_18 rfl (Nat.le_of_ble_eq_true rfl) (Nat.le_of_ble_eq_true rfl) ?_
    exact hQ (by omega)
  · refine r_throwW zth_IA (List.mem_of_getElem? (i := 16) rfl) dX11_needFoldsOn_7 dX11_needFoldsOn_10 dX11_needFoldsOn_11 dX11_needFoldsOn_14 dX11_needFoldsOn_17 (Nat.le_of_ble_eq_true rfl) (Nat.le_of_ble_eq_true rfl) (Nat.le_of_ble_eq_true rfl) (Nat.le_of_ble_eq_true rfl) ?_
    exact hXIA (by omega)
set_option maxHeartbeats 4000000 in
set_option maxRecDepth 100000 in
theorem s_X11_asksOfRow {g : zGT} {w : zW} {f : Nat → Nat → Int32} {j : Nat → Nat → Int64} {x : Int32} {Q : Option Value → zW → Prop} {QX : String → zW → Prop} (G : zGok g)  (hQ : ∀ r : Int32, (r.toInt = 1 ∧ (x.toInt = 0 ∨ 10 ≤ x.toInt ∧ x.toInt ≤ 14) ∨ r.toInt = 0 ∧ ¬ (x.toInt = 0 ∨ 10 ≤ x.toInt ∧ x.toInt ≤ 14)) → Q (some (.int r)) (zM w f j)) : zC g 1 yX11_asksOfRow cX11_asksOfRow 1 (some .boolean) [.int x] (zM w f j) (0, 0) Q QX := by
  refine zC_of G (by decide +kernel) (Nat.le_of_ble_eq_true rfl) ?_
  refine r_iload0 dX11_asksOfRow_0 ?_
  refine t_ifeq (t := 16) dX11_asksOfRow_1 (by decide) (fun h1 => ?_) (fun h1 => ?_)
  · refine n_iconst dX11_asksOfRow_16 (by decide) (fun r16 e16_z => ?_)
    refine r_goto (t := 21) dX11_asksOfRow_17 (by decide) ?_
    refine m_zret dX11_asksOfRow_21 rfl (by omega) (Nat.le_of_ble_eq_true rfl) (Nat.le_of_ble_eq_true rfl) ?_
    exact hQ _ (by omega)
  · refine r_iload0 dX11_asksOfRow_4 ?_
    refine n_bipush dX11_asksOfRow_5 (by decide) (fun r5 e5_z => ?_)
    refine t_iclt (t := 20) dX11_asksOfRow_7 (by decide) (fun h7 => ?_) (fun h7 => ?_)
    · refine n_iconst dX11_asksOfRow_20 (by decide) (fun r20 e20 => ?_)
      refine m_zret dX11_asksOfRow_21 rfl (by omega) (Nat.le_of_ble_eq_true rfl) (Nat.le_of_ble_eq_true rfl) ?_
      exact hQ _ (by omega)
    · refine r_iload0 dX11_asksOfRow_10 ?_
      refine n_bipush dX11_asksOfRow_11 (by decide) (fun r11 e11_z => ?_)
      refine t_icgt (t := 20) dX11_asksOfRow_13 (by decide) (fun h13 => ?_) (fun h13 => ?_)
      · refine n_iconst dX11_asksOfRow_20 (by decide) (fun r20 e20 => ?_)
        refine m_zret dX11_asksOfRow_21 rfl (by omega) (Nat.le_of_ble_eq_true rfl) (Nat.le_of_ble_eq_true rfl) ?_
        exact hQ _ (by omega)
      · refine n_iconst dX11_asksOfRow_16 (by decide) (fun r16 e16_z => ?_)
        refine r_goto (t := 21) dX11_asksOfRow_17 (by decide) ?_
        refine m_zret dX11_asksOfRow_21 rfl (by omega) (Nat.le_of_ble_eq_true rfl) (Nat.le_of_ble_eq_true rfl) ?_
        exact hQ _ (by omega)
set_option maxHeartbeats 4000000 in
set_option maxRecDepth 100000 in
theorem s_X11_asksOfGreatest {g : zGT} {w : zW} {f : Nat → Nat → Int32} {j : Nat → Nat → Int64} {x : Int32} {Q : Option Value → zW → Prop} {QX : String → zW → Prop} (G : zGok g)  (hQ : ∀ r : Int32, (r.toInt = 1 ∧ (x.toInt = 1 ∨ x.toInt = 0 ∨ 10 ≤ x.toInt ∧ x.toInt ≤ 14) ∨ r.toInt = 0 ∧ ¬ (x.toInt = 1 ∨ x.toInt = 0 ∨ 10 ≤ x.toInt ∧ x.toInt ≤ 14)) → Q (some (.int r)) (zM w f j)) : zC g 2 yX11_asksOfGreatest cX11_asksOfGreatest 1 (some .boolean) [.int x] (zM w f j) (0, 0) Q QX := by
  refine zC_of G (by decide +kernel) (Nat.le_of_ble_eq_true rfl) ?_
  refine r_iload0 dX11_asksOfGreatest_0 ?_
  refine n_iconst dX11_asksOfGreatest_1 (by decide) (fun r1 e1_z => ?_)
  refine t_iceq (t := 12) dX11_asksOfGreatest_2 (by decide) (fun h2 => ?_) (fun h2 => ?_)
  · refine n_iconst dX11_asksOfGreatest_12 (by decide) (fun r12 e12_z => ?_)
    refine r_goto (t := 17) dX11_asksOfGreatest_13 (by decide) ?_
    refine m_zret dX11_asksOfGreatest_17 rfl (by omega) (Nat.le_of_ble_eq_true rfl) (Nat.le_of_ble_eq_true rfl) ?_
    exact hQ _ (by omega)
  · refine r_iload0 dX11_asksOfGreatest_5 ?_
    refine q_callS1 zm_RX11_373 dX11_asksOfGreatest_6 (Nat.le_of_ble_eq_true rfl) (Nat.le_of_ble_eq_true rfl) (Nat.le_of_ble_eq_true rfl) (Nat.le_of_ble_eq_true rfl) (Nat.le_of_ble_eq_true rfl) (s_X11_asksOfRow G  (fun r6 e6_z => ?_))
    refine t_ifeq (t := 16) dX11_asksOfGreatest_9 (by decide) (fun h9 => ?_) (fun h9 => ?_)
    · refine n_iconst dX11_asksOfGreatest_16 (by decide) (fun r16 e16_z => ?_)
      refine m_zret dX11_asksOfGreatest_17 rfl (by omega) (Nat.le_of_ble_eq_true rfl) (Nat.le_of_ble_eq_true rfl) ?_
      exact hQ _ (by omega)
    · refine n_iconst dX11_asksOfGreatest_12 (by decide) (fun r12 e12_z => ?_)
      refine r_goto (t := 17) dX11_asksOfGreatest_13 (by decide) ?_
      refine m_zret dX11_asksOfGreatest_17 rfl (by omega) (Nat.le_of_ble_eq_true rfl) (Nat.le_of_ble_eq_true rfl) ?_
      exact hQ _ (by omega)
theorem wy_dep {f : Nat → Nat → Int32} {a n k : Nat} {NL : List zRw} {y : zRw} {r : Int32} (hc_z : ctWy f a n NL) (hk : NL[k]? = some y) (hr : r = f (a + 4) k) : r.toInt = (y.2.1.length : Nat) := by
  rw [hr]
  exact (hc_z.2.1 k y hk).2.1
theorem wy_cou {f : Nat → Nat → Int32} {a n k : Nat} {NL : List zRw} {y : zRw} {r : Int32} (hc_z : ctWy f a n NL) (hk : NL[k]? = some y) (hr : r = f (a + 5) k) : r.toInt = (y.2.2 : Nat) := by
  rw [hr]
  exact (hc_z.2.1 k y hk).2.2.1
theorem wy_lt {f : Nat → Nat → Int32} {a n k : Nat} {NL : List zRw} {y : zRw} (hc_z : ctWy f a n NL) (hk : NL[k]? = some y) : k < 1024 := by
  have h1 := (List.getElem?_eq_some_iff.mp hk).1
  have h2 := hc_z.1.2.2.1
  omega
/-- what is told of a row: how many folds, or the k-th (NONE: not so many) -/
def rowI (r : List Nat) (one x : Int) : Int := if x = one then (r.length : Nat) else if 10 ≤ x then (match r[(x - 10).toNat]? with | some d => ((d : Nat) : Int) | none => -1) else -1
theorem moFold_I {r : List Nat} {x : Int} (h_z : 10 ≤ x) (h9 : ∀ d ∈ r, d < 2147483648) : (moFold r (x - 10)).toInt = (match r[(x - 10).toNat]? with | some d => ((d : Nat) : Int) | none => -1) := by
  unfold moFold
  rw [if_pos (by omega)]
  cases e : r[(x - 10).toNat]? with
  | none => rfl
  | some d => exact zi_n (h9 d (List.mem_of_getElem? e))
set_option maxHeartbeats 4000000 in
set_option maxRecDepth 100000 in
theorem s_X11_rowAnswer {g : zGT} {w : zW} {f : Nat → Nat → Int32} {j : Nat → Nat → Int64} {a n k : Nat} {x z : Int32} {NL : List zRw} {y : zRw} {Q : Option Value → zW → Prop} {QX : String → zW → Prop} (G : zGok g) (hs : shWy w a) (hc_z : ctWy f a n NL) (hx : x.toInt = (k : Nat)) (hk : NL[k]? = some y) (h9 : ∀ d ∈ y.2.1, d < 2147483648) (hz : z.toInt = 0 ∨ 10 ≤ z.toInt ∧ z.toInt ≤ 14) (hQ : ∀ r : Int32, r.toInt = rowI y.2.1 0 z.toInt → Q (some (.int r)) (zM w f j)) : zC g 4 yX11_rowAnswer cX11_rowAnswer 3 (some .int) [.ref a, .int x, .int z] (zM w f j) (0, 0) Q QX := by
  refine zC_of G (by decide +kernel) (Nat.le_of_ble_eq_true rfl) ?_
  refine r_iload2 dX11_rowAnswer_0 ?_
  refine t_ifne (t := 12) dX11_rowAnswer_1 (by decide) (fun h1 => ?_) (fun h1 => ?_)
  · refine r_aloadR0 dX11_rowAnswer_12 ?_
    refine r_iload1 dX11_rowAnswer_13 ?_
    refine r_iload2 dX11_rowAnswer_14 ?_
    refine n_bipush dX11_rowAnswer_15 (by decide) (fun r15 e15_z => ?_)
    refine n_isub dX11_rowAnswer_17 (by omega) (fun r17 e17_z => ?_)
    refine q_callV2 zm_RX11_415 dX11_rowAnswer_18 (shWy_k hs) (by decide) rfl (Nat.le_of_ble_eq_true rfl) (Nat.le_of_ble_eq_true rfl) (Nat.le_of_ble_eq_true rfl) (Nat.le_of_ble_eq_true rfl) (Nat.le_of_ble_eq_true rfl) (s_X9_foldOf G hs hc_z hx hk (fun r18 e18_z => ?_))
    have hfo := moFold_I (r := y.2.1) (x := z.toInt) (by omega) h9
    refine r_iret dX11_rowAnswer_21 rfl (Nat.le_of_ble_eq_true rfl) (Nat.le_of_ble_eq_true rfl) ?_
    first
      | (refine hQ _ ?_; unfold rowI; rw [if_pos (by omega)]; exact wy_dep hc_z hk e6_z)
      | (refine hQ _ ?_; unfold rowI; rw [if_neg (by omega), if_pos (by omega), ← hfo, e18_z, show z.toInt - 10 = r17.toInt by omega])
  · refine r_aloadR0 dX11_rowAnswer_4 ?_
    refine r_iload1 dX11_rowAnswer_5 ?_
    refine q_callV1 zm_RX11_361 dX11_rowAnswer_6 (shWy_k hs) (by decide) rfl (Nat.le_of_ble_eq_true rfl) (Nat.le_of_ble_eq_true rfl) (Nat.le_of_ble_eq_true rfl) (Nat.le_of_ble_eq_true rfl) (Nat.le_of_ble_eq_true rfl) (s_X9_depthOf G hs hx (wy_lt hc_z hk) (fun r6 e6_z => ?_))
    refine r_goto (t := 21) dX11_rowAnswer_9 (by decide) ?_
    refine r_iret dX11_rowAnswer_21 rfl (Nat.le_of_ble_eq_true rfl) (Nat.le_of_ble_eq_true rfl) ?_
    first
      | (refine hQ _ ?_; unfold rowI; rw [if_pos (by omega)]; exact wy_dep hc_z hk e6_z)
      | (refine hQ _ ?_; unfold rowI; rw [if_neg (by omega), if_pos (by omega), ← hfo, e18_z, show z.toInt - 10 = r17.toInt by omega])
set_option maxHeartbeats 4000000 in
set_option maxRecDepth 100000 in
theorem s_X11_greatestAnswer {g : zGT} {w : zW} {f : Nat → Nat → Int32} {j : Nat → Nat → Int64} {a n k : Nat} {x z : Int32} {NL : List zRw} {y : zRw} {Q : Option Value → zW → Prop} {QX : String → zW → Prop} (G : zGok g) (hs : shWy w a) (hc_z : ctWy f a n NL) (hx : x.toInt = (k : Nat)) (hk : NL[k]? = some y) (h9 : ∀ d ∈ y.2.1, d < 2147483648) (hz : z.toInt = 1 ∨ 10 ≤ z.toInt ∧ z.toInt ≤ 14) (hQ : ∀ r : Int32, r.toInt = rowI y.2.1 1 z.toInt → Q (some (.int r)) (zM w f j)) : zC g 4 yX11_greatestAnswer cX11_greatestAnswer 3 (some .int) [.ref a, .int x, .int z] (zM w f j) (0, 0) Q QX := by
  refine zC_of G (by decide +kernel) (Nat.le_of_ble_eq_true rfl) ?_
  refine r_iload2 dX11_greatestAnswer_0 ?_
  refine n_iconst dX11_greatestAnswer_1 (by decide) (fun r1 e1_z => ?_)
  refine t_icne (t := 13) dX11_greatestAnswer_2 (by decide) (fun h2 => ?_) (fun h2 => ?_)
  · refine r_aloadR0 dX11_greatestAnswer_13 ?_
    refine r_iload1 dX11_greatestAnswer_14 ?_
    refine r_iload2 dX11_greatestAnswer_15 ?_
    refine n_bipush dX11_greatestAnswer_16 (by decide) (fun r16 e16_z => ?_)
    refine n_isub dX11_greatestAnswer_18 (by omega) (fun r18 e18_z => ?_)
    refine q_callV2 zm_RX11_415 dX11_greatestAnswer_19 (shWy_k hs) (by decide) rfl (Nat.le_of_ble_eq_true rfl) (Nat.le_of_ble_eq_true rfl) (Nat.le_of_ble_eq_true rfl) (Nat.le_of_ble_eq_true rfl) (Nat.le_of_ble_eq_true rfl) (s_X9_foldOf G hs hc_z hx hk (fun r19 e19_z => ?_))
    have hfo := moFold_I (r := y.2.1) (x := z.toInt) (by omega) h9
    refine r_iret dX11_greatestAnswer_22 rfl (Nat.le_of_ble_eq_true rfl) (Nat.le_of_ble_eq_true rfl) ?_
    first
      | (refine hQ _ ?_; unfold rowI; rw [if_pos (by omega)]; exact wy_dep hc_z hk e7_z)
      | (refine hQ _ ?_; unfold rowI; rw [if_neg (by omega), if_pos (by omega), ← hfo, e19_z, show z.toInt - 10 = r18.toInt by omega])
  · refine r_aloadR0 dX11_greatestAnswer_5 ?_
    refine r_iload1 dX11_greatestAnswer_6 ?_
    refine q_callV1 zm_RX11_361 dX11_greatestAnswer_7 (shWy_k hs) (by decide) rfl (Nat.le_of_ble_eq_true rfl) (Nat.le_of_ble_eq_true rfl) (Nat.le_of_ble_eq_true rfl) (Nat.le_of_ble_eq_true rfl) (Nat.le_of_ble_eq_true rfl) (s_X9_depthOf G hs hx (wy_lt hc_z hk) (fun r7 e7_z => ?_))
    refine r_goto (t := 22) dX11_greatestAnswer_10 (by decide) ?_
    refine r_iret dX11_greatestAnswer_22 rfl (Nat.le_of_ble_eq_true rfl) (Nat.le_of_ble_eq_true rfl) ?_
    first
      | (refine hQ _ ?_; unfold rowI; rw [if_pos (by omega)]; exact wy_dep hc_z hk e7_z)
      | (refine hQ _ ?_; unfold rowI; rw [if_neg (by omega), if_pos (by omega), ← hfo, e19_z, show z.toInt - 10 = r18.toInt by omega])
set_option maxHeartbeats 4000000 in
set_option maxRecDepth 100000 in
theorem s_X11_growOn {g : zGT} {w : zW} {f : Nat → Nat → Int32} {j : Nat → Nat → Int64} {X : Nat} {T : zTb} {Q : Option Value → zW → Prop} {QX : String → zW → Prop} (G : zGok g) (hx : shX w X) (ht : tbAt w f X (X + 11) T) (hI : wyI f (X + 57)) (hQ : ∀ f2_z, frQ X f f2_z → (∀ q, X + 75 ≤ q → q < X + 93 → f2_z q = f q) → (∀ q, X + 54 ≤ q → q < X + 57 → f2_z q = f q) → ctWy f2_z (X + 57) (tbC T) (nodesR (tbL T)) → Q (some (.ref (X + 57))) (zM w f2_z j)) : zC g 7 yX11_growOn cX11_growOn 1 (some (.object "NapkinDeeds$Ways")) [.ref X] (zM w f j) (0, 0) Q QX := by
  refine zC_of G (by decide +kernel) (Nat.le_of_ble_eq_true rfl) ?_
  have ht0 := ht
  obtain ⟨nq, pp, g0, p0, hnq, hna0, hpp, hctb, hpast, hwf⟩ := ht0
  have hna1 := hna0
  obtain ⟨hna, hcn, ⟨hz1, hz2, hz3⟩, hl1, hl2, hl3⟩ := hna0
  have hmo := hctb.2.2.1
  have hn6 : tbC T ≤ 6 := hwf.2.1
  have hg4 : tbG T ≤ 4 := hwf.2.2.1
  have hwm := hwf.2.2.2.2.2.2.2.1
  have hrt := wfT_rch hwf
  have hfl : (f (X + 11 + 7) 2).toInt = (T.2.2.1.2.length : Nat) := by rw [hmo.1]; have := hmo.2.1; exact zi_n (by omega)
  have hcells : (f nq 1).toInt = (tbC T : Nat) := by rw [hcn.2.1]; exact zi_n (n := tbC T) (by omega)
  have hgs : (f nq 2).toInt = (tbG T : Nat) := by rw [hcn.2.2.1]; exact zi_n (n := tbG T) (by omega)
  refine r_aloadR0 dX11_growOn_0 ?_
  refine m_getR (q := (X + 57)) zf_RX11_57 rfl dX11_growOn_1 (shX_k hx) (shX_p10 hx) ?_
  refine r_aloadR0 dX11_growOn_4 ?_
  refine q_callV0 zm_RX11_134 dX11_growOn_5 (shX_k hx) (by decide) rfl (Nat.le_of_ble_eq_true rfl) (Nat.le_of_ble_eq_true rfl) (Nat.le_of_ble_eq_true rfl) (Nat.le_of_ble_eq_true rfl) (Nat.le_of_ble_eq_true rfl) (s_X11_layNow G hx ht (fun f1_z ho1 hla => ?_))
  refine q_callV1 zm_RX11_420 dX11_growOn_8 (shWy_k (shX_wo hx)) (by decide) rfl (Nat.le_of_ble_eq_true rfl) (Nat.le_of_ble_eq_true rfl) (Nat.le_of_ble_eq_true rfl) (Nat.le_of_ble_eq_true rfl) (Nat.le_of_ble_eq_true rfl) (s_X9_grow (L := tbL T) (n := tbC T) G (shX_wo hx) (wyI_e hI (fun r h1 h2 => ho1 _ (by omega))) (shX_ly hx) hla (by omega) hrt (fun f2_z ho2 hc2 => ?_))
  refine r_aloadR0 dX11_growOn_11 ?_
  refine m_getR (q := (X + 57)) zf_RX11_57 rfl dX11_growOn_12 (shX_k hx) (shX_p10 hx) ?_
  refine r_aret dX11_growOn_15 rfl (by first | exact Or.inl ⟨_, rfl⟩ | exact Or.inr ⟨_, rfl⟩) (by first | exact zrf_r | exact zrf_o | exact zrf_n) (Nat.le_of_ble_eq_true rfl) (Nat.le_of_ble_eq_true rfl) ?_
  exact hQ f2_z (frQ_tr (frQ_R ho1 (by omega)) (frQ_W ho2 (by omega))) (fun q h1 h2 => (ho2 q (by omega)).trans (ho1 q (by omega))) (fun q h1 h2 => (ho2 q (by omega)).trans (ho1 q (by omega))) hc2
set_option maxHeartbeats 4000000 in
set_option maxRecDepth 100000 in
theorem s_X11_growFromFlat {g : zGT} {w : zW} {f : Nat → Nat → Int32} {j : Nat → Nat → Int64} {X : Nat} {T : zTb} {Q : Option Value → zW → Prop} {QX : String → zW → Prop} (G : zGok g) (hx : shX w X) (ht : tbAt w f X (X + 11) T) (hI : wyI f (X + 75)) (hQ : ∀ f2_z, frQ X f f2_z → (∀ q, X + 57 ≤ q → q < X + 75 → f2_z q = f q) → (∀ q, X + 54 ≤ q → q < X + 57 → f2_z q = f q) → ctWy f2_z (X + 75) (tbC T) (nodesR (lyFlat (tbC T))) → Q (some (.ref (X + 75))) (zM w f2_z j)) : zC g 7 yX11_growFromFlat cX11_growFromFlat 1 (some (.object "NapkinDeeds$Ways")) [.ref X] (zM w f j) (0, 0) Q QX := by
  refine zC_of G (by decide +kernel) (Nat.le_of_ble_eq_true rfl) ?_
  have ht0 := ht
  obtain ⟨nq, pp, g0, p0, hnq, hna0, hpp, hctb, hpast, hwf⟩ := ht0
  have hna1 := hna0
  obtain ⟨hna, hcn, ⟨hz1, hz2, hz3⟩, hl1, hl2, hl3⟩ := hna0
  have hmo := hctb.2.2.1
  have hn6 : tbC T ≤ 6 := hwf.2.1
  have hg4 : tbG T ≤ 4 := hwf.2.2.1
  have hwm := hwf.2.2.2.2.2.2.2.1
  have hrt := wfT_rch hwf
  have hfl : (f (X + 11 + 7) 2).toInt = (T.2.2.1.2.length : Nat) := by rw [hmo.1]; have := hmo.2.1; exact zi_n (by omega)
  have hcells : (f nq 1).toInt = (tbC T : Nat) := by rw [hcn.2.1]; exact zi_n (n := tbC T) (by omega)
  have hgs : (f nq 2).toInt = (tbG T : Nat) := by rw [hcn.2.2.1]; exact zi_n (n := tbG T) (by omega)
  refine r_aloadR0 dX11_growFromFlat_0 ?_
  refine m_getR (q := (X + 93)) zf_RX11_67 rfl dX11_growFromFlat_1 (shX_k hx) (shX_p12 hx) ?_
  refine r_aloadR0 dX11_growFromFlat_4 ?_
  refine m_getR (q := (X + 11)) zf_RX11_33 rfl dX11_growFromFlat_5 (shX_k hx) (shX_p5 hx) ?_
  refine m_getR (q := nq) zf_RX11_181 rfl dX11_growFromFlat_8 (shTb_k (shX_tb hx)) hnq ?_
  refine m_getV (x := (f nq 1)) zf_RX11_185 rfl dX11_growFromFlat_11 (shNa_k hna) (rfl) ?_
  refine q_callV1 zm_RX11_222 dX11_growFromFlat_14 (shLay_k (shX_ly hx)) (by decide) rfl (Nat.le_of_ble_eq_true rfl) (Nat.le_of_ble_eq_true rfl) (Nat.le_of_ble_eq_true rfl) (Nat.le_of_ble_eq_true rfl) (Nat.le_of_ble_eq_true rfl) (s_X2_flatten (w := zM w f j) (n := tbC T) G (shX_ly hx) hn6 (zi_of hcells (by omega)) (fun f1_z ho1 hla => ?_))
  show zR _ _ _ _ _ _ (zM w f1_z j) _
  refine r_aloadR0 dX11_growFromFlat_17 ?_
  refine m_getR (q := (X + 75)) zf_RX11_61 rfl dX11_growFromFlat_18 (shX_k hx) (shX_p11 hx) ?_
  refine r_aloadR0 dX11_growFromFlat_21 ?_
  refine m_getR (q := (X + 93)) zf_RX11_67 rfl dX11_growFromFlat_22 (shX_k hx) (shX_p12 hx) ?_
  refine q_callV1 zm_RX11_420 dX11_growFromFlat_25 (shWy_k (shX_wf hx)) (by decide) rfl (Nat.le_of_ble_eq_true rfl) (Nat.le_of_ble_eq_true rfl) (Nat.le_of_ble_eq_true rfl) (Nat.le_of_ble_eq_true rfl) (Nat.le_of_ble_eq_true rfl) (s_X9_grow (L := lyFlat (tbC T)) (n := tbC T) G (shX_wf hx) (wyI_e hI (fun r h1 h2 => ho1 _ (by omega))) (shX_ly hx) hla (by omega) (rch_flat hn6) (fun f2_z ho2 hc2 => ?_))
  refine r_aloadR0 dX11_growFromFlat_28 ?_
  refine m_getR (q := (X + 75)) zf_RX11_61 rfl dX11_growFromFlat_29 (shX_k hx) (shX_p11 hx) ?_
  refine r_aret dX11_growFromFlat_32 rfl (by first | exact Or.inl ⟨_, rfl⟩ | exact Or.inr ⟨_, rfl⟩) (by first | exact zrf_r | exact zrf_o | exact zrf_n) (Nat.le_of_ble_eq_true rfl) (Nat.le_of_ble_eq_true rfl) ?_
  exact hQ f2_z (frQ_tr (frQ_R (ofLay_R ho1) (by omega)) (frQ_W ho2 (by omega))) (fun q h1 h2 => (ho2 q (by omega)).trans (ho1 q (by omega))) (fun q h1 h2 => (ho2 q (by omega)).trans (ho1 q (by omega))) hc2
set_option maxHeartbeats 4000000 in
set_option maxRecDepth 100000 in
theorem s_X11_viewOn {g : zGT} {w : zW} {f : Nat → Nat → Int32} {j : Nat → Nat → Int64} {X : Nat} {T : zTb} {a n k : Nat} {x : Int32} {NL : List zRw} {y : zRw} {Q : Option Value → zW → Prop} {QX : String → zW → Prop} (G : zGok g) (hx : shX w X) (ht : tbAt w f X (X + 11) T) (ha_z : a = X + 57 ∨ a = X + 75) (hs : shWy w a) (hc_z : ctWy f a n NL) (hn : n = tbC T) (hk : NL[k]? = some y) (hx2 : x.toInt = (k : Nat)) (hdp : y.2.1.length ≤ 5) (hQ : ∀ f2_z, (∀ q, (q < X + 54 ∨ X + 57 ≤ q ∧ q < a + 10 ∨ a + 14 ≤ q) → f2_z q = f q) → (∀ k, k < 6 → (f2_z (X + 54 + 1) k).toInt = fctN T.2.2.1.1 (tbC T) y.1 (T.2.2.1.2.length + y.2.1.length) 0 0 k) → Q none (zM w f2_z j)) : zC g 5 yX11_viewOn cX11_viewOn 3 none [.ref X, .ref a, .int x] (zM w f j) (0, 0) Q QX := by
  refine zC_of G (by decide +kernel) (Nat.le_of_ble_eq_true rfl) ?_
  have ht0 := ht
  obtain ⟨nq, pp, g0, p0, hnq, hna0, hpp, hctb, hpast, hwf⟩ := ht0
  have hna1 := hna0
  obtain ⟨hna, hcn, ⟨hz1, hz2, hz3⟩, hl1, hl2, hl3⟩ := hna0
  have hmo := hctb.2.2.1
  have hn6 : tbC T ≤ 6 := hwf.2.1
  have hg4 : tbG T ≤ 4 := hwf.2.2.1
  have hwm := hwf.2.2.2.2.2.2.2.1
  have hrt := wfT_rch hwf
  have hfl : (f (X + 11 + 7) 2).toInt = (T.2.2.1.2.length : Nat) := by rw [hmo.1]; have := hmo.2.1; exact zi_n (by omega)
  have hcells : (f nq 1).toInt = (tbC T : Nat) := by rw [hcn.2.1]; exact zi_n (n := tbC T) (by omega)
  have hgs : (f nq 2).toInt = (tbG T : Nat) := by rw [hcn.2.2.1]; exact zi_n (n := tbG T) (by omega)
  have hry : rch (tbC T) y.1 := hn ▸ hc_z.2.2.2.2 y (List.mem_of_getElem? hk)
  refine r_aloadR0 dX11_viewOn_0 ?_
  refine m_getR (q := (X + 54)) zf_RX11_50 rfl dX11_viewOn_1 (shX_k hx) (shX_p9 hx) ?_
  refine r_aloadR1 dX11_viewOn_4 ?_
  refine r_iload2 dX11_viewOn_5 ?_
  refine q_callV1 zm_RX11_408 dX11_viewOn_6 (shWy_k hs) (by decide) rfl (Nat.le_of_ble_eq_true rfl) (Nat.le_of_ble_eq_true rfl) (Nat.le_of_ble_eq_true rfl) (Nat.le_of_ble_eq_true rfl) (Nat.le_of_ble_eq_true rfl) (s_X9_layOf G hs hc_z hx2 hk (fun f1_z ho1 hla => ?_))
  have hmo1 : ctMo f1_z (X + 11 + 7) T.2.2.1 := ctMo_R hmo (ofLay_R ho1) (by omega)
  have hfl1 : (f1_z (X + 11 + 7) 2).toInt = (T.2.2.1.2.length : Nat) := by rw [ho1 _ (by omega)]; exact hfl
  have hl5 := hmo.2.1
  have hc1 : ctWy f1_z a n NL := ctWy_rest hc_z (fun r h1 h2 => ho1 _ (by omega))
  refine r_aloadR0 dX11_viewOn_9 ?_
  refine m_getR (q := (X + 11)) zf_RX11_33 rfl dX11_viewOn_10 (shX_k hx) (shX_p5 hx) ?_
  refine m_getR (q := ((X + 11) + 7)) zf_RX11_138 rfl dX11_viewOn_13 (shTb_k (shX_tb hx)) (shTb_p1 (shX_tb hx)) ?_
  refine m_getR (q := (((X + 11) + 7) + 1)) zf_RX11_171 rfl dX11_viewOn_16 (shMo_k (shTb_mo (shX_tb hx))) (shMo_p0 (shTb_mo (shX_tb hx))) ?_
  refine r_aloadR0 dX11_viewOn_19 ?_
  refine m_getR (q := (X + 11)) zf_RX11_33 rfl dX11_viewOn_20 (shX_k hx) (shX_p5 hx) ?_
  refine m_getR (q := ((X + 11) + 7)) zf_RX11_138 rfl dX11_viewOn_23 (shTb_k (shX_tb hx)) (shTb_p1 (shX_tb hx)) ?_
  refine m_getV (x := (f1_z ((X + 11) + 7) 2)) zf_RX11_225 rfl dX11_viewOn_26 (shMo_k (shTb_mo (shX_tb hx))) (rfl) ?_
  refine r_aloadR1 dX11_viewOn_29 ?_
  refine r_iload2 dX11_viewOn_30 ?_
  refine q_callV1 zm_RX11_361 dX11_viewOn_31 (shWy_k hs) (by decide) rfl (Nat.le_of_ble_eq_true rfl) (Nat.le_of_ble_eq_true rfl) (Nat.le_of_ble_eq_true rfl) (Nat.le_of_ble_eq_true rfl) (Nat.le_of_ble_eq_true rfl) (s_X9_depthOf G hs hx2 (wy_lt hc_z hk) (fun r31 e31_z => ?_))
  have hde := wy_dep hc1 hk e31_z
  refine n_iadd dX11_viewOn_34 (by omega) (fun r34 e34 => ?_)
  refine q_callV3 zm_RX11_236 dX11_viewOn_35 (shSc_k (shX_sc hx)) (by decide) rfl (Nat.le_of_ble_eq_true rfl) (Nat.le_of_ble_eq_true rfl) (Nat.le_of_ble_eq_true rfl) (Nat.le_of_ble_eq_true rfl) (Nat.le_of_ble_eq_true rfl) (s_X6_view (mk := T.2.2.1.1) (L := y.1) (n := tbC T) (fo := (T.2.2.1.2.length + y.2.1.length)) G (shX_sc hx) (shWy_s hs) hla (by omega) (shMo_k1 (shTb_mo (shX_tb hx))) (shMo_n1 (shTb_mo (shX_tb hx))) (by omega) (moRow hmo1 hwm.2.2) hwm.2.2 hry (by omega) (by omega) (fun f2_z ho2 hv2 => ?_))
  refine r_vret dX11_viewOn_38 rfl (Nat.le_of_ble_eq_true rfl) (Nat.le_of_ble_eq_true rfl) ?_
  exact hQ f2_z (fun q hq => (ho2 q (by omega)).trans (ho1 q (by omega))) hv2
def scoV (T : zTb) (by9 : Int) (L : zLy) (d : Nat) : Int := if by9 = -1 then worV T L d else if by9 = -2 then leaV T L d (tbG T) else likV T L d by9.toNat
set_option maxHeartbeats 4000000 in
set_option maxRecDepth 100000 in
theorem s_X11_scoreOn {g : zGT} {w : zW} {f : Nat → Nat → Int32} {j : Nat → Nat → Int64} {X : Nat} {T : zTb} {a n k : Nat} {x z : Int32} {NL : List zRw} {y : zRw} {Q : Option Value → zW → Prop} {QX : String → zW → Prop} (G : zGok g) (hx : shX w X) (ht : tbAt w f X (X + 11) T) (ha_z : a = X + 57 ∨ a = X + 75) (hs : shWy w a) (hc_z : ctWy f a n NL) (hn : n = tbC T) (hk : NL[k]? = some y) (hx2 : x.toInt = (k : Nat)) (hdp : y.2.1.length ≤ 5) (hz : -2 ≤ z.toInt ∧ z.toInt < (tbG T : Nat)) (hQ : ∀ (r : Int32) f2_z, r.toInt = scoV T z.toInt y.1 (T.2.2.1.2.length + y.2.1.length) → (∀ q, (q < X + 54 ∨ X + 57 ≤ q ∧ q < a + 10 ∨ a + 14 ≤ q) → f2_z q = f q) → Q (some (.int r)) (zM w f2_z j)) : zC g 6 yX11_scoreOn cX11_scoreOn 4 (some .int) [.ref X, .ref a, .int x, .int z] (zM w f j) (0, 0) Q QX := by
  refine zC_of G (by decide +kernel) (Nat.le_of_ble_eq_true rfl) ?_
  have ht0 := ht
  obtain ⟨nq, pp, g0, p0, hnq, hna0, hpp, hctb, hpast, hwf⟩ := ht0
  have hna1 := hna0
  obtain ⟨hna, hcn, ⟨hz1, hz2, hz3⟩, hl1, hl2, hl3⟩ := hna0
  have hmo := hctb.2.2.1
  have hn6 : tbC T ≤ 6 := hwf.2.1
  have hg4 : tbG T ≤ 4 := hwf.2.2.1
  have hwm := hwf.2.2.2.2.2.2.2.1
  have hrt := wfT_rch hwf
  have hfl : (f (X + 11 + 7) 2).toInt = (T.2.2.1.2.length : Nat) := by rw [hmo.1]; have := hmo.2.1; exact zi_n (by omega)
  have hcells : (f nq 1).toInt = (tbC T : Nat) := by rw [hcn.2.1]; exact zi_n (n := tbC T) (by omega)
  have hgs : (f nq 2).toInt = (tbG T : Nat) := by rw [hcn.2.2.1]; exact zi_n (n := tbG T) (by omega)
  have hry : rch (tbC T) y.1 := hn ▸ hc_z.2.2.2.2 y (List.mem_of_getElem? hk)
  have hl5 := hmo.2.1
  refine r_aloadR0 dX11_scoreOn_0 ?_
  refine r_aloadR1 dX11_scoreOn_1 ?_
  refine r_iload2 dX11_scoreOn_2 ?_
  refine q_callV2 zm_RX11_378 dX11_scoreOn_3 (shX_k hx) (by decide) rfl (Nat.le_of_ble_eq_true rfl) (Nat.le_of_ble_eq_true rfl) (Nat.le_of_ble_eq_true rfl) (Nat.le_of_ble_eq_true rfl) (Nat.le_of_ble_eq_true rfl) (s_X11_viewOn G hx ht ha_z hs hc_z hn hk hx2 hdp (fun f1_z ho1 hv1 => ?_))
  have hfq : frQ X f f1_z := fun q hq => ho1 q (by omega)
  have ht1 := tbAt_Q ht hfq
  refine r_iload3 dX11_scoreOn_6 ?_
  refine n_iconst dX11_scoreOn_7 (by decide) (fun r7 e7_z => ?_)
  refine t_icne (t := 16) dX11_scoreOn_8 (by decide) (fun h8 => ?_) (fun h8 => ?_)
  · refine r_iload3 dX11_scoreOn_16 ?_
    refine n_bipush dX11_scoreOn_17 (by decide) (fun r17 e17_z => ?_)
    refine t_icne (t := 29) dX11_scoreOn_19 (by decide) (fun h19 => ?_) (fun h19 => ?_)
    · refine r_aloadR0 dX11_scoreOn_29 ?_
      refine r_iload3 dX11_scoreOn_30 ?_
      refine q_callV1 zm_RX11_214 dX11_scoreOn_31 (shX_k hx) (by decide) rfl (Nat.le_of_ble_eq_true rfl) (Nat.le_of_ble_eq_true rfl) (Nat.le_of_ble_eq_true rfl) (Nat.le_of_ble_eq_true rfl) (Nat.le_of_ble_eq_true rfl) (s_X11_likingInView (L := y.1) (d := (T.2.2.1.2.length + y.2.1.length)) (gu := z.toInt.toNat) G hx ht1 hv1 hry (by omega) (by omega) (by omega) (fun r31 f2_z e31_z ho2 hk2 => ?_))
      refine r_iret dX11_scoreOn_34 rfl (Nat.le_of_ble_eq_true rfl) (Nat.le_of_ble_eq_true rfl) ?_
      first
        | (refine hQ _ f2_z ?_ (fun q hq => (ho2 q (by omega)).trans (ho1 q (by omega))); unfold scoV; rw [if_neg (by omega), if_pos (by omega)]; exact e23_z)
        | (refine hQ _ f2_z ?_ (fun q hq => (ho2 q (by omega)).trans (ho1 q (by omega))); unfold scoV; rw [if_neg (by omega), if_neg (by omega)]; exact e31_z)
    · refine r_aloadR0 dX11_scoreOn_22 ?_
      refine q_callV0 zm_RX11_423 dX11_scoreOn_23 (shX_k hx) (by decide) rfl (Nat.le_of_ble_eq_true rfl) (Nat.le_of_ble_eq_true rfl) (Nat.le_of_ble_eq_true rfl) (Nat.le_of_ble_eq_true rfl) (Nat.le_of_ble_eq_true rfl) (s_X11_leastLikingInView (L := y.1) (d := (T.2.2.1.2.length + y.2.1.length)) G hx ht1 hv1 hry (by omega) (fun r23 f2_z e23_z ho2 hk2 => ?_))
      refine r_goto (t := 34) dX11_scoreOn_26 (by decide) ?_
      refine r_iret dX11_scoreOn_34 rfl (Nat.le_of_ble_eq_true rfl) (Nat.le_of_ble_eq_true rfl) ?_
      first
        | (refine hQ _ f2_z ?_ (fun q hq => (ho2 q (by omega)).trans (ho1 q (by omega))); unfold scoV; rw [if_neg (by omega), if_pos (by omega)]; exact e23_z)
        | (refine hQ _ f2_z ?_ (fun q hq => (ho2 q (by omega)).trans (ho1 q (by omega))); unfold scoV; rw [if_neg (by omega), if_neg (by omega)]; exact e31_z)
  · refine r_aloadR0 dX11_scoreOn_11 ?_
    refine q_callV0 zm_RX11_201 dX11_scoreOn_12 (shX_k hx) (by decide) rfl (Nat.le_of_ble_eq_true rfl) (Nat.le_of_ble_eq_true rfl) (Nat.le_of_ble_eq_true rfl) (Nat.le_of_ble_eq_true rfl) (Nat.le_of_ble_eq_true rfl) (s_X11_worthInView (L := y.1) (d := (T.2.2.1.2.length + y.2.1.length)) G hx ht1 hv1 hry (by omega) (fun r12 f2_z e12_z ho2 => ?_))
    refine r_iret dX11_scoreOn_15 rfl (Nat.le_of_ble_eq_true rfl) (Nat.le_of_ble_eq_true rfl) ?_
    refine hQ _ f2_z ?_ (fun q hq => (ho2 q (by omega)).trans (ho1 q (by omega)))
    unfold scoV
    rw [if_pos (by omega)]
    exact e12_z
