/-! the class: the greatest, the soonest -/
def stW (T : zTb) (by9 : Int) (s : Int × List Nat) (L : zLy) (r : List Nat) : Int × List Nat := if s.1 < scoV T by9 L (T.2.2.1.2.length + r.length) then (scoV T by9 L (T.2.2.1.2.length + r.length), r) else s
def bestW (T : zTb) (by9 : Int) (X : List zRw) : Int × List Nat := X.foldl (fun s y => stW T by9 s y.1 y.2.1) (-536870912, [])
theorem bestW_snoc {T : zTb} {by9 : Int} {X : List zRw} {y : zRw} : bestW T by9 (X ++ [y]) = stW T by9 (bestW T by9 X) y.1 y.2.1 := by
  unfold bestW
  rw [List.foldl_append]
  rfl
theorem scoV_bd {T : zTb} {by9 : Int} {L : zLy} {d : Nat} (h_z : wfT T) (hr : rch (tbC T) L) (hd_z : d < 100) (hb_z : by9 < (tbG T : Nat)) : bdI (scoV T by9 L d) := by
  have hg : tbG T ≤ 4 := h_z.2.2.1
  unfold scoV
  split
  · exact worV_bd h_z hr hd_z
  split
  · exact leaV_bd h_z hr hd_z (by omega)
  · exact likV_bd h_z hr hd_z (by omega)
def frG (X : Nat) (f f2_z : Nat → Nat → Int32) : Prop := ∀ q, (q < X + 54 ∨ X + 57 ≤ q ∧ q < X + 67 ∨ X + 71 ≤ q) → f2_z q = f q
theorem frG_rf {X : Nat} {f : Nat → Nat → Int32} : frG X f f := fun _ _ => rfl
theorem frG_tr {X : Nat} {f f2_z f3_z : Nat → Nat → Int32} (h_z : frG X f f2_z) (h2 : frG X f2_z f3_z) : frG X f f3_z := fun q hq => (h2 q hq).trans (h_z q hq)
theorem frG_L {X : Nat} {f f2_z : Nat → Nat → Int32} (h_z : frG X f f2_z) : frL X (X + 57) f f2_z := fun q hq => h_z q (by omega)
def bestI (s : Int × List Nat) (x : Int) : Int := if x = 0 then s.1 else rowI s.2 1 x
def findW (p : zLy → List Nat → Bool) (X : List zRw) : Option zRw := X.find? (fun y => p y.1 y.2.1)
def findI (o : Option zRw) (x : Int) : Int := match o with
  | some y => rowI y.2.1 0 x
  | none => -1
theorem find_snoc {α : Type} {p : α → Bool} {X : List α} {y : α} (h_z : X.find? p = none) : (X ++ [y]).find? p = if p y = true then some y else none := by
  rw [List.find?_append, h_z, Option.none_or, List.find?_cons]
  cases hp : p y with
  | true => rfl
  | false => rfl
theorem find_hit {α : Type} {p : α → Bool} {X : List α} {k : Nat} {y : α} (h_z : (X.take k).find? p = none) (hk : X[k]? = some y) (hp : p y = true) : X.find? p = some y := by
  have e : X = X.take (k + 1) ++ X.drop (k + 1) := (List.take_append_drop (k + 1) X).symm
  rw [e, List.find?_append, take_snoc hk, find_snoc h_z, if_pos hp]
  rfl
theorem levs6 {L : zLy} : levs L (5 + 1) = nodesR L := rfl
set_option maxHeartbeats 4000000 in
set_option maxRecDepth 100000 in
theorem s_X11_greatestNode {g : zGT} {w : zW} {f : Nat → Nat → Int32} {j : Nat → Nat → Int64} {X : Nat} {T : zTb} {x z : Int32} {Q : Option Value → zW → Prop} {QX : String → zW → Prop} (G : zGok g) (hx : shX w X) (ht : tbAt w f X (X + 11) T) (hc_z : ctWy f (X + 57) (tbC T) (nodesR (tbL T))) (hxx : 0 ≤ x.toInt ∧ x.toInt ≤ 5) (hz : -2 ≤ z.toInt ∧ z.toInt < (tbG T : Nat)) (hQ : ∀ (r : Int32) f2_z (p : Nat) (y : zRw), r.toInt = (p : Nat) → (nodesR (tbL T))[p]? = some y → (scoV T z.toInt y.1 (T.2.2.1.2.length + y.2.1.length), y.2.1) = bestW T z.toInt (levs (tbL T) (x.toInt.toNat + 1)) → frG X f f2_z → Q (some (.int r)) (zM w f2_z j)) : zC g 7 yX11_greatestNode cX11_greatestNode 8 (some .int) [.ref X, .ref (X + 57), .int x, .int z] (zM w f j) (0, 0) Q QX := by
  refine zC_of G (by decide +kernel) (Nat.le_of_ble_eq_true rfl) ?_
  have ht0 := ht
  obtain ⟨nq, pp, g0, p0, hnq, hna0, hpp, hctb, hpast, hwf⟩ := ht0
  have hna1 := hna0
  obtain ⟨hna, hcn, ⟨hz1, hz2, hz3⟩, hl1, hl2, hl3⟩ := hna0
  have hmo := hctb.2.2.1
  have hn6 : tbC T ≤ 6 := hwf.2.1
  have hg4 : tbG T ≤ 4 := hwf.2.2.1
  have hwm := hwf.2.2.2.2.2.2.2.1
  have hrt := wfT_rch hwf
  have hfl : (f (X + 11 + 7) 2).toInt = (T.2.2.1.2.length : Nat) := by rw [hmo.1]; have := hmo.2.1; exact zi_n (by omega)
  have hcells : (f nq 1).toInt = (tbC T : Nat) := by rw [hcn.2.1]; exact zi_n (n := tbC T) (by omega)
  have hgs : (f nq 2).toInt = (tbG T : Nat) := by rw [hcn.2.2.1]; exact zi_n (n := tbG T) (by omega)
  have hl5 := hmo.2.1
  have hc0 := hc_z
  refine n_iconst dX11_greatestNode_0 (by decide) (fun r0 e0_z => ?_)
  refine r_istore4 dX11_greatestNode_1 rfl ?_
  refine r_aloadR0 dX11_greatestNode_3 ?_
  refine r_aloadR1 dX11_greatestNode_4 ?_
  refine n_iconst dX11_greatestNode_5 (by decide) (fun r5 e5_z => ?_)
  refine r_iload3 dX11_greatestNode_6 ?_
  refine q_callV3 zm_RX11_397 dX11_greatestNode_7 (shX_k hx) (by decide) rfl (Nat.le_of_ble_eq_true rfl) (Nat.le_of_ble_eq_true rfl) (Nat.le_of_ble_eq_true rfl) (Nat.le_of_ble_eq_true rfl) (Nat.le_of_ble_eq_true rfl) (s_X11_scoreOn (y := (tbL T, [], 1)) (k := 0) G hx ht (Or.inl rfl) (shX_wo hx) hc0 rfl (nodes_0 (L := tbL T)) (by omega) (nd_dep (nodes_0 (L := tbL T))) hz (fun r7 f1_z e7_z ho7 => ?_))
  refine r_istore5 dX11_greatestNode_10 rfl ?_
  refine n_iconst dX11_greatestNode_12 (by decide) (fun r12 e12_z => ?_)
  refine r_istore6 dX11_greatestNode_13 rfl ?_
  have lp : ∀ (mz : Nat) (gg : Int32) (s : Int32) (c : Int32) (v7 : Option Value) (k : Nat) (p : Nat) (f2_z : Nat → Nat → Int32) (u : zRw), c.toInt = (k : Nat) → k ≤ (levs (tbL T) (x.toInt.toNat + 1)).length → 1 ≤ k → gg.toInt = (p : Nat) → (nodesR (tbL T))[p]? = some u → s.toInt = scoV T z.toInt u.1 (T.2.2.1.2.length + u.2.1.length) → (scoV T z.toInt u.1 (T.2.2.1.2.length + u.2.1.length), u.2.1) = bestW T z.toInt ((levs (tbL T) (x.toInt.toNat + 1)).take k) → frG X f f2_z → 1025 - k < mz → zR (zV g 7 yX11_greatestNode 8 (some .int) (0, 0) Q QX) cX11_greatestNode yX11_greatestNode.cls 15 [some (.ref X), some (.ref (X + 57)), some (.int x), some (.int z), some (.int gg), some (.int s), some (.int c), v7] [] (zM w f2_z j) (0, 0) := by
    intro mz
    induction mz with
    | zero =>
      intro gg s c v7 k p f2_z u hck hk hk1 hg hp hs9 hb_z ho hmz
      exact absurd hmz (Nat.not_lt_zero _)
    | succ mz ih =>
      intro gg s c v7 k p f2_z u hck hk hk1 hg hp hs9 hb_z ho hmz
      have hc2 := frL_wy hc0 (frG_L ho) (Or.inl rfl)
      have ht2 := tbAt_Q ht (frL_Q (frG_L ho) (Or.inl rfl))
      have hnl := nd_len (L := tbL T) (n := x.toInt.toNat) (by omega)
      have hn1000 := nodes_len hrt
      have hsz : (f2_z (X + 57) 12).toInt = ((nodesR (tbL T)).length : Nat) := hc2.1.1
      rcases Nat.lt_or_ge k (levs (tbL T) (x.toInt.toNat + 1)).length with hkl | hkl
      · obtain ⟨y, hy⟩ : ∃ y, (levs (tbL T) (x.toInt.toNat + 1))[k]? = some y := ⟨_, List.getElem?_eq_getElem hkl⟩
        obtain ⟨hnd, hdle⟩ := nd_in (by omega) hy
        have hsn : bestW T z.toInt ((levs (tbL T) (x.toInt.toNat + 1)).take (k + 1)) = stW T z.toInt (bestW T z.toInt ((levs (tbL T) (x.toInt.toNat + 1)).take k)) y.1 y.2.1 := by rw [take_snoc hy, bestW_snoc]
        rw [← hb_z] at hsn
        unfold stW at hsn
        refine r_iload6 dX11_greatestNode_15 ?_
        refine r_aloadR1 dX11_greatestNode_17 ?_
        refine m_getV (x := (f2_z (X + 57) 12)) zf_RX11_358 rfl dX11_greatestNode_18 (shWy_k (shX_wo hx)) (rfl) ?_
        refine t_icge (t := 65) dX11_greatestNode_21 (by decide) (fun h21 => False.elim (by omega)) (fun h21 => ?_)
        refine r_aloadR1 dX11_greatestNode_24 ?_
        refine r_iload6 dX11_greatestNode_25 ?_
        refine q_callV1 zm_RX11_361 dX11_greatestNode_27 (shWy_k (shX_wo hx)) (by decide) rfl (Nat.le_of_ble_eq_true rfl) (Nat.le_of_ble_eq_true rfl) (Nat.le_of_ble_eq_true rfl) (Nat.le_of_ble_eq_true rfl) (Nat.le_of_ble_eq_true rfl) (s_X9_depthOf (k := k) G (shX_wo hx) hck (by omega) (fun r27 e27_z => ?_))
        have hd27 := wy_dep hc2 hnd e27_z
        refine r_iload2 dX11_greatestNode_30 ?_
        refine t_icgt (t := 65) dX11_greatestNode_31 (by decide) (fun h31 => False.elim (by omega)) (fun h31 => ?_)
        refine r_aloadR0 dX11_greatestNode_34 ?_
        refine r_aloadR1 dX11_greatestNode_35 ?_
        refine r_iload6 dX11_greatestNode_36 ?_
        refine r_iload3 dX11_greatestNode_38 ?_
        refine q_callV3 zm_RX11_397 dX11_greatestNode_39 (shX_k hx) (by decide) rfl (Nat.le_of_ble_eq_true rfl) (Nat.le_of_ble_eq_true rfl) (Nat.le_of_ble_eq_true rfl) (Nat.le_of_ble_eq_true rfl) (Nat.le_of_ble_eq_true rfl) (s_X11_scoreOn (y := y) (k := k) G hx ht2 (Or.inl rfl) (shX_wo hx) hc2 rfl hnd hck (nd_dep hnd) hz (fun r39 f3_z e39 ho39 => ?_))
        refine r_istore7 dX11_greatestNode_42 rfl ?_
        refine r_iload7 dX11_greatestNode_44 ?_
        refine r_iload5 dX11_greatestNode_46 ?_
        refine t_icle (t := 59) dX11_greatestNode_48 (by decide) (fun h48 => ?_) (fun h48 => ?_)
        · refine n_iinc6 dX11_greatestNode_59 (by decide) rfl (by omega) (fun r59 e59 => ?_)
          refine r_goto (t := 15) dX11_greatestNode_62 (by decide) ?_
          rw [if_neg (by show ¬ scoV T z.toInt u.1 _ < scoV T z.toInt y.1 _; omega)] at hsn
          exact ih _ _ _ _ (k + 1) p f3_z u (by omega) (by omega) (by omega) hg hp hs9 (by rw [hsn]) (frG_tr ho (fun q hq => ho39 q (by omega))) (by omega)
        · refine r_iload6 dX11_greatestNode_51 ?_
          refine r_istore4 dX11_greatestNode_53 rfl ?_
          refine r_iload7 dX11_greatestNode_55 ?_
          refine r_istore5 dX11_greatestNode_57 rfl ?_
          refine n_iinc6 dX11_greatestNode_59 (by decide) rfl (by omega) (fun r59 e59 => ?_)
          refine r_goto (t := 15) dX11_greatestNode_62 (by decide) ?_
          rw [if_pos (by show scoV T z.toInt u.1 _ < scoV T z.toInt y.1 _; omega)] at hsn
          exact ih _ _ _ _ (k + 1) k f3_z y (by omega) (by omega) (by omega) (by omega) hnd e39 (by rw [hsn]) (frG_tr ho (fun q hq => ho39 q (by omega))) (by omega)
      · have hke : k = (levs (tbL T) (x.toInt.toNat + 1)).length := by omega
        have hful : (levs (tbL T) (x.toInt.toNat + 1)).take k = (levs (tbL T) (x.toInt.toNat + 1)) := List.take_of_length_le (by omega)
        rw [hful] at hb_z
        have hend := hQ gg f2_z p u hg hp hb_z ho
        rcases Nat.lt_or_ge k (nodesR (tbL T)).length with hk2 | hk2
        · obtain ⟨y, hnd⟩ : ∃ y, (nodesR (tbL T))[k]? = some y := ⟨_, List.getElem?_eq_getElem hk2⟩
          have hdl := nd_out (n := x.toInt.toNat) (by omega) hnd (by omega)
          refine r_iload6 dX11_greatestNode_15 ?_
          refine r_aloadR1 dX11_greatestNode_17 ?_
          refine m_getV (x := (f2_z (X + 57) 12)) zf_RX11_358 rfl dX11_greatestNode_18 (shWy_k (shX_wo hx)) (rfl) ?_
          refine t_icge (t := 65) dX11_greatestNode_21 (by decide) (fun h21 => False.elim (by omega)) (fun h21 => ?_)
          refine r_aloadR1 dX11_greatestNode_24 ?_
          refine r_iload6 dX11_greatestNode_25 ?_
          refine q_callV1 zm_RX11_361 dX11_greatestNode_27 (shWy_k (shX_wo hx)) (by decide) rfl (Nat.le_of_ble_eq_true rfl) (Nat.le_of_ble_eq_true rfl) (Nat.le_of_ble_eq_true rfl) (Nat.le_of_ble_eq_true rfl) (Nat.le_of_ble_eq_true rfl) (s_X9_depthOf (k := k) G (shX_wo hx) hck (by omega) (fun r27 e27_z => ?_))
          have hd27 := wy_dep hc2 hnd e27_z
          refine r_iload2 dX11_greatestNode_30 ?_
          refine t_icgt (t := 65) dX11_greatestNode_31 (by decide) (fun h31 => ?_) (fun h31 => False.elim (by omega))
          refine r_iload4 dX11_greatestNode_65 ?_
          refine r_iret dX11_greatestNode_67 rfl (Nat.le_of_ble_eq_true rfl) (Nat.le_of_ble_eq_true rfl) ?_
          exact hend
        · refine r_iload6 dX11_greatestNode_15 ?_
          refine r_aloadR1 dX11_greatestNode_17 ?_
          refine m_getV (x := (f2_z (X + 57) 12)) zf_RX11_358 rfl dX11_greatestNode_18 (shWy_k (shX_wo hx)) (rfl) ?_
          refine t_icge (t := 65) dX11_greatestNode_21 (by decide) (fun h21 => ?_) (fun h21 => False.elim (by omega))
          refine r_iload4 dX11_greatestNode_65 ?_
          refine r_iret dX11_greatestNode_67 rfl (Nat.le_of_ble_eq_true rfl) (Nat.le_of_ble_eq_true rfl) ?_
          exact hend
  have hfst : (levs (tbL T) (x.toInt.toNat + 1))[0]? = some (tbL T, [], 1) := by
    have h0 : levs (tbL T) (x.toInt.toNat + 1) = levs (tbL T) (0 + 1) ++ ((levs (tbL T) (x.toInt.toNat + 1)).drop 1) := by
      have h1 : ∀ m, levs (tbL T) (m + 1) = [((tbL T, [], 1) : zRw)] ++ (levs (tbL T) (m + 1)).drop 1 := by
        intro m
        induction m with
        | zero => rfl
        | succ m ih =>
          rw [levs_succ, ih]
          rfl
      exact h1 _
    rw [h0]
    rfl
  have hlen1 : 1 ≤ (levs (tbL T) (x.toInt.toNat + 1)).length := by have := (List.getElem?_eq_some_iff.mp hfst).1; omega
  have htk1 : (levs (tbL T) (x.toInt.toNat + 1)).take 1 = [(tbL T, [], 1)] := by rw [show (1 : Nat) = 0 + 1 from rfl, take_snoc hfst]; rfl
  have hbd0 := scoV_bd (by9 := z.toInt) (L := tbL T) (d := T.2.2.1.2.length + 0) hwf hrt (by omega) hz.2
  unfold bdI at hbd0
  exact lp 1026 _ _ _ none 1 0 f1_z (tbL T, [], 1) (by omega) hlen1 (Nat.le_refl _) (by omega) nodes_0 e7_z (by rw [htk1]; show _ = stW T z.toInt (-536870912, []) (tbL T) []; unfold stW; rw [if_pos (by show -536870912 < scoV T z.toInt (tbL T) (T.2.2.1.2.length + 0); omega)]) (fun q hq => ho7 q (by omega)) (by omega)
set_option maxHeartbeats 4000000 in
set_option maxRecDepth 100000 in
theorem s_X11_best {g : zGT} {w : zW} {f : Nat → Nat → Int32} {j : Nat → Nat → Int64} {X : Nat} {T : zTb} {x x2 : Int32} {Q : Option Value → zW → Prop} {QX : String → zW → Prop} (G : zGok g) (hx : shX w X) (ht : tbAt w f X (X + 11) T) (hI : wyI f (X + 57)) (hXIA : ¬ ((0 ≤ x.toInt ∧ x.toInt ≤ 5) ∧ (x2.toInt = 1 ∨ x2.toInt = 0 ∨ 10 ≤ x2.toInt ∧ x2.toInt ≤ 14)) → ∀ n, zS w ≤ n → QX "java/lang/IllegalArgumentException" (zsS (zM w f j) n)) (hQ : ((0 ≤ x.toInt ∧ x.toInt ≤ 5) ∧ (x2.toInt = 1 ∨ x2.toInt = 0 ∨ 10 ≤ x2.toInt ∧ x2.toInt ≤ 14)) → ∀ (r : Int32) f2_z, r.toInt = bestI (bestW T (-1) (levs (tbL T) (x.toInt.toNat + 1))) x2.toInt → qX X f f2_z → Q (some (.int r)) (zM w f2_z j)) : zC g 9 yX11_best cX11_best 5 (some .int) [.ref X, .int x, .int x2] (zM w f j) (1, 6) Q QX := by
  refine zC_of G (by decide +kernel) (Nat.le_of_ble_eq_true rfl) ?_
  have ht0 := ht
  obtain ⟨nq, pp, g0, p0, hnq, hna0, hpp, hctb, hpast, hwf⟩ := ht0
  have hna1 := hna0
  obtain ⟨hna, hcn, ⟨hz1, hz2, hz3⟩, hl1, hl2, hl3⟩ := hna0
  have hmo := hctb.2.2.1
  have hn6 : tbC T ≤ 6 := hwf.2.1
  have hg4 : tbG T ≤ 4 := hwf.2.2.1
  have hwm := hwf.2.2.2.2.2.2.2.1
  have hrt := wfT_rch hwf
  have hfl : (f (X + 11 + 7) 2).toInt = (T.2.2.1.2.length : Nat) := by rw [hmo.1]; have := hmo.2.1; exact zi_n (by omega)
  have hcells : (f nq 1).toInt = (tbC T : Nat) := by rw [hcn.2.1]; exact zi_n (n := tbC T) (by omega)
  have hgs : (f nq 2).toInt = (tbG T : Nat) := by rw [hcn.2.2.1]; exact zi_n (n := tbG T) (by omega)
  have hl5 := hmo.2.1
  refine r_iload1 dX11_best_0 ?_
  refine q_callS1 zm_RX11_386 dX11_best_1 (Nat.le_of_ble_eq_true rfl) (Nat.le_of_ble_eq_true rfl) (Nat.le_of_ble_eq_true rfl) (Nat.le_of_ble_eq_true rfl) (Nat.le_of_ble_eq_true rfl) (s_X11_isFoldsOn G  (fun r1 e1_z => ?_))
  refine t_ifeq (t := 14) dX11_best_4 (by decide) (fun h4 => ?_) (fun h4 => ?_)
  · refine r_throwW zth_IA (List.mem_of_getElem? (i := 18) rfl) dX11_best_14 dX11_best_17 dX11_best_18 dX11_best_21 dX11_best_24 (Nat.le_of_ble_eq_true rfl) (Nat.le_of_ble_eq_true rfl) (Nat.le_of_ble_eq_true rfl) (Nat.le_of_ble_eq_true rfl) ?_
    exact hXIA (by omega)
  · refine r_iload2 dX11_best_7 ?_
    refine q_callS1 zm_RX11_389 dX11_best_8 (Nat.le_of_ble_eq_true rfl) (Nat.le_of_ble_eq_true rfl) (Nat.le_of_ble_eq_true rfl) (Nat.le_of_ble_eq_true rfl) (Nat.le_of_ble_eq_true rfl) (s_X11_asksOfGreatest G  (fun r8 e8 => ?_))
    refine t_ifne (t := 25) dX11_best_11 (by decide) (fun h11 => ?_) (fun h11 => ?_)
    · refine r_aloadR0 dX11_best_25 ?_
      refine q_callV0 zm_RX11_354 dX11_best_26 (shX_k hx) (by decide) rfl (Nat.le_of_ble_eq_true rfl) (Nat.le_of_ble_eq_true rfl) (Nat.le_of_ble_eq_true rfl) (Nat.le_of_ble_eq_true rfl) (Nat.le_of_ble_eq_true rfl) (s_X11_growOn G hx ht hI (fun f1_z hq1 hw1 hs1 hc1 => ?_))
      have ht1 := tbAt_Q ht hq1
      have hok : 0 ≤ x.toInt ∧ x.toInt ≤ 5 := by omega
      have hwt : (x2.toInt = 1 ∨ x2.toInt = 0 ∨ 10 ≤ x2.toInt ∧ x2.toInt ≤ 14) := by omega
      refine r_astore3 dX11_best_29 rfl ?_
      refine r_aloadR0 dX11_best_30 ?_
      refine r_aloadR3 dX11_best_31 ?_
      refine r_iload1 dX11_best_32 ?_
      refine n_iconst dX11_best_33 (by decide) (fun r33 e33_z => ?_)
      refine q_callV3 zm_RX11_394 dX11_best_34 (shX_k hx) (by decide) rfl (Nat.le_of_ble_eq_true rfl) (Nat.le_of_ble_eq_true rfl) (Nat.le_of_ble_eq_true rfl) (Nat.le_of_ble_eq_true rfl) (Nat.le_of_ble_eq_true rfl) (s_X11_greatestNode G hx ht1 hc1 hok (by omega) (fun r34 f2_z p y e34 hp hb_z ho2 => ?_))
      have hc2 := frL_wy hc1 (frG_L ho2) (Or.inl rfl)
      have ht2 := tbAt_Q ht1 (frL_Q (frG_L ho2) (Or.inl rfl))
      have hz9 : r33.toInt = -1 := by omega
      rw [hz9] at hb_z
      refine r_istore4 dX11_best_37 rfl ?_
      refine r_iload2 dX11_best_39 ?_
      refine t_ifne (t := 54) dX11_best_40 (by decide) (fun h40 => ?_) (fun h40 => ?_)
      · refine r_aloadR3 dX11_best_54 ?_
        refine r_iload4 dX11_best_55 ?_
        refine r_iload2 dX11_best_57 ?_
        refine q_callS3 zm_RX11_400 dX11_best_58 (Nat.le_of_ble_eq_true rfl) (Nat.le_of_ble_eq_true rfl) (Nat.le_of_ble_eq_true rfl) (Nat.le_of_ble_eq_true rfl) (Nat.le_of_ble_eq_true rfl) (s_X11_greatestAnswer (y := y) (k := p) G (shX_wo hx) hc2 e34 hp (nd_deed hrt hp) (by omega) (fun r58 e58 => ?_))
        refine r_iret dX11_best_61 rfl (Nat.le_of_ble_eq_true rfl) (Nat.le_of_ble_eq_true rfl) ?_
        refine hQ ⟨hok, hwt⟩ _ f2_z ?_ (qX_on hq1 hw1 hrt hc1 (frG_L ho2))
        unfold bestI
        rw [← hb_z]
        rw [if_neg (by omega)]
        exact e58
      · refine r_aloadR0 dX11_best_43 ?_
        refine r_aloadR3 dX11_best_44 ?_
        refine r_iload4 dX11_best_45 ?_
        refine n_iconst dX11_best_47 (by decide) (fun r47 e47 => ?_)
        refine q_callV3 zm_RX11_397 dX11_best_48 (shX_k hx) (by decide) rfl (Nat.le_of_ble_eq_true rfl) (Nat.le_of_ble_eq_true rfl) (Nat.le_of_ble_eq_true rfl) (Nat.le_of_ble_eq_true rfl) (Nat.le_of_ble_eq_true rfl) (s_X11_scoreOn (y := y) (k := p) G hx ht2 (Or.inl rfl) (shX_wo hx) hc2 rfl hp e34 (nd_dep hp) (by omega) (fun r48 f3_z e48 ho48 => ?_))
        have hz8 : r47.toInt = -1 := by omega
        rw [hz8] at e48
        refine r_goto (t := 61) dX11_best_51 (by decide) ?_
        refine r_iret dX11_best_61 rfl (Nat.le_of_ble_eq_true rfl) (Nat.le_of_ble_eq_true rfl) ?_
        refine hQ ⟨hok, hwt⟩ _ f3_z ?_ (qX_on hq1 hw1 hrt hc1 (frL_tr (frG_L ho2) (fun q hq => ho48 q (by omega))))
        unfold bestI
        rw [← hb_z]
        rw [if_pos (by omega)]
        exact e48
    · refine r_throwW zth_IA (List.mem_of_getElem? (i := 18) rfl) dX11_best_14 dX11_best_17 dX11_best_18 dX11_best_21 dX11_best_24 (Nat.le_of_ble_eq_true rfl) (Nat.le_of_ble_eq_true rfl) (Nat.le_of_ble_eq_true rfl) (Nat.le_of_ble_eq_true rfl) ?_
      exact hXIA (by omega)
set_option maxHeartbeats 4000000 in
set_option maxRecDepth 100000 in
theorem s_X11_fairest {g : zGT} {w : zW} {f : Nat → Nat → Int32} {j : Nat → Nat → Int64} {X : Nat} {T : zTb} {x x2 : Int32} {Q : Option Value → zW → Prop} {QX : String → zW → Prop} (G : zGok g) (hx : shX w X) (ht : tbAt w f X (X + 11) T) (hI : wyI f (X + 57)) (hXIA : ¬ ((0 ≤ x.toInt ∧ x.toInt ≤ 5) ∧ (x2.toInt = 1 ∨ x2.toInt = 0 ∨ 10 ≤ x2.toInt ∧ x2.toInt ≤ 14)) → ∀ n, zS w ≤ n → QX "java/lang/IllegalArgumentException" (zsS (zM w f j) n)) (hQ : ((0 ≤ x.toInt ∧ x.toInt ≤ 5) ∧ (x2.toInt = 1 ∨ x2.toInt = 0 ∨ 10 ≤ x2.toInt ∧ x2.toInt ≤ 14)) → ∀ (r : Int32) f2_z, r.toInt = bestI (bestW T (-2) (levs (tbL T) (x.toInt.toNat + 1))) x2.toInt → qX X f f2_z → Q (some (.int r)) (zM w f2_z j)) : zC g 9 yX11_fairest cX11_fairest 5 (some .int) [.ref X, .int x, .int x2] (zM w f j) (1, 6) Q QX := by
  refine zC_of G (by decide +kernel) (Nat.le_of_ble_eq_true rfl) ?_
  have ht0 := ht
  obtain ⟨nq, pp, g0, p0, hnq, hna0, hpp, hctb, hpast, hwf⟩ := ht0
  have hna1 := hna0
  obtain ⟨hna, hcn, ⟨hz1, hz2, hz3⟩, hl1, hl2, hl3⟩ := hna0
  have hmo := hctb.2.2.1
  have hn6 : tbC T ≤ 6 := hwf.2.1
  have hg4 : tbG T ≤ 4 := hwf.2.2.1
  have hwm := hwf.2.2.2.2.2.2.2.1
  have hrt := wfT_rch hwf
  have hfl : (f (X + 11 + 7) 2).toInt = (T.2.2.1.2.length : Nat) := by rw [hmo.1]; have := hmo.2.1; exact zi_n (by omega)
  have hcells : (f nq 1).toInt = (tbC T : Nat) := by rw [hcn.2.1]; exact zi_n (n := tbC T) (by omega)
  have hgs : (f nq 2).toInt = (tbG T : Nat) := by rw [hcn.2.2.1]; exact zi_n (n := tbG T) (by omega)
  have hl5 := hmo.2.1
  refine r_iload1 dX11_fairest_0 ?_
  refine q_callS1 zm_RX11_386 dX11_fairest_1 (Nat.le_of_ble_eq_true rfl) (Nat.le_of_ble_eq_true rfl) (Nat.le_of_ble_eq_true rfl) (Nat.le_of_ble_eq_true rfl) (Nat.le_of_ble_eq_true rfl) (s_X11_isFoldsOn G  (fun r1 e1_z => ?_))
  refine t_ifeq (t := 14) dX11_fairest_4 (by decide) (fun h4 => ?_) (fun h4 => ?_)
  · refine r_throwW zth_IA (List.mem_of_getElem? (i := 18) rfl) dX11_fairest_14 dX11_fairest_17 dX11_fairest_18 dX11_fairest_21 dX11_fairest_24 (Nat.le_of_ble_eq_true rfl) (Nat.le_of_ble_eq_true rfl) (Nat.le_of_ble_eq_true rfl) (Nat.le_of_ble_eq_true rfl) ?_
    exact hXIA (by omega)
  · refine r_iload2 dX11_fairest_7 ?_
    refine q_callS1 zm_RX11_389 dX11_fairest_8 (Nat.le_of_ble_eq_true rfl) (Nat.le_of_ble_eq_true rfl) (Nat.le_of_ble_eq_true rfl) (Nat.le_of_ble_eq_true rfl) (Nat.le_of_ble_eq_true rfl) (s_X11_asksOfGreatest G  (fun r8 e8 => ?_))
    refine t_ifne (t := 25) dX11_fairest_11 (by decide) (fun h11 => ?_) (fun h11 => ?_)
    · refine r_aloadR0 dX11_fairest_25 ?_
      refine q_callV0 zm_RX11_354 dX11_fairest_26 (shX_k hx) (by decide) rfl (Nat.le_of_ble_eq_true rfl) (Nat.le_of_ble_eq_true rfl) (Nat.le_of_ble_eq_true rfl) (Nat.le_of_ble_eq_true rfl) (Nat.le_of_ble_eq_true rfl) (s_X11_growOn G hx ht hI (fun f1_z hq1 hw1 hs1 hc1 => ?_))
      have ht1 := tbAt_Q ht hq1
      have hok : 0 ≤ x.toInt ∧ x.toInt ≤ 5 := by omega
      have hwt : (x2.toInt = 1 ∨ x2.toInt = 0 ∨ 10 ≤ x2.toInt ∧ x2.toInt ≤ 14) := by omega
      refine r_astore3 dX11_fairest_29 rfl ?_
      refine r_aloadR0 dX11_fairest_30 ?_
      refine r_aloadR3 dX11_fairest_31 ?_
      refine r_iload1 dX11_fairest_32 ?_
      refine n_bipush dX11_fairest_33 (by decide) (fun r33 e33_z => ?_)
      refine q_callV3 zm_RX11_394 dX11_fairest_35 (shX_k hx) (by decide) rfl (Nat.le_of_ble_eq_true rfl) (Nat.le_of_ble_eq_true rfl) (Nat.le_of_ble_eq_true rfl) (Nat.le_of_ble_eq_true rfl) (Nat.le_of_ble_eq_true rfl) (s_X11_greatestNode G hx ht1 hc1 hok (by omega) (fun r34 f2_z p y e34 hp hb_z ho2 => ?_))
      have hc2 := frL_wy hc1 (frG_L ho2) (Or.inl rfl)
      have ht2 := tbAt_Q ht1 (frL_Q (frG_L ho2) (Or.inl rfl))
      have hz9 : r33.toInt = -2 := by omega
      rw [hz9] at hb_z
      refine r_istore4 dX11_fairest_38 rfl ?_
      refine r_iload2 dX11_fairest_40 ?_
      refine t_ifne (t := 56) dX11_fairest_41 (by decide) (fun h41 => ?_) (fun h41 => ?_)
      · refine r_aloadR3 dX11_fairest_56 ?_
        refine r_iload4 dX11_fairest_57 ?_
        refine r_iload2 dX11_fairest_59 ?_
        refine q_callS3 zm_RX11_400 dX11_fairest_60 (Nat.le_of_ble_eq_true rfl) (Nat.le_of_ble_eq_true rfl) (Nat.le_of_ble_eq_true rfl) (Nat.le_of_ble_eq_true rfl) (Nat.le_of_ble_eq_true rfl) (s_X11_greatestAnswer (y := y) (k := p) G (shX_wo hx) hc2 e34 hp (nd_deed hrt hp) (by omega) (fun r60 e60 => ?_))
        refine r_iret dX11_fairest_63 rfl (Nat.le_of_ble_eq_true rfl) (Nat.le_of_ble_eq_true rfl) ?_
        refine hQ ⟨hok, hwt⟩ _ f2_z ?_ (qX_on hq1 hw1 hrt hc1 (frG_L ho2))
        unfold bestI
        rw [← hb_z]
        rw [if_neg (by omega)]
        exact e60
      · refine r_aloadR0 dX11_fairest_44 ?_
        refine r_aloadR3 dX11_fairest_45 ?_
        refine r_iload4 dX11_fairest_46 ?_
        refine n_bipush dX11_fairest_48 (by decide) (fun r48 e48 => ?_)
        refine q_callV3 zm_RX11_397 dX11_fairest_50 (shX_k hx) (by decide) rfl (Nat.le_of_ble_eq_true rfl) (Nat.le_of_ble_eq_true rfl) (Nat.le_of_ble_eq_true rfl) (Nat.le_of_ble_eq_true rfl) (Nat.le_of_ble_eq_true rfl) (s_X11_scoreOn (y := y) (k := p) G hx ht2 (Or.inl rfl) (shX_wo hx) hc2 rfl hp e34 (nd_dep hp) (by omega) (fun r50 f3_z e50 ho50 => ?_))
        have hz8 : r48.toInt = -2 := by omega
        rw [hz8] at e50
        refine r_goto (t := 63) dX11_fairest_53 (by decide) ?_
        refine r_iret dX11_fairest_63 rfl (Nat.le_of_ble_eq_true rfl) (Nat.le_of_ble_eq_true rfl) ?_
        refine hQ ⟨hok, hwt⟩ _ f3_z ?_ (qX_on hq1 hw1 hrt hc1 (frL_tr (frG_L ho2) (fun q hq => ho50 q (by omega))))
        unfold bestI
        rw [← hb_z]
        rw [if_pos (by omega)]
        exact e50
    · refine r_throwW zth_IA (List.mem_of_getElem? (i := 18) rfl) dX11_fairest_14 dX11_fairest_17 dX11_fairest_18 dX11_fairest_21 dX11_fairest_24 (Nat.le_of_ble_eq_true rfl) (Nat.le_of_ble_eq_true rfl) (Nat.le_of_ble_eq_true rfl) (Nat.le_of_ble_eq_true rfl) ?_
      exact hXIA (by omega)
set_option maxHeartbeats 4000000 in
set_option maxRecDepth 100000 in
theorem s_X11_step {g : zGT} {w : zW} {f : Nat → Nat → Int32} {j : Nat → Nat → Int64} {X : Nat} {T : zTb} {Q : Option Value → zW → Prop} {QX : String → zW → Prop} (G : zGok g) (hx : shX w X) (ht : tbAt w f X (X + 11) T) (hI : wyI f (X + 57)) (hQ : ∀ (r : Int32) f2_z, r = moFold (bestW T (-1) (levs (tbL T) (1 + 1))).2 0 → qX X f f2_z → Q (some (.int r)) (zM w f2_z j)) : zC g 8 yX11_step cX11_step 3 (some .int) [.ref X] (zM w f j) (0, 0) Q QX := by
  refine zC_of G (by decide +kernel) (Nat.le_of_ble_eq_true rfl) ?_
  have ht0 := ht
  obtain ⟨nq, pp, g0, p0, hnq, hna0, hpp, hctb, hpast, hwf⟩ := ht0
  have hna1 := hna0
  obtain ⟨hna, hcn, ⟨hz1, hz2, hz3⟩, hl1, hl2, hl3⟩ := hna0
  have hmo := hctb.2.2.1
  have hn6 : tbC T ≤ 6 := hwf.2.1
  have hg4 : tbG T ≤ 4 := hwf.2.2.1
  have hwm := hwf.2.2.2.2.2.2.2.1
  have hrt := wfT_rch hwf
  have hfl : (f (X + 11 + 7) 2).toInt = (T.2.2.1.2.length : Nat) := by rw [hmo.1]; have := hmo.2.1; exact zi_n (by omega)
  have hcells : (f nq 1).toInt = (tbC T : Nat) := by rw [hcn.2.1]; exact zi_n (n := tbC T) (by omega)
  have hgs : (f nq 2).toInt = (tbG T : Nat) := by rw [hcn.2.2.1]; exact zi_n (n := tbG T) (by omega)
  refine r_aloadR0 dX11_step_0 ?_
  refine q_callV0 zm_RX11_354 dX11_step_1 (shX_k hx) (by decide) rfl (Nat.le_of_ble_eq_true rfl) (Nat.le_of_ble_eq_true rfl) (Nat.le_of_ble_eq_true rfl) (Nat.le_of_ble_eq_true rfl) (Nat.le_of_ble_eq_true rfl) (s_X11_growOn G hx ht hI (fun f1_z hq1 hw1 hs1 hc1 => ?_))
  have ht1 := tbAt_Q ht hq1
  refine r_astore1 dX11_step_4 rfl ?_
  refine r_aloadR0 dX11_step_5 ?_
  refine r_aloadR1 dX11_step_6 ?_
  refine n_iconst dX11_step_7 (by decide) (fun r7 e7_z => ?_)
  refine n_iconst dX11_step_8 (by decide) (fun r8 e8 => ?_)
  refine q_callV3 zm_RX11_394 dX11_step_9 (shX_k hx) (by decide) rfl (Nat.le_of_ble_eq_true rfl) (Nat.le_of_ble_eq_true rfl) (Nat.le_of_ble_eq_true rfl) (Nat.le_of_ble_eq_true rfl) (Nat.le_of_ble_eq_true rfl) (s_X11_greatestNode G hx ht1 hc1 (by omega) (by omega) (fun r9 f2_z p y e9_z hp hb_z ho2 => ?_))
  have hc2 := frL_wy hc1 (frG_L ho2) (Or.inl rfl)
  have hz9 : r8.toInt = -1 := by omega
  have hx9 : r7.toInt.toNat = 1 := by omega
  rw [hz9, hx9] at hb_z
  refine r_istore2 dX11_step_12 rfl ?_
  refine r_aloadR1 dX11_step_13 ?_
  refine r_iload2 dX11_step_14 ?_
  refine n_iconst dX11_step_15 (by decide) (fun r15 e15_z => ?_)
  refine q_callV2 zm_RX11_415 dX11_step_16 (shWy_k (shX_wo hx)) (by decide) rfl (Nat.le_of_ble_eq_true rfl) (Nat.le_of_ble_eq_true rfl) (Nat.le_of_ble_eq_true rfl) (Nat.le_of_ble_eq_true rfl) (Nat.le_of_ble_eq_true rfl) (s_X9_foldOf G (shX_wo hx) hc2 e9_z hp (fun r16 e16_z => ?_))
  refine r_iret dX11_step_19 rfl (Nat.le_of_ble_eq_true rfl) (Nat.le_of_ble_eq_true rfl) ?_
  refine hQ _ f2_z ?_ (qX_on hq1 hw1 hrt hc1 (frG_L ho2))
  rw [← hb_z, e16_z, show r15.toInt = 0 by omega]
set_option maxHeartbeats 4000000 in
set_option maxRecDepth 100000 in
theorem s_X11_soonest {g : zGT} {w : zW} {f : Nat → Nat → Int32} {j : Nat → Nat → Int64} {X : Nat} {T : zTb} {x : Int32} {Q : Option Value → zW → Prop} {QX : String → zW → Prop} (G : zGok g) (hx : shX w X) (ht : tbAt w f X (X + 11) T) (hI : wyI f (X + 57)) (hXIA : ¬ (x.toInt = 0 ∨ 10 ≤ x.toInt ∧ x.toInt ≤ 14) → ∀ n, zS w ≤ n → QX "java/lang/IllegalArgumentException" (zsS (zM w f j) n)) (hQ : (x.toInt = 0 ∨ 10 ≤ x.toInt ∧ x.toInt ≤ 14) → ∀ (r : Int32) f2_z, r.toInt = findI (findW (fun (L : zLy) (r : List Nat) => decide (holV T L (T.2.2.1.2.length + r.length) ≠ 0)) (nodesR (tbL T))) x.toInt → qX X f f2_z → Q (some (.int r)) (zM w f2_z j)) : zC g 9 yX11_soonest cX11_soonest 4 (some .int) [.ref X, .int x] (zM w f j) (1, 6) Q QX := by
  refine zC_of G (by decide +kernel) (Nat.le_of_ble_eq_true rfl) ?_
  have ht0 := ht
  obtain ⟨nq, pp, g0, p0, hnq, hna0, hpp, hctb, hpast, hwf⟩ := ht0
  have hna1 := hna0
  obtain ⟨hna, hcn, ⟨hz1, hz2, hz3⟩, hl1, hl2, hl3⟩ := hna0
  have hmo := hctb.2.2.1
  have hn6 : tbC T ≤ 6 := hwf.2.1
  have hg4 : tbG T ≤ 4 := hwf.2.2.1
  have hwm := hwf.2.2.2.2.2.2.2.1
  have hrt := wfT_rch hwf
  have hfl : (f (X + 11 + 7) 2).toInt = (T.2.2.1.2.length : Nat) := by rw [hmo.1]; have := hmo.2.1; exact zi_n (by omega)
  have hcells : (f nq 1).toInt = (tbC T : Nat) := by rw [hcn.2.1]; exact zi_n (n := tbC T) (by omega)
  have hgs : (f nq 2).toInt = (tbG T : Nat) := by rw [hcn.2.2.1]; exact zi_n (n := tbG T) (by omega)
  have hl5 := hmo.2.1
  generalize hPd : (fun (L : zLy) (r : List Nat) => decide (holV T L (T.2.2.1.2.length + r.length) ≠ 0)) = PP at hQ
  refine r_iload1 dX11_soonest_0 ?_
  refine q_callS1 zm_RX11_373 dX11_soonest_1 (Nat.le_of_ble_eq_true rfl) (Nat.le_of_ble_eq_true rfl) (Nat.le_of_ble_eq_true rfl) (Nat.le_of_ble_eq_true rfl) (Nat.le_of_ble_eq_true rfl) (s_X11_asksOfRow G  (fun r1 e1_z => ?_))
  refine t_ifne (t := 18) dX11_soonest_4 (by decide) (fun h4 => ?_) (fun h4 => ?_)
  · refine r_aloadR0 dX11_soonest_18 ?_
    refine q_callV0 zm_RX11_354 dX11_soonest_19 (shX_k hx) (by decide) rfl (Nat.le_of_ble_eq_true rfl) (Nat.le_of_ble_eq_true rfl) (Nat.le_of_ble_eq_true rfl) (Nat.le_of_ble_eq_true rfl) (Nat.le_of_ble_eq_true rfl) (s_X11_growOn G hx ht hI (fun f1_z hq1 hw1 hs1 hc1 => ?_))
    have ht1 := tbAt_Q ht hq1
    have hok : (x.toInt = 0 ∨ 10 ≤ x.toInt ∧ x.toInt ≤ 14) := by omega
    refine r_astore2 dX11_soonest_22 rfl ?_
    refine n_iconst dX11_soonest_23 (by decide) (fun r23 e23_z => ?_)
    refine r_istore3 dX11_soonest_24 rfl ?_
    have lp : ∀ (mz : Nat) (c : Int32) (k : Nat) (f2_z : Nat → Nat → Int32), c.toInt = (k : Nat) → k ≤ (nodesR (tbL T)).length → frG X f1_z f2_z → ((nodesR (tbL T)).take k).find? (fun y => PP y.1 y.2.1) = none → 1025 - k < mz → zR (zV g 9 yX11_soonest 4 (some .int) (1, 6) Q QX) cX11_soonest yX11_soonest.cls 25 [some (.ref X), some (.int x), some (.ref (X + 57)), some (.int c)] [] (zM w f2_z j) (0, 0) := by
      intro mz
      induction mz with
      | zero =>
        intro c k f2_z hck hk ho hno hmz
        exact absurd hmz (Nat.not_lt_zero _)
      | succ mz ih =>
        intro c k f2_z hck hk ho hno hmz
        have hc2 := frL_wy hc1 (frG_L ho) (Or.inl rfl)
        have ht2 := tbAt_Q ht1 (frL_Q (frG_L ho) (Or.inl rfl))
        have hn1000 := nodes_len hrt
        have hsz : (f2_z (X + 57) 12).toInt = ((nodesR (tbL T)).length : Nat) := hc2.1.1
        rcases Nat.lt_or_ge k (nodesR (tbL T)).length with hkl | hkl
        · obtain ⟨y, hnd⟩ : ∃ y, (nodesR (tbL T))[k]? = some y := ⟨_, List.getElem?_eq_getElem hkl⟩
          have hdle := nd_dep hnd
          refine r_iload3 dX11_soonest_25 ?_
          refine r_aloadR2 dX11_soonest_26 ?_
          refine m_getV (x := (f2_z (X + 57) 12)) zf_RX11_358 rfl dX11_soonest_27 (shWy_k (shX_wo hx)) (rfl) ?_
          refine t_icge (t := 68) dX11_soonest_30 (by decide) (fun h30 => False.elim (by omega)) (fun h30 => ?_)
          refine r_aloadR2 dX11_soonest_33 ?_
          refine r_iload3 dX11_soonest_34 ?_
          refine q_callV1 zm_RX11_361 dX11_soonest_35 (shWy_k (shX_wo hx)) (by decide) rfl (Nat.le_of_ble_eq_true rfl) (Nat.le_of_ble_eq_true rfl) (Nat.le_of_ble_eq_true rfl) (Nat.le_of_ble_eq_true rfl) (Nat.le_of_ble_eq_true rfl) (s_X9_depthOf (k := k) G (shX_wo hx) hck (by omega) (fun r35 e35 => ?_))
          have hd35 := wy_dep hc2 hnd e35
          refine n_iconst dX11_soonest_38 (by decide) (fun r38 e38 => ?_)
          refine t_icgt (t := 68) dX11_soonest_39 (by decide) (fun h39 => False.elim (by omega)) (fun h39 => ?_)
          refine r_aloadR0 dX11_soonest_42 ?_
          refine r_aloadR2 dX11_soonest_43 ?_
          refine r_iload3 dX11_soonest_44 ?_
          refine q_callV2 zm_RX11_378 dX11_soonest_45 (shX_k hx) (by decide) rfl (Nat.le_of_ble_eq_true rfl) (Nat.le_of_ble_eq_true rfl) (Nat.le_of_ble_eq_true rfl) (Nat.le_of_ble_eq_true rfl) (Nat.le_of_ble_eq_true rfl) (s_X11_viewOn (y := y) G hx ht2 (Or.inl rfl) (shX_wo hx) hc2 rfl hnd hck (nd_dep hnd) (fun f4_z ho4 hv4 => ?_))
          have ht4 : tbAt w f4_z X (X + 11) T := tbAt_Q ht2 (fun q hq => ho4 q (by omega))
          refine r_aloadR0 dX11_soonest_48 ?_
          refine q_callV0 zm_RX11_205 dX11_soonest_49 (shX_k hx) (by decide) rfl (Nat.le_of_ble_eq_true rfl) (Nat.le_of_ble_eq_true rfl) (Nat.le_of_ble_eq_true rfl) (Nat.le_of_ble_eq_true rfl) (Nat.le_of_ble_eq_true rfl) (s_X11_holdsInView (L := y.1) (d := (T.2.2.1.2.length + y.2.1.length)) G hx ht4 hv4 (hc2.2.2.2.2 y (List.mem_of_getElem? hnd)) (by have := nd_dep hnd; omega) (fun r49 f3_z e49 ho5 => ?_))
          have ho3 : frG X f2_z f3_z := fun q hq => (ho5 q (by omega)).trans (ho4 q (by omega))
          have hPq : PP y.1 y.2.1 = true ↔ holV T y.1 (T.2.2.1.2.length + y.2.1.length) ≠ 0 := by rw [← hPd]; exact decide_eq_true_iff
          have hc3 := frL_wy hc1 (frG_L (frG_tr ho ho3)) (Or.inl rfl)
          refine t_ifeq (t := 62) dX11_soonest_52 (by decide) (fun h52 => ?_) (fun h52 => ?_)
          · refine n_iinc3 dX11_soonest_62 (by decide) rfl (by omega) (fun r62 e62 => ?_)
            refine r_goto (t := 25) dX11_soonest_65 (by decide) ?_
            refine ih _ (k + 1) f3_z (by omega) (by omega) (frG_tr ho ho3) ?_ (by omega)
            have hPP : ¬ PP y.1 y.2.1 = true := fun h9 => absurd (hPq.mp h9) (by omega)
            show ((nodesR (tbL T)).take (k + 1)).find? (fun y => PP y.1 y.2.1) = none
            rw [take_snoc hnd, find_snoc hno]
            exact if_neg hPP
          · refine r_aloadR2 dX11_soonest_55 ?_
            refine r_iload3 dX11_soonest_56 ?_
            refine r_iload1 dX11_soonest_57 ?_
            refine q_callS3 zm_RX11_382 dX11_soonest_58 (Nat.le_of_ble_eq_true rfl) (Nat.le_of_ble_eq_true rfl) (Nat.le_of_ble_eq_true rfl) (Nat.le_of_ble_eq_true rfl) (Nat.le_of_ble_eq_true rfl) (s_X11_rowAnswer (y := y) (k := k) G (shX_wo hx) hc3 hck hnd (nd_deed hrt hnd) (by omega) (fun r58 e58 => ?_))
            refine r_iret dX11_soonest_61 rfl (Nat.le_of_ble_eq_true rfl) (Nat.le_of_ble_eq_true rfl) ?_
            refine hQ hok _ f3_z ?_ (qX_on hq1 hw1 hrt hc1 (frG_L (frG_tr ho ho3)))
            have hfd : (nodesR (tbL T)).find? (fun y => PP y.1 y.2.1) = some y := find_hit hno hnd (hPq.mpr (by omega))
            have hfd2 : findW PP (nodesR (tbL T)) = some y := hfd
            rw [hfd2]
            exact e58
        · have hful : (nodesR (tbL T)).take k = nodesR (tbL T) := List.take_of_length_le hkl
          rw [hful] at hno
          have hfd : findW PP (nodesR (tbL T)) = none := hno
          rw [hfd] at hQ
          refine r_iload3 dX11_soonest_25 ?_
          refine r_aloadR2 dX11_soonest_26 ?_
          refine m_getV (x := (f2_z (X + 57) 12)) zf_RX11_358 rfl dX11_soonest_27 (shWy_k (shX_wo hx)) (rfl) ?_
          refine t_icge (t := 68) dX11_soonest_30 (by decide) (fun h30 => ?_) (fun h30 => False.elim (by omega))
          refine n_iconst dX11_soonest_68 (by decide) (fun r68 e68 => ?_)
          refine r_iret dX11_soonest_69 rfl (Nat.le_of_ble_eq_true rfl) (Nat.le_of_ble_eq_true rfl) ?_
          exact hQ hok _ f2_z (by show _ = (-1 : Int); omega) (qX_on hq1 hw1 hrt hc1 (frG_L ho))
    exact lp 1026 _ 0 f1_z (by omega) (by omega) frG_rf rfl (by omega)
  · refine r_throwW zth_IA (List.mem_of_getElem? (i := 17) rfl) dX11_soonest_7 dX11_soonest_10 dX11_soonest_11 dX11_soonest_14 dX11_soonest_17 (Nat.le_of_ble_eq_true rfl) (Nat.le_of_ble_eq_true rfl) (Nat.le_of_ble_eq_true rfl) (Nat.le_of_ble_eq_true rfl) ?_
    exact hXIA (by omega)
