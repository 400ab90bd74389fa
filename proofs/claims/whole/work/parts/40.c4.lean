/-! the class: what is asked of the nodes -/
theorem nd_pre {L : zLy} {n : Nat} (h_z : n ≤ 5) : ∃ R, nodesR L = levs L (n + 1) ++ R ∧ ∀ y ∈ R, n < y.2.1.length := by
  have key : ∀ k, ∃ R, levs L (n + 1 + k) = levs L (n + 1) ++ R ∧ ∀ y ∈ R, n < y.2.1.length := by
    intro k
    induction k with
    | zero => exact ⟨[], by rw [List.append_nil], fun y hy => absurd hy List.not_mem_nil⟩
    | succ k ih =>
      obtain ⟨R, h1, h2⟩ := ih
      refine ⟨R ++ levR L (n + 1 + k), ?_, fun y hy => ?_⟩
      · show levs L (n + 1 + k + 1) = _
        rw [levs_succ, h1, List.append_assoc]
      · rcases List.mem_append.mp hy with hy | hy
        · exact h2 y hy
        · rw [lev_row y hy]
          omega
  obtain ⟨R, h1, h2⟩ := key (5 - n)
  exact ⟨R, by rw [← h1, show n + 1 + (5 - n) = 6 by omega]; rfl, h2⟩
theorem levs_row {L : zLy} {d : Nat} : ∀ y ∈ levs L d, y.2.1.length < d := by
  intro y hy
  unfold levs at hy
  obtain ⟨k, h1, h2⟩ := List.mem_flatMap.mp hy
  rw [lev_row y h2]
  exact List.mem_range.mp h1
theorem nd_in {L : zLy} {n i : Nat} {y : zRw} (h_z : n ≤ 5) (hy : (levs L (n + 1))[i]? = some y) : (nodesR L)[i]? = some y ∧ y.2.1.length ≤ n := by
  obtain ⟨R, h1, h2⟩ := nd_pre (L := L) h_z
  have hl := (List.getElem?_eq_some_iff.mp hy).1
  refine ⟨by rw [h1, List.getElem?_append_left hl]; exact hy, ?_⟩
  have := levs_row y (List.mem_of_getElem? hy)
  omega
theorem nd_out {L : zLy} {n i : Nat} {y : zRw} (h_z : n ≤ 5) (hy : (nodesR L)[i]? = some y) (hi_z : (levs L (n + 1)).length ≤ i) : n < y.2.1.length := by
  obtain ⟨R, h1, h2⟩ := nd_pre (L := L) h_z
  rw [h1, List.getElem?_append_right hi_z] at hy
  exact h2 y (List.mem_of_getElem? hy)
theorem nd_len {L : zLy} {n : Nat} (h_z : n ≤ 5) : (levs L (n + 1)).length ≤ (nodesR L).length := by
  obtain ⟨R, h1, -⟩ := nd_pre (L := L) h_z
  rw [h1, List.length_append]
  omega
theorem nd_dep {L : zLy} {i : Nat} {y : zRw} (hy : (nodesR L)[i]? = some y) : y.2.1.length ≤ 5 := by
  have := levs_row y (List.mem_of_getElem? hy)
  omega
/-- the folds of a row are told by small numbers -/
theorem ch_deed {n : Nat} {z x : zRw} (hr : rch n z.1) (hz : ∀ d ∈ z.2.1, d < 100) (h_z : x ∈ chR z) : ∀ d ∈ x.2.1, d < 100 := by
  obtain ⟨i, way, h1, h2, rfl⟩ := ch_mem h_z
  have h3 := (rch_cell hr).2.2.2.2
  have h4 := rch_le hr
  intro d hd_z
  have hd2 : d ∈ z.2.1 ++ [10 * (i + 1) + way] := hd_z
  rcases List.mem_append.mp hd2 with hd_z | hd_z
  · exact hz d hd_z
  · rw [List.mem_singleton.mp hd_z]
    omega
theorem lev_deed {n : Nat} {L : zLy} (hr : rch n L) {d : Nat} : ∀ y ∈ levR L d, ∀ e ∈ y.2.1, e < 100 := by
  induction d with
  | zero =>
    intro y hy
    rw [List.mem_singleton.mp hy]
    exact fun e he => absurd he List.not_mem_nil
  | succ d ih =>
    refine fold_row (p := fun r => ∀ e ∈ r, e < 100) (fun y hy => absurd hy List.not_mem_nil) (fun y hy => ?_)
    obtain ⟨z, h1, h2⟩ := List.mem_flatMap.mp hy
    exact ch_deed (lev_rch hr z h1) (ih z h1) h2
theorem nd_deed {n : Nat} {L : zLy} (hr : rch n L) {i : Nat} {y : zRw} (hy : (nodesR L)[i]? = some y) : ∀ e ∈ y.2.1, e < 2147483648 := by
  have hm_z := List.mem_of_getElem? hy
  unfold nodesR levs at hm_z
  obtain ⟨k, -, h2⟩ := List.mem_flatMap.mp hm_z
  intro e he
  have := lev_deed hr y h2 e he
  omega
def sumD (n : Nat) (X : List zRw) : Nat := (X.map (fun y => if y.2.1.length = n then y.2.2 else 0)).sum
theorem sumD_app {n : Nat} {X Y : List zRw} : sumD n (X ++ Y) = sumD n X + sumD n Y := by
  unfold sumD
  rw [List.map_append, List.sum_append]
theorem sumD_one {n : Nat} {y : zRw} : sumD n [y] = if y.2.1.length = n then y.2.2 else 0 := by
  unfold sumD
  simp
theorem sumD_ne {n : Nat} {X : List zRw} (h_z : ∀ y ∈ X, y.2.1.length ≠ n) : sumD n X = 0 := by
  induction X with
  | nil => rfl
  | cons x X ih =>
    show sumD n ([x] ++ X) = 0
    rw [sumD_app, sumD_one, if_neg (h_z x List.mem_cons_self), ih (fun y hy => h_z y (List.mem_cons_of_mem _ hy))]
theorem sumD_eq {n : Nat} {X : List zRw} (h_z : ∀ y ∈ X, y.2.1.length = n) : sumD n X = sumR allL X := by
  induction X with
  | nil => rfl
  | cons x X ih =>
    rw [sumR_cons]
    show sumD n ([x] ++ X) = _
    rw [sumD_app, sumD_one, if_pos (h_z x List.mem_cons_self), ih (fun y hy => h_z y (List.mem_cons_of_mem _ hy))]
    rfl
theorem sumD_levs {L : zLy} {n : Nat} : sumD n (levs L (n + 1)) = sumR allL (levR L n) := by
  rw [levs_succ, sumD_app, sumD_ne (fun y hy => by have := levs_row y hy; omega), sumD_eq (fun y hy => lev_row y hy)]
  omega
theorem sumD_take {n k : Nat} {X : List zRw} : sumD n (X.take k) ≤ sumD n X := by
  conv => rhs; rw [← List.take_append_drop k X, sumD_app]
  omega
/-- looks met, each once, of those that p takes -/
def metF (p : zLy → List Nat → Bool) (s : List zLy) (y : zRw) : List zLy := if p y.1 y.2.1 = true ∧ y.1 ∉ s then s ++ [y.1] else s
def metL (p : zLy → List Nat → Bool) (X : List zRw) : List zLy := X.foldl (metF p) []
theorem metL_snoc {p : zLy → List Nat → Bool} {X : List zRw} {y : zRw} : metL p (X ++ [y]) = metF p (metL p X) y := by
  unfold metL
  rw [List.foldl_append]
  rfl
theorem metF_len {p : zLy → List Nat → Bool} {s : List zLy} {y : zRw} : (metF p s y).length ≤ s.length + 1 := by
  unfold metF
  split
  · rw [List.length_append]; exact Nat.le_refl _
  · omega
theorem metL_len {p : zLy → List Nat → Bool} {X : List zRw} {k : Nat} (hk : k ≤ X.length) : (metL p (X.take k)).length ≤ k := by
  induction k with
  | zero => exact Nat.le_refl _
  | succ k ih =>
    obtain ⟨y, hy⟩ : ∃ y, X[k]? = some y := ⟨_, List.getElem?_eq_getElem (by omega)⟩
    rw [take_snoc hy, metL_snoc]
    have h1 := metF_len (p := p) (s := metL p (X.take k)) (y := y)
    have h2 := ih (by omega)
    omega
/-- the row of looks that are met, by their first nodes -/
def metR (g : Nat → Int32) (NL : List zRw) (s : List zLy) : Prop := ∀ (i : Nat) (L : zLy), isF NL L i → ((g i).toInt = 0 ∧ L ∉ s ∨ (g i).toInt ≠ 0 ∧ L ∈ s)
theorem metR_0 {g : Nat → Int32} {NL : List zRw} (h_z : ∀ i, i < 1024 → (g i).toInt = 0) (hl : NL.length ≤ 1024) : metR g NL [] := by
  intro i L hi_z
  obtain ⟨y, h1, -⟩ := hi_z
  have := (List.getElem?_eq_some_iff.mp h1).1
  exact Or.inl ⟨h_z i (by omega), List.not_mem_nil⟩
theorem metR_add {g g2 : Nat → Int32} {NL : List zRw} {s : List zLy} {L : zLy} {p : Nat} (h_z : metR g NL s) (hp : isF NL L p) (hg : ∀ i, g2 i = if i = p then 1 else g i) : metR g2 NL (s ++ [L]) ∧ (L ∈ s → metR g2 NL s) := by
  have key : ∀ (i : Nat) (L2 : zLy), isF NL L2 i → (i = p ∧ L2 = L ∨ i ≠ p ∧ L2 ≠ L) := by
    intro i L2 hi_z
    by_cases e : i = p
    · subst e
      obtain ⟨y, a1, a2, -⟩ := hi_z
      obtain ⟨z, b1, b2, -⟩ := hp
      rw [a1] at b1
      cases b1
      exact Or.inl ⟨rfl, a2.symm.trans b2⟩
    · refine Or.inr ⟨e, fun e2_z => e ?_⟩
      subst e2_z
      exact isF_uni hi_z hp
  refine ⟨fun i L2 hi_z => ?_, fun hL i L2 hi_z => ?_⟩
  · rw [hg]
    rcases key i L2 hi_z with ⟨e1_z, e2_z⟩ | ⟨e1_z, e2_z⟩
    · rw [if_pos e1_z, e2_z]
      exact Or.inr ⟨by decide, by simp⟩
    · rw [if_neg e1_z]
      rcases h_z i L2 hi_z with ⟨a1, a2⟩ | ⟨a1, a2⟩
      · exact Or.inl ⟨a1, fun hm_z => (List.mem_append.mp hm_z).elim a2 (fun h9 => e2_z (List.mem_singleton.mp h9))⟩
      · exact Or.inr ⟨a1, List.mem_append_left _ a2⟩
  · rw [hg]
    rcases key i L2 hi_z with ⟨e1_z, e2_z⟩ | ⟨e1_z, e2_z⟩
    · rw [if_pos e1_z, e2_z]
      exact Or.inr ⟨by decide, hL⟩
    · rw [if_neg e1_z]
      exact h_z i L2 hi_z
/-- unchanged while the nodes of the Ways at a are gone through -/
def frL (X a : Nat) (f f2_z : Nat → Nat → Int32) : Prop := ∀ q, (q < X + 54 ∨ X + 57 ≤ q ∧ q ≠ a + 8 ∧ (q < a + 10 ∨ a + 14 ≤ q)) → f2_z q = f q
theorem frL_rf {X a : Nat} {f : Nat → Nat → Int32} : frL X a f f := fun _ _ => rfl
theorem frL_tr {X a : Nat} {f f2_z f3_z : Nat → Nat → Int32} (h_z : frL X a f f2_z) (h2 : frL X a f2_z f3_z) : frL X a f f3_z := fun q hq => (h2 q hq).trans (h_z q hq)
theorem frL_wy {X a n : Nat} {f f2_z : Nat → Nat → Int32} {NL : List zRw} (h_z : ctWy f a n NL) (ho : frL X a f f2_z) (ha_z : a = X + 57 ∨ a = X + 75) : ctWy f2_z a n NL := ctWy_rest h_z (fun r h1 h2 => ho _ (by omega))
theorem frL_Q {X a : Nat} {f f2_z : Nat → Nat → Int32} (ho : frL X a f f2_z) (ha_z : a = X + 57 ∨ a = X + 75) : frQ X f f2_z := fun q hq => ho q (by omega)
/-- a call that asks only -/
def qX (X : Nat) (f f2_z : Nat → Nat → Int32) : Prop := frQ X f f2_z ∧ (wyI f (X + 57) → wyI f2_z (X + 57)) ∧ (wyI f (X + 75) → wyI f2_z (X + 75))
theorem qX_tr {X : Nat} {f f2_z f3_z : Nat → Nat → Int32} (h_z : qX X f f2_z) (h2 : qX X f2_z f3_z) : qX X f f3_z := ⟨frQ_tr h_z.1 h2.1, fun e => h2.2.1 (h_z.2.1 e), fun e => h2.2.2 (h_z.2.2 e)⟩
theorem qX_S {X : Nat} {f f2_z : Nat → Nat → Int32} (h_z : frS X f f2_z) : qX X f f2_z := ⟨frS_Q h_z, fun e => wyI_e e (fun r h1 h2 => h_z _ (by omega)), fun e => wyI_e e (fun r h1 h2 => h_z _ (by omega))⟩
theorem qX_on {X n : Nat} {L : zLy} {f f1_z f2_z : Nat → Nat → Int32} (h1 : frQ X f f1_z) (h2 : ∀ q, X + 75 ≤ q → q < X + 93 → f1_z q = f q) (hr : rch n L) (hc_z : ctWy f1_z (X + 57) n (nodesR L)) (h3 : frL X (X + 57) f1_z f2_z) : qX X f f2_z := ⟨frQ_tr h1 (frL_Q h3 (Or.inl rfl)), fun _ => Or.inr ⟨n, L, hr, frL_wy hc_z h3 (Or.inl rfl)⟩, fun e => wyI_e e (fun r g1 g2 => (h3 _ (by omega)).trans (h2 _ (by omega) (by omega)))⟩
theorem qX_fl {X n : Nat} {L : zLy} {f f1_z f2_z : Nat → Nat → Int32} (h1 : frQ X f f1_z) (h2 : ∀ q, X + 57 ≤ q → q < X + 75 → f1_z q = f q) (hr : rch n L) (hc_z : ctWy f1_z (X + 75) n (nodesR L)) (h3 : frL X (X + 75) f1_z f2_z) : qX X f f2_z := ⟨frQ_tr h1 (frL_Q h3 (Or.inr rfl)), fun e => wyI_e e (fun r g1 g2 => (h3 _ (by omega)).trans (h2 _ (by omega) (by omega))), fun _ => Or.inr ⟨n, L, hr, frL_wy hc_z h3 (Or.inr rfl)⟩⟩
set_option maxHeartbeats 4000000 in
set_option maxRecDepth 100000 in
theorem s_X11_rows {g : zGT} {w : zW} {f : Nat → Nat → Int32} {j : Nat → Nat → Int64} {X : Nat} {T : zTb} {x : Int32} {Q : Option Value → zW → Prop} {QX : String → zW → Prop} (G : zGok g) (hx : shX w X) (ht : tbAt w f X (X + 11) T) (hI : wyI f (X + 57)) (hXIA : ¬ (0 ≤ x.toInt ∧ x.toInt ≤ 5) → ∀ n, zS w ≤ n → QX "java/lang/IllegalArgumentException" (zsS (zM w f j) n)) (hQ : (0 ≤ x.toInt ∧ x.toInt ≤ 5) → ∀ (r : Int32) f2_z, r.toInt = (sumR allL (levR (tbL T) x.toInt.toNat) : Nat) → qX X f f2_z → Q (some (.int r)) (zM w f2_z j)) : zC g 9 yX11_rows cX11_rows 5 (some .int) [.ref X, .int x] (zM w f j) (1, 6) Q QX := by
  refine zC_of G (by decide +kernel) (Nat.le_of_ble_eq_true rfl) ?_
  have ht0 := ht
  obtain ⟨nq, pp, g0, p0, hnq, hna0, hpp, hctb, hpast, hwf⟩ := ht0
  have hna1 := hna0
  obtain ⟨hna, hcn, ⟨hz1, hz2, hz3⟩, hl1, hl2, hl3⟩ := hna0
  have hmo := hctb.2.2.1
  have hn6 : tbC T ≤ 6 := hwf.2.1
  have hg4 : tbG T ≤ 4 := hwf.2.2.1
  have hwm := hwf.2.2.2.2.2.2.2.1
  have hrt := wfT_rch hwf
  have hfl : (f (X + 11 + 7) 2).toInt = (T.2.2.1.2.length : Nat) := by rw [hmo.1]; have := hmo.2.1; exact zi_n (by omega)
  have hcells : (f nq 1).toInt = (tbC T : Nat) := by rw [hcn.2.1]; exact zi_n (n := tbC T) (by omega)
  have hgs : (f nq 2).toInt = (tbG T : Nat) := by rw [hcn.2.2.1]; exact zi_n (n := tbG T) (by omega)
  refine r_iload1 dX11_rows_0 ?_
  refine q_callS1 zm_RX11_351 dX11_rows_1 (Nat.le_of_ble_eq_true rfl) (Nat.le_of_ble_eq_true rfl) (Nat.le_of_ble_eq_true rfl) (Nat.le_of_ble_eq_true rfl) (Nat.le_of_ble_eq_true rfl) (s_X11_needFoldsOn G (fun hxx n hn => x_out (hXIA hxx n hn) (Nat.le_of_ble_eq_true rfl) (Nat.le_of_ble_eq_true rfl)) (fun hok => ?_))
  refine r_aloadR0 dX11_rows_4 ?_
  refine q_callV0 zm_RX11_354 dX11_rows_5 (shX_k hx) (by decide) rfl (Nat.le_of_ble_eq_true rfl) (Nat.le_of_ble_eq_true rfl) (Nat.le_of_ble_eq_true rfl) (Nat.le_of_ble_eq_true rfl) (Nat.le_of_ble_eq_true rfl) (s_X11_growOn G hx ht hI (fun f1_z hq1 hw1 hs1 hc1 => ?_))
  have ht1 := tbAt_Q ht hq1
  refine r_astore2 dX11_rows_8 rfl ?_
  refine n_iconst dX11_rows_9 (by decide) (fun r9 e9_z => ?_)
  refine r_istore3 dX11_rows_10 rfl ?_
  refine n_iconst dX11_rows_11 (by decide) (fun r11 e11_z => ?_)
  refine r_istore4 dX11_rows_12 rfl ?_
  generalize hf2 : f1_z = f2_z at hq1 hw1 hs1 hc1 ht1
  have hc2 := hc1
  have lp : ∀ (mz : Nat) (v : Int32) (c : Int32) (k : Nat), c.toInt = (k : Nat) → k ≤ (levs (tbL T) (x.toInt.toNat + 1)).length → v.toInt = (sumD x.toInt.toNat ((levs (tbL T) (x.toInt.toNat + 1)).take k) : Nat) → 1025 - k < mz → zR (zV g 9 yX11_rows 5 (some .int) (1, 6) Q QX) cX11_rows yX11_rows.cls 14 [some (.ref X), some (.int x), some (.ref (X + 57)), some (.int v), some (.int c)] [] (zM w f2_z j) (1, 6) := by
    intro mz
    induction mz with
    | zero =>
      intro v c k hc_z hk hv hmz
      exact absurd hmz (Nat.not_lt_zero _)
    | succ mz ih =>
      intro v c k hc_z hk hv hmz
      have hnl := nd_len (L := tbL T) (n := x.toInt.toNat) (by omega)
      have hn1000 := nodes_len hrt
      have hsz : (f2_z (X + 57) 12).toInt = ((nodesR (tbL T)).length : Nat) := hc2.1.1
      rcases Nat.lt_or_ge k (levs (tbL T) (x.toInt.toNat + 1)).length with hkl | hkl
      · obtain ⟨y, hy⟩ : ∃ y, (levs (tbL T) (x.toInt.toNat + 1))[k]? = some y := ⟨_, List.getElem?_eq_getElem hkl⟩
        obtain ⟨hnd, hdle⟩ := nd_in (by omega) hy
        have hco := (hc2.2.1 k y hnd).2.2.1
        have htk : sumD x.toInt.toNat ((levs (tbL T) (x.toInt.toNat + 1)).take (k + 1)) = sumD x.toInt.toNat ((levs (tbL T) (x.toInt.toNat + 1)).take k) + (if y.2.1.length = x.toInt.toNat then y.2.2 else 0) := by rw [take_snoc hy, sumD_app, sumD_one]
        have hbd := sumD_take (n := x.toInt.toNat) (k := k + 1) (X := levs (tbL T) (x.toInt.toNat + 1))
        rw [sumD_levs] at hbd
        have hls := lev_sum hrt (d := x.toInt.toNat)
        have hp5 : 20 ^ x.toInt.toNat ≤ 20 ^ 5 := Nat.pow_le_pow_right (by decide) (by omega)
        have e20 : (20 : Nat) ^ 5 = 3200000 := rfl
        by_cases hdx : y.2.1.length = x.toInt.toNat
        · rw [if_pos hdx] at htk
          refine r_iload4 dX11_rows_14 ?_
          refine r_aloadR2 dX11_rows_16 ?_
          refine m_getV (x := (f2_z (X + 57) 12)) zf_RX11_358 rfl dX11_rows_17 (shWy_k (shX_wo hx)) (rfl) ?_
          refine t_icge (t := 58) dX11_rows_20 (by decide) (fun h20 => False.elim (by omega)) (fun h20 => ?_)
          refine r_aloadR2 dX11_rows_23 ?_
          refine r_iload4 dX11_rows_24 ?_
          refine q_callV1 zm_RX11_361 dX11_rows_26 (shWy_k (shX_wo hx)) (by decide) rfl (Nat.le_of_ble_eq_true rfl) (Nat.le_of_ble_eq_true rfl) (Nat.le_of_ble_eq_true rfl) (Nat.le_of_ble_eq_true rfl) (Nat.le_of_ble_eq_true rfl) (s_X9_depthOf (k := k) G (shX_wo hx) hc_z (by omega) (fun r26 e26_z => ?_))
          have hd26 := wy_dep hc2 hnd e26_z
          refine r_iload1 dX11_rows_29 ?_
          refine t_icgt (t := 58) dX11_rows_30 (by decide) (fun h30 => False.elim (by omega)) (fun h30 => ?_)
          refine r_aloadR2 dX11_rows_33 ?_
          refine r_iload4 dX11_rows_34 ?_
          refine q_callV1 zm_RX11_361 dX11_rows_36 (shWy_k (shX_wo hx)) (by decide) rfl (Nat.le_of_ble_eq_true rfl) (Nat.le_of_ble_eq_true rfl) (Nat.le_of_ble_eq_true rfl) (Nat.le_of_ble_eq_true rfl) (Nat.le_of_ble_eq_true rfl) (s_X9_depthOf (k := k) G (shX_wo hx) hc_z (by omega) (fun r36 e36 => ?_))
          have hd36 := wy_dep hc2 hnd e36
          refine r_iload1 dX11_rows_39 ?_
          refine t_icne (t := 52) dX11_rows_40 (by decide) (fun h40 => False.elim (by omega)) (fun h40 => ?_)
          refine r_iload3 dX11_rows_43 ?_
          refine r_aloadR2 dX11_rows_44 ?_
          refine r_iload4 dX11_rows_45 ?_
          refine q_callV1 zm_RX11_364 dX11_rows_47 (shWy_k (shX_wo hx)) (by decide) rfl (Nat.le_of_ble_eq_true rfl) (Nat.le_of_ble_eq_true rfl) (Nat.le_of_ble_eq_true rfl) (Nat.le_of_ble_eq_true rfl) (Nat.le_of_ble_eq_true rfl) (s_X9_rowsTo (k := k) G (shX_wo hx) hc_z (by omega) (fun r47 e47 => ?_))
          have hr47 := wy_cou hc2 hnd e47
          refine n_iadd dX11_rows_50 (by omega) (fun r50 e50 => ?_)
          refine r_istore3 dX11_rows_51 rfl ?_
          refine n_iinc4 dX11_rows_52 (by decide) rfl (by omega) (fun r52 e52 => ?_)
          refine r_goto (t := 14) dX11_rows_55 (by decide) ?_
          exact ih _ _ (k + 1) (by omega) (by omega) (by omega) (by omega)
        · rw [if_neg hdx] at htk
          refine r_iload4 dX11_rows_14 ?_
          refine r_aloadR2 dX11_rows_16 ?_
          refine m_getV (x := (f2_z (X + 57) 12)) zf_RX11_358 rfl dX11_rows_17 (shWy_k (shX_wo hx)) (rfl) ?_
          refine t_icge (t := 58) dX11_rows_20 (by decide) (fun h20 => False.elim (by omega)) (fun h20 => ?_)
          refine r_aloadR2 dX11_rows_23 ?_
          refine r_iload4 dX11_rows_24 ?_
          refine q_callV1 zm_RX11_361 dX11_rows_26 (shWy_k (shX_wo hx)) (by decide) rfl (Nat.le_of_ble_eq_true rfl) (Nat.le_of_ble_eq_true rfl) (Nat.le_of_ble_eq_true rfl) (Nat.le_of_ble_eq_true rfl) (Nat.le_of_ble_eq_true rfl) (s_X9_depthOf (k := k) G (shX_wo hx) hc_z (by omega) (fun r26 e26_z => ?_))
          have hd26 := wy_dep hc2 hnd e26_z
          refine r_iload1 dX11_rows_29 ?_
          refine t_icgt (t := 58) dX11_rows_30 (by decide) (fun h30 => False.elim (by omega)) (fun h30 => ?_)
          refine r_aloadR2 dX11_rows_33 ?_
          refine r_iload4 dX11_rows_34 ?_
          refine q_callV1 zm_RX11_361 dX11_rows_36 (shWy_k (shX_wo hx)) (by decide) rfl (Nat.le_of_ble_eq_true rfl) (Nat.le_of_ble_eq_true rfl) (Nat.le_of_ble_eq_true rfl) (Nat.le_of_ble_eq_true rfl) (Nat.le_of_ble_eq_true rfl) (s_X9_depthOf (k := k) G (shX_wo hx) hc_z (by omega) (fun r36 e36 => ?_))
          have hd36 := wy_dep hc2 hnd e36
          refine r_iload1 dX11_rows_39 ?_
          refine t_icne (t := 52) dX11_rows_40 (by decide) (fun h40 => ?_) (fun h40 => False.elim (by omega))
          refine n_iinc4 dX11_rows_52 (by decide) rfl (by omega) (fun r52 e52 => ?_)
          refine r_goto (t := 14) dX11_rows_55 (by decide) ?_
          exact ih _ _ (k + 1) (by omega) (by omega) (by omega) (by omega)
      · have hke : k = (levs (tbL T) (x.toInt.toNat + 1)).length := by omega
        have hful : (levs (tbL T) (x.toInt.toNat + 1)).take k = levs (tbL T) (x.toInt.toNat + 1) := List.take_of_length_le (by omega)
        rw [hful, sumD_levs] at hv
        have hend := hQ hok v f2_z hv (qX_on hq1 hw1 hrt hc2 frL_rf)
        rcases Nat.lt_or_ge k (nodesR (tbL T)).length with hk2 | hk2
        · obtain ⟨y, hnd⟩ : ∃ y, (nodesR (tbL T))[k]? = some y := ⟨_, List.getElem?_eq_getElem hk2⟩
          have hdl := nd_out (n := x.toInt.toNat) (by omega) hnd (by omega)
          refine r_iload4 dX11_rows_14 ?_
          refine r_aloadR2 dX11_rows_16 ?_
          refine m_getV (x := (f2_z (X + 57) 12)) zf_RX11_358 rfl dX11_rows_17 (shWy_k (shX_wo hx)) (rfl) ?_
          refine t_icge (t := 58) dX11_rows_20 (by decide) (fun h20 => False.elim (by omega)) (fun h20 => ?_)
          refine r_aloadR2 dX11_rows_23 ?_
          refine r_iload4 dX11_rows_24 ?_
          refine q_callV1 zm_RX11_361 dX11_rows_26 (shWy_k (shX_wo hx)) (by decide) rfl (Nat.le_of_ble_eq_true rfl) (Nat.le_of_ble_eq_true rfl) (Nat.le_of_ble_eq_true rfl) (Nat.le_of_ble_eq_true rfl) (Nat.le_of_ble_eq_true rfl) (s_X9_depthOf (k := k) G (shX_wo hx) hc_z (by omega) (fun r26 e26_z => ?_))
          have hd26 := wy_dep hc2 hnd e26_z
          refine r_iload1 dX11_rows_29 ?_
          refine t_icgt (t := 58) dX11_rows_30 (by decide) (fun h30 => ?_) (fun h30 => False.elim (by omega))
          refine r_iload3 dX11_rows_58 ?_
          refine r_iret dX11_rows_59 rfl (Nat.le_of_ble_eq_true rfl) (Nat.le_of_ble_eq_true rfl) ?_
          exact hend
        · refine r_iload4 dX11_rows_14 ?_
          refine r_aloadR2 dX11_rows_16 ?_
          refine m_getV (x := (f2_z (X + 57) 12)) zf_RX11_358 rfl dX11_rows_17 (shWy_k (shX_wo hx)) (rfl) ?_
          refine t_icge (t := 58) dX11_rows_20 (by decide) (fun h20 => ?_) (fun h20 => False.elim (by omega))
          refine r_iload3 dX11_rows_58 ?_
          refine r_iret dX11_rows_59 rfl (Nat.le_of_ble_eq_true rfl) (Nat.le_of_ble_eq_true rfl) ?_
          exact hend
  exact lp 1026 _ _ 0 (by omega) (by omega) (by rw [List.take_zero]; show _ = ((0 : Nat) : Int); omega) (by omega)
set_option maxHeartbeats 4000000 in
set_option maxRecDepth 100000 in
theorem s_X11_looks {g : zGT} {w : zW} {f : Nat → Nat → Int32} {j : Nat → Nat → Int64} {X : Nat} {T : zTb} {x : Int32} {Q : Option Value → zW → Prop} {QX : String → zW → Prop} (G : zGok g) (hx : shX w X) (ht : tbAt w f X (X + 11) T) (hI : wyI f (X + 57)) (hXIA : ¬ (0 ≤ x.toInt ∧ x.toInt ≤ 5) → ∀ n, zS w ≤ n → QX "java/lang/IllegalArgumentException" (zsS (zM w f j) n)) (hQ : (0 ≤ x.toInt ∧ x.toInt ≤ 5) → ∀ (r : Int32) f2_z, r.toInt = ((metL (fun _ _ => true) (levs (tbL T) (x.toInt.toNat + 1))).length : Nat) → qX X f f2_z → Q (some (.int r)) (zM w f2_z j)) : zC g 9 yX11_looks cX11_looks 5 (some .int) [.ref X, .int x] (zM w f j) (1, 6) Q QX := by
  refine zC_of G (by decide +kernel) (Nat.le_of_ble_eq_true rfl) ?_
  have ht0 := ht
  obtain ⟨nq, pp, g0, p0, hnq, hna0, hpp, hctb, hpast, hwf⟩ := ht0
  have hna1 := hna0
  obtain ⟨hna, hcn, ⟨hz1, hz2, hz3⟩, hl1, hl2, hl3⟩ := hna0
  have hmo := hctb.2.2.1
  have hn6 : tbC T ≤ 6 := hwf.2.1
  have hg4 : tbG T ≤ 4 := hwf.2.2.1
  have hwm := hwf.2.2.2.2.2.2.2.1
  have hrt := wfT_rch hwf
  have hfl : (f (X + 11 + 7) 2).toInt = (T.2.2.1.2.length : Nat) := by rw [hmo.1]; have := hmo.2.1; exact zi_n (by omega)
  have hcells : (f nq 1).toInt = (tbC T : Nat) := by rw [hcn.2.1]; exact zi_n (n := tbC T) (by omega)
  have hgs : (f nq 2).toInt = (tbG T : Nat) := by rw [hcn.2.2.1]; exact zi_n (n := tbG T) (by omega)
  generalize hPd : (fun _ _ => true) = PP at hQ
  refine r_iload1 dX11_looks_0 ?_
  refine q_callS1 zm_RX11_351 dX11_looks_1 (Nat.le_of_ble_eq_true rfl) (Nat.le_of_ble_eq_true rfl) (Nat.le_of_ble_eq_true rfl) (Nat.le_of_ble_eq_true rfl) (Nat.le_of_ble_eq_true rfl) (s_X11_needFoldsOn G (fun hxx n hn => x_out (hXIA hxx n hn) (Nat.le_of_ble_eq_true rfl) (Nat.le_of_ble_eq_true rfl)) (fun hok => ?_))
  refine r_aloadR0 dX11_looks_4 ?_
  refine q_callV0 zm_RX11_354 dX11_looks_5 (shX_k hx) (by decide) rfl (Nat.le_of_ble_eq_true rfl) (Nat.le_of_ble_eq_true rfl) (Nat.le_of_ble_eq_true rfl) (Nat.le_of_ble_eq_true rfl) (Nat.le_of_ble_eq_true rfl) (s_X11_growOn G hx ht hI (fun f0_z hq1 hw1 hs1 hc0 => ?_))
  have ht0 := tbAt_Q ht hq1
  refine r_astore2 dX11_looks_8 rfl ?_
  refine r_aloadR2 dX11_looks_9 ?_
  refine q_callV0 zm_RX11_367 dX11_looks_10 (shWy_k (shX_wo hx)) (by decide) rfl (Nat.le_of_ble_eq_true rfl) (Nat.le_of_ble_eq_true rfl) (Nat.le_of_ble_eq_true rfl) (Nat.le_of_ble_eq_true rfl) (Nat.le_of_ble_eq_true rfl) (s_X9_forgetMet G (shX_wo hx) (fun f1_z hfm hfz => ?_))
  have hfL : frL X (X + 57) f0_z f1_z := fun q hq => hfm q (by omega)
  have hc1 := frL_wy hc0 hfL (Or.inl rfl)
  have ht1 := tbAt_Q ht0 (frL_Q hfL (Or.inl rfl))
  have HEND : ∀ f2_z, frL X (X + 57) f1_z f2_z → qX X f f2_z := fun f2_z h9 => qX_on hq1 hw1 hrt hc0 (frL_tr hfL h9)
  have hmr0 := metR_0 hfz hc1.1.2.2.1
  refine n_iconst dX11_looks_13 (by decide) (fun r13 e13_z => ?_)
  refine r_istore3 dX11_looks_14 rfl ?_
  refine n_iconst dX11_looks_15 (by decide) (fun r15 e15_z => ?_)
  refine r_istore4 dX11_looks_16 rfl ?_
  have lp : ∀ (mz : Nat) (v : Int32) (c : Int32) (k : Nat) (f2_z : Nat → Nat → Int32), c.toInt = (k : Nat) → k ≤ (levs (tbL T) (x.toInt.toNat + 1)).length → frL X (X + 57) f1_z f2_z → v.toInt = ((metL PP ((levs (tbL T) (x.toInt.toNat + 1)).take k)).length : Nat) → metR (f2_z (X + 57 + 8)) (nodesR (tbL T)) (metL PP ((levs (tbL T) (x.toInt.toNat + 1)).take k)) → 1025 - k < mz → zR (zV g 9 yX11_looks 5 (some .int) (1, 6) Q QX) cX11_looks yX11_looks.cls 18 [some (.ref X), some (.int x), some (.ref (X + 57)), some (.int v), some (.int c)] [] (zM w f2_z j) (1, 6) := by
    intro mz
    induction mz with
    | zero =>
      intro v c k f2_z hc_z hk ho hv hmr hmz
      exact absurd hmz (Nat.not_lt_zero _)
    | succ mz ih =>
      intro v c k f2_z hc_z hk ho hv hmr hmz
      have hc2 := frL_wy hc1 ho (Or.inl rfl)
      have ht2 := tbAt_Q ht1 (frL_Q ho (Or.inl rfl))
      have hnl := nd_len (L := tbL T) (n := x.toInt.toNat) (by omega)
      have hn1000 := nodes_len hrt
      have hsz : (f2_z (X + 57) 12).toInt = ((nodesR (tbL T)).length : Nat) := hc2.1.1
      rcases Nat.lt_or_ge k (levs (tbL T) (x.toInt.toNat + 1)).length with hkl | hkl
      · obtain ⟨y, hy⟩ : ∃ y, (levs (tbL T) (x.toInt.toNat + 1))[k]? = some y := ⟨_, List.getElem?_eq_getElem hkl⟩
        obtain ⟨hnd, hdle⟩ := nd_in (by omega) hy
        have hsn : metL PP ((levs (tbL T) (x.toInt.toNat + 1)).take (k + 1)) = metF PP (metL PP ((levs (tbL T) (x.toInt.toNat + 1)).take k)) y := by rw [take_snoc hy, metL_snoc]
        have hml := metL_len (p := PP) (X := (levs (tbL T) (x.toInt.toNat + 1))) (k := k) hk
        obtain ⟨p, hp1, hp2⟩ := hc2.2.2.1.1 k y hnd
        have hp3 : p < 1024 := by obtain ⟨u, hu, -⟩ := hp2; exact wy_lt hc2 hu
        have hmt := hmr p y.1 hp2
        have hPP : PP y.1 y.2.1 = true := by rw [← hPd]
        refine r_iload4 dX11_looks_18 ?_
        refine r_aloadR2 dX11_looks_20 ?_
        refine m_getV (x := (f2_z (X + 57) 12)) zf_RX11_358 rfl dX11_looks_21 (shWy_k (shX_wo hx)) (rfl) ?_
        refine t_icge (t := 55) dX11_looks_24 (by decide) (fun h24 => False.elim (by omega)) (fun h24 => ?_)
        refine r_aloadR2 dX11_looks_27 ?_
        refine r_iload4 dX11_looks_28 ?_
        refine q_callV1 zm_RX11_361 dX11_looks_30 (shWy_k (shX_wo hx)) (by decide) rfl (Nat.le_of_ble_eq_true rfl) (Nat.le_of_ble_eq_true rfl) (Nat.le_of_ble_eq_true rfl) (Nat.le_of_ble_eq_true rfl) (Nat.le_of_ble_eq_true rfl) (s_X9_depthOf (k := k) G (shX_wo hx) hc_z (by omega) (fun r30 e30 => ?_))
        have hd30 := wy_dep hc2 hnd e30
        refine r_iload1 dX11_looks_33 ?_
        refine t_icgt (t := 55) dX11_looks_34 (by decide) (fun h34 => False.elim (by omega)) (fun h34 => ?_)
        refine r_aloadR2 dX11_looks_37 ?_
        refine r_iload4 dX11_looks_38 ?_
        refine q_callV1 zm_RX11_370 dX11_looks_40 (shWy_k (shX_wo hx)) (by decide) rfl (Nat.le_of_ble_eq_true rfl) (Nat.le_of_ble_eq_true rfl) (Nat.le_of_ble_eq_true rfl) (Nat.le_of_ble_eq_true rfl) (Nat.le_of_ble_eq_true rfl) (s_X9_meet (k := k) (p := p) G (shX_wo hx) hc_z (wy_lt hc2 hnd) (by exact hp1) hp3 (fun r40 f9_z e40 hom hmm => ?_))
        have ho9 : frL X (X + 57) f1_z f9_z := frL_tr ho (fun q hq => hom q (by omega))
        have hmr9 : metR (f2_z (X + 57 + 8)) (nodesR (tbL T)) (metL PP ((levs (tbL T) (x.toInt.toNat + 1)).take k)) := by exact hmr
        have hadd := metR_add hmr9 hp2 hmm
        refine t_ifeq (t := 49) dX11_looks_43 (by decide) (fun h43 => ?_) (fun h43 => ?_)
        · refine n_iinc4 dX11_looks_49 (by decide) rfl (by omega) (fun r49 e49 => ?_)
          refine r_goto (t := 18) dX11_looks_52 (by decide) ?_
          first
            | (have hin : y.1 ∉ metL PP ((levs (tbL T) (x.toInt.toNat + 1)).take k) := fun h9 => by rcases hmt with ⟨g1, g2⟩ | ⟨g1, g2⟩; exact g2 h9; omega
               have hmf : metF PP (metL PP ((levs (tbL T) (x.toInt.toNat + 1)).take k)) y = metL PP ((levs (tbL T) (x.toInt.toNat + 1)).take k) ++ [y.1] := if_pos ⟨hPP, hin⟩
               exact ih _ _ (k + 1) f9_z (by omega) (by omega) ho9 (by rw [hsn, hmf, List.length_append, List.length_singleton]; omega) (by rw [hsn, hmf]; exact hadd.1) (by omega))
            | (have hin : y.1 ∈ metL PP ((levs (tbL T) (x.toInt.toNat + 1)).take k) := by rcases hmt with ⟨g1, g2⟩ | ⟨g1, g2⟩; omega; exact g2
               have hmf : metF PP (metL PP ((levs (tbL T) (x.toInt.toNat + 1)).take k)) y = metL PP ((levs (tbL T) (x.toInt.toNat + 1)).take k) := if_neg (fun h9 => h9.2 hin)
               exact ih _ _ (k + 1) f9_z (by omega) (by omega) ho9 (by rw [hsn, hmf]; omega) (by rw [hsn, hmf]; exact hadd.2 hin) (by omega))
        · refine n_iinc3 dX11_looks_46 (by decide) rfl (by omega) (fun r46 e46 => ?_)
          refine n_iinc4 dX11_looks_49 (by decide) rfl (by omega) (fun r49 e49 => ?_)
          refine r_goto (t := 18) dX11_looks_52 (by decide) ?_
          first
            | (have hin : y.1 ∉ metL PP ((levs (tbL T) (x.toInt.toNat + 1)).take k) := fun h9 => by rcases hmt with ⟨g1, g2⟩ | ⟨g1, g2⟩; exact g2 h9; omega
               have hmf : metF PP (metL PP ((levs (tbL T) (x.toInt.toNat + 1)).take k)) y = metL PP ((levs (tbL T) (x.toInt.toNat + 1)).take k) ++ [y.1] := if_pos ⟨hPP, hin⟩
               exact ih _ _ (k + 1) f9_z (by omega) (by omega) ho9 (by rw [hsn, hmf, List.length_append, List.length_singleton]; omega) (by rw [hsn, hmf]; exact hadd.1) (by omega))
            | (have hin : y.1 ∈ metL PP ((levs (tbL T) (x.toInt.toNat + 1)).take k) := by rcases hmt with ⟨g1, g2⟩ | ⟨g1, g2⟩; omega; exact g2
               have hmf : metF PP (metL PP ((levs (tbL T) (x.toInt.toNat + 1)).take k)) y = metL PP ((levs (tbL T) (x.toInt.toNat + 1)).take k) := if_neg (fun h9 => h9.2 hin)
               exact ih _ _ (k + 1) f9_z (by omega) (by omega) ho9 (by rw [hsn, hmf]; omega) (by rw [hsn, hmf]; exact hadd.2 hin) (by omega))
      · have hke : k = (levs (tbL T) (x.toInt.toNat + 1)).length := by omega
        have hful : (levs (tbL T) (x.toInt.toNat + 1)).take k = (levs (tbL T) (x.toInt.toNat + 1)) := List.take_of_length_le (by omega)
        rw [hful] at hv
        have hend := hQ hok v f2_z hv (HEND f2_z ho)
        rcases Nat.lt_or_ge k (nodesR (tbL T)).length with hk2 | hk2
        · obtain ⟨y, hnd⟩ : ∃ y, (nodesR (tbL T))[k]? = some y := ⟨_, List.getElem?_eq_getElem hk2⟩
          have hdl := nd_out (n := x.toInt.toNat) (by omega) hnd (by omega)
          refine r_iload4 dX11_looks_18 ?_
          refine r_aloadR2 dX11_looks_20 ?_
          refine m_getV (x := (f2_z (X + 57) 12)) zf_RX11_358 rfl dX11_looks_21 (shWy_k (shX_wo hx)) (rfl) ?_
          refine t_icge (t := 55) dX11_looks_24 (by decide) (fun h24 => False.elim (by omega)) (fun h24 => ?_)
          refine r_aloadR2 dX11_looks_27 ?_
          refine r_iload4 dX11_looks_28 ?_
          refine q_callV1 zm_RX11_361 dX11_looks_30 (shWy_k (shX_wo hx)) (by decide) rfl (Nat.le_of_ble_eq_true rfl) (Nat.le_of_ble_eq_true rfl) (Nat.le_of_ble_eq_true rfl) (Nat.le_of_ble_eq_true rfl) (Nat.le_of_ble_eq_true rfl) (s_X9_depthOf (k := k) G (shX_wo hx) hc_z (by omega) (fun r30 e30 => ?_))
          have hd30 := wy_dep hc2 hnd e30
          refine r_iload1 dX11_looks_33 ?_
          refine t_icgt (t := 55) dX11_looks_34 (by decide) (fun h34 => ?_) (fun h34 => False.elim (by omega))
          refine r_iload3 dX11_looks_55 ?_
          refine r_iret dX11_looks_56 rfl (Nat.le_of_ble_eq_true rfl) (Nat.le_of_ble_eq_true rfl) ?_
          exact hend
        · refine r_iload4 dX11_looks_18 ?_
          refine r_aloadR2 dX11_looks_20 ?_
          refine m_getV (x := (f2_z (X + 57) 12)) zf_RX11_358 rfl dX11_looks_21 (shWy_k (shX_wo hx)) (rfl) ?_
          refine t_icge (t := 55) dX11_looks_24 (by decide) (fun h24 => ?_) (fun h24 => False.elim (by omega))
          refine r_iload3 dX11_looks_55 ?_
          refine r_iret dX11_looks_56 rfl (Nat.le_of_ble_eq_true rfl) (Nat.le_of_ble_eq_true rfl) ?_
          exact hend
  exact lp 1026 _ _ 0 f1_z (by omega) (by omega) frL_rf (by rw [List.take_zero]; show _ = ((0 : Nat) : Int); omega) (by rw [List.take_zero]; exact hmr0) (by omega)
set_option maxHeartbeats 4000000 in
set_option maxRecDepth 100000 in
theorem s_X11_holding {g : zGT} {w : zW} {f : Nat → Nat → Int32} {j : Nat → Nat → Int64} {X : Nat} {T : zTb} {x : Int32} {Q : Option Value → zW → Prop} {QX : String → zW → Prop} (G : zGok g) (hx : shX w X) (ht : tbAt w f X (X + 11) T) (hI : wyI f (X + 57)) (hXIA : ¬ (0 ≤ x.toInt ∧ x.toInt ≤ 5) → ∀ n, zS w ≤ n → QX "java/lang/IllegalArgumentException" (zsS (zM w f j) n)) (hQ : (0 ≤ x.toInt ∧ x.toInt ≤ 5) → ∀ (r : Int32) f2_z, r.toInt = ((metL (fun (L : zLy) (r : List Nat) => decide (holV T L (T.2.2.1.2.length + r.length) ≠ 0)) (levs (tbL T) (x.toInt.toNat + 1))).length : Nat) → qX X f f2_z → Q (some (.int r)) (zM w f2_z j)) : zC g 9 yX11_holding cX11_holding 5 (some .int) [.ref X, .int x] (zM w f j) (1, 6) Q QX := by
  refine zC_of G (by decide +kernel) (Nat.le_of_ble_eq_true rfl) ?_
  have ht0 := ht
  obtain ⟨nq, pp, g0, p0, hnq, hna0, hpp, hctb, hpast, hwf⟩ := ht0
  have hna1 := hna0
  obtain ⟨hna, hcn, ⟨hz1, hz2, hz3⟩, hl1, hl2, hl3⟩ := hna0
  have hmo := hctb.2.2.1
  have hn6 : tbC T ≤ 6 := hwf.2.1
  have hg4 : tbG T ≤ 4 := hwf.2.2.1
  have hwm := hwf.2.2.2.2.2.2.2.1
  have hrt := wfT_rch hwf
  have hfl : (f (X + 11 + 7) 2).toInt = (T.2.2.1.2.length : Nat) := by rw [hmo.1]; have := hmo.2.1; exact zi_n (by omega)
  have hcells : (f nq 1).toInt = (tbC T : Nat) := by rw [hcn.2.1]; exact zi_n (n := tbC T) (by omega)
  have hgs : (f nq 2).toInt = (tbG T : Nat) := by rw [hcn.2.2.1]; exact zi_n (n := tbG T) (by omega)
  generalize hPd : (fun (L : zLy) (r : List Nat) => decide (holV T L (T.2.2.1.2.length + r.length) ≠ 0)) = PP at hQ
  refine r_iload1 dX11_holding_0 ?_
  refine q_callS1 zm_RX11_351 dX11_holding_1 (Nat.le_of_ble_eq_true rfl) (Nat.le_of_ble_eq_true rfl) (Nat.le_of_ble_eq_true rfl) (Nat.le_of_ble_eq_true rfl) (Nat.le_of_ble_eq_true rfl) (s_X11_needFoldsOn G (fun hxx n hn => x_out (hXIA hxx n hn) (Nat.le_of_ble_eq_true rfl) (Nat.le_of_ble_eq_true rfl)) (fun hok => ?_))
  refine r_aloadR0 dX11_holding_4 ?_
  refine q_callV0 zm_RX11_354 dX11_holding_5 (shX_k hx) (by decide) rfl (Nat.le_of_ble_eq_true rfl) (Nat.le_of_ble_eq_true rfl) (Nat.le_of_ble_eq_true rfl) (Nat.le_of_ble_eq_true rfl) (Nat.le_of_ble_eq_true rfl) (s_X11_growOn G hx ht hI (fun f0_z hq1 hw1 hs1 hc0 => ?_))
  have ht0 := tbAt_Q ht hq1
  refine r_astore2 dX11_holding_8 rfl ?_
  refine r_aloadR2 dX11_holding_9 ?_
  refine q_callV0 zm_RX11_367 dX11_holding_10 (shWy_k (shX_wo hx)) (by decide) rfl (Nat.le_of_ble_eq_true rfl) (Nat.le_of_ble_eq_true rfl) (Nat.le_of_ble_eq_true rfl) (Nat.le_of_ble_eq_true rfl) (Nat.le_of_ble_eq_true rfl) (s_X9_forgetMet G (shX_wo hx) (fun f1_z hfm hfz => ?_))
  have hfL : frL X (X + 57) f0_z f1_z := fun q hq => hfm q (by omega)
  have hc1 := frL_wy hc0 hfL (Or.inl rfl)
  have ht1 := tbAt_Q ht0 (frL_Q hfL (Or.inl rfl))
  have HEND : ∀ f2_z, frL X (X + 57) f1_z f2_z → qX X f f2_z := fun f2_z h9 => qX_on hq1 hw1 hrt hc0 (frL_tr hfL h9)
  have hmr0 := metR_0 hfz hc1.1.2.2.1
  refine n_iconst dX11_holding_13 (by decide) (fun r13 e13_z => ?_)
  refine r_istore3 dX11_holding_14 rfl ?_
  refine n_iconst dX11_holding_15 (by decide) (fun r15 e15_z => ?_)
  refine r_istore4 dX11_holding_16 rfl ?_
  have lp : ∀ (mz : Nat) (v : Int32) (c : Int32) (k : Nat) (f2_z : Nat → Nat → Int32), c.toInt = (k : Nat) → k ≤ (levs (tbL T) (x.toInt.toNat + 1)).length → frL X (X + 57) f1_z f2_z → v.toInt = ((metL PP ((levs (tbL T) (x.toInt.toNat + 1)).take k)).length : Nat) → metR (f2_z (X + 57 + 8)) (nodesR (tbL T)) (metL PP ((levs (tbL T) (x.toInt.toNat + 1)).take k)) → 1025 - k < mz → zR (zV g 9 yX11_holding 5 (some .int) (1, 6) Q QX) cX11_holding yX11_holding.cls 18 [some (.ref X), some (.int x), some (.ref (X + 57)), some (.int v), some (.int c)] [] (zM w f2_z j) (1, 6) := by
    intro mz
    induction mz with
    | zero =>
      intro v c k f2_z hc_z hk ho hv hmr hmz
      exact absurd hmz (Nat.not_lt_zero _)
    | succ mz ih =>
      intro v c k f2_z hc_z hk ho hv hmr hmz
      have hc2 := frL_wy hc1 ho (Or.inl rfl)
      have ht2 := tbAt_Q ht1 (frL_Q ho (Or.inl rfl))
      have hnl := nd_len (L := tbL T) (n := x.toInt.toNat) (by omega)
      have hn1000 := nodes_len hrt
      have hsz : (f2_z (X + 57) 12).toInt = ((nodesR (tbL T)).length : Nat) := hc2.1.1
      rcases Nat.lt_or_ge k (levs (tbL T) (x.toInt.toNat + 1)).length with hkl | hkl
      · obtain ⟨y, hy⟩ : ∃ y, (levs (tbL T) (x.toInt.toNat + 1))[k]? = some y := ⟨_, List.getElem?_eq_getElem hkl⟩
        obtain ⟨hnd, hdle⟩ := nd_in (by omega) hy
        have hsn : metL PP ((levs (tbL T) (x.toInt.toNat + 1)).take (k + 1)) = metF PP (metL PP ((levs (tbL T) (x.toInt.toNat + 1)).take k)) y := by rw [take_snoc hy, metL_snoc]
        have hml := metL_len (p := PP) (X := (levs (tbL T) (x.toInt.toNat + 1))) (k := k) hk
        obtain ⟨p, hp1, hp2⟩ := hc2.2.2.1.1 k y hnd
        have hp3 : p < 1024 := by obtain ⟨u, hu, -⟩ := hp2; exact wy_lt hc2 hu
        have hmt := hmr p y.1 hp2
        skip
        refine r_iload4 dX11_holding_18 ?_
        refine r_aloadR2 dX11_holding_20 ?_
        refine m_getV (x := (f2_z (X + 57) 12)) zf_RX11_358 rfl dX11_holding_21 (shWy_k (shX_wo hx)) (rfl) ?_
        refine t_icge (t := 69) dX11_holding_24 (by decide) (fun h24 => False.elim (by omega)) (fun h24 => ?_)
        refine r_aloadR2 dX11_holding_27 ?_
        refine r_iload4 dX11_holding_28 ?_
        refine q_callV1 zm_RX11_361 dX11_holding_30 (shWy_k (shX_wo hx)) (by decide) rfl (Nat.le_of_ble_eq_true rfl) (Nat.le_of_ble_eq_true rfl) (Nat.le_of_ble_eq_true rfl) (Nat.le_of_ble_eq_true rfl) (Nat.le_of_ble_eq_true rfl) (s_X9_depthOf (k := k) G (shX_wo hx) hc_z (by omega) (fun r30 e30 => ?_))
        have hd30 := wy_dep hc2 hnd e30
        refine r_iload1 dX11_holding_33 ?_
        refine t_icgt (t := 69) dX11_holding_34 (by decide) (fun h34 => False.elim (by omega)) (fun h34 => ?_)
        refine r_aloadR0 dX11_holding_37 ?_
        refine r_aloadR2 dX11_holding_38 ?_
        refine r_iload4 dX11_holding_39 ?_
        refine q_callV2 zm_RX11_378 dX11_holding_41 (shX_k hx) (by decide) rfl (Nat.le_of_ble_eq_true rfl) (Nat.le_of_ble_eq_true rfl) (Nat.le_of_ble_eq_true rfl) (Nat.le_of_ble_eq_true rfl) (Nat.le_of_ble_eq_true rfl) (s_X11_viewOn (y := y) G hx ht2 (Or.inl rfl) (shX_wo hx) hc2 rfl hnd hc_z (nd_dep hnd) (fun f4_z ho4 hv4 => ?_))
        have ht4 : tbAt w f4_z X (X + 11) T := tbAt_Q ht2 (fun q hq => ho4 q (by omega))
        refine r_aloadR0 dX11_holding_44 ?_
        refine q_callV0 zm_RX11_205 dX11_holding_45 (shX_k hx) (by decide) rfl (Nat.le_of_ble_eq_true rfl) (Nat.le_of_ble_eq_true rfl) (Nat.le_of_ble_eq_true rfl) (Nat.le_of_ble_eq_true rfl) (Nat.le_of_ble_eq_true rfl) (s_X11_holdsInView (L := y.1) (d := (T.2.2.1.2.length + y.2.1.length)) G hx ht4 hv4 (hc2.2.2.2.2 y (List.mem_of_getElem? hnd)) (by have := hmo.2.1; have := nd_dep hnd; omega) (fun r45 f3_z e45 ho5 => ?_))
        have ho3 : frL X (X + 57) f2_z f3_z := fun q hq => (ho5 q (by omega)).trans (ho4 q (by omega))
        have hme3 : f3_z (X + 57 + 8) = f2_z (X + 57 + 8) := (ho5 _ (by omega)).trans (ho4 _ (by omega))
        have hPq : PP y.1 y.2.1 = true ↔ holV T y.1 (T.2.2.1.2.length + y.2.1.length) ≠ 0 := by rw [← hPd]; exact decide_eq_true_iff
        refine t_ifeq (t := 63) dX11_holding_48 (by decide) (fun h48 => ?_) (fun h48 => ?_)
        · refine n_iinc4 dX11_holding_63 (by decide) rfl (by omega) (fun r63 e63 => ?_)
          refine r_goto (t := 18) dX11_holding_66 (by decide) ?_
          have hPP : ¬ PP y.1 y.2.1 = true := fun h9 => absurd (hPq.mp h9) (by omega)
          have hmf : metF PP (metL PP ((levs (tbL T) (x.toInt.toNat + 1)).take k)) y = metL PP ((levs (tbL T) (x.toInt.toNat + 1)).take k) := if_neg (fun h9 => hPP h9.1)
          exact ih _ _ (k + 1) f3_z (by omega) (by omega) (frL_tr ho ho3) (by rw [hsn, hmf]; omega) (by rw [hsn, hmf, hme3]; exact hmr) (by omega)
        · refine r_aloadR2 dX11_holding_51 ?_
          refine r_iload4 dX11_holding_52 ?_
          refine q_callV1 zm_RX11_370 dX11_holding_54 (shWy_k (shX_wo hx)) (by decide) rfl (Nat.le_of_ble_eq_true rfl) (Nat.le_of_ble_eq_true rfl) (Nat.le_of_ble_eq_true rfl) (Nat.le_of_ble_eq_true rfl) (Nat.le_of_ble_eq_true rfl) (s_X9_meet (k := k) (p := p) G (shX_wo hx) hc_z (wy_lt hc2 hnd) (by rw [ho3 _ (by omega)]; exact hp1) hp3 (fun r54 f9_z e54 hom hmm => ?_))
          have ho9 : frL X (X + 57) f1_z f9_z := frL_tr (frL_tr ho ho3) (fun q hq => hom q (by omega))
          have hmr9 : metR (f3_z (X + 57 + 8)) (nodesR (tbL T)) (metL PP ((levs (tbL T) (x.toInt.toNat + 1)).take k)) := by rw [hme3]; exact hmr
          have hadd := metR_add hmr9 hp2 hmm
          rw [hme3] at e54
          refine t_ifeq (t := 63) dX11_holding_57 (by decide) (fun h57 => ?_) (fun h57 => ?_)
          · refine n_iinc4 dX11_holding_63 (by decide) rfl (by omega) (fun r63 e63 => ?_)
            refine r_goto (t := 18) dX11_holding_66 (by decide) ?_
            have hPP : PP y.1 y.2.1 = true := hPq.mpr (by omega)
            first
              | (have hin : y.1 ∉ metL PP ((levs (tbL T) (x.toInt.toNat + 1)).take k) := fun h9 => by rcases hmt with ⟨g1, g2⟩ | ⟨g1, g2⟩; exact g2 h9; omega
                 have hmf : metF PP (metL PP ((levs (tbL T) (x.toInt.toNat + 1)).take k)) y = metL PP ((levs (tbL T) (x.toInt.toNat + 1)).take k) ++ [y.1] := if_pos ⟨hPP, hin⟩
                 exact ih _ _ (k + 1) f9_z (by omega) (by omega) ho9 (by rw [hsn, hmf, List.length_append, List.length_singleton]; omega) (by rw [hsn, hmf]; exact hadd.1) (by omega))
              | (have hin : y.1 ∈ metL PP ((levs (tbL T) (x.toInt.toNat + 1)).take k) := by rcases hmt with ⟨g1, g2⟩ | ⟨g1, g2⟩; omega; exact g2
                 have hmf : metF PP (metL PP ((levs (tbL T) (x.toInt.toNat + 1)).take k)) y = metL PP ((levs (tbL T) (x.toInt.toNat + 1)).take k) := if_neg (fun h9 => h9.2 hin)
                 exact ih _ _ (k + 1) f9_z (by omega) (by omega) ho9 (by rw [hsn, hmf]; omega) (by rw [hsn, hmf]; exact hadd.2 hin) (by omega))
          · refine n_iinc3 dX11_holding_60 (by decide) rfl (by omega) (fun r60 e60 => ?_)
            refine n_iinc4 dX11_holding_63 (by decide) rfl (by omega) (fun r63 e63 => ?_)
            refine r_goto (t := 18) dX11_holding_66 (by decide) ?_
            have hPP : PP y.1 y.2.1 = true := hPq.mpr (by omega)
            first
              | (have hin : y.1 ∉ metL PP ((levs (tbL T) (x.toInt.toNat + 1)).take k) := fun h9 => by rcases hmt with ⟨g1, g2⟩ | ⟨g1, g2⟩; exact g2 h9; omega
                 have hmf : metF PP (metL PP ((levs (tbL T) (x.toInt.toNat + 1)).take k)) y = metL PP ((levs (tbL T) (x.toInt.toNat + 1)).take k) ++ [y.1] := if_pos ⟨hPP, hin⟩
                 exact ih _ _ (k + 1) f9_z (by omega) (by omega) ho9 (by rw [hsn, hmf, List.length_append, List.length_singleton]; omega) (by rw [hsn, hmf]; exact hadd.1) (by omega))
              | (have hin : y.1 ∈ metL PP ((levs (tbL T) (x.toInt.toNat + 1)).take k) := by rcases hmt with ⟨g1, g2⟩ | ⟨g1, g2⟩; omega; exact g2
                 have hmf : metF PP (metL PP ((levs (tbL T) (x.toInt.toNat + 1)).take k)) y = metL PP ((levs (tbL T) (x.toInt.toNat + 1)).take k) := if_neg (fun h9 => h9.2 hin)
                 exact ih _ _ (k + 1) f9_z (by omega) (by omega) ho9 (by rw [hsn, hmf]; omega) (by rw [hsn, hmf]; exact hadd.2 hin) (by omega))
      · have hke : k = (levs (tbL T) (x.toInt.toNat + 1)).length := by omega
        have hful : (levs (tbL T) (x.toInt.toNat + 1)).take k = (levs (tbL T) (x.toInt.toNat + 1)) := List.take_of_length_le (by omega)
        rw [hful] at hv
        have hend := hQ hok v f2_z hv (HEND f2_z ho)
        rcases Nat.lt_or_ge k (nodesR (tbL T)).length with hk2 | hk2
        · obtain ⟨y, hnd⟩ : ∃ y, (nodesR (tbL T))[k]? = some y := ⟨_, List.getElem?_eq_getElem hk2⟩
          have hdl := nd_out (n := x.toInt.toNat) (by omega) hnd (by omega)
          refine r_iload4 dX11_holding_18 ?_
          refine r_aloadR2 dX11_holding_20 ?_
          refine m_getV (x := (f2_z (X + 57) 12)) zf_RX11_358 rfl dX11_holding_21 (shWy_k (shX_wo hx)) (rfl) ?_
          refine t_icge (t := 69) dX11_holding_24 (by decide) (fun h24 => False.elim (by omega)) (fun h24 => ?_)
          refine r_aloadR2 dX11_holding_27 ?_
          refine r_iload4 dX11_holding_28 ?_
          refine q_callV1 zm_RX11_361 dX11_holding_30 (shWy_k (shX_wo hx)) (by decide) rfl (Nat.le_of_ble_eq_true rfl) (Nat.le_of_ble_eq_true rfl) (Nat.le_of_ble_eq_true rfl) (Nat.le_of_ble_eq_true rfl) (Nat.le_of_ble_eq_true rfl) (s_X9_depthOf (k := k) G (shX_wo hx) hc_z (by omega) (fun r30 e30 => ?_))
          have hd30 := wy_dep hc2 hnd e30
          refine r_iload1 dX11_holding_33 ?_
          refine t_icgt (t := 69) dX11_holding_34 (by decide) (fun h34 => ?_) (fun h34 => False.elim (by omega))
          refine r_iload3 dX11_holding_69 ?_
          refine r_iret dX11_holding_70 rfl (Nat.le_of_ble_eq_true rfl) (Nat.le_of_ble_eq_true rfl) ?_
          exact hend
        · refine r_iload4 dX11_holding_18 ?_
          refine r_aloadR2 dX11_holding_20 ?_
          refine m_getV (x := (f2_z (X + 57) 12)) zf_RX11_358 rfl dX11_holding_21 (shWy_k (shX_wo hx)) (rfl) ?_
          refine t_icge (t := 69) dX11_holding_24 (by decide) (fun h24 => ?_) (fun h24 => False.elim (by omega))
          refine r_iload3 dX11_holding_69 ?_
          refine r_iret dX11_holding_70 rfl (Nat.le_of_ble_eq_true rfl) (Nat.le_of_ble_eq_true rfl) ?_
          exact hend
  exact lp 1026 _ _ 0 f1_z (by omega) (by omega) frL_rf (by rw [List.take_zero]; show _ = ((0 : Nat) : Int); omega) (by rw [List.take_zero]; exact hmr0) (by omega)
