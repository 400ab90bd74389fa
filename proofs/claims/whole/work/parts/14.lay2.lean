/-! LAY: flatten, columns over, take -/
def lyFlat (k : Nat) : zLy := (List.range k).map (fun c => [(c, true)])
theorem lyFlat_len {k : Nat} : (lyFlat k).length = k := by unfold lyFlat; rw [List.length_map, List.length_range]
theorem lyFlat_succ {k : Nat} : lyFlat (k + 1) = lyFlat k ++ [[(k, true)]] := by unfold lyFlat; rw [List.range_succ, List.map_append]; rfl
theorem lyFlat_flat {k : Nat} : (lyFlat k).flatten.length = k := by
  induction k with
  | zero => rfl
  | succ k ih => rw [lyFlat_succ, List.flatten_append, List.length_append, ih]; rfl
def zcol (L : zLy) (c : Int) : List (Nat × Bool) := if 0 ≤ c ∧ c < L.length then L.getD c.toNat [] else []
theorem zcol_len {L : zLy} {c : Int} : zen L c = zst L c + (zcol L c).length := by
  unfold zen zst zcol
  by_cases h : 0 ≤ c ∧ c < L.length
  · rw [if_pos h, if_pos h]
    have hl : c.toNat < L.length := by omega
    have hg : L[c.toNat]? = some (L.getD c.toNat []) := by rw [List.getD_eq_getElem?_getD, List.getElem?_eq_getElem hl]; rfl
    rw [lyP_succ hg]
    by_cases h1 : 1 ≤ c
    · rw [if_pos ⟨h1, h.2⟩]
    · rw [if_neg (fun q => h1 q.1), show c.toNat = 0 by omega, lyP_0]
  · rw [if_neg h, if_neg h, if_neg (by omega)]
    rfl
theorem zcol_get {L : zLy} {c : Int} {k : Nat} (hk : k < (zcol L c).length) : L.flatten[zst L c + k]? = (zcol L c)[k]? := by
  unfold zst zcol at *
  by_cases h : 0 ≤ c ∧ c < L.length
  · rw [if_pos h] at hk ⊢
    have hl : c.toNat < L.length := by omega
    have hg : L[c.toNat]? = some (L.getD c.toNat []) := by rw [List.getD_eq_getElem?_getD, List.getElem?_eq_getElem hl]; rfl
    have e := lyP_get hg hk
    by_cases h1 : 1 ≤ c
    · rw [if_pos ⟨h1, h.2⟩]; exact e
    · rw [if_neg (fun q => h1 q.1)]
      rw [show c.toNat = 0 by omega, lyP_0] at e
      rw [show c.toNat = 0 by omega]
      exact e
  · rw [if_neg h] at hk
    exact absurd hk (by simp)
theorem zcol_bnd {L : zLy} {c : Int} : zst L c + (zcol L c).length ≤ L.flatten.length := by
  rw [← zcol_len]
  unfold zen
  by_cases h : 0 ≤ c ∧ c < L.length
  · rw [if_pos h]; exact lyP_le
  · rw [if_neg h]; exact Nat.zero_le _
def zturn (c : List (Nat × Bool)) : List (Nat × Bool) := c.reverse.map (fun p => (p.1, !p.2))
theorem zturn_len {c : List (Nat × Bool)} : (zturn c).length = c.length := by unfold zturn; simp
theorem zturn_get {c : List (Nat × Bool)} {k : Nat} {p : Nat × Bool} (hk : k < c.length) (hp : c[c.length - 1 - k]? = some p) : (zturn c)[k]? = some (p.1, !p.2) := by
  unfold zturn
  rw [List.getElem?_map, List.getElem?_reverse (by omega), hp]
  rfl
theorem take_snoc {α : Type} {l : List α} {k : Nat} {p : α} (h : l[k]? = some p) : l.take (k + 1) = l.take k ++ [p] := by rw [List.take_add_one, h]; rfl
set_option maxHeartbeats 4000000 in
set_option maxRecDepth 100000 in
theorem s_X2_flatten {g : zGT} {w : zW} {a n : Nat} {x : Int32} {Q : Option Value → zW → Prop} {QX : String → zW → Prop} (G : zGok g) (hs : shLay w a) (hn : n ≤ 6) (hx : x = nI n) (hQ : ∀ f2, ofLay (zI w) f2 a → ctLay f2 a (lyFlat n) [] → Q none (zsI w f2)) : zC g 2 yX2_flatten cX2_flatten 3 none [.ref a, .int x] w (0, 0) Q QX := by
  refine zC_of G (by decide +kernel) (Nat.le_of_ble_eq_true rfl) ?_
  subst hx
  have nn : (nI n).toInt = n := zi_n (by omega)
  have loop : ∀ (m k : Nat) (f : Nat → Nat → Int32), m + k = n → ofLay (zI w) f a → ctLay f a (lyFlat k) [] → zR (zV g 2 yX2_flatten 3 none (0, 0) Q QX) cX2_flatten yX2_flatten.cls 6 [some (.ref a), some (.int (nI n)), some (.int (nI k))] [] (zsI w f) (0, 0) := by
    intro m
    induction m with
    | zero =>
      intro k f hk ho hc
      have nk : (nI k).toInt = k := zi_n (by omega)
      refine r_iload2 dX2_flatten_6 ?_
      refine r_iload1 dX2_flatten_7 ?_
      refine t_icge (t := 27) dX2_flatten_8 (by decide) (fun h8 => ?_) (fun h8 => False.elim (by omega))
      refine r_vret dX2_flatten_27 rfl (Nat.le_of_ble_eq_true rfl) (Nat.le_of_ble_eq_true rfl) ?_
      rw [show k = n by omega] at hc
      exact hQ f ho hc
    | succ m ih =>
      intro k f hk ho hc
      have nk : (nI k).toInt = k := zi_n (by omega)
      have hcl : ((lyFlat k).flatten ++ []).length = k := by rw [List.append_nil, lyFlat_flat]
      refine r_iload2 dX2_flatten_6 ?_
      refine r_iload1 dX2_flatten_7 ?_
      refine t_icge (t := 27) dX2_flatten_8 (by decide) (fun h8 => False.elim (by omega)) (fun h8 => ?_)
      refine r_aloadR0 dX2_flatten_11 ?_
      refine r_iload2 dX2_flatten_12 ?_
      refine r_iconst (v := 1) dX2_flatten_13 (by decide) ?_
      refine q_callV2 zm_RX2_32 dX2_flatten_14 (shLay_k hs) (by decide) rfl (Nat.le_of_ble_eq_true rfl) (Nat.le_of_ble_eq_true rfl) (Nat.le_of_ble_eq_true rfl) (Nat.le_of_ble_eq_true rfl) (Nat.le_of_ble_eq_true rfl) (s_X2_lay (c := k) (u := true) G hs hc (by rw [hcl]; omega) rfl rfl (fun f2 ho2 hc2 => ?_))
      refine r_aloadR0 dX2_flatten_17 ?_
      refine q_callV0 zm_RX2_36 dX2_flatten_18 (shLay_k hs) (by decide) rfl (Nat.le_of_ble_eq_true rfl) (Nat.le_of_ble_eq_true rfl) (Nat.le_of_ble_eq_true rfl) (Nat.le_of_ble_eq_true rfl) (Nat.le_of_ble_eq_true rfl) (s_X2_closeColumn G hs hc2 (by rw [lyFlat_len]; omega) (fun f3 ho3 hc3 => ?_))
      refine r_iinc2 dX2_flatten_21 rfl rfl ?_
      refine r_goto (t := 6) dX2_flatten_24 (by decide) ?_
      rw [show nI k + Int32.ofInt 1 = nI (k + 1) from nI_1 _]
      exact ih (k + 1) f3 (by omega) (ofLay_tr ho (ofLay_tr ho2 ho3)) (by rw [lyFlat_succ]; exact hc3)
  refine r_aloadR0 dX2_flatten_0 ?_
  refine q_callV0 zm_RX2_29 dX2_flatten_1 (shLay_k hs) (by decide) rfl (Nat.le_of_ble_eq_true rfl) (Nat.le_of_ble_eq_true rfl) (Nat.le_of_ble_eq_true rfl) (Nat.le_of_ble_eq_true rfl) (Nat.le_of_ble_eq_true rfl) (s_X2_empty G hs (fun f1 ho1 hc1 => ?_))
  refine r_iconst (v := 0) dX2_flatten_4 (by decide) ?_
  refine r_istore2 dX2_flatten_5 rfl ?_
  exact loop n 0 f1 rfl ho1 hc1
set_option maxHeartbeats 4000000 in
set_option maxRecDepth 100000 in
theorem s_X2_layColumn {g : zGT} {w : zW} {a q : Nat} {L L2 : zLy} {C : List (Nat × Bool)} {c : Int32} {Q : Option Value → zW → Prop} {QX : String → zW → Prop} (G : zGok g) (hs : shLay w a) (hs2 : shLay w q) (haq : q + 4 ≤ a ∨ a + 4 ≤ q) (hc : ctLay (zI w) a L C) (hc2 : ctLay (zI w) q L2 []) (hl : (L.flatten ++ C).length + (zcol L2 c.toInt).length ≤ 6) (hQ : ∀ f2, ofLay (zI w) f2 a → ctLay f2 a L (C ++ zcol L2 c.toInt) → Q none (zsI w f2)) : zC g 2 yX2_layColumn cX2_layColumn 4 none [.ref a, .ref q, .int c] w (0, 0) Q QX := by
  refine zC_of G (by decide +kernel) (Nat.le_of_ble_eq_true rfl) ?_
  generalize hcol : zcol L2 c.toInt = col at hl hQ
  have hb := zcol_bnd (L := L2) (c := c.toInt)
  have h6 := hc2.2.2.2.2.1
  rw [hcol] at hb
  have hlen : zen L2 c.toInt = zst L2 c.toInt + col.length := by rw [← hcol]; exact zcol_len
  have h6b : L2.flatten.length ≤ 6 := by simpa using h6
  have loop : ∀ (m k : Nat) (f : Nat → Nat → Int32), m + k = col.length → ofLay (zI w) f a → ctLay f a L (C ++ col.take k) → zR (zV g 2 yX2_layColumn 4 none (0, 0) Q QX) cX2_layColumn yX2_layColumn.cls 6 [some (.ref a), some (.ref q), some (.int c), some (.int (nI (zst L2 c.toInt + k)))] [] (zsI w f) (0, 0) := by
    intro m
    induction m with
    | zero =>
      intro k f hk ho hf
      have hq := ctLay_of hc2 ho haq
      have nk : (nI (zst L2 c.toInt + k)).toInt = (zst L2 c.toInt + k : Nat) := zi_n (by omega)
      have ne : (nI (zen L2 c.toInt)).toInt = (zen L2 c.toInt : Nat) := zi_n (by omega)
      refine r_iload3 dX2_layColumn_6 ?_
      refine r_aloadR1 dX2_layColumn_7 ?_
      refine r_iload2 dX2_layColumn_8 ?_
      refine q_callV1 zm_RX2_56 dX2_layColumn_9 (shLay_k hs2) (by decide) rfl (Nat.le_of_ble_eq_true rfl) (Nat.le_of_ble_eq_true rfl) (Nat.le_of_ble_eq_true rfl) (Nat.le_of_ble_eq_true rfl) (Nat.le_of_ble_eq_true rfl) (s_X2_endOf G hs2 hq (fun r1 er1 => ?_))
      subst er1
      refine t_icge (t := 35) dX2_layColumn_12 (by decide) (fun h12 => ?_) (fun h12 => False.elim (by omega))
      refine r_vret dX2_layColumn_35 rfl (Nat.le_of_ble_eq_true rfl) (Nat.le_of_ble_eq_true rfl) ?_
      rw [List.take_of_length_le (by omega)] at hf
      exact hQ f ho hf
    | succ m ih =>
      intro k f hk ho hf
      have hq := ctLay_of hc2 ho haq
      have nk : (nI (zst L2 c.toInt + k)).toInt = (zst L2 c.toInt + k : Nat) := zi_n (by omega)
      have ne : (nI (zen L2 c.toInt)).toInt = (zen L2 c.toInt : Nat) := zi_n (by omega)
      obtain ⟨p, hp⟩ : ∃ p, col[k]? = some p := ⟨_, List.getElem?_eq_getElem (by omega)⟩
      have hg : (L2.flatten ++ [])[zst L2 c.toInt + k]? = some p := by rw [List.append_nil, zcol_get (by rw [hcol]; omega), hcol, hp]
      have htk := take_snoc hp
      refine r_iload3 dX2_layColumn_6 ?_
      refine r_aloadR1 dX2_layColumn_7 ?_
      refine r_iload2 dX2_layColumn_8 ?_
      refine q_callV1 zm_RX2_56 dX2_layColumn_9 (shLay_k hs2) (by decide) rfl (Nat.le_of_ble_eq_true rfl) (Nat.le_of_ble_eq_true rfl) (Nat.le_of_ble_eq_true rfl) (Nat.le_of_ble_eq_true rfl) (Nat.le_of_ble_eq_true rfl) (s_X2_endOf G hs2 hq (fun r1 er1 => ?_))
      subst er1
      refine t_icge (t := 35) dX2_layColumn_12 (by decide) (fun h12 => False.elim (by omega)) (fun h12 => ?_)
      refine r_aloadR0 dX2_layColumn_15 ?_
      refine r_aloadR1 dX2_layColumn_16 ?_
      refine r_iload3 dX2_layColumn_17 ?_
      refine q_callV1 zm_RX2_59 dX2_layColumn_18 (shLay_k hs2) (by decide) rfl (Nat.le_of_ble_eq_true rfl) (Nat.le_of_ble_eq_true rfl) (Nat.le_of_ble_eq_true rfl) (Nat.le_of_ble_eq_true rfl) (Nat.le_of_ble_eq_true rfl) (s_X2_cellAt G hs2 hq hg rfl (fun r2 er2 => ?_))
      refine r_aloadR1 dX2_layColumn_21 ?_
      refine r_iload3 dX2_layColumn_22 ?_
      refine q_callV1 zm_RX2_62 dX2_layColumn_23 (shLay_k hs2) (by decide) rfl (Nat.le_of_ble_eq_true rfl) (Nat.le_of_ble_eq_true rfl) (Nat.le_of_ble_eq_true rfl) (Nat.le_of_ble_eq_true rfl) (Nat.le_of_ble_eq_true rfl) (s_X2_isUp G hs2 hq hg rfl (fun r3 er3 => ?_))
      refine q_callV2 zm_RX2_32 dX2_layColumn_26 (shLay_k hs) (by decide) rfl (Nat.le_of_ble_eq_true rfl) (Nat.le_of_ble_eq_true rfl) (Nat.le_of_ble_eq_true rfl) (Nat.le_of_ble_eq_true rfl) (Nat.le_of_ble_eq_true rfl) (s_X2_lay (c := p.1) (u := p.2) G hs hf (by rw [← List.append_assoc, List.length_append, List.length_take]; omega) er2 er3 (fun f2 ho2 hf2 => ?_))
      refine r_iinc3 dX2_layColumn_29 rfl rfl ?_
      refine r_goto (t := 6) dX2_layColumn_32 (by decide) ?_
      rw [show nI (zst L2 c.toInt + k) + Int32.ofInt 1 = nI (zst L2 c.toInt + (k + 1)) from nI_1 _]
      exact ih (k + 1) f2 (by omega) (ofLay_tr ho ho2) (by rw [htk, ← List.append_assoc]; exact hf2)
  refine r_aloadR1 dX2_layColumn_0 ?_
  refine r_iload2 dX2_layColumn_1 ?_
  refine q_callV1 zm_RX2_52 dX2_layColumn_2 (shLay_k hs2) (by decide) rfl (Nat.le_of_ble_eq_true rfl) (Nat.le_of_ble_eq_true rfl) (Nat.le_of_ble_eq_true rfl) (Nat.le_of_ble_eq_true rfl) (Nat.le_of_ble_eq_true rfl) (s_X2_startOf G hs2 hc2 (fun r1 er1 => ?_))
  subst er1
  refine r_istore3 dX2_layColumn_5 rfl ?_
  exact loop col.length 0 (zI w) rfl ofLay_rf (by rw [List.take_zero, List.append_nil]; exact hc)
set_option maxHeartbeats 4000000 in
set_option maxRecDepth 100000 in
theorem s_X2_layTurned {g : zGT} {w : zW} {a q : Nat} {L L2 : zLy} {C : List (Nat × Bool)} {c : Int32} {Q : Option Value → zW → Prop} {QX : String → zW → Prop} (G : zGok g) (hs : shLay w a) (hs2 : shLay w q) (haq : q + 4 ≤ a ∨ a + 4 ≤ q) (hc : ctLay (zI w) a L C) (hc2 : ctLay (zI w) q L2 []) (hl : (L.flatten ++ C).length + (zcol L2 c.toInt).length ≤ 6) (hQ : ∀ f2, ofLay (zI w) f2 a → ctLay f2 a L (C ++ zturn (zcol L2 c.toInt)) → Q none (zsI w f2)) : zC g 2 yX2_layTurned cX2_layTurned 4 none [.ref a, .ref q, .int c] w (0, 0) Q QX := by
  refine zC_of G (by decide +kernel) (Nat.le_of_ble_eq_true rfl) ?_
  generalize hcol : zcol L2 c.toInt = col at hl hQ
  have hb := zcol_bnd (L := L2) (c := c.toInt)
  have h6 := hc2.2.2.2.2.1
  rw [hcol] at hb
  have hlen : zen L2 c.toInt = zst L2 c.toInt + col.length := by rw [← hcol]; exact zcol_len
  have h6b : L2.flatten.length ≤ 6 := by simpa using h6
  have ns : (nI (zst L2 c.toInt)).toInt = (zst L2 c.toInt : Nat) := zi_n (by omega)
  have ne : (nI (zen L2 c.toInt)).toInt = (zen L2 c.toInt : Nat) := zi_n (by omega)
  have i1 : (1 : Int32).toInt = 1 := rfl
  have loop : ∀ (m k : Nat) (x : Int32) (f : Nat → Nat → Int32), m + k = col.length → x.toInt = (zst L2 c.toInt : Int) + col.length - 1 - k → ofLay (zI w) f a → ctLay f a L (C ++ (zturn col).take k) → zR (zV g 2 yX2_layTurned 4 none (0, 0) Q QX) cX2_layTurned yX2_layTurned.cls 8 [some (.ref a), some (.ref q), some (.int c), some (.int x)] [] (zsI w f) (0, 0) := by
    intro m
    induction m with
    | zero =>
      intro k x f hk hx ho hf
      have hq := ctLay_of hc2 ho haq
      refine r_iload3 dX2_layTurned_8 ?_
      refine r_aloadR1 dX2_layTurned_9 ?_
      refine r_iload2 dX2_layTurned_10 ?_
      refine q_callV1 zm_RX2_52 dX2_layTurned_11 (shLay_k hs2) (by decide) rfl (Nat.le_of_ble_eq_true rfl) (Nat.le_of_ble_eq_true rfl) (Nat.le_of_ble_eq_true rfl) (Nat.le_of_ble_eq_true rfl) (Nat.le_of_ble_eq_true rfl) (s_X2_startOf G hs2 hq (fun r1 er1 => ?_))
      subst er1
      refine t_iclt (t := 45) dX2_layTurned_14 (by decide) (fun h14 => ?_) (fun h14 => False.elim (by omega))
      refine r_vret dX2_layTurned_45 rfl (Nat.le_of_ble_eq_true rfl) (Nat.le_of_ble_eq_true rfl) ?_
      rw [List.take_of_length_le (by rw [zturn_len]; omega)] at hf
      exact hQ f ho hf
    | succ m ih =>
      intro k x f hk hx ho hf
      have hq := ctLay_of hc2 ho haq
      obtain ⟨p, hp⟩ : ∃ p, col[col.length - 1 - k]? = some p := ⟨_, List.getElem?_eq_getElem (by omega)⟩
      have hg : (L2.flatten ++ [])[zst L2 c.toInt + (col.length - 1 - k)]? = some p := by rw [List.append_nil, zcol_get (by rw [hcol]; omega), hcol, hp]
      have hxn : x = nI (zst L2 c.toInt + (col.length - 1 - k)) := zi_of (by omega) (by omega)
      have htk := take_snoc (zturn_get (k := k) (by omega) hp)
      have hstep : ∀ (v : Int32), v = (if !p.2 then 1 else 0) → zR (zV g 2 yX2_layTurned 4 none (0, 0) Q QX) cX2_layTurned yX2_layTurned.cls 36 [some (.ref a), some (.ref q), some (.int c), some (.int x)] [.int v, .int (nI p.1), .ref a] (zsI w f) (0, 0) := by
        intro v hv
        refine q_callV2 zm_RX2_32 dX2_layTurned_36 (shLay_k hs) (by decide) rfl (Nat.le_of_ble_eq_true rfl) (Nat.le_of_ble_eq_true rfl) (Nat.le_of_ble_eq_true rfl) (Nat.le_of_ble_eq_true rfl) (Nat.le_of_ble_eq_true rfl) (s_X2_lay (c := p.1) (u := !p.2) G hs hf (by rw [← List.append_assoc, List.length_append, List.length_take, zturn_len]; omega) rfl hv (fun f2 ho2 hf2 => ?_))
        refine r_iinc3 dX2_layTurned_39 rfl rfl ?_
        refine r_goto (t := 8) dX2_layTurned_42 (by decide) ?_
        exact ih (k + 1) _ f2 (by omega) (by have im : (Int32.ofInt (-1)).toInt = -1 := rfl; rw [zi_add (by rw [im]; omega), im]; omega) (ofLay_tr ho ho2) (by rw [htk, ← List.append_assoc]; exact hf2)
      refine r_iload3 dX2_layTurned_8 ?_
      refine r_aloadR1 dX2_layTurned_9 ?_
      refine r_iload2 dX2_layTurned_10 ?_
      refine q_callV1 zm_RX2_52 dX2_layTurned_11 (shLay_k hs2) (by decide) rfl (Nat.le_of_ble_eq_true rfl) (Nat.le_of_ble_eq_true rfl) (Nat.le_of_ble_eq_true rfl) (Nat.le_of_ble_eq_true rfl) (Nat.le_of_ble_eq_true rfl) (s_X2_startOf G hs2 hq (fun r1 er1 => ?_))
      subst er1
      refine t_iclt (t := 45) dX2_layTurned_14 (by decide) (fun h14 => False.elim (by omega)) (fun h14 => ?_)
      refine r_aloadR0 dX2_layTurned_17 ?_
      refine r_aloadR1 dX2_layTurned_18 ?_
      refine r_iload3 dX2_layTurned_19 ?_
      refine q_callV1 zm_RX2_59 dX2_layTurned_20 (shLay_k hs2) (by decide) rfl (Nat.le_of_ble_eq_true rfl) (Nat.le_of_ble_eq_true rfl) (Nat.le_of_ble_eq_true rfl) (Nat.le_of_ble_eq_true rfl) (Nat.le_of_ble_eq_true rfl) (s_X2_cellAt G hs2 hq hg hxn (fun r2 er2 => ?_))
      subst er2
      refine r_aloadR1 dX2_layTurned_23 ?_
      refine r_iload3 dX2_layTurned_24 ?_
      refine q_callV1 zm_RX2_62 dX2_layTurned_25 (shLay_k hs2) (by decide) rfl (Nat.le_of_ble_eq_true rfl) (Nat.le_of_ble_eq_true rfl) (Nat.le_of_ble_eq_true rfl) (Nat.le_of_ble_eq_true rfl) (Nat.le_of_ble_eq_true rfl) (s_X2_isUp G hs2 hq hg hxn (fun r3 er3 => ?_))
      refine t_ifne (t := 35) dX2_layTurned_28 (by decide) (fun h28 => ?_) (fun h28 => ?_)
      · refine r_iconst (v := 0) dX2_layTurned_35 (by decide) ?_
        exact hstep _ (by cases hp2 : p.2 <;> rw [hp2] at er3 <;> subst er3 <;> first | rfl | exact absurd h28 (by decide))
      · refine r_iconst (v := 1) dX2_layTurned_31 (by decide) ?_
        refine r_goto (t := 36) dX2_layTurned_32 (by decide) ?_
        exact hstep _ (by cases hp2 : p.2 <;> rw [hp2] at er3 <;> subst er3 <;> first | rfl | exact absurd h28 (by decide))
  refine r_aloadR1 dX2_layTurned_0 ?_
  refine r_iload2 dX2_layTurned_1 ?_
  refine q_callV1 zm_RX2_56 dX2_layTurned_2 (shLay_k hs2) (by decide) rfl (Nat.le_of_ble_eq_true rfl) (Nat.le_of_ble_eq_true rfl) (Nat.le_of_ble_eq_true rfl) (Nat.le_of_ble_eq_true rfl) (Nat.le_of_ble_eq_true rfl) (s_X2_endOf G hs2 hc2 (fun r1 er1 => ?_))
  subst er1
  refine r_iconst (v := 1) dX2_layTurned_5 (by decide) ?_
  refine r_isub dX2_layTurned_6 ?_
  refine r_istore3 dX2_layTurned_7 rfl ?_
  exact loop col.length 0 _ (zI w) rfl (by rw [zi_sub (by omega)]; omega) ofLay_rf (by rw [List.take_zero, List.append_nil]; exact hc)
