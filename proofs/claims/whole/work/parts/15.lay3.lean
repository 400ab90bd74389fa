/-! a fold of columns -/
def zsum (f : Nat → Nat) : Nat → Nat
  | 0 => 0
  | n + 1 => zsum f n + f n
theorem zsum_flat {F : Nat → List (Nat × Bool)} {n : Nat} : ((List.range n).map F).flatten.length = zsum (fun j => (F j).length) n := by
  induction n with
  | zero => rfl
  | succ n ih =>
    rw [List.range_succ, List.map_append, List.flatten_append, List.length_append, ih]
    simp [zsum]
theorem zsum_congr {f h : Nat → Nat} {n : Nat} (e : ∀ j, j < n → f j = h j) : zsum f n = zsum h n := by
  induction n with
  | zero => rfl
  | succ n ih =>
    show zsum f n + f n = zsum h n + h n
    rw [ih (fun j hj => e j (by omega)), e n (by omega)]
theorem zsum_add {f h : Nat → Nat} {n : Nat} : zsum (fun j => f j + h j) n = zsum f n + zsum h n := by
  induction n with
  | zero => rfl
  | succ n ih =>
    show zsum (fun j => f j + h j) n + (f n + h n) = (zsum f n + f n) + (zsum h n + h n)
    rw [ih]
    omega
theorem zsum_rev {f : Nat → Nat} {s n : Nat} (h : n ≤ s) : zsum (fun j => f (s - 1 - j)) n + zsum f (s - n) = zsum f s := by
  induction n with
  | zero =>
    show 0 + zsum f (s - 0) = _
    rw [Nat.sub_zero, Nat.zero_add]
  | succ n ih =>
    have h1 := ih (by omega)
    obtain ⟨m, hm⟩ : ∃ m, s - n = m + 1 := ⟨s - n - 1, by omega⟩
    rw [hm] at h1
    have e1 : s - 1 - n = m := by omega
    have e2 : s - (n + 1) = m := by omega
    show zsum (fun j => f (s - 1 - j)) n + f (s - 1 - n) + zsum f (s - (n + 1)) = _
    rw [e1, e2]
    have h2 : zsum f (m + 1) = zsum f m + f m := rfl
    omega
def lySpan (L : zLy) (line : Nat) : Nat := max line (L.length - line)
def lyFoldD (L : zLy) (line way : Nat) (d : Int) : List (Nat × Bool) :=
  if way = 0 then zcol L (line + d) ++ zturn (zcol L (line - 1 - d))
  else if way = 1 then zturn (zcol L (line - 1 - d)) ++ zcol L (line + d)
  else if way = 2 then zcol L (line - 1 - d) ++ zturn (zcol L (line + d))
  else zturn (zcol L (line + d)) ++ zcol L (line - 1 - d)
def lyFoldCol (L : zLy) (line way j : Nat) : List (Nat × Bool) := lyFoldD L line way (if way < 2 then (j : Int) else (lySpan L line : Int) - 1 - j)
def lyFold (L : zLy) (line way : Nat) : zLy := (List.range (lySpan L line)).map (lyFoldCol L line way)
theorem lyFold_len {L : zLy} {line way : Nat} : (lyFold L line way).length = lySpan L line := by unfold lyFold; rw [List.length_map, List.length_range]
theorem lyFoldD_len {L : zLy} {line way : Nat} {d : Int} : (lyFoldD L line way d).length = (zcol L (line + d)).length + (zcol L (line - 1 - d)).length := by
  unfold lyFoldD
  split
  · rw [List.length_append, zturn_len]
  · split
    · rw [List.length_append, zturn_len]; omega
    · split
      · rw [List.length_append, zturn_len]; omega
      · rw [List.length_append, zturn_len]
theorem zcol_in {L : zLy} {j : Nat} (h : j < L.length) : lyP L (j + 1) = lyP L j + (zcol L (j : Int)).length := by
  have hg : L[j]? = some (L.getD j []) := by rw [List.getD_eq_getElem?_getD, List.getElem?_eq_getElem h]; rfl
  rw [lyP_succ hg]
  unfold zcol
  rw [if_pos (by omega)]
  rfl
theorem zcol_out {L : zLy} {c : Int} (h : c < 0 ∨ (L.length : Int) ≤ c) : zcol L c = [] := by
  unfold zcol
  rw [if_neg (by omega)]
theorem fold_a {L : zLy} {line n : Nat} (h : line ≤ L.length) : zsum (fun d => (zcol L ((line : Int) + (d : Nat))).length) n + lyP L line = lyP L (min L.length (line + n)) := by
  induction n with
  | zero => show 0 + _ = _; rw [Nat.zero_add, Nat.add_zero, Nat.min_eq_right h]
  | succ n ih =>
    show zsum _ n + (zcol L ((line : Int) + (n : Nat))).length + lyP L line = _
    by_cases hl : line + n < L.length
    · have e := zcol_in (L := L) (j := line + n) hl
      rw [show ((line + n : Nat) : Int) = (line : Int) + (n : Nat) by omega] at e
      rw [Nat.min_eq_right (by omega), show line + (n + 1) = line + n + 1 by omega, e]
      rw [Nat.min_eq_right (by omega)] at ih
      omega
    · rw [zcol_out (Or.inr (by omega)), Nat.min_eq_left (by omega)]
      rw [Nat.min_eq_left (by omega)] at ih
      exact ih
theorem fold_b {L : zLy} {line n : Nat} (h : line ≤ L.length) : zsum (fun d => (zcol L ((line : Int) - 1 - (d : Nat))).length) n + lyP L (line - n) = lyP L line := by
  induction n with
  | zero => show 0 + _ = _; rw [Nat.zero_add, Nat.sub_zero]
  | succ n ih =>
    show zsum _ n + (zcol L ((line : Int) - 1 - (n : Nat))).length + lyP L (line - (n + 1)) = _
    by_cases hl : n < line
    · have e := zcol_in (L := L) (j := line - 1 - n) (by omega)
      rw [show ((line - 1 - n : Nat) : Int) = (line : Int) - 1 - (n : Nat) by omega, show line - 1 - n + 1 = line - n by omega] at e
      rw [show line - (n + 1) = line - 1 - n by omega]
      omega
    · rw [zcol_out (Or.inl (by omega)), show line - (n + 1) = 0 by omega]
      rw [show line - n = 0 by omega] at ih
      exact ih
/-- a fold keeps the cells -/
theorem lyFold_flat {L : zLy} {line way : Nat} (h : line ≤ L.length) : (lyFold L line way).flatten.length = L.flatten.length := by
  unfold lyFold
  rw [zsum_flat]
  generalize hs : lySpan L line = s
  have hs1 : line ≤ s ∧ L.length - line ≤ s := by
    rw [← hs]
    unfold lySpan
    omega
  have ha := fold_a (n := s) h
  have hb := fold_b (n := s) h
  rw [Nat.min_eq_left (by omega), lyP_len (Nat.le_refl _)] at ha
  rw [show line - s = 0 by omega, lyP_0] at hb
  have htot : zsum (fun d => (lyFoldD L line way ((d : Nat) : Int)).length) s = L.flatten.length := by
    rw [zsum_congr (h := fun d => (zcol L ((line : Int) + (d : Nat))).length + (zcol L ((line : Int) - 1 - (d : Nat))).length) (fun j _ => lyFoldD_len), zsum_add]
    omega
  by_cases hw : way < 2
  · rw [← htot]
    apply zsum_congr
    intro j _
    unfold lyFoldCol
    rw [if_pos hw]
  · rw [← htot]
    have e := zsum_rev (f := fun d => (lyFoldD L line way ((d : Nat) : Int)).length) (s := s) (n := s) (Nat.le_refl _)
    rw [Nat.sub_self] at e
    rw [← e]
    show _ = _ + 0
    rw [Nat.add_zero]
    apply zsum_congr
    intro j hj
    unfold lyFoldCol
    rw [if_neg hw, hs, show ((s : Int) - 1 - (j : Nat)) = ((s - 1 - j : Nat) : Int) by omega]
def lyPart (L : zLy) (line way k : Nat) : zLy := (List.range k).map (lyFoldCol L line way)
theorem lyPart_len {L : zLy} {line way k : Nat} : (lyPart L line way k).length = k := by unfold lyPart; rw [List.length_map, List.length_range]
theorem lyPart_succ {L : zLy} {line way k : Nat} : lyPart L line way (k + 1) = lyPart L line way k ++ [lyFoldCol L line way k] := by unfold lyPart; rw [List.range_succ, List.map_append]; rfl
theorem lyPart_bnd {L : zLy} {line way k : Nat} (h : line ≤ L.length) (hk : k < lySpan L line) : (lyPart L line way k).flatten.length + (lyFoldCol L line way k).length ≤ L.flatten.length := by
  rw [← lyFold_flat (way := way) h]
  have e : (lyPart L line way (k + 1)).flatten.length = lyP (lyFold L line way) (k + 1) := by
    unfold lyP lyFold lyPart
    rw [← List.map_take, List.take_range, Nat.min_eq_left (by omega)]
  have e2 : (lyPart L line way (k + 1)).flatten.length = (lyPart L line way k).flatten.length + (lyFoldCol L line way k).length := by
    rw [lyPart_succ, List.flatten_append, List.length_append]
    simp
  rw [← e2, e]
  exact lyP_le

set_option maxHeartbeats 4000000 in
set_option maxRecDepth 100000 in
theorem s_X2_take {g : zGT} {w : zW} {a q : Nat} {L : zLy} {Q : Option Value → zW → Prop} {QX : String → zW → Prop} (G : zGok g) (hs : shLay w a) (hs2 : shLay w q) (haq : q + 4 ≤ a ∨ a + 4 ≤ q) (hc2 : ctLay (zI w) q L []) (hQ : ∀ f2, ofLay (zI w) f2 a → ctLay f2 a L [] → Q none (zsI w f2)) : zC g 3 yX2_take cX2_take 3 none [.ref a, .ref q] w (0, 0) Q QX := by
  refine zC_of G (by decide +kernel) (Nat.le_of_ble_eq_true rfl) ?_
  have h6 : L.flatten.length ≤ 6 := by have := hc2.2.2.2.2.1; simpa using this
  have hL6 : L.length ≤ 6 := hc2.2.2.2.2.2
  have loop : ∀ (m k : Nat) (f : Nat → Nat → Int32), m + k = L.length → ofLay (zI w) f a → ctLay f a (L.take k) [] → zR (zV g 3 yX2_take 3 none (0, 0) Q QX) cX2_take yX2_take.cls 6 [some (.ref a), some (.ref q), some (.int (nI k))] [] (zsI w f) (0, 0) := by
    intro m
    induction m with
    | zero =>
      intro k f hk ho hf
      have hq := ctLay_of hc2 ho haq
      have nk : (nI k).toInt = k := zi_n (by omega)
      have n4 : (f q 4).toInt = (L.length : Nat) := by rw [hq.2.1]; exact zi_n (by omega)
      refine r_iload2 dX2_take_6 ?_
      refine r_aloadR1 dX2_take_7 ?_
      refine r_getI zf_RX2_26 rfl dX2_take_8 (shLay_k hs2) ?_
      refine t_icge (t := 30) dX2_take_11 (by decide) (fun h11 => ?_) (fun h11 => False.elim (by have n5 : (zI (zsI w f) q 4).toInt = (L.length : Nat) := n4; omega))
      refine r_vret dX2_take_30 rfl (Nat.le_of_ble_eq_true rfl) (Nat.le_of_ble_eq_true rfl) ?_
      rw [List.take_of_length_le (by omega)] at hf
      exact hQ f ho hf
    | succ m ih =>
      intro k f hk ho hf
      have hq := ctLay_of hc2 ho haq
      have nk : (nI k).toInt = k := zi_n (by omega)
      have n5 : (zI (zsI w f) q 4).toInt = (L.length : Nat) := by show (f q 4).toInt = _; rw [hq.2.1]; exact zi_n (by omega)
      obtain ⟨col, hcol⟩ : ∃ col, L[k]? = some col := ⟨_, List.getElem?_eq_getElem (by omega)⟩
      have hz : zcol L (nI k).toInt = col := by unfold zcol; rw [nk, if_pos (by omega)]; simp [List.getD_eq_getElem?_getD, hcol]
      have hb : (L.take k).flatten.length + col.length ≤ 6 := by have e := lyP_succ hcol; have e2 : lyP L (k + 1) ≤ L.flatten.length := lyP_le; unfold lyP at e e2; omega
      refine r_iload2 dX2_take_6 ?_
      refine r_aloadR1 dX2_take_7 ?_
      refine r_getI zf_RX2_26 rfl dX2_take_8 (shLay_k hs2) ?_
      refine t_icge (t := 30) dX2_take_11 (by decide) (fun h11 => False.elim (by omega)) (fun h11 => ?_)
      refine r_aloadR0 dX2_take_14 ?_
      refine r_aloadR1 dX2_take_15 ?_
      refine r_iload2 dX2_take_16 ?_
      refine q_callV2 zm_RX2_39 dX2_take_17 (shLay_k hs) (by decide) rfl (Nat.le_of_ble_eq_true rfl) (Nat.le_of_ble_eq_true rfl) (Nat.le_of_ble_eq_true rfl) (Nat.le_of_ble_eq_true rfl) (Nat.le_of_ble_eq_true rfl) (s_X2_layColumn G hs hs2 haq hf hq (by rw [hz, List.append_nil]; exact hb) (fun f2 ho2 hf2 => ?_))
      rw [hz, List.nil_append] at hf2
      refine r_aloadR0 dX2_take_20 ?_
      refine q_callV0 zm_RX2_36 dX2_take_21 (shLay_k hs) (by decide) rfl (Nat.le_of_ble_eq_true rfl) (Nat.le_of_ble_eq_true rfl) (Nat.le_of_ble_eq_true rfl) (Nat.le_of_ble_eq_true rfl) (Nat.le_of_ble_eq_true rfl) (s_X2_closeColumn G hs hf2 (by rw [List.length_take]; omega) (fun f3 ho3 hf3 => ?_))
      refine r_iinc2 dX2_take_24 rfl rfl ?_
      refine r_goto (t := 6) dX2_take_27 (by decide) ?_
      rw [show nI k + Int32.ofInt 1 = nI (k + 1) from nI_1 _]
      exact ih (k + 1) f3 (by omega) (ofLay_tr ho (ofLay_tr ho2 ho3)) (by rw [take_snoc hcol]; exact hf3)
  refine r_aloadR0 dX2_take_0 ?_
  refine q_callV0 zm_RX2_29 dX2_take_1 (shLay_k hs) (by decide) rfl (Nat.le_of_ble_eq_true rfl) (Nat.le_of_ble_eq_true rfl) (Nat.le_of_ble_eq_true rfl) (Nat.le_of_ble_eq_true rfl) (Nat.le_of_ble_eq_true rfl) (s_X2_empty G hs (fun f1 ho1 hc1 => ?_))
  refine r_iconst (v := 0) dX2_take_4 (by decide) ?_
  refine r_istore2 dX2_take_5 rfl ?_
  exact loop L.length 0 f1 rfl ho1 (by rw [List.take_zero]; exact hc1)
set_option maxHeartbeats 4000000 in
set_option maxRecDepth 100000 in
theorem s_X2_foldFrom {g : zGT} {w : zW} {a q : Nat} {L : zLy} {line way : Nat} {x y : Int32} {Q : Option Value → zW → Prop} {QX : String → zW → Prop} (G : zGok g) (hs : shLay w a) (hs2 : shLay w q) (haq : q + 4 ≤ a ∨ a + 4 ≤ q) (hc2 : ctLay (zI w) q L []) (hli : 1 ≤ line ∧ line < L.length) (hwy : way < 4) (hx : x = nI line) (hy : y = nI way) (hQ : ∀ f2, ofLay (zI w) f2 a → ctLay f2 a (lyFold L line way) [] → Q none (zsI w f2)) : zC g 3 yX2_foldFrom cX2_foldFrom 12 none [.ref a, .ref q, .int x, .int y] w (0, 0) Q QX := by
  refine zC_of G (by decide +kernel) (Nat.le_of_ble_eq_true rfl) ?_
  subst hx
  subst hy
  have h6 : L.flatten.length ≤ 6 := by have := hc2.2.2.2.2.1; simpa using this
  have hL6 : L.length ≤ 6 := hc2.2.2.2.2.2
  have hsp : lySpan L line ≤ 6 ∧ 1 ≤ lySpan L line ∧ (lySpan L line : Int) = max (line : Int) ((L.length : Int) - line) := by unfold lySpan; omega
  have nl : (nI line).toInt = line := zi_n (by omega)
  have nw : (nI way).toInt = way := zi_n (by omega)
  have i1 : (1 : Int32).toInt = 1 := rfl
  have i2 : (2 : Int32).toInt = 2 := rfl
  have nsp : (nI (lySpan L line)).toInt = (lySpan L line : Nat) := zi_n (by omega)
  have loop : ∀ (m k : Nat) (f : Nat → Nat → Int32) (v7 v8 v9 v10 v11 : Option Value), m + k = lySpan L line → ofLay (zI w) f a → ctLay f a (lyPart L line way k) [] → zR (zV g 3 yX2_foldFrom 12 none (0, 0) Q QX) cX2_foldFrom yX2_foldFrom.cls 31 [some (.ref a), some (.ref q), some (.int (nI line)), some (.int (nI way)), some (.int (if way < 2 then 1 else 0)), some (.int (nI (lySpan L line))), some (.int (nI k)), v7, v8, v9, v10, v11] [] (zsI w f) (0, 0) := by
    intro m
    induction m with
    | zero =>
      intro k f v7 v8 v9 v10 v11 hk ho hf
      have nk : (nI k).toInt = k := zi_n (by omega)
      refine r_iload6 dX2_foldFrom_31 ?_
      refine r_iload5 dX2_foldFrom_33 ?_
      refine t_icge (t := 146) dX2_foldFrom_35 (by decide) (fun h35 => ?_) (fun h35 => False.elim (by omega))
      refine r_vret dX2_foldFrom_146 rfl (Nat.le_of_ble_eq_true rfl) (Nat.le_of_ble_eq_true rfl) ?_
      rw [show k = lySpan L line by omega] at hf
      exact hQ f ho hf
    | succ m ih =>
      intro k f v7 v8 v9 v10 v11 hk ho hf
      have hq := ctLay_of hc2 ho haq
      have nk : (nI k).toInt = k := zi_n (by omega)
      have hb := lyPart_bnd (way := way) (L := L) (line := line) (k := k) (by omega) (by omega)
      have hcd : ∀ v : Int32, v.toInt = (if way < 2 then (k : Int) else (lySpan L line : Int) - 1 - k) → (nI line + v).toInt = (line : Int) + v.toInt ∧ (nI line - 1 - v).toInt = (line : Int) - 1 - v.toInt := by
        intro v hv
        have hvb : -10 ≤ v.toInt ∧ v.toInt ≤ 10 := by split at hv <;> omega
        refine ⟨by rw [zi_add (by omega), nl], ?_⟩
        rw [zi_sub (by rw [zi_sub (by omega)]; omega), zi_sub (by omega), nl, i1]
      have hdd : lyFoldCol L line way k = lyFoldD L line way (if way < 2 then (k : Int) else (lySpan L line : Int) - 1 - k) := rfl
      rcases (show way = 0 ∨ way = 1 ∨ way = 2 ∨ way = 3 by omega) with hw | hw | hw | hw
      · have hdv : (nI k).toInt = (if way < 2 then (k : Int) else (lySpan L line : Int) - 1 - k) := by rw [if_pos (by omega)]; exact nk
        obtain ⟨er, el⟩ := hcd _ hdv
        rw [hdv] at er el
        have hfc := hdd
        have hgl : (if way < 2 then (1 : Int32) else 0).toInt = 1 := by rw [if_pos (by omega)]; rfl
        rw [hdd] at hb
        unfold lyFoldD at hb hfc
        rw [if_pos hw] at hb hfc
        rw [List.length_append, zturn_len] at hb
        rw [← er, ← el] at hb hfc
        have hm : (nI way - nI way / 2 * 2).toInt = 0 := by subst hw; rfl
        refine r_iload6 dX2_foldFrom_31 ?_
        refine r_iload5 dX2_foldFrom_33 ?_
        refine t_icge (t := 146) dX2_foldFrom_35 (by decide) (fun h35 => False.elim (by omega)) (fun h35 => ?_)
        refine r_iload4 dX2_foldFrom_38 ?_
        refine t_ifeq (t := 48) dX2_foldFrom_40 (by decide) (fun h40 => False.elim (by omega)) (fun h40 => ?_)
        refine r_iload6 dX2_foldFrom_43 ?_
        refine r_goto (t := 55) dX2_foldFrom_45 (by decide) ?_
        refine r_istore7 dX2_foldFrom_55 rfl ?_
        refine r_iload2 dX2_foldFrom_57 ?_
        refine r_iload7 dX2_foldFrom_58 ?_
        refine r_iadd dX2_foldFrom_60 ?_
        refine r_istore8 dX2_foldFrom_61 rfl ?_
        refine r_iload2 dX2_foldFrom_63 ?_
        refine r_iconst (v := 1) dX2_foldFrom_64 (by decide) ?_
        refine r_isub dX2_foldFrom_65 ?_
        refine r_iload7 dX2_foldFrom_66 ?_
        refine r_isub dX2_foldFrom_68 ?_
        refine r_istore9 dX2_foldFrom_69 rfl ?_
        refine r_iload4 dX2_foldFrom_71 ?_
        refine t_ifeq (t := 81) dX2_foldFrom_73 (by decide) (fun h73 => False.elim (by omega)) (fun h73 => ?_)
        refine r_iload8 dX2_foldFrom_76 ?_
        refine r_goto (t := 83) dX2_foldFrom_78 (by decide) ?_
        refine r_istore10 dX2_foldFrom_83 rfl ?_
        refine r_iload4 dX2_foldFrom_85 ?_
        refine t_ifeq (t := 95) dX2_foldFrom_87 (by decide) (fun h87 => False.elim (by omega)) (fun h87 => ?_)
        refine r_iload9 dX2_foldFrom_90 ?_
        refine r_goto (t := 97) dX2_foldFrom_92 (by decide) ?_
        refine r_istore11 dX2_foldFrom_97 rfl ?_
        refine r_iload3 dX2_foldFrom_99 ?_
        refine r_iconst (v := 2) dX2_foldFrom_100 (by decide) ?_
        refine r_irem dX2_foldFrom_101 (by decide) ?_
        refine t_ifne (t := 122) dX2_foldFrom_102 (by decide) (fun h102 => False.elim (by omega)) (fun h102 => ?_)
        refine r_aloadR0 dX2_foldFrom_105 ?_
        refine r_aloadR1 dX2_foldFrom_106 ?_
        refine r_iload10 dX2_foldFrom_107 ?_
        refine q_callV2 zm_RX2_39 dX2_foldFrom_109 (shLay_k hs) (by decide) rfl (Nat.le_of_ble_eq_true rfl) (Nat.le_of_ble_eq_true rfl) (Nat.le_of_ble_eq_true rfl) (Nat.le_of_ble_eq_true rfl) (Nat.le_of_ble_eq_true rfl) (s_X2_layColumn (c := (nI line + (nI k))) G hs hs2 haq hf hq (by rw [List.append_nil]; omega) (fun f2 ho2 hf2 => ?_))
        have hq2 := ctLay_of hc2 (ofLay_tr ho ho2) haq
        refine r_aloadR0 dX2_foldFrom_112 ?_
        refine r_aloadR1 dX2_foldFrom_113 ?_
        refine r_iload11 dX2_foldFrom_114 ?_
        refine q_callV2 zm_RX2_49 dX2_foldFrom_116 (shLay_k hs) (by decide) rfl (Nat.le_of_ble_eq_true rfl) (Nat.le_of_ble_eq_true rfl) (Nat.le_of_ble_eq_true rfl) (Nat.le_of_ble_eq_true rfl) (Nat.le_of_ble_eq_true rfl) (s_X2_layTurned (c := (nI line - 1 - (nI k))) G hs hs2 haq hf2 hq2 (by rw [List.nil_append, List.length_append]; omega) (fun f3 ho3 hf3 => ?_))
        refine r_goto (t := 136) dX2_foldFrom_119 (by decide) ?_
        refine r_aloadR0 dX2_foldFrom_136 ?_
        refine q_callV0 zm_RX2_36 dX2_foldFrom_137 (shLay_k hs) (by decide) rfl (Nat.le_of_ble_eq_true rfl) (Nat.le_of_ble_eq_true rfl) (Nat.le_of_ble_eq_true rfl) (Nat.le_of_ble_eq_true rfl) (Nat.le_of_ble_eq_true rfl) (s_X2_closeColumn G hs hf3 (by rw [lyPart_len]; omega) (fun f4 ho4 hf4 => ?_))
        refine r_iinc6 dX2_foldFrom_140 rfl rfl ?_
        refine r_goto (t := 31) dX2_foldFrom_143 (by decide) ?_
        rw [show nI k + Int32.ofInt 1 = nI (k + 1) from nI_1 _]
        exact ih (k + 1) f4 _ _ _ _ _ (by omega) (ofLay_tr ho (ofLay_tr ho2 (ofLay_tr ho3 ho4))) (by rw [lyPart_succ, hfc]; simpa using hf4)
      · have hdv : (nI k).toInt = (if way < 2 then (k : Int) else (lySpan L line : Int) - 1 - k) := by rw [if_pos (by omega)]; exact nk
        obtain ⟨er, el⟩ := hcd _ hdv
        rw [hdv] at er el
        have hfc := hdd
        have hgl : (if way < 2 then (1 : Int32) else 0).toInt = 1 := by rw [if_pos (by omega)]; rfl
        rw [hdd] at hb
        unfold lyFoldD at hb hfc
        rw [if_neg (by omega), if_pos hw] at hb hfc
        rw [List.length_append, zturn_len] at hb
        rw [← er, ← el] at hb hfc
        have hm : (nI way - nI way / 2 * 2).toInt = 1 := by subst hw; rfl
        refine r_iload6 dX2_foldFrom_31 ?_
        refine r_iload5 dX2_foldFrom_33 ?_
        refine t_icge (t := 146) dX2_foldFrom_35 (by decide) (fun h35 => False.elim (by omega)) (fun h35 => ?_)
        refine r_iload4 dX2_foldFrom_38 ?_
        refine t_ifeq (t := 48) dX2_foldFrom_40 (by decide) (fun h40 => False.elim (by omega)) (fun h40 => ?_)
        refine r_iload6 dX2_foldFrom_43 ?_
        refine r_goto (t := 55) dX2_foldFrom_45 (by decide) ?_
        refine r_istore7 dX2_foldFrom_55 rfl ?_
        refine r_iload2 dX2_foldFrom_57 ?_
        refine r_iload7 dX2_foldFrom_58 ?_
        refine r_iadd dX2_foldFrom_60 ?_
        refine r_istore8 dX2_foldFrom_61 rfl ?_
        refine r_iload2 dX2_foldFrom_63 ?_
        refine r_iconst (v := 1) dX2_foldFrom_64 (by decide) ?_
        refine r_isub dX2_foldFrom_65 ?_
        refine r_iload7 dX2_foldFrom_66 ?_
        refine r_isub dX2_foldFrom_68 ?_
        refine r_istore9 dX2_foldFrom_69 rfl ?_
        refine r_iload4 dX2_foldFrom_71 ?_
        refine t_ifeq (t := 81) dX2_foldFrom_73 (by decide) (fun h73 => False.elim (by omega)) (fun h73 => ?_)
        refine r_iload8 dX2_foldFrom_76 ?_
        refine r_goto (t := 83) dX2_foldFrom_78 (by decide) ?_
        refine r_istore10 dX2_foldFrom_83 rfl ?_
        refine r_iload4 dX2_foldFrom_85 ?_
        refine t_ifeq (t := 95) dX2_foldFrom_87 (by decide) (fun h87 => False.elim (by omega)) (fun h87 => ?_)
        refine r_iload9 dX2_foldFrom_90 ?_
        refine r_goto (t := 97) dX2_foldFrom_92 (by decide) ?_
        refine r_istore11 dX2_foldFrom_97 rfl ?_
        refine r_iload3 dX2_foldFrom_99 ?_
        refine r_iconst (v := 2) dX2_foldFrom_100 (by decide) ?_
        refine r_irem dX2_foldFrom_101 (by decide) ?_
        refine t_ifne (t := 122) dX2_foldFrom_102 (by decide) (fun h102 => ?_) (fun h102 => False.elim (by omega))
        refine r_aloadR0 dX2_foldFrom_122 ?_
        refine r_aloadR1 dX2_foldFrom_123 ?_
        refine r_iload11 dX2_foldFrom_124 ?_
        refine q_callV2 zm_RX2_49 dX2_foldFrom_126 (shLay_k hs) (by decide) rfl (Nat.le_of_ble_eq_true rfl) (Nat.le_of_ble_eq_true rfl) (Nat.le_of_ble_eq_true rfl) (Nat.le_of_ble_eq_true rfl) (Nat.le_of_ble_eq_true rfl) (s_X2_layTurned (c := (nI line - 1 - (nI k))) G hs hs2 haq hf hq (by rw [List.append_nil]; omega) (fun f2 ho2 hf2 => ?_))
        have hq2 := ctLay_of hc2 (ofLay_tr ho ho2) haq
        refine r_aloadR0 dX2_foldFrom_129 ?_
        refine r_aloadR1 dX2_foldFrom_130 ?_
        refine r_iload10 dX2_foldFrom_131 ?_
        refine q_callV2 zm_RX2_39 dX2_foldFrom_133 (shLay_k hs) (by decide) rfl (Nat.le_of_ble_eq_true rfl) (Nat.le_of_ble_eq_true rfl) (Nat.le_of_ble_eq_true rfl) (Nat.le_of_ble_eq_true rfl) (Nat.le_of_ble_eq_true rfl) (s_X2_layColumn (c := (nI line + (nI k))) G hs hs2 haq hf2 hq2 (by rw [List.nil_append, List.length_append, zturn_len]; omega) (fun f3 ho3 hf3 => ?_))
        refine r_aloadR0 dX2_foldFrom_136 ?_
        refine q_callV0 zm_RX2_36 dX2_foldFrom_137 (shLay_k hs) (by decide) rfl (Nat.le_of_ble_eq_true rfl) (Nat.le_of_ble_eq_true rfl) (Nat.le_of_ble_eq_true rfl) (Nat.le_of_ble_eq_true rfl) (Nat.le_of_ble_eq_true rfl) (s_X2_closeColumn G hs hf3 (by rw [lyPart_len]; omega) (fun f4 ho4 hf4 => ?_))
        refine r_iinc6 dX2_foldFrom_140 rfl rfl ?_
        refine r_goto (t := 31) dX2_foldFrom_143 (by decide) ?_
        rw [show nI k + Int32.ofInt 1 = nI (k + 1) from nI_1 _]
        exact ih (k + 1) f4 _ _ _ _ _ (by omega) (ofLay_tr ho (ofLay_tr ho2 (ofLay_tr ho3 ho4))) (by rw [lyPart_succ, hfc]; simpa using hf4)
      · have hdv : (nI (lySpan L line) - 1 - nI k).toInt = (if way < 2 then (k : Int) else (lySpan L line : Int) - 1 - k) := by rw [if_neg (by omega)]; rw [zi_sub (by rw [zi_sub (by omega)]; omega), zi_sub (by omega), nsp, nk, i1]
        obtain ⟨er, el⟩ := hcd _ hdv
        rw [hdv] at er el
        have hfc := hdd
        have hgl : (if way < 2 then (1 : Int32) else 0).toInt = 0 := by rw [if_neg (by omega)]; rfl
        rw [hdd] at hb
        unfold lyFoldD at hb hfc
        rw [if_neg (by omega), if_neg (by omega), if_pos hw] at hb hfc
        rw [List.length_append, zturn_len] at hb
        rw [← er, ← el] at hb hfc
        have hm : (nI way - nI way / 2 * 2).toInt = 0 := by subst hw; rfl
        refine r_iload6 dX2_foldFrom_31 ?_
        refine r_iload5 dX2_foldFrom_33 ?_
        refine t_icge (t := 146) dX2_foldFrom_35 (by decide) (fun h35 => False.elim (by omega)) (fun h35 => ?_)
        refine r_iload4 dX2_foldFrom_38 ?_
        refine t_ifeq (t := 48) dX2_foldFrom_40 (by decide) (fun h40 => ?_) (fun h40 => False.elim (by omega))
        refine r_iload5 dX2_foldFrom_48 ?_
        refine r_iconst (v := 1) dX2_foldFrom_50 (by decide) ?_
        refine r_isub dX2_foldFrom_51 ?_
        refine r_iload6 dX2_foldFrom_52 ?_
        refine r_isub dX2_foldFrom_54 ?_
        refine r_istore7 dX2_foldFrom_55 rfl ?_
        refine r_iload2 dX2_foldFrom_57 ?_
        refine r_iload7 dX2_foldFrom_58 ?_
        refine r_iadd dX2_foldFrom_60 ?_
        refine r_istore8 dX2_foldFrom_61 rfl ?_
        refine r_iload2 dX2_foldFrom_63 ?_
        refine r_iconst (v := 1) dX2_foldFrom_64 (by decide) ?_
        refine r_isub dX2_foldFrom_65 ?_
        refine r_iload7 dX2_foldFrom_66 ?_
        refine r_isub dX2_foldFrom_68 ?_
        refine r_istore9 dX2_foldFrom_69 rfl ?_
        refine r_iload4 dX2_foldFrom_71 ?_
        refine t_ifeq (t := 81) dX2_foldFrom_73 (by decide) (fun h73 => ?_) (fun h73 => False.elim (by omega))
        refine r_iload9 dX2_foldFrom_81 ?_
        refine r_istore10 dX2_foldFrom_83 rfl ?_
        refine r_iload4 dX2_foldFrom_85 ?_
        refine t_ifeq (t := 95) dX2_foldFrom_87 (by decide) (fun h87 => ?_) (fun h87 => False.elim (by omega))
        refine r_iload8 dX2_foldFrom_95 ?_
        refine r_istore11 dX2_foldFrom_97 rfl ?_
        refine r_iload3 dX2_foldFrom_99 ?_
        refine r_iconst (v := 2) dX2_foldFrom_100 (by decide) ?_
        refine r_irem dX2_foldFrom_101 (by decide) ?_
        refine t_ifne (t := 122) dX2_foldFrom_102 (by decide) (fun h102 => False.elim (by omega)) (fun h102 => ?_)
        refine r_aloadR0 dX2_foldFrom_105 ?_
        refine r_aloadR1 dX2_foldFrom_106 ?_
        refine r_iload10 dX2_foldFrom_107 ?_
        refine q_callV2 zm_RX2_39 dX2_foldFrom_109 (shLay_k hs) (by decide) rfl (Nat.le_of_ble_eq_true rfl) (Nat.le_of_ble_eq_true rfl) (Nat.le_of_ble_eq_true rfl) (Nat.le_of_ble_eq_true rfl) (Nat.le_of_ble_eq_true rfl) (s_X2_layColumn (c := (nI line - 1 - (nI (lySpan L line) - 1 - nI k))) G hs hs2 haq hf hq (by rw [List.append_nil]; omega) (fun f2 ho2 hf2 => ?_))
        have hq2 := ctLay_of hc2 (ofLay_tr ho ho2) haq
        refine r_aloadR0 dX2_foldFrom_112 ?_
        refine r_aloadR1 dX2_foldFrom_113 ?_
        refine r_iload11 dX2_foldFrom_114 ?_
        refine q_callV2 zm_RX2_49 dX2_foldFrom_116 (shLay_k hs) (by decide) rfl (Nat.le_of_ble_eq_true rfl) (Nat.le_of_ble_eq_true rfl) (Nat.le_of_ble_eq_true rfl) (Nat.le_of_ble_eq_true rfl) (Nat.le_of_ble_eq_true rfl) (s_X2_layTurned (c := (nI line + (nI (lySpan L line) - 1 - nI k))) G hs hs2 haq hf2 hq2 (by rw [List.nil_append, List.length_append]; omega) (fun f3 ho3 hf3 => ?_))
        refine r_goto (t := 136) dX2_foldFrom_119 (by decide) ?_
        refine r_aloadR0 dX2_foldFrom_136 ?_
        refine q_callV0 zm_RX2_36 dX2_foldFrom_137 (shLay_k hs) (by decide) rfl (Nat.le_of_ble_eq_true rfl) (Nat.le_of_ble_eq_true rfl) (Nat.le_of_ble_eq_true rfl) (Nat.le_of_ble_eq_true rfl) (Nat.le_of_ble_eq_true rfl) (s_X2_closeColumn G hs hf3 (by rw [lyPart_len]; omega) (fun f4 ho4 hf4 => ?_))
        refine r_iinc6 dX2_foldFrom_140 rfl rfl ?_
        refine r_goto (t := 31) dX2_foldFrom_143 (by decide) ?_
        rw [show nI k + Int32.ofInt 1 = nI (k + 1) from nI_1 _]
        exact ih (k + 1) f4 _ _ _ _ _ (by omega) (ofLay_tr ho (ofLay_tr ho2 (ofLay_tr ho3 ho4))) (by rw [lyPart_succ, hfc]; simpa using hf4)
      · have hdv : (nI (lySpan L line) - 1 - nI k).toInt = (if way < 2 then (k : Int) else (lySpan L line : Int) - 1 - k) := by rw [if_neg (by omega)]; rw [zi_sub (by rw [zi_sub (by omega)]; omega), zi_sub (by omega), nsp, nk, i1]
        obtain ⟨er, el⟩ := hcd _ hdv
        rw [hdv] at er el
        have hfc := hdd
        have hgl : (if way < 2 then (1 : Int32) else 0).toInt = 0 := by rw [if_neg (by omega)]; rfl
        rw [hdd] at hb
        unfold lyFoldD at hb hfc
        rw [if_neg (by omega), if_neg (by omega), if_neg (by omega)] at hb hfc
        rw [List.length_append, zturn_len] at hb
        rw [← er, ← el] at hb hfc
        have hm : (nI way - nI way / 2 * 2).toInt = 1 := by subst hw; rfl
        refine r_iload6 dX2_foldFrom_31 ?_
        refine r_iload5 dX2_foldFrom_33 ?_
        refine t_icge (t := 146) dX2_foldFrom_35 (by decide) (fun h35 => False.elim (by omega)) (fun h35 => ?_)
        refine r_iload4 dX2_foldFrom_38 ?_
        refine t_ifeq (t := 48) dX2_foldFrom_40 (by decide) (fun h40 => ?_) (fun h40 => False.elim (by omega))
        refine r_iload5 dX2_foldFrom_48 ?_
        refine r_iconst (v := 1) dX2_foldFrom_50 (by decide) ?_
        refine r_isub dX2_foldFrom_51 ?_
        refine r_iload6 dX2_foldFrom_52 ?_
        refine r_isub dX2_foldFrom_54 ?_
        refine r_istore7 dX2_foldFrom_55 rfl ?_
        refine r_iload2 dX2_foldFrom_57 ?_
        refine r_iload7 dX2_foldFrom_58 ?_
        refine r_iadd dX2_foldFrom_60 ?_
        refine r_istore8 dX2_foldFrom_61 rfl ?_
        refine r_iload2 dX2_foldFrom_63 ?_
        refine r_iconst (v := 1) dX2_foldFrom_64 (by decide) ?_
        refine r_isub dX2_foldFrom_65 ?_
        refine r_iload7 dX2_foldFrom_66 ?_
        refine r_isub dX2_foldFrom_68 ?_
        refine r_istore9 dX2_foldFrom_69 rfl ?_
        refine r_iload4 dX2_foldFrom_71 ?_
        refine t_ifeq (t := 81) dX2_foldFrom_73 (by decide) (fun h73 => ?_) (fun h73 => False.elim (by omega))
        refine r_iload9 dX2_foldFrom_81 ?_
        refine r_istore10 dX2_foldFrom_83 rfl ?_
        refine r_iload4 dX2_foldFrom_85 ?_
        refine t_ifeq (t := 95) dX2_foldFrom_87 (by decide) (fun h87 => ?_) (fun h87 => False.elim (by omega))
        refine r_iload8 dX2_foldFrom_95 ?_
        refine r_istore11 dX2_foldFrom_97 rfl ?_
        refine r_iload3 dX2_foldFrom_99 ?_
        refine r_iconst (v := 2) dX2_foldFrom_100 (by decide) ?_
        refine r_irem dX2_foldFrom_101 (by decide) ?_
        refine t_ifne (t := 122) dX2_foldFrom_102 (by decide) (fun h102 => ?_) (fun h102 => False.elim (by omega))
        refine r_aloadR0 dX2_foldFrom_122 ?_
        refine r_aloadR1 dX2_foldFrom_123 ?_
        refine r_iload11 dX2_foldFrom_124 ?_
        refine q_callV2 zm_RX2_49 dX2_foldFrom_126 (shLay_k hs) (by decide) rfl (Nat.le_of_ble_eq_true rfl) (Nat.le_of_ble_eq_true rfl) (Nat.le_of_ble_eq_true rfl) (Nat.le_of_ble_eq_true rfl) (Nat.le_of_ble_eq_true rfl) (s_X2_layTurned (c := (nI line + (nI (lySpan L line) - 1 - nI k))) G hs hs2 haq hf hq (by rw [List.append_nil]; omega) (fun f2 ho2 hf2 => ?_))
        have hq2 := ctLay_of hc2 (ofLay_tr ho ho2) haq
        refine r_aloadR0 dX2_foldFrom_129 ?_
        refine r_aloadR1 dX2_foldFrom_130 ?_
        refine r_iload10 dX2_foldFrom_131 ?_
        refine q_callV2 zm_RX2_39 dX2_foldFrom_133 (shLay_k hs) (by decide) rfl (Nat.le_of_ble_eq_true rfl) (Nat.le_of_ble_eq_true rfl) (Nat.le_of_ble_eq_true rfl) (Nat.le_of_ble_eq_true rfl) (Nat.le_of_ble_eq_true rfl) (s_X2_layColumn (c := (nI line - 1 - (nI (lySpan L line) - 1 - nI k))) G hs hs2 haq hf2 hq2 (by rw [List.nil_append, List.length_append, zturn_len]; omega) (fun f3 ho3 hf3 => ?_))
        refine r_aloadR0 dX2_foldFrom_136 ?_
        refine q_callV0 zm_RX2_36 dX2_foldFrom_137 (shLay_k hs) (by decide) rfl (Nat.le_of_ble_eq_true rfl) (Nat.le_of_ble_eq_true rfl) (Nat.le_of_ble_eq_true rfl) (Nat.le_of_ble_eq_true rfl) (Nat.le_of_ble_eq_true rfl) (s_X2_closeColumn G hs hf3 (by rw [lyPart_len]; omega) (fun f4 ho4 hf4 => ?_))
        refine r_iinc6 dX2_foldFrom_140 rfl rfl ?_
        refine r_goto (t := 31) dX2_foldFrom_143 (by decide) ?_
        rw [show nI k + Int32.ofInt 1 = nI (k + 1) from nI_1 _]
        exact ih (k + 1) f4 _ _ _ _ _ (by omega) (ofLay_tr ho (ofLay_tr ho2 (ofLay_tr ho3 ho4))) (by rw [lyPart_succ, hfc]; simpa using hf4)
  have n4 : (zI w q 4).toInt = (L.length : Nat) := by rw [hc2.2.1]; exact zi_n (by omega)
  by_cases hw2 : way < 2
  · refine r_aloadR0 dX2_foldFrom_0 ?_
    refine q_callV0 zm_RX2_29 dX2_foldFrom_1 (shLay_k hs) (by decide) rfl (Nat.le_of_ble_eq_true rfl) (Nat.le_of_ble_eq_true rfl) (Nat.le_of_ble_eq_true rfl) (Nat.le_of_ble_eq_true rfl) (Nat.le_of_ble_eq_true rfl) (s_X2_empty G hs (fun f1 ho1 hc1 => ?_))
    have n9 : (zI (zsI w f1) q 4).toInt = (L.length : Nat) := by have := ho1 q (by omega); show (f1 q 4).toInt = _; rw [this]; exact n4
    refine r_iload3 dX2_foldFrom_4 ?_
    refine r_iconst (v := 2) dX2_foldFrom_5 (by decide) ?_
    refine t_icge (t := 13) dX2_foldFrom_6 (by decide) (fun h6 => False.elim (by omega)) (fun h6 => ?_)
    refine r_iconst (v := 1) dX2_foldFrom_9 (by decide) ?_
    refine r_goto (t := 14) dX2_foldFrom_10 (by decide) ?_
    refine r_istore4 dX2_foldFrom_14 rfl ?_
    refine r_iload2 dX2_foldFrom_16 ?_
    refine r_aloadR1 dX2_foldFrom_17 ?_
    refine r_getI zf_RX2_26 rfl dX2_foldFrom_18 (shLay_k hs2) ?_
    refine r_iload2 dX2_foldFrom_21 ?_
    refine r_isub dX2_foldFrom_22 ?_
    refine r_mmax zm_RX2_43 dX2_foldFrom_23 (Nat.le_of_ble_eq_true rfl) (Nat.le_of_ble_eq_true rfl) (Nat.le_of_ble_eq_true rfl) (Nat.le_of_ble_eq_true rfl) (Nat.le_of_ble_eq_true rfl) (fun r er => ?_)
    have hr : r = nI (lySpan L line) := zi_of (by rw [er, zi_sub (by omega), n9, nl]; omega) (by omega)
    subst hr
    refine r_istore5 dX2_foldFrom_26 rfl ?_
    refine r_iconst (v := 0) dX2_foldFrom_28 (by decide) ?_
    refine r_istore6 dX2_foldFrom_29 rfl ?_
    have L9 := loop (lySpan L line) 0 f1 none none none none none rfl ho1 hc1
    rw [if_pos (by omega)] at L9
    exact L9
  · refine r_aloadR0 dX2_foldFrom_0 ?_
    refine q_callV0 zm_RX2_29 dX2_foldFrom_1 (shLay_k hs) (by decide) rfl (Nat.le_of_ble_eq_true rfl) (Nat.le_of_ble_eq_true rfl) (Nat.le_of_ble_eq_true rfl) (Nat.le_of_ble_eq_true rfl) (Nat.le_of_ble_eq_true rfl) (s_X2_empty G hs (fun f1 ho1 hc1 => ?_))
    have n9 : (zI (zsI w f1) q 4).toInt = (L.length : Nat) := by have := ho1 q (by omega); show (f1 q 4).toInt = _; rw [this]; exact n4
    refine r_iload3 dX2_foldFrom_4 ?_
    refine r_iconst (v := 2) dX2_foldFrom_5 (by decide) ?_
    refine t_icge (t := 13) dX2_foldFrom_6 (by decide) (fun h6 => ?_) (fun h6 => False.elim (by omega))
    refine r_iconst (v := 0) dX2_foldFrom_13 (by decide) ?_
    refine r_istore4 dX2_foldFrom_14 rfl ?_
    refine r_iload2 dX2_foldFrom_16 ?_
    refine r_aloadR1 dX2_foldFrom_17 ?_
    refine r_getI zf_RX2_26 rfl dX2_foldFrom_18 (shLay_k hs2) ?_
    refine r_iload2 dX2_foldFrom_21 ?_
    refine r_isub dX2_foldFrom_22 ?_
    refine r_mmax zm_RX2_43 dX2_foldFrom_23 (Nat.le_of_ble_eq_true rfl) (Nat.le_of_ble_eq_true rfl) (Nat.le_of_ble_eq_true rfl) (Nat.le_of_ble_eq_true rfl) (Nat.le_of_ble_eq_true rfl) (fun r er => ?_)
    have hr : r = nI (lySpan L line) := zi_of (by rw [er, zi_sub (by omega), n9, nl]; omega) (by omega)
    subst hr
    refine r_istore5 dX2_foldFrom_26 rfl ?_
    refine r_iconst (v := 0) dX2_foldFrom_28 (by decide) ?_
    refine r_istore6 dX2_foldFrom_29 rfl ?_
    have L9 := loop (lySpan L line) 0 f1 none none none none none rfl ho1 hc1
    rw [if_neg (by omega)] at L9
    exact L9
