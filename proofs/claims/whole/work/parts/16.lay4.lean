/-! LAY: what it tells of itself -/
def bdLay (L : zLy) : Prop := ∀ p ∈ L.flatten, p.1 < 6
def lyTallK (L : zLy) : Nat → Nat
  | 0 => 0
  | k + 1 => max (lyTallK L k) (zcol L (k : Nat)).length
def lyTall (L : zLy) : Nat := lyTallK L L.length
theorem lyTallK_le {L : zLy} {k : Nat} : lyTallK L k ≤ L.flatten.length := by
  induction k with
  | zero => exact Nat.zero_le _
  | succ k ih =>
    have := zcol_bnd (L := L) (c := (k : Nat))
    show max _ _ ≤ _
    omega
theorem zht {L : zLy} {c : Int} (h : L.flatten.length ≤ 6) : nI (zen L c) - nI (zst L c) = nI (zcol L c).length := by
  have e := zcol_len (L := L) (c := c)
  have b := zcol_bnd (L := L) (c := c)
  have n1 : (nI (zen L c)).toInt = (zen L c : Nat) := zi_n (by omega)
  have n2 : (nI (zst L c)).toInt = (zst L c : Nat) := zi_n (by omega)
  exact zi_of (by rw [zi_sub (by omega), n1, n2]; omega) (by omega)
def lyPl : List (Nat × Bool) → Int → Nat → Int
  | [], _, _ => -1
  | p :: M, c, k => if (p.1 : Int) = c then (k : Nat) else lyPl M c (k + 1)
def lyPlace (L : zLy) (c : Int) : Int := lyPl L.flatten c 0
theorem lyPl_spec {M : List (Nat × Bool)} {c : Int} {k : Nat} : (lyPl M c k = -1) ∨ ∃ (i : Nat) (p : Nat × Bool), lyPl M c k = (k + i : Nat) ∧ M[i]? = some p ∧ (p.1 : Int) = c := by
  induction M generalizing k with
  | nil => exact Or.inl rfl
  | cons p M ih =>
    unfold lyPl
    by_cases h : (p.1 : Int) = c
    · rw [if_pos h]
      exact Or.inr ⟨0, p, rfl, rfl, h⟩
    · rw [if_neg h]
      rcases ih (k := k + 1) with e | ⟨i, q, e1, e2, e3⟩
      · exact Or.inl e
      · exact Or.inr ⟨i + 1, q, by rw [e1, Nat.add_assoc, Nat.add_comm 1 i], by simpa using e2, e3⟩
def lyCo (L : zLy) (t : Int) : Nat → Nat → Int
  | 0, _ => -1
  | m + 1, k => if t < (zen L (k : Nat) : Nat) then (k : Nat) else lyCo L t m (k + 1)
def lyColOf (L : zLy) (c : Int) : Int := lyCo L (lyPlace L c) L.length 0
theorem lyCo_bnd {L : zLy} {t : Int} {m k : Nat} : -1 ≤ lyCo L t m k ∧ lyCo L t m k < (m + k : Nat) := by
  induction m generalizing k with
  | zero => unfold lyCo; omega
  | succ m ih =>
    unfold lyCo
    have := ih (k := k + 1)
    split <;> omega
theorem lyTop {L : zLy} {k : Nat} {C : List (Nat × Bool)} {p : Nat × Bool} (h : L[k]? = some (C ++ [p])) : zen L (k : Nat) = lyP L k + C.length + 1 ∧ (L.flatten ++ [])[lyP L k + C.length]? = some p := by
  have hl := (List.getElem?_eq_some_iff.mp h).1
  refine ⟨?_, ?_⟩
  · unfold zen
    rw [if_pos (by omega), Int.toNat_natCast, lyP_succ h]
    simp
    omega
  · rw [List.append_nil, lyP_get h (by simp)]
    simp
theorem lyLow {L : zLy} {k : Nat} {C : List (Nat × Bool)} {p : Nat × Bool} (h : L[k]? = some (p :: C)) : zst L (k : Nat) = lyP L k ∧ (L.flatten ++ [])[lyP L k]? = some p := by
  have hl := (List.getElem?_eq_some_iff.mp h).1
  refine ⟨?_, ?_⟩
  · unfold zst
    by_cases hk : 1 ≤ k
    · rw [if_pos (by omega), Int.toNat_natCast]
    · rw [if_neg (by omega), show k = 0 by omega]
      rfl
  · rw [List.append_nil, ← Nat.add_zero (lyP L k), lyP_get h (by simp)]
    rfl
def lyUpAt (L : zLy) (i : Int) : Bool := match L.flatten[i.toNat]? with
  | some p => p.2
  | none => false
def lyCrease (L : zLy) (k : Nat) : Nat := if lyColOf L (k : Nat) = lyColOf L ((k : Nat) + 1) then (if lyUpAt L (min (lyPlace L (k : Nat)) (lyPlace L ((k : Nat) + 1))) then 2 else 1) else 0
theorem lyCrease_le {L : zLy} {k : Nat} : lyCrease L k ≤ 2 := by
  unfold lyCrease
  split
  · split <;> omega
  · omega
/-- each of the first n cells lies in it -/
def hasLay (n : Nat) (L : zLy) : Prop := ∀ c, c < n → 0 ≤ lyPlace L (c : Nat)
theorem lyAt_in {L : zLy} {n : Nat} (h : hasLay n L) {k : Nat} (hk : k + 1 < n) : ∃ (i : Nat) (p : Nat × Bool), min (lyPlace L (k : Nat)) (lyPlace L ((k : Nat) + 1)) = (i : Nat) ∧ (L.flatten ++ [])[i]? = some p ∧ lyUpAt L (min (lyPlace L (k : Nat)) (lyPlace L ((k : Nat) + 1))) = p.2 := by
  have h1 := h k (by omega)
  have h2 : 0 ≤ lyPlace L ((k : Nat) + 1) := by
    have := h (k + 1) (by omega)
    rw [show ((k + 1 : Nat) : Int) = (k : Int) + 1 by omega] at this
    exact this
  have hm : ∀ c : Int, 0 ≤ lyPlace L c → ∃ (i : Nat) (p : Nat × Bool), lyPlace L c = (i : Nat) ∧ L.flatten[i]? = some p := by
    intro c hc
    unfold lyPlace at hc ⊢
    rcases lyPl_spec (M := L.flatten) (c := c) (k := 0) with e | ⟨i, p, e1, e2, e3⟩
    · omega
    · exact ⟨i, p, by rw [e1, Nat.zero_add], e2⟩
  obtain ⟨i, p, a1, a2⟩ := hm _ h1
  obtain ⟨j, q, b1, b2⟩ := hm _ h2
  rw [a1, b1, List.append_nil]
  rcases Nat.le_total i j with hij | hij
  · refine ⟨i, p, by omega, a2, ?_⟩
    rw [show min (i : Int) (j : Nat) = (i : Nat) by omega]
    unfold lyUpAt
    rw [Int.toNat_natCast, a2]
  · refine ⟨j, q, by omega, b2, ?_⟩
    rw [show min (i : Int) (j : Nat) = (j : Nat) by omega]
    unfold lyUpAt
    rw [Int.toNat_natCast, b2]
def lyBits (L : zLy) : Nat → Int32
  | 0 => 0
  | k + 1 => if lyCrease L k = 0 then lyBits L k else lyBits L k ||| ((1 : Int32) <<< (nI k &&& 31))
def lyCrNo (L : zLy) : Nat → Int32
  | 0 => 0
  | k + 1 => 3 * lyCrNo L k + nI (lyCrease L k)
def lyCell (L : zLy) (i : Nat) : Nat := match L.flatten[i]? with
  | some p => p.1
  | none => 0
theorem lyCell_of {L : zLy} {i : Nat} {p : Nat × Bool} (h : (L.flatten ++ [])[i]? = some p) : lyCell L i = p.1 := by
  unfold lyCell
  rw [List.append_nil] at h
  rw [h]
/-- how many of cells i + 1 to i + k are smaller than the i-th -/
def lySm (L : zLy) (i : Nat) : Nat → Nat
  | 0 => 0
  | k + 1 => if lyCell L (i + 1 + k) < lyCell L i then lySm L i k + 1 else lySm L i k
def lyOrd (L : zLy) : Nat → Int32
  | 0 => 0
  | k + 1 => lyOrd L k * (nI L.flatten.length - nI k) + nI (lySm L k (L.flatten.length - (k + 1)))
def lyKeyStep (L : zLy) (x : Int32) (c k : Nat) : Int32 × Nat :=
  if k + 1 = zen L (c : Nat) then ((x <<< ((5 : Int32) &&& 31) ||| nI (lyCell L k) <<< ((2 : Int32) &&& 31) ||| (if lyUpAt L (k : Nat) then 2 else 0)) ||| 1, c + 1)
  else ((x <<< ((5 : Int32) &&& 31) ||| nI (lyCell L k) <<< ((2 : Int32) &&& 31) ||| (if lyUpAt L (k : Nat) then 2 else 0)) ||| 0, c)
def lyKeyK (L : zLy) : Nat → Int32 × Nat
  | 0 => (0, 0)
  | k + 1 => lyKeyStep L (lyKeyK L k).1 (lyKeyK L k).2 k
def lyKey (L : zLy) : Int32 := (lyKeyK L L.flatten.length).1
theorem lyKeyK_le {L : zLy} {k : Nat} : (lyKeyK L k).2 ≤ k := by
  induction k with
  | zero => exact Nat.le_refl _
  | succ k ih =>
    show (lyKeyStep L (lyKeyK L k).1 (lyKeyK L k).2 k).2 ≤ k + 1
    unfold lyKeyStep
    split
    · show (lyKeyK L k).2 + 1 ≤ k + 1
      omega
    · show (lyKeyK L k).2 ≤ k + 1
      omega
/-- a Lay out of its key -/
def unB (x : Int32) (i : Nat) : Int32 := x >>> ((5 * nI i) &&& 31) &&& 31
def unStep (x : Int32) (i : Nat) (s : zLy × List (Nat × Bool)) : zLy × List (Nat × Bool) :=
  if unB x i &&& 1 = 0 then (s.1, s.2 ++ [((unB x i >>> ((2 : Int32) &&& 31)).toNatClampNeg, !(unB x i &&& 2 == 0))])
  else (s.1 ++ [s.2 ++ [((unB x i >>> ((2 : Int32) &&& 31)).toNatClampNeg, !(unB x i &&& 2 == 0))]], [])
def unK (x : Int32) : Nat → zLy × List (Nat × Bool) → zLy × List (Nat × Bool)
  | 0, s => s
  | i + 1, s => unK x i (unStep x i s)
theorem unK_succ {x : Int32} {i : Nat} {s : zLy × List (Nat × Bool)} : unK x (i + 1) s = unK x i (unStep x i s) := by rw [unK]
theorem unK_0 {x : Int32} {s : zLy × List (Nat × Bool)} : unK x 0 s = s := by rw [unK]
theorem and31 {y : Int32} : ∃ t, t < 32 ∧ y &&& 31 = nI t := by
  have h1 : (y &&& 31).toBitVec.toNat ≤ 31 := by
    rw [Int32.toBitVec_and, BitVec.toNat_and]
    exact Nat.and_le_right
  have h2 := h1
  refine ⟨(y &&& 31).toBitVec.toNat, by omega, ?_⟩
  have h3 : (y &&& 31).toInt = ((y &&& 31).toBitVec.toNat : Nat) := by
    show (y &&& 31).toBitVec.toInt = _
    exact BitVec.toInt_eq_toNat_of_lt (by omega)
  exact zi_of h3 (by omega)
theorem un_pos : ∀ t, t < 32 → 0 ≤ (nI t >>> ((2 : Int32) &&& 31)).toInt := by decide +kernel
theorem unB_cell {x : Int32} {i : Nat} : unB x i >>> ((2 : Int32) &&& 31) = nI (unB x i >>> ((2 : Int32) &&& 31)).toNatClampNeg := by
  obtain ⟨t, ht, e⟩ := and31 (y := x >>> ((5 * nI i) &&& 31))
  refine zi_cl ?_
  show 0 ≤ ((x >>> ((5 * nI i) &&& 31) &&& 31) >>> ((2 : Int32) &&& 31)).toInt
  rw [e]
  exact un_pos t ht
theorem len_a {L : zLy} {C : List (Nat × Bool)} {p : Nat × Bool} {k : Nat} (h : (L.flatten ++ C).length + 1 = k) : (L.flatten ++ (C ++ [p])).length = k := by
  rw [← List.append_assoc, List.length_append]
  exact h
theorem len_b {L : zLy} {C : List (Nat × Bool)} {p : Nat × Bool} {k : Nat} (h : (L.flatten ++ C).length + 1 = k) : ((L ++ [C ++ [p]]).flatten ++ []).length = k := by
  rw [List.append_nil, List.flatten_append, List.flatten_cons, List.flatten_nil, List.append_nil]
  exact len_a h
theorem len_c {L : zLy} {C : List (Nat × Bool)} {k : Nat} (h : L.length + 1 ≤ k) : (L ++ [C]).length ≤ k := by
  rw [List.length_append]
  exact h
set_option maxHeartbeats 4000000 in
set_option maxRecDepth 100000 in
theorem s_X2_cells {g : zGT} {w : zW} {a : Nat} {L : zLy} {Q : Option Value → zW → Prop} {QX : String → zW → Prop} (G : zGok g) (hs : shLay w a) (hc : ctLay (zI w) a L []) (hQ : Q (some (.int (nI L.flatten.length))) w) : zC g 1 yX2_cells cX2_cells 1 (some .int) [.ref a] w (0, 0) Q QX := by
  refine zC_of G (by decide +kernel) (Nat.le_of_ble_eq_true rfl) ?_
  refine r_aloadR0 dX2_cells_0 ?_
  refine r_getI zf_RX2_22 rfl dX2_cells_1 (shLay_k hs) ?_
  refine r_iret dX2_cells_4 rfl (Nat.le_of_ble_eq_true rfl) (Nat.le_of_ble_eq_true rfl) ?_
  rw [hc.1, List.append_nil]; exact hQ
set_option maxHeartbeats 4000000 in
set_option maxRecDepth 100000 in
theorem s_X2_tallest {g : zGT} {w : zW} {a : Nat} {L : zLy} {Q : Option Value → zW → Prop} {QX : String → zW → Prop} (G : zGok g) (hs : shLay w a) (hc : ctLay (zI w) a L []) (hQ : Q (some (.int (nI (lyTall L)))) w) : zC g 3 yX2_tallest cX2_tallest 3 (some .int) [.ref a] w (0, 0) Q QX := by
  refine zC_of G (by decide +kernel) (Nat.le_of_ble_eq_true rfl) ?_
  have h6 : L.flatten.length ≤ 6 := by have := hc.2.2.2.2.1; simpa using this
  have hL6 : L.length ≤ 6 := hc.2.2.2.2.2
  have n3 : (zI w a 3).toInt = (L.flatten.length : Nat) := by rw [hc.1, List.append_nil]; exact zi_n (by omega)
  have n4 : (zI w a 4).toInt = (L.length : Nat) := by rw [hc.2.1]; exact zi_n (by omega)
  have i1 : (1 : Int32).toInt = 1 := rfl
  have i0 : (0 : Int32).toInt = 0 := rfl
  have loop : ∀ (m k : Nat), m + k = L.length → zR (zV g 3 yX2_tallest 3 (some .int) (0, 0) Q QX) cX2_tallest yX2_tallest.cls 4 [some (.ref a), some (.int (nI (lyTallK L k))), some (.int (nI k))] [] w (0, 0) := by
    intro m
    induction m with
    | zero =>
      intro k hk
      have nk : (nI k).toInt = k := zi_n (by omega)
      refine r_iload2 dX2_tallest_4 ?_
      refine r_aloadR0 dX2_tallest_5 ?_
      refine r_getI zf_RX2_26 rfl dX2_tallest_6 (shLay_k hs) ?_
      refine t_icge (t := 28) dX2_tallest_9 (by decide) (fun h9 => ?_) (fun h9 => False.elim (by omega))
      refine r_iload1 dX2_tallest_28 ?_
      refine r_iret dX2_tallest_29 rfl (Nat.le_of_ble_eq_true rfl) (Nat.le_of_ble_eq_true rfl) ?_
      rw [show k = L.length by omega]
      exact hQ
    | succ m ih =>
      intro k hk
      have nk : (nI k).toInt = k := zi_n (by omega)
      have hz := zht (L := L) (c := (nI k).toInt) h6
      have ht := lyTallK_le (L := L) (k := k)
      have ht2 := lyTallK_le (L := L) (k := k + 1)
      have nt : (nI (lyTallK L k)).toInt = (lyTallK L k : Nat) := zi_n (by omega)
      have hb := zcol_bnd (L := L) (c := (nI k).toInt)
      have nl : (nI (zcol L (nI k).toInt).length).toInt = ((zcol L (nI k).toInt).length : Nat) := zi_n (by omega)
      refine r_iload2 dX2_tallest_4 ?_
      refine r_aloadR0 dX2_tallest_5 ?_
      refine r_getI zf_RX2_26 rfl dX2_tallest_6 (shLay_k hs) ?_
      refine t_icge (t := 28) dX2_tallest_9 (by decide) (fun h9 => False.elim (by omega)) (fun h9 => ?_)
      refine r_iload1 dX2_tallest_12 ?_
      refine r_aloadR0 dX2_tallest_13 ?_
      refine r_iload2 dX2_tallest_14 ?_
      refine q_callV1 zm_RX2_66 dX2_tallest_15 (shLay_k hs) (by decide) rfl (Nat.le_of_ble_eq_true rfl) (Nat.le_of_ble_eq_true rfl) (Nat.le_of_ble_eq_true rfl) (Nat.le_of_ble_eq_true rfl) (Nat.le_of_ble_eq_true rfl) (s_X2_heightOf G hs hc (fun r1 er1 => ?_))
      subst er1
      rw [hz]
      refine r_mmax zm_RX2_43 dX2_tallest_18 (Nat.le_of_ble_eq_true rfl) (Nat.le_of_ble_eq_true rfl) (Nat.le_of_ble_eq_true rfl) (Nat.le_of_ble_eq_true rfl) (Nat.le_of_ble_eq_true rfl) (fun r2 er2 => ?_)
      have h2 : r2 = nI (lyTallK L (k + 1)) := zi_of (by show _ = ((max (lyTallK L k) (zcol L (k : Nat)).length : Nat) : Int); rw [er2, nt, nl, nk]; omega) (by omega)
      subst h2
      refine r_istore1 dX2_tallest_21 rfl ?_
      refine r_iinc2 dX2_tallest_22 rfl rfl ?_
      refine r_goto (t := 4) dX2_tallest_25 (by decide) ?_
      rw [show nI k + Int32.ofInt 1 = nI (k + 1) from nI_1 _]
      exact ih (k + 1) (by omega)
  refine r_iconst (v := 0) dX2_tallest_0 (by decide) ?_
  refine r_istore1 dX2_tallest_1 rfl ?_
  refine r_iconst (v := 0) dX2_tallest_2 (by decide) ?_
  refine r_istore2 dX2_tallest_3 rfl ?_
  exact loop L.length 0 rfl
set_option maxHeartbeats 4000000 in
set_option maxRecDepth 100000 in
theorem s_X2_placeOf {g : zGT} {w : zW} {a : Nat} {L : zLy} {c : Int32} {Q : Option Value → zW → Prop} {QX : String → zW → Prop} (G : zGok g) (hs : shLay w a) (hc : ctLay (zI w) a L []) (hB : bdLay L) (hQ : ∀ r, r.toInt = lyPlace L c.toInt → Q (some (.int r)) w) : zC g 2 yX2_placeOf cX2_placeOf 3 (some .int) [.ref a, .int c] w (0, 0) Q QX := by
  refine zC_of G (by decide +kernel) (Nat.le_of_ble_eq_true rfl) ?_
  have h6 : L.flatten.length ≤ 6 := by have := hc.2.2.2.2.1; simpa using this
  have hL6 : L.length ≤ 6 := hc.2.2.2.2.2
  have n3 : (zI w a 3).toInt = (L.flatten.length : Nat) := by rw [hc.1, List.append_nil]; exact zi_n (by omega)
  have n4 : (zI w a 4).toInt = (L.length : Nat) := by rw [hc.2.1]; exact zi_n (by omega)
  have i1 : (1 : Int32).toInt = 1 := rfl
  have i0 : (0 : Int32).toInt = 0 := rfl
  have loop : ∀ (m k : Nat), m + k = L.flatten.length → lyPl (L.flatten.drop k) c.toInt k = lyPlace L c.toInt → zR (zV g 2 yX2_placeOf 3 (some .int) (0, 0) Q QX) cX2_placeOf yX2_placeOf.cls 2 [some (.ref a), some (.int c), some (.int (nI k))] [] w (0, 0) := by
    intro m
    induction m with
    | zero =>
      intro k hk e
      have nk : (nI k).toInt = k := zi_n (by omega)
      refine r_iload2 dX2_placeOf_2 ?_
      refine r_aloadR0 dX2_placeOf_3 ?_
      refine r_getI zf_RX2_22 rfl dX2_placeOf_4 (shLay_k hs) ?_
      refine t_icge (t := 27) dX2_placeOf_7 (by decide) (fun h7 => ?_) (fun h7 => False.elim (by omega))
      refine r_iconst (v := (-1)) dX2_placeOf_27 (by decide) ?_
      refine r_iret dX2_placeOf_28 rfl (Nat.le_of_ble_eq_true rfl) (Nat.le_of_ble_eq_true rfl) ?_
      rw [List.drop_of_length_le (by omega)] at e
      exact hQ _ e
    | succ m ih =>
      intro k hk e
      have nk : (nI k).toInt = k := zi_n (by omega)
      obtain ⟨p, hp⟩ : ∃ p, L.flatten[k]? = some p := ⟨_, List.getElem?_eq_getElem (by omega)⟩
      have hp2 : (L.flatten ++ [])[k]? = some p := by rw [List.append_nil]; exact hp
      have hd : L.flatten.drop k = p :: L.flatten.drop (k + 1) := by rw [List.drop_eq_getElem_cons (by omega)]; congr 1; exact Option.some.inj ((List.getElem?_eq_getElem (by omega)).symm.trans hp)
      rw [hd] at e
      unfold lyPl at e
      have np : (nI p.1).toInt = (p.1 : Nat) := zi_n (by have := hB p (List.mem_of_getElem? hp); omega)
      refine r_iload2 dX2_placeOf_2 ?_
      refine r_aloadR0 dX2_placeOf_3 ?_
      refine r_getI zf_RX2_22 rfl dX2_placeOf_4 (shLay_k hs) ?_
      refine t_icge (t := 27) dX2_placeOf_7 (by decide) (fun h7 => False.elim (by omega)) (fun h7 => ?_)
      refine r_aloadR0 dX2_placeOf_10 ?_
      refine r_iload2 dX2_placeOf_11 ?_
      refine q_callV1 zm_RX2_59 dX2_placeOf_12 (shLay_k hs) (by decide) rfl (Nat.le_of_ble_eq_true rfl) (Nat.le_of_ble_eq_true rfl) (Nat.le_of_ble_eq_true rfl) (Nat.le_of_ble_eq_true rfl) (Nat.le_of_ble_eq_true rfl) (s_X2_cellAt G hs hc hp2 rfl (fun r1 er1 => ?_))
      subst er1
      refine r_iload1 dX2_placeOf_15 ?_
      refine t_icne (t := 21) dX2_placeOf_16 (by decide) (fun h16 => ?_) (fun h16 => ?_)
      · refine r_iinc2 dX2_placeOf_21 rfl rfl ?_
        refine r_goto (t := 2) dX2_placeOf_24 (by decide) ?_
        rw [show nI k + Int32.ofInt 1 = nI (k + 1) from nI_1 _]
        rw [if_neg (by omega)] at e
        exact ih (k + 1) (by omega) e
      · refine r_iload2 dX2_placeOf_19 ?_
        refine r_iret dX2_placeOf_20 rfl (Nat.le_of_ble_eq_true rfl) (Nat.le_of_ble_eq_true rfl) ?_
        rw [if_pos (by omega)] at e
        exact hQ _ (nk.trans e)
  refine r_iconst (v := 0) dX2_placeOf_0 (by decide) ?_
  refine r_istore2 dX2_placeOf_1 rfl ?_
  exact loop L.flatten.length 0 rfl rfl
set_option maxHeartbeats 4000000 in
set_option maxRecDepth 100000 in
theorem s_X2_columnOf {g : zGT} {w : zW} {a : Nat} {L : zLy} {c : Int32} {Q : Option Value → zW → Prop} {QX : String → zW → Prop} (G : zGok g) (hs : shLay w a) (hc : ctLay (zI w) a L []) (hB : bdLay L) (hQ : ∀ r, r.toInt = lyColOf L c.toInt → Q (some (.int r)) w) : zC g 3 yX2_columnOf cX2_columnOf 4 (some .int) [.ref a, .int c] w (0, 0) Q QX := by
  refine zC_of G (by decide +kernel) (Nat.le_of_ble_eq_true rfl) ?_
  have h6 : L.flatten.length ≤ 6 := by have := hc.2.2.2.2.1; simpa using this
  have hL6 : L.length ≤ 6 := hc.2.2.2.2.2
  have n3 : (zI w a 3).toInt = (L.flatten.length : Nat) := by rw [hc.1, List.append_nil]; exact zi_n (by omega)
  have n4 : (zI w a 4).toInt = (L.length : Nat) := by rw [hc.2.1]; exact zi_n (by omega)
  have i1 : (1 : Int32).toInt = 1 := rfl
  have i0 : (0 : Int32).toInt = 0 := rfl
  have loop : ∀ (x : Int32) (hx : x.toInt = lyPlace L c.toInt) (m k : Nat), m + k = L.length → lyCo L (lyPlace L c.toInt) m k = lyColOf L c.toInt → zR (zV g 3 yX2_columnOf 4 (some .int) (0, 0) Q QX) cX2_columnOf yX2_columnOf.cls 8 [some (.ref a), some (.int c), some (.int x), some (.int (nI k))] [] w (0, 0) := by
    intro x hx m
    induction m with
    | zero =>
      intro k hk e
      have nk : (nI k).toInt = k := zi_n (by omega)
      refine r_iload3 dX2_columnOf_8 ?_
      refine r_aloadR0 dX2_columnOf_9 ?_
      refine r_getI zf_RX2_26 rfl dX2_columnOf_10 (shLay_k hs) ?_
      refine t_icge (t := 33) dX2_columnOf_13 (by decide) (fun h13 => ?_) (fun h13 => False.elim (by omega))
      refine r_iconst (v := (-1)) dX2_columnOf_33 (by decide) ?_
      refine r_iret dX2_columnOf_34 rfl (Nat.le_of_ble_eq_true rfl) (Nat.le_of_ble_eq_true rfl) ?_
      exact hQ _ e
    | succ m ih =>
      intro k hk e
      have nk : (nI k).toInt = k := zi_n (by omega)
      have hz : zen L (k : Nat) ≤ 6 := by rw [zcol_len]; have := zcol_bnd (L := L) (c := (k : Nat)); omega
      have nz : (nI (zen L (k : Nat))).toInt = (zen L (k : Nat) : Nat) := zi_n (by omega)
      unfold lyCo at e
      refine r_iload3 dX2_columnOf_8 ?_
      refine r_aloadR0 dX2_columnOf_9 ?_
      refine r_getI zf_RX2_26 rfl dX2_columnOf_10 (shLay_k hs) ?_
      refine t_icge (t := 33) dX2_columnOf_13 (by decide) (fun h13 => False.elim (by omega)) (fun h13 => ?_)
      refine r_iload2 dX2_columnOf_16 ?_
      refine r_aloadR0 dX2_columnOf_17 ?_
      refine r_iload3 dX2_columnOf_18 ?_
      refine q_callV1 zm_RX2_56 dX2_columnOf_19 (shLay_k hs) (by decide) rfl (Nat.le_of_ble_eq_true rfl) (Nat.le_of_ble_eq_true rfl) (Nat.le_of_ble_eq_true rfl) (Nat.le_of_ble_eq_true rfl) (Nat.le_of_ble_eq_true rfl) (s_X2_endOf G hs hc (fun r1 er1 => ?_))
      subst er1
      rw [nk]
      refine t_icge (t := 27) dX2_columnOf_22 (by decide) (fun h22 => ?_) (fun h22 => ?_)
      · refine r_iinc3 dX2_columnOf_27 rfl rfl ?_
        refine r_goto (t := 8) dX2_columnOf_30 (by decide) ?_
        rw [show nI k + Int32.ofInt 1 = nI (k + 1) from nI_1 _]
        rw [if_neg (by omega)] at e
        exact ih (k + 1) (by omega) e
      · refine r_iload3 dX2_columnOf_25 ?_
        refine r_iret dX2_columnOf_26 rfl (Nat.le_of_ble_eq_true rfl) (Nat.le_of_ble_eq_true rfl) ?_
        rw [if_pos (by omega)] at e
        exact hQ _ (nk.trans e)
  refine r_aloadR0 dX2_columnOf_0 ?_
  refine r_iload1 dX2_columnOf_1 ?_
  refine q_callV1 zm_RX2_69 dX2_columnOf_2 (shLay_k hs) (by decide) rfl (Nat.le_of_ble_eq_true rfl) (Nat.le_of_ble_eq_true rfl) (Nat.le_of_ble_eq_true rfl) (Nat.le_of_ble_eq_true rfl) (Nat.le_of_ble_eq_true rfl) (s_X2_placeOf G hs hc hB (fun x hx => ?_))
  refine r_istore2 dX2_columnOf_5 rfl ?_
  refine r_iconst (v := 0) dX2_columnOf_6 (by decide) ?_
  refine r_istore3 dX2_columnOf_7 rfl ?_
  exact loop x hx L.length 0 rfl rfl
set_option maxHeartbeats 4000000 in
set_option maxRecDepth 100000 in
theorem s_X2_markOf {g : zGT} {w : zW} {m c : Nat} {f : Bool} {x y : Int32} {Q : Option Value → zW → Prop} {QX : String → zW → Prop} (G : zGok g) (hmk : zK w m = 21) (hmn : zN w m = 12) (hc : c < 6) (hx : x = nI c) (hy : y = if f then 1 else 0) (hQ : ∀ r, r = zI w m (2 * c + if f then 0 else 1) → Q (some (.int r)) w) : zC g 1 yX2_markOf cX2_markOf 4 (some .int) [.int x, .int y, .ref m] w (0, 0) Q QX := by
  refine zC_of G (by decide +kernel) (Nat.le_of_ble_eq_true rfl) ?_
  subst hx
  have i1 : (1 : Int32).toInt = 1 := rfl
  have i0 : (0 : Int32).toInt = 0 := rfl
  have nc : (nI c).toInt = c := zi_n (by omega)
  have n2 : (2 * nI c).toInt = 2 * c := by rw [zi_mul (by rw [nc]; show _ ≤ (2 : Int) * _ ∧ (2 : Int) * _ < _; omega), nc]; rfl
  have n12 : (nI 12).toInt = 12 := rfl
  cases f with
  | false =>
    have hy2 : y.toInt = 0 := by rw [hy]; rfl
    refine r_iconst (v := 2) dX2_markOf_0 (by decide) ?_
    refine r_iload0 dX2_markOf_1 ?_
    refine r_imul dX2_markOf_2 ?_
    refine r_iload1 dX2_markOf_3 ?_
    refine t_ifeq (t := 11) dX2_markOf_4 (by decide) (fun h4 => ?_) (fun h4 => False.elim (by omega))
    refine r_iconst (v := 1) dX2_markOf_11 (by decide) ?_
    refine r_iadd dX2_markOf_12 ?_
    have na : (2 * nI c + 1).toInt = 2 * c + 1 := by rw [zi_add (by omega), n2, i1]
    refine r_istore3 dX2_markOf_13 rfl ?_
    refine r_iload3 dX2_markOf_14 ?_
    refine t_iflt (t := 30) dX2_markOf_15 (by decide) (fun h15 => False.elim (by omega)) (fun h15 => ?_)
    refine r_iload3 dX2_markOf_18 ?_
    refine r_aloadR2 dX2_markOf_19 ?_
    have nm : (nI (zN w m)).toInt = 12 := by rw [hmn]; rfl
    refine r_alen dX2_markOf_20 (zge hmk (by decide)) ?_
    refine t_icge (t := 30) dX2_markOf_21 (by decide) (fun h21 => False.elim (by omega)) (fun h21 => ?_)
    refine r_aloadR2 dX2_markOf_24 ?_
    refine r_iload3 dX2_markOf_25 ?_
    refine r_iald dX2_markOf_26 hmk (by rw [hmn]; exact zi_in (by omega) (by omega)) ?_
    refine r_goto (t := 31) dX2_markOf_27 (by decide) ?_
    refine r_iret dX2_markOf_31 rfl (Nat.le_of_ble_eq_true rfl) (Nat.le_of_ble_eq_true rfl) ?_
    have ea : (2 * nI c + 1).toNatClampNeg = 2 * c + 1 := by rw [← Int32.toNat_toInt]; omega
    refine hQ _ ?_
    rw [ea]
    rfl
  | true =>
    have hy2 : y.toInt = 1 := by rw [hy]; rfl
    refine r_iconst (v := 2) dX2_markOf_0 (by decide) ?_
    refine r_iload0 dX2_markOf_1 ?_
    refine r_imul dX2_markOf_2 ?_
    refine r_iload1 dX2_markOf_3 ?_
    refine t_ifeq (t := 11) dX2_markOf_4 (by decide) (fun h4 => False.elim (by omega)) (fun h4 => ?_)
    refine r_iconst (v := 0) dX2_markOf_7 (by decide) ?_
    refine r_goto (t := 12) dX2_markOf_8 (by decide) ?_
    refine r_iadd dX2_markOf_12 ?_
    have na : (2 * nI c + 0).toInt = 2 * c + 0 := by rw [zi_add (by omega), n2, i0]
    refine r_istore3 dX2_markOf_13 rfl ?_
    refine r_iload3 dX2_markOf_14 ?_
    refine t_iflt (t := 30) dX2_markOf_15 (by decide) (fun h15 => False.elim (by omega)) (fun h15 => ?_)
    refine r_iload3 dX2_markOf_18 ?_
    refine r_aloadR2 dX2_markOf_19 ?_
    have nm : (nI (zN w m)).toInt = 12 := by rw [hmn]; rfl
    refine r_alen dX2_markOf_20 (zge hmk (by decide)) ?_
    refine t_icge (t := 30) dX2_markOf_21 (by decide) (fun h21 => False.elim (by omega)) (fun h21 => ?_)
    refine r_aloadR2 dX2_markOf_24 ?_
    refine r_iload3 dX2_markOf_25 ?_
    refine r_iald dX2_markOf_26 hmk (by rw [hmn]; exact zi_in (by omega) (by omega)) ?_
    refine r_goto (t := 31) dX2_markOf_27 (by decide) ?_
    refine r_iret dX2_markOf_31 rfl (Nat.le_of_ble_eq_true rfl) (Nat.le_of_ble_eq_true rfl) ?_
    have ea : (2 * nI c + 0).toNatClampNeg = 2 * c + 0 := by rw [← Int32.toNat_toInt]; omega
    refine hQ _ ?_
    rw [ea]
    rfl
set_option maxHeartbeats 4000000 in
set_option maxRecDepth 100000 in
theorem s_X2_markAbove {g : zGT} {w : zW} {a m k : Nat} {L : zLy} {C : List (Nat × Bool)} {p : Nat × Bool} {x : Int32} {Q : Option Value → zW → Prop} {QX : String → zW → Prop} (G : zGok g) (hs : shLay w a) (hc : ctLay (zI w) a L []) (hB : bdLay L) (hk : L[k]? = some (C ++ [p])) (hx : x = nI k) (hmk : zK w m = 21) (hmn : zN w m = 12) (hQ : ∀ r, r = zI w m (2 * p.1 + if p.2 then 0 else 1) → Q (some (.int r)) w) : zC g 2 yX2_markAbove cX2_markAbove 4 (some .int) [.ref a, .int x, .ref m] w (0, 0) Q QX := by
  refine zC_of G (by decide +kernel) (Nat.le_of_ble_eq_true rfl) ?_
  have h6 : L.flatten.length ≤ 6 := by have := hc.2.2.2.2.1; simpa using this
  have hL6 : L.length ≤ 6 := hc.2.2.2.2.2
  have n3 : (zI w a 3).toInt = (L.flatten.length : Nat) := by rw [hc.1, List.append_nil]; exact zi_n (by omega)
  have n4 : (zI w a 4).toInt = (L.length : Nat) := by rw [hc.2.1]; exact zi_n (by omega)
  have i1 : (1 : Int32).toInt = 1 := rfl
  have i0 : (0 : Int32).toInt = 0 := rfl
  have hkl := (List.getElem?_eq_some_iff.mp hk).1
  have nk : x.toInt = k := by rw [hx]; exact zi_n (by omega)
  obtain ⟨ee, eg⟩ := lyTop hk
  have hp6 : p.1 < 6 := hB p (by have := List.mem_of_getElem? eg; simpa using this)
  have hil := (List.getElem?_eq_some_iff.mp eg).1
  rw [List.append_nil] at hil
  refine r_aloadR0 dX2_markAbove_0 ?_
  refine r_iload1 dX2_markAbove_1 ?_
  refine q_callV1 zm_RX2_56 dX2_markAbove_2 (shLay_k hs) (by decide) rfl (Nat.le_of_ble_eq_true rfl) (Nat.le_of_ble_eq_true rfl) (Nat.le_of_ble_eq_true rfl) (Nat.le_of_ble_eq_true rfl) (Nat.le_of_ble_eq_true rfl) (s_X2_endOf G hs hc (fun r1 er1 => ?_))
  subst er1
  rw [nk, ee]
  refine r_iconst (v := 1) dX2_markAbove_5 (by decide) ?_
  refine r_isub dX2_markAbove_6 ?_
  have hi : nI (lyP L k + C.length + 1) - 1 = nI (lyP L k + C.length) := zi_of (by rw [zi_sub (by rw [zi_n (by omega)]; omega), zi_n (by omega)]; omega) (by omega)
  refine r_istore3 dX2_markAbove_7 rfl ?_
  refine r_aloadR0 dX2_markAbove_8 ?_
  refine r_iload3 dX2_markAbove_9 ?_
  refine q_callV1 zm_RX2_59 dX2_markAbove_10 (shLay_k hs) (by decide) rfl (Nat.le_of_ble_eq_true rfl) (Nat.le_of_ble_eq_true rfl) (Nat.le_of_ble_eq_true rfl) (Nat.le_of_ble_eq_true rfl) (Nat.le_of_ble_eq_true rfl) (s_X2_cellAt G hs hc eg hi (fun r2 er2 => ?_))
  refine r_aloadR0 dX2_markAbove_13 ?_
  refine r_iload3 dX2_markAbove_14 ?_
  refine q_callV1 zm_RX2_62 dX2_markAbove_15 (shLay_k hs) (by decide) rfl (Nat.le_of_ble_eq_true rfl) (Nat.le_of_ble_eq_true rfl) (Nat.le_of_ble_eq_true rfl) (Nat.le_of_ble_eq_true rfl) (Nat.le_of_ble_eq_true rfl) (s_X2_isUp G hs hc eg hi (fun r3 er3 => ?_))
  refine r_aloadR2 dX2_markAbove_18 ?_
  refine q_callS3 zm_RX2_72 dX2_markAbove_19 (Nat.le_of_ble_eq_true rfl) (Nat.le_of_ble_eq_true rfl) (Nat.le_of_ble_eq_true rfl) (Nat.le_of_ble_eq_true rfl) (Nat.le_of_ble_eq_true rfl) (s_X2_markOf (f := p.2) G hmk hmn hp6 er2 er3 (fun r4 er4 => ?_))
  refine r_iret dX2_markAbove_22 rfl (Nat.le_of_ble_eq_true rfl) (Nat.le_of_ble_eq_true rfl) ?_
  exact hQ _ er4
set_option maxHeartbeats 4000000 in
set_option maxRecDepth 100000 in
theorem s_X2_markBeneath {g : zGT} {w : zW} {a m k : Nat} {L : zLy} {C : List (Nat × Bool)} {p : Nat × Bool} {x : Int32} {Q : Option Value → zW → Prop} {QX : String → zW → Prop} (G : zGok g) (hs : shLay w a) (hc : ctLay (zI w) a L []) (hB : bdLay L) (hk : L[k]? = some (p :: C)) (hx : x = nI k) (hmk : zK w m = 21) (hmn : zN w m = 12) (hQ : ∀ r, r = zI w m (2 * p.1 + if p.2 then 1 else 0) → Q (some (.int r)) w) : zC g 2 yX2_markBeneath cX2_markBeneath 4 (some .int) [.ref a, .int x, .ref m] w (0, 0) Q QX := by
  refine zC_of G (by decide +kernel) (Nat.le_of_ble_eq_true rfl) ?_
  have h6 : L.flatten.length ≤ 6 := by have := hc.2.2.2.2.1; simpa using this
  have hL6 : L.length ≤ 6 := hc.2.2.2.2.2
  have n3 : (zI w a 3).toInt = (L.flatten.length : Nat) := by rw [hc.1, List.append_nil]; exact zi_n (by omega)
  have n4 : (zI w a 4).toInt = (L.length : Nat) := by rw [hc.2.1]; exact zi_n (by omega)
  have i1 : (1 : Int32).toInt = 1 := rfl
  have i0 : (0 : Int32).toInt = 0 := rfl
  have hkl := (List.getElem?_eq_some_iff.mp hk).1
  have nk : x.toInt = k := by rw [hx]; exact zi_n (by omega)
  obtain ⟨ee, eg⟩ := lyLow hk
  have hp6 : p.1 < 6 := hB p (by have := List.mem_of_getElem? eg; simpa using this)
  have hil := (List.getElem?_eq_some_iff.mp eg).1
  rw [List.append_nil] at hil
  have hi : nI (zst L x.toInt) = nI (lyP L k) := by rw [nk, ee]
  refine r_aloadR0 dX2_markBeneath_0 ?_
  refine r_iload1 dX2_markBeneath_1 ?_
  refine q_callV1 zm_RX2_52 dX2_markBeneath_2 (shLay_k hs) (by decide) rfl (Nat.le_of_ble_eq_true rfl) (Nat.le_of_ble_eq_true rfl) (Nat.le_of_ble_eq_true rfl) (Nat.le_of_ble_eq_true rfl) (Nat.le_of_ble_eq_true rfl) (s_X2_startOf G hs hc (fun r1 er1 => ?_))
  subst er1
  refine r_istore3 dX2_markBeneath_5 rfl ?_
  refine r_aloadR0 dX2_markBeneath_6 ?_
  refine r_iload3 dX2_markBeneath_7 ?_
  refine q_callV1 zm_RX2_59 dX2_markBeneath_8 (shLay_k hs) (by decide) rfl (Nat.le_of_ble_eq_true rfl) (Nat.le_of_ble_eq_true rfl) (Nat.le_of_ble_eq_true rfl) (Nat.le_of_ble_eq_true rfl) (Nat.le_of_ble_eq_true rfl) (s_X2_cellAt G hs hc eg hi (fun r2 er2 => ?_))
  refine r_aloadR0 dX2_markBeneath_11 ?_
  refine r_iload3 dX2_markBeneath_12 ?_
  refine q_callV1 zm_RX2_62 dX2_markBeneath_13 (shLay_k hs) (by decide) rfl (Nat.le_of_ble_eq_true rfl) (Nat.le_of_ble_eq_true rfl) (Nat.le_of_ble_eq_true rfl) (Nat.le_of_ble_eq_true rfl) (Nat.le_of_ble_eq_true rfl) (s_X2_isUp G hs hc eg hi (fun r3 er3 => ?_))
  refine t_ifne (t := 23) dX2_markBeneath_16 (by decide) (fun h16 => ?_) (fun h16 => ?_)
  · refine r_iconst (v := 0) dX2_markBeneath_23 (by decide) ?_
    refine r_aloadR2 dX2_markBeneath_24 ?_
    refine q_callS3 zm_RX2_72 dX2_markBeneath_25 (Nat.le_of_ble_eq_true rfl) (Nat.le_of_ble_eq_true rfl) (Nat.le_of_ble_eq_true rfl) (Nat.le_of_ble_eq_true rfl) (Nat.le_of_ble_eq_true rfl) (s_X2_markOf (f := !p.2) G hmk hmn hp6 er2 (by cases hp2 : p.2 <;> rw [hp2] at er3 <;> subst er3 <;> first | rfl | exact absurd h16 (by decide)) (fun r4 er4 => ?_))
    refine r_iret dX2_markBeneath_28 rfl (Nat.le_of_ble_eq_true rfl) (Nat.le_of_ble_eq_true rfl) ?_
    exact hQ _ (by rw [er4]; cases p.2 <;> rfl)
  · refine r_iconst (v := 1) dX2_markBeneath_19 (by decide) ?_
    refine r_goto (t := 24) dX2_markBeneath_20 (by decide) ?_
    refine r_aloadR2 dX2_markBeneath_24 ?_
    refine q_callS3 zm_RX2_72 dX2_markBeneath_25 (Nat.le_of_ble_eq_true rfl) (Nat.le_of_ble_eq_true rfl) (Nat.le_of_ble_eq_true rfl) (Nat.le_of_ble_eq_true rfl) (Nat.le_of_ble_eq_true rfl) (s_X2_markOf (f := !p.2) G hmk hmn hp6 er2 (by cases hp2 : p.2 <;> rw [hp2] at er3 <;> subst er3 <;> first | rfl | exact absurd h16 (by decide)) (fun r4 er4 => ?_))
    refine r_iret dX2_markBeneath_28 rfl (Nat.le_of_ble_eq_true rfl) (Nat.le_of_ble_eq_true rfl) ?_
    exact hQ _ (by rw [er4]; cases p.2 <;> rfl)
set_option maxHeartbeats 4000000 in
set_option maxRecDepth 100000 in
theorem s_X2_creaseAt {g : zGT} {w : zW} {a k n : Nat} {L : zLy} {x : Int32} {Q : Option Value → zW → Prop} {QX : String → zW → Prop} (G : zGok g) (hs : shLay w a) (hc : ctLay (zI w) a L []) (hB : bdLay L) (hn : hasLay n L) (hk : k + 1 < n) (hk6 : k < 6) (hx : x = nI k) (hQ : ∀ r, r = nI (lyCrease L k) → Q (some (.int r)) w) : zC g 4 yX2_creaseAt cX2_creaseAt 2 (some .int) [.ref a, .int x] w (0, 0) Q QX := by
  refine zC_of G (by decide +kernel) (Nat.le_of_ble_eq_true rfl) ?_
  have h6 : L.flatten.length ≤ 6 := by have := hc.2.2.2.2.1; simpa using this
  have hL6 : L.length ≤ 6 := hc.2.2.2.2.2
  have n3 : (zI w a 3).toInt = (L.flatten.length : Nat) := by rw [hc.1, List.append_nil]; exact zi_n (by omega)
  have n4 : (zI w a 4).toInt = (L.length : Nat) := by rw [hc.2.1]; exact zi_n (by omega)
  have i1 : (1 : Int32).toInt = 1 := rfl
  have i0 : (0 : Int32).toInt = 0 := rfl
  subst hx
  have nk : (nI k).toInt = k := zi_n (by omega)
  have nk1 : (nI k + 1).toInt = (k : Nat) + 1 := by rw [zi_add (by omega), nk]; rfl
  obtain ⟨i, p, c1, c2, c3⟩ := lyAt_in hn hk
  have hil := (List.getElem?_eq_some_iff.mp c2).1
  rw [List.append_nil] at hil
  have b1 := lyCo_bnd (L := L) (t := lyPlace L (k : Nat)) (m := L.length) (k := 0)
  have hcr : lyCrease L k = if lyColOf L (k : Nat) = lyColOf L ((k : Nat) + 1) then (if p.2 then 2 else 1) else 0 := by unfold lyCrease; rw [c3]
  refine r_aloadR0 dX2_creaseAt_0 ?_
  refine r_iload1 dX2_creaseAt_1 ?_
  refine q_callV1 zm_RX2_76 dX2_creaseAt_2 (shLay_k hs) (by decide) rfl (Nat.le_of_ble_eq_true rfl) (Nat.le_of_ble_eq_true rfl) (Nat.le_of_ble_eq_true rfl) (Nat.le_of_ble_eq_true rfl) (Nat.le_of_ble_eq_true rfl) (s_X2_columnOf G hs hc hB (fun r1 er1 => ?_))
  refine r_aloadR0 dX2_creaseAt_5 ?_
  refine r_iload1 dX2_creaseAt_6 ?_
  refine r_iconst (v := 1) dX2_creaseAt_7 (by decide) ?_
  refine r_iadd dX2_creaseAt_8 ?_
  refine q_callV1 zm_RX2_76 dX2_creaseAt_9 (shLay_k hs) (by decide) rfl (Nat.le_of_ble_eq_true rfl) (Nat.le_of_ble_eq_true rfl) (Nat.le_of_ble_eq_true rfl) (Nat.le_of_ble_eq_true rfl) (Nat.le_of_ble_eq_true rfl) (s_X2_columnOf G hs hc hB (fun r2 er2 => ?_))
  rw [nk] at er1
  rw [nk1] at er2
  refine t_iceq (t := 17) dX2_creaseAt_12 (by decide) (fun h12 => ?_) (fun h12 => ?_)
  · refine r_aloadR0 dX2_creaseAt_17 ?_
    refine r_aloadR0 dX2_creaseAt_18 ?_
    refine r_iload1 dX2_creaseAt_19 ?_
    refine q_callV1 zm_RX2_69 dX2_creaseAt_20 (shLay_k hs) (by decide) rfl (Nat.le_of_ble_eq_true rfl) (Nat.le_of_ble_eq_true rfl) (Nat.le_of_ble_eq_true rfl) (Nat.le_of_ble_eq_true rfl) (Nat.le_of_ble_eq_true rfl) (s_X2_placeOf G hs hc hB (fun r3 er3 => ?_))
    refine r_aloadR0 dX2_creaseAt_23 ?_
    refine r_iload1 dX2_creaseAt_24 ?_
    refine r_iconst (v := 1) dX2_creaseAt_25 (by decide) ?_
    refine r_iadd dX2_creaseAt_26 ?_
    refine q_callV1 zm_RX2_69 dX2_creaseAt_27 (shLay_k hs) (by decide) rfl (Nat.le_of_ble_eq_true rfl) (Nat.le_of_ble_eq_true rfl) (Nat.le_of_ble_eq_true rfl) (Nat.le_of_ble_eq_true rfl) (Nat.le_of_ble_eq_true rfl) (s_X2_placeOf G hs hc hB (fun r4 er4 => ?_))
    rw [nk] at er3
    rw [nk1] at er4
    refine r_mmin zm_RX2_79 dX2_creaseAt_30 (Nat.le_of_ble_eq_true rfl) (Nat.le_of_ble_eq_true rfl) (Nat.le_of_ble_eq_true rfl) (Nat.le_of_ble_eq_true rfl) (Nat.le_of_ble_eq_true rfl) (fun r5 er5 => ?_)
    have h5 : r5 = nI i := zi_of (by rw [er5, er3, er4, c1]) (by omega)
    refine q_callV1 zm_RX2_62 dX2_creaseAt_33 (shLay_k hs) (by decide) rfl (Nat.le_of_ble_eq_true rfl) (Nat.le_of_ble_eq_true rfl) (Nat.le_of_ble_eq_true rfl) (Nat.le_of_ble_eq_true rfl) (Nat.le_of_ble_eq_true rfl) (s_X2_isUp G hs hc c2 h5 (fun r6 er6 => ?_))
    refine t_ifeq (t := 43) dX2_creaseAt_36 (by decide) (fun h36 => ?_) (fun h36 => ?_)
    · refine r_iconst (v := 1) dX2_creaseAt_43 (by decide) ?_
      refine r_iret dX2_creaseAt_44 rfl (Nat.le_of_ble_eq_true rfl) (Nat.le_of_ble_eq_true rfl) ?_
      refine hQ _ ?_
      rw [hcr, if_pos (by rw [← er1, ← er2]; exact h12)]
      cases hp2 : p.2 <;> rw [hp2] at er6 <;> subst er6 <;> first | rfl | exact absurd h36 (by decide) | exact absurd rfl h36
    · refine r_iconst (v := 2) dX2_creaseAt_39 (by decide) ?_
      refine r_goto (t := 44) dX2_creaseAt_40 (by decide) ?_
      refine r_iret dX2_creaseAt_44 rfl (Nat.le_of_ble_eq_true rfl) (Nat.le_of_ble_eq_true rfl) ?_
      refine hQ _ ?_
      rw [hcr, if_pos (by rw [← er1, ← er2]; exact h12)]
      cases hp2 : p.2 <;> rw [hp2] at er6 <;> subst er6 <;> first | rfl | exact absurd h36 (by decide) | exact absurd rfl h36
  · refine r_iconst (v := 0) dX2_creaseAt_15 (by decide) ?_
    refine r_iret dX2_creaseAt_16 rfl (Nat.le_of_ble_eq_true rfl) (Nat.le_of_ble_eq_true rfl) ?_
    exact hQ _ (by rw [hcr, if_neg (by rw [← er1, ← er2]; exact h12)]; rfl)
set_option maxHeartbeats 4000000 in
set_option maxRecDepth 100000 in
theorem s_X2_creaseBits {g : zGT} {w : zW} {a : Nat} {L : zLy} {Q : Option Value → zW → Prop} {QX : String → zW → Prop} (G : zGok g) (hs : shLay w a) (hc : ctLay (zI w) a L []) (hB : bdLay L) (hn : hasLay L.flatten.length L) (hQ : Q (some (.int (lyBits L (L.flatten.length - 1)))) w) : zC g 5 yX2_creaseBits cX2_creaseBits 3 (some .int) [.ref a] w (0, 0) Q QX := by
  refine zC_of G (by decide +kernel) (Nat.le_of_ble_eq_true rfl) ?_
  have h6 : L.flatten.length ≤ 6 := by have := hc.2.2.2.2.1; simpa using this
  have hL6 : L.length ≤ 6 := hc.2.2.2.2.2
  have n3 : (zI w a 3).toInt = (L.flatten.length : Nat) := by rw [hc.1, List.append_nil]; exact zi_n (by omega)
  have n4 : (zI w a 4).toInt = (L.length : Nat) := by rw [hc.2.1]; exact zi_n (by omega)
  have i1 : (1 : Int32).toInt = 1 := rfl
  have i0 : (0 : Int32).toInt = 0 := rfl
  have loop : ∀ (m k : Nat), m + k = L.flatten.length - 1 → zR (zV g 5 yX2_creaseBits 3 (some .int) (0, 0) Q QX) cX2_creaseBits yX2_creaseBits.cls 4 [some (.ref a), some (.int (lyBits L k)), some (.int (nI k))] [] w (0, 0) := by
    intro m
    induction m with
    | zero =>
      intro k hk
      have nk : (nI k).toInt = k := zi_n (by omega)
      have nk1 : (nI k + 1).toInt = (k : Nat) + 1 := by rw [zi_add (by omega), nk]; rfl
      refine r_iload2 dX2_creaseBits_4 ?_
      refine r_iconst (v := 1) dX2_creaseBits_5 (by decide) ?_
      refine r_iadd dX2_creaseBits_6 ?_
      refine r_aloadR0 dX2_creaseBits_7 ?_
      refine r_getI zf_RX2_22 rfl dX2_creaseBits_8 (shLay_k hs) ?_
      refine t_icge (t := 34) dX2_creaseBits_11 (by decide) (fun h11 => ?_) (fun h11 => False.elim (by omega))
      refine r_iload1 dX2_creaseBits_34 ?_
      refine r_iret dX2_creaseBits_35 rfl (Nat.le_of_ble_eq_true rfl) (Nat.le_of_ble_eq_true rfl) ?_
      rw [show k = L.flatten.length - 1 by omega]
      exact hQ
    | succ m ih =>
      intro k hk
      have nk : (nI k).toInt = k := zi_n (by omega)
      have nk1 : (nI k + 1).toInt = (k : Nat) + 1 := by rw [zi_add (by omega), nk]; rfl
      have hcl := lyCrease_le (L := L) (k := k)
      have ncr : (nI (lyCrease L k)).toInt = (lyCrease L k : Nat) := zi_n (by omega)
      refine r_iload2 dX2_creaseBits_4 ?_
      refine r_iconst (v := 1) dX2_creaseBits_5 (by decide) ?_
      refine r_iadd dX2_creaseBits_6 ?_
      refine r_aloadR0 dX2_creaseBits_7 ?_
      refine r_getI zf_RX2_22 rfl dX2_creaseBits_8 (shLay_k hs) ?_
      refine t_icge (t := 34) dX2_creaseBits_11 (by decide) (fun h11 => False.elim (by omega)) (fun h11 => ?_)
      refine r_aloadR0 dX2_creaseBits_14 ?_
      refine r_iload2 dX2_creaseBits_15 ?_
      refine q_callV1 zm_RX2_82 dX2_creaseBits_16 (shLay_k hs) (by decide) rfl (Nat.le_of_ble_eq_true rfl) (Nat.le_of_ble_eq_true rfl) (Nat.le_of_ble_eq_true rfl) (Nat.le_of_ble_eq_true rfl) (Nat.le_of_ble_eq_true rfl) (s_X2_creaseAt (n := L.flatten.length) G hs hc hB hn (by omega) (by omega) rfl (fun r1 er1 => ?_))
      subst er1
      refine t_ifeq (t := 28) dX2_creaseBits_19 (by decide) (fun h19 => ?_) (fun h19 => ?_)
      · refine r_iinc2 dX2_creaseBits_28 rfl rfl ?_
        refine r_goto (t := 4) dX2_creaseBits_31 (by decide) ?_
        rw [show nI k + Int32.ofInt 1 = nI (k + 1) from nI_1 _]
        have e := ih (k + 1) (by omega)
        unfold lyBits at e
        first
          | (rw [if_pos (by omega)] at e; exact e)
          | (rw [if_neg (by omega)] at e; exact e)
      · refine r_iload1 dX2_creaseBits_22 ?_
        refine r_iconst (v := 1) dX2_creaseBits_23 (by decide) ?_
        refine r_iload2 dX2_creaseBits_24 ?_
        refine r_ishl dX2_creaseBits_25 ?_
        refine r_ior dX2_creaseBits_26 ?_
        refine r_istore1 dX2_creaseBits_27 rfl ?_
        refine r_iinc2 dX2_creaseBits_28 rfl rfl ?_
        refine r_goto (t := 4) dX2_creaseBits_31 (by decide) ?_
        rw [show nI k + Int32.ofInt 1 = nI (k + 1) from nI_1 _]
        have e := ih (k + 1) (by omega)
        unfold lyBits at e
        first
          | (rw [if_pos (by omega)] at e; exact e)
          | (rw [if_neg (by omega)] at e; exact e)
  refine r_iconst (v := 0) dX2_creaseBits_0 (by decide) ?_
  refine r_istore1 dX2_creaseBits_1 rfl ?_
  refine r_iconst (v := 0) dX2_creaseBits_2 (by decide) ?_
  refine r_istore2 dX2_creaseBits_3 rfl ?_
  exact loop (L.flatten.length - 1) 0 rfl
set_option maxHeartbeats 4000000 in
set_option maxRecDepth 100000 in
theorem s_X2_creaseNumber {g : zGT} {w : zW} {a : Nat} {L : zLy} {Q : Option Value → zW → Prop} {QX : String → zW → Prop} (G : zGok g) (hs : shLay w a) (hc : ctLay (zI w) a L []) (hB : bdLay L) (hn : hasLay L.flatten.length L) (hQ : Q (some (.int (lyCrNo L (L.flatten.length - 1)))) w) : zC g 5 yX2_creaseNumber cX2_creaseNumber 3 (some .int) [.ref a] w (0, 0) Q QX := by
  refine zC_of G (by decide +kernel) (Nat.le_of_ble_eq_true rfl) ?_
  have h6 : L.flatten.length ≤ 6 := by have := hc.2.2.2.2.1; simpa using this
  have hL6 : L.length ≤ 6 := hc.2.2.2.2.2
  have n3 : (zI w a 3).toInt = (L.flatten.length : Nat) := by rw [hc.1, List.append_nil]; exact zi_n (by omega)
  have n4 : (zI w a 4).toInt = (L.length : Nat) := by rw [hc.2.1]; exact zi_n (by omega)
  have i1 : (1 : Int32).toInt = 1 := rfl
  have i0 : (0 : Int32).toInt = 0 := rfl
  have loop : ∀ (m k : Nat), m + k = L.flatten.length - 1 → zR (zV g 5 yX2_creaseNumber 3 (some .int) (0, 0) Q QX) cX2_creaseNumber yX2_creaseNumber.cls 4 [some (.ref a), some (.int (lyCrNo L k)), some (.int (nI k))] [] w (0, 0) := by
    intro m
    induction m with
    | zero =>
      intro k hk
      have nk : (nI k).toInt = k := zi_n (by omega)
      have nk1 : (nI k + 1).toInt = (k : Nat) + 1 := by rw [zi_add (by omega), nk]; rfl
      refine r_iload2 dX2_creaseNumber_4 ?_
      refine r_iconst (v := 1) dX2_creaseNumber_5 (by decide) ?_
      refine r_iadd dX2_creaseNumber_6 ?_
      refine r_aloadR0 dX2_creaseNumber_7 ?_
      refine r_getI zf_RX2_22 rfl dX2_creaseNumber_8 (shLay_k hs) ?_
      refine t_icge (t := 30) dX2_creaseNumber_11 (by decide) (fun h11 => ?_) (fun h11 => False.elim (by omega))
      refine r_iload1 dX2_creaseNumber_30 ?_
      refine r_iret dX2_creaseNumber_31 rfl (Nat.le_of_ble_eq_true rfl) (Nat.le_of_ble_eq_true rfl) ?_
      rw [show k = L.flatten.length - 1 by omega]
      exact hQ
    | succ m ih =>
      intro k hk
      have nk : (nI k).toInt = k := zi_n (by omega)
      have nk1 : (nI k + 1).toInt = (k : Nat) + 1 := by rw [zi_add (by omega), nk]; rfl
      have hcl := lyCrease_le (L := L) (k := k)
      have ncr : (nI (lyCrease L k)).toInt = (lyCrease L k : Nat) := zi_n (by omega)
      refine r_iload2 dX2_creaseNumber_4 ?_
      refine r_iconst (v := 1) dX2_creaseNumber_5 (by decide) ?_
      refine r_iadd dX2_creaseNumber_6 ?_
      refine r_aloadR0 dX2_creaseNumber_7 ?_
      refine r_getI zf_RX2_22 rfl dX2_creaseNumber_8 (shLay_k hs) ?_
      refine t_icge (t := 30) dX2_creaseNumber_11 (by decide) (fun h11 => False.elim (by omega)) (fun h11 => ?_)
      refine r_iconst (v := 3) dX2_creaseNumber_14 (by decide) ?_
      refine r_iload1 dX2_creaseNumber_15 ?_
      refine r_imul dX2_creaseNumber_16 ?_
      refine r_aloadR0 dX2_creaseNumber_17 ?_
      refine r_iload2 dX2_creaseNumber_18 ?_
      refine q_callV1 zm_RX2_82 dX2_creaseNumber_19 (shLay_k hs) (by decide) rfl (Nat.le_of_ble_eq_true rfl) (Nat.le_of_ble_eq_true rfl) (Nat.le_of_ble_eq_true rfl) (Nat.le_of_ble_eq_true rfl) (Nat.le_of_ble_eq_true rfl) (s_X2_creaseAt (n := L.flatten.length) G hs hc hB hn (by omega) (by omega) rfl (fun r1 er1 => ?_))
      subst er1
      refine r_iadd dX2_creaseNumber_22 ?_
      refine r_istore1 dX2_creaseNumber_23 rfl ?_
      refine r_iinc2 dX2_creaseNumber_24 rfl rfl ?_
      refine r_goto (t := 4) dX2_creaseNumber_27 (by decide) ?_
      rw [show nI k + Int32.ofInt 1 = nI (k + 1) from nI_1 _]
      exact ih (k + 1) (by omega)
  refine r_iconst (v := 0) dX2_creaseNumber_0 (by decide) ?_
  refine r_istore1 dX2_creaseNumber_1 rfl ?_
  refine r_iconst (v := 0) dX2_creaseNumber_2 (by decide) ?_
  refine r_istore2 dX2_creaseNumber_3 rfl ?_
  exact loop (L.flatten.length - 1) 0 rfl
set_option maxHeartbeats 4000000 in
set_option maxRecDepth 100000 in
theorem s_X2_orderNumber {g : zGT} {w : zW} {a : Nat} {L : zLy} {Q : Option Value → zW → Prop} {QX : String → zW → Prop} (G : zGok g) (hs : shLay w a) (hc : ctLay (zI w) a L []) (hB : bdLay L) (hQ : Q (some (.int (lyOrd L L.flatten.length))) w) : zC g 2 yX2_orderNumber cX2_orderNumber 5 (some .int) [.ref a] w (0, 0) Q QX := by
  refine zC_of G (by decide +kernel) (Nat.le_of_ble_eq_true rfl) ?_
  have h6 : L.flatten.length ≤ 6 := by have := hc.2.2.2.2.1; simpa using this
  have hL6 : L.length ≤ 6 := hc.2.2.2.2.2
  have n3 : (zI w a 3).toInt = (L.flatten.length : Nat) := by rw [hc.1, List.append_nil]; exact zi_n (by omega)
  have n4 : (zI w a 4).toInt = (L.length : Nat) := by rw [hc.2.1]; exact zi_n (by omega)
  have i1 : (1 : Int32).toInt = 1 := rfl
  have i0 : (0 : Int32).toInt = 0 := rfl
  have inner : ∀ (i : Nat) (hi : i < L.flatten.length) (x : Int32) (hnext : ∀ v4, zR (zV g 2 yX2_orderNumber 5 (some .int) (0, 0) Q QX) cX2_orderNumber yX2_orderNumber.cls 51 [some (.ref a), some (.int x), some (.int (nI i)), some (.int (nI (lySm L i (L.flatten.length - (i + 1))))), v4] [] w (0, 0)) (m k : Nat), m + k = L.flatten.length - (i + 1) → zR (zV g 2 yX2_orderNumber 5 (some .int) (0, 0) Q QX) cX2_orderNumber yX2_orderNumber.cls 19 [some (.ref a), some (.int x), some (.int (nI i)), some (.int (nI (lySm L i k))), some (.int (nI (i + 1 + k)))] [] w (0, 0) := by
    intro i hi x hnext m
    induction m with
    | zero =>
      intro k hk
      have nk : (nI (i + 1 + k)).toInt = (i + 1 + k : Nat) := zi_n (by omega)
      refine r_iload4 dX2_orderNumber_19 ?_
      refine r_aloadR0 dX2_orderNumber_21 ?_
      refine r_getI zf_RX2_22 rfl dX2_orderNumber_22 (shLay_k hs) ?_
      refine t_icge (t := 51) dX2_orderNumber_25 (by decide) (fun h25 => ?_) (fun h25 => False.elim (by omega))
      rw [show k = L.flatten.length - (i + 1) by omega]
      exact hnext _
    | succ m ih =>
      intro k hk
      have nk : (nI (i + 1 + k)).toInt = (i + 1 + k : Nat) := zi_n (by omega)
      obtain ⟨p, hp⟩ : ∃ p, (L.flatten ++ [])[i + 1 + k]? = some p := ⟨_, List.getElem?_eq_getElem (by rw [List.append_nil]; omega)⟩
      obtain ⟨q, hq⟩ : ∃ q, (L.flatten ++ [])[i]? = some q := ⟨_, List.getElem?_eq_getElem (by rw [List.append_nil]; omega)⟩
      have ep := lyCell_of hp
      have eq := lyCell_of hq
      have np : (nI p.1).toInt = (p.1 : Nat) := zi_n (by have := hB p (by have := List.mem_of_getElem? hp; simpa using this); omega)
      have nq : (nI q.1).toInt = (q.1 : Nat) := zi_n (by have := hB q (by have := List.mem_of_getElem? hq; simpa using this); omega)
      have hsm : lySm L i (k + 1) = if lyCell L (i + 1 + k) < lyCell L i then lySm L i k + 1 else lySm L i k := rfl
      refine r_iload4 dX2_orderNumber_19 ?_
      refine r_aloadR0 dX2_orderNumber_21 ?_
      refine r_getI zf_RX2_22 rfl dX2_orderNumber_22 (shLay_k hs) ?_
      refine t_icge (t := 51) dX2_orderNumber_25 (by decide) (fun h25 => False.elim (by omega)) (fun h25 => ?_)
      refine r_aloadR0 dX2_orderNumber_28 ?_
      refine r_iload4 dX2_orderNumber_29 ?_
      refine q_callV1 zm_RX2_59 dX2_orderNumber_31 (shLay_k hs) (by decide) rfl (Nat.le_of_ble_eq_true rfl) (Nat.le_of_ble_eq_true rfl) (Nat.le_of_ble_eq_true rfl) (Nat.le_of_ble_eq_true rfl) (Nat.le_of_ble_eq_true rfl) (s_X2_cellAt G hs hc hp rfl (fun r1 er1 => ?_))
      subst er1
      refine r_aloadR0 dX2_orderNumber_34 ?_
      refine r_iload2 dX2_orderNumber_35 ?_
      refine q_callV1 zm_RX2_59 dX2_orderNumber_36 (shLay_k hs) (by decide) rfl (Nat.le_of_ble_eq_true rfl) (Nat.le_of_ble_eq_true rfl) (Nat.le_of_ble_eq_true rfl) (Nat.le_of_ble_eq_true rfl) (Nat.le_of_ble_eq_true rfl) (s_X2_cellAt G hs hc hq rfl (fun r2 er2 => ?_))
      subst er2
      refine t_icge (t := 45) dX2_orderNumber_39 (by decide) (fun h39 => ?_) (fun h39 => ?_)
      · refine r_iinc4 dX2_orderNumber_45 rfl rfl ?_
        refine r_goto (t := 19) dX2_orderNumber_48 (by decide) ?_
        have e := ih (k + 1) (by omega)
        rw [show i + 1 + (k + 1) = i + 1 + k + 1 by omega, ← nI_1] at e
        first
          | (rw [hsm, if_pos (by omega), ← nI_1] at e; exact e)
          | (rw [hsm, if_neg (by omega)] at e; exact e)
      · refine r_iinc3 dX2_orderNumber_42 rfl rfl ?_
        refine r_iinc4 dX2_orderNumber_45 rfl rfl ?_
        refine r_goto (t := 19) dX2_orderNumber_48 (by decide) ?_
        have e := ih (k + 1) (by omega)
        rw [show i + 1 + (k + 1) = i + 1 + k + 1 by omega, ← nI_1] at e
        first
          | (rw [hsm, if_pos (by omega), ← nI_1] at e; exact e)
          | (rw [hsm, if_neg (by omega)] at e; exact e)
  have outer : ∀ (m k : Nat) (v3 v4 : Option Value), m + k = L.flatten.length → zR (zV g 2 yX2_orderNumber 5 (some .int) (0, 0) Q QX) cX2_orderNumber yX2_orderNumber.cls 4 [some (.ref a), some (.int (lyOrd L k)), some (.int (nI k)), v3, v4] [] w (0, 0) := by
    intro m
    induction m with
    | zero =>
      intro k v3 v4 hk
      have nk : (nI k).toInt = k := zi_n (by omega)
      refine r_iload2 dX2_orderNumber_4 ?_
      refine r_aloadR0 dX2_orderNumber_5 ?_
      refine r_getI zf_RX2_22 rfl dX2_orderNumber_6 (shLay_k hs) ?_
      refine t_icge (t := 68) dX2_orderNumber_9 (by decide) (fun h9 => ?_) (fun h9 => False.elim (by omega))
      refine r_iload1 dX2_orderNumber_68 ?_
      refine r_iret dX2_orderNumber_69 rfl (Nat.le_of_ble_eq_true rfl) (Nat.le_of_ble_eq_true rfl) ?_
      rw [show k = L.flatten.length by omega]
      exact hQ
    | succ m ih =>
      intro k v3 v4 hk
      have nk : (nI k).toInt = k := zi_n (by omega)
      refine r_iload2 dX2_orderNumber_4 ?_
      refine r_aloadR0 dX2_orderNumber_5 ?_
      refine r_getI zf_RX2_22 rfl dX2_orderNumber_6 (shLay_k hs) ?_
      refine t_icge (t := 68) dX2_orderNumber_9 (by decide) (fun h9 => False.elim (by omega)) (fun h9 => ?_)
      refine r_iconst (v := 0) dX2_orderNumber_12 (by decide) ?_
      refine r_istore3 dX2_orderNumber_13 rfl ?_
      refine r_iload2 dX2_orderNumber_14 ?_
      refine r_iconst (v := 1) dX2_orderNumber_15 (by decide) ?_
      refine r_iadd dX2_orderNumber_16 ?_
      refine r_istore4 dX2_orderNumber_17 rfl ?_
      have e := inner k (by omega) (lyOrd L k) ?_ (L.flatten.length - (k + 1)) 0 (by omega)
      · rw [Nat.add_zero, ← nI_1] at e
        exact e
      intro v4
      refine r_iload1 dX2_orderNumber_51 ?_
      refine r_aloadR0 dX2_orderNumber_52 ?_
      refine r_getI zf_RX2_22 rfl dX2_orderNumber_53 (shLay_k hs) ?_
      refine r_iload2 dX2_orderNumber_56 ?_
      refine r_isub dX2_orderNumber_57 ?_
      refine r_imul dX2_orderNumber_58 ?_
      refine r_iload3 dX2_orderNumber_59 ?_
      refine r_iadd dX2_orderNumber_60 ?_
      refine r_istore1 dX2_orderNumber_61 rfl ?_
      refine r_iinc2 dX2_orderNumber_62 rfl rfl ?_
      refine r_goto (t := 4) dX2_orderNumber_65 (by decide) ?_
      rw [hc.1, List.append_nil, show nI k + Int32.ofInt 1 = nI (k + 1) from nI_1 _]
      exact ih (k + 1) _ _ (by omega)
  refine r_iconst (v := 0) dX2_orderNumber_0 (by decide) ?_
  refine r_istore1 dX2_orderNumber_1 rfl ?_
  refine r_iconst (v := 0) dX2_orderNumber_2 (by decide) ?_
  refine r_istore2 dX2_orderNumber_3 rfl ?_
  exact outer L.flatten.length 0 none none rfl
set_option maxHeartbeats 4000000 in
set_option maxRecDepth 100000 in
theorem s_X2_key {g : zGT} {w : zW} {a : Nat} {L : zLy} {Q : Option Value → zW → Prop} {QX : String → zW → Prop} (G : zGok g) (hs : shLay w a) (hc : ctLay (zI w) a L []) (hQ : Q (some (.int (lyKey L))) w) : zC g 2 yX2_key cX2_key 5 (some .int) [.ref a] w (0, 0) Q QX := by
  refine zC_of G (by decide +kernel) (Nat.le_of_ble_eq_true rfl) ?_
  have h6 : L.flatten.length ≤ 6 := by have := hc.2.2.2.2.1; simpa using this
  have hL6 : L.length ≤ 6 := hc.2.2.2.2.2
  have n3 : (zI w a 3).toInt = (L.flatten.length : Nat) := by rw [hc.1, List.append_nil]; exact zi_n (by omega)
  have n4 : (zI w a 4).toInt = (L.length : Nat) := by rw [hc.2.1]; exact zi_n (by omega)
  have i1 : (1 : Int32).toInt = 1 := rfl
  have i0 : (0 : Int32).toInt = 0 := rfl
  have loop : ∀ (m k : Nat) (v4 : Option Value), m + k = L.flatten.length → zR (zV g 2 yX2_key 5 (some .int) (0, 0) Q QX) cX2_key yX2_key.cls 6 [some (.ref a), some (.int (lyKeyK L k).1), some (.int (nI (lyKeyK L k).2)), some (.int (nI k)), v4] [] w (0, 0) := by
    intro m
    induction m with
    | zero =>
      intro k v4 hk
      have nk : (nI k).toInt = k := zi_n (by omega)
      refine r_iload3 dX2_key_6 ?_
      refine r_aloadR0 dX2_key_7 ?_
      refine r_getI zf_RX2_22 rfl dX2_key_8 (shLay_k hs) ?_
      refine t_icge (t := 88) dX2_key_11 (by decide) (fun h11 => ?_) (fun h11 => False.elim (by omega))
      refine r_iload1 dX2_key_88 ?_
      refine r_iret dX2_key_89 rfl (Nat.le_of_ble_eq_true rfl) (Nat.le_of_ble_eq_true rfl) ?_
      rw [show k = L.flatten.length by omega]
      exact hQ
    | succ m ih =>
      intro k v4 hk
      have nk : (nI k).toInt = k := zi_n (by omega)
      have hle := lyKeyK_le (L := L) (k := k)
      have hks : lyKeyK L (k + 1) = lyKeyStep L (lyKeyK L k).1 (lyKeyK L k).2 k := rfl
      generalize (lyKeyK L k).1 = x at hks
      generalize (lyKeyK L k).2 = c at hks hle
      have nc : (nI c).toInt = c := zi_n (by omega)
      have nk1 : (nI k + 1).toInt = (k : Nat) + 1 := by rw [zi_add (by omega), nk]; rfl
      have hz : zen L (c : Nat) ≤ 6 := by rw [zcol_len]; have := zcol_bnd (L := L) (c := (c : Nat)); omega
      have nz : (nI (zen L (c : Nat))).toInt = (zen L (c : Nat) : Nat) := zi_n (by omega)
      obtain ⟨p, hp⟩ : ∃ p, (L.flatten ++ [])[k]? = some p := ⟨_, List.getElem?_eq_getElem (by rw [List.append_nil]; omega)⟩
      have ep := lyCell_of hp
      have eu : lyUpAt L (k : Nat) = p.2 := by unfold lyUpAt; rw [List.append_nil] at hp; rw [Int.toNat_natCast, hp]
      unfold lyKeyStep at hks
      rw [ep, eu] at hks
      cases hp2 : p.2 with
      | false =>
        rw [hp2] at hks
        by_cases hl : k + 1 = zen L (c : Nat)
        · rw [if_pos hl] at hks
          refine r_iload3 dX2_key_6 ?_
          refine r_aloadR0 dX2_key_7 ?_
          refine r_getI zf_RX2_22 rfl dX2_key_8 (shLay_k hs) ?_
          refine t_icge (t := 88) dX2_key_11 (by decide) (fun h11 => False.elim (by omega)) (fun h11 => ?_)
          refine r_iload3 dX2_key_14 ?_
          refine r_iconst (v := 1) dX2_key_15 (by decide) ?_
          refine r_iadd dX2_key_16 ?_
          refine r_aloadR0 dX2_key_17 ?_
          refine r_iload2 dX2_key_18 ?_
          refine q_callV1 zm_RX2_56 dX2_key_19 (shLay_k hs) (by decide) rfl (Nat.le_of_ble_eq_true rfl) (Nat.le_of_ble_eq_true rfl) (Nat.le_of_ble_eq_true rfl) (Nat.le_of_ble_eq_true rfl) (Nat.le_of_ble_eq_true rfl) (s_X2_endOf G hs hc (fun r1 er1 => ?_))
          subst er1
          rw [nc]
          refine t_icne (t := 29) dX2_key_22 (by decide) (fun h22 => False.elim (by omega)) (fun h22 => ?_)
          refine r_iconst (v := 1) dX2_key_25 (by decide) ?_
          refine r_goto (t := 30) dX2_key_26 (by decide) ?_
          refine r_istore4 dX2_key_30 rfl ?_
          refine r_iload1 dX2_key_32 ?_
          refine r_iconst (v := 5) dX2_key_33 (by decide) ?_
          refine r_ishl dX2_key_34 ?_
          refine r_aloadR0 dX2_key_35 ?_
          refine r_iload3 dX2_key_36 ?_
          refine q_callV1 zm_RX2_59 dX2_key_37 (shLay_k hs) (by decide) rfl (Nat.le_of_ble_eq_true rfl) (Nat.le_of_ble_eq_true rfl) (Nat.le_of_ble_eq_true rfl) (Nat.le_of_ble_eq_true rfl) (Nat.le_of_ble_eq_true rfl) (s_X2_cellAt G hs hc hp rfl (fun r2 er2 => ?_))
          subst er2
          refine r_iconst (v := 2) dX2_key_40 (by decide) ?_
          refine r_ishl dX2_key_41 ?_
          refine r_ior dX2_key_42 ?_
          refine r_aloadR0 dX2_key_43 ?_
          refine r_iload3 dX2_key_44 ?_
          refine q_callV1 zm_RX2_62 dX2_key_45 (shLay_k hs) (by decide) rfl (Nat.le_of_ble_eq_true rfl) (Nat.le_of_ble_eq_true rfl) (Nat.le_of_ble_eq_true rfl) (Nat.le_of_ble_eq_true rfl) (Nat.le_of_ble_eq_true rfl) (s_X2_isUp G hs hc hp rfl (fun r3 er3 => ?_))
          refine t_ifeq (t := 55) dX2_key_48 (by decide) (fun h48 => ?_) (fun h48 => False.elim (by rw [er3, hp2] at h48; simp at h48))
          refine r_iconst (v := 0) dX2_key_55 (by decide) ?_
          refine r_ior dX2_key_56 ?_
          refine r_iload4 dX2_key_57 ?_
          refine t_ifeq (t := 66) dX2_key_59 (by decide) (fun h59 => False.elim (by simp at h59)) (fun h59 => ?_)
          refine r_iconst (v := 1) dX2_key_62 (by decide) ?_
          refine r_goto (t := 67) dX2_key_63 (by decide) ?_
          refine r_ior dX2_key_67 ?_
          refine r_istore1 dX2_key_68 rfl ?_
          refine r_iload2 dX2_key_69 ?_
          refine r_iload4 dX2_key_70 ?_
          refine t_ifeq (t := 79) dX2_key_72 (by decide) (fun h72 => False.elim (by simp at h72)) (fun h72 => ?_)
          refine r_iconst (v := 1) dX2_key_75 (by decide) ?_
          refine r_goto (t := 80) dX2_key_76 (by decide) ?_
          refine r_iadd dX2_key_80 ?_
          refine r_istore2 dX2_key_81 rfl ?_
          refine r_iinc3 dX2_key_82 rfl rfl ?_
          refine r_goto (t := 6) dX2_key_85 (by decide) ?_
          have e := ih (k + 1) (some (.int 1)) (by omega)
          rw [hks, ← nI_1, ← nI_1] at e
          exact e
        · rw [if_neg hl] at hks
          refine r_iload3 dX2_key_6 ?_
          refine r_aloadR0 dX2_key_7 ?_
          refine r_getI zf_RX2_22 rfl dX2_key_8 (shLay_k hs) ?_
          refine t_icge (t := 88) dX2_key_11 (by decide) (fun h11 => False.elim (by omega)) (fun h11 => ?_)
          refine r_iload3 dX2_key_14 ?_
          refine r_iconst (v := 1) dX2_key_15 (by decide) ?_
          refine r_iadd dX2_key_16 ?_
          refine r_aloadR0 dX2_key_17 ?_
          refine r_iload2 dX2_key_18 ?_
          refine q_callV1 zm_RX2_56 dX2_key_19 (shLay_k hs) (by decide) rfl (Nat.le_of_ble_eq_true rfl) (Nat.le_of_ble_eq_true rfl) (Nat.le_of_ble_eq_true rfl) (Nat.le_of_ble_eq_true rfl) (Nat.le_of_ble_eq_true rfl) (s_X2_endOf G hs hc (fun r1 er1 => ?_))
          subst er1
          rw [nc]
          refine t_icne (t := 29) dX2_key_22 (by decide) (fun h22 => ?_) (fun h22 => False.elim (by omega))
          refine r_iconst (v := 0) dX2_key_29 (by decide) ?_
          refine r_istore4 dX2_key_30 rfl ?_
          refine r_iload1 dX2_key_32 ?_
          refine r_iconst (v := 5) dX2_key_33 (by decide) ?_
          refine r_ishl dX2_key_34 ?_
          refine r_aloadR0 dX2_key_35 ?_
          refine r_iload3 dX2_key_36 ?_
          refine q_callV1 zm_RX2_59 dX2_key_37 (shLay_k hs) (by decide) rfl (Nat.le_of_ble_eq_true rfl) (Nat.le_of_ble_eq_true rfl) (Nat.le_of_ble_eq_true rfl) (Nat.le_of_ble_eq_true rfl) (Nat.le_of_ble_eq_true rfl) (s_X2_cellAt G hs hc hp rfl (fun r2 er2 => ?_))
          subst er2
          refine r_iconst (v := 2) dX2_key_40 (by decide) ?_
          refine r_ishl dX2_key_41 ?_
          refine r_ior dX2_key_42 ?_
          refine r_aloadR0 dX2_key_43 ?_
          refine r_iload3 dX2_key_44 ?_
          refine q_callV1 zm_RX2_62 dX2_key_45 (shLay_k hs) (by decide) rfl (Nat.le_of_ble_eq_true rfl) (Nat.le_of_ble_eq_true rfl) (Nat.le_of_ble_eq_true rfl) (Nat.le_of_ble_eq_true rfl) (Nat.le_of_ble_eq_true rfl) (s_X2_isUp G hs hc hp rfl (fun r3 er3 => ?_))
          refine t_ifeq (t := 55) dX2_key_48 (by decide) (fun h48 => ?_) (fun h48 => False.elim (by rw [er3, hp2] at h48; simp at h48))
          refine r_iconst (v := 0) dX2_key_55 (by decide) ?_
          refine r_ior dX2_key_56 ?_
          refine r_iload4 dX2_key_57 ?_
          refine t_ifeq (t := 66) dX2_key_59 (by decide) (fun h59 => ?_) (fun h59 => False.elim (by simp at h59))
          refine r_iconst (v := 0) dX2_key_66 (by decide) ?_
          refine r_ior dX2_key_67 ?_
          refine r_istore1 dX2_key_68 rfl ?_
          refine r_iload2 dX2_key_69 ?_
          refine r_iload4 dX2_key_70 ?_
          refine t_ifeq (t := 79) dX2_key_72 (by decide) (fun h72 => ?_) (fun h72 => False.elim (by simp at h72))
          refine r_iconst (v := 0) dX2_key_79 (by decide) ?_
          refine r_iadd dX2_key_80 ?_
          refine r_istore2 dX2_key_81 rfl ?_
          refine r_iinc3 dX2_key_82 rfl rfl ?_
          refine r_goto (t := 6) dX2_key_85 (by decide) ?_
          have e := ih (k + 1) (some (.int 0)) (by omega)
          rw [hks, ← nI_1] at e
          rw [show nI c + 0 = nI c from Int32.add_zero _]
          exact e
      | true =>
        rw [hp2] at hks
        by_cases hl : k + 1 = zen L (c : Nat)
        · rw [if_pos hl] at hks
          refine r_iload3 dX2_key_6 ?_
          refine r_aloadR0 dX2_key_7 ?_
          refine r_getI zf_RX2_22 rfl dX2_key_8 (shLay_k hs) ?_
          refine t_icge (t := 88) dX2_key_11 (by decide) (fun h11 => False.elim (by omega)) (fun h11 => ?_)
          refine r_iload3 dX2_key_14 ?_
          refine r_iconst (v := 1) dX2_key_15 (by decide) ?_
          refine r_iadd dX2_key_16 ?_
          refine r_aloadR0 dX2_key_17 ?_
          refine r_iload2 dX2_key_18 ?_
          refine q_callV1 zm_RX2_56 dX2_key_19 (shLay_k hs) (by decide) rfl (Nat.le_of_ble_eq_true rfl) (Nat.le_of_ble_eq_true rfl) (Nat.le_of_ble_eq_true rfl) (Nat.le_of_ble_eq_true rfl) (Nat.le_of_ble_eq_true rfl) (s_X2_endOf G hs hc (fun r1 er1 => ?_))
          subst er1
          rw [nc]
          refine t_icne (t := 29) dX2_key_22 (by decide) (fun h22 => False.elim (by omega)) (fun h22 => ?_)
          refine r_iconst (v := 1) dX2_key_25 (by decide) ?_
          refine r_goto (t := 30) dX2_key_26 (by decide) ?_
          refine r_istore4 dX2_key_30 rfl ?_
          refine r_iload1 dX2_key_32 ?_
          refine r_iconst (v := 5) dX2_key_33 (by decide) ?_
          refine r_ishl dX2_key_34 ?_
          refine r_aloadR0 dX2_key_35 ?_
          refine r_iload3 dX2_key_36 ?_
          refine q_callV1 zm_RX2_59 dX2_key_37 (shLay_k hs) (by decide) rfl (Nat.le_of_ble_eq_true rfl) (Nat.le_of_ble_eq_true rfl) (Nat.le_of_ble_eq_true rfl) (Nat.le_of_ble_eq_true rfl) (Nat.le_of_ble_eq_true rfl) (s_X2_cellAt G hs hc hp rfl (fun r2 er2 => ?_))
          subst er2
          refine r_iconst (v := 2) dX2_key_40 (by decide) ?_
          refine r_ishl dX2_key_41 ?_
          refine r_ior dX2_key_42 ?_
          refine r_aloadR0 dX2_key_43 ?_
          refine r_iload3 dX2_key_44 ?_
          refine q_callV1 zm_RX2_62 dX2_key_45 (shLay_k hs) (by decide) rfl (Nat.le_of_ble_eq_true rfl) (Nat.le_of_ble_eq_true rfl) (Nat.le_of_ble_eq_true rfl) (Nat.le_of_ble_eq_true rfl) (Nat.le_of_ble_eq_true rfl) (s_X2_isUp G hs hc hp rfl (fun r3 er3 => ?_))
          refine t_ifeq (t := 55) dX2_key_48 (by decide) (fun h48 => False.elim (by rw [er3, hp2] at h48; simp at h48)) (fun h48 => ?_)
          refine r_iconst (v := 2) dX2_key_51 (by decide) ?_
          refine r_goto (t := 56) dX2_key_52 (by decide) ?_
          refine r_ior dX2_key_56 ?_
          refine r_iload4 dX2_key_57 ?_
          refine t_ifeq (t := 66) dX2_key_59 (by decide) (fun h59 => False.elim (by simp at h59)) (fun h59 => ?_)
          refine r_iconst (v := 1) dX2_key_62 (by decide) ?_
          refine r_goto (t := 67) dX2_key_63 (by decide) ?_
          refine r_ior dX2_key_67 ?_
          refine r_istore1 dX2_key_68 rfl ?_
          refine r_iload2 dX2_key_69 ?_
          refine r_iload4 dX2_key_70 ?_
          refine t_ifeq (t := 79) dX2_key_72 (by decide) (fun h72 => False.elim (by simp at h72)) (fun h72 => ?_)
          refine r_iconst (v := 1) dX2_key_75 (by decide) ?_
          refine r_goto (t := 80) dX2_key_76 (by decide) ?_
          refine r_iadd dX2_key_80 ?_
          refine r_istore2 dX2_key_81 rfl ?_
          refine r_iinc3 dX2_key_82 rfl rfl ?_
          refine r_goto (t := 6) dX2_key_85 (by decide) ?_
          have e := ih (k + 1) (some (.int 1)) (by omega)
          rw [hks, ← nI_1, ← nI_1] at e
          exact e
        · rw [if_neg hl] at hks
          refine r_iload3 dX2_key_6 ?_
          refine r_aloadR0 dX2_key_7 ?_
          refine r_getI zf_RX2_22 rfl dX2_key_8 (shLay_k hs) ?_
          refine t_icge (t := 88) dX2_key_11 (by decide) (fun h11 => False.elim (by omega)) (fun h11 => ?_)
          refine r_iload3 dX2_key_14 ?_
          refine r_iconst (v := 1) dX2_key_15 (by decide) ?_
          refine r_iadd dX2_key_16 ?_
          refine r_aloadR0 dX2_key_17 ?_
          refine r_iload2 dX2_key_18 ?_
          refine q_callV1 zm_RX2_56 dX2_key_19 (shLay_k hs) (by decide) rfl (Nat.le_of_ble_eq_true rfl) (Nat.le_of_ble_eq_true rfl) (Nat.le_of_ble_eq_true rfl) (Nat.le_of_ble_eq_true rfl) (Nat.le_of_ble_eq_true rfl) (s_X2_endOf G hs hc (fun r1 er1 => ?_))
          subst er1
          rw [nc]
          refine t_icne (t := 29) dX2_key_22 (by decide) (fun h22 => ?_) (fun h22 => False.elim (by omega))
          refine r_iconst (v := 0) dX2_key_29 (by decide) ?_
          refine r_istore4 dX2_key_30 rfl ?_
          refine r_iload1 dX2_key_32 ?_
          refine r_iconst (v := 5) dX2_key_33 (by decide) ?_
          refine r_ishl dX2_key_34 ?_
          refine r_aloadR0 dX2_key_35 ?_
          refine r_iload3 dX2_key_36 ?_
          refine q_callV1 zm_RX2_59 dX2_key_37 (shLay_k hs) (by decide) rfl (Nat.le_of_ble_eq_true rfl) (Nat.le_of_ble_eq_true rfl) (Nat.le_of_ble_eq_true rfl) (Nat.le_of_ble_eq_true rfl) (Nat.le_of_ble_eq_true rfl) (s_X2_cellAt G hs hc hp rfl (fun r2 er2 => ?_))
          subst er2
          refine r_iconst (v := 2) dX2_key_40 (by decide) ?_
          refine r_ishl dX2_key_41 ?_
          refine r_ior dX2_key_42 ?_
          refine r_aloadR0 dX2_key_43 ?_
          refine r_iload3 dX2_key_44 ?_
          refine q_callV1 zm_RX2_62 dX2_key_45 (shLay_k hs) (by decide) rfl (Nat.le_of_ble_eq_true rfl) (Nat.le_of_ble_eq_true rfl) (Nat.le_of_ble_eq_true rfl) (Nat.le_of_ble_eq_true rfl) (Nat.le_of_ble_eq_true rfl) (s_X2_isUp G hs hc hp rfl (fun r3 er3 => ?_))
          refine t_ifeq (t := 55) dX2_key_48 (by decide) (fun h48 => False.elim (by rw [er3, hp2] at h48; simp at h48)) (fun h48 => ?_)
          refine r_iconst (v := 2) dX2_key_51 (by decide) ?_
          refine r_goto (t := 56) dX2_key_52 (by decide) ?_
          refine r_ior dX2_key_56 ?_
          refine r_iload4 dX2_key_57 ?_
          refine t_ifeq (t := 66) dX2_key_59 (by decide) (fun h59 => ?_) (fun h59 => False.elim (by simp at h59))
          refine r_iconst (v := 0) dX2_key_66 (by decide) ?_
          refine r_ior dX2_key_67 ?_
          refine r_istore1 dX2_key_68 rfl ?_
          refine r_iload2 dX2_key_69 ?_
          refine r_iload4 dX2_key_70 ?_
          refine t_ifeq (t := 79) dX2_key_72 (by decide) (fun h72 => ?_) (fun h72 => False.elim (by simp at h72))
          refine r_iconst (v := 0) dX2_key_79 (by decide) ?_
          refine r_iadd dX2_key_80 ?_
          refine r_istore2 dX2_key_81 rfl ?_
          refine r_iinc3 dX2_key_82 rfl rfl ?_
          refine r_goto (t := 6) dX2_key_85 (by decide) ?_
          have e := ih (k + 1) (some (.int 0)) (by omega)
          rw [hks, ← nI_1] at e
          rw [show nI c + 0 = nI c from Int32.add_zero _]
          exact e
  refine r_iconst (v := 0) dX2_key_0 (by decide) ?_
  refine r_istore1 dX2_key_1 rfl ?_
  refine r_iconst (v := 0) dX2_key_2 (by decide) ?_
  refine r_istore2 dX2_key_3 rfl ?_
  refine r_iconst (v := 0) dX2_key_4 (by decide) ?_
  refine r_istore3 dX2_key_5 rfl ?_
  exact loop L.flatten.length 0 none rfl
set_option maxHeartbeats 4000000 in
set_option maxRecDepth 100000 in
theorem s_X2_takeKey {g : zGT} {w : zW} {a n : Nat} {x y : Int32} {Q : Option Value → zW → Prop} {QX : String → zW → Prop} (G : zGok g) (hs : shLay w a) (hn : n ≤ 6) (hy : y = nI n) (hQ : ∀ f2, ofLay (zI w) f2 a → ctLay f2 a (unK x n ([], [])).1 (unK x n ([], [])).2 → Q none (zsI w f2)) : zC g 2 yX2_takeKey cX2_takeKey 5 none [.ref a, .int x, .int y] w (0, 0) Q QX := by
  refine zC_of G (by decide +kernel) (Nat.le_of_ble_eq_true rfl) ?_
  subst hy
  have i6 : (6 : Int32).toInt = 6 := rfl
  have i1 : (1 : Int32).toInt = 1 := rfl
  have i0 : (0 : Int32).toInt = 0 := rfl
  have nn : (nI n).toInt = n := zi_n (by omega)
  have loop : ∀ (i : Nat) (z : Int32) (L : zLy) (C : List (Nat × Bool)) (f : Nat → Nat → Int32) (v4 : Option Value), z.toInt = (i : Int) - 1 → i ≤ n → (L.flatten ++ C).length = n - i → L.length ≤ n - i → unK x i (L, C) = unK x n ([], []) → ofLay (zI w) f a → ctLay f a L C → zR (zV g 2 yX2_takeKey 5 none (0, 0) Q QX) cX2_takeKey yX2_takeKey.cls 13 [some (.ref a), some (.int x), some (.int (nI n)), some (.int z), v4] [] (zsI w f) (0, 0) := by
    intro i
    induction i with
    | zero =>
      intro z L C f v4 hz hi hl hL hu ho hc
      refine r_iload3 dX2_takeKey_13 ?_
      refine t_iflt (t := 64) dX2_takeKey_14 (by decide) (fun h14 => ?_) (fun h14 => False.elim (by omega))
      refine r_vret dX2_takeKey_64 rfl (Nat.le_of_ble_eq_true rfl) (Nat.le_of_ble_eq_true rfl) ?_
      refine hQ f ho ?_
      rw [← hu, unK_0]
      exact hc
    | succ i ih =>
      intro z L C f v4 hz hi hl hL hu ho hc
      have hzi : z = nI i := zi_of (by omega) (by omega)
      subst hzi
      have hge : ¬ ((nI i).toInt < 0) := by have : (nI i).toInt = (i : Int) := zi_n (by omega); omega
      have hll : (L.flatten ++ C).length < 6 := by omega
      have hLL : L.length < 6 := by omega
      have hin : i ≤ n := by omega
      have hl2 : (L.flatten ++ C).length + 1 = n - i := by omega
      have hL2 : L.length + 1 ≤ n - i := by omega
      have hL3 : L.length ≤ n - i := by omega
      have hus := unK_succ (x := x) (i := i) (s := (L, C))
      rw [hus] at hu
      unfold unStep at hu
      have hcell := unB_cell (x := x) (i := i)
      have hnz : (nI i + Int32.ofInt (-1)).toInt = (i : Int) - 1 := by have im : (Int32.ofInt (-1)).toInt = -1 := rfl; rw [zi_add (by omega), im]; omega
      cases hb2 : (unB x i &&& 2 == 0) with
      | false =>
        rw [hb2] at hu
        by_cases hb1 : unB x i &&& 1 = 0
        · rw [if_pos hb1] at hu
          refine r_iload3 dX2_takeKey_13 ?_
          refine t_iflt (t := 64) dX2_takeKey_14 (by decide) (fun h14 => False.elim (hge h14)) (fun h14 => ?_)
          refine r_iload1 dX2_takeKey_17 ?_
          refine r_iconst (v := 5) dX2_takeKey_18 (by decide) ?_
          refine r_iload3 dX2_takeKey_19 ?_
          refine r_imul dX2_takeKey_20 ?_
          refine r_ishr dX2_takeKey_21 ?_
          refine r_bipush (v := 31) dX2_takeKey_22 (by decide) ?_
          refine r_iand dX2_takeKey_24 ?_
          rw [show x >>> (5 * nI i &&& 31) &&& 31 = unB x i from rfl]
          generalize unB x i = bq at hu hcell hb1 hb2 ⊢
          refine r_istore4 dX2_takeKey_25 rfl ?_
          refine r_aloadR0 dX2_takeKey_27 ?_
          refine r_iload4 dX2_takeKey_28 ?_
          refine r_iconst (v := 2) dX2_takeKey_30 (by decide) ?_
          refine r_ishr dX2_takeKey_31 ?_
          refine r_iload4 dX2_takeKey_32 ?_
          refine r_iconst (v := 2) dX2_takeKey_34 (by decide) ?_
          refine r_iand dX2_takeKey_35 ?_
          refine t_ifeq (t := 43) dX2_takeKey_36 (by decide) (fun h36 => False.elim (by first | (rw [show bq &&& 2 = 0 from zi_eq.mpr h36] at hb2; exact absurd hb2 (by decide)) | exact h36 (by have := eq_of_beq hb2; show (bq &&& 2).toInt = 0; rw [this]; rfl))) (fun h36 => ?_)
          refine r_iconst (v := 1) dX2_takeKey_39 (by decide) ?_
          refine r_goto (t := 44) dX2_takeKey_40 (by decide) ?_
          refine q_callV2 zm_RX2_32 dX2_takeKey_44 (shLay_k hs) (by decide) rfl (Nat.le_of_ble_eq_true rfl) (Nat.le_of_ble_eq_true rfl) (Nat.le_of_ble_eq_true rfl) (Nat.le_of_ble_eq_true rfl) (Nat.le_of_ble_eq_true rfl) (s_X2_lay (c := (bq >>> ((2 : Int32) &&& 31)).toNatClampNeg) (u := true) G hs hc hll hcell rfl (fun f2 ho2 hc2 => ?_))
          refine r_iload4 dX2_takeKey_47 ?_
          refine r_iconst (v := 1) dX2_takeKey_49 (by decide) ?_
          refine r_iand dX2_takeKey_50 ?_
          refine t_ifeq (t := 58) dX2_takeKey_51 (by decide) (fun h51 => ?_) (fun h51 => False.elim (by first | exact hb1 (zi_eq.mpr h51) | exact h51 (by show (bq &&& 1).toInt = 0; rw [hb1]; rfl)))
          refine r_iinc3 dX2_takeKey_58 rfl rfl ?_
          refine r_goto (t := 13) dX2_takeKey_61 (by decide) ?_
          exact ih _ _ _ f2 _ hnz hin ((len_a hl2)) (hL3) hu (ofLay_tr ho ho2) hc2
        · rw [if_neg hb1] at hu
          refine r_iload3 dX2_takeKey_13 ?_
          refine t_iflt (t := 64) dX2_takeKey_14 (by decide) (fun h14 => False.elim (hge h14)) (fun h14 => ?_)
          refine r_iload1 dX2_takeKey_17 ?_
          refine r_iconst (v := 5) dX2_takeKey_18 (by decide) ?_
          refine r_iload3 dX2_takeKey_19 ?_
          refine r_imul dX2_takeKey_20 ?_
          refine r_ishr dX2_takeKey_21 ?_
          refine r_bipush (v := 31) dX2_takeKey_22 (by decide) ?_
          refine r_iand dX2_takeKey_24 ?_
          rw [show x >>> (5 * nI i &&& 31) &&& 31 = unB x i from rfl]
          generalize unB x i = bq at hu hcell hb1 hb2 ⊢
          refine r_istore4 dX2_takeKey_25 rfl ?_
          refine r_aloadR0 dX2_takeKey_27 ?_
          refine r_iload4 dX2_takeKey_28 ?_
          refine r_iconst (v := 2) dX2_takeKey_30 (by decide) ?_
          refine r_ishr dX2_takeKey_31 ?_
          refine r_iload4 dX2_takeKey_32 ?_
          refine r_iconst (v := 2) dX2_takeKey_34 (by decide) ?_
          refine r_iand dX2_takeKey_35 ?_
          refine t_ifeq (t := 43) dX2_takeKey_36 (by decide) (fun h36 => False.elim (by first | (rw [show bq &&& 2 = 0 from zi_eq.mpr h36] at hb2; exact absurd hb2 (by decide)) | exact h36 (by have := eq_of_beq hb2; show (bq &&& 2).toInt = 0; rw [this]; rfl))) (fun h36 => ?_)
          refine r_iconst (v := 1) dX2_takeKey_39 (by decide) ?_
          refine r_goto (t := 44) dX2_takeKey_40 (by decide) ?_
          refine q_callV2 zm_RX2_32 dX2_takeKey_44 (shLay_k hs) (by decide) rfl (Nat.le_of_ble_eq_true rfl) (Nat.le_of_ble_eq_true rfl) (Nat.le_of_ble_eq_true rfl) (Nat.le_of_ble_eq_true rfl) (Nat.le_of_ble_eq_true rfl) (s_X2_lay (c := (bq >>> ((2 : Int32) &&& 31)).toNatClampNeg) (u := true) G hs hc hll hcell rfl (fun f2 ho2 hc2 => ?_))
          refine r_iload4 dX2_takeKey_47 ?_
          refine r_iconst (v := 1) dX2_takeKey_49 (by decide) ?_
          refine r_iand dX2_takeKey_50 ?_
          refine t_ifeq (t := 58) dX2_takeKey_51 (by decide) (fun h51 => False.elim (by first | exact hb1 (zi_eq.mpr h51) | exact h51 (by show (bq &&& 1).toInt = 0; rw [hb1]; rfl))) (fun h51 => ?_)
          refine r_aloadR0 dX2_takeKey_54 ?_
          refine q_callV0 zm_RX2_36 dX2_takeKey_55 (shLay_k hs) (by decide) rfl (Nat.le_of_ble_eq_true rfl) (Nat.le_of_ble_eq_true rfl) (Nat.le_of_ble_eq_true rfl) (Nat.le_of_ble_eq_true rfl) (Nat.le_of_ble_eq_true rfl) (s_X2_closeColumn G hs hc2 hLL (fun f3 ho3 hc3 => ?_))
          refine r_iinc3 dX2_takeKey_58 rfl rfl ?_
          refine r_goto (t := 13) dX2_takeKey_61 (by decide) ?_
          exact ih _ _ _ f3 _ hnz hin ((len_b hl2)) ((len_c hL2)) hu (ofLay_tr ho (ofLay_tr ho2 ho3)) hc3
      | true =>
        rw [hb2] at hu
        by_cases hb1 : unB x i &&& 1 = 0
        · rw [if_pos hb1] at hu
          refine r_iload3 dX2_takeKey_13 ?_
          refine t_iflt (t := 64) dX2_takeKey_14 (by decide) (fun h14 => False.elim (hge h14)) (fun h14 => ?_)
          refine r_iload1 dX2_takeKey_17 ?_
          refine r_iconst (v := 5) dX2_takeKey_18 (by decide) ?_
          refine r_iload3 dX2_takeKey_19 ?_
          refine r_imul dX2_takeKey_20 ?_
          refine r_ishr dX2_takeKey_21 ?_
          refine r_bipush (v := 31) dX2_takeKey_22 (by decide) ?_
          refine r_iand dX2_takeKey_24 ?_
          rw [show x >>> (5 * nI i &&& 31) &&& 31 = unB x i from rfl]
          generalize unB x i = bq at hu hcell hb1 hb2 ⊢
          refine r_istore4 dX2_takeKey_25 rfl ?_
          refine r_aloadR0 dX2_takeKey_27 ?_
          refine r_iload4 dX2_takeKey_28 ?_
          refine r_iconst (v := 2) dX2_takeKey_30 (by decide) ?_
          refine r_ishr dX2_takeKey_31 ?_
          refine r_iload4 dX2_takeKey_32 ?_
          refine r_iconst (v := 2) dX2_takeKey_34 (by decide) ?_
          refine r_iand dX2_takeKey_35 ?_
          refine t_ifeq (t := 43) dX2_takeKey_36 (by decide) (fun h36 => ?_) (fun h36 => False.elim (by first | (rw [show bq &&& 2 = 0 from zi_eq.mpr h36] at hb2; exact absurd hb2 (by decide)) | exact h36 (by have := eq_of_beq hb2; show (bq &&& 2).toInt = 0; rw [this]; rfl)))
          refine r_iconst (v := 0) dX2_takeKey_43 (by decide) ?_
          refine q_callV2 zm_RX2_32 dX2_takeKey_44 (shLay_k hs) (by decide) rfl (Nat.le_of_ble_eq_true rfl) (Nat.le_of_ble_eq_true rfl) (Nat.le_of_ble_eq_true rfl) (Nat.le_of_ble_eq_true rfl) (Nat.le_of_ble_eq_true rfl) (s_X2_lay (c := (bq >>> ((2 : Int32) &&& 31)).toNatClampNeg) (u := false) G hs hc hll hcell rfl (fun f2 ho2 hc2 => ?_))
          refine r_iload4 dX2_takeKey_47 ?_
          refine r_iconst (v := 1) dX2_takeKey_49 (by decide) ?_
          refine r_iand dX2_takeKey_50 ?_
          refine t_ifeq (t := 58) dX2_takeKey_51 (by decide) (fun h51 => ?_) (fun h51 => False.elim (by first | exact hb1 (zi_eq.mpr h51) | exact h51 (by show (bq &&& 1).toInt = 0; rw [hb1]; rfl)))
          refine r_iinc3 dX2_takeKey_58 rfl rfl ?_
          refine r_goto (t := 13) dX2_takeKey_61 (by decide) ?_
          exact ih _ _ _ f2 _ hnz hin ((len_a hl2)) (hL3) hu (ofLay_tr ho ho2) hc2
        · rw [if_neg hb1] at hu
          refine r_iload3 dX2_takeKey_13 ?_
          refine t_iflt (t := 64) dX2_takeKey_14 (by decide) (fun h14 => False.elim (hge h14)) (fun h14 => ?_)
          refine r_iload1 dX2_takeKey_17 ?_
          refine r_iconst (v := 5) dX2_takeKey_18 (by decide) ?_
          refine r_iload3 dX2_takeKey_19 ?_
          refine r_imul dX2_takeKey_20 ?_
          refine r_ishr dX2_takeKey_21 ?_
          refine r_bipush (v := 31) dX2_takeKey_22 (by decide) ?_
          refine r_iand dX2_takeKey_24 ?_
          rw [show x >>> (5 * nI i &&& 31) &&& 31 = unB x i from rfl]
          generalize unB x i = bq at hu hcell hb1 hb2 ⊢
          refine r_istore4 dX2_takeKey_25 rfl ?_
          refine r_aloadR0 dX2_takeKey_27 ?_
          refine r_iload4 dX2_takeKey_28 ?_
          refine r_iconst (v := 2) dX2_takeKey_30 (by decide) ?_
          refine r_ishr dX2_takeKey_31 ?_
          refine r_iload4 dX2_takeKey_32 ?_
          refine r_iconst (v := 2) dX2_takeKey_34 (by decide) ?_
          refine r_iand dX2_takeKey_35 ?_
          refine t_ifeq (t := 43) dX2_takeKey_36 (by decide) (fun h36 => ?_) (fun h36 => False.elim (by first | (rw [show bq &&& 2 = 0 from zi_eq.mpr h36] at hb2; exact absurd hb2 (by decide)) | exact h36 (by have := eq_of_beq hb2; show (bq &&& 2).toInt = 0; rw [this]; rfl)))
          refine r_iconst (v := 0) dX2_takeKey_43 (by decide) ?_
          refine q_callV2 zm_RX2_32 dX2_takeKey_44 (shLay_k hs) (by decide) rfl (Nat.le_of_ble_eq_true rfl) (Nat.le_of_ble_eq_true rfl) (Nat.le_of_ble_eq_true rfl) (Nat.le_of_ble_eq_true rfl) (Nat.le_of_ble_eq_true rfl) (s_X2_lay (c := (bq >>> ((2 : Int32) &&& 31)).toNatClampNeg) (u := false) G hs hc hll hcell rfl (fun f2 ho2 hc2 => ?_))
          refine r_iload4 dX2_takeKey_47 ?_
          refine r_iconst (v := 1) dX2_takeKey_49 (by decide) ?_
          refine r_iand dX2_takeKey_50 ?_
          refine t_ifeq (t := 58) dX2_takeKey_51 (by decide) (fun h51 => False.elim (by first | exact hb1 (zi_eq.mpr h51) | exact h51 (by show (bq &&& 1).toInt = 0; rw [hb1]; rfl))) (fun h51 => ?_)
          refine r_aloadR0 dX2_takeKey_54 ?_
          refine q_callV0 zm_RX2_36 dX2_takeKey_55 (shLay_k hs) (by decide) rfl (Nat.le_of_ble_eq_true rfl) (Nat.le_of_ble_eq_true rfl) (Nat.le_of_ble_eq_true rfl) (Nat.le_of_ble_eq_true rfl) (Nat.le_of_ble_eq_true rfl) (s_X2_closeColumn G hs hc2 hLL (fun f3 ho3 hc3 => ?_))
          refine r_iinc3 dX2_takeKey_58 rfl rfl ?_
          refine r_goto (t := 13) dX2_takeKey_61 (by decide) ?_
          exact ih _ _ _ f3 _ hnz hin ((len_b hl2)) ((len_c hL2)) hu (ofLay_tr ho (ofLay_tr ho2 ho3)) hc3
  refine r_aloadR0 dX2_takeKey_0 ?_
  refine q_callV0 zm_RX2_29 dX2_takeKey_1 (shLay_k hs) (by decide) rfl (Nat.le_of_ble_eq_true rfl) (Nat.le_of_ble_eq_true rfl) (Nat.le_of_ble_eq_true rfl) (Nat.le_of_ble_eq_true rfl) (Nat.le_of_ble_eq_true rfl) (s_X2_empty G hs (fun f1 ho1 hc1 => ?_))
  refine r_iload2 dX2_takeKey_4 ?_
  refine r_bipush (v := 6) dX2_takeKey_5 (by decide) ?_
  refine r_mmin zm_RX2_79 dX2_takeKey_7 (Nat.le_of_ble_eq_true rfl) (Nat.le_of_ble_eq_true rfl) (Nat.le_of_ble_eq_true rfl) (Nat.le_of_ble_eq_true rfl) (Nat.le_of_ble_eq_true rfl) (fun r1 er1 => ?_)
  refine r_iconst (v := 1) dX2_takeKey_10 (by decide) ?_
  refine r_isub dX2_takeKey_11 ?_
  refine r_istore3 dX2_takeKey_12 rfl ?_
  exact loop n _ [] [] f1 none (by rw [zi_sub (by omega)]; omega) (Nat.le_refl _) (by simp) (by simp) rfl ho1 hc1
