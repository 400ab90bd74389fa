/-! the class's nodes beside the reference's rows: what is sure, where to look; stacks -/
def zbB (z : Nat → Bool) : Nat → Int32
  | 0 => 0
  | k + 1 => if z k = true then zbB z k else zbB z k ||| ((1 : Int32) <<< (nI k &&& 31))
def zbC (z : Nat → Bool) : Nat → Int32 → Int32
  | 0, s => s
  | k + 1, s => if z k = true then zbC z k s &&& (((1 : Int32) <<< (nI k &&& 31)) ^^^ (-1)) else zbC z k s
theorem zbB_eq {L : zLy} : ∀ k, lyBits L k = zbB (fun i => decide (lyCrease L i = 0)) k := by
  intro k
  induction k with
  | zero => rfl
  | succ k ih =>
    show (if lyCrease L k = 0 then lyBits L k else lyBits L k ||| ((1 : Int32) <<< (nI k &&& 31))) = (if decide (lyCrease L k = 0) = true then _ else _)
    rw [ih]
    by_cases h_z : lyCrease L k = 0
    · rw [if_pos h_z, if_pos (decide_eq_true h_z)]
    · rw [if_neg h_z, if_neg (by rw [decide_eq_true_iff]; exact h_z)]
theorem zbC_eq {L : zLy} {s : Int32} : ∀ k, sclK L k s = zbC (fun i => decide (lyCrease L i = 0)) k s := by
  intro k
  induction k with
  | zero => rfl
  | succ k ih =>
    show (if lyCrease L k = 0 then sclK L k s &&& (((1 : Int32) <<< (nI k &&& 31)) ^^^ (-1)) else sclK L k s) = (if decide (lyCrease L k = 0) = true then _ else _)
    rw [ih]
    by_cases h_z : lyCrease L k = 0
    · rw [if_pos h_z, if_pos (decide_eq_true h_z)]
    · rw [if_neg h_z, if_neg (by rw [decide_eq_true_iff]; exact h_z)]
def bitZ (m : Nat) : Nat → Bool := fun i => m.testBit i
theorem zbB_cg {z z2 : Nat → Bool} : ∀ k, (∀ i, i < k → z i = z2 i) → zbB z k = zbB z2 k := by
  intro k
  induction k with
  | zero => exact fun _ => rfl
  | succ k ih =>
    intro h_z
    show (if z k = true then zbB z k else zbB z k ||| ((1 : Int32) <<< (nI k &&& 31))) = (if z2 k = true then zbB z2 k else zbB z2 k ||| ((1 : Int32) <<< (nI k &&& 31)))
    rw [ih (fun i hi_z => h_z i (by omega)), h_z k (by omega)]
theorem zbC_cg {z z2 : Nat → Bool} {s : Int32} : ∀ k, (∀ i, i < k → z i = z2 i) → zbC z k s = zbC z2 k s := by
  intro k
  induction k with
  | zero => exact fun _ => rfl
  | succ k ih =>
    intro h_z
    show (if z k = true then zbC z k s &&& (((1 : Int32) <<< (nI k &&& 31)) ^^^ (-1)) else zbC z k s) = (if z2 k = true then zbC z2 k s &&& (((1 : Int32) <<< (nI k &&& 31)) ^^^ (-1)) else zbC z2 k s)
    rw [ih (fun i hi_z => h_z i (by omega)), h_z k (by omega)]
def mskZ (z : Nat → Bool) : Nat → Nat
  | 0 => 0
  | k + 1 => mskZ z k + (if z k = true then 2 ^ k else 0)
theorem mskZ_lt {z : Nat → Bool} : ∀ k, mskZ z k < 2 ^ k := by
  intro k
  induction k with
  | zero => exact Nat.one_pos
  | succ k ih =>
    show mskZ z k + (if z k = true then 2 ^ k else 0) < 2 ^ (k + 1)
    rw [Nat.pow_succ]
    split <;> omega
theorem mskZ_bit {z : Nat → Bool} : ∀ k i, i < k → (mskZ z k).testBit i = z i := by
  intro k
  induction k with
  | zero => exact fun i h_z => absurd h_z (Nat.not_lt_zero _)
  | succ k ih =>
    intro i hi_z
    have hlt := mskZ_lt (z := z) k
    show (mskZ z k + (if z k = true then 2 ^ k else 0)).testBit i = z i
    rcases Nat.lt_or_ge i k with h_z | h_z
    · by_cases hz : z k = true
      · rw [if_pos hz, Nat.add_comm, Nat.testBit_two_pow_add_gt h_z]
        exact ih i h_z
      · rw [if_neg hz, Nat.add_zero]; exact ih i h_z
    · rw [show i = k by omega]
      by_cases hz : z k = true
      · rw [if_pos hz, Nat.add_comm, Nat.testBit_two_pow_add_eq, Nat.testBit_lt_two_pow hlt, hz]; rfl
      · rw [if_neg hz, Nat.add_zero, Nat.testBit_lt_two_pow hlt]
        simpa using hz
theorem zb_fin : (List.range 6).all (fun k => (List.range (2 ^ k)).all (fun m => decide (zbC (bitZ m) k (nI (2 ^ k - 1)) = zbB (bitZ m) k) && (decide (zbB (bitZ m) k = nI ((zbB (bitZ m) k).toInt.toNat) ∧ (zbB (bitZ m) k).toInt.toNat < 2 ^ k) && (List.range (2 ^ k)).all (fun v => decide (zbC (bitZ m) k (nI v) = nI v &&& zbB (bitZ m) k) && decide (nI v &&& zbB (bitZ m) k = nI ((nI v &&& zbB (bitZ m) k).toInt.toNat) ∧ (nI v &&& zbB (bitZ m) k).toInt.toNat < 2 ^ k))))) = true := by decide +kernel
theorem zb_all {z : Nat → Bool} {k : Nat} (hk : k ≤ 5) : zbC z k (nI (2 ^ k - 1)) = zbB z k ∧ (∃ v, v < 2 ^ k ∧ zbB z k = nI v) ∧ ∀ v, v < 2 ^ k → zbC z k (nI v) = nI v &&& zbB z k ∧ ∃ u, u < 2 ^ k ∧ nI v &&& zbB z k = nI u := by
  have h1 := List.all_eq_true.mp zb_fin k (List.mem_range.mpr (by omega))
  have h2 := List.all_eq_true.mp h1 (mskZ z k) (List.mem_range.mpr (mskZ_lt k))
  have hb_z : ∀ i, i < k → z i = bitZ (mskZ z k) i := fun i hi_z => (mskZ_bit k i hi_z).symm
  rw [zbB_cg k hb_z]
  rw [Bool.and_eq_true, Bool.and_eq_true, decide_eq_true_iff, decide_eq_true_iff] at h2
  obtain ⟨a1, a2, a3⟩ := h2
  refine ⟨by rw [zbC_cg k hb_z]; exact a1, ⟨_, a2.2, a2.1⟩, fun v hv => ?_⟩
  have h3 := List.all_eq_true.mp a3 v (List.mem_range.mpr hv)
  rw [Bool.and_eq_true, decide_eq_true_iff, decide_eq_true_iff] at h3
  exact ⟨by rw [zbC_cg k hb_z]; exact h3.1, _, h3.2.2, h3.2.1⟩
theorem i32_aa (b c : Int32) : (b &&& c) &&& c = b &&& c := by
  rw [Int32.and_assoc, Int32.and_self]
theorem eq_surW {p : zLy → Bool} {L : zLy} {k : Nat} : surW p (levs L k) = (allF k L).foldl (fun s y => if p y.1 = true then (match s with | none => some (cbW y.1) | some b => some (b &&& cbW y.1)) else s) none := by
  refine walk_levs (st := fun _ (s : Option Int32) L _ => if p L = true then (match s with | none => some (cbW L) | some b => some (b &&& cbW L)) else s) (I := fun _ L s => p L = false ∨ ∃ b, s = some b ∧ b &&& cbW L = b) (fun d s L r => ?_) (fun d s L r L2 h_z => ?_) (fun d s L r h_z => ?_)
  · by_cases hp : p L = true
    · refine Or.inr ?_
      show ∃ b, (if p L = true then (match s with | none => some (cbW L) | some b => some (b &&& cbW L)) else s) = some b ∧ b &&& cbW L = b
      rw [if_pos hp]
      cases s with
      | none => exact ⟨_, rfl, Int32.and_self⟩
      | some b => exact ⟨_, rfl, i32_aa _ _⟩
    · exact Or.inl (by simpa using hp)
  · rcases h_z with h_z | ⟨b, h1, h2⟩
    · exact Or.inl h_z
    · refine Or.inr ?_
      subst h1
      show ∃ b2, (if p L = true then (match some b with | none => some (cbW L) | some b => some (b &&& cbW L)) else some b) = some b2 ∧ b2 &&& cbW L2 = b2
      by_cases hp : p L = true
      · rw [if_pos hp]
        refine ⟨_, rfl, ?_⟩
        rw [Int32.and_assoc, Int32.and_comm (cbW L), ← Int32.and_assoc, h2]
      · rw [if_neg hp]; exact ⟨b, rfl, h2⟩
  · rcases h_z with h_z | ⟨b, h1, h2⟩
    · simp [h_z]
    · subst h1
      simp [h2]
theorem eq_sure {n k : Nat} {p : zLy → Bool} {L0 : zLy} (h0 : rch n L0) : ((surW p (levs L0 k)).getD 0).toInt = (if (allF k L0).countP (fun y => p y.1) = 0 then 0 else (surE p (n - 1) (s0V n) (allF k L0)).toInt) := by
  have hn := rch_le h0
  rw [eq_surW]
  have key : ∀ (qs : List zRo) (s : Option Int32) (t : Int32) (c : Nat), (∀ y ∈ qs, rch n y.1) → (s = none ∧ c = 0 ∧ t = nI (2 ^ (n - 1) - 1) ∨ s = some t ∧ 1 ≤ c ∧ ∃ v, v < 2 ^ (n - 1) ∧ t = nI v) → (qs.foldl (fun s y => if p y.1 = true then (match s with | none => some (cbW y.1) | some b => some (b &&& cbW y.1)) else s) s = none ∧ c + qs.countP (fun y => p y.1) = 0) ∨ (qs.foldl (fun s y => if p y.1 = true then (match s with | none => some (cbW y.1) | some b => some (b &&& cbW y.1)) else s) s = some (qs.foldl (fun s y => if p y.1 = true then sclK y.1 (n - 1) s else s) t) ∧ 1 ≤ c + qs.countP (fun y => p y.1)) := by
    intro qs
    induction qs with
    | nil =>
      intro s t c _ h_z
      rcases h_z with ⟨h1, h2, h3⟩ | ⟨h1, h2, h3⟩
      · exact Or.inl ⟨h1, h2⟩
      · exact Or.inr ⟨h1, h2⟩
    | cons y qs ih =>
      intro s t c hq h_z
      have hy := hq y List.mem_cons_self
      have hq2 : ∀ z ∈ qs, rch n z.1 := fun z hz => hq z (List.mem_cons_of_mem _ hz)
      have hz := zb_all (z := fun i => decide (lyCrease y.1 i = 0)) (k := n - 1) (by omega)
      have hcb : cbW y.1 = zbB (fun i => decide (lyCrease y.1 i = 0)) (n - 1) := by unfold cbW; rw [(rch_cell hy).1]; exact zbB_eq _
      rw [List.foldl_cons, List.foldl_cons, List.countP_cons]
      by_cases hp : p y.1 = true
      · rw [if_pos hp, if_pos hp, if_pos hp, ← Nat.add_assoc, Nat.add_right_comm]
        rcases h_z with ⟨h1, h2, h3⟩ | ⟨h1, h2, v, h3, h4⟩
        · subst h1
          refine ih (some (cbW y.1)) _ (c + 1) hq2 (Or.inr ⟨?_, by omega, ?_⟩)
          · rw [zbC_eq, h3, hz.1, hcb]
          · rw [zbC_eq, h3, hz.1]
            exact hz.2.1
        · subst h1
          have hv := hz.2.2 v h3
          refine ih (some (t &&& cbW y.1)) _ (c + 1) hq2 (Or.inr ⟨?_, by omega, ?_⟩)
          · rw [zbC_eq, h4, hv.1, hcb]
          · rw [zbC_eq, h4, hv.1]
            exact hv.2
      · rw [if_neg hp, if_neg hp, if_neg hp, Nat.add_zero]
        exact ih s t c hq2 h_z
  have h9 := key (allF k L0) none (s0V n) 0 (allF_rch h0) (Or.inl ⟨rfl, rfl, rfl⟩)
  rw [Nat.zero_add] at h9
  rcases h9 with ⟨h1, h2⟩ | ⟨h1, h2⟩
  · rw [h1, if_pos h2]; rfl
  · rw [h1, if_neg (by omega)]; rfl
/-- where to look -/
theorem tal_cnt {p : zLy → Bool} {b9 : zLy → Nat} {v k : Nat} {L : zLy} : talW p b9 v (levs L k) = (allF k L).countP (fun y => p y.1 && decide (b9 y.1 = v)) := by
  unfold talW
  rw [eq_sum]
theorem mxB_mono {c c2_z : Nat → Nat} (h_z : ∀ v, c v ≤ c2_z v) : ∀ k, mxB c k ≤ mxB c2_z k := by
  intro k
  induction k with
  | zero => exact Nat.le_refl _
  | succ k ih =>
    have h1 := h_z k
    show max (mxB c k) (c k) ≤ max (mxB c2_z k) (c2_z k)
    omega
theorem mxB_ge {c : Nat → Nat} {v : Nat} : ∀ k, v < k → c v ≤ mxB c k := by
  intro k
  induction k with
  | zero => exact fun h_z => absurd h_z (Nat.not_lt_zero _)
  | succ k ih =>
    intro h_z
    show c v ≤ max (mxB c k) (c k)
    rcases Nat.lt_or_ge v k with h9 | h9
    · have := ih h9; omega
    · rw [show v = k by omega]; omega
theorem mxB_up {c c2_z : Nat → Nat} {v0_z : Nat} (h_z : ∀ v, v ≠ v0_z → c2_z v = c v) (h0 : c v0_z ≤ c2_z v0_z) : ∀ k, v0_z < k → mxB c2_z k = max (mxB c k) (c2_z v0_z) := by
  have low : ∀ k, k ≤ v0_z → mxB c2_z k = mxB c k := by
    intro k
    induction k with
    | zero => exact fun _ => rfl
    | succ k ih =>
      intro hk
      show max (mxB c2_z k) (c2_z k) = max (mxB c k) (c k)
      rw [ih (by omega), h_z k (by omega)]
  intro k
  induction k with
  | zero => exact fun h_z => absurd h_z (Nat.not_lt_zero _)
  | succ k ih =>
    intro hk
    show max (mxB c2_z k) (c2_z k) = max (max (mxB c k) (c k)) (c2_z v0_z)
    rcases Nat.lt_or_ge v0_z k with h9 | h9
    · rw [ih h9, h_z k (by omega)]; omega
    · rw [show k = v0_z by omega, low v0_z (Nat.le_refl _)]; omega
theorem mxB_0 {c : Nat → Nat} (h_z : ∀ v, c v = 0) : ∀ k, mxB c k = 0 := by
  intro k
  induction k with
  | zero => rfl
  | succ k ih =>
    show max (mxB c k) (c k) = 0
    rw [ih, h_z k]; rfl
theorem gre_mx {p : zLy → Bool} {b9 : zLy → Nat} {X : List zRw} {B : Nat} (hb_z : ∀ L, b9 L < B) : ∀ k, k ≤ X.length → greW p b9 X k = mxB (fun v => talW p b9 v (X.take k)) B := by
  intro k
  induction k with
  | zero =>
    intro _
    rw [mxB_0 (fun v => by rw [List.take_zero]; rfl)]
    rfl
  | succ k ih =>
    intro hk
    obtain ⟨y, hy⟩ : ∃ y, X[k]? = some y := ⟨_, List.getElem?_eq_getElem (by omega)⟩
    have hs := fun v => talW_s (p := p) (b9 := b9) (v := v) hy
    by_cases hp : p y.1 = true
    · rw [greW_1 hy hp, ih (by omega)]
      refine (mxB_up (c := fun v => talW p b9 v (X.take k)) (c2_z := fun v => talW p b9 v (X.take (k + 1))) (v0_z := b9 y.1) (fun v hv => ?_) ?_ B (hb_z _)).symm
      · rw [hs v, if_neg (fun e => hv e.2.symm), Nat.add_zero]
      · rw [hs]; omega
    · rw [greW_0 hy hp, ih (by omega)]
      congr 1
      funext v
      rw [hs v, if_neg (fun e => hp e.1), Nat.add_zero]
theorem eq_look {M : Nat → Nat} {p : zLy → Bool} {L0 : zLy} {k m n : Nat} (hm_z : ∀ i, M i ≤ 99) (h0 : rch n L0) (hk : k ≤ 6) (hp : ∀ L, p L = true → L.length = m) : (looW (fun col : Nat => greW p (fun L => seenB M L col) (levs L0 k) (levs L0 k).length) m).1 = (if (allF k L0).countP (fun y => p y.1) = 0 then -1 else (looR (bnM M p (allF k L0)) m).1) := by
  have hg : ∀ c, c < m → greW p (fun L => seenB M L c) (levs L0 k) (levs L0 k).length = bnM M p (allF k L0) c := by
    intro c hc_z
    rw [gre_mx (B := 100) (fun L => Nat.lt_succ_of_le (seenB_le hm_z)) _ (Nat.le_refl _), List.take_length]
    unfold bnM
    congr 1
    funext v
    rw [tal_cnt]
    congr 1
    funext y
    unfold bnQ
    by_cases hpy : p y.1 = true
    · rw [hp y.1 hpy, decide_eq_true hc_z, Bool.true_and]
    · rw [Bool.eq_false_iff.mpr hpy, Bool.false_and, Bool.false_and]
  have hle : ∀ c, bnM M p (allF k L0) c ≤ 3400000 := fun c => mxB_le (fun v => Nat.le_trans List.countP_le_length (allF_len h0 hk))
  rcases Nat.eq_zero_or_pos ((allF k L0).countP (fun y => p y.1)) with hz | hz
  · rw [if_pos hz]
    have hno : ∀ c, bnM M p (allF k L0) c = 0 := by
      intro c
      refine mxB_0 (fun v => ?_) 100
      rw [List.countP_eq_zero] at hz ⊢
      intro y hy e
      unfold bnQ at e
      rw [Bool.and_eq_true] at e
      exact hz y hy e.1
    have key : ∀ c, c ≤ m → looW (fun col : Nat => greW p (fun L => seenB M L col) (levs L0 k) (levs L0 k).length) c = (-1, 0) := by
      intro c
      induction c with
      | zero => exact fun _ => rfl
      | succ c ih =>
        intro hc_z
        have e1_z : looW (fun col : Nat => greW p (fun L => seenB M L col) (levs L0 k) (levs L0 k).length) (c + 1) = if 0 < greW p (fun L => seenB M L c) (levs L0 k) (levs L0 k).length ∧ ((looW (fun col : Nat => greW p (fun L => seenB M L col) (levs L0 k) (levs L0 k).length) c).1 = -1 ∨ ((greW p (fun L => seenB M L c) (levs L0 k) (levs L0 k).length : Nat) : Int) < (looW (fun col : Nat => greW p (fun L => seenB M L col) (levs L0 k) (levs L0 k).length) c).2) then (((c : Nat) : Int), ((greW p (fun L => seenB M L c) (levs L0 k) (levs L0 k).length : Nat) : Int)) else looW (fun col : Nat => greW p (fun L => seenB M L col) (levs L0 k) (levs L0 k).length) c := rfl
        rw [e1_z, hg c (by omega), hno c, if_neg (fun e => absurd e.1 (Nat.lt_irrefl _))]
        exact ih (by omega)
    rw [key m (Nat.le_refl _)]
  · rw [if_neg (by omega)]
    have hpos : ∀ c, c < m → 1 ≤ bnM M p (allF k L0) c := by
      intro c hc_z
      obtain ⟨y, hy, hpy⟩ := List.countP_pos_iff.mp hz
      have h1 : 1 ≤ (allF k L0).countP (bnQ M p c (seenB M y.1 c)) := List.countP_pos_iff.mpr ⟨y, hy, by
        unfold bnQ
        rw [hpy, hp y.1 hpy, decide_eq_true hc_z, decide_eq_true rfl]; rfl⟩
      exact Nat.le_trans h1 (mxB_ge (c := fun v => (allF k L0).countP (bnQ M p c v)) 100 (Nat.lt_succ_of_le (seenB_le hm_z)))
    have key : ∀ c, c ≤ m → (c = 0 ∨ looW (fun col : Nat => greW p (fun L => seenB M L col) (levs L0 k) (levs L0 k).length) c = looR (bnM M p (allF k L0)) c ∧ 0 ≤ (looR (bnM M p (allF k L0)) c).1) := by
      intro c
      induction c with
      | zero => exact fun _ => Or.inl rfl
      | succ c ih =>
        intro hc_z
        have e1_z : looW (fun col : Nat => greW p (fun L => seenB M L col) (levs L0 k) (levs L0 k).length) (c + 1) = if 0 < greW p (fun L => seenB M L c) (levs L0 k) (levs L0 k).length ∧ ((looW (fun col : Nat => greW p (fun L => seenB M L col) (levs L0 k) (levs L0 k).length) c).1 = -1 ∨ ((greW p (fun L => seenB M L c) (levs L0 k) (levs L0 k).length : Nat) : Int) < (looW (fun col : Nat => greW p (fun L => seenB M L col) (levs L0 k) (levs L0 k).length) c).2) then (((c : Nat) : Int), ((greW p (fun L => seenB M L c) (levs L0 k) (levs L0 k).length : Nat) : Int)) else looW (fun col : Nat => greW p (fun L => seenB M L col) (levs L0 k) (levs L0 k).length) c := rfl
        have e2_z : looR (bnM M p (allF k L0)) (c + 1) = if ((bnM M p (allF k L0) c : Nat) : Int) < (looR (bnM M p (allF k L0)) c).2 then (((c : Nat) : Int), ((bnM M p (allF k L0) c : Nat) : Int)) else looR (bnM M p (allF k L0)) c := rfl
        have h1 := hpos c (by omega)
        have h2 := hle c
        refine Or.inr ?_
        rw [e1_z, e2_z, hg c (by omega)]
        rcases ih (by omega) with rfl | ⟨h3, h4⟩
        · rw [if_pos ⟨h1, Or.inl (show (looW _ 0).1 = -1 from rfl)⟩, if_pos (show ((bnM M p (allF k L0) 0 : Nat) : Int) < (looR (bnM M p (allF k L0)) 0).2 from (by show _ < (536870912 : Int); omega))]
          exact ⟨rfl, by show (0 : Int) ≤ ((0 : Nat) : Int); omega⟩
        · rw [h3]
          by_cases h9 : ((bnM M p (allF k L0) c : Nat) : Int) < (looR (bnM M p (allF k L0)) c).2
          · rw [if_pos ⟨h1, Or.inr h9⟩, if_pos h9]
            exact ⟨rfl, by show (0 : Int) ≤ ((c : Nat) : Int); omega⟩
          · rw [if_neg (by omega), if_neg h9]
            exact ⟨rfl, h4⟩
    rcases key m (Nat.le_refl _) with rfl | h_z
    · rfl
    · rw [h_z.1]
