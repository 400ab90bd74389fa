/-! numbers: Int32 by its integer -/
theorem zi_lt {x y : Int32} : x < y ↔ x.toInt < y.toInt := Int32.lt_iff_toInt_lt
theorem zi_le {x y : Int32} : x ≤ y ↔ x.toInt ≤ y.toInt := Int32.le_iff_toInt_le
theorem zi_eq {x y : Int32} : x = y ↔ x.toInt = y.toInt := ⟨fun h => by rw [h], fun h => Int32.toInt_inj.mp h⟩
theorem zi_n {n : Nat} (h : n < 2 ^ 31) : (nI n).toInt = n := nI_toInt h
theorem zi_of {x : Int32} {n : Nat} (h : x.toInt = n) (hn : n < 2 ^ 31) : x = nI n := zi_eq.mpr (h.trans (zi_n hn).symm)
theorem zi_0 : (0 : Int32).toInt = 0 := rfl
theorem zi_1 : (1 : Int32).toInt = 1 := rfl
theorem zi_in {x : Int32} {n : Nat} (h0 : 0 ≤ x.toInt) (h1 : x.toInt < n) : vp_in x n := vp_in_iff.mpr ⟨h0, h1⟩
theorem zi_inN {k n : Nat} (h : k < n) (hn : n < 2 ^ 31) : vp_in (nI k) n := vp_in_nI h hn
theorem zi_cl {x : Int32} (h0 : 0 ≤ x.toInt) : x = nI x.toNatClampNeg := by
  have h1 := Int32.toInt_lt x
  have h2 := Int32.toNat_toInt x
  exact zi_of (by omega) (by omega)
theorem zi_add {x y : Int32} (h : -2147483648 ≤ x.toInt + y.toInt ∧ x.toInt + y.toInt < 2147483648) : (x + y).toInt = x.toInt + y.toInt := by
  rw [Int32.toInt_add]
  exact Int.bmod_eq_of_le (by omega) (by omega)
theorem zi_sub {x y : Int32} (h : -2147483648 ≤ x.toInt - y.toInt ∧ x.toInt - y.toInt < 2147483648) : (x - y).toInt = x.toInt - y.toInt := by
  rw [Int32.toInt_sub]
  exact Int.bmod_eq_of_le (by omega) (by omega)
theorem zi_mul {x y : Int32} (h : -2147483648 ≤ x.toInt * y.toInt ∧ x.toInt * y.toInt < 2147483648) : (x * y).toInt = x.toInt * y.toInt := by
  rw [Int32.toInt_mul]
  exact Int.bmod_eq_of_le (by omega) (by omega)
/-! how cells lie: columns from left to right, each from its lowest cell on, a cell with whether its front is up -/
abbrev zLy : Type := List (List (Nat × Bool))
/-- cells ahead of a column -/
def lyP (L : zLy) (j : Nat) : Nat := ((L.take j).flatten).length
theorem lyP_0 {L : zLy} : lyP L 0 = 0 := rfl
theorem lyP_succ {L : zLy} {j : Nat} {c : List (Nat × Bool)} (h : L[j]? = some c) : lyP L (j + 1) = lyP L j + c.length := by
  unfold lyP
  rw [List.take_add_one, h]
  simp
theorem lyP_len {L : zLy} {j : Nat} (h : L.length ≤ j) : lyP L j = L.flatten.length := by
  unfold lyP
  rw [List.take_of_length_le h]
theorem lyP_le {L : zLy} {j : Nat} : lyP L j ≤ L.flatten.length := by
  unfold lyP
  conv => rhs; rw [← List.take_append_drop j L, List.flatten_append, List.length_append]
  omega
theorem lyP_mono {L : zLy} {i j : Nat} (h : i ≤ j) : lyP L i ≤ lyP L j := by
  unfold lyP
  have : L.take i = (L.take j).take i := by rw [List.take_take, Nat.min_eq_left h]
  rw [this]
  conv => rhs; rw [← List.take_append_drop i (L.take j), List.flatten_append, List.length_append]
  omega
theorem lyP_app {L : zLy} {C : List (Nat × Bool)} {j : Nat} (h : j ≤ L.length) : lyP (L ++ [C]) j = lyP L j := by
  unfold lyP
  rw [List.take_append_of_le_length h]
/-- a column's place in the row of all cells -/
theorem lyP_get {L : zLy} {j k : Nat} {c : List (Nat × Bool)} (h : L[j]? = some c) (hk : k < c.length) : L.flatten[lyP L j + k]? = c[k]? := by
  induction L generalizing j with
  | nil => simp at h
  | cons b L ih =>
    cases j with
    | zero =>
      simp at h
      subst h
      rw [lyP_0, Nat.zero_add, List.flatten_cons, List.getElem?_append_left hk]
    | succ j =>
      have h2 : L[j]? = some c := by simpa using h
      have e : lyP (b :: L) (j + 1) = b.length + lyP L j := by
        unfold lyP
        rw [List.take_succ_cons, List.flatten_cons, List.length_append]
      rw [e, List.flatten_cons, List.getElem?_append_right (by omega), show b.length + lyP L j + k - b.length = lyP L j + k by omega]
      exact ih h2
/-- a Lay at a: its own cell and its three rows behind it -/
def shLay (w : zW) (a : Nat) : Prop := zK w a = 2 ∧ zP w a 0 = some (a + 1) ∧ zP w a 1 = some (a + 2) ∧ zP w a 2 = some (a + 3) ∧ zK w (a + 1) = 21 ∧ zK w (a + 2) = 23 ∧ zK w (a + 3) = 21 ∧ zN w (a + 1) = 6 ∧ zN w (a + 2) = 6 ∧ zN w (a + 3) = 6
theorem shLay_k {w : zW} {a : Nat} (h : shLay w a) : zK w a = 2 := h.1
theorem shLay_p0 {w : zW} {a : Nat} (h : shLay w a) : zP w a 0 = some (a + 1) := h.2.1
theorem shLay_p1 {w : zW} {a : Nat} (h : shLay w a) : zP w a 1 = some (a + 2) := h.2.2.1
theorem shLay_p2 {w : zW} {a : Nat} (h : shLay w a) : zP w a 2 = some (a + 3) := h.2.2.2.1
theorem shLay_k1 {w : zW} {a : Nat} (h : shLay w a) : zK w (a + 1) = 21 := h.2.2.2.2.1
theorem shLay_k2 {w : zW} {a : Nat} (h : shLay w a) : zK w (a + 2) = 23 := h.2.2.2.2.2.1
theorem shLay_k3 {w : zW} {a : Nat} (h : shLay w a) : zK w (a + 3) = 21 := h.2.2.2.2.2.2.1
theorem shLay_n1 {w : zW} {a : Nat} (h : shLay w a) : zN w (a + 1) = 6 := h.2.2.2.2.2.2.2.1
theorem shLay_n2 {w : zW} {a : Nat} (h : shLay w a) : zN w (a + 2) = 6 := h.2.2.2.2.2.2.2.2.1
theorem shLay_n3 {w : zW} {a : Nat} (h : shLay w a) : zN w (a + 3) = 6 := h.2.2.2.2.2.2.2.2.2
/-- what its rows hold: closed columns L, and an open one C behind them -/
def ctLay (f : Nat → Nat → Int32) (a : Nat) (L : zLy) (C : List (Nat × Bool)) : Prop :=
  f a 3 = nI (L.flatten ++ C).length ∧ f a 4 = nI L.length ∧ (∀ (i : Nat) (p : Nat × Bool), (L.flatten ++ C)[i]? = some p → f (a + 1) i = nI p.1 ∧ f (a + 2) i = (if p.2 then 1 else 0)) ∧ (∀ j, j < L.length → f (a + 3) j = nI (lyP L (j + 1))) ∧ (L.flatten ++ C).length ≤ 6 ∧ L.length ≤ 6
/-- a function changed at the four addresses of a Lay alone -/
def ofLay (f f2 : Nat → Nat → Int32) (a : Nat) : Prop := ∀ q, (q < a ∨ a + 4 ≤ q) → f2 q = f q
theorem ofLay_rf {f : Nat → Nat → Int32} {a : Nat} : ofLay f f a := fun _ _ => rfl
theorem ofLay_tr {f f2 f3 : Nat → Nat → Int32} {a : Nat} (h : ofLay f f2 a) (h2 : ofLay f2 f3 a) : ofLay f f3 a := fun q hq => (h2 q hq).trans (h q hq)
theorem ofLay_zu {f f2 : Nat → Nat → Int32} {a b i : Nat} {x : Int32} (h : ofLay f f2 a) (hb : a ≤ b ∧ b < a + 4) : ofLay f (zu f2 b i x) a := fun q hq => (zu_ne (by omega)).trans (h q hq)
theorem ctLay_of {f f2 : Nat → Nat → Int32} {a b : Nat} {L : zLy} {C : List (Nat × Bool)} (h : ctLay f b L C) (ho : ofLay f f2 a) (hab : b + 4 ≤ a ∨ a + 4 ≤ b) : ctLay f2 b L C := by
  have e0 := ho b (by omega)
  have e1 := ho (b + 1) (by omega)
  have e2 := ho (b + 2) (by omega)
  have e3 := ho (b + 3) (by omega)
  unfold ctLay
  rw [e0, e1, e2, e3]
  exact h
theorem zu_at {α : Type} {f : Nat → Nat → α} {a i : Nat} {x : α} : zu f a i x a i = x := by
  unfold zu
  rw [if_pos ⟨rfl, rfl⟩]
theorem zu_ni {α : Type} {f : Nat → Nat → α} {a i j : Nat} {x : α} (h : j ≠ i) : zu f a i x a j = f a j := by
  unfold zu
  rw [if_neg (fun e => h e.2)]
/-- the empty Lay -/
theorem ctLay_0 {f : Nat → Nat → Int32} {a : Nat} : ctLay (zu (zu f a 3 0) a 4 0) a [] [] := by
  refine ⟨?_, ?_, fun i p h => by simp at h, fun j h => by simp at h, by simp, by simp⟩
  · rw [zu_ni (by decide), zu_at]
    rfl
  · rw [zu_at]
    rfl
/-- a cell comes onto the open column -/
theorem ctLay_lay {f : Nat → Nat → Int32} {a c : Nat} {u : Bool} {x y : Int32} {L : zLy} {C : List (Nat × Bool)} {t : Int32} (h : ctLay f a L C) (hl : (L.flatten ++ C).length < 6) (hx : x = nI c) (hy : y = if u then 1 else 0) (ht : t = nI ((L.flatten ++ C).length + 1)) : ctLay (zu (zu (zu f (a + 1) (L.flatten ++ C).length x) (a + 2) (L.flatten ++ C).length y) a 3 t) a L (C ++ [(c, u)]) := by
  obtain ⟨h1, h2, h3, h4, h5, h6⟩ := h
  have e : L.flatten ++ (C ++ [(c, u)]) = (L.flatten ++ C) ++ [(c, u)] := by rw [List.append_assoc]
  unfold ctLay
  rw [e]
  generalize hM : L.flatten ++ C = M at *
  have r0 : ∀ j, zu (zu (zu f (a + 1) M.length x) (a + 2) M.length y) a 3 t a j = if j = 3 then t else f a j := by
    intro j
    rw [zu_self, zu_ne (by omega), zu_ne (by omega)]
  have r1 : ∀ j, zu (zu (zu f (a + 1) M.length x) (a + 2) M.length y) a 3 t (a + 1) j = if j = M.length then x else f (a + 1) j := by
    intro j
    rw [zu_ne (q := a + 1) (a := a) (by omega), zu_ne (q := a + 1) (a := a + 2) (by omega), zu_self]
  have r2 : ∀ j, zu (zu (zu f (a + 1) M.length x) (a + 2) M.length y) a 3 t (a + 2) j = if j = M.length then y else f (a + 2) j := by
    intro j
    rw [zu_ne (q := a + 2) (a := a) (by omega), zu_self, zu_ne (q := a + 2) (a := a + 1) (by omega)]
  have r3 : ∀ j, zu (zu (zu f (a + 1) M.length x) (a + 2) M.length y) a 3 t (a + 3) j = f (a + 3) j := by
    intro j
    rw [zu_ne (q := a + 3) (a := a) (by omega), zu_ne (q := a + 3) (a := a + 2) (by omega), zu_ne (q := a + 3) (a := a + 1) (by omega)]
  refine ⟨?_, ?_, fun i p hp => ?_, fun j hj => ?_, ?_, h6⟩
  · rw [r0, if_pos rfl, ht, List.length_append]
    rfl
  · rw [r0, if_neg (by decide)]
    exact h2
  · rw [r1, r2]
    by_cases hi : i < M.length
    · rw [List.getElem?_append_left hi] at hp
      rw [if_neg (by omega), if_neg (by omega)]
      exact h3 i p hp
    · have hi2 : i = M.length := by
        have := (List.getElem?_eq_some_iff.mp hp).1
        rw [List.length_append] at this
        simp at this
        omega
      subst hi2
      rw [List.getElem?_append_right (Nat.le_refl _), Nat.sub_self] at hp
      cases hp
      rw [if_pos rfl, if_pos rfl]
      exact ⟨hx, hy⟩
  · rw [r3]
    exact h4 j hj
  · rw [List.length_append]
    simp
    omega
/-- the open column is closed -/
theorem ctLay_close {f : Nat → Nat → Int32} {a : Nat} {L : zLy} {C : List (Nat × Bool)} {x t : Int32} (h : ctLay f a L C) (hl : L.length < 6) (hx : x = nI (L.flatten ++ C).length) (ht : t = nI (L.length + 1)) : ctLay (zu (zu f (a + 3) L.length x) a 4 t) a (L ++ [C]) [] := by
  obtain ⟨h1, h2, h3, h4, h5, h6⟩ := h
  have e : (L ++ [C]).flatten ++ [] = L.flatten ++ C := by simp
  have r0 : ∀ j, zu (zu f (a + 3) L.length x) a 4 t a j = if j = 4 then t else f a j := by
    intro j
    rw [zu_self, zu_ne (by omega)]
  have r1 : ∀ j, zu (zu f (a + 3) L.length x) a 4 t (a + 1) j = f (a + 1) j := by
    intro j
    rw [zu_ne (q := a + 1) (a := a) (by omega), zu_ne (q := a + 1) (a := a + 3) (by omega)]
  have r2 : ∀ j, zu (zu f (a + 3) L.length x) a 4 t (a + 2) j = f (a + 2) j := by
    intro j
    rw [zu_ne (q := a + 2) (a := a) (by omega), zu_ne (q := a + 2) (a := a + 3) (by omega)]
  have r3 : ∀ j, zu (zu f (a + 3) L.length x) a 4 t (a + 3) j = if j = L.length then x else f (a + 3) j := by
    intro j
    rw [zu_ne (q := a + 3) (a := a) (by omega), zu_self]
  unfold ctLay
  rw [e]
  refine ⟨?_, ?_, fun i p hp => ?_, fun j hj => ?_, h5, ?_⟩
  · rw [r0, if_neg (by decide)]
    exact h1
  · rw [r0, if_pos rfl, ht, List.length_append]
    rfl
  · rw [r1, r2]
    exact h3 i p hp
  · rw [r3]
    by_cases hj2 : j = L.length
    · subst hj2
      rw [if_pos rfl, hx, lyP_len (by simp)]
      simp
    · have hj3 : j < L.length := by
        rw [List.length_append] at hj
        simp at hj
        omega
      rw [if_neg hj2, lyP_app (by omega)]
      exact h4 j hj3
  · rw [List.length_append]
    simp
    omega
