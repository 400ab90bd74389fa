/-! what a napkin is: marks as they are seen, laws, moments; the reference's cells -/
def mkAb (M : Nat → Nat) (p : Nat × Bool) : Nat := M (2 * p.1 + if p.2 then 0 else 1)
def mkBe (M : Nat → Nat) (p : Nat × Bool) : Nat := M (2 * p.1 + if p.2 then 1 else 0)
def seenA (M : Nat → Nat) (L : zLy) (c : Nat) : Nat := match (zcol L (c : Nat)).getLast? with
  | some p => mkAb M p
  | none => 0
def seenB (M : Nat → Nat) (L : zLy) (c : Nat) : Nat := match (zcol L (c : Nat)).head? with
  | some p => mkBe M p
  | none => 0
def topN (M : Nat → Nat) (L : zLy) : Nat := zsum (seenA M L) L.length
def undN (M : Nat → Nat) (L : zLy) : Nat := zsum (seenB M L) L.length
def allN (M : Nat → Nat) (n : Nat) : Nat := zsum (fun c => M (2 * c) + M (2 * c + 1)) n
def fctN (M : Nat → Nat) (n : Nat) (L : zLy) (d g v : Nat) : Nat → Int := fun k => match k with
  | 0 => (L.length : Nat)
  | 1 => (lyTall L : Nat)
  | 2 => (d : Nat)
  | 3 => (topN M L : Nat)
  | 4 => (undN M L : Nat)
  | 5 => (allN M n : Nat) - (topN M L : Nat) - (undN M L : Nat)
  | 6 => (g : Nat)
  | 7 => (v : Nat)
  | _ => 0
theorem seenA_le {M : Nat → Nat} {L : zLy} {c : Nat} (h : ∀ i, M i ≤ 99) : seenA M L c ≤ 99 := by
  unfold seenA
  split
  · exact h _
  · exact Nat.zero_le _
theorem seenB_le {M : Nat → Nat} {L : zLy} {c : Nat} (h : ∀ i, M i ≤ 99) : seenB M L c ≤ 99 := by
  unfold seenB
  split
  · exact h _
  · exact Nat.zero_le _
theorem zsum_le {f : Nat → Nat} {n m : Nat} (h : ∀ i, f i ≤ m) : zsum f n ≤ n * m := by
  induction n with
  | zero => exact Nat.zero_le _
  | succ n ih =>
    have e : zsum f (n + 1) = zsum f n + f n := rfl
    have := h n
    rw [e, Nat.succ_mul]
    omega
theorem topN_le {M : Nat → Nat} {L : zLy} (h : ∀ i, M i ≤ 99) : topN M L ≤ L.length * 99 := zsum_le (fun _ => seenA_le h)
theorem undN_le {M : Nat → Nat} {L : zLy} (h : ∀ i, M i ≤ 99) : undN M L ≤ L.length * 99 := zsum_le (fun _ => seenB_le h)
theorem allN_le {M : Nat → Nat} {n : Nat} (h : ∀ i, M i ≤ 99) : allN M n ≤ n * 198 := zsum_le (fun c => by have h1 := h (2 * c); have h2 := h (2 * c + 1); show M (2 * c) + M (2 * c + 1) ≤ 198; omega)
theorem zcol_at {L : zLy} {c : Nat} {col : List (Nat × Bool)} (h : L[c]? = some col) : zcol L (c : Nat) = col := by
  have := (List.getElem?_eq_some_iff.mp h).1
  unfold zcol
  rw [if_pos (by omega), Int.toNat_natCast, List.getD_eq_getElem?_getD, h]
  rfl
/-- laws: numbers below 1000, facts from 1000 on, signs from 2000 on; what they come to -/
def clI (v : Int) : Int := max (-1000000) (min 1000000 v)
theorem clI_bd {v : Int} : -1000000 ≤ clI v ∧ clI v ≤ 1000000 := by unfold clI; omega
def opI (o : Nat) (a b : Int) : Int :=
  if o = 2001 then (if a + b > 1 then 1 else 0)
  else if o = 2002 then (if a + b > 0 then 1 else 0)
  else if o = 2003 then clI (a + b)
  else if o = 2004 then clI (a - b)
  else if o = 2005 then clI (a * b)
  else if o = 2006 then (if a = b then 1 else 0)
  else if o = 2007 then (if a < b then 1 else 0)
  else (if a > b then 1 else 0)
theorem opI_bd {o : Nat} {a b : Int} : -1000000 ≤ opI o a b ∧ opI o a b ≤ 1000000 := by
  unfold opI
  have h1 := clI_bd (v := a + b)
  have h2 := clI_bd (v := a - b)
  have h3 := clI_bd (v := a * b)
  repeat' split
  all_goals omega
def lwStep (F : Nat → Int) (o : Nat) (s : List Int) : Option (List Int) :=
  if o < 1000 then (if s.length < 64 then some ((o : Int) :: s) else none)
  else if o < 1008 then (if s.length < 64 then some (F (o - 1000) :: s) else none)
  else if o = 2000 then (match s with
    | x :: t => if x = 0 ∨ x = 1 then some ((1 - x) :: t) else none
    | [] => none)
  else if 2001 ≤ o ∧ o ≤ 2008 then (match s with
    | y :: x :: t => if o = 2001 ∨ o = 2002 then (if (x = 0 ∨ x = 1) ∧ (y = 0 ∨ y = 1) then some (opI o x y :: t) else none) else some (opI o x y :: t)
    | _ => none)
  else none
def lwRun (F : Nat → Int) : List Nat → List Int → Option (List Int)
  | [], s => some s
  | o :: l, s => match lwStep F o s with
    | some t => lwRun F l t
    | none => none
def bdI (v : Int) : Prop := -1000000 ≤ v ∧ v ≤ 1000000
def bdF (F : Nat → Int) : Prop := ∀ k, k < 8 → bdI (F k)
theorem lwStep_bd {F : Nat → Int} {o : Nat} {s t : List Int} (hF : bdF F) (hs : ∀ v ∈ s, bdI v) (hl : s.length ≤ 64) (h : lwStep F o s = some t) : (∀ v ∈ t, bdI v) ∧ t.length ≤ 64 := by
  unfold lwStep at h
  split at h
  · split at h
    · cases h
      refine ⟨fun v hv => ?_, by rw [List.length_cons]; omega⟩
      rcases List.mem_cons.mp hv with rfl | hv
      · unfold bdI; omega
      · exact hs v hv
    · cases h
  split at h
  · split at h
    · cases h
      refine ⟨fun v hv => ?_, by rw [List.length_cons]; omega⟩
      rcases List.mem_cons.mp hv with rfl | hv
      · exact hF _ (by omega)
      · exact hs v hv
    · cases h
  split at h
  · split at h
    · rename_i x u
      split at h
      · cases h
        rw [List.length_cons] at hl ⊢
        refine ⟨fun v hv => ?_, hl⟩
        rcases List.mem_cons.mp hv with rfl | hv
        · unfold bdI; omega
        · exact hs v (List.mem_cons_of_mem _ hv)
      · cases h
    · cases h
  split at h
  · split at h
    · rename_i y x u
      have key : ∀ z, bdI z → (∀ v ∈ (z :: u), bdI v) ∧ (z :: u).length ≤ 64 := by
        intro z hz
        rw [List.length_cons, List.length_cons] at hl
        refine ⟨fun v hv => ?_, by rw [List.length_cons]; omega⟩
        rcases List.mem_cons.mp hv with rfl | hv
        · exact hz
        · exact hs v (List.mem_cons_of_mem _ (List.mem_cons_of_mem _ hv))
      split at h
      · split at h
        · cases h
          exact key _ opI_bd
        · cases h
      · cases h
        exact key _ opI_bd
    · cases h
  · cases h
def lwVal (F : Nat → Int) (l : List Nat) : Int := match lwRun F l [] with
  | some [v] => v
  | _ => 0
def lawOk (m : Nat) (l : List Nat) : Prop := l.length ≤ 900 ∧ (∀ o ∈ l, 1000 ≤ o → o < 2000 → o < 1000 + m) ∧ (l = [] ∨ ∀ F, bdF F → ∃ v, lwRun F l [] = some [v])
def lawOk01 (m : Nat) (l : List Nat) : Prop := l.length ≤ 900 ∧ (∀ o ∈ l, 1000 ≤ o → o < 2000 → o < 1000 + m) ∧ (l = [] ∨ ∀ F, bdF F → ∃ v, lwRun F l [] = some [v] ∧ (v = 0 ∨ v = 1))
theorem lwStep_ca {F : Nat → Int} {o : Nat} {s t : List Int} (h : lwStep F o s = some t) : (o < 1000 ∧ s.length < 64 ∧ t = (o : Int) :: s) ∨ (1000 ≤ o ∧ o < 1008 ∧ s.length < 64 ∧ t = F (o - 1000) :: s) ∨ (o = 2000 ∧ ∃ x u, s = x :: u ∧ (x = 0 ∨ x = 1) ∧ t = (1 - x) :: u) ∨ (2001 ≤ o ∧ o ≤ 2008 ∧ ∃ y x u, s = y :: x :: u ∧ t = opI o x y :: u ∧ (o = 2001 ∨ o = 2002 → (x = 0 ∨ x = 1) ∧ (y = 0 ∨ y = 1))) := by
  unfold lwStep at h
  split at h
  · rename_i h0
    split at h
    · rename_i h1
      cases h
      exact Or.inl ⟨h0, h1, rfl⟩
    · cases h
  rename_i h0
  split at h
  · rename_i h1
    split at h
    · rename_i h2
      cases h
      exact Or.inr (Or.inl ⟨by omega, h1, h2, rfl⟩)
    · cases h
  split at h
  · rename_i h2
    split at h
    · rename_i x u
      split at h
      · rename_i h3
        cases h
        exact Or.inr (Or.inr (Or.inl ⟨h2, x, u, rfl, h3, rfl⟩))
      · cases h
    · cases h
  split at h
  · rename_i h3
    split at h
    · rename_i y x u
      split at h
      · split at h
        · rename_i h4
          cases h
          exact Or.inr (Or.inr (Or.inr ⟨h3.1, h3.2, y, x, u, rfl, rfl, fun _ => h4⟩))
        · cases h
      · rename_i h4
        cases h
        exact Or.inr (Or.inr (Or.inr ⟨h3.1, h3.2, y, x, u, rfl, rfl, fun e => absurd e h4⟩))
    · cases h
  · cases h
/-- a stack in a row, its top first -/
def stkR (g : Nat → Int32) (s : List Int) : Prop := ∀ (i : Nat) (v : Int), s[i]? = some v → (g (s.length - 1 - i)).toInt = v
theorem stkR_push {f : Nat → Nat → Int32} {a : Nat} {s : List Int} {x : Int32} {v : Int} (h : stkR (f a) s) (hx : x.toInt = v) : stkR (zu f a s.length x a) (v :: s) := by
  intro i u hu
  rw [List.length_cons]
  cases i with
  | zero =>
    simp at hu
    rw [show s.length + 1 - 1 - 0 = s.length by omega, zu_at, hx, hu]
  | succ i =>
    have hi : s[i]? = some u := by simpa using hu
    have := (List.getElem?_eq_some_iff.mp hi).1
    rw [zu_ni (by omega), show s.length + 1 - 1 - (i + 1) = s.length - 1 - i by omega]
    exact h i u hi
theorem stkR_pop {g : Nat → Int32} {s : List Int} {v : Int} (h : stkR g (v :: s)) : stkR g s := by
  intro i u hu
  have := h (i + 1) u (by simpa using hu)
  rw [List.length_cons] at this
  rw [← this]
  congr 2
  omega
theorem stkR_top {g : Nat → Int32} {s : List Int} {v : Int} (h : stkR g (v :: s)) : (g s.length).toInt = v := by
  have := h 0 v rfl
  rw [List.length_cons] at this
  exact this
/-- the top is changed -/
theorem stkR_set {f : Nat → Nat → Int32} {a : Nat} {s : List Int} {x : Int32} {v u : Int} (h : stkR (f a) (u :: s)) (hx : x.toInt = v) : stkR (zu f a s.length x a) (v :: s) := stkR_push (stkR_pop h) hx
theorem mul_bd {a b : Int} (ha : bdI a) (hb : bdI b) : -1000000000000 ≤ a * b ∧ a * b ≤ 1000000000000 := by
  unfold bdI at ha hb
  have h1 : a.natAbs ≤ 1000000 := by omega
  have h2 : b.natAbs ≤ 1000000 := by omega
  have h3 : (a * b).natAbs ≤ 1000000 * 1000000 := by rw [Int.natAbs_mul]; exact Nat.mul_le_mul h1 h2
  omega
/-- the reference's own numbers of the words -/
def rfO (o : Nat) : Nat :=
  if o < 1000 then 1000 + o
  else if o < 2000 then o - 900
  else if o = 2000 then 18
  else if o = 2001 then 16
  else if o = 2002 then 17
  else if o = 2003 then 10
  else if o = 2004 then 11
  else if o = 2005 then 12
  else if o = 2006 then 13
  else if o = 2007 then 14
  else 15
/-- a table: the napkin as told, its laws, how it is now, what can be undone -/
abbrev zTb : Type := zNm × (List Nat × List Nat × List Nat) × zMo × List zMo
abbrev tbC (T : zTb) : Nat := T.1.2.1.length
abbrev tbG (T : zTb) : Nat := T.1.2.2.length
def layM (n : Nat) (l : List Nat) : zLy := l.foldl (fun L d => lyFold L (d / 10) (d % 10)) (lyFlat n)
def okF (n : Nat) : List Nat → zLy → Prop
  | [], _ => True
  | d :: l, L => (1 ≤ d / 10 ∧ d / 10 < L.length ∧ d % 10 < 4) ∧ okF n l (lyFold L (d / 10) (d % 10))
def wfMo (n : Nat) (M : zMo) : Prop := okF n M.2 (lyFlat n) ∧ M.2.length ≤ 5 ∧ ∀ i, M.1 i ≤ 99
def wfT (T : zTb) : Prop := T.1.1 ≤ 900 ∧ tbC T ≤ 6 ∧ tbG T ≤ 4 ∧ (∀ v ∈ T.1.2.2, v ≤ 99) ∧ lawOk 6 T.2.1.1 ∧ lawOk01 6 T.2.1.2.1 ∧ lawOk 8 T.2.1.2.2 ∧ wfMo (tbC T) T.2.2.1 ∧ T.2.2.2.length ≤ 10 ∧ ∀ M ∈ T.2.2.2, wfMo (tbC T) M
def tbL (T : zTb) : zLy := layM (tbC T) T.2.2.1.2
theorem okF_rch {n : Nat} {l : List Nat} {L : zLy} (h : rch n L) (ho : okF n l L) : rch n (l.foldl (fun L d => lyFold L (d / 10) (d % 10)) L) := by
  induction l generalizing L with
  | nil => exact h
  | cons d l ih =>
    obtain ⟨⟨h1, h2, h3⟩, h4⟩ := ho
    exact ih (rch_fold h h1 h2 h3) h4
theorem wfT_rch {T : zTb} (h : wfT T) : rch (tbC T) (tbL T) := okF_rch (rch_flat h.2.1) h.2.2.2.2.2.2.2.1.1
/-- a moment as the reference keeps it; where a cell lies, in one number -/
def ctMk (K : Nat → Int32) (b : Nat) (M : zMo) : Prop := (K b).toInt = (M.2.length : Nat) ∧ (∀ i d, M.2[i]? = some d → (K (b + 1 + i)).toInt = (d : Nat)) ∧ ∀ c, c < 6 → (K (b + 6 + c)).toInt = (M.1 (2 * c) : Nat) ∧ (K (b + 12 + c)).toInt = (M.1 (2 * c + 1) : Nat)
def plcN (L : zLy) (c : Nat) : Nat := (16 * lyColOf L (c : Nat) + 2 * (lyPlace L (c : Nat) - (zst L (lyColOf L (c : Nat)) : Nat)) + (if lyUpAt L (lyPlace L (c : Nat)) then 1 else 0)).toNat
def crM (L : zLy) (k : Nat) : Nat := if plcN L k / 16 = plcN L (k + 1) / 16 then (if min (plcN L k) (plcN L (k + 1)) % 2 = 1 then 2 else 1) else 0
/-- the reference: its cell at A, its rows behind it -/
def mK : Nat → Nat
  | 4 => 23
  | 14 => 25
  | 20 => 25
  | _ => 21
def mN : Nat → Nat
  | 1 => 2912
  | 2 => 2912
  | 3 => 8736
  | 4 => 3
  | 5 => 900
  | 6 => 473
  | 7 => 6
  | 8 => 64
  | 9 => 8
  | 10 => 18
  | 11 => 5
  | 12 => 5
  | 13 => 4
  | 14 => 65536
  | 15 => 65536
  | 16 => 6
  | 17 => 600
  | 18 => 4
  | 19 => 4
  | 20 => 120
  | _ => 0
def mFd : List (Nat × Nat) := [(0, 1), (1, 2), (2, 3), (3, 4), (5, 5), (19, 6), (20, 7), (21, 8), (22, 9), (23, 10), (25, 11), (26, 12), (27, 13), (35, 14), (36, 15), (38, 16), (39, 17), (40, 18), (41, 19), (42, 20)]
def shM (w : zW) (A : Nat) : Prop := zK w A = 11 ∧ (∀ r, 1 ≤ r → r ≤ 20 → zK w (A + r) = mK r ∧ zN w (A + r) = mN r) ∧ ∀ q ∈ mFd, zP w A q.1 = some (A + q.2)
theorem shM_k {w : zW} {A : Nat} (h : shM w A) : zK w A = 11 := h.1
theorem shM_p1 {w : zW} {A : Nat} (h : shM w A) : zP w A 0 = some (A + 1) := h.2.2 (0, 1) (List.mem_of_getElem? (i := 0) rfl)
theorem shM_k1 {w : zW} {A : Nat} (h : shM w A) : zK w (A + 1) = 21 := (h.2.1 1 (by decide) (by decide)).1
theorem shM_n1 {w : zW} {A : Nat} (h : shM w A) : zN w (A + 1) = 2912 := (h.2.1 1 (by decide) (by decide)).2
theorem shM_p2 {w : zW} {A : Nat} (h : shM w A) : zP w A 1 = some (A + 2) := h.2.2 (1, 2) (List.mem_of_getElem? (i := 1) rfl)
theorem shM_k2 {w : zW} {A : Nat} (h : shM w A) : zK w (A + 2) = 21 := (h.2.1 2 (by decide) (by decide)).1
theorem shM_n2 {w : zW} {A : Nat} (h : shM w A) : zN w (A + 2) = 2912 := (h.2.1 2 (by decide) (by decide)).2
theorem shM_p3 {w : zW} {A : Nat} (h : shM w A) : zP w A 2 = some (A + 3) := h.2.2 (2, 3) (List.mem_of_getElem? (i := 2) rfl)
theorem shM_k3 {w : zW} {A : Nat} (h : shM w A) : zK w (A + 3) = 21 := (h.2.1 3 (by decide) (by decide)).1
theorem shM_n3 {w : zW} {A : Nat} (h : shM w A) : zN w (A + 3) = 8736 := (h.2.1 3 (by decide) (by decide)).2
theorem shM_p4 {w : zW} {A : Nat} (h : shM w A) : zP w A 3 = some (A + 4) := h.2.2 (3, 4) (List.mem_of_getElem? (i := 3) rfl)
theorem shM_k4 {w : zW} {A : Nat} (h : shM w A) : zK w (A + 4) = 23 := (h.2.1 4 (by decide) (by decide)).1
theorem shM_n4 {w : zW} {A : Nat} (h : shM w A) : zN w (A + 4) = 3 := (h.2.1 4 (by decide) (by decide)).2
theorem shM_p5 {w : zW} {A : Nat} (h : shM w A) : zP w A 5 = some (A + 5) := h.2.2 (5, 5) (List.mem_of_getElem? (i := 4) rfl)
theorem shM_k5 {w : zW} {A : Nat} (h : shM w A) : zK w (A + 5) = 21 := (h.2.1 5 (by decide) (by decide)).1
theorem shM_n5 {w : zW} {A : Nat} (h : shM w A) : zN w (A + 5) = 900 := (h.2.1 5 (by decide) (by decide)).2
theorem shM_p6 {w : zW} {A : Nat} (h : shM w A) : zP w A 19 = some (A + 6) := h.2.2 (19, 6) (List.mem_of_getElem? (i := 5) rfl)
theorem shM_k6 {w : zW} {A : Nat} (h : shM w A) : zK w (A + 6) = 21 := (h.2.1 6 (by decide) (by decide)).1
theorem shM_n6 {w : zW} {A : Nat} (h : shM w A) : zN w (A + 6) = 473 := (h.2.1 6 (by decide) (by decide)).2
theorem shM_p7 {w : zW} {A : Nat} (h : shM w A) : zP w A 20 = some (A + 7) := h.2.2 (20, 7) (List.mem_of_getElem? (i := 6) rfl)
theorem shM_k7 {w : zW} {A : Nat} (h : shM w A) : zK w (A + 7) = 21 := (h.2.1 7 (by decide) (by decide)).1
theorem shM_n7 {w : zW} {A : Nat} (h : shM w A) : zN w (A + 7) = 6 := (h.2.1 7 (by decide) (by decide)).2
theorem shM_p8 {w : zW} {A : Nat} (h : shM w A) : zP w A 21 = some (A + 8) := h.2.2 (21, 8) (List.mem_of_getElem? (i := 7) rfl)
theorem shM_k8 {w : zW} {A : Nat} (h : shM w A) : zK w (A + 8) = 21 := (h.2.1 8 (by decide) (by decide)).1
theorem shM_n8 {w : zW} {A : Nat} (h : shM w A) : zN w (A + 8) = 64 := (h.2.1 8 (by decide) (by decide)).2
theorem shM_p9 {w : zW} {A : Nat} (h : shM w A) : zP w A 22 = some (A + 9) := h.2.2 (22, 9) (List.mem_of_getElem? (i := 8) rfl)
theorem shM_k9 {w : zW} {A : Nat} (h : shM w A) : zK w (A + 9) = 21 := (h.2.1 9 (by decide) (by decide)).1
theorem shM_n9 {w : zW} {A : Nat} (h : shM w A) : zN w (A + 9) = 8 := (h.2.1 9 (by decide) (by decide)).2
theorem shM_p10 {w : zW} {A : Nat} (h : shM w A) : zP w A 23 = some (A + 10) := h.2.2 (23, 10) (List.mem_of_getElem? (i := 9) rfl)
theorem shM_k10 {w : zW} {A : Nat} (h : shM w A) : zK w (A + 10) = 21 := (h.2.1 10 (by decide) (by decide)).1
theorem shM_n10 {w : zW} {A : Nat} (h : shM w A) : zN w (A + 10) = 18 := (h.2.1 10 (by decide) (by decide)).2
theorem shM_p11 {w : zW} {A : Nat} (h : shM w A) : zP w A 25 = some (A + 11) := h.2.2 (25, 11) (List.mem_of_getElem? (i := 10) rfl)
theorem shM_k11 {w : zW} {A : Nat} (h : shM w A) : zK w (A + 11) = 21 := (h.2.1 11 (by decide) (by decide)).1
theorem shM_n11 {w : zW} {A : Nat} (h : shM w A) : zN w (A + 11) = 5 := (h.2.1 11 (by decide) (by decide)).2
theorem shM_p12 {w : zW} {A : Nat} (h : shM w A) : zP w A 26 = some (A + 12) := h.2.2 (26, 12) (List.mem_of_getElem? (i := 11) rfl)
theorem shM_k12 {w : zW} {A : Nat} (h : shM w A) : zK w (A + 12) = 21 := (h.2.1 12 (by decide) (by decide)).1
theorem shM_n12 {w : zW} {A : Nat} (h : shM w A) : zN w (A + 12) = 5 := (h.2.1 12 (by decide) (by decide)).2
theorem shM_p13 {w : zW} {A : Nat} (h : shM w A) : zP w A 27 = some (A + 13) := h.2.2 (27, 13) (List.mem_of_getElem? (i := 12) rfl)
theorem shM_k13 {w : zW} {A : Nat} (h : shM w A) : zK w (A + 13) = 21 := (h.2.1 13 (by decide) (by decide)).1
theorem shM_n13 {w : zW} {A : Nat} (h : shM w A) : zN w (A + 13) = 4 := (h.2.1 13 (by decide) (by decide)).2
theorem shM_p14 {w : zW} {A : Nat} (h : shM w A) : zP w A 35 = some (A + 14) := h.2.2 (35, 14) (List.mem_of_getElem? (i := 13) rfl)
theorem shM_k14 {w : zW} {A : Nat} (h : shM w A) : zK w (A + 14) = 25 := (h.2.1 14 (by decide) (by decide)).1
theorem shM_n14 {w : zW} {A : Nat} (h : shM w A) : zN w (A + 14) = 65536 := (h.2.1 14 (by decide) (by decide)).2
theorem shM_p15 {w : zW} {A : Nat} (h : shM w A) : zP w A 36 = some (A + 15) := h.2.2 (36, 15) (List.mem_of_getElem? (i := 14) rfl)
theorem shM_k15 {w : zW} {A : Nat} (h : shM w A) : zK w (A + 15) = 21 := (h.2.1 15 (by decide) (by decide)).1
theorem shM_n15 {w : zW} {A : Nat} (h : shM w A) : zN w (A + 15) = 65536 := (h.2.1 15 (by decide) (by decide)).2
theorem shM_p16 {w : zW} {A : Nat} (h : shM w A) : zP w A 38 = some (A + 16) := h.2.2 (38, 16) (List.mem_of_getElem? (i := 15) rfl)
theorem shM_k16 {w : zW} {A : Nat} (h : shM w A) : zK w (A + 16) = 21 := (h.2.1 16 (by decide) (by decide)).1
theorem shM_n16 {w : zW} {A : Nat} (h : shM w A) : zN w (A + 16) = 6 := (h.2.1 16 (by decide) (by decide)).2
theorem shM_p17 {w : zW} {A : Nat} (h : shM w A) : zP w A 39 = some (A + 17) := h.2.2 (39, 17) (List.mem_of_getElem? (i := 16) rfl)
theorem shM_k17 {w : zW} {A : Nat} (h : shM w A) : zK w (A + 17) = 21 := (h.2.1 17 (by decide) (by decide)).1
theorem shM_n17 {w : zW} {A : Nat} (h : shM w A) : zN w (A + 17) = 600 := (h.2.1 17 (by decide) (by decide)).2
theorem shM_p18 {w : zW} {A : Nat} (h : shM w A) : zP w A 40 = some (A + 18) := h.2.2 (40, 18) (List.mem_of_getElem? (i := 17) rfl)
theorem shM_k18 {w : zW} {A : Nat} (h : shM w A) : zK w (A + 18) = 21 := (h.2.1 18 (by decide) (by decide)).1
theorem shM_n18 {w : zW} {A : Nat} (h : shM w A) : zN w (A + 18) = 4 := (h.2.1 18 (by decide) (by decide)).2
theorem shM_p19 {w : zW} {A : Nat} (h : shM w A) : zP w A 41 = some (A + 19) := h.2.2 (41, 19) (List.mem_of_getElem? (i := 18) rfl)
theorem shM_k19 {w : zW} {A : Nat} (h : shM w A) : zK w (A + 19) = 21 := (h.2.1 19 (by decide) (by decide)).1
theorem shM_n19 {w : zW} {A : Nat} (h : shM w A) : zN w (A + 19) = 4 := (h.2.1 19 (by decide) (by decide)).2
theorem shM_p20 {w : zW} {A : Nat} (h : shM w A) : zP w A 42 = some (A + 20) := h.2.2 (42, 20) (List.mem_of_getElem? (i := 19) rfl)
theorem shM_k20 {w : zW} {A : Nat} (h : shM w A) : zK w (A + 20) = 25 := (h.2.1 20 (by decide) (by decide)).1
theorem shM_n20 {w : zW} {A : Nat} (h : shM w A) : zN w (A + 20) = 120 := (h.2.1 20 (by decide) (by decide)).2
/-- changed at most in the rows S and the own numbers K of the reference -/
def frM (A : Nat) (S K : List Nat) (f f2 : Nat → Nat → Int32) : Prop := (∀ q, q < A ∨ A + 21 ≤ q → f2 q = f q) ∧ (∀ r, 1 ≤ r → r ≤ 20 → r ∉ S → f2 (A + r) = f (A + r)) ∧ ∀ k, k ∉ K → f2 A k = f A k
theorem frM_rf {A : Nat} {S K : List Nat} {f : Nat → Nat → Int32} : frM A S K f f := ⟨fun _ _ => rfl, fun _ _ _ _ => rfl, fun _ _ => rfl⟩
theorem frM_tr {A : Nat} {S K : List Nat} {f f2 f3 : Nat → Nat → Int32} (h : frM A S K f f2) (h2 : frM A S K f2 f3) : frM A S K f f3 := ⟨fun q hq => (h2.1 q hq).trans (h.1 q hq), fun r a b c => (h2.2.1 r a b c).trans (h.2.1 r a b c), fun k hk => (h2.2.2 k hk).trans (h.2.2 k hk)⟩
theorem frM_su {A : Nat} {S K S2 K2 : List Nat} {f f2 : Nat → Nat → Int32} (h : frM A S K f f2) (hs : ∀ r ∈ S, r ∈ S2) (hk : ∀ k ∈ K, k ∈ K2) : frM A S2 K2 f f2 := ⟨h.1, fun r a b c => h.2.1 r a b (fun e => c (hs r e)), fun k e => h.2.2 k (fun e2 => e (hk k e2))⟩
theorem frM_zr {A : Nat} {S K : List Nat} {f f2 : Nat → Nat → Int32} {r i : Nat} {x : Int32} (h : frM A S K f f2) (h1 : 1 ≤ r) (h2 : r ≤ 20) (hr : r ∈ S) : frM A S K f (zu f2 (A + r) i x) := ⟨fun q hq => (zu_ne (by omega)).trans (h.1 q hq), fun r2 a b c => (zu_ne (fun e => c (by rw [show r2 = r by omega]; exact hr))).trans (h.2.1 r2 a b c), fun k hk => (zu_ne2 (by omega)).trans (h.2.2 k hk)⟩
theorem frM_zk {A : Nat} {S K : List Nat} {f f2 : Nat → Nat → Int32} {k : Nat} {x : Int32} (h : frM A S K f f2) (hk : k ∈ K) : frM A S K f (zu f2 A k x) := ⟨fun q hq => (zu_ne (by omega)).trans (h.1 q hq), fun r2 a b c => (zu_ne (by omega)).trans (h.2.1 r2 a b c), fun k2 hk2 => (zu_ni (fun e => hk2 (by rw [e]; exact hk))).trans (h.2.2 k2 hk2)⟩
