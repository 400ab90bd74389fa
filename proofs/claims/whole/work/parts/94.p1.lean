/-! THE TEXT READ, as a function: bytes B, so many n; a token is told by where it starts -/
def ruG (P : Nat → Bool) (n : Nat) : Nat → Nat → Nat
  | 0, p => p
  | k + 1, p => if p < n ∧ P p = true then ruG P n k (p + 1) else p
/-- the first place from p on where P does not hold, or the end -/
def ruE (P : Nat → Bool) (n p : Nat) : Nat := ruG P n (n - p) p
theorem ruG_eq {P : Nat → Bool} {n e : Nat} (h9 : ¬ (e < n ∧ P e = true)) : ∀ k p, p ≤ e → n - p ≤ k → (∀ q, p ≤ q → q < e → q < n ∧ P q = true) → ruG P n k p = e := by
  intro k
  induction k with
  | zero =>
    intro p h1 h2 h3
    show p = e
    rcases Nat.lt_or_ge p e with h4 | h4
    · have := (h3 p (Nat.le_refl p) h4).1
      omega
    · omega
  | succ k ih =>
    intro p h1 h2 h3
    show (if p < n ∧ P p = true then ruG P n k (p + 1) else p) = e
    rcases Nat.lt_or_ge p e with h4 | h4
    · rw [if_pos (h3 p (Nat.le_refl p) h4)]
      exact ih (p + 1) h4 (by omega) (fun q h5 h6 => h3 q (by omega) h6)
    · rw [show p = e by omega, if_neg h9]
theorem ruE_eq {P : Nat → Bool} {n p e : Nat} (h1 : p ≤ e) (h2 : ∀ q, p ≤ q → q < e → q < n ∧ P q = true) (h9 : ¬ (e < n ∧ P e = true)) : ruE P n p = e := ruG_eq h9 (n - p) p h1 (Nat.le_refl _) h2
theorem ruG_in {P : Nat → Bool} {n : Nat} : ∀ k p, p ≤ ruG P n k p ∧ (p ≤ n → ruG P n k p ≤ n) ∧ (∀ q, p ≤ q → q < ruG P n k p → P q = true) ∧ (n - p ≤ k → ¬ (ruG P n k p < n ∧ P (ruG P n k p) = true)) := by
  intro k
  induction k with
  | zero => exact fun p => ⟨Nat.le_refl p, fun h_z => h_z, fun q h1 h2 => absurd h2 (Nat.not_lt.mpr h1), fun h1 h2 => absurd h2.1 (by show ¬ p < n; omega)⟩
  | succ k ih =>
    intro p
    by_cases h1 : p < n ∧ P p = true
    · have e : ruG P n (k + 1) p = ruG P n k (p + 1) := if_pos h1
      rw [e]
      obtain ⟨a1, a2, a3, a4⟩ := ih (p + 1)
      refine ⟨by omega, fun _ => a2 (by omega), fun q h2 h3 => ?_, fun h2 => a4 (by omega)⟩
      rcases Nat.lt_or_ge p q with h4 | h4
      · exact a3 q h4 h3
      · rw [show q = p by omega]
        exact h1.2
    · have e : ruG P n (k + 1) p = p := if_neg h1
      rw [e]
      exact ⟨Nat.le_refl p, fun h_z => h_z, fun q h2 h3 => absurd h3 (Nat.not_lt.mpr h2), fun _ => h1⟩
theorem ruE_ge {P : Nat → Bool} {n p : Nat} : p ≤ ruE P n p := (ruG_in (n - p) p).1
theorem ruE_le {P : Nat → Bool} {n p : Nat} (h_z : p ≤ n) : ruE P n p ≤ n := (ruG_in (n - p) p).2.1 h_z
theorem ruE_in {P : Nat → Bool} {n p q : Nat} (h1 : p ≤ q) (h2 : q < ruE P n p) : P q = true := (ruG_in (n - p) p).2.2.1 q h1 h2
theorem ruE_no {P : Nat → Bool} {n p : Nat} : ¬ (ruE P n p < n ∧ P (ruE P n p) = true) := (ruG_in (n - p) p).2.2.2 (Nat.le_refl _)
def isDg (c : Nat) : Bool := decide (48 ≤ c ∧ c ≤ 57)
def isLt (c : Nat) : Bool := decide (97 ≤ c ∧ c ≤ 122)
def isSp (c : Nat) : Bool := decide (c = 32 ∨ c = 10)
def isSg (c : Nat) : Bool := decide (c ∈ [59, 58, 43, 45, 42, 40, 41, 91, 93, 61, 60, 62])
/-- where the token that starts at s ends -/
def teP (B : Nat → Nat) (n s : Nat) : Nat := if n ≤ s then s else if isDg (B s) = true then ruE (fun q => isDg (B q)) n s else if isLt (B s) = true then ruE (fun q => isLt (B q)) n s else s + 1
/-- its kind: 0 the end, 1 none, 2 a number, 3 a word, else the sign -/
def tkP (B : Nat → Nat) (n s : Nat) : Nat := if n ≤ s then 0 else if isDg (B s) = true then (if 3 < teP B n s - s then 1 else 2) else if isLt (B s) = true then 3 else if isSg (B s) = true then B s else 1
def dgV (B : Nat → Nat) (s : Nat) : Nat → Nat
  | 0 => 0
  | k + 1 => 10 * dgV B s k + (B (s + k) - 48)
def nmP (B : Nat → Nat) (n s : Nat) : Nat := dgV B s (teP B n s - s)
/-- where the next token starts -/
def nxP (B : Nat → Nat) (n s : Nat) : Nat := ruE (fun q => isSp (B q)) n (teP B n s)
def wdL : List (List Nat) := [[99, 101, 108, 108], [98, 97, 99, 107], [103, 117, 101, 115, 116], [119, 111, 114, 116, 104], [104, 111, 108, 100, 115], [108, 105, 107, 101, 115], [111, 114], [97, 110, 100], [110, 111, 116], [119, 105, 100, 101], [104, 105, 103, 104], [102, 111, 108, 100, 115], [116, 111, 112], [117, 110, 100, 101, 114], [104, 105, 100, 100, 101, 110], [119, 97, 110, 116]]
def ltP (B : Nat → Nat) (s e : Nat) : List Nat := (List.range (e - s)).map (fun k => B (s + k))
/-- which word it is: 16 none -/
def wdP (B : Nat → Nat) (n s : Nat) : Nat := wdL.idxOf (ltP B s (teP B n s))
def isWd (B : Nat → Nat) (n s i : Nat) : Bool := decide (tkP B n s = 3 ∧ wdP B n s = i)
def baP (B : Nat → Nat) (n s : Nat) : Nat := if tkP B n s = 1 then 1 else 2
theorem teP_gt {B : Nat → Nat} {n s : Nat} (h_z : s < n) : s < teP B n s ∧ teP B n s ≤ n := by
  unfold teP
  rw [if_neg (by omega)]
  by_cases h1 : isDg (B s) = true
  · rw [if_pos h1]
    refine ⟨?_, ruE_le (by omega)⟩
    have h2 := ruE_no (P := fun q => isDg (B q)) (n := n) (p := s)
    have h3 := ruE_ge (P := fun q => isDg (B q)) (n := n) (p := s)
    rcases Nat.lt_or_ge s (ruE (fun q => isDg (B q)) n s) with h4 | h4
    · exact h4
    · rw [show ruE (fun q => isDg (B q)) n s = s by omega] at h2
      exact absurd ⟨h_z, h1⟩ h2
  · rw [if_neg h1]
    by_cases h1 : isLt (B s) = true
    · rw [if_pos h1]
      refine ⟨?_, ruE_le (by omega)⟩
      have h2 := ruE_no (P := fun q => isLt (B q)) (n := n) (p := s)
      have h3 := ruE_ge (P := fun q => isLt (B q)) (n := n) (p := s)
      rcases Nat.lt_or_ge s (ruE (fun q => isLt (B q)) n s) with h4 | h4
      · exact h4
      · rw [show ruE (fun q => isLt (B q)) n s = s by omega] at h2
        exact absurd ⟨h_z, h1⟩ h2
    · rw [if_neg h1]
      omega
theorem nxP_gt {B : Nat → Nat} {n s : Nat} (h_z : s < n) : s < nxP B n s ∧ nxP B n s ≤ n := by
  have h1 := teP_gt (B := B) h_z
  have h2 := ruE_ge (P := fun q => isSp (B q)) (n := n) (p := teP B n s)
  have h3 := ruE_le (P := fun q => isSp (B q)) (n := n) (p := teP B n s) h1.2
  unfold nxP
  omega
theorem isSg_mem {c : Nat} (h_z : isSg c = true) : c ∈ [59, 58, 43, 45, 42, 40, 41, 91, 93, 61, 60, 62] := of_decide_eq_true h_z
theorem isSg_bd {c : Nat} (h_z : isSg c = true) : 40 ≤ c ∧ c ≤ 93 := by
  have h1 := isSg_mem h_z
  simp only [List.mem_cons, List.not_mem_nil, or_false] at h1
  omega
theorem tk0 {B : Nat → Nat} {n s : Nat} : tkP B n s = 0 ↔ n ≤ s := by
  unfold tkP
  by_cases h_z : n ≤ s
  · rw [if_pos h_z]
    exact ⟨fun _ => h_z, fun _ => rfl⟩
  · rw [if_neg h_z]
    refine ⟨fun h2 => ?_, fun h2 => absurd h2 h_z⟩
    split at h2
    · split at h2 <;> omega
    split at h2
    · omega
    split at h2
    · rename_i h3
      have := isSg_bd h3
      omega
    · omega
theorem tk_lt {B : Nat → Nat} {n s : Nat} (h_z : tkP B n s ≠ 0) : s < n := by
  rcases Nat.lt_or_ge s n with h1 | h1
  · exact h1
  · exact absurd (tk0.mpr h1) h_z
theorem tk2 {B : Nat → Nat} {n s : Nat} (h_z : tkP B n s = 2) : s < n ∧ isDg (B s) = true ∧ teP B n s - s ≤ 3 := by
  have hl : s < n := tk_lt (B := B) (by omega)
  refine ⟨hl, ?_⟩
  unfold tkP at h_z
  rw [if_neg (by omega)] at h_z
  by_cases h1 : isDg (B s) = true
  · rw [if_pos h1] at h_z
    refine ⟨h1, ?_⟩
    rcases Nat.lt_or_ge 3 (teP B n s - s) with h3 | h3
    · rw [if_pos h3] at h_z
      omega
    · exact h3
  · rw [if_neg h1] at h_z
    exfalso
    split at h_z
    · omega
    split at h_z
    · rename_i h3
      have := isSg_bd h3
      omega
    · omega
theorem isDg_bd {c : Nat} (h_z : isDg c = true) : 48 ≤ c ∧ c ≤ 57 := of_decide_eq_true h_z
theorem isLt_bd {c : Nat} (h_z : isLt c = true) : 97 ≤ c ∧ c ≤ 122 := of_decide_eq_true h_z
theorem te_dg {B : Nat → Nat} {n s q : Nat} (hl : s < n) (h_z : isDg (B s) = true) (h1 : s ≤ q) (h2 : q < teP B n s) : isDg (B q) = true := by
  unfold teP at h2
  rw [if_neg (by omega), if_pos h_z] at h2
  exact ruE_in (P := fun q => isDg (B q)) h1 h2
theorem dgV_bd {B : Nat → Nat} {s : Nat} : ∀ k, (∀ q, s ≤ q → q < s + k → isDg (B q) = true) → dgV B s k < 10 ^ k := by
  intro k
  induction k with
  | zero => exact fun _ => by show 0 < 10 ^ 0; decide
  | succ k ih =>
    intro h_z
    have h1 := ih (fun q h1 h2 => h_z q h1 (by omega))
    have h2 := isDg_bd (h_z (s + k) (by omega) (by omega))
    show 10 * dgV B s k + (B (s + k) - 48) < 10 ^ (k + 1)
    rw [Nat.pow_succ]
    omega
theorem nm_bd {B : Nat → Nat} {n s : Nat} (h_z : tkP B n s = 2) : nmP B n s ≤ 999 := by
  obtain ⟨h1, h2, h3⟩ := tk2 h_z
  have h4 := dgV_bd (B := B) (s := s) (teP B n s - s) (fun q h5 h6 => te_dg h1 h2 h5 (by omega))
  have h5 : 10 ^ (teP B n s - s) ≤ 10 ^ 3 := Nat.pow_le_pow_right (by decide) h3
  unfold nmP
  have h6 : (10 : Nat) ^ 3 = 1000 := by decide
  omega
/-! a reading's outcome: 0 or the fault's kind; where the next token starts or the fault stands; the law's codes -/
abbrev zPR : Type := Nat × Nat × List Nat
def lpP (B : Nat → Nat) (n : Nat) (sub : Nat → zPR) (op : Nat → Nat) : Nat → zPR → zPR
  | 0, r => r
  | k + 1, r => if r.1 ≠ 0 then r else if op r.2.1 = 0 then r else if (sub (nxP B n r.2.1)).1 ≠ 0 then sub (nxP B n r.2.1) else lpP B n sub op k (0, (sub (nxP B n r.2.1)).2.1, r.2.2 ++ (sub (nxP B n r.2.1)).2.2 ++ [op r.2.1])
/-- operands with signs between them -/
def chP (B : Nat → Nat) (n : Nat) (sub : Nat → zPR) (op : Nat → Nat) (s : Nat) : zPR := lpP B n sub op n (sub s)
def opT (B : Nat → Nat) (n s : Nat) : Nat := if tkP B n s = 42 then 2005 else 0
def opS (B : Nat → Nat) (n s : Nat) : Nat := if tkP B n s = 43 then 2003 else if tkP B n s = 45 then 2004 else 0
def opA (B : Nat → Nat) (n s : Nat) : Nat := if isWd B n s 7 = true then 2001 else 0
def opO (B : Nat → Nat) (n s : Nat) : Nat := if isWd B n s 6 = true then 2002 else 0
def opC (B : Nat → Nat) (n s : Nat) : Nat := if tkP B n s = 61 then 2006 else if tkP B n s = 60 then 2007 else if tkP B n s = 62 then 2008 else 0
/-- a word's fact: 8 none -/
def fcP (i : Nat) : Nat := if i = 2 then 6 else if i = 15 then 7 else if 9 ≤ i ∧ i ≤ 14 then i - 9 else 8
def clP (B : Nat → Nat) (n c : Nat) (r : zPR) : zPR := if r.1 ≠ 0 then r else if tkP B n r.2.1 = c then (0, nxP B n r.2.1, r.2.2) else (baP B n r.2.1, r.2.1, [])
/-- an atom without brackets; m facts count -/
def a1P (B : Nat → Nat) (n m s : Nat) : zPR := if tkP B n s = 2 then (0, nxP B n s, [nmP B n s]) else if tkP B n s = 3 ∧ fcP (wdP B n s) < m then (0, nxP B n s, [1000 + fcP (wdP B n s)]) else (baP B n s, s, [])
def suP (B : Nat → Nat) (n : Nat) (a : Nat → zPR) (s : Nat) : zPR := chP B n (chP B n a (opT B n)) (opS B n) s
/-- an atom, d brackets may still be opened -/
def atP (B : Nat → Nat) (n m : Nat) : Nat → Nat → zPR
  | 0, s => if tkP B n s = 40 then (4, s, []) else a1P B n m s
  | d + 1, s => if tkP B n s = 40 then clP B n 41 (suP B n (atP B n m d) (nxP B n s)) else a1P B n m s
def smP (B : Nat → Nat) (n m d s : Nat) : zPR := suP B n (atP B n m d) s
def cmP (B : Nat → Nat) (n : Nat) (sm : Nat → zPR) (s : Nat) : zPR := if (sm s).1 ≠ 0 then sm s else if opC B n (sm s).2.1 = 0 then (baP B n (sm s).2.1, (sm s).2.1, []) else if (sm (nxP B n (sm s).2.1)).1 ≠ 0 then sm (nxP B n (sm s).2.1) else (0, (sm (nxP B n (sm s).2.1)).2.1, (sm s).2.2 ++ (sm (nxP B n (sm s).2.1)).2.2 ++ [opC B n (sm s).2.1])
def trU (B : Nat → Nat) (n : Nat) (u : Nat → zPR) (s : Nat) : zPR := chP B n (chP B n u (opA B n)) (opO B n) s
def noP (r : zPR) : zPR := if r.1 ≠ 0 then r else (0, r.2.1, r.2.2 ++ [2000])
def unP (B : Nat → Nat) (n m : Nat) : Nat → Nat → zPR
  | 0, s => if isWd B n s 8 = true ∨ tkP B n s = 91 then (4, s, []) else cmP B n (smP B n m 0) s
  | d + 1, s => if isWd B n s 8 = true then noP (unP B n m d (nxP B n s)) else if tkP B n s = 91 then clP B n 93 (trU B n (unP B n m d) (nxP B n s)) else cmP B n (smP B n m (d + 1)) s
def trP (B : Nat → Nat) (n m d s : Nat) : zPR := trU B n (unP B n m d) s
theorem lpP_bad {B : Nat → Nat} {n k : Nat} {sub : Nat → zPR} {op : Nat → Nat} {r : zPR} (h_z : r.1 ≠ 0) : lpP B n sub op k r = r := by
  cases k with
  | zero => rfl
  | succ k => exact if_pos h_z
theorem lpP_end {B : Nat → Nat} {n k : Nat} {sub : Nat → zPR} {op : Nat → Nat} {r : zPR} (h_z : op r.2.1 = 0) : lpP B n sub op k r = r := by
  cases k with
  | zero => rfl
  | succ k =>
    by_cases h1 : r.1 ≠ 0
    · exact if_pos h1
    · exact (if_neg h1).trans (if_pos h_z)
theorem lpP_sub {B : Nat → Nat} {n k : Nat} {sub : Nat → zPR} {op : Nat → Nat} {r : zPR} (h1 : r.1 = 0) (h_z : op r.2.1 ≠ 0) (h2 : (sub (nxP B n r.2.1)).1 ≠ 0) : lpP B n sub op (k + 1) r = sub (nxP B n r.2.1) := (if_neg (not_not_intro h1)).trans ((if_neg h_z).trans (if_pos h2))
theorem lpP_on {B : Nat → Nat} {n k : Nat} {sub : Nat → zPR} {op : Nat → Nat} {r : zPR} (h1 : r.1 = 0) (h_z : op r.2.1 ≠ 0) (h2 : (sub (nxP B n r.2.1)).1 = 0) : lpP B n sub op (k + 1) r = lpP B n sub op k (0, (sub (nxP B n r.2.1)).2.1, r.2.2 ++ (sub (nxP B n r.2.1)).2.2 ++ [op r.2.1]) := (if_neg (not_not_intro h1)).trans ((if_neg h_z).trans (if_neg (not_not_intro h2)))
/-! codes that run well on a stack with so much room -/
theorem lwRun_ap {F : Nat → Int} : ∀ (a b : List Nat) (s t : List Int), lwRun F a s = some t → lwRun F (a ++ b) s = lwRun F b t := by
  intro a
  induction a with
  | nil =>
    intro b s t h_z
    cases h_z
    rfl
  | cons o a ih =>
    intro b s t h_z
    rw [lwRun] at h_z
    rw [List.cons_append, lwRun]
    cases hs : lwStep F o s with
    | none => rw [hs] at h_z; cases h_z
    | some u =>
      rw [hs] at h_z
      exact ih b u t h_z
def rnK (b : Bool) (m D : Nat) (c : List Nat) : Prop := c ≠ [] ∧ (∀ o ∈ c, 1000 ≤ o → o < 2000 → o < 1000 + m) ∧ ∀ F, bdF F → ∃ v, (b = true → v = 0 ∨ v = 1) ∧ ∀ st : List Int, st.length + D ≤ 64 → lwRun F c st = some (v :: st)
theorem rnK_mo {b : Bool} {m D E : Nat} {c : List Nat} (h_z : rnK b m D c) (hd_z : D ≤ E) : rnK b m E c := by
  refine ⟨h_z.1, h_z.2.1, fun F hF => ?_⟩
  obtain ⟨v, h1, h2⟩ := h_z.2.2 F hF
  exact ⟨v, h1, fun st hs => h2 st (by omega)⟩
theorem rnK_num {m v : Nat} (h_z : v ≤ 999) : rnK false m 1 [v] := by
  refine ⟨by simp, fun o ho h1 _ => ?_, fun F _ => ⟨(v : Int), fun e => Bool.noConfusion e, fun st hs => ?_⟩⟩
  · rw [List.mem_singleton] at ho
    omega
  · show (match lwStep F v st with
      | some t => lwRun F [] t
      | none => none) = _
    unfold lwStep
    rw [if_pos (by omega), if_pos (by omega)]
    rfl
theorem rnK_fact {m k : Nat} (h_z : k < m) (hm_z : m ≤ 8) : rnK false m 1 [1000 + k] := by
  refine ⟨by simp, fun o ho h1 _ => ?_, fun F _ => ⟨F k, fun e => Bool.noConfusion e, fun st hs => ?_⟩⟩
  · rw [List.mem_singleton] at ho
    omega
  · show (match lwStep F (1000 + k) st with
      | some t => lwRun F [] t
      | none => none) = _
    unfold lwStep
    rw [if_neg (by omega), if_pos (by omega), if_pos (by omega), Nat.add_sub_cancel_left]
    rfl
theorem rnK_not {m D : Nat} {c : List Nat} (h_z : rnK true m D c) : rnK true m D (c ++ [2000]) := by
  refine ⟨by simp, fun o ho h1 h2 => ?_, fun F hF => ?_⟩
  · rcases List.mem_append.mp ho with h3 | h3
    · exact h_z.2.1 o h3 h1 h2
    · rw [List.mem_singleton] at h3
      omega
  · obtain ⟨v, hv, hr⟩ := h_z.2.2 F hF
    have hv := hv rfl
    refine ⟨1 - v, fun _ => by omega, fun st hs => ?_⟩
    rw [lwRun_ap c [2000] st _ (hr st hs)]
    show (match lwStep F 2000 (v :: st) with
      | some t => lwRun F [] t
      | none => none) = _
    unfold lwStep
    rw [if_neg (by decide), if_neg (by decide), if_pos rfl]
    show (match (if v = 0 ∨ v = 1 then some ((1 - v) :: st) else none) with
      | some t => lwRun F [] t
      | none => none) = _
    rw [if_pos hv]
    rfl
def opK (b b2 : Bool) (o : Nat) : Prop := (b = true ∧ b2 = true ∧ (o = 2001 ∨ o = 2002)) ∨ (b = false ∧ b2 = false ∧ (o = 2003 ∨ o = 2004 ∨ o = 2005)) ∨ (b = false ∧ b2 = true ∧ (o = 2006 ∨ o = 2007 ∨ o = 2008))
theorem opI_01 {o : Nat} {x y : Int} (h_z : o = 2001 ∨ o = 2002 ∨ o = 2006 ∨ o = 2007 ∨ o = 2008) : opI o x y = 0 ∨ opI o x y = 1 := by
  unfold opI
  rcases h_z with rfl | rfl | rfl | rfl | rfl
  · rw [if_pos rfl]
    split <;> omega
  · rw [if_neg (by decide), if_pos rfl]
    split <;> omega
  · rw [if_neg (by decide), if_neg (by decide), if_neg (by decide), if_neg (by decide), if_neg (by decide), if_pos rfl]
    split <;> omega
  · rw [if_neg (by decide), if_neg (by decide), if_neg (by decide), if_neg (by decide), if_neg (by decide), if_neg (by decide), if_pos rfl]
    split <;> omega
  · rw [if_neg (by decide), if_neg (by decide), if_neg (by decide), if_neg (by decide), if_neg (by decide), if_neg (by decide), if_neg (by decide)]
    split <;> omega
theorem rnK_bin {b b2 : Bool} {m D E o : Nat} {c d : List Nat} (h1 : rnK b m D c) (h2 : rnK b m E d) (hd_z : E + 1 ≤ D) (ho : opK b b2 o) : rnK b2 m D (c ++ d ++ [o]) := by
  have ho2 : 2001 ≤ o ∧ o ≤ 2008 := by
    rcases ho with ⟨_, _, h_z⟩ | ⟨_, _, h_z⟩ | ⟨_, _, h_z⟩ <;> omega
  refine ⟨by simp, fun q hq h3 h4 => ?_, fun F hF => ?_⟩
  · rcases List.mem_append.mp hq with h5 | h5
    · rcases List.mem_append.mp h5 with h6 | h6
      · exact h1.2.1 q h6 h3 h4
      · exact h2.2.1 q h6 h3 h4
    · rw [List.mem_singleton] at h5
      omega
  · obtain ⟨x, hx, hrx⟩ := h1.2.2 F hF
    obtain ⟨y, hy, hry⟩ := h2.2.2 F hF
    refine ⟨opI o x y, fun hb_z => opI_01 ?_, fun st hs => ?_⟩
    · rcases ho with ⟨_, _, h_z⟩ | ⟨_, h6, _⟩ | ⟨_, _, h_z⟩
      · omega
      · rw [hb_z] at h6
        cases h6
      · omega
    · rw [List.append_assoc, lwRun_ap c (d ++ [o]) st _ (hrx st hs), lwRun_ap d [o] (x :: st) _ (hry (x :: st) (by rw [List.length_cons]; omega))]
      show (match lwStep F o (y :: x :: st) with
        | some t => lwRun F [] t
        | none => none) = _
      unfold lwStep
      rw [if_neg (by omega), if_neg (by omega), if_neg (by omega), if_pos ho2]
      show (match (if o = 2001 ∨ o = 2002 then (if (x = 0 ∨ x = 1) ∧ (y = 0 ∨ y = 1) then some (opI o x y :: st) else none) else some (opI o x y :: st)) with
        | some t => lwRun F [] t
        | none => none) = _
      by_cases h5 : o = 2001 ∨ o = 2002
      · have hb_z : b = true := by
          rcases ho with ⟨h_z, _, _⟩ | ⟨_, _, h_z⟩ | ⟨_, _, h_z⟩
          · exact h_z
          · omega
          · omega
        rw [if_pos h5, if_pos ⟨hx hb_z, hy hb_z⟩]
        rfl
      · rw [if_neg h5]
        rfl
