/-! stacks: the class's way and the reference's -/
theorem btR_x {v a b : Int} (h1 : v ≠ a) (h2 : v ≠ b) : btR v a b ↔ ¬ (a < v ↔ b < v) := by
  unfold btR
  omega
theorem crs {a b c d : Int} (h1 : a ≠ c) (h2 : a ≠ d) (h3 : b ≠ c) (h4 : b ≠ d) : (btR a c d ↔ btR b c d) ↔ (btR c a b ↔ btR d a b) := by
  rw [btR_x h1 h2, btR_x h3 h4, btR_x (Ne.symm h1) (Ne.symm h3), btR_x (Ne.symm h2) (Ne.symm h4)]
  have e1_z : a < c ↔ ¬ c < a := by omega
  have e2_z : b < c ↔ ¬ c < b := by omega
  have e3_z : a < d ↔ ¬ d < a := by omega
  have e4_z : b < d ↔ ¬ d < b := by omega
  rw [e1_z, e2_z, e3_z, e4_z]
  by_cases p1 : c < a <;> by_cases p2 : d < a <;> by_cases p3 : c < b <;> by_cases p4 : d < b <;> simp [p1, p2, p3, p4]
theorem posW_at {l : List Int} {c : Nat} : ∀ k, (∃ i : Nat, i < k ∧ l[i]? = some ((c : Nat) : Int)) → ∃ i : Nat, i < k ∧ l[i]? = some ((c : Nat) : Int) ∧ posW l k c = ((i : Nat) : Int) := by
  intro k
  induction k with
  | zero => exact fun ⟨i, h_z, _⟩ => absurd h_z (Nat.not_lt_zero _)
  | succ k ih =>
    rintro ⟨i, h1, h2⟩
    have hs : posW l (k + 1) c = if l[k]? = some ((c : Nat) : Int) then ((k : Nat) : Int) else posW l k c := rfl
    by_cases h9 : l[k]? = some ((c : Nat) : Int)
    · exact ⟨k, Nat.lt_succ_self k, h9, by rw [hs, if_pos h9]⟩
    · rcases Nat.lt_or_ge i k with h8 | h8
      · obtain ⟨i2_z, a1, a2, a3⟩ := ih ⟨i, h8, h2⟩
        exact ⟨i2_z, by omega, a2, by rw [hs, if_neg h9]; exact a3⟩
      · exact absurd (show l[k]? = some ((c : Nat) : Int) by rw [show k = i by omega]; exact h2) h9
theorem posW_inj {l : List Int} {n a b : Nat} (h_z : onceC l n) (ha_z : a < n) (hb_z : b < n) (hab : a ≠ b) : posW l l.length a ≠ posW l l.length b := by
  intro e
  obtain ⟨i, hi_z⟩ := once_has h_z ha_z
  obtain ⟨k, hk⟩ := once_has h_z hb_z
  obtain ⟨i2_z, -, a2, a3⟩ := posW_at (c := a) l.length ⟨i, (List.getElem?_eq_some_iff.mp hi_z).1, hi_z⟩
  obtain ⟨k2_z, -, b2, b3⟩ := posW_at (c := b) l.length ⟨k, (List.getElem?_eq_some_iff.mp hk).1, hk⟩
  rw [a3, b3] at e
  rw [show i2_z = k2_z by omega, b2] at a2
  have := Option.some.inj a2
  omega
theorem eq_stands {l : List Int} {n : Nat} (h_z : onceC l n) : standC l ↔ canB n (posW l l.length) = true := by
  have hl : l.length = n := by have := h_z.1; omega
  rw [canB_iff]
  have ne := fun a b (ha_z : a < n) (hb_z : b < n) (hab : a ≠ b) => posW_inj h_z ha_z hb_z hab
  constructor
  · intro hs k m h1 h2 h3
    have h4 := hs (m + 1) (by omega) (k + 1) (by omega) (by omega) (by omega)
    rw [Nat.add_sub_cancel, Nat.add_sub_cancel] at h4
    exact (crs (ne k m (by omega) (by omega) (by omega)) (ne k (m + 1) (by omega) (by omega) (by omega)) (ne (k + 1) m (by omega) (by omega) (by omega)) (ne (k + 1) (m + 1) (by omega) (by omega) (by omega))).mp h4
  · intro hc_z c hcl o h1 h2 h3
    have h4 := hc_z (o - 1) (c - 1) (by omega) (by omega) (by omega)
    rw [show o - 1 + 1 = o by omega, show c - 1 + 1 = c by omega] at h4
    exact (crs (ne (o - 1) (c - 1) (by omega) (by omega) (by omega)) (ne (o - 1) c (by omega) (by omega) (by omega)) (ne o (c - 1) (by omega) (by omega) (by omega)) (ne o c (by omega) (by omega) (by omega))).mpr h4
def frB (c : Nat) (Pl : Nat → Int) (p : Nat) : Bool := (List.range c).all (fun i => decide (Pl i ≠ (p : Nat)))
def fitB (Pl : Nat → Int) (c : Nat) : Bool := (List.range (c + 1)).all (fun o => if 1 ≤ o ∧ o + 2 ≤ c ∧ (c - o) % 2 = 0 then btB (Pl (o - 1)) (Pl (c - 1)) (Pl c) == btB (Pl o) (Pl (c - 1)) (Pl c) else true)
theorem frB_iff {c p : Nat} {Pl : Nat → Int} : frB c Pl p = true ↔ ∀ i, i < c → Pl i ≠ (p : Nat) := by
  unfold frB
  rw [List.all_eq_true]
  exact ⟨fun h_z i hi_z => of_decide_eq_true (h_z i (List.mem_range.mpr hi_z)), fun h_z i hi_z => decide_eq_true (h_z i (List.mem_range.mp hi_z))⟩
theorem fitB_iff {c : Nat} {Pl : Nat → Int} : fitB Pl c = true ↔ fitC Pl c := by
  unfold fitB
  rw [List.all_eq_true]
  constructor
  · intro h_z o h1 h2 h3
    have h4 := h_z o (List.mem_range.mpr (by omega))
    rw [if_pos ⟨h1, h2, h3⟩, beq_iff_eq] at h4
    have h5 : btR (Pl (o - 1)) (Pl (c - 1)) (Pl c) ↔ btR (Pl o) (Pl (c - 1)) (Pl c) := by rw [← btB_iff, ← btB_iff, h4]
    exact h5
  · intro h_z o ho
    split
    · rename_i h9
      have h4 : btR (Pl (o - 1)) (Pl (c - 1)) (Pl c) ↔ btR (Pl o) (Pl (c - 1)) (Pl c) := h_z o h9.1 h9.2.1 h9.2.2
      rw [← btB_iff, ← btB_iff] at h4
      rw [beq_iff_eq]
      exact Bool.eq_iff_iff.mpr h4
    · rfl
def staD (n : Nat) : Nat → Nat → (Nat → Int) → Nat
  | 0, _, _ => 1
  | m + 1, c, Pl => sumW (fun p => if frB c Pl p = true ∧ fitB (updW Pl c (p : Nat)) c = true then staD n m (c + 1) (updW Pl c (p : Nat)) else 0) n
theorem staN_D {n : Nat} : ∀ (m c : Nat) (Pl : Nat → Int), staN n m c Pl = staD n m c Pl := by
  intro m
  induction m with
  | zero => exact fun _ _ => rfl
  | succ m ih =>
    intro c Pl
    show sumW (fun p => @ite _ ((∀ i, i < c → Pl i ≠ (p : Nat)) ∧ fitC (updW Pl c (p : Nat)) c) (Classical.propDecidable _) (staN n m (c + 1) (updW Pl c (p : Nat))) 0) n = sumW (fun p => if frB c Pl p = true ∧ fitB (updW Pl c (p : Nat)) c = true then staD n m (c + 1) (updW Pl c (p : Nat)) else 0) n
    congr 1
    funext p
    rw [ih]
    by_cases h_z : (∀ i, i < c → Pl i ≠ (p : Nat)) ∧ fitC (updW Pl c (p : Nat)) c
    · rw [if_pos h_z, if_pos ⟨frB_iff.mpr h_z.1, fitB_iff.mpr h_z.2⟩]
    · rw [if_neg h_z, if_neg (fun e => h_z ⟨frB_iff.mp e.1, fitB_iff.mp e.2⟩)]
theorem sta_fin : ∀ n, n < 7 → staD n n 0 (fun _ => 0) = staR n n 0 (fun _ => 0) 0 := by decide +kernel
theorem eq_stacks {n : Nat} (hn : n ≤ 6) : staN n n 0 (fun _ => 0) = staR n n 0 (fun _ => 0) 0 := by
  rw [staN_D]
  exact sta_fin n (by omega)
/-- the byte of a word as the class keeps it and as the reference does -/
def rbyW (x : Int32) (i : Nat) : Int32 := (x.toUInt32 >>> ((nI (24 - 8 * i)).toUInt32 &&& Int32.toUInt32 31)).toInt32 &&& 255
def rfdG (a b c d e : Int32) : Nat → Int32 := fun i => rbyW (feW a b c d e (i / 4)) (i % 4)
