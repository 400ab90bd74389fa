/-! the readings go on, stay inside, and their codes run -/
def gdP (n : Nat) (b : Bool) (m D s : Nat) (r : zPR) : Prop := (r.1 = 0 → s < r.2.1 ∧ r.2.1 ≤ n ∧ r.2.2.length + s ≤ r.2.1 ∧ rnK b m D r.2.2) ∧ (r.1 ≠ 0 → r.1 ≤ 4 ∧ s ≤ r.2.1 ∧ r.2.1 ≤ n)
theorem gd_mo {n m D E s : Nat} {b : Bool} {r : zPR} (h_z : gdP n b m D s r) (hd_z : D ≤ E) : gdP n b m E s r := ⟨fun h1 => ⟨(h_z.1 h1).1, (h_z.1 h1).2.1, (h_z.1 h1).2.2.1, rnK_mo (h_z.1 h1).2.2.2 hd_z⟩, h_z.2⟩
theorem gd_er {n m D s k p : Nat} {b : Bool} {c : List Nat} (h1 : k ≠ 0) (h2 : k ≤ 4) (h4 : s ≤ p) (h3 : p ≤ n) : gdP n b m D s (k, p, c) := ⟨fun h_z => absurd h_z h1, fun _ => ⟨h2, h4, h3⟩⟩
theorem ba_bd {B : Nat → Nat} {n s : Nat} : baP B n s ≠ 0 ∧ baP B n s ≤ 4 := by
  unfold baP
  split <;> exact ⟨by decide, by decide⟩
theorem gd_sh {n m D s t : Nat} {b : Bool} {r : zPR} (h_z : gdP n b m D t r) (hs : s ≤ t) : gdP n b m D s r := ⟨fun h1 => ⟨by have := (h_z.1 h1).1; omega, (h_z.1 h1).2.1, by have := (h_z.1 h1).2.2.1; omega, (h_z.1 h1).2.2.2⟩, fun h1 => ⟨(h_z.2 h1).1, Nat.le_trans hs (h_z.2 h1).2.1, (h_z.2 h1).2.2⟩⟩
theorem gd_lp {B : Nat → Nat} {n m E : Nat} {b : Bool} {sub : Nat → zPR} {op : Nat → Nat} (hsub : ∀ s, s ≤ n → gdP n b m E s (sub s)) (hop : ∀ s, op s ≠ 0 → s < n ∧ opK b b (op s)) : ∀ k s r, gdP n b m (E + 1) s r → gdP n b m (E + 1) s (lpP B n sub op k r) := by
  intro k
  induction k with
  | zero => exact fun s r h_z => h_z
  | succ k ih =>
    intro s r h_z
    by_cases h1 : r.1 = 0
    · by_cases h2 : op r.2.1 = 0
      · rw [lpP_end h2]
        exact h_z
      · obtain ⟨a1, a2, a3, a4⟩ := h_z.1 h1
        obtain ⟨b1, b2⟩ := hop _ h2
        obtain ⟨c1_z, c2_z⟩ := nxP_gt (B := B) b1
        have hq := hsub (nxP B n r.2.1) c2_z
        by_cases h3 : (sub (nxP B n r.2.1)).1 = 0
        · rw [lpP_on h1 h2 h3]
          obtain ⟨d1, d2, d3, d4⟩ := hq.1 h3
          refine ih s _ ⟨fun _ => ⟨by show s < (sub (nxP B n r.2.1)).2.1; omega, d2, ?_, rnK_bin a4 d4 (Nat.le_refl _) b2⟩, fun h9 => absurd rfl h9⟩
          show (r.2.2 ++ (sub (nxP B n r.2.1)).2.2 ++ [op r.2.1]).length + s ≤ (sub (nxP B n r.2.1)).2.1
          rw [List.length_append, List.length_append, List.length_singleton]
          omega
        · rw [lpP_sub h1 h2 h3]
          exact ⟨fun h9 => absurd h9 h3, fun h9 => ⟨(hq.2 h9).1, by have := (hq.2 h9).2.1; omega, (hq.2 h9).2.2⟩⟩
    · rw [lpP_bad h1]
      exact h_z
theorem gd_ch {B : Nat → Nat} {n m E s : Nat} {b : Bool} {sub : Nat → zPR} {op : Nat → Nat} (hsub : ∀ s, s ≤ n → gdP n b m E s (sub s)) (hop : ∀ s, op s ≠ 0 → s < n ∧ opK b b (op s)) (hs : s ≤ n) : gdP n b m (E + 1) s (chP B n sub op s) := gd_lp hsub hop n s _ (gd_mo (hsub s hs) (Nat.le_succ E))
theorem gd_cl {B : Nat → Nat} {n m D s t c : Nat} {b : Bool} {r : zPR} (hc_z : c ≠ 0) (h_z : gdP n b m D t r) (hs : s ≤ t) : gdP n b m D s (clP B n c r) := by
  unfold clP
  by_cases h1 : r.1 = 0
  · obtain ⟨a1, a2, a3, a4⟩ := h_z.1 h1
    rw [if_neg (not_not_intro h1)]
    by_cases h2 : tkP B n r.2.1 = c
    · rw [if_pos h2]
      have h3 := nxP_gt (B := B) (tk_lt (by rw [h2]; exact hc_z))
      exact ⟨fun _ => ⟨by show s < nxP B n r.2.1; omega, h3.2, by show r.2.2.length + s ≤ nxP B n r.2.1; omega, a4⟩, fun h9 => absurd rfl h9⟩
    · rw [if_neg h2]
      exact gd_er ba_bd.1 ba_bd.2 (by omega) a2
  · rw [if_pos h1]
    exact ⟨fun h9 => absurd h9 h1, fun h9 => ⟨(h_z.2 h9).1, Nat.le_trans hs (h_z.2 h9).2.1, (h_z.2 h9).2.2⟩⟩
theorem gd_a1 {B : Nat → Nat} {n m s : Nat} (hm_z : m ≤ 8) (hs : s ≤ n) : gdP n false m 1 s (a1P B n m s) := by
  unfold a1P
  by_cases h1 : tkP B n s = 2
  · rw [if_pos h1]
    have h3 := nxP_gt (B := B) (tk2 h1).1
    exact ⟨fun _ => ⟨h3.1, h3.2, by show 1 + s ≤ nxP B n s; omega, rnK_num (nm_bd h1)⟩, fun h9 => absurd rfl h9⟩
  · rw [if_neg h1]
    by_cases h2 : tkP B n s = 3 ∧ fcP (wdP B n s) < m
    · rw [if_pos h2]
      have h3 := nxP_gt (B := B) (n := n) (s := s) (tk_lt (by rw [h2.1]; decide))
      exact ⟨fun _ => ⟨h3.1, h3.2, by show 1 + s ≤ nxP B n s; omega, rnK_fact h2.2 hm_z⟩, fun h9 => absurd rfl h9⟩
    · rw [if_neg h2]
      exact gd_er ba_bd.1 ba_bd.2 (Nat.le_refl s) hs
theorem hop_T {B : Nat → Nat} {n : Nat} : ∀ s, opT B n s ≠ 0 → s < n ∧ opK false false (opT B n s) := by
  intro s h_z
  unfold opT at h_z ⊢
  by_cases h1 : tkP B n s = 42
  · rw [if_pos h1]
    exact ⟨tk_lt (by rw [h1]; decide), Or.inr (Or.inl ⟨rfl, rfl, by omega⟩)⟩
  · rw [if_neg h1] at h_z
    exact absurd rfl h_z
theorem hop_S {B : Nat → Nat} {n : Nat} : ∀ s, opS B n s ≠ 0 → s < n ∧ opK false false (opS B n s) := by
  intro s h_z
  unfold opS at h_z ⊢
  by_cases h1 : tkP B n s = 43
  · rw [if_pos h1]
    exact ⟨tk_lt (by rw [h1]; decide), Or.inr (Or.inl ⟨rfl, rfl, by omega⟩)⟩
  · rw [if_neg h1] at h_z ⊢
    by_cases h2 : tkP B n s = 45
    · rw [if_pos h2]
      exact ⟨tk_lt (by rw [h2]; decide), Or.inr (Or.inl ⟨rfl, rfl, by omega⟩)⟩
    · rw [if_neg h2] at h_z
      exact absurd rfl h_z
theorem isWd_tk {B : Nat → Nat} {n s i : Nat} (h_z : isWd B n s i = true) : tkP B n s = 3 ∧ wdP B n s = i := of_decide_eq_true h_z
theorem hop_A {B : Nat → Nat} {n : Nat} : ∀ s, opA B n s ≠ 0 → s < n ∧ opK true true (opA B n s) := by
  intro s h_z
  unfold opA at h_z ⊢
  by_cases h1 : isWd B n s 7 = true
  · rw [if_pos h1]
    exact ⟨tk_lt (by rw [(isWd_tk h1).1]; decide), Or.inl ⟨rfl, rfl, by omega⟩⟩
  · rw [if_neg h1] at h_z
    exact absurd rfl h_z
theorem hop_O {B : Nat → Nat} {n : Nat} : ∀ s, opO B n s ≠ 0 → s < n ∧ opK true true (opO B n s) := by
  intro s h_z
  unfold opO at h_z ⊢
  by_cases h1 : isWd B n s 6 = true
  · rw [if_pos h1]
    exact ⟨tk_lt (by rw [(isWd_tk h1).1]; decide), Or.inl ⟨rfl, rfl, by omega⟩⟩
  · rw [if_neg h1] at h_z
    exact absurd rfl h_z
theorem hop_C {B : Nat → Nat} {n : Nat} : ∀ s, opC B n s ≠ 0 → s < n ∧ opK false true (opC B n s) := by
  intro s h_z
  unfold opC at h_z ⊢
  by_cases h1 : tkP B n s = 61
  · rw [if_pos h1]
    exact ⟨tk_lt (by rw [h1]; decide), Or.inr (Or.inr ⟨rfl, rfl, by omega⟩)⟩
  · rw [if_neg h1] at h_z ⊢
    by_cases h2 : tkP B n s = 60
    · rw [if_pos h2]
      exact ⟨tk_lt (by rw [h2]; decide), Or.inr (Or.inr ⟨rfl, rfl, by omega⟩)⟩
    · rw [if_neg h2] at h_z ⊢
      by_cases h3 : tkP B n s = 62
      · rw [if_pos h3]
        exact ⟨tk_lt (by rw [h3]; decide), Or.inr (Or.inr ⟨rfl, rfl, by omega⟩)⟩
      · rw [if_neg h3] at h_z
        exact absurd rfl h_z
theorem gd_su {B : Nat → Nat} {n m D s : Nat} {a : Nat → zPR} (ha_z : ∀ s, s ≤ n → gdP n false m D s (a s)) (hs : s ≤ n) : gdP n false m (D + 2) s (suP B n a s) := gd_ch (fun s hs => gd_ch ha_z hop_T hs) hop_S hs
theorem gd_tr {B : Nat → Nat} {n m D s : Nat} {a : Nat → zPR} (ha_z : ∀ s, s ≤ n → gdP n true m D s (a s)) (hs : s ≤ n) : gdP n true m (D + 2) s (trU B n a s) := gd_ch (fun s hs => gd_ch ha_z hop_A hs) hop_O hs
theorem gd_at {B : Nat → Nat} {n m : Nat} (hm_z : m ≤ 8) : ∀ d s, s ≤ n → gdP n false m (1 + 2 * d) s (atP B n m d s) := by
  intro d
  induction d with
  | zero =>
    intro s hs
    show gdP n false m (1 + 2 * 0) s (if tkP B n s = 40 then (4, s, []) else a1P B n m s)
    split
    · exact gd_er (by decide) (by decide) (Nat.le_refl s) hs
    · exact gd_a1 hm_z hs
  | succ d ih =>
    intro s hs
    show gdP n false m (1 + 2 * (d + 1)) s (if tkP B n s = 40 then clP B n 41 (suP B n (atP B n m d) (nxP B n s)) else a1P B n m s)
    split
    · rename_i h1
      have h2 := nxP_gt (B := B) (n := n) (s := s) (tk_lt (by rw [h1]; decide))
      exact gd_cl (by decide) (gd_su (D := 1 + 2 * d) ih h2.2) (by omega)
    · exact gd_mo (gd_a1 hm_z hs) (by omega)
theorem gd_sm {B : Nat → Nat} {n m d s : Nat} (hm_z : m ≤ 8) (hs : s ≤ n) : gdP n false m (3 + 2 * d) s (smP B n m d s) := gd_mo (gd_su (gd_at hm_z d) hs) (by omega)
theorem gd_cm {B : Nat → Nat} {n m D s : Nat} {sm : Nat → zPR} (hsm : ∀ s, s ≤ n → gdP n false m D s (sm s)) (hs : s ≤ n) : gdP n true m (D + 1) s (cmP B n sm s) := by
  have h_z := hsm s hs
  unfold cmP
  by_cases h1 : (sm s).1 = 0
  · obtain ⟨a1, a2, a3, a4⟩ := h_z.1 h1
    rw [if_neg (not_not_intro h1)]
    by_cases h2 : opC B n (sm s).2.1 = 0
    · rw [if_pos h2]
      exact gd_er ba_bd.1 ba_bd.2 (Nat.le_of_lt a1) a2
    · rw [if_neg h2]
      obtain ⟨b1, b2⟩ := hop_C _ h2
      obtain ⟨c1_z, c2_z⟩ := nxP_gt (B := B) b1
      have hq := hsm (nxP B n (sm s).2.1) c2_z
      by_cases h3 : (sm (nxP B n (sm s).2.1)).1 = 0
      · obtain ⟨d1, d2, d3, d4⟩ := hq.1 h3
        rw [if_neg (not_not_intro h3)]
        refine ⟨fun _ => ⟨by show s < (sm (nxP B n (sm s).2.1)).2.1; omega, d2, ?_, rnK_bin (rnK_mo a4 (Nat.le_succ D)) d4 (Nat.le_refl _) b2⟩, fun h9 => absurd rfl h9⟩
        show ((sm s).2.2 ++ (sm (nxP B n (sm s).2.1)).2.2 ++ [opC B n (sm s).2.1]).length + s ≤ (sm (nxP B n (sm s).2.1)).2.1
        rw [List.length_append, List.length_append, List.length_singleton]
        omega
      · rw [if_pos h3]
        exact ⟨fun h9 => absurd h9 h3, fun h9 => ⟨(hq.2 h9).1, by have := (hq.2 h9).2.1; omega, (hq.2 h9).2.2⟩⟩
  · rw [if_pos h1]
    exact ⟨fun h9 => absurd h9 h1, h_z.2⟩
theorem gd_no {n m D s t : Nat} {r : zPR} (h_z : gdP n true m D t r) (hs : s < t) : gdP n true m D s (noP r) := by
  unfold noP
  by_cases h1 : r.1 = 0
  · obtain ⟨a1, a2, a3, a4⟩ := h_z.1 h1
    rw [if_neg (not_not_intro h1)]
    refine ⟨fun _ => ⟨by show s < r.2.1; omega, a2, ?_, rnK_not a4⟩, fun h9 => absurd rfl h9⟩
    show (r.2.2 ++ [2000]).length + s ≤ r.2.1
    rw [List.length_append, List.length_singleton]
    omega
  · rw [if_pos h1]
    exact ⟨fun h9 => absurd h9 h1, fun h9 => ⟨(h_z.2 h9).1, by have := (h_z.2 h9).2.1; omega, (h_z.2 h9).2.2⟩⟩
theorem gd_un {B : Nat → Nat} {n m : Nat} (hm_z : m ≤ 8) : ∀ d s, s ≤ n → gdP n true m (4 + 2 * d) s (unP B n m d s) := by
  intro d
  induction d with
  | zero =>
    intro s hs
    show gdP n true m (4 + 2 * 0) s (if isWd B n s 8 = true ∨ tkP B n s = 91 then (4, s, []) else cmP B n (smP B n m 0) s)
    split
    · exact gd_er (by decide) (by decide) (Nat.le_refl s) hs
    · exact gd_cm (D := 3) (fun s hs => gd_sm (d := 0) hm_z hs) hs
  | succ d ih =>
    intro s hs
    show gdP n true m (4 + 2 * (d + 1)) s (if isWd B n s 8 = true then noP (unP B n m d (nxP B n s)) else if tkP B n s = 91 then clP B n 93 (trU B n (unP B n m d) (nxP B n s)) else cmP B n (smP B n m (d + 1)) s)
    split
    · rename_i h1
      have h2 := nxP_gt (B := B) (n := n) (s := s) (tk_lt (by rw [(isWd_tk h1).1]; decide))
      exact gd_mo (gd_no (ih _ h2.2) h2.1) (by omega)
    split
    · rename_i h1
      have h2 := nxP_gt (B := B) (n := n) (s := s) (tk_lt (by rw [h1]; decide))
      exact gd_mo (gd_cl (by decide) (gd_tr ih h2.2) (Nat.le_of_lt h2.1)) (by omega)
    · exact gd_mo (gd_cm (D := 3 + 2 * (d + 1)) (fun s hs => gd_sm (d := d + 1) hm_z hs) hs) (by omega)
theorem gd_tp {B : Nat → Nat} {n m d s : Nat} (hm_z : m ≤ 8) (hs : s ≤ n) : gdP n true m (6 + 2 * d) s (trP B n m d s) := gd_mo (gd_tr (gd_un hm_z d) hs) (by omega)
theorem rnK_ok {m D : Nat} {c : List Nat} (h_z : rnK false m D c) (hd_z : D ≤ 64) (hl : c.length ≤ 900) : lawOk m c := by
  refine ⟨hl, h_z.2.1, Or.inr (fun F hF => ?_)⟩
  obtain ⟨v, _, h2⟩ := h_z.2.2 F hF
  exact ⟨v, h2 [] (by rw [List.length_nil]; omega)⟩
theorem rnK_ok01 {m D : Nat} {c : List Nat} (h_z : rnK true m D c) (hd_z : D ≤ 64) (hl : c.length ≤ 900) : lawOk01 m c := by
  refine ⟨hl, h_z.2.1, Or.inr (fun F hF => ?_)⟩
  obtain ⟨v, h1, h2⟩ := h_z.2.2 F hF
  exact ⟨v, h2 [] (by rw [List.length_nil]; omega), h1 rfl⟩
/-! lines -/
abbrev zNl : Type := zNm × (List Nat × List Nat × List Nat)
/-- a number of a mark: fault or 0, where, which -/
def nuP (B : Nat → Nat) (n s : Nat) : Nat × Nat × Nat := if tkP B n s = 2 then (if 99 < nmP B n s then (3, s, 0) else (0, nxP B n s, nmP B n s)) else (baP B n s, s, 0)
def fiP (B : Nat → Nat) (n : Nat) (t : zNl) (s : Nat) : Nat × Nat × zNl := if tkP B n s = 59 then (0, nxP B n s, ((t.1.1 + 1, t.1.2.1, t.1.2.2), t.2)) else (baP B n s, s, t)
def ce3P (B : Nat → Nat) (n : Nat) (t : zNl) (v : Nat) (b : Nat × Nat × Nat) : Nat × Nat × zNl := if b.1 ≠ 0 then (b.1, b.2.1, t) else fiP B n ((t.1.1, t.1.2.1 ++ [(v, b.2.2)], t.1.2.2), t.2) b.2.1
def ce2P (B : Nat → Nat) (n : Nat) (t : zNl) (a : Nat × Nat × Nat) : Nat × Nat × zNl := if a.1 ≠ 0 then (a.1, a.2.1, t) else if isWd B n a.2.1 1 = true then ce3P B n t a.2.2 (nuP B n (nxP B n a.2.1)) else (baP B n a.2.1, a.2.1, t)
def ceP (B : Nat → Nat) (n : Nat) (t : zNl) (s : Nat) : Nat × Nat × zNl := if 6 ≤ t.1.2.1.length then (4, s, t) else ce2P B n t (nuP B n (nxP B n s))
def gu2P (B : Nat → Nat) (n : Nat) (t : zNl) (a : Nat × Nat × Nat) : Nat × Nat × zNl := if a.1 ≠ 0 then (a.1, a.2.1, t) else fiP B n ((t.1.1, t.1.2.1, t.1.2.2 ++ [a.2.2]), t.2) a.2.1
def guP (B : Nat → Nat) (n : Nat) (t : zNl) (s : Nat) : Nat × Nat × zNl := if 4 ≤ t.1.2.2.length then (4, s, t) else gu2P B n t (nuP B n (nxP B n s))
def stL (i : Nat) (t : zNl) (c : List Nat) : zNl := (t.1, if i = 4 then (t.2.1, c, t.2.2.2) else if i = 5 then (t.2.1, t.2.2.1, c) else (c, t.2.2.1, t.2.2.2))
def la2P (B : Nat → Nat) (n i : Nat) (t : zNl) (r : zPR) : Nat × Nat × zNl := if r.1 ≠ 0 then (r.1, r.2.1, t) else fiP B n (stL i t r.2.2) r.2.1
def lwP (B : Nat → Nat) (n i s : Nat) : zPR := if i = 4 then trP B n 6 6 s else smP B n (if i = 5 then 8 else 6) 6 s
def laP (B : Nat → Nat) (n i : Nat) (t : zNl) (s : Nat) : Nat × Nat × zNl := if tkP B n (nxP B n s) = 58 then la2P B n i t (lwP B n i (nxP B n (nxP B n s))) else (baP B n (nxP B n s), nxP B n s, t)
def lnP (B : Nat → Nat) (n : Nat) (t : zNl) (s : Nat) : Nat × Nat × zNl := if tkP B n s = 3 then (if wdP B n s = 0 then ceP B n t s else if wdP B n s = 2 then guP B n t s else if wdP B n s = 3 ∨ wdP B n s = 4 ∨ wdP B n s = 5 then laP B n (wdP B n s) t s else (2, s, t)) else (baP B n s, s, t)
def llP (B : Nat → Nat) (n : Nat) : Nat → Nat × Nat × zNl → Nat × Nat × zNl
  | 0, x => x
  | k + 1, x => if x.1 ≠ 0 ∨ tkP B n x.2.1 = 0 then x else llP B n k (lnP B n x.2.2 x.2.1)
/-- the whole text: fault or 0, where, the napkin -/
def npP (B : Nat → Nat) (n : Nat) : Nat × Nat × zNl := llP B n (n + 1) (0, ruE (fun q => isSp (B q)) n 0, ((0, [], []), ([], [], [])))
/-- what is so all along -/
def nlG (n : Nat) (x : Nat × Nat × zNl) : Prop := x.1 ≤ 4 ∧ x.2.1 ≤ n ∧ x.2.2.1.1 ≤ x.2.1 ∧ x.2.2.1.2.1.length ≤ 6 ∧ x.2.2.1.2.2.length ≤ 4 ∧ (∀ p ∈ x.2.2.1.2.1, p.1 ≤ 99 ∧ p.2 ≤ 99) ∧ (∀ v ∈ x.2.2.1.2.2, v ≤ 99) ∧ lawOk 6 x.2.2.2.1 ∧ lawOk01 6 x.2.2.2.2.1 ∧ lawOk 8 x.2.2.2.2.2
theorem nlG_er {n s k p : Nat} {t : zNl} (h_z : nlG n (0, s, t)) (h1 : k ≤ 4) (h2 : s ≤ p) (h3 : p ≤ n) : nlG n (k, p, t) := ⟨h1, h3, Nat.le_trans h_z.2.2.1 h2, h_z.2.2.2⟩
theorem nu_gd {B : Nat → Nat} {n s : Nat} (hs : s ≤ n) : (nuP B n s).1 ≤ 4 ∧ s ≤ (nuP B n s).2.1 ∧ (nuP B n s).2.1 ≤ n ∧ (nuP B n s).2.2 ≤ 99 ∧ ((nuP B n s).1 = 0 → s < (nuP B n s).2.1) := by
  unfold nuP
  by_cases h1 : tkP B n s = 2
  · rw [if_pos h1]
    have h2 := nxP_gt (B := B) (tk2 h1).1
    by_cases h3 : 99 < nmP B n s
    · rw [if_pos h3]
      exact ⟨show (3 : Nat) ≤ 4 by decide, Nat.le_refl s, hs, Nat.zero_le _, fun h_z => absurd (show (3 : Nat) = 0 from h_z) (by decide)⟩
    · rw [if_neg h3]
      exact ⟨show (0 : Nat) ≤ 4 by decide, Nat.le_of_lt h2.1, h2.2, Nat.le_of_not_lt h3, fun _ => h2.1⟩
  · rw [if_neg h1]
    exact ⟨ba_bd.2, Nat.le_refl s, hs, Nat.zero_le _, fun h_z => absurd h_z ba_bd.1⟩
theorem fi_gd {B : Nat → Nat} {n s : Nat} {t : zNl} (h_z : nlG n (0, s, t)) : nlG n (fiP B n t s) := by
  unfold fiP
  split
  · rename_i h1
    have h2 := nxP_gt (B := B) (n := n) (s := s) (tk_lt (by rw [h1]; decide))
    refine ⟨show (0 : Nat) ≤ 4 by decide, h2.2, ?_, h_z.2.2.2⟩
    have h3 : t.1.1 ≤ s := h_z.2.2.1
    show t.1.1 + 1 ≤ nxP B n s
    omega
  · exact nlG_er h_z ba_bd.2 (Nat.le_refl s) h_z.2.1
theorem ce_gd {B : Nat → Nat} {n s : Nat} {t : zNl} (h_z : nlG n (0, s, t)) (hs : s < n) : nlG n (ceP B n t s) := by
  unfold ceP
  by_cases h1 : 6 ≤ t.1.2.1.length
  · rw [if_pos h1]
    exact nlG_er h_z (Nat.le_refl 4) (Nat.le_refl s) h_z.2.1
  · rw [if_neg h1]
    have h2 := nxP_gt (B := B) hs
    obtain ⟨a1, a2, a3, a4, a5⟩ := nu_gd (B := B) h2.2
    unfold ce2P
    by_cases h3 : (nuP B n (nxP B n s)).1 = 0
    · rw [if_neg (not_not_intro h3)]
      by_cases h4 : isWd B n (nuP B n (nxP B n s)).2.1 1 = true
      · rw [if_pos h4]
        have h5 := nxP_gt (B := B) (n := n) (s := (nuP B n (nxP B n s)).2.1) (tk_lt (by rw [(isWd_tk h4).1]; decide))
        obtain ⟨b1, b2, b3, b4, b5⟩ := nu_gd (B := B) h5.2
        unfold ce3P
        by_cases h6 : (nuP B n (nxP B n (nuP B n (nxP B n s)).2.1)).1 = 0
        · rw [if_neg (not_not_intro h6)]
          refine fi_gd ⟨Nat.zero_le 4, b3, Nat.le_trans h_z.2.2.1 (show s ≤ (nuP B n (nxP B n (nuP B n (nxP B n s)).2.1)).2.1 by omega), ?_, h_z.2.2.2.2.1, fun p hp => ?_, h_z.2.2.2.2.2.2⟩
          · show (t.1.2.1 ++ [((nuP B n (nxP B n s)).2.2, (nuP B n (nxP B n (nuP B n (nxP B n s)).2.1)).2.2)]).length ≤ 6
            rw [List.length_append, List.length_singleton]
            omega
          · rcases List.mem_append.mp hp with h7 | h7
            · exact h_z.2.2.2.2.2.1 p h7
            · rw [List.mem_singleton] at h7
              rw [h7]
              exact ⟨a4, b4⟩
        · rw [if_pos h6]
          exact nlG_er h_z b1 (by omega) b3
      · rw [if_neg h4]
        exact nlG_er h_z ba_bd.2 (by omega) a3
    · rw [if_pos h3]
      exact nlG_er h_z a1 (by omega) a3
theorem gu_gd {B : Nat → Nat} {n s : Nat} {t : zNl} (h_z : nlG n (0, s, t)) (hs : s < n) : nlG n (guP B n t s) := by
  unfold guP
  by_cases h1 : 4 ≤ t.1.2.2.length
  · rw [if_pos h1]
    exact nlG_er h_z (Nat.le_refl 4) (Nat.le_refl s) h_z.2.1
  · rw [if_neg h1]
    have h2 := nxP_gt (B := B) hs
    obtain ⟨a1, a2, a3, a4, a5⟩ := nu_gd (B := B) h2.2
    unfold gu2P
    by_cases h3 : (nuP B n (nxP B n s)).1 = 0
    · rw [if_neg (not_not_intro h3)]
      refine fi_gd ⟨Nat.zero_le 4, a3, Nat.le_trans h_z.2.2.1 (show s ≤ (nuP B n (nxP B n s)).2.1 by omega), h_z.2.2.2.1, ?_, h_z.2.2.2.2.2.1, fun v hv => ?_, h_z.2.2.2.2.2.2.2⟩
      · show (t.1.2.2 ++ [(nuP B n (nxP B n s)).2.2]).length ≤ 4
        rw [List.length_append, List.length_singleton]
        omega
      · rcases List.mem_append.mp hv with h7 | h7
        · exact h_z.2.2.2.2.2.2.1 v h7
        · rw [List.mem_singleton] at h7
          rw [h7]
          exact a4
    · rw [if_pos h3]
      exact nlG_er h_z a1 (by omega) a3
theorem la_gd {B : Nat → Nat} {n s i : Nat} {t : zNl} (h9 : n ≤ 900) (h_z : nlG n (0, s, t)) (hs : s < n) : nlG n (laP B n i t s) := by
  have h2 := nxP_gt (B := B) hs
  unfold laP
  by_cases h1 : tkP B n (nxP B n s) = 58
  · rw [if_pos h1]
    have h3 := nxP_gt (B := B) (n := n) (s := nxP B n s) (tk_lt (by rw [h1]; decide))
    unfold la2P
    have key : ∀ b m D, (b = decide (i = 4)) → m = (if i = 5 then 8 else 6) → D ≤ 64 → gdP n b m D (nxP B n (nxP B n s)) (lwP B n i (nxP B n (nxP B n s))) → nlG n (if (lwP B n i (nxP B n (nxP B n s))).1 ≠ 0 then ((lwP B n i (nxP B n (nxP B n s))).1, (lwP B n i (nxP B n (nxP B n s))).2.1, t) else fiP B n (stL i t (lwP B n i (nxP B n (nxP B n s))).2.2) (lwP B n i (nxP B n (nxP B n s))).2.1) := by
      intro b m D hb_z hm_z hD hg
      generalize lwP B n i (nxP B n (nxP B n s)) = r at hg
      by_cases h4 : r.1 = 0
      · rw [if_neg (not_not_intro h4)]
        obtain ⟨c1_z, c2_z, c3_z, c4_z⟩ := hg.1 h4
        have hl : r.2.2.length ≤ 900 := by omega
        refine fi_gd ⟨Nat.zero_le 4, c2_z, Nat.le_trans h_z.2.2.1 (show s ≤ r.2.1 by omega), h_z.2.2.2.1, h_z.2.2.2.2.1, h_z.2.2.2.2.2.1, h_z.2.2.2.2.2.2.1, ?_⟩
        obtain ⟨d1, d2, d3⟩ := h_z.2.2.2.2.2.2.2
        unfold stL
        by_cases h5 : i = 4
        · rw [if_pos h5]
          rw [hb_z, decide_eq_true h5, hm_z, if_neg (by omega)] at c4_z
          exact ⟨d1, rnK_ok01 c4_z hD hl, d3⟩
        · rw [if_neg h5]
          rw [hb_z, decide_eq_false h5, hm_z] at c4_z
          by_cases h6 : i = 5
          · rw [if_pos h6]
            rw [if_pos h6] at c4_z
            exact ⟨d1, d2, rnK_ok c4_z hD hl⟩
          · rw [if_neg h6]
            rw [if_neg h6] at c4_z
            exact ⟨rnK_ok c4_z hD hl, d2, d3⟩
      · rw [if_pos h4]
        exact nlG_er h_z (hg.2 h4).1 (by have := (hg.2 h4).2.1; omega) (hg.2 h4).2.2
    by_cases h5 : i = 4
    · exact key true 6 18 (decide_eq_true h5).symm (by rw [if_neg (by omega)]) (by decide) (by unfold lwP; rw [if_pos h5]; exact gd_tp (d := 6) (by decide) h3.2)
    · refine key false _ 15 (decide_eq_false h5).symm rfl (by decide) ?_
      unfold lwP
      rw [if_neg h5]
      exact gd_sm (d := 6) (by split <;> decide) h3.2
  · rw [if_neg h1]
    exact nlG_er h_z ba_bd.2 (Nat.le_of_lt h2.1) h2.2
/-- a line goes on where it goes well -/
theorem fi_gt {B : Nat → Nat} {n s : Nat} {t : zNl} (h_z : (fiP B n t s).1 = 0) : s < (fiP B n t s).2.1 := by
  unfold fiP at h_z ⊢
  split
  · rename_i h1
    exact (nxP_gt (B := B) (n := n) (s := s) (tk_lt (by rw [h1]; decide))).1
  · rename_i h1
    rw [if_neg h1] at h_z
    exact absurd h_z ba_bd.1
theorem lw_gt {B : Nat → Nat} {n i s : Nat} (hs : s ≤ n) (h_z : (lwP B n i s).1 = 0) : s < (lwP B n i s).2.1 ∧ (lwP B n i s).2.1 ≤ n ∧ (lwP B n i s).2.2.length + s ≤ (lwP B n i s).2.1 := by
  unfold lwP at h_z ⊢
  by_cases h5 : i = 4
  · rw [if_pos h5] at h_z ⊢
    have h1 := (gd_tp (B := B) (d := 6) (m := 6) (by decide) hs).1 h_z
    exact ⟨h1.1, h1.2.1, h1.2.2.1⟩
  · rw [if_neg h5] at h_z ⊢
    have h1 := (gd_sm (B := B) (d := 6) (m := if i = 5 then 8 else 6) (by split <;> decide) hs).1 h_z
    exact ⟨h1.1, h1.2.1, h1.2.2.1⟩
theorem ln_gt {B : Nat → Nat} {n s : Nat} {t : zNl} (hs : s < n) (h_z : (lnP B n t s).1 = 0) : s < (lnP B n t s).2.1 := by
  have h2 := nxP_gt (B := B) hs
  have hb_z : ∀ s, baP B n s ≠ 0 := fun _ => ba_bd.1
  unfold lnP at h_z ⊢
  by_cases h1 : tkP B n s = 3
  · rw [if_pos h1] at h_z ⊢
    by_cases w0 : wdP B n s = 0
    · rw [if_pos w0] at h_z ⊢
      unfold ceP at h_z ⊢
      by_cases h3 : 6 ≤ t.1.2.1.length
      · rw [if_pos h3] at h_z
        exact absurd (show (4 : Nat) = 0 from h_z) (by decide)
      · rw [if_neg h3] at h_z ⊢
        have a := nu_gd (B := B) h2.2
        unfold ce2P at h_z ⊢
        by_cases h4 : (nuP B n (nxP B n s)).1 = 0
        · rw [if_neg (not_not_intro h4)] at h_z ⊢
          by_cases h5 : isWd B n (nuP B n (nxP B n s)).2.1 1 = true
          · rw [if_pos h5] at h_z ⊢
            have h6 := nxP_gt (B := B) (n := n) (s := (nuP B n (nxP B n s)).2.1) (tk_lt (by rw [(isWd_tk h5).1]; decide))
            have b := nu_gd (B := B) h6.2
            unfold ce3P at h_z ⊢
            by_cases h7 : (nuP B n (nxP B n (nuP B n (nxP B n s)).2.1)).1 = 0
            · rw [if_neg (not_not_intro h7)] at h_z ⊢
              have := fi_gt h_z
              omega
            · rw [if_pos h7] at h_z
              exact absurd h_z h7
          · rw [if_neg h5] at h_z
            exact absurd h_z (hb_z _)
        · rw [if_pos h4] at h_z
          exact absurd h_z h4
    rw [if_neg w0] at h_z ⊢
    by_cases w2 : wdP B n s = 2
    · rw [if_pos w2] at h_z ⊢
      unfold guP at h_z ⊢
      by_cases h3 : 4 ≤ t.1.2.2.length
      · rw [if_pos h3] at h_z
        exact absurd (show (4 : Nat) = 0 from h_z) (by decide)
      · rw [if_neg h3] at h_z ⊢
        have a := nu_gd (B := B) h2.2
        unfold gu2P at h_z ⊢
        by_cases h4 : (nuP B n (nxP B n s)).1 = 0
        · rw [if_neg (not_not_intro h4)] at h_z ⊢
          have := fi_gt h_z
          omega
        · rw [if_pos h4] at h_z
          exact absurd h_z h4
    rw [if_neg w2] at h_z ⊢
    by_cases w3 : wdP B n s = 3 ∨ wdP B n s = 4 ∨ wdP B n s = 5
    · rw [if_pos w3] at h_z ⊢
      unfold laP at h_z ⊢
      by_cases h3 : tkP B n (nxP B n s) = 58
      · rw [if_pos h3] at h_z ⊢
        have h4 := nxP_gt (B := B) (n := n) (s := nxP B n s) (tk_lt (by rw [h3]; decide))
        unfold la2P at h_z ⊢
        by_cases h5 : (lwP B n (wdP B n s) (nxP B n (nxP B n s))).1 = 0
        · rw [if_neg (not_not_intro h5)] at h_z ⊢
          have := fi_gt h_z
          have := (lw_gt h4.2 h5).1
          omega
        · rw [if_pos h5] at h_z
          exact absurd h_z h5
      · rw [if_neg h3] at h_z
        exact absurd h_z (hb_z _)
    · rw [if_neg w3] at h_z
      exact absurd (show (2 : Nat) = 0 from h_z) (by decide)
  · rw [if_neg h1] at h_z
    exact absurd h_z (hb_z _)
theorem ln_gd {B : Nat → Nat} {n s : Nat} {t : zNl} (h9 : n ≤ 900) (h_z : nlG n (0, s, t)) (hs : s < n) : nlG n (lnP B n t s) := by
  unfold lnP
  split
  · split
    · exact ce_gd h_z hs
    split
    · exact gu_gd h_z hs
    split
    · exact la_gd h9 h_z hs
    · exact nlG_er h_z (by decide) (Nat.le_refl s) h_z.2.1
  · exact nlG_er h_z ba_bd.2 (Nat.le_refl s) h_z.2.1
theorem ll_gd {B : Nat → Nat} {n : Nat} (h9 : n ≤ 900) : ∀ k x, nlG n x → nlG n (llP B n k x) := by
  intro k
  induction k with
  | zero => exact fun x h_z => h_z
  | succ k ih =>
    intro x h_z
    show nlG n (if x.1 ≠ 0 ∨ tkP B n x.2.1 = 0 then x else llP B n k (lnP B n x.2.2 x.2.1))
    split
    · exact h_z
    · rename_i h1
      have h2 : x.1 = 0 := Decidable.byContradiction (fun h3 => h1 (Or.inl h3))
      have h3 : nlG n (0, x.2.1, x.2.2) := by
        rw [← h2]
        exact h_z
      exact ih _ (ln_gd h9 h3 (tk_lt (fun h4 => h1 (Or.inr h4))))
theorem np_gd {B : Nat → Nat} {n : Nat} (h9 : n ≤ 900) : nlG n (npP B n) := by
  refine ll_gd h9 (n + 1) _ ⟨Nat.zero_le 4, ruE_le (Nat.zero_le n), Nat.zero_le _, Nat.zero_le 6, Nat.zero_le 4, fun p hp => absurd hp List.not_mem_nil, fun p hp => absurd hp List.not_mem_nil, ?_, ?_, ?_⟩
  · exact ⟨Nat.zero_le 900, fun o ho => absurd ho List.not_mem_nil, Or.inl rfl⟩
  · exact ⟨Nat.zero_le 900, fun o ho => absurd ho List.not_mem_nil, Or.inl rfl⟩
  · exact ⟨Nat.zero_le 900, fun o ho => absurd ho List.not_mem_nil, Or.inl rfl⟩
theorem ll_er {B : Nat → Nat} {n k : Nat} {x : Nat × Nat × zNl} (h_z : x.1 ≠ 0 ∨ tkP B n x.2.1 = 0) : llP B n k x = x := by
  cases k with
  | zero => rfl
  | succ k => exact if_pos h_z
theorem ll_on {B : Nat → Nat} {n k : Nat} {x : Nat × Nat × zNl} (h1 : x.1 = 0) (h2 : tkP B n x.2.1 ≠ 0) : llP B n (k + 1) x = llP B n k (lnP B n x.2.2 x.2.1) := if_neg (fun h_z => h_z.elim (fun h_z => h_z h1) (fun h_z => h2 h_z))
