/-! the law: what holds between two steps of the script -/
def lwM (f : Nat → Nat → Int32) (j : Nat → Nat → Int64) (A : Nat) (T : zTb) (ty : Nat → zTy) (im : Nat → Option zTb) (p : Nat) (B : Nat → Nat) (th pl : Int) (N : Nat) : Prop :=
  ctKn (f (A + 1)) T ∧ (∀ t, t < 4 → ctTm f j A t (ty t)) ∧ (∀ i, i < 3 → imM f A i (im i)) ∧ mbI f A ∧ (f A 37).toInt ≤ (N : Nat) ∧ (f A 6).toInt = (p : Nat) ∧ (∀ q, q < p → (f (A + 5) q).toInt = ((B q : Nat) : Int)) ∧ (f A 14).toInt = th ∧ (f A 15).toInt = pl
def lwC (w : zW) (f : Nat → Nat → Int32) (j : Nat → Nat → Int64) (X : Nat) (T : zTb) (ty : Nat → zTy) (im : Nat → Option zTb) (p : Nat) (B : Nat → Nat) (th pl : Int) : Prop :=
  shX w X ∧ X + 261 ≤ zS w ∧ wz w ∧ (zK w (X + 260) = 25 ∧ zN w (X + 260) = 1) ∧ shM w (X + 239) ∧ tbAt w f X (X + 11) T ∧ wyI f (X + 57) ∧ wyI f (X + 75) ∧ (∀ i, i < 4 → ctTr f j (X + 231 + 2 * i) (ty i)) ∧ (∀ i, i < 3 → imAt w f X i (im i)) ∧ (∀ i, i < 3 → tbK w f (X + 108 + 41 * i)) ∧ (f X 1).toInt = (p : Nat) ∧ p ≤ 900 ∧ (∀ q, q < p → btO (f (X + 1) q) (B q)) ∧ (∀ q, B q ≤ 255) ∧ (f X 2).toInt = th ∧ (f X 3).toInt = pl
def lwI (w : zW) (f : Nat → Nat → Int32) (j : Nat → Nat → Int64) (X : Nat) (T : zTb) (ty : Nat → zTy) (im : Nat → Option zTb) (p : Nat) (B : Nat → Nat) (th pl : Int) (N : Nat) : Prop := lwC w f j X T ty im p B th pl ∧ lwM f j (X + 239) T ty im p B th pl N
theorem lwM_e {f f2_z : Nat → Nat → Int32} {j j2 : Nat → Nat → Int64} {A N : Nat} {T : zTb} {ty : Nat → zTy} {im : Nat → Option zTb} {p : Nat} {B : Nat → Nat} {th pl : Int} (h_z : lwM f j A T ty im p B th pl N) (e : ∀ q, A ≤ q → q < A + 21 → f2_z q = f q) (e2_z : ∀ q, A ≤ q → q < A + 21 → j2 q = j q) : lwM f2_z j2 A T ty im p B th pl N := by
  obtain ⟨a1, a2, a3, a4, a5, a6, a7, a8, a9⟩ := h_z
  have eA : f2_z A = f A := e A (Nat.le_refl _) (by omega)
  refine ⟨by rw [e (A + 1) (by omega) (by omega)]; exact a1, fun t ht => ctTm_of (a2 t ht) (congrFun (e (A + 18) (by omega) (by omega)) t) (congrFun (e (A + 19) (by omega) (by omega)) t) (fun i _ => congrFun (e2_z (A + 20) (by omega) (by omega)) _), fun i hi_z => imM_of (a3 i hi_z) (congrFun (e (A + 4) (by omega) (by omega)) i) (fun k _ => congrFun (e (A + 3) (by omega) (by omega)) _), fun i hi_z => ?_, by rw [eA]; exact a5, by rw [eA]; exact a6, fun q hq => by rw [e (A + 5) (by omega) (by omega)]; exact a7 q hq, by rw [eA]; exact a8, by rw [eA]; exact a9⟩
  rw [e (A + 15) (by omega) (by omega), eA]
  exact a4 i hi_z
theorem lwM_q {f f2_z : Nat → Nat → Int32} {j j2 : Nat → Nat → Int64} {A N n : Nat} {T : zTb} {ty : Nat → zTy} {im : Nat → Option zTb} {p : Nat} {B : Nat → Nat} {th pl : Int} (h_z : lwM f j A T ty im p B th pl N) (o : qM A f f2_z j j2 n) : lwM f2_z j2 A T ty im p B th pl (N + n) := by
  obtain ⟨a1, a2, a3, a4, a5, a6, a7, a8, a9⟩ := h_z
  obtain ⟨⟨o1, o2, o3⟩, o4, o5, o6, o7⟩ := o
  have e1_z : f2_z (A + 1) = f (A + 1) := o2 1 (by decide) (by decide) (by decide)
  have e3_z : f2_z (A + 3) = f (A + 3) := o2 3 (by decide) (by decide) (by decide)
  have e4_z : f2_z (A + 4) = f (A + 4) := o2 4 (by decide) (by decide) (by decide)
  have e5_z : f2_z (A + 5) = f (A + 5) := o2 5 (by decide) (by decide) (by decide)
  have e18_z : f2_z (A + 18) = f (A + 18) := o2 18 (by decide) (by decide) (by decide)
  have e19_z : f2_z (A + 19) = f (A + 19) := o2 19 (by decide) (by decide) (by decide)
  exact ⟨by rw [e1_z]; exact a1, fun t ht => ctTm_of (a2 t ht) (congrFun e18_z t) (congrFun e19_z t) (fun i _ => congrFun (o4 (A + 20) (by omega)) _), fun i hi_z => imM_of (a3 i hi_z) (congrFun e4_z i) (fun k _ => congrFun e3_z _), o5 a4, by omega, by rw [o3 6 (by decide)]; exact a6, fun q hq => by rw [e5_z]; exact a7 q hq, by rw [o3 14 (by decide)]; exact a8, by rw [o3 15 (by decide)]; exact a9⟩
theorem lwC_f {w : zW} {f f2_z : Nat → Nat → Int32} {j j2 : Nat → Nat → Int64} {X : Nat} {T : zTb} {ty : Nat → zTy} {im : Nat → Option zTb} {p : Nat} {B : Nat → Nat} {th pl : Int} (h_z : lwC w f j X T ty im p B th pl) (o : ∀ q, (q < X + 54 ∨ X + 108 ≤ q ∧ q < X + 239 ∨ X + 261 ≤ q) → f2_z q = f q) (o1 : wyI f (X + 57) → wyI f2_z (X + 57)) (o2 : wyI f (X + 75) → wyI f2_z (X + 75)) (oj : ∀ q, q < X + 239 → j2 q = j q) : lwC w f2_z j2 X T ty im p B th pl := by
  obtain ⟨a1, a2, a3, a4, a5, a6, a7, a8, a9, a10, a11, a12, a13, a14, a15, a16, a17⟩ := h_z
  have oz : ∀ q, zoneX X q → f2_z q = f q := fun q hq => o q (by unfold zoneX at hq; omega)
  have oX : f2_z X = f X := o X (by omega)
  refine ⟨a1, a2, a3, a4, a5, tbAt_q a6 oz (fun q hq => o q (by omega)), o1 a7, o2 a8, fun i hi_z => ctTr_of (a9 i hi_z) (o _ (by omega)) (oj _ (by omega)), fun i hi_z => ?_, fun i hi_z => ?_, by rw [oX]; exact a12, a13, fun q hq => by rw [o (X + 1) (by omega)]; exact a14 q hq, a15, by rw [oX]; exact a16, by rw [oX]; exact a17⟩
  · have h9 := a10 i hi_z
    cases hm_z : im i with
    | none =>
      rw [hm_z] at h9
      unfold imAt at h9 ⊢
      rw [o (X + 108 + 41 * i) (by omega)]
      exact h9
    | some T2 =>
      rw [hm_z] at h9
      obtain ⟨b1, b2⟩ := h9
      refine ⟨by rw [o (X + 108 + 41 * i) (by omega)]; exact b1, tbAt_q b2 oz (fun q hq => o q (by omega))⟩
  · obtain ⟨pp, M, g0, p0, b1, b2⟩ := a11 i hi_z
    exact ⟨pp, M, g0, p0, b1, ctTb_q b2 b1 (fun q hq => o q (by omega))⟩
theorem lwI_cq {w : zW} {f f2_z : Nat → Nat → Int32} {j : Nat → Nat → Int64} {X N : Nat} {T : zTb} {ty : Nat → zTy} {im : Nat → Option zTb} {p : Nat} {B : Nat → Nat} {th pl : Int} (h_z : lwI w f j X T ty im p B th pl N) (o : qX X f f2_z) : lwI w f2_z j X T ty im p B th pl N := ⟨lwC_f h_z.1 (fun q hq => o.1 q (by omega)) o.2.1 o.2.2 (fun _ _ => rfl), lwM_e h_z.2 (fun q h1 _ => o.1 q (by omega)) (fun _ _ _ => rfl)⟩
theorem lwI_mq {w : zW} {f f2_z : Nat → Nat → Int32} {j j2 : Nat → Nat → Int64} {X N n : Nat} {T : zTb} {ty : Nat → zTy} {im : Nat → Option zTb} {p : Nat} {B : Nat → Nat} {th pl : Int} (h_z : lwI w f j X T ty im p B th pl N) (o : qM (X + 239) f f2_z j j2 n) : lwI w f2_z j2 X T ty im p B th pl (N + n) := ⟨lwC_f h_z.1 (fun q hq => o.1.1 q (by omega)) (fun e => wyI_e e (fun r h1 h2 => o.1.1 _ (by omega))) (fun e => wyI_e e (fun r h1 h2 => o.1.1 _ (by omega))) (fun q hq => o.2.1 q (by omega)), lwM_q h_z.2 o⟩
theorem lwI_o {w : zW} {f : Nat → Nat → Int32} {j : Nat → Nat → Int64} {X N : Nat} {y : Int64} {T : zTb} {ty : Nat → zTy} {im : Nat → Option zTb} {p : Nat} {B : Nat → Nat} {th pl : Int} (h_z : lwI w f j X T ty im p B th pl N) : lwI w f (zu j (X + 260) 0 y) X T ty im p B th pl N := ⟨lwC_f h_z.1 (fun _ _ => rfl) (fun e => e) (fun e => e) (fun q hq => zu_ne (by omega)), lwM_e h_z.2 (fun _ _ _ => rfl) (fun q _ h2 => zu_ne (by omega))⟩
theorem lwI_s {w : zW} {f : Nat → Nat → Int32} {j : Nat → Nat → Int64} {X N n : Nat} {T : zTb} {ty : Nat → zTy} {im : Nat → Option zTb} {p : Nat} {B : Nat → Nat} {th pl : Int} (h_z : lwI w f j X T ty im p B th pl N) (hn : zS w ≤ n) : lwI (zsS w n) f j X T ty im p B th pl N := by
  obtain ⟨⟨a1, a2, a3, a4, a5, a6, a7, a8, a9, a10, a11, a12⟩, b⟩ := h_z
  exact ⟨⟨a1, Nat.le_trans a2 hn, fun q hq => a3 q (Nat.le_trans hn hq), a4, a5, a6, a7, a8, a9, a10, a11, a12⟩, b⟩
theorem lwI_m {w : zW} {f : Nat → Nat → Int32} {j : Nat → Nat → Int64} {X N n : Nat} {T : zTb} {ty : Nat → zTy} {im : Nat → Option zTb} {p : Nat} {B : Nat → Nat} {th pl : Int} (h_z : lwI w f j X T ty im p B th pl N) (hn : N ≤ n) : lwI w f j X T ty im p B th pl n := by
  obtain ⟨a, b1, b2, b3, b4, b5, b6⟩ := h_z
  exact ⟨a, b1, b2, b3, b4, by omega, b6⟩
