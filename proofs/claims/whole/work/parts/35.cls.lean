/-! the class object: its cells, what they hold -/
def pXl : List (Nat × Nat) := [(0, 1), (4, 2), (5, 11), (6, 52), (7, 53), (8, 54), (9, 57), (10, 75), (11, 93), (12, 97), (13, 101), (14, 104), (15, 105), (16, 106), (17, 107)]
def kXl : List (Nat × Nat × Nat) := [(1, 22, 900), (10, 21, 900), (52, 36, 3), (53, 37, 4), (104, 21, 6), (105, 21, 4), (106, 21, 100), (107, 21, 720)]
def shX (w : zW) (X : Nat) : Prop := zK w X = 10 ∧ (∀ e ∈ pXl, zP w X e.1 = some (X + e.2)) ∧ (∀ e ∈ kXl, zK w (X + e.1) = e.2.1 ∧ zN w (X + e.1) = e.2.2) ∧ (zK w (X + 2) = 5 ∧ zP w (X + 2) 8 = some (X + 10)) ∧ shTb w (X + 11) ∧ (∀ i, i < 3 → shTb w (X + 108 + 41 * i) ∧ zP w (X + 52) i = some (X + 108 + 41 * i)) ∧ (∀ i, i < 4 → shTr w (X + 231 + 2 * i) ∧ zP w (X + 53) i = some (X + 231 + 2 * i)) ∧ shSc w (X + 54) ∧ shWy w (X + 57) ∧ shWy w (X + 75) ∧ shLay w (X + 93) ∧ shLay w (X + 97) ∧ shMo w (X + 101)
theorem shX_k {w : zW} {X : Nat} (h : shX w X) : zK w X = 10 := h.1
theorem shX_p0 {w : zW} {X : Nat} (h : shX w X) : zP w X 0 = some (X + 1) := h.2.1 (0, 1) (List.mem_of_getElem? (i := 0) rfl)
theorem shX_p4 {w : zW} {X : Nat} (h : shX w X) : zP w X 4 = some (X + 2) := h.2.1 (4, 2) (List.mem_of_getElem? (i := 1) rfl)
theorem shX_p5 {w : zW} {X : Nat} (h : shX w X) : zP w X 5 = some (X + 11) := h.2.1 (5, 11) (List.mem_of_getElem? (i := 2) rfl)
theorem shX_p6 {w : zW} {X : Nat} (h : shX w X) : zP w X 6 = some (X + 52) := h.2.1 (6, 52) (List.mem_of_getElem? (i := 3) rfl)
theorem shX_p8 {w : zW} {X : Nat} (h : shX w X) : zP w X 7 = some (X + 53) := h.2.1 (7, 53) (List.mem_of_getElem? (i := 4) rfl)
theorem shX_p9 {w : zW} {X : Nat} (h : shX w X) : zP w X 8 = some (X + 54) := h.2.1 (8, 54) (List.mem_of_getElem? (i := 5) rfl)
theorem shX_p10 {w : zW} {X : Nat} (h : shX w X) : zP w X 9 = some (X + 57) := h.2.1 (9, 57) (List.mem_of_getElem? (i := 6) rfl)
theorem shX_p11 {w : zW} {X : Nat} (h : shX w X) : zP w X 10 = some (X + 75) := h.2.1 (10, 75) (List.mem_of_getElem? (i := 7) rfl)
theorem shX_p12 {w : zW} {X : Nat} (h : shX w X) : zP w X 11 = some (X + 93) := h.2.1 (11, 93) (List.mem_of_getElem? (i := 8) rfl)
theorem shX_p13 {w : zW} {X : Nat} (h : shX w X) : zP w X 12 = some (X + 97) := h.2.1 (12, 97) (List.mem_of_getElem? (i := 9) rfl)
theorem shX_p14 {w : zW} {X : Nat} (h : shX w X) : zP w X 13 = some (X + 101) := h.2.1 (13, 101) (List.mem_of_getElem? (i := 10) rfl)
theorem shX_p15 {w : zW} {X : Nat} (h : shX w X) : zP w X 14 = some (X + 104) := h.2.1 (14, 104) (List.mem_of_getElem? (i := 11) rfl)
theorem shX_p16 {w : zW} {X : Nat} (h : shX w X) : zP w X 15 = some (X + 105) := h.2.1 (15, 105) (List.mem_of_getElem? (i := 12) rfl)
theorem shX_p17 {w : zW} {X : Nat} (h : shX w X) : zP w X 16 = some (X + 106) := h.2.1 (16, 106) (List.mem_of_getElem? (i := 13) rfl)
theorem shX_p18 {w : zW} {X : Nat} (h : shX w X) : zP w X 17 = some (X + 107) := h.2.1 (17, 107) (List.mem_of_getElem? (i := 14) rfl)
theorem shX_k1 {w : zW} {X : Nat} (h : shX w X) : zK w (X + 1) = 22 := (h.2.2.1 (1, 22, 900) (List.mem_of_getElem? (i := 0) rfl)).1
theorem shX_n1 {w : zW} {X : Nat} (h : shX w X) : zN w (X + 1) = 900 := (h.2.2.1 (1, 22, 900) (List.mem_of_getElem? (i := 0) rfl)).2
theorem shX_k10 {w : zW} {X : Nat} (h : shX w X) : zK w (X + 10) = 21 := (h.2.2.1 (10, 21, 900) (List.mem_of_getElem? (i := 1) rfl)).1
theorem shX_n10 {w : zW} {X : Nat} (h : shX w X) : zN w (X + 10) = 900 := (h.2.2.1 (10, 21, 900) (List.mem_of_getElem? (i := 1) rfl)).2
theorem shX_k52 {w : zW} {X : Nat} (h : shX w X) : zK w (X + 52) = 36 := (h.2.2.1 (52, 36, 3) (List.mem_of_getElem? (i := 2) rfl)).1
theorem shX_n52 {w : zW} {X : Nat} (h : shX w X) : zN w (X + 52) = 3 := (h.2.2.1 (52, 36, 3) (List.mem_of_getElem? (i := 2) rfl)).2
theorem shX_k54 {w : zW} {X : Nat} (h : shX w X) : zK w (X + 53) = 37 := (h.2.2.1 (53, 37, 4) (List.mem_of_getElem? (i := 3) rfl)).1
theorem shX_n54 {w : zW} {X : Nat} (h : shX w X) : zN w (X + 53) = 4 := (h.2.2.1 (53, 37, 4) (List.mem_of_getElem? (i := 3) rfl)).2
theorem shX_k105 {w : zW} {X : Nat} (h : shX w X) : zK w (X + 104) = 21 := (h.2.2.1 (104, 21, 6) (List.mem_of_getElem? (i := 4) rfl)).1
theorem shX_n105 {w : zW} {X : Nat} (h : shX w X) : zN w (X + 104) = 6 := (h.2.2.1 (104, 21, 6) (List.mem_of_getElem? (i := 4) rfl)).2
theorem shX_k106 {w : zW} {X : Nat} (h : shX w X) : zK w (X + 105) = 21 := (h.2.2.1 (105, 21, 4) (List.mem_of_getElem? (i := 5) rfl)).1
theorem shX_n106 {w : zW} {X : Nat} (h : shX w X) : zN w (X + 105) = 4 := (h.2.2.1 (105, 21, 4) (List.mem_of_getElem? (i := 5) rfl)).2
theorem shX_k107 {w : zW} {X : Nat} (h : shX w X) : zK w (X + 106) = 21 := (h.2.2.1 (106, 21, 100) (List.mem_of_getElem? (i := 6) rfl)).1
theorem shX_n107 {w : zW} {X : Nat} (h : shX w X) : zN w (X + 106) = 100 := (h.2.2.1 (106, 21, 100) (List.mem_of_getElem? (i := 6) rfl)).2
theorem shX_k108 {w : zW} {X : Nat} (h : shX w X) : zK w (X + 107) = 21 := (h.2.2.1 (107, 21, 720) (List.mem_of_getElem? (i := 7) rfl)).1
theorem shX_n108 {w : zW} {X : Nat} (h : shX w X) : zN w (X + 107) = 720 := (h.2.2.1 (107, 21, 720) (List.mem_of_getElem? (i := 7) rfl)).2
theorem shX_k2 {w : zW} {X : Nat} (h : shX w X) : zK w (X + 2) = 5 := h.2.2.2.1.1
theorem shX_law {w : zW} {X : Nat} (h : shX w X) : zP w (X + 2) 8 = some (X + 10) := h.2.2.2.1.2
theorem shX_tb {w : zW} {X : Nat} (h : shX w X) : shTb w (X + 11) := h.2.2.2.2.1
theorem shX_pi {w : zW} {X i : Nat} (h : shX w X) (hi : i < 3) : shTb w (X + 108 + 41 * i) ∧ zP w (X + 52) i = some (X + 108 + 41 * i) := h.2.2.2.2.2.1 i hi
theorem shX_ty {w : zW} {X i : Nat} (h : shX w X) (hi : i < 4) : shTr w (X + 231 + 2 * i) ∧ zP w (X + 53) i = some (X + 231 + 2 * i) := h.2.2.2.2.2.2.1 i hi
theorem shX_sc {w : zW} {X : Nat} (h : shX w X) : shSc w (X + 54) := h.2.2.2.2.2.2.2.1
theorem shX_wo {w : zW} {X : Nat} (h : shX w X) : shWy w (X + 57) := h.2.2.2.2.2.2.2.2.1
theorem shX_wf {w : zW} {X : Nat} (h : shX w X) : shWy w (X + 75) := h.2.2.2.2.2.2.2.2.2.1
theorem shX_ly {w : zW} {X : Nat} (h : shX w X) : shLay w (X + 93) := h.2.2.2.2.2.2.2.2.2.2.1
theorem shX_fo {w : zW} {X : Nat} (h : shX w X) : shLay w (X + 97) := h.2.2.2.2.2.2.2.2.2.2.2.1
theorem shX_tr {w : zW} {X : Nat} (h : shX w X) : shMo w (X + 101) := h.2.2.2.2.2.2.2.2.2.2.2.2
/-- where napkins may lie: the ones made at first, and behind the reference and the law's row -/
def zoneX (X q : Nat) : Prop := X + 261 ≤ q ∨ X + 4 ≤ q ∧ q < X + 10 ∨ X + 12 ≤ q ∧ q < X + 18 ∨ X + 109 ≤ q ∧ q < X + 115 ∨ X + 150 ≤ q ∧ q < X + 156 ∨ X + 191 ≤ q ∧ q < X + 197
def lawAt (w : zW) (f : Nat → Nat → Int32) (X nq k : Nat) (l : List Nat) : Prop := ∃ la, zP w nq k = some la ∧ zK w la = 21 ∧ zN w la = l.length ∧ zoneX X la ∧ ∀ i o, l[i]? = some o → (f la i).toInt = ((o : Nat) : Int)
def naAt (w : zW) (f : Nat → Nat → Int32) (X nq : Nat) (T : zTb) : Prop := shNa w nq ∧ ctNa f nq T.1 ∧ (zoneX X nq ∧ zoneX X (nq + 1) ∧ zoneX X (nq + 2)) ∧ lawAt w f X nq 5 T.2.1.1 ∧ lawAt w f X nq 6 T.2.1.2.1 ∧ lawAt w f X nq 7 T.2.1.2.2
/-- the table at a holds T -/
def tbAt (w : zW) (f : Nat → Nat → Int32) (X a : Nat) (T : zTb) : Prop := ∃ nq pp g0 p0, zP w a 0 = some nq ∧ naAt w f X nq T ∧ ppOk (zP w) a pp ∧ ctTb f a pp T.2.2.1 g0 p0 ∧ T.2.2.2 = (List.range p0).map g0 ∧ wfT T
/-- unchanged but for what calls write on aside: Scale, Ways, Lays, the trial, rows of ints -/
def frQ (X : Nat) (f f2 : Nat → Nat → Int32) : Prop := ∀ q, (q < X + 54 ∨ X + 108 ≤ q) → f2 q = f q
theorem frQ_rf {X : Nat} {f : Nat → Nat → Int32} : frQ X f f := fun _ _ => rfl
theorem frQ_tr {X : Nat} {f f2 f3 : Nat → Nat → Int32} (h : frQ X f f2) (h2 : frQ X f2 f3) : frQ X f f3 := fun q hq => (h2 q hq).trans (h q hq)
theorem frQ_R {X a n : Nat} {f f2 : Nat → Nat → Int32} (h : ofR f f2 a n) (ha : X + 54 ≤ a ∧ a + n ≤ X + 108) : frQ X f f2 := fun q hq => h q (by omega)
theorem frQ_W {X a : Nat} {f f2 : Nat → Nat → Int32} (h : ofW f f2 a) (ha : X + 54 ≤ a ∧ a + 18 ≤ X + 108) : frQ X f f2 := fun q hq => h q (by omega)
theorem frQ_zu {X a i : Nat} {f f2 : Nat → Nat → Int32} {x : Int32} (h : frQ X f f2) (ha : X + 54 ≤ a ∧ a < X + 108) : frQ X f (zu f2 a i x) := fun q hq => (zu_ne (by omega)).trans (h q hq)
theorem zone_q {X q : Nat} (h : zoneX X q) : q < X + 54 ∨ X + 108 ≤ q := by unfold zoneX at h; omega
theorem lawAt_q {w : zW} {f f2 : Nat → Nat → Int32} {X nq k : Nat} {l : List Nat} (h : lawAt w f X nq k l) (ho : ∀ q, zoneX X q → f2 q = f q) : lawAt w f2 X nq k l := by
  obtain ⟨la, h1, h2, h3, h4, h5⟩ := h
  exact ⟨la, h1, h2, h3, h4, fun i o hi => by rw [ho la h4]; exact h5 i o hi⟩
theorem naAt_q {w : zW} {f f2 : Nat → Nat → Int32} {X nq : Nat} {T : zTb} (h : naAt w f X nq T) (ho : ∀ q, zoneX X q → f2 q = f q) : naAt w f2 X nq T := by
  obtain ⟨h1, h2, ⟨z1, z2, z3⟩, l1, l2, l3⟩ := h
  exact ⟨h1, ctNa_of h2 (ho _ z1) (ho _ z2) (ho _ z3), ⟨z1, z2, z3⟩, lawAt_q l1 ho, lawAt_q l2 ho, lawAt_q l3 ho⟩
theorem ctTb_q {f f2 : Nat → Nat → Int32} {a p : Nat} {pp : Nat → Nat} {M : zMo} {g0 : Nat → zMo} {P : Nat → Nat → Option Nat} (h : ctTb f a pp M g0 p) (hp : ppOk P a pp) (ho : ∀ q, (q = a ∨ a + 7 ≤ q ∧ q < a + 41) → f2 q = f q) : ctTb f2 a pp M g0 p := by
  obtain ⟨h1, h2, h3, h4⟩ := h
  refine ⟨by rw [ho a (by omega)]; exact h1, h2, ctMo_of h3 (ho _ (by omega)) (ho _ (by omega)) (ho _ (by omega)), fun i hi => ?_⟩
  have := (hp.1 i hi).2
  exact ctMo_of (h4 i hi) (ho _ (by omega)) (ho _ (by omega)) (ho _ (by omega))
theorem tbAt_q {w : zW} {f f2 : Nat → Nat → Int32} {X a : Nat} {T : zTb} (h : tbAt w f X a T) (ho : ∀ q, zoneX X q → f2 q = f q) (ho2 : ∀ q, (q = a ∨ a + 7 ≤ q ∧ q < a + 41) → f2 q = f q) : tbAt w f2 X a T := by
  obtain ⟨nq, pp, g0, p0, h1, h2, h3, h4, h5⟩ := h
  exact ⟨nq, pp, g0, p0, h1, naAt_q h2 ho, h3, ctTb_q h4 h3 ho2, h5⟩
theorem tbAt_Q {w : zW} {f f2 : Nat → Nat → Int32} {X : Nat} {T : zTb} (h : tbAt w f X (X + 11) T) (ho : frQ X f f2) : tbAt w f2 X (X + 11) T := tbAt_q h (fun q hq => ho q (zone_q hq)) (fun q hq => ho q (by omega))
