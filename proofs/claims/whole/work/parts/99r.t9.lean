/-! the class in a grown world; napkin-/
theorem shLay_g {w w2 : zW} {a : Nat} (h_z : shLay w a) (e : ∀ q, a ≤ q → q < a + 4 → zK w2 q = zK w q ∧ zN w2 q = zN w q ∧ ∀ k, zP w2 q k = zP w q k) : shLay w2 a := by
  obtain ⟨h0, h1, h2, h3, h4, h5, h6, h7, h8, h9⟩ := h_z
  exact ⟨(e a (Nat.le_refl a) (by omega)).1.trans h0, ((e a (Nat.le_refl a) (by omega)).2.2 0).trans h1, ((e a (Nat.le_refl a) (by omega)).2.2 1).trans h2, ((e a (Nat.le_refl a) (by omega)).2.2 2).trans h3, (e (a + 1) (by omega) (by omega)).1.trans h4, (e (a + 2) (by omega) (by omega)).1.trans h5, (e (a + 3) (by omega) (by omega)).1.trans h6, (e (a + 1) (by omega) (by omega)).2.1.trans h7, (e (a + 2) (by omega) (by omega)).2.1.trans h8, (e (a + 3) (by omega) (by omega)).2.1.trans h9⟩
theorem shMo_g {w w2 : zW} {a : Nat} (h_z : shMo w a) (e : ∀ q, a ≤ q → q < a + 3 → zK w2 q = zK w q ∧ zN w2 q = zN w q ∧ ∀ k, zP w2 q k = zP w q k) : shMo w2 a := by
  obtain ⟨h0, h1, h2, h3, h4, h5, h6⟩ := h_z
  exact ⟨(e a (Nat.le_refl a) (by omega)).1.trans h0, ((e a (Nat.le_refl a) (by omega)).2.2 0).trans h1, ((e a (Nat.le_refl a) (by omega)).2.2 1).trans h2, (e (a + 1) (by omega) (by omega)).1.trans h3, (e (a + 2) (by omega) (by omega)).1.trans h4, (e (a + 1) (by omega) (by omega)).2.1.trans h5, (e (a + 2) (by omega) (by omega)).2.1.trans h6⟩
theorem shSc_g {w w2 : zW} {a : Nat} (h_z : shSc w a) (e : ∀ q, a ≤ q → q < a + 3 → zK w2 q = zK w q ∧ zN w2 q = zN w q ∧ ∀ k, zP w2 q k = zP w q k) : shSc w2 a := by
  obtain ⟨h0, h1, h2, h3, h4, h5, h6⟩ := h_z
  exact ⟨(e a (Nat.le_refl a) (by omega)).1.trans h0, ((e a (Nat.le_refl a) (by omega)).2.2 0).trans h1, ((e a (Nat.le_refl a) (by omega)).2.2 1).trans h2, (e (a + 1) (by omega) (by omega)).1.trans h3, (e (a + 2) (by omega) (by omega)).1.trans h4, (e (a + 1) (by omega) (by omega)).2.1.trans h5, (e (a + 2) (by omega) (by omega)).2.1.trans h6⟩
theorem shTr_g {w w2 : zW} {a : Nat} (h_z : shTr w a) (e : ∀ q, a ≤ q → q < a + 2 → zK w2 q = zK w q ∧ zN w2 q = zN w q ∧ ∀ k, zP w2 q k = zP w q k) : shTr w2 a := by
  obtain ⟨h0, h1, h2, h3⟩ := h_z
  exact ⟨(e a (Nat.le_refl a) (by omega)).1.trans h0, ((e a (Nat.le_refl a) (by omega)).2.2 0).trans h1, (e (a + 1) (by omega) (by omega)).1.trans h2, (e (a + 1) (by omega) (by omega)).2.1.trans h3⟩
theorem shWy_g {w w2 : zW} {a : Nat} (h_z : shWy w a) (e : ∀ q, a ≤ q → q < a + 18 → zK w2 q = zK w q ∧ zN w2 q = zN w q ∧ ∀ k, zP w2 q k = zP w q k) : shWy w2 a := by
  obtain ⟨h0, h1, h2, h3, h4, h5⟩ := h_z
  have e0_z := e a (Nat.le_refl a) (by omega)
  refine ⟨e0_z.1.trans h0, fun k hk => ?_, (e0_z.2.2 9).trans h2, (e0_z.2.2 10).trans h3, shLay_g h4 (fun q a1 a2 => e q (by omega) (by omega)), shLay_g h5 (fun q a1 a2 => e q (by omega) (by omega))⟩
  obtain ⟨a1, a2, a3⟩ := h1 k hk
  have e1_z := e (a + 1 + k) (by omega) (by omega)
  exact ⟨(e0_z.2.2 k).trans a1, e1_z.1.trans a2, e1_z.2.1.trans a3⟩
theorem shTb_g {w w2 : zW} {a : Nat} (h_z : shTb w a) (e : ∀ q, a ≤ q → q < a + 41 → zK w2 q = zK w q ∧ zN w2 q = zN w q ∧ ∀ k, q ≠ a + 10 → ¬ (q = a ∧ k = 0) → zP w2 q k = zP w q k) : shTb w2 a := by
  obtain ⟨h0, h1, h2, h3, h4, h5, h6⟩ := h_z
  have e0_z := e a (Nat.le_refl a) (by omega)
  have e1_z := e (a + 10) (by omega) (by omega)
  have em : ∀ b, (b = a + 7 ∨ ∃ i, i < 10 ∧ b = a + 11 + 3 * i) → shMo w b → shMo w2 b := by
    intro b hb_z hm_z
    refine shMo_g hm_z (fun q a1 a2 => ?_)
    have hb2 : a + 7 ≤ b ∧ b + 3 ≤ a + 41 ∧ (b + 3 ≤ a + 10 ∨ a + 11 ≤ b) := by
      rcases hb_z with hb_z | ⟨i, hi_z, hb_z⟩ <;> omega
    have e2_z := e q (by omega) (by omega)
    exact ⟨e2_z.1, e2_z.2.1, fun k => e2_z.2.2 k (by omega) (by omega)⟩
  exact ⟨e0_z.1.trans h0, (e0_z.2.2 1 (by omega) (by omega)).trans h1, (e0_z.2.2 2 (by omega) (by omega)).trans h2, e1_z.1.trans h3, e1_z.2.1.trans h4, em _ (Or.inl rfl) h5, fun i hi_z => em _ (Or.inr ⟨i, hi_z, rfl⟩) (h6 i hi_z)⟩
theorem shX_g {w w2 : zW} {X : Nat} (h_z : shX w X) (e : ∀ q, q < X + 261 → zK w2 q = zK w q ∧ zN w2 q = zN w q) (p : ∀ q k, okP X q k → zP w2 q k = zP w q k) : shX w2 X := by
  obtain ⟨a1, a2, a3, a4, a5, a6, a7, a8, a9, a10, a11, a12, a13⟩ := h_z
  have pk : ∀ q k, q < X + 261 → (q = X ∨ X + 52 ≤ q ∧ q < X + 108 ∨ X + 231 ≤ q) → zP w2 q k = zP w q k := fun q k h1 h2 => p q k ⟨h1, by omega⟩
  have g1 : ∀ q, q < X + 261 → (X + 52 ≤ q ∧ q < X + 108 ∨ X + 231 ≤ q) → zK w2 q = zK w q ∧ zN w2 q = zN w q ∧ ∀ k, zP w2 q k = zP w q k := fun q h1 h2 => ⟨(e q h1).1, (e q h1).2, fun k => pk q k h1 (by omega)⟩
  have gt : ∀ b, (b = X + 11 ∨ b = X + 108 ∨ b = X + 149 ∨ b = X + 190) → shTb w b → shTb w2 b := fun b hb_z ht => shTb_g ht (fun q b1 b2 => ⟨(e q (by omega)).1, (e q (by omega)).2, fun k b3 b4 => p q k ⟨by omega, by omega⟩⟩)
  refine ⟨(e X (by omega)).1.trans a1, fun c hc_z => (pk X c.1 (by omega) (Or.inl rfl)).trans (a2 c hc_z), fun c hc_z => ?_, ⟨(e (X + 2) (by omega)).1.trans a4.1, (p (X + 2) 8 ⟨by omega, by omega⟩).trans a4.2⟩, gt _ (Or.inl rfl) a5, fun i hi_z => ⟨gt _ (by omega) (a6 i hi_z).1, (pk (X + 52) i (by omega) (by omega)).trans (a6 i hi_z).2⟩, fun i hi_z => ⟨shTr_g (a7 i hi_z).1 (fun q b1 b2 => g1 q (by omega) (by omega)), (pk (X + 53) i (by omega) (by omega)).trans (a7 i hi_z).2⟩, shSc_g a8 (fun q b1 b2 => g1 q (by omega) (by omega)), shWy_g a9 (fun q b1 b2 => g1 q (by omega) (by omega)), shWy_g a10 (fun q b1 b2 => g1 q (by omega) (by omega)), shLay_g a11 (fun q b1 b2 => g1 q (by omega) (by omega)), shLay_g a12 (fun q b1 b2 => g1 q (by omega) (by omega)), shMo_g a13 (fun q b1 b2 => g1 q (by omega) (by omega))⟩
  have hc2 : c.1 < 261 := (show ∀ c ∈ kXl, c.1 < 261 by decide) c hc_z
  exact ⟨(e (X + c.1) (by omega)).1.trans (a3 c hc_z).1, (e (X + c.1) (by omega)).2.trans (a3 c hc_z).2⟩
/-- nothing lies beyond the world's end -/
def wz (w : zW) : Prop := ∀ q, zS w ≤ q → zK w q = 0
theorem wz_lt {w : zW} {q : Nat} (h_z : wz w) (hk : zK w q ≠ 0) : q < zS w := Nat.lt_of_not_le (fun h9 => hk (h_z q h9))
theorem lawAt_g {w w2 : zW} {f f2_z : Nat → Nat → Int32} {X nq k : Nat} {l : List Nat} (h_z : lawAt w f X nq k l) (hz : wz w) (hk : ∀ q, q < zS w → zK w2 q = zK w q ∧ zN w2 q = zN w q) (hp : zP w2 nq k = zP w nq k) (hf : ∀ q, q < zS w → zoneX X q → f2_z q = f q) : lawAt w2 f2_z X nq k l := by
  obtain ⟨la, h1, h2, h3, h4, h5⟩ := h_z
  have hl : la < zS w := wz_lt hz (by rw [h2]; decide)
  exact ⟨la, hp.trans h1, (hk la hl).1.trans h2, (hk la hl).2.trans h3, h4, fun i o hi_z => by rw [hf la hl h4]; exact h5 i o hi_z⟩
theorem naAt_g {w w2 : zW} {f f2_z : Nat → Nat → Int32} {X nq : Nat} {T : zTb} (h_z : naAt w f X nq T) (hz : wz w) (hk : ∀ q, q < zS w → zK w2 q = zK w q ∧ zN w2 q = zN w q) (hp : ∀ q k, q < zS w → zoneX X q → zP w2 q k = zP w q k) (hf : ∀ q, q < zS w → zoneX X q → f2_z q = f q) : naAt w2 f2_z X nq T := by
  obtain ⟨h1, h2, ⟨z1, z2, z3⟩, l1, l2, l3⟩ := h_z
  obtain ⟨s1, s2, s3, s4, s5, s6, s7⟩ := h1
  have q0 : nq < zS w := wz_lt hz (by rw [s1]; decide)
  have q1_z : nq + 1 < zS w := wz_lt hz (by rw [s4]; decide)
  have q2_z : nq + 2 < zS w := wz_lt hz (by rw [s5]; decide)
  have pn := fun k => hp nq k q0 z1
  exact ⟨⟨(hk nq q0).1.trans s1, (pn 3).trans s2, (pn 4).trans s3, (hk _ q1_z).1.trans s4, (hk _ q2_z).1.trans s5, (hk _ q1_z).2.trans s6, (hk _ q2_z).2.trans s7⟩, ctNa_of h2 (hf _ q0 z1) (hf _ q1_z z2) (hf _ q2_z z3), ⟨z1, z2, z3⟩, lawAt_g l1 hz hk (pn 5) hf, lawAt_g l2 hz hk (pn 6) hf, lawAt_g l3 hz hk (pn 7) hf⟩
theorem tbAt_g {w w2 : zW} {f f2_z : Nat → Nat → Int32} {X a : Nat} {T : zTb} (h_z : tbAt w f X a T) (hz : wz w) (hk : ∀ q, q < zS w → zK w2 q = zK w q ∧ zN w2 q = zN w q) (hp : ∀ q k, q < zS w → (zoneX X q ∨ q = a ∧ k = 0 ∨ q = a + 10) → zP w2 q k = zP w q k) (hf : ∀ q, q < zS w → (zoneX X q ∨ q = a ∨ a + 7 ≤ q ∧ q < a + 41) → f2_z q = f q) (ha_z : a + 41 ≤ zS w) : tbAt w2 f2_z X a T := by
  obtain ⟨nq, pp, g0, p0, h1, h2, h3, h4, h5⟩ := h_z
  refine ⟨nq, pp, g0, p0, (hp a 0 (by omega) (by omega)).trans h1, naAt_g h2 hz hk (fun q k b c => hp q k b (Or.inl c)) (fun q b c => hf q b (Or.inl c)), ⟨fun i hi_z => ⟨(hp (a + 10) i (by omega) (by omega)).trans (h3.1 i hi_z).1, (h3.1 i hi_z).2⟩, h3.2⟩, ctTb_q h4 h3 (fun q hq => hf q (by omega) (by omega)), h5⟩
theorem rdN_na {w : zW} {f : Nat → Nat → Int32} {X nq : Nat} {t : zNl} (h_z : rdN w f nq t) (hq : X + 261 ≤ nq) : naAt w f X nq (tbOf t) := by
  obtain ⟨a1, a2, a3, a4, a5, a6⟩ := h_z
  have law : ∀ k l, lwS w f nq k l → lawAt w f X nq k l := by
    rintro k l ⟨la, b1, b2, b3, b4, b5, b6⟩
    exact ⟨la, b3, b4, b5, Or.inl (by omega), b6⟩
  exact ⟨a1, a2, ⟨Or.inl hq, Or.inl (by omega), Or.inl (by omega)⟩, law _ _ a4, law _ _ a5, law _ _ a6⟩
/-- what a new napkin changes -/
def grN (X : Nat) (w w2 : zW) : Prop := zS w ≤ zS w2 ∧ (∀ q, q < zS w → zK w2 q = zK w q ∧ zN w2 q = zN w q) ∧ (∀ q k, q < zS w → ¬ (q = X + 2 ∧ (k = 0 ∨ k = 6 ∨ k = 7)) → ¬ (q = X + 11 ∧ k = 0) → zP w2 q k = zP w q k) ∧ ∀ q, zS w2 ≤ q → zK w2 q = zK w q
def frNp (X s : Nat) (f f2_z : Nat → Nat → Int32) (j j2 : Nat → Nat → Int64) : Prop := (∀ q, q < s → q ≠ X → q ≠ X + 2 → q ≠ X + 10 → ¬ (q = X + 11 ∨ X + 18 ≤ q ∧ q < X + 52) → f2_z q = f q) ∧ (∀ q, q < s → j2 q = j q)
set_option maxHeartbeats 4000000 in
set_option maxRecDepth 100000 in
theorem s_X11_napkin {g : zGT} {w : zW} {f : Nat → Nat → Int32} {j : Nat → Nat → Int64} {X p : Nat} {T : zTb} {B : Nat → Nat} {n : Nat} {ca wa wv : Nat → Nat} {kq ta sm gq gv : Nat} {x : Int32} {Q : Option Value → zW → Prop} {QX : String → zW → Prop} (G : zGok g) (hx : shX w X) (ht : tbAt w f X (X + 11) T) (kw : kWd g wa wv kq) (ko : kWo g ca wa wv ta sm gq gv) (hz : wz w) (hS_z : X + 261 ≤ zS w) (hp : (f X 1).toInt = (p : Nat)) (hp9 : p ≤ 900) (hB_z : ∀ q, q < p → btO (f (X + 1) q) (B q)) (hB9 : ∀ q, B q ≤ 255) (hn : (0 ≤ x.toInt ∧ x.toInt ≤ (p : Nat)) → (n : Int) = x.toInt) (hXIA : ¬ (0 ≤ x.toInt ∧ x.toInt ≤ (p : Nat)) → ∀ n, zS w ≤ n → QX "java/lang/IllegalArgumentException" (zsS (zM w f j) n)) (hQ0 : (0 ≤ x.toInt ∧ x.toInt ≤ (p : Nat)) → (npP B n).1 ≠ 0 → ∀ (r : Int32) w2 f2_z j2, r.toInt = -10 - ((npP B n).1 : Nat) → grN X w w2 → frNp X (zS w) f f2_z j j2 → (∀ k, k ≠ 1 → k ≠ 2 → k ≠ 3 → f2_z X k = f X k) → (f2_z X 1).toInt = 0 → (f2_z X 2).toInt = ((npP B n).1 : Nat) → (f2_z X 3).toInt = ((npP B n).2.1 : Nat) → shX w2 X → tbAt w2 f2_z X (X + 11) T → Q (some (.int r)) (zM w2 f2_z j2)) (hQ : (0 ≤ x.toInt ∧ x.toInt ≤ (p : Nat)) → (npP B n).1 = 0 → ∀ (r : Int32) w2 f2_z j2, r.toInt = ((npP B n).2.2.1.1 : Nat) → grN X w w2 → frNp X (zS w) f f2_z j j2 → (∀ k, k ≠ 1 → k ≠ 2 → k ≠ 3 → f2_z X k = f X k) → (f2_z X 1).toInt = 0 → (f2_z X 2).toInt = 0 → (f2_z X 3).toInt = -1 → shX w2 X → tbAt w2 f2_z X (X + 11) (tbOf (npP B n).2.2) → Q (some (.int r)) (zM w2 f2_z j2)) : zC g 76 yX11_napkin cX11_napkin 3 (some .int) [.ref X, .int x] (zM w f j) (951, 1006) Q QX := by
  refine zC_of G (by decide +kernel) (Nat.le_of_ble_eq_true rfl) ?_
  by_cases hc_z : 0 ≤ x.toInt ∧ x.toInt ≤ (p : Nat)
  · have hnx := hn hc_z
    refine r_iload1 dX11_napkin_0 ?_
    refine t_iflt (t := 12) dX11_napkin_1 (by decide) (fun h1 => False.elim (by omega)) (fun h1 => ?_)
    refine r_iload1 dX11_napkin_4 ?_
    refine r_aloadR0 dX11_napkin_5 ?_
    refine m_getV (x := (f X 1)) zf_RX11_13 rfl dX11_napkin_6 (shX_k hx) (rfl) ?_
    refine t_icle (t := 22) dX11_napkin_9 (by decide) (fun h9 => ?_) (fun h9 => False.elim (by omega))
    refine r_aloadR0 dX11_napkin_22 ?_
    refine m_getR (q := (X + 2)) zf_RX11_26 rfl dX11_napkin_23 (shX_k hx) (shX_p4 hx) ?_
    refine r_aloadR0 dX11_napkin_26 ?_
    refine m_getR (q := (X + 1)) zf_RX11_9 rfl dX11_napkin_27 (shX_k hx) (shX_p0 hx) ?_
    refine r_iload1 dX11_napkin_30 ?_
    refine q_callV2 zm_RX11_106 dX11_napkin_31 (shX_k2 hx) (by decide) rfl (by first | exact Nat.le_of_ble_eq_true rfl | (dsimp only [zV, zVh, zVg, zrm]; omega) | omega) (by first | exact Nat.le_of_ble_eq_true rfl | (dsimp only [zV, zVh, zVg, zrm]; omega) | omega) (by first | exact Nat.le_of_ble_eq_true rfl | (dsimp only [zV, zVh, zVg, zrm]; omega) | omega) (by first | exact Nat.le_of_ble_eq_true rfl | (dsimp only [zV, zVh, zVg, zrm]; omega) | omega) (by first | exact Nat.le_of_ble_eq_true rfl | (dsimp only [zV, zVh, zVg, zrm]; omega) | omega) (s_X5_read (n := n) (B := B) G kw ko (shX_k2 hx) (shX_law hx) ⟨shX_k1 hx, shX_n1 hx⟩ ⟨shX_k10 hx, shX_n10 hx⟩ (by omega) (by omega) (hn hc_z).symm (by have := hn hc_z; omega) (fun q hq => hB_z q (by have := hn hc_z; omega)) hB9 (fun hy w2 f2_z j2 hg hf hf1 hf2 => ?_) (fun hy w2 f2_z j2 hg hf hf1 hf2 hs3 hrd => ?_))
    · refine r_astoreO2 (r := none) dX11_napkin_34 rfl ?_
      have hk2 := hg.2.1
      have hx2 : shX w2 X := shX_g hx (fun q hq => hk2 q (by omega)) (fun q k hq => hg.2.2.1 q k (by have := hq.1; omega) (fun h9 => hq.2 (by omega)))
      have fx : f2_z X = f X := hf.1 X (by omega) (by omega) (by omega)
      have hx := hx2
      refine r_aloadR0 dX11_napkin_35 ?_
      refine n_iconst dX11_napkin_36 (by decide) (fun r36 e36 => ?_)
      refine m_putI zf_RX11_13 (by intro C T N h_z; cases h_z; rfl) rfl dX11_napkin_37 (shX_k hx) ?_
      obtain ⟨g37, hg37⟩ : ∃ g9, g9 = zu f2_z X 1 r36 := ⟨_, rfl⟩
      rw [← hg37]
      have og37 : ∀ q, q ≠ X → g37 q = f2_z q := by intro q hq; rw [hg37]; exact zu_ne hq
      have vg37 : g37 X 1 = r36 := by rw [hg37]; exact zu_at
      have wg37 : ∀ i, i ≠ 1 → g37 X i = f2_z X i := by intro i hi_z; rw [hg37]; exact zu_ni hi_z
      refine r_aloadR0 dX11_napkin_40 ?_
      refine r_aloadR0 dX11_napkin_41 ?_
      refine m_getR (q := (X + 2)) zf_RX11_26 rfl dX11_napkin_42 (shX_k hx) (shX_p4 hx) ?_
      refine m_getV (x := (g37 (X + 2) 11)) zf_RX11_110 rfl dX11_napkin_45 (shX_k2 hx) (rfl) ?_
      refine m_putI zf_RX11_17 (by intro C T N h_z; cases h_z; rfl) rfl dX11_napkin_48 (shX_k hx) ?_
      obtain ⟨g48, hg48⟩ : ∃ g9, g9 = zu g37 X 2 (g37 (X + 2) 11) := ⟨_, rfl⟩
      rw [← hg48]
      have og48 : ∀ q, q ≠ X → g48 q = g37 q := by intro q hq; rw [hg48]; exact zu_ne hq
      have vg48 : g48 X 2 = (g37 (X + 2) 11) := by rw [hg48]; exact zu_at
      have wg48 : ∀ i, i ≠ 2 → g48 X i = g37 X i := by intro i hi_z; rw [hg48]; exact zu_ni hi_z
      refine r_aloadR0 dX11_napkin_51 ?_
      refine r_aloadR0 dX11_napkin_52 ?_
      refine m_getR (q := (X + 2)) zf_RX11_26 rfl dX11_napkin_53 (shX_k hx) (shX_p4 hx) ?_
      refine m_getV (x := (g48 (X + 2) 12)) zf_RX11_111 rfl dX11_napkin_56 (shX_k2 hx) (rfl) ?_
      refine m_putI zf_RX11_20 (by intro C T N h_z; cases h_z; rfl) rfl dX11_napkin_59 (shX_k hx) ?_
      obtain ⟨g59, hg59⟩ : ∃ g9, g9 = zu g48 X 3 (g48 (X + 2) 12) := ⟨_, rfl⟩
      rw [← hg59]
      have og59 : ∀ q, q ≠ X → g59 q = g48 q := by intro q hq; rw [hg59]; exact zu_ne hq
      have vg59 : g59 X 3 = (g48 (X + 2) 12) := by rw [hg59]; exact zu_at
      have wg59 : ∀ i, i ≠ 3 → g59 X i = g48 X i := by intro i hi_z; rw [hg59]; exact zu_ni hi_z
      have o59 : ∀ q, q ≠ X → g59 q = f2_z q := fun q hq => (og59 q hq).trans ((og48 q hq).trans (og37 q hq))
      have e1_z : (g59 X 1).toInt = 0 := by rw [wg59 1 (by decide), wg48 1 (by decide), vg37]; omega
      have e2_z : g59 X 2 = f2_z (X + 2) 11 := by rw [wg59 2 (by decide), vg48, og37 (X + 2) (by omega)]
      have e3_z : g59 X 3 = f2_z (X + 2) 12 := by rw [vg59, og48 (X + 2) (by omega), og37 (X + 2) (by omega)]
      have ek : ∀ k, k ≠ 1 → k ≠ 2 → k ≠ 3 → g59 X k = f X k := fun k k1_z k2_z k3_z => by rw [wg59 k k3_z, wg48 k k2_z, wg37 k k1_z, fx]
      refine r_aload2 dX11_napkin_62 (by first | exact zrf_r | exact zrf_o | exact zrf_n) ?_
      refine r_ifnonnull (t := 74) dX11_napkin_63 (by decide) (fun q63 h63 => False.elim (Option.some_ne_none _ h63.symm)) (fun h63 => ?_)
      have e2b : (g59 X 2).toInt = ((npP B n).1 : Nat) := by rw [e2_z]; exact hf1
      have y4 : (npP B n).1 ≤ 4 := (np_gd (B := B) (n := n) (by omega)).1
      refine n_bipush dX11_napkin_66 (by decide) (fun r66 e66 => ?_)
      refine r_aloadR0 dX11_napkin_68 ?_
      refine m_getV (x := (g59 X 2)) zf_RX11_17 rfl dX11_napkin_69 (shX_k hx) (rfl) ?_
      refine n_isub dX11_napkin_72 (by omega) (fun r72 e72_z => ?_)
      refine r_iret dX11_napkin_73 rfl (by first | exact Nat.le_of_ble_eq_true rfl | (dsimp only [zV, zVh, zVg, zrm]; omega) | omega) (by first | exact Nat.le_of_ble_eq_true rfl | (dsimp only [zV, zVh, zVg, zrm]; omega) | omega) ?_
      have hfr : frNp X (zS w) f g59 j j2 := ⟨fun q a b c d e => (o59 q b).trans (hf.1 q a c (by omega)), hf.2⟩
      have hgn : grN X w w2 := ⟨hg.1, hg.2.1, fun q k a b c => hg.2.2.1 q k a b, hg.2.2.2⟩
      have htb : tbAt w2 g59 X (X + 11) T := tbAt_g ht hz hk2 (fun q k a b => hg.2.2.1 q k a (by rcases b with b | b | b <;> first | (unfold zoneX at b; omega) | omega)) (fun q a b => (o59 q (by rcases b with b | b | b <;> first | (unfold zoneX at b; omega) | omega)).trans (hf.1 q a (by rcases b with b | b | b <;> first | (unfold zoneX at b; omega) | omega) (by rcases b with b | b | b <;> first | (unfold zoneX at b; omega) | omega))) (by omega)
      exact hQ0 hc_z hy _ w2 g59 j2 (by omega) hgn hfr ek e1_z e2b (by rw [e3_z]; exact hf2) hx htb
    · refine r_astore2 dX11_napkin_34 rfl ?_
      have hk2 := hg.2.1
      have hx2 : shX w2 X := shX_g hx (fun q hq => hk2 q (by omega)) (fun q k hq => hg.2.2.1 q k (by have := hq.1; omega) (fun h9 => hq.2 (by omega)))
      have fx : f2_z X = f X := hf.1 X (by omega) (by omega) (by omega)
      have hx := hx2
      refine r_aloadR0 dX11_napkin_35 ?_
      refine n_iconst dX11_napkin_36 (by decide) (fun r36 e36 => ?_)
      refine m_putI zf_RX11_13 (by intro C T N h_z; cases h_z; rfl) rfl dX11_napkin_37 (shX_k hx) ?_
      obtain ⟨g37, hg37⟩ : ∃ g9, g9 = zu f2_z X 1 r36 := ⟨_, rfl⟩
      rw [← hg37]
      have og37 : ∀ q, q ≠ X → g37 q = f2_z q := by intro q hq; rw [hg37]; exact zu_ne hq
      have vg37 : g37 X 1 = r36 := by rw [hg37]; exact zu_at
      have wg37 : ∀ i, i ≠ 1 → g37 X i = f2_z X i := by intro i hi_z; rw [hg37]; exact zu_ni hi_z
      refine r_aloadR0 dX11_napkin_40 ?_
      refine r_aloadR0 dX11_napkin_41 ?_
      refine m_getR (q := (X + 2)) zf_RX11_26 rfl dX11_napkin_42 (shX_k hx) (shX_p4 hx) ?_
      refine m_getV (x := (g37 (X + 2) 11)) zf_RX11_110 rfl dX11_napkin_45 (shX_k2 hx) (rfl) ?_
      refine m_putI zf_RX11_17 (by intro C T N h_z; cases h_z; rfl) rfl dX11_napkin_48 (shX_k hx) ?_
      obtain ⟨g48, hg48⟩ : ∃ g9, g9 = zu g37 X 2 (g37 (X + 2) 11) := ⟨_, rfl⟩
      rw [← hg48]
      have og48 : ∀ q, q ≠ X → g48 q = g37 q := by intro q hq; rw [hg48]; exact zu_ne hq
      have vg48 : g48 X 2 = (g37 (X + 2) 11) := by rw [hg48]; exact zu_at
      have wg48 : ∀ i, i ≠ 2 → g48 X i = g37 X i := by intro i hi_z; rw [hg48]; exact zu_ni hi_z
      refine r_aloadR0 dX11_napkin_51 ?_
      refine r_aloadR0 dX11_napkin_52 ?_
      refine m_getR (q := (X + 2)) zf_RX11_26 rfl dX11_napkin_53 (shX_k hx) (shX_p4 hx) ?_
      refine m_getV (x := (g48 (X + 2) 12)) zf_RX11_111 rfl dX11_napkin_56 (shX_k2 hx) (rfl) ?_
      refine m_putI zf_RX11_20 (by intro C T N h_z; cases h_z; rfl) rfl dX11_napkin_59 (shX_k hx) ?_
      obtain ⟨g59, hg59⟩ : ∃ g9, g9 = zu g48 X 3 (g48 (X + 2) 12) := ⟨_, rfl⟩
      rw [← hg59]
      have og59 : ∀ q, q ≠ X → g59 q = g48 q := by intro q hq; rw [hg59]; exact zu_ne hq
      have vg59 : g59 X 3 = (g48 (X + 2) 12) := by rw [hg59]; exact zu_at
      have wg59 : ∀ i, i ≠ 3 → g59 X i = g48 X i := by intro i hi_z; rw [hg59]; exact zu_ni hi_z
      have o59 : ∀ q, q ≠ X → g59 q = f2_z q := fun q hq => (og59 q hq).trans ((og48 q hq).trans (og37 q hq))
      have e1_z : (g59 X 1).toInt = 0 := by rw [wg59 1 (by decide), wg48 1 (by decide), vg37]; omega
      have e2_z : g59 X 2 = f2_z (X + 2) 11 := by rw [wg59 2 (by decide), vg48, og37 (X + 2) (by omega)]
      have e3_z : g59 X 3 = f2_z (X + 2) 12 := by rw [vg59, og48 (X + 2) (by omega), og37 (X + 2) (by omega)]
      have ek : ∀ k, k ≠ 1 → k ≠ 2 → k ≠ 3 → g59 X k = f X k := fun k k1_z k2_z k3_z => by rw [wg59 k k3_z, wg48 k k2_z, wg37 k k1_z, fx]
      have ht0 := ht
      obtain ⟨nq0, pp, g0, p0, hnq0, hna0, hpp, hctb, hpast, hwf⟩ := ht0
      have hpp2 : ppOk (zP w2) (X + 11) pp := ⟨fun i hi_z => ⟨(hg.2.2.1 (X + 11 + 10) i (by omega) (by omega)).trans (hpp.1 i hi_z).1, (hpp.1 i hi_z).2⟩, hpp.2⟩
      have hct2 : ctTb g59 (X + 11) pp T.2.2.1 g0 p0 := ctTb_q hctb hpp (fun q hq => (o59 q (by omega)).trans (hf.1 q (by omega) (by omega) (by omega)))
      have hcn2 : ctNa g59 (zS w) (npP B n).2.2.1 := ctNa_of hrd.2.1 (o59 _ (by omega)) (o59 _ (by omega)) (o59 _ (by omega))
      have hrd2 : rdN w2 g59 (zS w) (npP B n).2.2 := rdN_e hrd (fun q h1 h2 => o59 q (by omega))
      refine r_aloadR2 dX11_napkin_62 ?_
      refine r_ifnonnull (r := some (zS w)) (t := 74) dX11_napkin_63 (by decide) (fun q63 h63 => ?_) (fun h63 => False.elim (Option.some_ne_none _ h63))
      refine r_aloadR0 dX11_napkin_74 ?_
      refine m_getR (q := (X + 11)) zf_RX11_33 rfl dX11_napkin_75 (shX_k hx) (shX_p5 hx) ?_
      refine r_aloadR2 dX11_napkin_78 ?_
      refine q_callV1 zm_RX11_114 dX11_napkin_79 (shTb_k (shX_tb hx)) (by decide) rfl (by first | exact Nat.le_of_ble_eq_true rfl | (dsimp only [zV, zVh, zVg, zrm]; omega) | omega) (by first | exact Nat.le_of_ble_eq_true rfl | (dsimp only [zV, zVh, zVg, zrm]; omega) | omega) (by first | exact Nat.le_of_ble_eq_true rfl | (dsimp only [zV, zVh, zVg, zrm]; omega) | omega) (by first | exact Nat.le_of_ble_eq_true rfl | (dsimp only [zV, zVh, zVg, zrm]; omega) | omega) (by first | exact Nat.le_of_ble_eq_true rfl | (dsimp only [zV, zVh, zVg, zrm]; omega) | omega) (s_X7_spread G (shX_tb hx) hpp2 hct2 hrd.1 hcn2 (by omega) (fun g79 o79 c79 => ?_))
      obtain ⟨w3, hw3⟩ : ∃ w9, w9 = zsP w2 (zu (zP w2) (X + 11) 0 (some (zS w))) := ⟨_, rfl⟩
      rw [← hw3]
      have k3_z : ∀ q, zK w3 q = zK w2 q ∧ zN w3 q = zN w2 q := fun q => by rw [hw3]; exact ⟨rfl, rfl⟩
      have p3 : ∀ q k, ¬ (q = X + 11 ∧ k = 0) → zP w3 q k = zP w2 q k := fun q k h_z => by rw [hw3]; exact if_neg h_z
      have p30 : zP w3 (X + 11) 0 = some (zS w) := by rw [hw3]; exact zu_at
      have s3 : zS w3 = zS w2 := by rw [hw3]; rfl
      have g9q : ∀ q, zS w ≤ q → g79 q = g59 q := fun q hq => o79 q (by omega)
      refine r_aloadR2 dX11_napkin_82 ?_
      refine m_getV (x := (g79 (zS w) 0)) zf_RX11_118 rfl dX11_napkin_83 ((k3_z (zS w)).1.trans hrd.1.1) rfl ?_
      refine r_iret dX11_napkin_86 rfl (by first | exact Nat.le_of_ble_eq_true rfl | (dsimp only [zV, zVh, zVg, zrm]; omega) | omega) (by first | exact Nat.le_of_ble_eq_true rfl | (dsimp only [zV, zVh, zVg, zrm]; omega) | omega) ?_
      have hrd3 : rdN w3 g79 (zS w) (npP B n).2.2 := by
        have h9 := rdN_e hrd2 (fun q h1 h2 => g9q q h1)
        obtain ⟨⟨s1, s2, s3b, s4⟩, a2, a3, a4, a5, a6⟩ := h9
        have lw : ∀ k l, lwS w2 g79 (zS w) k l → lwS w3 g79 (zS w) k l := by
          rintro k l ⟨la, b1, b2, b3, b4, b5, b6⟩
          exact ⟨la, b1, by omega, (p3 _ k (by omega)).trans b3, (k3_z la).1.trans b4, (k3_z la).2.trans b5, b6⟩
        obtain ⟨t1, t2, t3, t4⟩ := s4
        exact ⟨⟨(k3_z _).1.trans s1, (p3 _ 3 (by omega)).trans s2, (p3 _ 4 (by omega)).trans s3b, (k3_z _).1.trans t1, (k3_z _).1.trans t2, (k3_z _).2.trans t3, (k3_z _).2.trans t4⟩, a2, by omega, lw _ _ a4, lw _ _ a5, lw _ _ a6⟩
      have hx3 : shX w3 X := shX_g hx (fun q _ => k3_z q) (fun q k hq => p3 q k (by intro h9; exact hq.2 (by omega)))
      have hgn : grN X w w3 := ⟨by omega, fun q hq => ⟨(k3_z q).1.trans (hk2 q hq).1, (k3_z q).2.trans (hk2 q hq).2⟩, fun q k a b c => (p3 q k c).trans (hg.2.2.1 q k a b), fun q hq => (k3_z q).1.trans (hg.2.2.2 q (by omega))⟩
      have hfr : frNp X (zS w) f g79 j j2 := ⟨fun q a b c d e => (o79 q (by omega)).trans ((o59 q b).trans (hf.1 q a c (by omega))), hf.2⟩
      have x79 : g79 X = g59 X := o79 X (by omega)
      have hwf2 : wfT (tbOf (npP B n).2.2) := tbOf_wf (n := n) (p := (npP B n).2.1) (by omega) (by have := np_gd (B := B) (n := n) (by omega); rw [show npP B n = (0, (npP B n).2.1, (npP B n).2.2) from Prod.ext hy rfl] at this; exact this)
      have htb : tbAt w3 g79 X (X + 11) (tbOf (npP B n).2.2) := ⟨zS w, pp, g0, 0, p30, rdN_na hrd3 hS_z, ⟨fun i hi_z => ⟨(p3 _ i (by omega)).trans (hpp2.1 i hi_z).1, (hpp2.1 i hi_z).2⟩, hpp2.2⟩, c79, rfl, hwf2⟩
      have hl0 : (g79 (zS w) 0).toInt = ((npP B n).2.2.1.1 : Nat) := by
        rw [g9q _ (Nat.le_refl _), hcn2.1]
        have h9 : (npP B n).2.2.1.1 ≤ 900 := hwf2.1
        exact zi_n (by omega)
      exact hQ hc_z hy _ w3 g79 j2 hl0 hgn hfr (fun k k1_z k2_z k3_z => by rw [x79]; exact ek k k1_z k2_z k3_z) (by rw [x79]; exact e1_z) (by rw [x79, e2_z]; exact hf1) (by rw [x79, e3_z]; exact hf2) hx3 htb
  · rcases Int.lt_or_le x.toInt 0 with h0 | h0
    · refine r_iload1 dX11_napkin_0 ?_
      refine t_iflt (t := 12) dX11_napkin_1 (by decide) (fun h1 => ?_) (fun h1 => False.elim (by omega))
      refine r_throw zth_IA (List.mem_of_getElem? (i := 0) rfl) dX11_napkin_12 dX11_napkin_15 dX11_napkin_16 dX11_napkin_18 dX11_napkin_21 (by first | exact Nat.le_of_ble_eq_true rfl | (dsimp only [zV, zVh, zVg, zrm]; omega) | omega) (by first | exact Nat.le_of_ble_eq_true rfl | (dsimp only [zV, zVh, zVg, zrm]; omega) | omega) (by first | exact Nat.le_of_ble_eq_true rfl | (dsimp only [zV, zVh, zVg, zrm]; omega) | omega) (by first | exact Nat.le_of_ble_eq_true rfl | (dsimp only [zV, zVh, zVg, zrm]; omega) | omega) ?_
      exact hXIA hc_z
    · refine r_iload1 dX11_napkin_0 ?_
      refine t_iflt (t := 12) dX11_napkin_1 (by decide) (fun h1 => False.elim (by omega)) (fun h1 => ?_)
      refine r_iload1 dX11_napkin_4 ?_
      refine r_aloadR0 dX11_napkin_5 ?_
      refine m_getV (x := (f X 1)) zf_RX11_13 rfl dX11_napkin_6 (shX_k hx) (rfl) ?_
      refine t_icle (t := 22) dX11_napkin_9 (by decide) (fun h9 => False.elim (by omega)) (fun h9 => ?_)
      refine r_throw zth_IA (List.mem_of_getElem? (i := 0) rfl) dX11_napkin_12 dX11_napkin_15 dX11_napkin_16 dX11_napkin_18 dX11_napkin_21 (by first | exact Nat.le_of_ble_eq_true rfl | (dsimp only [zV, zVh, zVg, zrm]; omega) | omega) (by first | exact Nat.le_of_ble_eq_true rfl | (dsimp only [zV, zVh, zVg, zrm]; omega) | omega) (by first | exact Nat.le_of_ble_eq_true rfl | (dsimp only [zV, zVh, zVg, zrm]; omega) | omega) (by first | exact Nat.le_of_ble_eq_true rfl | (dsimp only [zV, zVh, zVg, zrm]; omega) | omega) ?_
      exact hXIA hc_z
