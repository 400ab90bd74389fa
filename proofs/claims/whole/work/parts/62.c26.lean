/-! the class: the tape, fault -/
def bytW (x : Int32) (i : Nat) : Int32 := vp_nar .byte ((x >>> (nI (24 - 8 * i) &&& 31)).toInt8.toInt32)
set_option maxHeartbeats 4000000 in
set_option maxRecDepth 100000 in
theorem s_X11_fault {g : zGT} {w : zW} {f : Nat → Nat → Int32} {j : Nat → Nat → Int64} {X : Nat} {x : Int32} {Q : Option Value → zW → Prop} {QX : String → zW → Prop} (G : zGok g) (hx : shX w X) (hQ : ∀ r : Int32, r.toInt = (if x.toInt = 0 then (f X 2).toInt else if x.toInt = 1 then (f X 3).toInt else -1) → Q (some (.int r)) (zM w f j)) : zC g 1 yX11_fault cX11_fault 2 (some .int) [.ref X, .int x] (zM w f j) (0, 0) Q QX := by
  refine zC_of G (by decide +kernel) (Nat.le_of_ble_eq_true rfl) ?_
  refine r_iload1 dX11_fault_0 ?_
  refine t_ifne (t := 9) dX11_fault_1 (by decide) (fun h1 => ?_) (fun h1 => ?_)
  · refine r_iload1 dX11_fault_9 ?_
    refine n_iconst dX11_fault_10 (by decide) (fun r10 e10_z => ?_)
    refine t_icne (t := 21) dX11_fault_11 (by decide) (fun h11 => ?_) (fun h11 => ?_)
    · refine n_iconst dX11_fault_21 (by decide) (fun r21 e21_z => ?_)
      refine r_iret dX11_fault_22 rfl (Nat.le_of_ble_eq_true rfl) (Nat.le_of_ble_eq_true rfl) ?_
      refine hQ _ ?_
      first
        | (rw [if_pos (by omega)]; done)
        | (rw [if_neg (by omega), if_pos (by omega)]; done)
        | (rw [if_neg (by omega), if_neg (by omega)]; omega)
    · refine r_aloadR0 dX11_fault_14 ?_
      refine m_getV (x := (f X 3)) zf_RX11_20 rfl dX11_fault_15 (shX_k (w := w) hx) (rfl) ?_
      refine r_goto (t := 22) dX11_fault_18 (by decide) ?_
      refine r_iret dX11_fault_22 rfl (Nat.le_of_ble_eq_true rfl) (Nat.le_of_ble_eq_true rfl) ?_
      refine hQ _ ?_
      first
        | (rw [if_pos (by omega)]; done)
        | (rw [if_neg (by omega), if_pos (by omega)]; done)
        | (rw [if_neg (by omega), if_neg (by omega)]; omega)
  · refine r_aloadR0 dX11_fault_4 ?_
    refine m_getV (x := (f X 2)) zf_RX11_17 rfl dX11_fault_5 (shX_k (w := w) hx) (rfl) ?_
    refine r_iret dX11_fault_8 rfl (Nat.le_of_ble_eq_true rfl) (Nat.le_of_ble_eq_true rfl) ?_
    refine hQ _ ?_
    first
      | (rw [if_pos (by omega)]; done)
      | (rw [if_neg (by omega), if_pos (by omega)]; done)
      | (rw [if_neg (by omega), if_neg (by omega)]; omega)
set_option maxHeartbeats 4000000 in
set_option maxRecDepth 100000 in
theorem s_X11_putOnTape {g : zGT} {w : zW} {f : Nat → Nat → Int32} {j : Nat → Nat → Int64} {X : Nat} {x : Int32} {p : Nat} {Q : Option Value → zW → Prop} {QX : String → zW → Prop} (G : zGok g) (hx : shX w X) (hp : (f X 1).toInt = (p : Nat)) (hp4 : p + 4 ≤ 900) (hQ : ∀ f2_z, (∀ q, q ≠ X → q ≠ X + 1 → f2_z q = f q) → (∀ k, k ≠ 1 → f2_z X k = f X k) → (f2_z X 1).toInt = ((p + 4 : Nat) : Int) → (∀ i, i < 4 → f2_z (X + 1) (p + i) = bytW x i) → (∀ k, (k < p ∨ p + 4 ≤ k) → f2_z (X + 1) k = f (X + 1) k) → Q none (zM w f2_z j)) : zC g 1 yX11_putOnTape cX11_putOnTape 3 none [.ref X, .int x] (zM w f j) (0, 0) Q QX := by
  refine zC_of G (by decide +kernel) (Nat.le_of_ble_eq_true rfl) ?_
  have lp : ∀ (mz : Nat) (sh : Int32) (k : Nat) (f2_z : Nat → Nat → Int32), sh.toInt = 24 - 8 * (k : Int) → k ≤ 4 → (∀ q, q ≠ X → q ≠ X + 1 → f2_z q = f q) → (∀ k, k ≠ 1 → f2_z X k = f X k) → (f2_z X 1).toInt = ((p + k : Nat) : Int) → (∀ i, i < k → f2_z (X + 1) (p + i) = bytW x i) → (∀ k9, (k9 < p ∨ p + 4 ≤ k9) → f2_z (X + 1) k9 = f (X + 1) k9) → 4 - k < mz → zR (zV g 1 yX11_putOnTape 3 none (0, 0) Q QX) cX11_putOnTape yX11_putOnTape.cls 3 [some (.ref X), some (.int x), some (.int sh)] [] (zM w f2_z j) (0, 0) := by
    intro mz
    induction mz with
    | zero =>
      intro sh k f2_z hsh hk ho hof htp hbt hrs hmz
      exact absurd hmz (Nat.not_lt_zero _)
    | succ mz ih =>
      intro sh k f2_z hsh hk ho hof htp hbt hrs hmz
      rcases Nat.lt_or_ge k 4 with hkl | hkl
      · refine r_iload2 dX11_putOnTape_3 ?_
        refine t_iflt (t := 55) dX11_putOnTape_4 (by decide) (fun h4 => False.elim (by omega)) (fun h4 => ?_)
        have hsh2 : sh.toInt = ((24 - 8 * k : Nat) : Int) := by omega
        refine r_aloadR0 dX11_putOnTape_7 ?_
        refine m_getV (x := (f2_z X 1)) zf_RX11_13 rfl dX11_putOnTape_8 (shX_k (w := w) hx) (rfl) ?_
        refine t_iflt (t := 49) dX11_putOnTape_11 (by decide) (fun h11 => False.elim (by omega)) (fun h11 => ?_)
        refine r_aloadR0 dX11_putOnTape_14 ?_
        refine m_getV (x := (f2_z X 1)) zf_RX11_13 rfl dX11_putOnTape_15 (shX_k (w := w) hx) (rfl) ?_
        refine r_aloadR0 dX11_putOnTape_18 ?_
        refine m_getR (q := (X + 1)) zf_RX11_9 rfl dX11_putOnTape_19 (shX_k (w := w) hx) (shX_p0 hx) ?_
        refine m_alen dX11_putOnTape_22 (zge (shX_k1 hx) (by decide)) (shX_n1 hx) (by first | decide | omega) (fun r22 e22_z => ?_)
        refine t_icge (t := 49) dX11_putOnTape_23 (by decide) (fun h23 => False.elim (by omega)) (fun h23 => ?_)
        refine r_aloadR0 dX11_putOnTape_26 ?_
        refine m_getR (q := (X + 1)) zf_RX11_9 rfl dX11_putOnTape_27 (shX_k (w := w) hx) (shX_p0 hx) ?_
        refine r_aloadR0 dX11_putOnTape_30 ?_
        refine m_getV (x := (f2_z X 1)) zf_RX11_13 rfl dX11_putOnTape_31 (shX_k (w := w) hx) (rfl) ?_
        refine r_iload1 dX11_putOnTape_34 ?_
        refine r_iload2 dX11_putOnTape_35 ?_
        refine r_ishr dX11_putOnTape_36 ?_
        refine n_name (fun r36 e36 => ?_)
        refine r_i2b dX11_putOnTape_37 ?_
        refine n_name (fun r37 e37 => ?_)
        refine m_bast (k := (p + k)) dX11_putOnTape_38 (shX_k1 hx) (shX_n1 hx) (by omega) (by omega) ?_
        refine r_aloadR0 dX11_putOnTape_39 ?_
        refine r_dup dX11_putOnTape_40 rfl ?_
        refine m_getV (x := (f2_z X 1)) zf_RX11_13 rfl dX11_putOnTape_41 (shX_k (w := w) hx) ((zu_nn (by omega)).trans (rfl)) ?_
        refine n_iconst dX11_putOnTape_44 (by decide) (fun r44 e44 => ?_)
        refine n_iadd dX11_putOnTape_45 (by omega) (fun r45 e45 => ?_)
        refine m_putI zf_RX11_13 (by intro C T N h_z; cases h_z; rfl) rfl dX11_putOnTape_46 (shX_k (w := w) hx) ?_
        refine n_iinc2 dX11_putOnTape_49 (by decide) rfl (by omega) (fun r49 e49 => ?_)
        refine r_goto (t := 3) dX11_putOnTape_52 (by decide) ?_
        refine ih _ (k + 1) _ (by omega) (by omega) (fun q h1 h2 => ?_) (fun k9 h1 => ?_) ?_ (fun i hi_z => ?_) (fun k9 h1 => ?_) (by omega)
        · exact (zu_ne h1).trans ((zu_ne h2).trans (ho q h1 h2))
        · exact (zu_nn (Or.inr h1)).trans ((zu_nn (Or.inl (by omega))).trans (hof k9 h1))
        · rw [zu_at]; omega
        · rw [zu_ne (by omega)]
          rcases Nat.lt_or_ge i k with h9 | h9
          · rw [zu_nn (Or.inr (by omega))]; exact hbt i h9
          · rw [show i = k by omega, zu_at, e37, e36, zi_of (n := 24 - 8 * k) hsh2 (by omega)]
            rfl
        · rw [zu_ne (by omega), zu_nn (Or.inr (by omega))]
          exact hrs k9 (by omega)
      · refine r_iload2 dX11_putOnTape_3 ?_
        refine t_iflt (t := 55) dX11_putOnTape_4 (by decide) (fun h4 => ?_) (fun h4 => False.elim (by omega))
        refine r_vret dX11_putOnTape_55 rfl (Nat.le_of_ble_eq_true rfl) (Nat.le_of_ble_eq_true rfl) ?_
        have hke : k = 4 := by omega
        subst hke
        exact hQ f2_z ho hof htp hbt hrs
  refine n_bipush dX11_putOnTape_0 (by decide) (fun r0 e0_z => ?_)
  refine r_istore2 dX11_putOnTape_2 rfl ?_
  exact lp 5 _ 0 f (by omega) (by omega) (fun _ _ _ => rfl) (fun _ _ => rfl) (by omega) (fun i hi_z => absurd hi_z (by omega)) (fun _ _ => rfl) (by omega)
def feW (a b c d e : Int32) (n : Nat) : Int32 := if n = 0 then a else if n = 1 then b else if n = 2 then c else if n = 3 then d else e
def fedG (a b c d e : Int32) : Nat → Int32 := fun i => bytW (feW a b c d e (i / 4)) (i % 4)
/-- m bytes more are on the tape -/
def tpS (X : Nat) (f f2_z : Nat → Nat → Int32) (p m : Nat) (g9 : Nat → Int32) : Prop := (∀ q, q ≠ X → q ≠ X + 1 → f2_z q = f q) ∧ (∀ k, k ≠ 1 → f2_z X k = f X k) ∧ (f2_z X 1).toInt = ((p + m : Nat) : Int) ∧ (∀ i, i < m → f2_z (X + 1) (p + i) = g9 i) ∧ ∀ k, (k < p ∨ p + m ≤ k) → f2_z (X + 1) k = f (X + 1) k
theorem tpS_add {X p m : Nat} {f f1_z f2_z : Nat → Nat → Int32} {g9 : Nat → Int32} {x : Int32} (h_z : tpS X f f1_z p m g9) (a1 : ∀ q, q ≠ X → q ≠ X + 1 → f2_z q = f1_z q) (a2 : ∀ k, k ≠ 1 → f2_z X k = f1_z X k) (a3 : (f2_z X 1).toInt = ((p + m + 4 : Nat) : Int)) (a4 : ∀ i, i < 4 → f2_z (X + 1) (p + m + i) = bytW x i) (a5 : ∀ k, (k < p + m ∨ p + m + 4 ≤ k) → f2_z (X + 1) k = f1_z (X + 1) k) (hg : ∀ i, i < 4 → bytW x i = g9 (m + i)) : tpS X f f2_z p (m + 4) g9 := by
  obtain ⟨b1, b2, b3, b4, b5⟩ := h_z
  refine ⟨fun q h1 h2 => (a1 q h1 h2).trans (b1 q h1 h2), fun k h1 => (a2 k h1).trans (b2 k h1), by omega, fun i hi_z => ?_, fun k hk => (a5 k (by omega)).trans (b5 k (by omega))⟩
  rcases Nat.lt_or_ge i m with h9 | h9
  · rw [a5 _ (by omega)]
    exact b4 i h9
  · have h91 := a4 (i - m) (by omega)
    have h92 := hg (i - m) (by omega)
    rw [show p + m + (i - m) = p + i by omega] at h91
    rw [show m + (i - m) = i by omega] at h92
    rw [h91, h92]
set_option maxHeartbeats 4000000 in
set_option maxRecDepth 100000 in
theorem s_X11_feed {g : zGT} {w : zW} {f : Nat → Nat → Int32} {j : Nat → Nat → Int64} {X : Nat} {xa xb xc xd xe : Int32} {p : Nat} {Q : Option Value → zW → Prop} {QX : String → zW → Prop} (G : zGok g) (hx : shX w X) (hp : (f X 1).toInt = (p : Nat)) (hp9 : p ≤ 900) (hQ0 : 900 < p + 20 → ∀ r : Int32, r.toInt = -1 → Q (some (.int r)) (zM w f j)) (hQ : p + 20 ≤ 900 → ∀ (r : Int32) f2_z, r.toInt = ((p + 20 : Nat) : Int) → tpS X f f2_z p 20 (fedG xa xb xc xd xe) → Q (some (.int r)) (zM w f2_z j)) : zC g 2 yX11_feed cX11_feed 6 (some .int) [.ref X, .int xa, .int xb, .int xc, .int xd, .int xe] (zM w f j) (0, 0) Q QX := by
  refine zC_of G (by decide +kernel) (Nat.le_of_ble_eq_true rfl) ?_
  have ht0 : tpS X f f p 0 (fedG xa xb xc xd xe) := ⟨fun _ _ _ => rfl, fun _ _ => rfl, hp, fun i hi_z => absurd hi_z (by omega), fun _ _ => rfl⟩
  refine r_aloadR0 dX11_feed_0 ?_
  refine m_getV (x := (f X 1)) zf_RX11_13 rfl dX11_feed_1 (shX_k (w := w) hx) (rfl) ?_
  refine n_bipush dX11_feed_4 (by decide) (fun r4 e4_z => ?_)
  refine n_iadd dX11_feed_6 (by omega) (fun r6 e6_z => ?_)
  refine n_sipush dX11_feed_7 (by decide) (fun r7 e7_z => ?_)
  refine t_icle (t := 15) dX11_feed_10 (by decide) (fun h10 => ?_) (fun h10 => ?_)
  · refine r_aloadR0 dX11_feed_15 ?_
    refine r_iload1 dX11_feed_16 ?_
    refine q_callV1 zm_RX11_95 dX11_feed_17 (shX_k (w := w) hx) (by decide) rfl (Nat.le_of_ble_eq_true rfl) (Nat.le_of_ble_eq_true rfl) (Nat.le_of_ble_eq_true rfl) (Nat.le_of_ble_eq_true rfl) (Nat.le_of_ble_eq_true rfl) (s_X11_putOnTape (p := p + 0) G hx ht0.2.2.1 (by omega) (fun f1_z a1 a2 a3 a4 a5 => ?_))
    have ht1 : tpS X f f1_z p 4 (fedG xa xb xc xd xe) := tpS_add ht0 a1 a2 a3 a4 a5 (fun i hi_z => by show _ = bytW (feW xa xb xc xd xe ((0 + i) / 4)) ((0 + i) % 4); rw [show (0 + i) / 4 = 0 by omega, show (0 + i) % 4 = i by omega]; rfl)
    refine r_aloadR0 dX11_feed_20 ?_
    refine r_iload2 dX11_feed_21 ?_
    refine q_callV1 zm_RX11_95 dX11_feed_22 (shX_k (w := w) hx) (by decide) rfl (Nat.le_of_ble_eq_true rfl) (Nat.le_of_ble_eq_true rfl) (Nat.le_of_ble_eq_true rfl) (Nat.le_of_ble_eq_true rfl) (Nat.le_of_ble_eq_true rfl) (s_X11_putOnTape (p := p + 4) G hx ht1.2.2.1 (by omega) (fun f2_z a1 a2 a3 a4 a5 => ?_))
    have ht2 : tpS X f f2_z p 8 (fedG xa xb xc xd xe) := tpS_add ht1 a1 a2 a3 a4 a5 (fun i hi_z => by show _ = bytW (feW xa xb xc xd xe ((4 + i) / 4)) ((4 + i) % 4); rw [show (4 + i) / 4 = 1 by omega, show (4 + i) % 4 = i by omega]; rfl)
    refine r_aloadR0 dX11_feed_25 ?_
    refine r_iload3 dX11_feed_26 ?_
    refine q_callV1 zm_RX11_95 dX11_feed_27 (shX_k (w := w) hx) (by decide) rfl (Nat.le_of_ble_eq_true rfl) (Nat.le_of_ble_eq_true rfl) (Nat.le_of_ble_eq_true rfl) (Nat.le_of_ble_eq_true rfl) (Nat.le_of_ble_eq_true rfl) (s_X11_putOnTape (p := p + 8) G hx ht2.2.2.1 (by omega) (fun f3_z a1 a2 a3 a4 a5 => ?_))
    have ht3 : tpS X f f3_z p 12 (fedG xa xb xc xd xe) := tpS_add ht2 a1 a2 a3 a4 a5 (fun i hi_z => by show _ = bytW (feW xa xb xc xd xe ((8 + i) / 4)) ((8 + i) % 4); rw [show (8 + i) / 4 = 2 by omega, show (8 + i) % 4 = i by omega]; rfl)
    refine r_aloadR0 dX11_feed_30 ?_
    refine r_iload4 dX11_feed_31 ?_
    refine q_callV1 zm_RX11_95 dX11_feed_33 (shX_k (w := w) hx) (by decide) rfl (Nat.le_of_ble_eq_true rfl) (Nat.le_of_ble_eq_true rfl) (Nat.le_of_ble_eq_true rfl) (Nat.le_of_ble_eq_true rfl) (Nat.le_of_ble_eq_true rfl) (s_X11_putOnTape (p := p + 12) G hx ht3.2.2.1 (by omega) (fun f4_z a1 a2 a3 a4 a5 => ?_))
    have ht4 : tpS X f f4_z p 16 (fedG xa xb xc xd xe) := tpS_add ht3 a1 a2 a3 a4 a5 (fun i hi_z => by show _ = bytW (feW xa xb xc xd xe ((12 + i) / 4)) ((12 + i) % 4); rw [show (12 + i) / 4 = 3 by omega, show (12 + i) % 4 = i by omega]; rfl)
    refine r_aloadR0 dX11_feed_36 ?_
    refine r_iload5 dX11_feed_37 ?_
    refine q_callV1 zm_RX11_95 dX11_feed_39 (shX_k (w := w) hx) (by decide) rfl (Nat.le_of_ble_eq_true rfl) (Nat.le_of_ble_eq_true rfl) (Nat.le_of_ble_eq_true rfl) (Nat.le_of_ble_eq_true rfl) (Nat.le_of_ble_eq_true rfl) (s_X11_putOnTape (p := p + 16) G hx ht4.2.2.1 (by omega) (fun f5_z a1 a2 a3 a4 a5 => ?_))
    have ht5 : tpS X f f5_z p 20 (fedG xa xb xc xd xe) := tpS_add ht4 a1 a2 a3 a4 a5 (fun i hi_z => by show _ = bytW (feW xa xb xc xd xe ((16 + i) / 4)) ((16 + i) % 4); rw [show (16 + i) / 4 = 4 by omega, show (16 + i) % 4 = i by omega]; rfl)
    have hfin := ht5.2.2.1
    refine r_aloadR0 dX11_feed_42 ?_
    refine m_getV (x := (f5_z X 1)) zf_RX11_13 rfl dX11_feed_43 (shX_k (w := w) hx) (rfl) ?_
    refine r_iret dX11_feed_46 rfl (Nat.le_of_ble_eq_true rfl) (Nat.le_of_ble_eq_true rfl) ?_
    exact hQ (by omega) _ f5_z hfin ht5
  · refine n_iconst dX11_feed_13 (by decide) (fun r13 e13_z => ?_)
    refine r_iret dX11_feed_14 rfl (Nat.le_of_ble_eq_true rfl) (Nat.le_of_ble_eq_true rfl) ?_
    exact hQ0 (by omega) _ (by omega)
