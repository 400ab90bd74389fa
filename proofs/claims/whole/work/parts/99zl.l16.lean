/-! the law: the cases, sixteenth part: images -/
def imS (im : Nat → Option zTb) (t : Nat) (T : zTb) : Nat → Option zTb := fun i => if i = t then some T else im i
theorem tbAt_i {w : zW} {P2 : Nat → Nat → Option Nat} {f f2_z : Nat → Nat → Int32} {X a : Nat} {T : zTb} (h_z : tbAt w f X a T) (e : ∀ q k, (zoneX X q ∨ q = a ∨ q = a + 10) → P2 q k = zP w q k) (ef : ∀ q, (zoneX X q ∨ q = a ∨ a + 7 ≤ q ∧ q < a + 41) → f2_z q = f q) : tbAt (zsP w P2) f2_z X a T := by
  obtain ⟨nq, pp, g0, p0, h1, h2, h3, h4, h5⟩ := h_z
  exact ⟨nq, pp, g0, p0, (e a 0 (Or.inr (Or.inl rfl))).trans h1, naAt_P (naAt_q h2 (fun q hq => ef q (Or.inl hq))) (fun q hq => funext (fun k => e q k (Or.inl hq))), ⟨fun i hi_z => ⟨(e (a + 10) i (Or.inr (Or.inr rfl))).trans (h3.1 i hi_z).1, (h3.1 i hi_z).2⟩, h3.2⟩, ctTb_q h4 h3 (fun q hq => ef q (Or.inr hq)), h5⟩
theorem lwC_img {w : zW} {P2 : Nat → Nat → Option Nat} {f f2_z : Nat → Nat → Int32} {j : Nat → Nat → Int64} {X t : Nat} {T : zTb} {ty : Nat → zTy} {im : Nat → Option zTb} {p : Nat} {B : Nat → Nat} {th pl : Int} (h_z : lwC w f j X T ty im p B th pl) (ht : t < 3) (o1 : ∀ q k, ¬ (q = (X + 108 + 41 * t) ∧ k = 0) → P2 q k = zP w q k) (o2 : ∀ q, ¬ (q = (X + 108 + 41 * t) ∨ (X + 108 + 41 * t) + 7 ≤ q ∧ q < (X + 108 + 41 * t) + 41) → f2_z q = f q) (o3 : (f2_z (X + 108 + 41 * t) 4).toInt = 1) (o5 : tbAt (zsP w P2) f2_z X (X + 108 + 41 * t) T) : lwC (zsP w P2) f2_z j X T ty (imS im t T) p B th pl := by
  obtain ⟨a1, a2, a3, a4, a5, a6, a7, a8, a9, a10, a11, a12, a13, a14, a15, a16, a17⟩ := h_z
  have oX : f2_z X = f X := o2 X (by omega)
  have oz : ∀ q, zoneX X q → f2_z q = f q := fun q hq => o2 q (by unfold zoneX at hq; omega)
  have pz : ∀ q k, zoneX X q → P2 q k = zP w q k := fun q k hq => o1 q k (by unfold zoneX at hq; omega)
  refine ⟨shX_P2 a1 (Or.inr (pic_d ht)) o1, a2, a3, a4, ⟨a5.1, a5.2.1, fun q hq => (o1 _ _ (by omega)).trans (a5.2.2 q hq)⟩, tbAt_i a6 (fun q k hq => hq.elim (pz q k) (fun h9 => o1 q k (by omega))) (fun q hq => hq.elim (oz q) (fun h9 => o2 q (by omega))), wyI_e a7 (fun r h1 h2 => o2 _ (by omega)), wyI_e a8 (fun r h1 h2 => o2 _ (by omega)), fun i hi_z => ctTr_of (a9 i hi_z) (o2 _ (by omega)) rfl, fun i hi_z => ?_, fun i hi_z => ?_, by rw [oX]; exact a12, a13, fun q hq => by rw [o2 (X + 1) (by omega)]; exact a14 q hq, a15, by rw [oX]; exact a16, by rw [oX]; exact a17⟩
  · unfold imS
    by_cases h8 : i = t
    · rw [if_pos h8, h8]
      exact ⟨o3, o5⟩
    · rw [if_neg h8]
      have h9 := a10 i hi_z
      cases hm_z : im i with
      | none =>
        rw [hm_z] at h9
        unfold imAt at h9 ⊢
        rw [o2 (X + 108 + 41 * i) (by omega)]
        exact h9
      | some T2 =>
        rw [hm_z] at h9
        obtain ⟨b1, b2⟩ := h9
        exact ⟨by rw [o2 (X + 108 + 41 * i) (by omega)]; exact b1, tbAt_i b2 (fun q k hq => hq.elim (pz q k) (fun h9 => o1 q k (by omega))) (fun q hq => hq.elim (oz q) (fun h9 => o2 q (by omega)))⟩
  · by_cases h8 : i = t
    · rw [h8]
      exact tbK_of o5
    · obtain ⟨pp, M, g0, p0, b1, b2⟩ := a11 i hi_z
      have b1b : ppOk (zP (zsP w P2)) (X + 108 + 41 * i) pp := ⟨fun k hk => ⟨(o1 (X + 108 + 41 * i + 10) k (by omega)).trans (b1.1 k hk).1, (b1.1 k hk).2⟩, b1.2⟩
      exact ⟨pp, M, g0, p0, b1b, ctTb_q b2 b1 (fun q hq => o2 q (by omega))⟩
theorem lwM_img {f f2_z : Nat → Nat → Int32} {j : Nat → Nat → Int64} {A N t : Nat} {T : zTb} {ty : Nat → zTy} {im : Nat → Option zTb} {p : Nat} {B : Nat → Nat} {th pl : Int} (h_z : lwM f j A T ty im p B th pl N) (o : frM A [3, 4] [4] f f2_z) (hn : imM f2_z A t (some T)) (hr : ∀ i o, i < 3 → i ≠ t → imM f A i o → imM f2_z A i o) : lwM f2_z j A T ty (imS im t T) p B th pl N := by
  obtain ⟨a1, a2, a3, a4, a5, a6, a7, a8, a9⟩ := h_z
  have e1_z : f2_z (A + 1) = f (A + 1) := o.2.1 1 (by decide) (by decide) (by decide)
  have e5_z : f2_z (A + 5) = f (A + 5) := o.2.1 5 (by decide) (by decide) (by decide)
  have e15_z : f2_z (A + 15) = f (A + 15) := o.2.1 15 (by decide) (by decide) (by decide)
  have e18_z : f2_z (A + 18) = f (A + 18) := o.2.1 18 (by decide) (by decide) (by decide)
  have e19_z : f2_z (A + 19) = f (A + 19) := o.2.1 19 (by decide) (by decide) (by decide)
  have e37 : f2_z A 37 = f A 37 := o.2.2 37 (by decide)
  refine ⟨by rw [e1_z]; exact a1, fun t ht => ctTm_of (a2 t ht) (congrFun e18_z t) (congrFun e19_z t) (fun _ _ => rfl), fun i hi_z => ?_, fun i hi_z => by rw [e15_z, e37]; exact a4 i hi_z, by rw [e37]; exact a5, by rw [o.2.2 6 (by decide)]; exact a6, fun q hq => by rw [e5_z]; exact a7 q hq, by rw [o.2.2 14 (by decide)]; exact a8, by rw [o.2.2 15 (by decide)]; exact a9⟩
  unfold imS
  by_cases h9 : i = t
  · rw [if_pos h9, h9]
    exact hn
  · rw [if_neg h9]
    exact hr i _ hi_z h9 (a3 i hi_z)
theorem lwC_res {w : zW} {P2 : Nat → Nat → Option Nat} {f f2_z : Nat → Nat → Int32} {j : Nat → Nat → Int64} {X : Nat} {T2 : zTb} {T : zTb} {ty : Nat → zTy} {im : Nat → Option zTb} {p : Nat} {B : Nat → Nat} {th pl : Int} (h_z : lwC w f j X T ty im p B th pl) (o1 : ∀ q k, ¬ (q = X + 11 ∧ k = 0) → P2 q k = zP w q k) (o2 : frT X f f2_z) (o3 : tbAt (zsP w P2) f2_z X (X + 11) T2) : lwC (zsP w P2) f2_z j X T2 ty im p B th pl := by
  obtain ⟨a1, a2, a3, a4, a5, a6, a7, a8, a9, a10, a11, a12, a13, a14, a15, a16, a17⟩ := h_z
  have oX : f2_z X = f X := o2 X (by omega)
  have oz : ∀ q, zoneX X q → f2_z q = f q := fun q hq => o2 q (by unfold zoneX at hq; omega)
  have pz : ∀ q k, zoneX X q → P2 q k = zP w q k := fun q k hq => o1 q k (by unfold zoneX at hq; omega)
  refine ⟨shX_P2 a1 (Or.inl rfl) o1, a2, a3, a4, ⟨a5.1, a5.2.1, fun q hq => (o1 _ _ (by omega)).trans (a5.2.2 q hq)⟩, o3, wyI_e a7 (fun r h1 h2 => o2 _ (by omega)), wyI_e a8 (fun r h1 h2 => o2 _ (by omega)), fun i hi_z => ctTr_of (a9 i hi_z) (o2 _ (by omega)) rfl, fun i hi_z => ?_, fun i hi_z => ?_, by rw [oX]; exact a12, a13, fun q hq => by rw [o2 (X + 1) (by omega)]; exact a14 q hq, a15, by rw [oX]; exact a16, by rw [oX]; exact a17⟩
  · have h9 := a10 i hi_z
    cases hm_z : im i with
    | none =>
      rw [hm_z] at h9
      unfold imAt at h9 ⊢
      rw [o2 (X + 108 + 41 * i) (by omega)]
      exact h9
    | some T9 =>
      rw [hm_z] at h9
      obtain ⟨b1, b2⟩ := h9
      exact ⟨by rw [o2 (X + 108 + 41 * i) (by omega)]; exact b1, tbAt_i b2 (fun q k hq => hq.elim (pz q k) (fun h9 => o1 q k (by omega))) (fun q hq => hq.elim (oz q) (fun h9 => o2 q (by omega)))⟩
  · obtain ⟨pp, M, g0, p0, b1, b2⟩ := a11 i hi_z
    have b1b : ppOk (zP (zsP w P2)) (X + 108 + 41 * i) pp := ⟨fun k hk => ⟨(o1 (X + 108 + 41 * i + 10) k (by omega)).trans (b1.1 k hk).1, (b1.1 k hk).2⟩, b1.2⟩
    exact ⟨pp, M, g0, p0, b1b, ctTb_q b2 b1 (fun q hq => o2 q (by omega))⟩
set_option maxHeartbeats 4000000 in
set_option maxRecDepth 100000 in
theorem lc_45 {g : zGT} {Rm : Room} {QQ : List Frame → Array Value → State → State → Prop} {hh : List (Nat × Nat × Nat × Nat)} {nm : String} {w : zW} {f : Nat → Nat → Int32} {j : Nat → Nat → Int64} {s X L i N : Nat} {xs : Nat → Int32} {T : zTb} {ty : Nat → zTy} {im : Nat → Option zTb} {p : Nat} {B : Nat → Nat} {th pl : Int} {iv : Int32} {u5 u6 u7 : Option Value} {b : Nat × Nat} (G : zGok g) (hfr : 2048 ≤ Rm.frames) (hlo : 84000 ≤ Rm.locals) (hb1 : b.1 + 951 ≤ Rm.cells) (hb2 : b.2 + 1006 ≤ Rm.slots) (hT_z : ∀ U, g.2.2.2 U → va_T .int s L (fun k => .int (xs k)) (zA g.2.2.1) U U.heap) (hi_z : iv.toInt = (i : Nat)) (hiL : i + 6 ≤ L) (hL : L ≤ 3072) (h_z : lwI w f j X T ty im p B th pl N) (hN_z : N < 1900000000)  (kk : ∀ (T9 : zTb) (ty9 : Nat → zTy) (im9 : Nat → Option zTb) (p9 : Nat) (B9 : Nat → Nat) (th9 pl9 : Int) (u5 u6 u7 : Option Value) w2 f2_z j2 b2, b2.1 ≤ b.1 + 951 → b2.2 ≤ b.2 + 1006 → lwI w2 f2_z j2 X T9 ty9 im9 p9 B9 th9 pl9 (N + 1) → zR (zVg g Rm QQ hh nm 8 (some .boolean)) cL_law RL 2729 [some (.ref s), some (.ref X), some (.ref (X + 239)), some (.ref (X + 260)), some (.int iv), u5, u6, u7] [] (zM w2 f2_z j2) b2) : zR (zVg g Rm QQ hh nm 8 (some .boolean)) cL_law RL 2632 [some (.ref s), some (.ref X), some (.ref (X + 239)), some (.ref (X + 260)), some (.int iv), u5, u6, u7] [] (zM w f j) b := by
  have hx := h_z.1.1
  have hX := shX_k hx
  have hO := h_z.1.2.2.2.1
  have hs := h_z.1.2.2.2.2.1
  have ht := h_z.1.2.2.2.2.2.1
  have hw := tb_wf ht
  have hS2 := h_z.1.2.1
  have hz := h_z.1.2.2.1
  refine r_aloadR1 dL_law_2632 ?_
  refine r_aloadR0 dL_law_2633 ?_
  refine r_iload4 dL_law_2634 ?_
  refine n_iconst dL_law_2636 (by decide) (fun r2636 e2636 => ?_)
  refine n_iadd dL_law_2637 (by omega) (fun r2637 e2637 => ?_)
  refine k_iald (k := i + 1) (v := .int (xs (i + 1))) hT_z (by omega) (by omega) (by omega) rfl dL_law_2638 ?_
  refine q_callW (As := [.ref X, .int (xs (i + 1))]) (rest := []) zw_image dL_law_2639 rfl rfl (by decide) (by first | exact Nat.le_of_ble_eq_true rfl | omega | (dsimp only; omega)) (by first | exact Nat.le_of_ble_eq_true rfl | omega | (dsimp only; omega)) (by first | exact Nat.le_of_ble_eq_true rfl | omega | (dsimp only; omega)) (by first | exact Nat.le_of_ble_eq_true rfl | omega | (dsimp only; omega)) (w_image G hX (s_X11_image G hx ht h_z.1.2.2.2.2.2.2.2.2.2.2.1 (fun hc0 n9 hn9 => ⟨rfl, fun k1_z ek => ?_⟩) (fun hc0 P2 f1_z g1 g2 g3_z g4 => ⟨rfl, fun k1_z ek => ?_⟩)))
  · have hI1 := lwI_s (n := n9) h_z hn9
    rw [show zsS (zM w f j) n9 = zM (zsS w n9) f j from rfl]
    have hs := hI1.1.2.2.2.2.1
    have hO := hI1.1.2.2.2.1
    refine r_istore5 dL_law_2642 rfl ?_
    refine r_aloadR2 dL_law_2644 ?_
    refine r_aloadR0 dL_law_2645 ?_
    refine r_iload4 dL_law_2646 ?_
    refine n_iconst dL_law_2648 (by decide) (fun r2648 e2648 => ?_)
    refine n_iadd dL_law_2649 (by omega) (fun r2649 e2649 => ?_)
    refine k_iald (k := i + 1) (v := .int (xs (i + 1))) hT_z (by omega) (by omega) (by omega) rfl dL_law_2650 ?_
    refine q_callV1 zm_RL_303 dL_law_2651 (shM_k hs) (by decide) rfl (by decide) (by first | exact Nat.le_of_ble_eq_true rfl | omega | (dsimp only; omega)) (by first | exact Nat.le_of_ble_eq_true rfl | omega | (dsimp only; omega)) (by first | exact Nat.le_of_ble_eq_true rfl | omega | (dsimp only; omega)) (by first | exact Nat.le_of_ble_eq_true rfl | omega | (dsimp only; omega)) (s_X12_image G hs hI1.2.1 hw (fun hy0 f2_z o6 t6 => ?_) (fun hy0 f2_z o6 t6 a4 a5 => ?_))
    · have hI2 := lwI_mf hI1 (frM_su o6 (by decide) (by decide))
      refine r_aloadR2 dL_law_2654 ?_
      refine q_callV0 zm_RL_151 dL_law_2655 (shM_k hs) (by decide) rfl (by first | exact Nat.le_of_ble_eq_true rfl | omega | (dsimp only; omega)) (by first | exact Nat.le_of_ble_eq_true rfl | omega | (dsimp only; omega)) (by first | exact Nat.le_of_ble_eq_true rfl | omega | (dsimp only; omega)) (by first | exact Nat.le_of_ble_eq_true rfl | omega | (dsimp only; omega)) (by first | exact Nat.le_of_ble_eq_true rfl | omega | (dsimp only; omega)) (s_X12_thrown G hs (fun r7 e7_z => ?_))
      have e7i : r7.toInt = (f2_z (X + 239) 4).toInt := by rw [e7_z]
      refine r_iload5 dL_law_2658 ?_
      refine t_iceq (t := 2665) dL_law_2660 (by decide) (fun h2660 => ?_) (fun h2660 => False.elim (by omega))
      refine r_goto (t := 2729) dL_law_2665 (by decide) ?_
      refine kk _ _ _ _ _ _ _ _ _ _ _ _ _ _ ?_ ?_ (lwI_m hI2 (by omega))
      · first | omega | (dsimp only; omega)
      · first | omega | (dsimp only; omega)
    · exact False.elim (by omega)
  · have hC2 := lwC_img (t := (xs (i + 1)).toInt.toNat) h_z.1 (by omega) g1 g2 g3_z g4
    have hM2 := lwM_e (f2_z := f1_z) (j2 := j) h_z.2 (fun q h1 h2 => g2 q (by omega)) (fun q h1 h2 => rfl)
    have hs := hC2.2.2.2.2.1
    have hI1 := And.intro trivial hM2
    refine r_istore5 dL_law_2642 rfl ?_
    refine r_aloadR2 dL_law_2644 ?_
    refine r_aloadR0 dL_law_2645 ?_
    refine r_iload4 dL_law_2646 ?_
    refine n_iconst dL_law_2648 (by decide) (fun r2648 e2648 => ?_)
    refine n_iadd dL_law_2649 (by omega) (fun r2649 e2649 => ?_)
    refine k_iald (k := i + 1) (v := .int (xs (i + 1))) hT_z (by omega) (by omega) (by omega) rfl dL_law_2650 ?_
    refine q_callV1 zm_RL_303 dL_law_2651 (shM_k hs) (by decide) rfl (by decide) (by first | exact Nat.le_of_ble_eq_true rfl | omega | (dsimp only; omega)) (by first | exact Nat.le_of_ble_eq_true rfl | omega | (dsimp only; omega)) (by first | exact Nat.le_of_ble_eq_true rfl | omega | (dsimp only; omega)) (by first | exact Nat.le_of_ble_eq_true rfl | omega | (dsimp only; omega)) (s_X12_image G hs hI1.2.1 hw (fun hy0 f2_z o6 t6 => ?_) (fun hy0 f2_z o6 t6 a4 a5 => ?_))
    · exact False.elim (by omega)
    · have hI2 := And.intro (lwC_f hC2 (fun q hq => o6.1 q (by omega)) (fun e => wyI_e e (fun r h1 h2 => o6.1 _ (by omega))) (fun e => wyI_e e (fun r h1 h2 => o6.1 _ (by omega))) (fun _ _ => rfl)) (lwM_img hM2 (frM_su o6 (by decide) (by decide)) a4 a5)
      refine r_aloadR2 dL_law_2654 ?_
      refine q_callV0 zm_RL_151 dL_law_2655 (shM_k hs) (by decide) rfl (by first | exact Nat.le_of_ble_eq_true rfl | omega | (dsimp only; omega)) (by first | exact Nat.le_of_ble_eq_true rfl | omega | (dsimp only; omega)) (by first | exact Nat.le_of_ble_eq_true rfl | omega | (dsimp only; omega)) (by first | exact Nat.le_of_ble_eq_true rfl | omega | (dsimp only; omega)) (by first | exact Nat.le_of_ble_eq_true rfl | omega | (dsimp only; omega)) (s_X12_thrown G hs (fun r7 e7_z => ?_))
      have e7i : r7.toInt = (f2_z (X + 239) 4).toInt := by rw [e7_z]
      refine r_iload5 dL_law_2658 ?_
      refine t_iceq (t := 2665) dL_law_2660 (by decide) (fun h2660 => ?_) (fun h2660 => False.elim (by omega))
      refine r_goto (t := 2729) dL_law_2665 (by decide) ?_
      refine kk _ _ _ _ _ _ _ _ _ _ _ _ _ _ ?_ ?_ (lwI_m hI2 (by omega))
      · first | omega | (dsimp only; omega)
      · first | omega | (dsimp only; omega)
set_option maxHeartbeats 4000000 in
set_option maxRecDepth 100000 in
theorem lc_46 {g : zGT} {Rm : Room} {QQ : List Frame → Array Value → State → State → Prop} {hh : List (Nat × Nat × Nat × Nat)} {nm : String} {w : zW} {f : Nat → Nat → Int32} {j : Nat → Nat → Int64} {s X L i N : Nat} {xs : Nat → Int32} {T : zTb} {ty : Nat → zTy} {im : Nat → Option zTb} {p : Nat} {B : Nat → Nat} {th pl : Int} {iv : Int32} {u5 u6 u7 : Option Value} {b : Nat × Nat} (G : zGok g) (hfr : 2048 ≤ Rm.frames) (hlo : 84000 ≤ Rm.locals) (hb1 : b.1 + 951 ≤ Rm.cells) (hb2 : b.2 + 1006 ≤ Rm.slots) (hT_z : ∀ U, g.2.2.2 U → va_T .int s L (fun k => .int (xs k)) (zA g.2.2.1) U U.heap) (hi_z : iv.toInt = (i : Nat)) (hiL : i + 6 ≤ L) (hL : L ≤ 3072) (h_z : lwI w f j X T ty im p B th pl N) (hN_z : N < 1900000000)  (kk : ∀ (T9 : zTb) (ty9 : Nat → zTy) (im9 : Nat → Option zTb) (p9 : Nat) (B9 : Nat → Nat) (th9 pl9 : Int) (u5 u6 u7 : Option Value) w2 f2_z j2 b2, b2.1 ≤ b.1 + 951 → b2.2 ≤ b.2 + 1006 → lwI w2 f2_z j2 X T9 ty9 im9 p9 B9 th9 pl9 (N + 1) → zR (zVg g Rm QQ hh nm 8 (some .boolean)) cL_law RL 2729 [some (.ref s), some (.ref X), some (.ref (X + 239)), some (.ref (X + 260)), some (.int iv), u5, u6, u7] [] (zM w2 f2_z j2) b2) : zR (zVg g Rm QQ hh nm 8 (some .boolean)) cL_law RL 2668 [some (.ref s), some (.ref X), some (.ref (X + 239)), some (.ref (X + 260)), some (.int iv), u5, u6, u7] [] (zM w f j) b := by
  have hx := h_z.1.1
  have hX := shX_k hx
  have hO := h_z.1.2.2.2.1
  have hs := h_z.1.2.2.2.2.1
  have ht := h_z.1.2.2.2.2.2.1
  have hw := tb_wf ht
  have hS2 := h_z.1.2.1
  have hz := h_z.1.2.2.1
  refine r_aloadR1 dL_law_2668 ?_
  refine r_aloadR0 dL_law_2669 ?_
  refine r_iload4 dL_law_2670 ?_
  refine n_iconst dL_law_2672 (by decide) (fun r2672 e2672 => ?_)
  refine n_iadd dL_law_2673 (by omega) (fun r2673 e2673 => ?_)
  refine k_iald (k := i + 1) (v := .int (xs (i + 1))) hT_z (by omega) (by omega) (by omega) rfl dL_law_2674 ?_
  refine q_callW (As := [.ref X, .int (xs (i + 1))]) (rest := []) zw_restore dL_law_2675 rfl rfl (by decide) (by first | exact Nat.le_of_ble_eq_true rfl | omega | (dsimp only; omega)) (by first | exact Nat.le_of_ble_eq_true rfl | omega | (dsimp only; omega)) (by first | exact Nat.le_of_ble_eq_true rfl | omega | (dsimp only; omega)) (by first | exact Nat.le_of_ble_eq_true rfl | omega | (dsimp only; omega)) (w_restore G hX (s_X11_restore G hx ht h_z.1.2.2.2.2.2.2.2.2.2.1 (fun hc0 n9 hn9 => Or.inl ⟨rfl, fun k1_z ek => ?_⟩) (fun hc0 hc1 n9 hn9 => Or.inr ⟨rfl, fun k1_z ek => ?_⟩) (fun hc0 Ti hc1 P2 f1_z g1 g2 g3_z => ⟨rfl, fun k1_z ek => ?_⟩)))
  · have hI1 := lwI_s (n := n9) h_z hn9
    rw [show zsS (zM w f j) n9 = zM (zsS w n9) f j from rfl]
    have hs := hI1.1.2.2.2.2.1
    have hO := hI1.1.2.2.2.1
    refine r_istore5 dL_law_2678 rfl ?_
    refine r_aloadR2 dL_law_2680 ?_
    refine r_aloadR0 dL_law_2681 ?_
    refine r_iload4 dL_law_2682 ?_
    refine n_iconst dL_law_2684 (by decide) (fun r2684 e2684 => ?_)
    refine n_iadd dL_law_2685 (by omega) (fun r2685 e2685 => ?_)
    refine k_iald (k := i + 1) (v := .int (xs (i + 1))) hT_z (by omega) (by omega) (by omega) rfl dL_law_2686 ?_
    refine q_callV1 zm_RL_306 dL_law_2687 (shM_k hs) (by decide) rfl (by decide) (by first | exact Nat.le_of_ble_eq_true rfl | omega | (dsimp only; omega)) (by first | exact Nat.le_of_ble_eq_true rfl | omega | (dsimp only; omega)) (by first | exact Nat.le_of_ble_eq_true rfl | omega | (dsimp only; omega)) (by first | exact Nat.le_of_ble_eq_true rfl | omega | (dsimp only; omega)) (s_X12_restore G hs hI1.2.1 hw hI1.2.2.2.1 (fun hy0 f2_z o6 t6 => ?_) (fun hy0 hy1 f2_z o6 t6 => ?_) (fun hy0 T8 hy1 f2_z o6 t6 a4 a5 => ?_))
    · have hI2 := lwI_mf hI1 (frM_su o6 (by decide) (by decide))
      refine r_aloadR2 dL_law_2690 ?_
      refine q_callV0 zm_RL_151 dL_law_2691 (shM_k hs) (by decide) rfl (by first | exact Nat.le_of_ble_eq_true rfl | omega | (dsimp only; omega)) (by first | exact Nat.le_of_ble_eq_true rfl | omega | (dsimp only; omega)) (by first | exact Nat.le_of_ble_eq_true rfl | omega | (dsimp only; omega)) (by first | exact Nat.le_of_ble_eq_true rfl | omega | (dsimp only; omega)) (by first | exact Nat.le_of_ble_eq_true rfl | omega | (dsimp only; omega)) (s_X12_thrown G hs (fun r7 e7_z => ?_))
      have e7i : r7.toInt = (f2_z (X + 239) 4).toInt := by rw [e7_z]
      refine r_iload5 dL_law_2694 ?_
      refine t_iceq (t := 2701) dL_law_2696 (by decide) (fun h2696 => ?_) (fun h2696 => False.elim (by omega))
      refine r_goto (t := 2729) dL_law_2701 (by decide) ?_
      refine kk _ _ _ _ _ _ _ _ _ _ _ _ _ _ ?_ ?_ (lwI_m hI2 (by omega))
      · first | omega | (dsimp only; omega)
      · first | omega | (dsimp only; omega)
    · exact False.elim (by first | omega | (rw [hc1] at hy1; cases hy1; done))
    · exact False.elim (by first | omega | (rw [hc1] at hy1; cases hy1; done))
  · have hI1 := lwI_s (n := n9) h_z hn9
    rw [show zsS (zM w f j) n9 = zM (zsS w n9) f j from rfl]
    have hs := hI1.1.2.2.2.2.1
    have hO := hI1.1.2.2.2.1
    refine r_istore5 dL_law_2678 rfl ?_
    refine r_aloadR2 dL_law_2680 ?_
    refine r_aloadR0 dL_law_2681 ?_
    refine r_iload4 dL_law_2682 ?_
    refine n_iconst dL_law_2684 (by decide) (fun r2684 e2684 => ?_)
    refine n_iadd dL_law_2685 (by omega) (fun r2685 e2685 => ?_)
    refine k_iald (k := i + 1) (v := .int (xs (i + 1))) hT_z (by omega) (by omega) (by omega) rfl dL_law_2686 ?_
    refine q_callV1 zm_RL_306 dL_law_2687 (shM_k hs) (by decide) rfl (by decide) (by first | exact Nat.le_of_ble_eq_true rfl | omega | (dsimp only; omega)) (by first | exact Nat.le_of_ble_eq_true rfl | omega | (dsimp only; omega)) (by first | exact Nat.le_of_ble_eq_true rfl | omega | (dsimp only; omega)) (by first | exact Nat.le_of_ble_eq_true rfl | omega | (dsimp only; omega)) (s_X12_restore G hs hI1.2.1 hw hI1.2.2.2.1 (fun hy0 f2_z o6 t6 => ?_) (fun hy0 hy1 f2_z o6 t6 => ?_) (fun hy0 T8 hy1 f2_z o6 t6 a4 a5 => ?_))
    · exact False.elim (by first | omega | (rw [hc1] at hy1; cases hy1; done))
    · have hI2 := lwI_mf hI1 (frM_su o6 (by decide) (by decide))
      refine r_aloadR2 dL_law_2690 ?_
      refine q_callV0 zm_RL_151 dL_law_2691 (shM_k hs) (by decide) rfl (by first | exact Nat.le_of_ble_eq_true rfl | omega | (dsimp only; omega)) (by first | exact Nat.le_of_ble_eq_true rfl | omega | (dsimp only; omega)) (by first | exact Nat.le_of_ble_eq_true rfl | omega | (dsimp only; omega)) (by first | exact Nat.le_of_ble_eq_true rfl | omega | (dsimp only; omega)) (by first | exact Nat.le_of_ble_eq_true rfl | omega | (dsimp only; omega)) (s_X12_thrown G hs (fun r7 e7_z => ?_))
      have e7i : r7.toInt = (f2_z (X + 239) 4).toInt := by rw [e7_z]
      refine r_iload5 dL_law_2694 ?_
      refine t_iceq (t := 2701) dL_law_2696 (by decide) (fun h2696 => ?_) (fun h2696 => False.elim (by omega))
      refine r_goto (t := 2729) dL_law_2701 (by decide) ?_
      refine kk _ _ _ _ _ _ _ _ _ _ _ _ _ _ ?_ ?_ (lwI_m hI2 (by omega))
      · first | omega | (dsimp only; omega)
      · first | omega | (dsimp only; omega)
    · exact False.elim (by first | omega | (rw [hc1] at hy1; cases hy1; done))
  · have hC2 := lwC_res h_z.1 g1 g2 g3_z
    have hM2 := lwM_e (f2_z := f1_z) (j2 := j) h_z.2 (fun q h1 h2 => g2 q (by omega)) (fun q h1 h2 => rfl)
    have hs := hC2.2.2.2.2.1
    have hI1 := And.intro trivial hM2
    refine r_istore5 dL_law_2678 rfl ?_
    refine r_aloadR2 dL_law_2680 ?_
    refine r_aloadR0 dL_law_2681 ?_
    refine r_iload4 dL_law_2682 ?_
    refine n_iconst dL_law_2684 (by decide) (fun r2684 e2684 => ?_)
    refine n_iadd dL_law_2685 (by omega) (fun r2685 e2685 => ?_)
    refine k_iald (k := i + 1) (v := .int (xs (i + 1))) hT_z (by omega) (by omega) (by omega) rfl dL_law_2686 ?_
    refine q_callV1 zm_RL_306 dL_law_2687 (shM_k hs) (by decide) rfl (by decide) (by first | exact Nat.le_of_ble_eq_true rfl | omega | (dsimp only; omega)) (by first | exact Nat.le_of_ble_eq_true rfl | omega | (dsimp only; omega)) (by first | exact Nat.le_of_ble_eq_true rfl | omega | (dsimp only; omega)) (by first | exact Nat.le_of_ble_eq_true rfl | omega | (dsimp only; omega)) (s_X12_restore G hs hI1.2.1 hw hI1.2.2.2.1 (fun hy0 f2_z o6 t6 => ?_) (fun hy0 hy1 f2_z o6 t6 => ?_) (fun hy0 T8 hy1 f2_z o6 t6 a4 a5 => ?_))
    · exact False.elim (by first | omega | (rw [hc1] at hy1; cases hy1; done))
    · exact False.elim (by first | omega | (rw [hc1] at hy1; cases hy1; done))
    · cases Option.some.inj (hc1.symm.trans hy1)
      have hI2 := And.intro (lwC_f hC2 (fun q hq => o6.1 q (by omega)) (fun e => wyI_e e (fun r h1 h2 => o6.1 _ (by omega))) (fun e => wyI_e e (fun r h1 h2 => o6.1 _ (by omega))) (fun _ _ => rfl)) (lwM_kn hM2 (frM_su o6 (by decide) (by decide)) a4)
      refine r_aloadR2 dL_law_2690 ?_
      refine q_callV0 zm_RL_151 dL_law_2691 (shM_k hs) (by decide) rfl (by first | exact Nat.le_of_ble_eq_true rfl | omega | (dsimp only; omega)) (by first | exact Nat.le_of_ble_eq_true rfl | omega | (dsimp only; omega)) (by first | exact Nat.le_of_ble_eq_true rfl | omega | (dsimp only; omega)) (by first | exact Nat.le_of_ble_eq_true rfl | omega | (dsimp only; omega)) (by first | exact Nat.le_of_ble_eq_true rfl | omega | (dsimp only; omega)) (s_X12_thrown G hs (fun r7 e7_z => ?_))
      have e7i : r7.toInt = (f2_z (X + 239) 4).toInt := by rw [e7_z]
      refine r_iload5 dL_law_2694 ?_
      refine t_iceq (t := 2701) dL_law_2696 (by decide) (fun h2696 => ?_) (fun h2696 => False.elim (by omega))
      refine r_goto (t := 2729) dL_law_2701 (by decide) ?_
      refine kk _ _ _ _ _ _ _ _ _ _ _ _ _ _ ?_ ?_ (lwI_m hI2 (by omega))
      · first | omega | (dsimp only; omega)
      · first | omega | (dsimp only; omega)
