/-! the class's Reader: lines, the whole text -/
theorem tkR_n {ca B : Nat → Nat} {n A s : Nat} {f f2_z : Nat → Nat → Int32} {v : Option Nat} (h_z : tkR ca B n f v A s) (e : f2_z A = f A) : tkR ca B n f2_z v A s := by
  unfold tkR at *
  rw [e]
  exact h_z
/-- unchanged, but for the Reader, its law and the napkin, below s -/
def frX (A nq s : Nat) (f f2_z : Nat → Nat → Int32) (j j2 : Nat → Nat → Int64) : Prop := (∀ q, q < s → q ≠ A → q ≠ A + 8 → q ≠ nq → q ≠ nq + 1 → q ≠ nq + 2 → f2_z q = f q) ∧ f2_z A 1 = f A 1 ∧ ∀ q, q < s → j2 q = j q
theorem frX_rf {A nq s : Nat} {f : Nat → Nat → Int32} {j : Nat → Nat → Int64} : frX A nq s f f j j := ⟨fun _ _ _ _ _ _ _ => rfl, rfl, fun _ _ => rfl⟩
theorem frX_tr {A nq s s2 : Nat} {f f2_z f3_z : Nat → Nat → Int32} {j j2 j3 : Nat → Nat → Int64} (h_z : frX A nq s f f2_z j j2) (h2 : frX A nq s2 f2_z f3_z j2 j3) (hs : s ≤ s2) : frX A nq s f f3_z j j3 := ⟨fun q a b c d e x => (h2.1 q (Nat.lt_of_lt_of_le a hs) b c d e x).trans (h_z.1 q a b c d e x), h2.2.1.trans h_z.2.1, fun q a => (h2.2.2 q (Nat.lt_of_lt_of_le a hs)).trans (h_z.2.2 q a)⟩
theorem frX_M {A nq s : Nat} {f f2_z : Nat → Nat → Int32} {j : Nat → Nat → Int64} (h_z : frM A [8] [2, 3, 4, 5, 9, 10, 11, 12] f f2_z) : frX A nq s f f2_z j j := by
  refine ⟨fun q _ b c _ _ _ => ?_, h_z.2.2 1 (by decide), fun _ _ => rfl⟩
  rcases Nat.lt_or_ge q A with h9 | h9
  · exact h_z.1 q (Or.inl h9)
  · rcases Nat.lt_or_ge q (A + 21) with h8 | h8
    · have h7 := h_z.2.1 (q - A) (by omega) (by omega) (by simp; omega)
      rw [show A + (q - A) = q by omega] at h7
      exact h7
    · exact h_z.1 q (Or.inr h8)
theorem frX_R {A nq s : Nat} {f f2_z : Nat → Nat → Int32} {j : Nat → Nat → Int64} (h_z : ofR f f2_z nq 3) (hq : A + 21 ≤ nq) : frX A nq s f f2_z j j := ⟨fun q _ _ _ d e x => h_z q (by omega), by rw [h_z A (by omega)], fun _ _ => rfl⟩
theorem tpR_X {B : Nat → Nat} {n A tq nq s : Nat} {f f2_z : Nat → Nat → Int32} {j j2 : Nat → Nat → Int64} (h_z : tpR B n f A tq) (o : frX A nq s f f2_z j j2) (h1 : tq < A) (h2 : A < s) (h3 : A + 21 ≤ nq) : tpR B n f2_z A tq := ⟨by rw [o.2.1]; exact h_z.1, h_z.2.1, by rw [o.1 tq (by omega) (by omega) (by omega) (by omega) (by omega) (by omega)]; exact h_z.2.2.1, h_z.2.2.2⟩
/-- the world grown: of what was there only the word and the napkin's laws may have changed -/
def grX (A nq : Nat) (w w2 : zW) : Prop := zS w ≤ zS w2 ∧ (∀ q, q < zS w → zK w2 q = zK w q ∧ zN w2 q = zN w q) ∧ (∀ q k, q < zS w → ¬ (q = A ∧ k = 6) → (¬ (q = nq ∧ 5 ≤ k ∧ k ≤ 7)) → zP w2 q k = zP w q k) ∧ ∀ q, zS w2 ≤ q → zK w2 q = zK w q
theorem grX_rf {A nq : Nat} {w : zW} : grX A nq w w := ⟨Nat.le_refl _, fun _ _ => ⟨rfl, rfl⟩, fun _ _ _ _ _ => rfl, fun _ _ => rfl⟩
theorem grX_tr {A nq : Nat} {w w2 w3 : zW} (h_z : grX A nq w w2) (h2 : grX A nq w2 w3) : grX A nq w w3 := ⟨Nat.le_trans h_z.1 h2.1, fun q hq => ⟨(h2.2.1 q (Nat.lt_of_lt_of_le hq h_z.1)).1.trans (h_z.2.1 q hq).1, (h2.2.1 q (Nat.lt_of_lt_of_le hq h_z.1)).2.trans (h_z.2.1 q hq).2⟩, fun q k hq a b => (h2.2.2.1 q k (Nat.lt_of_lt_of_le hq h_z.1) a b).trans (h_z.2.2.1 q k hq a b), fun q hq => (h2.2.2.2 q hq).trans (h_z.2.2.2 q (Nat.le_trans h2.1 hq))⟩
theorem shRd_X {A tq nq : Nat} {w w2 : zW} (h_z : shRd w A tq nq) (o : grX A nq w w2) (h1 : A + 21 ≤ nq) (h2 : nq + 3 ≤ zS w) : shRd w2 A tq nq := by
  obtain ⟨a1, a2, a3, a4, ⟨a5, a6⟩, ⟨a7, a8⟩, a9⟩ := h_z
  have k0_z := o.2.1 A (by omega)
  have k1_z := o.2.1 tq (by omega)
  have k8_z := o.2.1 (A + 8) (by omega)
  exact ⟨k0_z.1.trans a1, (o.2.2.1 A 0 (by omega) (by omega) (by omega)).trans a2, (o.2.2.1 A 7 (by omega) (by omega) (by omega)).trans a3, (o.2.2.1 A 8 (by omega) (by omega) (by omega)).trans a4, ⟨k1_z.1.trans a5, k1_z.2.trans a6⟩, ⟨k8_z.1.trans a7, k8_z.2.trans a8⟩, a9⟩
def lwS (w : zW) (f : Nat → Nat → Int32) (nq k : Nat) (l : List Nat) : Prop := ∃ la, nq + 3 ≤ la ∧ la < zS w ∧ zP w nq k = some la ∧ zK w la = 21 ∧ zN w la = l.length ∧ ∀ i o, l[i]? = some o → (f la i).toInt = (o : Nat)
/-- the napkin as read so far -/
def rdN (w : zW) (f : Nat → Nat → Int32) (nq : Nat) (t : zNl) : Prop := shNa w nq ∧ ctNa f nq t.1 ∧ nq + 3 ≤ zS w ∧ lwS w f nq 5 t.2.1 ∧ lwS w f nq 6 t.2.2.1 ∧ lwS w f nq 7 t.2.2.2
theorem lwS_f {w : zW} {f f2_z : Nat → Nat → Int32} {nq k : Nat} {l : List Nat} (h_z : lwS w f nq k l) (e : ∀ q, nq + 3 ≤ q → q < zS w → f2_z q = f q) : lwS w f2_z nq k l := by
  obtain ⟨la, a1, a2, a3, a4, a5, a6⟩ := h_z
  exact ⟨la, a1, a2, a3, a4, a5, fun i o hi_z => by rw [e la a1 a2]; exact a6 i o hi_z⟩
theorem rdN_f {w : zW} {f f2_z : Nat → Nat → Int32} {nq : Nat} {t : zNl} {N : zNm} (h_z : rdN w f nq t) (hc_z : ctNa f2_z nq N) (e : ∀ q, nq + 3 ≤ q → q < zS w → f2_z q = f q) : rdN w f2_z nq (N, t.2) := ⟨h_z.1, hc_z, h_z.2.2.1, lwS_f h_z.2.2.2.1 e, lwS_f h_z.2.2.2.2.1 e, lwS_f h_z.2.2.2.2.2 e⟩
theorem rdN_e {w : zW} {f f2_z : Nat → Nat → Int32} {nq : Nat} {t : zNl} (h_z : rdN w f nq t) (e : ∀ q, nq ≤ q → q < zS w → f2_z q = f q) : rdN w f2_z nq t := by
  have h3 := h_z.2.2.1
  exact rdN_f h_z (ctNa_of h_z.2.1 (e _ (by omega) (by omega)) (e _ (by omega) (by omega)) (e _ (by omega) (by omega))) (fun q a b => e q (by omega) b)
theorem lwS_w {w w2 : zW} {f f2_z : Nat → Nat → Int32} {nq k s : Nat} {l : List Nat} (h_z : lwS w f nq k l) (hs : s = zS w) (h1 : zS w2 = s + 1) (h2 : ∀ q, q < s → zK w2 q = zK w q ∧ zN w2 q = zN w q) (h3 : zP w2 nq k = zP w nq k) (e : ∀ q, nq + 3 ≤ q → q < s → f2_z q = f q) : lwS w2 f2_z nq k l := by
  obtain ⟨la, a1, a2, a3, a4, a5, a6⟩ := h_z
  have b := h2 la (by omega)
  exact ⟨la, a1, by omega, h3.trans a3, b.1.trans a4, b.2.trans a5, fun i o hi_z => by rw [e la a1 (by omega)]; exact a6 i o hi_z⟩
/-- a law is set -/
theorem rdN_l {w w2 : zW} {f f2_z : Nat → Nat → Int32} {nq i s : Nat} {t : zNl} {c : List Nat} (h_z : rdN w f nq t) (hs : s = zS w) (hi_z : i = 3 ∨ i = 4 ∨ i = 5) (h1 : zS w2 = s + 1) (h2 : ∀ q, q < s → zK w2 q = zK w q ∧ zN w2 q = zN w q) (h3 : ∀ k, k ≠ (if i = 3 then 5 else if i = 4 then 6 else 7) → zP w2 nq k = zP w nq k) (h4 : zP w2 nq (if i = 3 then 5 else if i = 4 then 6 else 7) = some s) (k1_z : zK w2 s = 21) (k2_z : zN w2 s = c.length) (hc_z : ∀ q o, c[q]? = some o → (f2_z s q).toInt = (o : Nat)) (e : ∀ q, nq ≤ q → q < s → f2_z q = f q) : rdN w2 f2_z nq (stL i t c) := by
  obtain ⟨a1, a2, a3, a4, a5, a6⟩ := h_z
  have hn := h2 nq (by omega)
  have hn1 := h2 (nq + 1) (by omega)
  have hn2 := h2 (nq + 2) (by omega)
  obtain ⟨s1, s2, s3, s4, s5, s6, s7⟩ := a1
  have hsh : shNa w2 nq := ⟨hn.1.trans s1, (h3 3 (by split <;> (try split) <;> decide)).trans s2, (h3 4 (by split <;> (try split) <;> decide)).trans s3, hn1.1.trans s4, hn2.1.trans s5, hn1.2.trans s6, hn2.2.trans s7⟩
  have hct : ctNa f2_z nq t.1 := ctNa_of a2 (e _ (by omega) (by omega)) (e _ (by omega) (by omega)) (e _ (by omega) (by omega))
  have e3_z : ∀ q, nq + 3 ≤ q → q < s → f2_z q = f q := fun q a b => e q (by omega) b
  have hnew : ∀ k, zP w2 nq k = some s → lwS w2 f2_z nq k c := fun k hk => ⟨s, by omega, by omega, hk, k1_z, k2_z, hc_z⟩
  unfold stL
  rcases hi_z with rfl | rfl | rfl
  · rw [if_neg (by decide), if_neg (by decide)]
    rw [if_pos rfl] at h3 h4
    exact ⟨hsh, hct, by omega, hnew 5 h4, lwS_w a5 hs h1 h2 (h3 6 (by decide)) e3_z, lwS_w a6 hs h1 h2 (h3 7 (by decide)) e3_z⟩
  · rw [if_pos rfl]
    rw [if_neg (by decide), if_pos rfl] at h3 h4
    exact ⟨hsh, hct, by omega, lwS_w a4 hs h1 h2 (h3 5 (by decide)) e3_z, hnew 6 h4, lwS_w a6 hs h1 h2 (h3 7 (by decide)) e3_z⟩
  · rw [if_neg (by decide), if_pos rfl]
    rw [if_neg (by decide), if_neg (by decide)] at h3 h4
    exact ⟨hsh, hct, by omega, lwS_w a4 hs h1 h2 (h3 5 (by decide)) e3_z, lwS_w a5 hs h1 h2 (h3 6 (by decide)) e3_z, hnew 7 h4⟩
theorem ctNa_line {f : Nat → Nat → Int32} {a : Nat} {x : Int32} {N : zNm} (h_z : ctNa f a N) (hx : x = nI (N.1 + 1)) : ctNa (zu f a 0 x) a (N.1 + 1, N.2) := by
  obtain ⟨h1, h2, h3, h4, h5, h6, h7, h8, h9⟩ := h_z
  have e1_z : zu f a 0 x (a + 1) = f (a + 1) := zu_ne (by omega)
  have e2_z : zu f a 0 x (a + 2) = f (a + 2) := zu_ne (by omega)
  refine ⟨by rw [zu_at, hx], by rw [zu_ni (by decide)]; exact h2, by rw [zu_ni (by decide)]; exact h3, h4, h5, ?_, ?_, ?_, ?_⟩
  · rw [e1_z]; exact h6
  · rw [e1_z]; exact h7
  · rw [e2_z]; exact h8
  · rw [e2_z]; exact h9
theorem fi_ge {B : Nat → Nat} {n s : Nat} {t : zNl} : s ≤ (fiP B n t s).2.1 := by
  unfold fiP
  split
  · rename_i h1
    exact Nat.le_of_lt (nxP_gt (B := B) (n := n) (s := s) (tk_lt (by rw [h1]; decide))).1
  · exact Nat.le_refl s
set_option maxHeartbeats 4000000 in
set_option maxRecDepth 100000 in
theorem s_X5_readCell {g : zGT} {w : zW} {f : Nat → Nat → Int32} {j : Nat → Nat → Int64} {A tq nq : Nat} {v : Option Nat} {B : Nat → Nat} {n : Nat} {ca wa wv : Nat → Nat} {kq ta sm gq gv : Nat} {p : Nat} {t : zNl} {Q : Option Value → zW → Prop} {QX : String → zW → Prop} (G : zGok g) (hr : shRd w A tq nq) (kw : kWd g wa wv kq) (ko : kWo g ca wa wv ta sm gq gv) (htp : tpR B n f A tq) (htk : tkR ca B n f v A p) (hg : nlG n (0, p, t)) (hna : shNa w nq) (hct : ctNa f nq t.1) (hq2 : A + 21 ≤ nq) (h3 : tkP B n p = 3) (hQ0 : ∀ (b : Int32) v2 f2_z e q, b.toInt = 0 → frX A nq (zS w) f f2_z j j → flR f2_z A e q → e ≠ 0 → ceP B n t p = (e, q, t) → Q (some (.int b)) (zM (wW w A v2) f2_z j)) (hQ : ∀ (b : Int32) v2 f2_z q N, b.toInt = 1 → frX A nq (zS w) f f2_z j j → tkR ca B n f2_z v2 A q → ctNa f2_z nq N → N.1 = t.1.1 → ceP B n t p = fiP B n (N, t.2) q → Q (some (.int b)) (zM (wW w A v2) f2_z j)) : zC g 9 yX5_readCell cX5_readCell 3 (some .boolean) [.ref A] (zM (wW w A v) f j) (0, 0) Q QX := by
  refine zC_of G (by decide +kernel) (Nat.le_of_ble_eq_true rfl) ?_
  have ht := shRd_t hr
  have hpn := htk.1
  have hln : p < n := tk_lt (B := B) (by rw [h3]; decide)
  have hnx := nxP_gt (B := B) hln
  have h4 := htk.2.2.2.1
  have hct9 := hct
  obtain ⟨c0_z, c1_z, c2_z, c3_z, c4_z, c5_z, c6_z, c7_z, c8_z⟩ := hct9
  have y1 : (f nq 1).toInt = (t.1.2.1.length : Nat) := by rw [c1_z]; exact zi_n (by omega)
  have y2 : (f nq 2).toInt = (t.1.2.2.length : Nat) := by rw [c2_z]; exact zi_n (by omega)
  have hne : nq ≠ A := by omega
  have hb5 := nu_gd (B := B) (n := n) (s := nxP B n p) hnx.2
  by_cases h6 : 6 ≤ t.1.2.1.length
  · have hv : ceP B n t p = (4, p, t) := if_pos h6
    refine r_aloadR0 dX5_readCell_0 ?_
    refine m_getR (q := nq) zf_RX5_43 rfl dX5_readCell_1 hr.1 (shRd_p7 hr) ?_
    refine m_getV (x := (f nq 1)) zf_RX5_109 rfl dX5_readCell_4 hna.1 (rfl) ?_
    refine n_bipush dX5_readCell_7 (by decide) (fun r7 e7_z => ?_)
    refine t_iclt (t := 18) dX5_readCell_9 (by decide) (fun h9 => False.elim (by omega)) (fun h9 => ?_)
    refine r_aloadR0 dX5_readCell_12 ?_
    refine n_iconst dX5_readCell_13 (by decide) (fun r13 e13_z => ?_)
    refine q_callV1 zm_RX5_112 dX5_readCell_14 hr.1 (by decide) rfl (Nat.le_of_ble_eq_true rfl) (Nat.le_of_ble_eq_true rfl) (Nat.le_of_ble_eq_true rfl) (Nat.le_of_ble_eq_true rfl) (Nat.le_of_ble_eq_true rfl) (s_X5_refuseAs (e := 4) G hr htk e13_z (fun r14 g14 e14_z o14 l14 => ?_))
    refine m_zret dX5_readCell_17 rfl (by omega) (Nat.le_of_ble_eq_true rfl) (Nat.le_of_ble_eq_true rfl) ?_
    exact hQ0 _ _ g14 4 p e14_z (frX_M (frM_su o14 (by decide) (by decide))) l14 (by decide) hv
  have hv0 : ceP B n t p = ce2P B n t (nuP B n (nxP B n p)) := if_neg h6
  by_cases h1 : (nuP B n (nxP B n p)).1 = 0
  · by_cases h2 : isWd B n (nuP B n (nxP B n p)).2.1 1 = true
    · have hwt := isWd_tk h2
      have hl2 := tk_lt (B := B) (n := n) (s := (nuP B n (nxP B n p)).2.1) (by rw [hwt.1]; decide)
      have hnx2 := nxP_gt (B := B) hl2
      have hb6 := nu_gd (B := B) (n := n) (s := nxP B n (nuP B n (nxP B n p)).2.1) hnx2.2
      by_cases h5 : (nuP B n (nxP B n (nuP B n (nxP B n p)).2.1)).1 = 0
      · have hv : ceP B n t p = fiP B n ((t.1.1, t.1.2.1 ++ [((nuP B n (nxP B n p)).2.2, (nuP B n (nxP B n (nuP B n (nxP B n p)).2.1)).2.2)], t.1.2.2), t.2) (nuP B n (nxP B n (nuP B n (nxP B n p)).2.1)).2.1 := hv0.trans ((if_neg (not_not_intro h1)).trans ((if_pos h2).trans (if_neg (not_not_intro h5))))
        refine r_aloadR0 dX5_readCell_0 ?_
        refine m_getR (q := nq) zf_RX5_43 rfl dX5_readCell_1 hr.1 (shRd_p7 hr) ?_
        refine m_getV (x := (f nq 1)) zf_RX5_109 rfl dX5_readCell_4 hna.1 (rfl) ?_
        refine n_bipush dX5_readCell_7 (by decide) (fun r7 e7_z => ?_)
        refine t_iclt (t := 18) dX5_readCell_9 (by decide) (fun h9 => ?_) (fun h9 => False.elim (by omega))
        refine r_aloadR0 dX5_readCell_18 ?_
        refine q_callV0 zm_RX5_73 dX5_readCell_19 hr.1 (by decide) rfl (Nat.le_of_ble_eq_true rfl) (Nat.le_of_ble_eq_true rfl) (Nat.le_of_ble_eq_true rfl) (Nat.le_of_ble_eq_true rfl) (Nat.le_of_ble_eq_true rfl) (s_X5_next (p := teP B n p) G hr kw ko htp htk.2.1 (teP_le htk.1) htk.2.2.2.2.2.2 (fun v19 g19 o19 t19 => ?_))
        have t19 : tkR ca B n g19 v19 A (nxP B n p) := t19
        have htp19 := tpR_of htp ht o19 (by decide)
        refine r_aloadR0 dX5_readCell_22 ?_
        refine n_bipush dX5_readCell_23 (by decide) (fun r23 e23_z => ?_)
        refine q_callV1 zm_RX5_116 dX5_readCell_25 hr.1 (by decide) rfl (Nat.le_of_ble_eq_true rfl) (Nat.le_of_ble_eq_true rfl) (Nat.le_of_ble_eq_true rfl) (Nat.le_of_ble_eq_true rfl) (Nat.le_of_ble_eq_true rfl) (s_X5_takeNumber (s := nxP B n p) (h_z := 99) G hr kw ko htp19 e23_z t19 (fun r25 v25 g25 o25 a25 b25 => ?_))
        rw [nu_eq] at a25 b25
        obtain ⟨d25, t25⟩ := a25 h1
        have htp25 := tpR_of htp19 ht o25 (by decide)
        refine r_istore1 dX5_readCell_28 rfl ?_
        refine r_iload1 dX5_readCell_29 ?_
        refine n_iconst dX5_readCell_30 (by decide) (fun r30 e30 => ?_)
        refine t_iceq (t := 44) dX5_readCell_31 (by decide) (fun h31 => False.elim (by omega)) (fun h31 => ?_)
        refine r_aloadR0 dX5_readCell_34 ?_
        refine k_gets (ko.2.1 ("BACK", 1) (List.mem_of_getElem? (i := 1) rfl)) zg_RX5_120 dX5_readCell_35 ?_
        refine q_callV1 zm_RX5_123 dX5_readCell_38 hr.1 (by decide) rfl (Nat.le_of_ble_eq_true rfl) (Nat.le_of_ble_eq_true rfl) (Nat.le_of_ble_eq_true rfl) (Nat.le_of_ble_eq_true rfl) (Nat.le_of_ble_eq_true rfl) (s_X5_takeWord (i := 1) (s := (nuP B n (nxP B n p)).2.1) G hr kw ko htp25 (by decide) t25 (fun r38 v38 g38 o38 a38 b38 => ?_))
        obtain ⟨d38, t38⟩ := a38 h2
        have htp38 := tpR_of htp25 ht o38 (by decide)
        refine t_ifne (t := 46) dX5_readCell_41 (by decide) (fun h41 => ?_) (fun h41 => False.elim (by omega))
        refine r_aloadR0 dX5_readCell_46 ?_
        refine n_bipush dX5_readCell_47 (by decide) (fun r47 e47 => ?_)
        refine q_callV1 zm_RX5_116 dX5_readCell_49 hr.1 (by decide) rfl (Nat.le_of_ble_eq_true rfl) (Nat.le_of_ble_eq_true rfl) (Nat.le_of_ble_eq_true rfl) (Nat.le_of_ble_eq_true rfl) (Nat.le_of_ble_eq_true rfl) (s_X5_takeNumber (s := nxP B n (nuP B n (nxP B n p)).2.1) (h_z := 99) G hr kw ko htp38 e47 t38 (fun r49 v49 g49 o49 a49 b49 => ?_))
        rw [nu_eq] at a49 b49
        obtain ⟨d49, t49⟩ := a49 h5
        have ofm : frM A [8] [2, 3, 4, 5, 9, 10, 11, 12] f g49 := frM_tr (frM_tr (frM_su o19 (by decide) (by decide)) (frM_su o25 (by decide) (by decide))) (frM_tr (frM_su o38 (by decide) (by decide)) (frM_su o49 (by decide) (by decide)))
        have hg0 : g49 nq = f nq := ofm.1 nq (Or.inr hq2)
        have hg1 : g49 (nq + 1) = f (nq + 1) := ofm.1 _ (Or.inr (by omega))
        have hg2 : g49 (nq + 2) = f (nq + 2) := ofm.1 _ (Or.inr (by omega))
        refine r_istore2 dX5_readCell_52 rfl ?_
        refine r_iload2 dX5_readCell_53 ?_
        refine n_iconst dX5_readCell_54 (by decide) (fun r54 e54 => ?_)
        refine t_icne (t := 60) dX5_readCell_55 (by decide) (fun h55 => ?_) (fun h55 => False.elim (by omega))
        refine r_aloadR0 dX5_readCell_60 ?_
        refine m_getR (q := nq) zf_RX5_43 rfl dX5_readCell_61 hr.1 (shRd_p7 hr) ?_
        refine r_iload1 dX5_readCell_64 ?_
        refine r_iload2 dX5_readCell_65 ?_
        refine q_callV2 zm_RX5_126 dX5_readCell_66 hna.1 (by decide) rfl (Nat.le_of_ble_eq_true rfl) (Nat.le_of_ble_eq_true rfl) (Nat.le_of_ble_eq_true rfl) (Nat.le_of_ble_eq_true rfl) (Nat.le_of_ble_eq_true rfl) (s_X4_addCell (w := zM (wW w A v49) g49 j) (N := t.1) (p := (nuP B n (nxP B n p)).2.2) (q := (nuP B n (nxP B n (nuP B n (nxP B n p)).2.1)).2.2) G (shRd_na hr hna) (ctNa_of hct hg0 hg1 hg2) (by omega) (zi_of d25 (by omega)) (zi_of d49 (by omega)) (fun g66 o66 c66 => ?_))
        have oq : frX A nq (zS w) f g49 j j := (frX_M (frM_tr (frM_tr (frM_su o19 (by decide) (by decide)) (frM_su o25 (by decide) (by decide))) (frM_tr (frM_su o38 (by decide) (by decide)) (frM_su o49 (by decide) (by decide)))))
        refine n_iconst dX5_readCell_69 (by decide) (fun r69 e69 => ?_)
        refine m_zret dX5_readCell_70 rfl (by omega) (Nat.le_of_ble_eq_true rfl) (Nat.le_of_ble_eq_true rfl) ?_
        exact hQ _ _ g66 (nuP B n (nxP B n (nuP B n (nxP B n p)).2.1)).2.1 _ e69 (frX_tr oq (frX_R o66 hq2) (Nat.le_refl _)) (tkR_n t49 (o66 A (by omega))) c66 rfl hv
      · have hv : ceP B n t p = ((nuP B n (nxP B n (nuP B n (nxP B n p)).2.1)).1, (nuP B n (nxP B n (nuP B n (nxP B n p)).2.1)).2.1, t) := hv0.trans ((if_neg (not_not_intro h1)).trans ((if_pos h2).trans (if_pos h5)))
        refine r_aloadR0 dX5_readCell_0 ?_
        refine m_getR (q := nq) zf_RX5_43 rfl dX5_readCell_1 hr.1 (shRd_p7 hr) ?_
        refine m_getV (x := (f nq 1)) zf_RX5_109 rfl dX5_readCell_4 hna.1 (rfl) ?_
        refine n_bipush dX5_readCell_7 (by decide) (fun r7 e7_z => ?_)
        refine t_iclt (t := 18) dX5_readCell_9 (by decide) (fun h9 => ?_) (fun h9 => False.elim (by omega))
        refine r_aloadR0 dX5_readCell_18 ?_
        refine q_callV0 zm_RX5_73 dX5_readCell_19 hr.1 (by decide) rfl (Nat.le_of_ble_eq_true rfl) (Nat.le_of_ble_eq_true rfl) (Nat.le_of_ble_eq_true rfl) (Nat.le_of_ble_eq_true rfl) (Nat.le_of_ble_eq_true rfl) (s_X5_next (p := teP B n p) G hr kw ko htp htk.2.1 (teP_le htk.1) htk.2.2.2.2.2.2 (fun v19 g19 o19 t19 => ?_))
        have t19 : tkR ca B n g19 v19 A (nxP B n p) := t19
        have htp19 := tpR_of htp ht o19 (by decide)
        refine r_aloadR0 dX5_readCell_22 ?_
        refine n_bipush dX5_readCell_23 (by decide) (fun r23 e23_z => ?_)
        refine q_callV1 zm_RX5_116 dX5_readCell_25 hr.1 (by decide) rfl (Nat.le_of_ble_eq_true rfl) (Nat.le_of_ble_eq_true rfl) (Nat.le_of_ble_eq_true rfl) (Nat.le_of_ble_eq_true rfl) (Nat.le_of_ble_eq_true rfl) (s_X5_takeNumber (s := nxP B n p) (h_z := 99) G hr kw ko htp19 e23_z t19 (fun r25 v25 g25 o25 a25 b25 => ?_))
        rw [nu_eq] at a25 b25
        obtain ⟨d25, t25⟩ := a25 h1
        have htp25 := tpR_of htp19 ht o25 (by decide)
        refine r_istore1 dX5_readCell_28 rfl ?_
        refine r_iload1 dX5_readCell_29 ?_
        refine n_iconst dX5_readCell_30 (by decide) (fun r30 e30 => ?_)
        refine t_iceq (t := 44) dX5_readCell_31 (by decide) (fun h31 => False.elim (by omega)) (fun h31 => ?_)
        refine r_aloadR0 dX5_readCell_34 ?_
        refine k_gets (ko.2.1 ("BACK", 1) (List.mem_of_getElem? (i := 1) rfl)) zg_RX5_120 dX5_readCell_35 ?_
        refine q_callV1 zm_RX5_123 dX5_readCell_38 hr.1 (by decide) rfl (Nat.le_of_ble_eq_true rfl) (Nat.le_of_ble_eq_true rfl) (Nat.le_of_ble_eq_true rfl) (Nat.le_of_ble_eq_true rfl) (Nat.le_of_ble_eq_true rfl) (s_X5_takeWord (i := 1) (s := (nuP B n (nxP B n p)).2.1) G hr kw ko htp25 (by decide) t25 (fun r38 v38 g38 o38 a38 b38 => ?_))
        obtain ⟨d38, t38⟩ := a38 h2
        have htp38 := tpR_of htp25 ht o38 (by decide)
        refine t_ifne (t := 46) dX5_readCell_41 (by decide) (fun h41 => ?_) (fun h41 => False.elim (by omega))
        refine r_aloadR0 dX5_readCell_46 ?_
        refine n_bipush dX5_readCell_47 (by decide) (fun r47 e47 => ?_)
        refine q_callV1 zm_RX5_116 dX5_readCell_49 hr.1 (by decide) rfl (Nat.le_of_ble_eq_true rfl) (Nat.le_of_ble_eq_true rfl) (Nat.le_of_ble_eq_true rfl) (Nat.le_of_ble_eq_true rfl) (Nat.le_of_ble_eq_true rfl) (s_X5_takeNumber (s := nxP B n (nuP B n (nxP B n p)).2.1) (h_z := 99) G hr kw ko htp38 e47 t38 (fun r49 v49 g49 o49 a49 b49 => ?_))
        rw [nu_eq] at a49 b49
        obtain ⟨d49, l49⟩ := b49 h5
        refine r_istore2 dX5_readCell_52 rfl ?_
        refine r_iload2 dX5_readCell_53 ?_
        refine n_iconst dX5_readCell_54 (by decide) (fun r54 e54 => ?_)
        refine t_icne (t := 60) dX5_readCell_55 (by decide) (fun h55 => False.elim (by omega)) (fun h55 => ?_)
        refine n_iconst dX5_readCell_58 (by decide) (fun r58 e58 => ?_)
        refine m_zret dX5_readCell_59 rfl (by omega) (Nat.le_of_ble_eq_true rfl) (Nat.le_of_ble_eq_true rfl) ?_
        exact hQ0 _ _ g49 _ _ e58 (frX_M (frM_tr (frM_tr (frM_su o19 (by decide) (by decide)) (frM_su o25 (by decide) (by decide))) (frM_tr (frM_su o38 (by decide) (by decide)) (frM_su o49 (by decide) (by decide))))) l49 h5 hv
    · have hv : ceP B n t p = (baP B n (nuP B n (nxP B n p)).2.1, (nuP B n (nxP B n p)).2.1, t) := hv0.trans ((if_neg (not_not_intro h1)).trans (if_neg h2))
      refine r_aloadR0 dX5_readCell_0 ?_
      refine m_getR (q := nq) zf_RX5_43 rfl dX5_readCell_1 hr.1 (shRd_p7 hr) ?_
      refine m_getV (x := (f nq 1)) zf_RX5_109 rfl dX5_readCell_4 hna.1 (rfl) ?_
      refine n_bipush dX5_readCell_7 (by decide) (fun r7 e7_z => ?_)
      refine t_iclt (t := 18) dX5_readCell_9 (by decide) (fun h9 => ?_) (fun h9 => False.elim (by omega))
      refine r_aloadR0 dX5_readCell_18 ?_
      refine q_callV0 zm_RX5_73 dX5_readCell_19 hr.1 (by decide) rfl (Nat.le_of_ble_eq_true rfl) (Nat.le_of_ble_eq_true rfl) (Nat.le_of_ble_eq_true rfl) (Nat.le_of_ble_eq_true rfl) (Nat.le_of_ble_eq_true rfl) (s_X5_next (p := teP B n p) G hr kw ko htp htk.2.1 (teP_le htk.1) htk.2.2.2.2.2.2 (fun v19 g19 o19 t19 => ?_))
      have t19 : tkR ca B n g19 v19 A (nxP B n p) := t19
      have htp19 := tpR_of htp ht o19 (by decide)
      refine r_aloadR0 dX5_readCell_22 ?_
      refine n_bipush dX5_readCell_23 (by decide) (fun r23 e23_z => ?_)
      refine q_callV1 zm_RX5_116 dX5_readCell_25 hr.1 (by decide) rfl (Nat.le_of_ble_eq_true rfl) (Nat.le_of_ble_eq_true rfl) (Nat.le_of_ble_eq_true rfl) (Nat.le_of_ble_eq_true rfl) (Nat.le_of_ble_eq_true rfl) (s_X5_takeNumber (s := nxP B n p) (h_z := 99) G hr kw ko htp19 e23_z t19 (fun r25 v25 g25 o25 a25 b25 => ?_))
      rw [nu_eq] at a25 b25
      obtain ⟨d25, t25⟩ := a25 h1
      have htp25 := tpR_of htp19 ht o25 (by decide)
      refine r_istore1 dX5_readCell_28 rfl ?_
      refine r_iload1 dX5_readCell_29 ?_
      refine n_iconst dX5_readCell_30 (by decide) (fun r30 e30 => ?_)
      refine t_iceq (t := 44) dX5_readCell_31 (by decide) (fun h31 => False.elim (by omega)) (fun h31 => ?_)
      refine r_aloadR0 dX5_readCell_34 ?_
      refine k_gets (ko.2.1 ("BACK", 1) (List.mem_of_getElem? (i := 1) rfl)) zg_RX5_120 dX5_readCell_35 ?_
      refine q_callV1 zm_RX5_123 dX5_readCell_38 hr.1 (by decide) rfl (Nat.le_of_ble_eq_true rfl) (Nat.le_of_ble_eq_true rfl) (Nat.le_of_ble_eq_true rfl) (Nat.le_of_ble_eq_true rfl) (Nat.le_of_ble_eq_true rfl) (s_X5_takeWord (i := 1) (s := (nuP B n (nxP B n p)).2.1) G hr kw ko htp25 (by decide) t25 (fun r38 v38 g38 o38 a38 b38 => ?_))
      obtain ⟨d38, l38⟩ := b38 h2
      refine t_ifne (t := 46) dX5_readCell_41 (by decide) (fun h41 => False.elim (by omega)) (fun h41 => ?_)
      refine n_iconst dX5_readCell_44 (by decide) (fun r44 e44 => ?_)
      refine m_zret dX5_readCell_45 rfl (by omega) (Nat.le_of_ble_eq_true rfl) (Nat.le_of_ble_eq_true rfl) ?_
      exact hQ0 _ _ g38 _ _ e44 (frX_M (frM_tr (frM_tr (frM_su o19 (by decide) (by decide)) (frM_su o25 (by decide) (by decide))) (frM_su o38 (by decide) (by decide)))) l38 ba_bd.1 hv
  · have hv : ceP B n t p = ((nuP B n (nxP B n p)).1, (nuP B n (nxP B n p)).2.1, t) := hv0.trans (if_pos h1)
    refine r_aloadR0 dX5_readCell_0 ?_
    refine m_getR (q := nq) zf_RX5_43 rfl dX5_readCell_1 hr.1 (shRd_p7 hr) ?_
    refine m_getV (x := (f nq 1)) zf_RX5_109 rfl dX5_readCell_4 hna.1 (rfl) ?_
    refine n_bipush dX5_readCell_7 (by decide) (fun r7 e7_z => ?_)
    refine t_iclt (t := 18) dX5_readCell_9 (by decide) (fun h9 => ?_) (fun h9 => False.elim (by omega))
    refine r_aloadR0 dX5_readCell_18 ?_
    refine q_callV0 zm_RX5_73 dX5_readCell_19 hr.1 (by decide) rfl (Nat.le_of_ble_eq_true rfl) (Nat.le_of_ble_eq_true rfl) (Nat.le_of_ble_eq_true rfl) (Nat.le_of_ble_eq_true rfl) (Nat.le_of_ble_eq_true rfl) (s_X5_next (p := teP B n p) G hr kw ko htp htk.2.1 (teP_le htk.1) htk.2.2.2.2.2.2 (fun v19 g19 o19 t19 => ?_))
    have t19 : tkR ca B n g19 v19 A (nxP B n p) := t19
    have htp19 := tpR_of htp ht o19 (by decide)
    refine r_aloadR0 dX5_readCell_22 ?_
    refine n_bipush dX5_readCell_23 (by decide) (fun r23 e23_z => ?_)
    refine q_callV1 zm_RX5_116 dX5_readCell_25 hr.1 (by decide) rfl (Nat.le_of_ble_eq_true rfl) (Nat.le_of_ble_eq_true rfl) (Nat.le_of_ble_eq_true rfl) (Nat.le_of_ble_eq_true rfl) (Nat.le_of_ble_eq_true rfl) (s_X5_takeNumber (s := nxP B n p) (h_z := 99) G hr kw ko htp19 e23_z t19 (fun r25 v25 g25 o25 a25 b25 => ?_))
    rw [nu_eq] at a25 b25
    obtain ⟨d25, l25⟩ := b25 h1
    refine r_istore1 dX5_readCell_28 rfl ?_
    refine r_iload1 dX5_readCell_29 ?_
    refine n_iconst dX5_readCell_30 (by decide) (fun r30 e30 => ?_)
    refine t_iceq (t := 44) dX5_readCell_31 (by decide) (fun h31 => ?_) (fun h31 => False.elim (by omega))
    refine n_iconst dX5_readCell_44 (by decide) (fun r44 e44 => ?_)
    refine m_zret dX5_readCell_45 rfl (by omega) (Nat.le_of_ble_eq_true rfl) (Nat.le_of_ble_eq_true rfl) ?_
    exact hQ0 _ _ g25 _ _ e44 (frX_M (frM_tr (frM_su o19 (by decide) (by decide)) (frM_su o25 (by decide) (by decide)))) l25 h1 hv
set_option maxHeartbeats 4000000 in
set_option maxRecDepth 100000 in
theorem s_X5_readGuest {g : zGT} {w : zW} {f : Nat → Nat → Int32} {j : Nat → Nat → Int64} {A tq nq : Nat} {v : Option Nat} {B : Nat → Nat} {n : Nat} {ca wa wv : Nat → Nat} {kq ta sm gq gv : Nat} {p : Nat} {t : zNl} {Q : Option Value → zW → Prop} {QX : String → zW → Prop} (G : zGok g) (hr : shRd w A tq nq) (kw : kWd g wa wv kq) (ko : kWo g ca wa wv ta sm gq gv) (htp : tpR B n f A tq) (htk : tkR ca B n f v A p) (hg : nlG n (0, p, t)) (hna : shNa w nq) (hct : ctNa f nq t.1) (hq2 : A + 21 ≤ nq) (h3 : tkP B n p = 3) (hQ0 : ∀ (b : Int32) v2 f2_z e q, b.toInt = 0 → frX A nq (zS w) f f2_z j j → flR f2_z A e q → e ≠ 0 → guP B n t p = (e, q, t) → Q (some (.int b)) (zM (wW w A v2) f2_z j)) (hQ : ∀ (b : Int32) v2 f2_z q N, b.toInt = 1 → frX A nq (zS w) f f2_z j j → tkR ca B n f2_z v2 A q → ctNa f2_z nq N → N.1 = t.1.1 → guP B n t p = fiP B n (N, t.2) q → Q (some (.int b)) (zM (wW w A v2) f2_z j)) : zC g 9 yX5_readGuest cX5_readGuest 2 (some .boolean) [.ref A] (zM (wW w A v) f j) (0, 0) Q QX := by
  refine zC_of G (by decide +kernel) (Nat.le_of_ble_eq_true rfl) ?_
  have ht := shRd_t hr
  have hpn := htk.1
  have hln : p < n := tk_lt (B := B) (by rw [h3]; decide)
  have hnx := nxP_gt (B := B) hln
  have h4 := htk.2.2.2.1
  have hct9 := hct
  obtain ⟨c0_z, c1_z, c2_z, c3_z, c4_z, c5_z, c6_z, c7_z, c8_z⟩ := hct9
  have y1 : (f nq 1).toInt = (t.1.2.1.length : Nat) := by rw [c1_z]; exact zi_n (by omega)
  have y2 : (f nq 2).toInt = (t.1.2.2.length : Nat) := by rw [c2_z]; exact zi_n (by omega)
  have hne : nq ≠ A := by omega
  have hb5 := nu_gd (B := B) (n := n) (s := nxP B n p) hnx.2
  by_cases h6 : 4 ≤ t.1.2.2.length
  · have hv : guP B n t p = (4, p, t) := if_pos h6
    refine r_aloadR0 dX5_readGuest_0 ?_
    refine m_getR (q := nq) zf_RX5_43 rfl dX5_readGuest_1 hr.1 (shRd_p7 hr) ?_
    refine m_getV (x := (f nq 2)) zf_RX5_130 rfl dX5_readGuest_4 hna.1 (rfl) ?_
    refine n_iconst dX5_readGuest_7 (by decide) (fun r7 e7_z => ?_)
    refine t_iclt (t := 17) dX5_readGuest_8 (by decide) (fun h8 => False.elim (by omega)) (fun h8 => ?_)
    refine r_aloadR0 dX5_readGuest_11 ?_
    refine n_iconst dX5_readGuest_12 (by decide) (fun r12 e12_z => ?_)
    refine q_callV1 zm_RX5_112 dX5_readGuest_13 hr.1 (by decide) rfl (Nat.le_of_ble_eq_true rfl) (Nat.le_of_ble_eq_true rfl) (Nat.le_of_ble_eq_true rfl) (Nat.le_of_ble_eq_true rfl) (Nat.le_of_ble_eq_true rfl) (s_X5_refuseAs (e := 4) G hr htk e12_z (fun r13 g13 e13_z o13 l13 => ?_))
    refine m_zret dX5_readGuest_16 rfl (by omega) (Nat.le_of_ble_eq_true rfl) (Nat.le_of_ble_eq_true rfl) ?_
    exact hQ0 _ _ g13 4 p e13_z (frX_M (frM_su o13 (by decide) (by decide))) l13 (by decide) hv
  have hv0 : guP B n t p = gu2P B n t (nuP B n (nxP B n p)) := if_neg h6
  by_cases h1 : (nuP B n (nxP B n p)).1 = 0
  · have hv : guP B n t p = fiP B n ((t.1.1, t.1.2.1, t.1.2.2 ++ [(nuP B n (nxP B n p)).2.2]), t.2) (nuP B n (nxP B n p)).2.1 := hv0.trans (if_neg (not_not_intro h1))
    refine r_aloadR0 dX5_readGuest_0 ?_
    refine m_getR (q := nq) zf_RX5_43 rfl dX5_readGuest_1 hr.1 (shRd_p7 hr) ?_
    refine m_getV (x := (f nq 2)) zf_RX5_130 rfl dX5_readGuest_4 hna.1 (rfl) ?_
    refine n_iconst dX5_readGuest_7 (by decide) (fun r7 e7_z => ?_)
    refine t_iclt (t := 17) dX5_readGuest_8 (by decide) (fun h8 => ?_) (fun h8 => False.elim (by omega))
    refine r_aloadR0 dX5_readGuest_17 ?_
    refine q_callV0 zm_RX5_73 dX5_readGuest_18 hr.1 (by decide) rfl (Nat.le_of_ble_eq_true rfl) (Nat.le_of_ble_eq_true rfl) (Nat.le_of_ble_eq_true rfl) (Nat.le_of_ble_eq_true rfl) (Nat.le_of_ble_eq_true rfl) (s_X5_next (p := teP B n p) G hr kw ko htp htk.2.1 (teP_le htk.1) htk.2.2.2.2.2.2 (fun v18 g18 o18 t18 => ?_))
    have t18 : tkR ca B n g18 v18 A (nxP B n p) := t18
    have htp18 := tpR_of htp ht o18 (by decide)
    refine r_aloadR0 dX5_readGuest_21 ?_
    refine n_bipush dX5_readGuest_22 (by decide) (fun r22 e22_z => ?_)
    refine q_callV1 zm_RX5_116 dX5_readGuest_24 hr.1 (by decide) rfl (Nat.le_of_ble_eq_true rfl) (Nat.le_of_ble_eq_true rfl) (Nat.le_of_ble_eq_true rfl) (Nat.le_of_ble_eq_true rfl) (Nat.le_of_ble_eq_true rfl) (s_X5_takeNumber (s := nxP B n p) (h_z := 99) G hr kw ko htp18 e22_z t18 (fun r24 v24 g24 o24 a24 b24 => ?_))
    rw [nu_eq] at a24 b24
    obtain ⟨d24, t24⟩ := a24 h1
    have ofm : frM A [8] [2, 3, 4, 5, 9, 10, 11, 12] f g24 := frM_tr (frM_su o18 (by decide) (by decide)) (frM_su o24 (by decide) (by decide))
    have hg0 : g24 nq = f nq := ofm.1 nq (Or.inr hq2)
    have hg1 : g24 (nq + 1) = f (nq + 1) := ofm.1 _ (Or.inr (by omega))
    have hg2 : g24 (nq + 2) = f (nq + 2) := ofm.1 _ (Or.inr (by omega))
    refine r_istore1 dX5_readGuest_27 rfl ?_
    refine r_iload1 dX5_readGuest_28 ?_
    refine n_iconst dX5_readGuest_29 (by decide) (fun r29 e29 => ?_)
    refine t_icne (t := 35) dX5_readGuest_30 (by decide) (fun h30 => ?_) (fun h30 => False.elim (by omega))
    refine r_aloadR0 dX5_readGuest_35 ?_
    refine m_getR (q := nq) zf_RX5_43 rfl dX5_readGuest_36 hr.1 (shRd_p7 hr) ?_
    refine r_iload1 dX5_readGuest_39 ?_
    refine q_callV1 zm_RX5_133 dX5_readGuest_40 hna.1 (by decide) rfl (Nat.le_of_ble_eq_true rfl) (Nat.le_of_ble_eq_true rfl) (Nat.le_of_ble_eq_true rfl) (Nat.le_of_ble_eq_true rfl) (Nat.le_of_ble_eq_true rfl) (s_X4_addGuest (w := zM (wW w A v24) g24 j) (N := t.1) (p := (nuP B n (nxP B n p)).2.2) G (shRd_na hr hna) (ctNa_of hct hg0 hg1 hg2) (by omega) (zi_of d24 (by omega)) (fun g40 o40 c40 => ?_))
    refine n_iconst dX5_readGuest_43 (by decide) (fun r43 e43 => ?_)
    refine m_zret dX5_readGuest_44 rfl (by omega) (Nat.le_of_ble_eq_true rfl) (Nat.le_of_ble_eq_true rfl) ?_
    exact hQ _ _ g40 (nuP B n (nxP B n p)).2.1 _ e43 (frX_tr (frX_M ofm) (frX_R o40 hq2) (Nat.le_refl _)) (tkR_n t24 (o40 A (by omega))) c40 rfl hv
  · have hv : guP B n t p = ((nuP B n (nxP B n p)).1, (nuP B n (nxP B n p)).2.1, t) := hv0.trans (if_pos h1)
    refine r_aloadR0 dX5_readGuest_0 ?_
    refine m_getR (q := nq) zf_RX5_43 rfl dX5_readGuest_1 hr.1 (shRd_p7 hr) ?_
    refine m_getV (x := (f nq 2)) zf_RX5_130 rfl dX5_readGuest_4 hna.1 (rfl) ?_
    refine n_iconst dX5_readGuest_7 (by decide) (fun r7 e7_z => ?_)
    refine t_iclt (t := 17) dX5_readGuest_8 (by decide) (fun h8 => ?_) (fun h8 => False.elim (by omega))
    refine r_aloadR0 dX5_readGuest_17 ?_
    refine q_callV0 zm_RX5_73 dX5_readGuest_18 hr.1 (by decide) rfl (Nat.le_of_ble_eq_true rfl) (Nat.le_of_ble_eq_true rfl) (Nat.le_of_ble_eq_true rfl) (Nat.le_of_ble_eq_true rfl) (Nat.le_of_ble_eq_true rfl) (s_X5_next (p := teP B n p) G hr kw ko htp htk.2.1 (teP_le htk.1) htk.2.2.2.2.2.2 (fun v18 g18 o18 t18 => ?_))
    have t18 : tkR ca B n g18 v18 A (nxP B n p) := t18
    have htp18 := tpR_of htp ht o18 (by decide)
    refine r_aloadR0 dX5_readGuest_21 ?_
    refine n_bipush dX5_readGuest_22 (by decide) (fun r22 e22_z => ?_)
    refine q_callV1 zm_RX5_116 dX5_readGuest_24 hr.1 (by decide) rfl (Nat.le_of_ble_eq_true rfl) (Nat.le_of_ble_eq_true rfl) (Nat.le_of_ble_eq_true rfl) (Nat.le_of_ble_eq_true rfl) (Nat.le_of_ble_eq_true rfl) (s_X5_takeNumber (s := nxP B n p) (h_z := 99) G hr kw ko htp18 e22_z t18 (fun r24 v24 g24 o24 a24 b24 => ?_))
    rw [nu_eq] at a24 b24
    obtain ⟨d24, l24⟩ := b24 h1
    refine r_istore1 dX5_readGuest_27 rfl ?_
    refine r_iload1 dX5_readGuest_28 ?_
    refine n_iconst dX5_readGuest_29 (by decide) (fun r29 e29 => ?_)
    refine t_icne (t := 35) dX5_readGuest_30 (by decide) (fun h30 => False.elim (by omega)) (fun h30 => ?_)
    refine n_iconst dX5_readGuest_33 (by decide) (fun r33 e33_z => ?_)
    refine m_zret dX5_readGuest_34 rfl (by omega) (Nat.le_of_ble_eq_true rfl) (Nat.le_of_ble_eq_true rfl) ?_
    exact hQ0 _ _ g24 _ _ e33_z (frX_M (frM_tr (frM_su o18 (by decide) (by decide)) (frM_su o24 (by decide) (by decide)))) l24 h1 hv
theorem cpy_RJ7_150 : Cond.methodLink RJ7 150 arraycopyName ∈ zT := zt5 (List.mem_of_getElem? (i := 82) (by decide +kernel)) (by decide +kernel)
set_option maxHeartbeats 4000000 in
set_option maxRecDepth 100000 in
theorem s_J7_copyOf_59c91 {g : zGT} {w : zW} {f : Nat → Nat → Int32} {j : Nat → Nat → Int64} {a s N : Nat} {x : Int32} {Q : Option Value → zW → Prop} {QX : String → zW → Prop} (G : zGok g) (hs : zS w = s) (hk : zK w a = 21) (hn : zN w a = 900) (hx : x.toInt = (N : Nat)) (hN_z : N < 900) (ha_z : a < s) (hQ : ∀ w2 f2_z j2, nwW s w w2 21 N → (∀ q, q ≠ s → f2_z q = f q) → (∀ i, i < N → f2_z s i = f a i) → (∀ q, q ≠ s → j2 q = j q) → Q (some (.ref s)) (zM w2 f2_z j2)) : zC g 1 yJ7_copyOf_59c91 cJ7_copyOf_59c91 3 (some (.array .int)) [.ref a, .int x] (zM w f j) (1, N) Q QX := by
  refine zC_of G (by decide +kernel) (Nat.le_of_ble_eq_true rfl) ?_
  have nn : ∀ z : Int32, z.toInt = 0 → ¬ z < 0 := fun z hz h_z => by rw [Int32.lt_iff_toInt_lt, hz] at h_z; exact absurd h_z (by decide)
  refine r_iload1 dJ7_copyOf_59c91_0 ?_
  refine r_aloadR0 dJ7_copyOf_59c91_1 ?_
  refine m_alen dJ7_copyOf_59c91_2 (zge hk (by decide)) hn (by first | decide | omega) (fun r2 e2_z => ?_)
  refine t_icne (t := 14) dJ7_copyOf_59c91_3 (by decide) (fun h3 => ?_) (fun h3 => False.elim (by omega))
  refine r_iload1 dJ7_copyOf_59c91_14 ?_
  refine m_newI (N := N) hs dJ7_copyOf_59c91_15 hx (by omega) (by first | exact Nat.le_of_ble_eq_true rfl | (dsimp only [zV, zVh, zVg, zrm]; omega) | omega) (by first | exact Nat.le_of_ble_eq_true rfl | (dsimp only [zV, zVh, zVg, zrm]; omega) | omega) (fun w2 f2_z j2 n15 m15 p15 => ?_)
  refine r_astore2 dJ7_copyOf_59c91_17 rfl ?_
  refine r_aloadR0 dJ7_copyOf_59c91_18 ?_
  refine n_iconst dJ7_copyOf_59c91_19 (by decide) (fun r19 e19_z => ?_)
  refine r_aloadR2 dJ7_copyOf_59c91_20 ?_
  refine n_iconst dJ7_copyOf_59c91_21 (by decide) (fun r21 e21_z => ?_)
  refine r_aloadR0 dJ7_copyOf_59c91_22 ?_
  refine m_alen dJ7_copyOf_59c91_23 (zge ((n15.2.2.2 a (by omega)).1.trans hk) (by decide)) ((n15.2.2.2 a (by omega)).2.1.trans hn) (by first | decide | omega) (fun r23 e23_z => ?_)
  refine r_iload1 dJ7_copyOf_59c91_24 ?_
  refine r_mmin zm_RJ7_304 dJ7_copyOf_59c91_25 (by first | exact Nat.le_of_ble_eq_true rfl | (dsimp only [zV, zVh, zVg, zrm]; omega) | omega) (by first | exact Nat.le_of_ble_eq_true rfl | (dsimp only [zV, zVh, zVg, zrm]; omega) | omega) (by first | exact Nat.le_of_ble_eq_true rfl | (dsimp only [zV, zVh, zVg, zrm]; omega) | omega) (by first | exact Nat.le_of_ble_eq_true rfl | (dsimp only [zV, zVh, zVg, zrm]; omega) | omega) (by first | exact Nat.le_of_ble_eq_true rfl | (dsimp only [zV, zVh, zVg, zrm]; omega) | omega) (fun r25 e25_z => ?_)
  refine r_copyI cpy_RJ7_150 cpy_nat cpy_stat cpy_ini dJ7_copyOf_59c91_28 (show zK w2 a = 21 from (n15.2.2.2 a (by omega)).1.trans hk) n15.2.1 (nn _ e19_z) (nn _ e21_z) (fun h_z => by rw [Int32.lt_iff_toInt_lt] at h_z; have h9 : (0 : Int32).toInt = 0 := rfl; omega) (by rw [zcl_of (k := 0) e19_z, zcl_of (k := N) (by omega)]; show 0 + N ≤ zN w2 a; rw [(n15.2.2.2 a (by omega)).2.1, hn]; omega) (by rw [zcl_of (k := 0) e21_z, zcl_of (k := N) (by omega)]; show 0 + N ≤ zN w2 s; rw [n15.2.2.1]; omega) (by first | exact Nat.le_of_ble_eq_true rfl | (dsimp only [zV, zVh, zVg, zrm]; omega) | omega) (by first | exact Nat.le_of_ble_eq_true rfl | (dsimp only [zV, zVh, zVg, zrm]; omega) | omega) ?_
  rw [zcl_of (k := 0) e19_z, zcl_of (k := 0) e21_z, zcl_of (k := N) (show r25.toInt = (N : Nat) by omega)]
  refine r_aloadR2 dJ7_copyOf_59c91_31 ?_
  refine r_aret dJ7_copyOf_59c91_32 rfl (by first | exact Or.inl ⟨_, rfl⟩ | exact Or.inr ⟨_, rfl⟩) (by first | exact zrf_r | exact zrf_o | exact zrf_n) (by first | exact Nat.le_of_ble_eq_true rfl | (dsimp only [zV, zVh, zVg, zrm]; omega) | omega) (by first | exact Nat.le_of_ble_eq_true rfl | (dsimp only [zV, zVh, zVg, zrm]; omega) | omega) ?_
  refine hQ w2 _ j2 n15 (fun q hq => ?_) (fun i hi_z => ?_) p15.1
  · exact (zr_ne hq).trans (m15.1 q hq)
  · show zr f2_z s (va_cpy (f2_z a) (f2_z s) 0 0 N) s i = f a i
    rw [zr_self]
    unfold va_cpy
    rw [if_pos (by omega), m15.1 a (by omega), show 0 + (i - 0) = i by omega]
set_option maxHeartbeats 4000000 in
set_option maxRecDepth 100000 in
theorem s_X5_readLaw_3 {g : zGT} {w : zW} {f : Nat → Nat → Int32} {j : Nat → Nat → Int64} {A tq nq : Nat} {v : Option Nat} {B : Nat → Nat} {n : Nat} {ca wa wv : Nat → Nat} {kq ta sm gq gv : Nat} {p : Nat} {t : zNl} {bs : Nat} {Q : Option Value → zW → Prop} {QX : String → zW → Prop} (G : zGok g) (hr : shRd w A tq nq) (kw : kWd g wa wv kq) (ko : kWo g ca wa wv ta sm gq gv) (htp : tpR B n f A tq) (htk : tkR ca B n f v A p) (hpn : p < n) (hrd : rdN w f nq t) (hq2 : A + 21 ≤ nq) (hbs : tkP B n (nxP B n p) = 58 → (lwP B n 3 (nxP B n (nxP B n p))).1 = 0 → (lwP B n 3 (nxP B n (nxP B n p))).2.2.length ≤ bs) (hQ0 : ∀ (b : Int32) v2 f2_z e q, b.toInt = 0 → frX A nq (zS w) f f2_z j j → flR f2_z A e q → e ≠ 0 → laP B n 3 t p = (e, q, t) → Q (some (.int b)) (zM (wW w A v2) f2_z j)) (hQ : ∀ (b : Int32) w2 v2 f2_z j2 q c, b.toInt = 1 → grX A nq w w2 → frX A nq (zS w) f f2_z j j2 → tkR ca B n f2_z v2 A q → rdN w2 f2_z nq (stL 3 t c) → laP B n 3 t p = fiP B n (stL 3 t c) q → Q (some (.int b)) (zM (wW w2 A v2) f2_z j2)) : zC g 70 yX5_readLaw cX5_readLaw 3 (some .boolean) [.ref A, .ref (ca 3)] (zM (wW w A v) f j) (1, bs) Q QX := by
  refine zC_of G (by decide +kernel) (Nat.le_of_ble_eq_true rfl) ?_
  have ht := shRd_t hr
  have hnx := nxP_gt (B := B) hpn
  have hne : nq ≠ A := by omega
  have h900 := htp.2.1
  have hinj := ko.1
  have hsq : nq + 3 ≤ zS w := hrd.2.2.1
  by_cases hc_z : tkP B n (nxP B n p) = 58
  · have hl2 := tk_lt (B := B) (n := n) (s := nxP B n p) (by rw [hc_z]; decide)
    have hnx2 := nxP_gt (B := B) hl2
    have hv2 : laP B n 3 t p = la2P B n 3 t (lwP B n 3 (nxP B n (nxP B n p))) := if_pos hc_z
    have hlw9 : (lwP B n 3 (nxP B n (nxP B n p))) = smP B n (if 3 = 5 then 8 else 6) 6 (nxP B n (nxP B n p)) := if_neg (by decide)
    by_cases hq : (lwP B n 3 (nxP B n (nxP B n p))).1 = 0
    · obtain ⟨y1, y2, y3⟩ := lw_gt (B := B) (n := n) (i := 3) hnx2.2 hq
      have hb9 := hbs hc_z hq
      refine r_aloadR0 dX5_readLaw_0 ?_
      refine q_callV0 zm_RX5_73 dX5_readLaw_1 hr.1 (by decide) rfl (by first | exact Nat.le_of_ble_eq_true rfl | (dsimp only [zV, zVh, zVg, zrm]; omega) | omega) (by first | exact Nat.le_of_ble_eq_true rfl | (dsimp only [zV, zVh, zVg, zrm]; omega) | omega) (by first | exact Nat.le_of_ble_eq_true rfl | (dsimp only [zV, zVh, zVg, zrm]; omega) | omega) (by first | exact Nat.le_of_ble_eq_true rfl | (dsimp only [zV, zVh, zVg, zrm]; omega) | omega) (by first | exact Nat.le_of_ble_eq_true rfl | (dsimp only [zV, zVh, zVg, zrm]; omega) | omega) (s_X5_next (p := teP B n p) G hr kw ko htp htk.2.1 (teP_le htk.1) htk.2.2.2.2.2.2 (fun v1_z g1 o1 t1 => ?_))
      have t1 : tkR ca B n g1 v1_z A (nxP B n p) := t1
      have htp1 := tpR_of htp ht o1 (by decide)
      refine r_aloadR0 dX5_readLaw_4 ?_
      refine n_bipush dX5_readLaw_5 (by decide) (fun r5 e5_z => ?_)
      refine q_callV1 zm_RX5_102 dX5_readLaw_7 hr.1 (by decide) rfl (by first | exact Nat.le_of_ble_eq_true rfl | (dsimp only [zV, zVh, zVg, zrm]; omega) | omega) (by first | exact Nat.le_of_ble_eq_true rfl | (dsimp only [zV, zVh, zVg, zrm]; omega) | omega) (by first | exact Nat.le_of_ble_eq_true rfl | (dsimp only [zV, zVh, zVg, zrm]; omega) | omega) (by first | exact Nat.le_of_ble_eq_true rfl | (dsimp only [zV, zVh, zVg, zrm]; omega) | omega) (by first | exact Nat.le_of_ble_eq_true rfl | (dsimp only [zV, zVh, zVg, zrm]; omega) | omega) (s_X5_takeSign (s := nxP B n p) (c := 58) G hr kw ko htp1 e5_z t1 (fun r7 v7 g7 o7 a7 b7 => ?_))
      obtain ⟨d7, t7⟩ := a7 hc_z
      refine t_ifne (t := 15) dX5_readLaw_10 (by decide) (fun h10 => ?_) (fun h10 => False.elim (by omega))
      refine r_aloadR0 dX5_readLaw_15 ?_
      refine n_iconst dX5_readLaw_16 (by decide) (fun r16 e16_z => ?_)
      refine m_putI zf_RX5_51 (by intro C T N h_z; cases h_z; rfl) rfl dX5_readLaw_17 hr.1 ?_
      obtain ⟨g17, hg17⟩ : ∃ g9, g9 = zu g7 A 9 r16 := ⟨_, rfl⟩
      rw [← hg17]
      have og17 : frM A [] [9] g7 g17 := by rw [hg17]; exact frM_zk frM_rf (by decide)
      have vg17 : g17 A 9 = r16 := by rw [hg17]; exact zu_at
      have vt17 : (g17 A 9).toInt = r16.toInt := by rw [vg17]
      refine r_aloadR0 dX5_readLaw_20 ?_
      refine r_aloadR1 dX5_readLaw_21 ?_
      refine k_gets (ko.2.1 ("LIKES", 5) (List.mem_of_getElem? (i := 2) rfl)) zg_RX5_137 dX5_readLaw_22 ?_
      refine r_acne (rx := some (ca 3)) (ry := some (ca 5)) (t := 32) dX5_readLaw_25 (by decide) (fun h25 => ?_) (fun h25 => False.elim (absurd (hinj 3 5 (by decide) (by decide) (Option.some.inj h25)) (by decide)))
      refine n_iconst dX5_readLaw_32 (by decide) (fun r32 e32 => ?_)
      refine m_putZ zf_RX5_54 (by intro C T N h_z; cases h_z; rfl) rfl (by omega) dX5_readLaw_33 hr.1 ?_
      obtain ⟨g33, hg33⟩ : ∃ g9, g9 = zu g17 A 10 r32 := ⟨_, rfl⟩
      rw [← hg33]
      have og33 : frM A [] [10] g17 g33 := by rw [hg33]; exact frM_zk frM_rf (by decide)
      have vg33 : g33 A 10 = r32 := by rw [hg33]; exact zu_at
      have vt33 : (g33 A 10).toInt = r32.toInt := by rw [vg33]
      have t33 := tkR_of (tkR_of t7 og17 (by decide) (by decide) (by decide) (by decide)) og33 (by decide) (by decide) (by decide) (by decide)
      have htp33 := tpR_of (tpR_of (tpR_of htp1 ht o7 (by decide)) ht og17 (by decide)) ht og33 (by decide)
      refine r_aloadR1 dX5_readLaw_36 ?_
      refine k_gets (ko.2.1 ("HOLDS", 4) (List.mem_of_getElem? (i := 3) rfl)) zg_RX5_140 dX5_readLaw_37 ?_
      refine r_acne (rx := some (ca 3)) (ry := some (ca 4)) (t := 54) dX5_readLaw_40 (by decide) (fun h40 => ?_) (fun h40 => False.elim (absurd (hinj 3 4 (by decide) (by decide) (Option.some.inj h40)) (by decide)))
      refine r_aloadR0 dX5_readLaw_54 ?_
      refine n_iconst dX5_readLaw_55 (by decide) (fun r55 e55 => ?_)
      refine q_callV1 zm_RX5_146 dX5_readLaw_56 hr.1 (by decide) rfl (by first | exact Nat.le_of_ble_eq_true rfl | (dsimp only [zV, zVh, zVg, zrm]; omega) | omega) (by first | exact Nat.le_of_ble_eq_true rfl | (dsimp only [zV, zVh, zVg, zrm]; omega) | omega) (by first | exact Nat.le_of_ble_eq_true rfl | (dsimp only [zV, zVh, zVg, zrm]; omega) | omega) (by first | exact Nat.le_of_ble_eq_true rfl | (dsimp only [zV, zVh, zVg, zrm]; omega) | omega) (by first | exact Nat.le_of_ble_eq_true rfl | (dsimp only [zV, zVh, zVg, zrm]; omega) | omega) (s_X5_readSum_6 (lm := 3) (u := 0) (p := nxP B n (nxP B n p)) G hr kw ko htp33 t33 e55 (by rw [vt33]; omega) (by rw [og33.2.2 9 (by decide), vt17]; omega) (Nat.zero_le _) (fun rs vs gs os as bs9 => ?_))
      have as2 : (lwP B n 3 (nxP B n (nxP B n p))).1 = 0 → rs.toInt = 1 ∧ tkR ca B n gs vs A (lwP B n 3 (nxP B n (nxP B n p))).2.1 ∧ okR g33 gs A 0 (lwP B n 3 (nxP B n (nxP B n p))).2.2 := by rw [hlw9]; exact as
      have bs2 : (lwP B n 3 (nxP B n (nxP B n p))).1 ≠ 0 → rs.toInt = 0 ∧ flR gs A (lwP B n 3 (nxP B n (nxP B n p))).1 (lwP B n 3 (nxP B n (nxP B n p))).2.1 := by rw [hlw9]; exact bs9
      clear as bs9
      have ofs : frM A [8] [2, 3, 4, 5, 9, 10, 11, 12] f gs := frM_tr (frM_tr (frM_su o1 (by decide) (by decide)) (frM_su o7 (by decide) (by decide))) (frM_tr (frM_tr (frM_su og17 (by decide) (by decide)) (frM_su og33 (by decide) (by decide))) (frM_su os (by decide) (by decide)))
      obtain ⟨ds, ts, ks⟩ := as2 hq
      have hus : (gs A 9).toInt = ((lwP B n 3 (nxP B n (nxP B n p))).2.2.length : Nat) := by have := ks.1; omega
      refine t_ifne (t := 64) dX5_readLaw_59 (by decide) (fun h59 => ?_) (fun h59 => False.elim (by omega))
      refine r_aloadR0 dX5_readLaw_64 ?_
      refine m_getR (q := (A + 8)) zf_RX5_47 rfl dX5_readLaw_65 hr.1 (shRd_p8 hr) ?_
      refine n_iconst dX5_readLaw_68 (by decide) (fun r68 e68 => ?_)
      refine r_aloadR0 dX5_readLaw_69 ?_
      refine m_getV (x := (gs A 9)) zf_RX5_51 rfl dX5_readLaw_70 hr.1 (rfl) ?_
      refine r_mmax zm_RX5_70 dX5_readLaw_73 (by first | exact Nat.le_of_ble_eq_true rfl | (dsimp only [zV, zVh, zVg, zrm]; omega) | omega) (by first | exact Nat.le_of_ble_eq_true rfl | (dsimp only [zV, zVh, zVg, zrm]; omega) | omega) (by first | exact Nat.le_of_ble_eq_true rfl | (dsimp only [zV, zVh, zVg, zrm]; omega) | omega) (by first | exact Nat.le_of_ble_eq_true rfl | (dsimp only [zV, zVh, zVg, zrm]; omega) | omega) (by first | exact Nat.le_of_ble_eq_true rfl | (dsimp only [zV, zVh, zVg, zrm]; omega) | omega) (fun r73 e73 => ?_)
      refine q_callS2 zm_RX5_149 dX5_readLaw_76 (by first | exact Nat.le_of_ble_eq_true rfl | (dsimp only [zV, zVh, zVg, zrm]; omega) | omega) (by first | exact Nat.le_of_ble_eq_true rfl | (dsimp only [zV, zVh, zVg, zrm]; omega) | omega) (by first | exact Nat.le_of_ble_eq_true rfl | (dsimp only [zV, zVh, zVg, zrm]; omega) | omega) (by first | exact Nat.le_of_ble_eq_true rfl | (dsimp only [zV, zVh, zVg, zrm]; omega) | omega) (by first | exact Nat.le_of_ble_eq_true rfl | (dsimp only [zV, zVh, zVg, zrm]; omega) | omega) (s_J7_copyOf_59c91 (w := wW w A vs) (s := zS w) (N := (lwP B n 3 (nxP B n (nxP B n p))).2.2.length) G rfl (shRd_k8 hr) (shRd_n8 hr) (by omega) (by omega) (by omega) (fun w76 f76 j76 n76 a76 b76 c76 => ?_))
      refine r_astore2 dX5_readLaw_79 rfl ?_
      refine r_aloadR1 dX5_readLaw_80 ?_
      refine k_gets (ko.2.1 ("HOLDS", 4) (List.mem_of_getElem? (i := 3) rfl)) zg_RX5_140 dX5_readLaw_81 ?_
      refine r_acne (rx := some (ca 3)) (ry := some (ca 4)) (t := 98) dX5_readLaw_84 (by decide) (fun h84 => ?_) (fun h84 => False.elim (absurd (hinj 3 4 (by decide) (by decide) (Option.some.inj h84)) (by decide)))
      refine r_aloadR1 dX5_readLaw_98 ?_
      refine k_gets (ko.2.1 ("LIKES", 5) (List.mem_of_getElem? (i := 2) rfl)) zg_RX5_137 dX5_readLaw_99 ?_
      refine r_acne (rx := some (ca 3)) (ry := some (ca 5)) (t := 116) dX5_readLaw_102 (by decide) (fun h102 => ?_) (fun h102 => False.elim (absurd (hinj 3 5 (by decide) (by decide) (Option.some.inj h102)) (by decide)))
      refine r_aloadR0 dX5_readLaw_116 ?_
      refine m_getR (q := nq) zf_RX5_43 rfl dX5_readLaw_117 ((n76.2.2.2 A (by omega)).1.trans (shRd_k hr)) (by rw [(n76.2.2.2 A (by omega)).2.2]; exact shRd_p7 hr) ?_
      refine r_aloadR2 dX5_readLaw_120 ?_
      refine m_putP (q := zS w) zf_RX5_161 (by intro C T N h_z; cases h_z; rfl) rfl dX5_readLaw_121 (show zK w76 nq = 4 from (n76.2.2.2 nq (by omega)).1.trans hrd.1.1) ?_
      refine n_iconst dX5_readLaw_124 (by decide) (fun r124 e124 => ?_)
      refine m_zret dX5_readLaw_125 rfl (by omega) (by first | exact Nat.le_of_ble_eq_true rfl | (dsimp only [zV, zVh, zVg, zrm]; omega) | omega) (by first | exact Nat.le_of_ble_eq_true rfl | (dsimp only [zV, zVh, zVg, zrm]; omega) | omega) ?_
      have hp9 : zP w76 A = zP (wW w A vs) A := (n76.2.2.2 A (by omega)).2.2
      have hpn9 : zP w76 nq = zP (wW w A vs) nq := (n76.2.2.2 nq (by omega)).2.2
      obtain ⟨w3, hw3⟩ : ∃ w9, w9 = zsP w76 (zu (zP w76) nq 5 (some (zS w))) := ⟨_, rfl⟩
      rw [← hw3]
      have kw3 : ∀ q, zK w3 q = zK w76 q ∧ zN w3 q = zN w76 q := fun q => by rw [hw3]; exact ⟨rfl, rfl⟩
      have pw3 : ∀ q k, ¬ (q = nq ∧ k = 5) → zP w3 q k = zP w76 q k := fun q k h9 => by rw [hw3]; exact if_neg h9
      have pn3 : zP w3 nq 5 = some (zS w) := by rw [hw3]; exact zu_at
      have sw3 : zS w3 = zS w + 1 := by rw [hw3]; exact n76.1
      have hgr : grX A nq w w3 := by
        refine ⟨by omega, fun q hq => ?_, fun q k hq k6_z k7_z => ?_, fun q hq => (kw3 q).1.trans (n76.2.2.2 q (by omega)).1⟩
        · have h9 := n76.2.2.2 q (by omega)
          exact ⟨(kw3 q).1.trans h9.1, (kw3 q).2.trans h9.2.1⟩
        · rw [pw3 q k (by omega), (n76.2.2.2 q (by omega)).2.2]
          unfold wW
          show zu (zP w) A 6 vs q k = zP w q k
          unfold zu
          rw [if_neg k6_z]
      have hfx : frX A nq (zS w) f f76 j j76 := by
        have h9 := frX_M (nq := nq) (s := zS w) (j := j) ofs
        exact ⟨fun q a b c d e x => (a76 q (by omega)).trans (h9.1 q a b c d e x), by rw [a76 A (by omega)]; exact h9.2.1, fun q a => c76 q (by omega)⟩
      have htk3 : tkR ca B n f76 vs A (lwP B n 3 (nxP B n (nxP B n p))).2.1 := tkR_n ts (a76 A (by omega))
      have hv3 : la2P B n 3 t (lwP B n 3 (nxP B n (nxP B n p))) = fiP B n (stL 3 t (lwP B n 3 (nxP B n (nxP B n p))).2.2) (lwP B n 3 (nxP B n (nxP B n p))).2.1 := if_neg (not_not_intro hq)
      have hpa : zP w3 A 6 = vs := by
        rw [pw3 A 6 (by omega), hp9]
        exact zu_at
      have hrd3 : rdN w3 f76 nq (stL 3 t (lwP B n 3 (nxP B n (nxP B n p))).2.2) := by
        refine rdN_l (s := zS w) hrd rfl (by omega) sw3 (fun q hq => ?_) (fun k hk => ?_) pn3 ((kw3 _).1.trans n76.2.1) ((kw3 _).2.trans n76.2.2.1) (fun q o ho => ?_) (fun q h1 h2 => ?_)
        · have h9 := n76.2.2.2 q (by omega)
          exact ⟨(kw3 q).1.trans h9.1, (kw3 q).2.trans h9.2.1⟩
        · have hk9 : k ≠ 5 := hk
          rw [pw3 nq k (fun h9 => hk9 h9.2), hpn9]
          exact congrFun (zu_ne hne) k
        · have h8 := (List.getElem?_eq_some_iff.mp ho).1
          rw [b76 q h8]
          have h9 := ks.2.2 q o ho
          rw [Nat.zero_add] at h9
          exact h9
        · rw [a76 q (by omega)]
          exact ofs.1 q (Or.inr (by omega))
      have e9_z : zM w3 f76 j76 = zM (wW w3 A vs) f76 j76 := by
        rw [← hpa, wW_id]
      rw [e9_z]
      exact hQ _ w3 vs f76 j76 (lwP B n 3 (nxP B n (nxP B n p))).2.1 (lwP B n 3 (nxP B n (nxP B n p))).2.2 e124 hgr hfx htk3 hrd3 (hv2.trans hv3)
    · have hv3 : la2P B n 3 t (lwP B n 3 (nxP B n (nxP B n p))) = ((lwP B n 3 (nxP B n (nxP B n p))).1, (lwP B n 3 (nxP B n (nxP B n p))).2.1, t) := if_pos hq
      refine r_aloadR0 dX5_readLaw_0 ?_
      refine q_callV0 zm_RX5_73 dX5_readLaw_1 hr.1 (by decide) rfl (by first | exact Nat.le_of_ble_eq_true rfl | (dsimp only [zV, zVh, zVg, zrm]; omega) | omega) (by first | exact Nat.le_of_ble_eq_true rfl | (dsimp only [zV, zVh, zVg, zrm]; omega) | omega) (by first | exact Nat.le_of_ble_eq_true rfl | (dsimp only [zV, zVh, zVg, zrm]; omega) | omega) (by first | exact Nat.le_of_ble_eq_true rfl | (dsimp only [zV, zVh, zVg, zrm]; omega) | omega) (by first | exact Nat.le_of_ble_eq_true rfl | (dsimp only [zV, zVh, zVg, zrm]; omega) | omega) (s_X5_next (p := teP B n p) G hr kw ko htp htk.2.1 (teP_le htk.1) htk.2.2.2.2.2.2 (fun v1_z g1 o1 t1 => ?_))
      have t1 : tkR ca B n g1 v1_z A (nxP B n p) := t1
      have htp1 := tpR_of htp ht o1 (by decide)
      refine r_aloadR0 dX5_readLaw_4 ?_
      refine n_bipush dX5_readLaw_5 (by decide) (fun r5 e5_z => ?_)
      refine q_callV1 zm_RX5_102 dX5_readLaw_7 hr.1 (by decide) rfl (by first | exact Nat.le_of_ble_eq_true rfl | (dsimp only [zV, zVh, zVg, zrm]; omega) | omega) (by first | exact Nat.le_of_ble_eq_true rfl | (dsimp only [zV, zVh, zVg, zrm]; omega) | omega) (by first | exact Nat.le_of_ble_eq_true rfl | (dsimp only [zV, zVh, zVg, zrm]; omega) | omega) (by first | exact Nat.le_of_ble_eq_true rfl | (dsimp only [zV, zVh, zVg, zrm]; omega) | omega) (by first | exact Nat.le_of_ble_eq_true rfl | (dsimp only [zV, zVh, zVg, zrm]; omega) | omega) (s_X5_takeSign (s := nxP B n p) (c := 58) G hr kw ko htp1 e5_z t1 (fun r7 v7 g7 o7 a7 b7 => ?_))
      obtain ⟨d7, t7⟩ := a7 hc_z
      refine t_ifne (t := 15) dX5_readLaw_10 (by decide) (fun h10 => ?_) (fun h10 => False.elim (by omega))
      refine r_aloadR0 dX5_readLaw_15 ?_
      refine n_iconst dX5_readLaw_16 (by decide) (fun r16 e16_z => ?_)
      refine m_putI zf_RX5_51 (by intro C T N h_z; cases h_z; rfl) rfl dX5_readLaw_17 hr.1 ?_
      obtain ⟨g17, hg17⟩ : ∃ g9, g9 = zu g7 A 9 r16 := ⟨_, rfl⟩
      rw [← hg17]
      have og17 : frM A [] [9] g7 g17 := by rw [hg17]; exact frM_zk frM_rf (by decide)
      have vg17 : g17 A 9 = r16 := by rw [hg17]; exact zu_at
      have vt17 : (g17 A 9).toInt = r16.toInt := by rw [vg17]
      refine r_aloadR0 dX5_readLaw_20 ?_
      refine r_aloadR1 dX5_readLaw_21 ?_
      refine k_gets (ko.2.1 ("LIKES", 5) (List.mem_of_getElem? (i := 2) rfl)) zg_RX5_137 dX5_readLaw_22 ?_
      refine r_acne (rx := some (ca 3)) (ry := some (ca 5)) (t := 32) dX5_readLaw_25 (by decide) (fun h25 => ?_) (fun h25 => False.elim (absurd (hinj 3 5 (by decide) (by decide) (Option.some.inj h25)) (by decide)))
      refine n_iconst dX5_readLaw_32 (by decide) (fun r32 e32 => ?_)
      refine m_putZ zf_RX5_54 (by intro C T N h_z; cases h_z; rfl) rfl (by omega) dX5_readLaw_33 hr.1 ?_
      obtain ⟨g33, hg33⟩ : ∃ g9, g9 = zu g17 A 10 r32 := ⟨_, rfl⟩
      rw [← hg33]
      have og33 : frM A [] [10] g17 g33 := by rw [hg33]; exact frM_zk frM_rf (by decide)
      have vg33 : g33 A 10 = r32 := by rw [hg33]; exact zu_at
      have vt33 : (g33 A 10).toInt = r32.toInt := by rw [vg33]
      have t33 := tkR_of (tkR_of t7 og17 (by decide) (by decide) (by decide) (by decide)) og33 (by decide) (by decide) (by decide) (by decide)
      have htp33 := tpR_of (tpR_of (tpR_of htp1 ht o7 (by decide)) ht og17 (by decide)) ht og33 (by decide)
      refine r_aloadR1 dX5_readLaw_36 ?_
      refine k_gets (ko.2.1 ("HOLDS", 4) (List.mem_of_getElem? (i := 3) rfl)) zg_RX5_140 dX5_readLaw_37 ?_
      refine r_acne (rx := some (ca 3)) (ry := some (ca 4)) (t := 54) dX5_readLaw_40 (by decide) (fun h40 => ?_) (fun h40 => False.elim (absurd (hinj 3 4 (by decide) (by decide) (Option.some.inj h40)) (by decide)))
      refine r_aloadR0 dX5_readLaw_54 ?_
      refine n_iconst dX5_readLaw_55 (by decide) (fun r55 e55 => ?_)
      refine q_callV1 zm_RX5_146 dX5_readLaw_56 hr.1 (by decide) rfl (by first | exact Nat.le_of_ble_eq_true rfl | (dsimp only [zV, zVh, zVg, zrm]; omega) | omega) (by first | exact Nat.le_of_ble_eq_true rfl | (dsimp only [zV, zVh, zVg, zrm]; omega) | omega) (by first | exact Nat.le_of_ble_eq_true rfl | (dsimp only [zV, zVh, zVg, zrm]; omega) | omega) (by first | exact Nat.le_of_ble_eq_true rfl | (dsimp only [zV, zVh, zVg, zrm]; omega) | omega) (by first | exact Nat.le_of_ble_eq_true rfl | (dsimp only [zV, zVh, zVg, zrm]; omega) | omega) (s_X5_readSum_6 (lm := 3) (u := 0) (p := nxP B n (nxP B n p)) G hr kw ko htp33 t33 e55 (by rw [vt33]; omega) (by rw [og33.2.2 9 (by decide), vt17]; omega) (Nat.zero_le _) (fun rs vs gs os as bs9 => ?_))
      have as2 : (lwP B n 3 (nxP B n (nxP B n p))).1 = 0 → rs.toInt = 1 ∧ tkR ca B n gs vs A (lwP B n 3 (nxP B n (nxP B n p))).2.1 ∧ okR g33 gs A 0 (lwP B n 3 (nxP B n (nxP B n p))).2.2 := by rw [hlw9]; exact as
      have bs2 : (lwP B n 3 (nxP B n (nxP B n p))).1 ≠ 0 → rs.toInt = 0 ∧ flR gs A (lwP B n 3 (nxP B n (nxP B n p))).1 (lwP B n 3 (nxP B n (nxP B n p))).2.1 := by rw [hlw9]; exact bs9
      clear as bs9
      have ofs : frM A [8] [2, 3, 4, 5, 9, 10, 11, 12] f gs := frM_tr (frM_tr (frM_su o1 (by decide) (by decide)) (frM_su o7 (by decide) (by decide))) (frM_tr (frM_tr (frM_su og17 (by decide) (by decide)) (frM_su og33 (by decide) (by decide))) (frM_su os (by decide) (by decide)))
      obtain ⟨ds, ls9⟩ := bs2 hq
      refine t_ifne (t := 64) dX5_readLaw_59 (by decide) (fun h59 => False.elim (by omega)) (fun h59 => ?_)
      refine n_iconst dX5_readLaw_62 (by decide) (fun r62 e62 => ?_)
      refine m_zret dX5_readLaw_63 rfl (by omega) (by first | exact Nat.le_of_ble_eq_true rfl | (dsimp only [zV, zVh, zVg, zrm]; omega) | omega) (by first | exact Nat.le_of_ble_eq_true rfl | (dsimp only [zV, zVh, zVg, zrm]; omega) | omega) ?_
      exact hQ0 _ vs gs _ _ e62 (frX_M ofs) ls9 hq (hv2.trans hv3)
  · have hv2 : laP B n 3 t p = (baP B n (nxP B n p), nxP B n p, t) := if_neg hc_z
    refine r_aloadR0 dX5_readLaw_0 ?_
    refine q_callV0 zm_RX5_73 dX5_readLaw_1 hr.1 (by decide) rfl (by first | exact Nat.le_of_ble_eq_true rfl | (dsimp only [zV, zVh, zVg, zrm]; omega) | omega) (by first | exact Nat.le_of_ble_eq_true rfl | (dsimp only [zV, zVh, zVg, zrm]; omega) | omega) (by first | exact Nat.le_of_ble_eq_true rfl | (dsimp only [zV, zVh, zVg, zrm]; omega) | omega) (by first | exact Nat.le_of_ble_eq_true rfl | (dsimp only [zV, zVh, zVg, zrm]; omega) | omega) (by first | exact Nat.le_of_ble_eq_true rfl | (dsimp only [zV, zVh, zVg, zrm]; omega) | omega) (s_X5_next (p := teP B n p) G hr kw ko htp htk.2.1 (teP_le htk.1) htk.2.2.2.2.2.2 (fun v1_z g1 o1 t1 => ?_))
    have t1 : tkR ca B n g1 v1_z A (nxP B n p) := t1
    have htp1 := tpR_of htp ht o1 (by decide)
    refine r_aloadR0 dX5_readLaw_4 ?_
    refine n_bipush dX5_readLaw_5 (by decide) (fun r5 e5_z => ?_)
    refine q_callV1 zm_RX5_102 dX5_readLaw_7 hr.1 (by decide) rfl (by first | exact Nat.le_of_ble_eq_true rfl | (dsimp only [zV, zVh, zVg, zrm]; omega) | omega) (by first | exact Nat.le_of_ble_eq_true rfl | (dsimp only [zV, zVh, zVg, zrm]; omega) | omega) (by first | exact Nat.le_of_ble_eq_true rfl | (dsimp only [zV, zVh, zVg, zrm]; omega) | omega) (by first | exact Nat.le_of_ble_eq_true rfl | (dsimp only [zV, zVh, zVg, zrm]; omega) | omega) (by first | exact Nat.le_of_ble_eq_true rfl | (dsimp only [zV, zVh, zVg, zrm]; omega) | omega) (s_X5_takeSign (s := nxP B n p) (c := 58) G hr kw ko htp1 e5_z t1 (fun r7 v7 g7 o7 a7 b7 => ?_))
    obtain ⟨d7, l7⟩ := b7 hc_z
    refine t_ifne (t := 15) dX5_readLaw_10 (by decide) (fun h10 => False.elim (by omega)) (fun h10 => ?_)
    refine n_iconst dX5_readLaw_13 (by decide) (fun r13 e13_z => ?_)
    refine m_zret dX5_readLaw_14 rfl (by omega) (by first | exact Nat.le_of_ble_eq_true rfl | (dsimp only [zV, zVh, zVg, zrm]; omega) | omega) (by first | exact Nat.le_of_ble_eq_true rfl | (dsimp only [zV, zVh, zVg, zrm]; omega) | omega) ?_
    exact hQ0 _ v7 g7 _ _ e13_z (frX_M (frM_tr (frM_su o1 (by decide) (by decide)) (frM_su o7 (by decide) (by decide)))) l7 ba_bd.1 hv2
set_option maxHeartbeats 4000000 in
set_option maxRecDepth 100000 in
theorem s_X5_readLaw_4 {g : zGT} {w : zW} {f : Nat → Nat → Int32} {j : Nat → Nat → Int64} {A tq nq : Nat} {v : Option Nat} {B : Nat → Nat} {n : Nat} {ca wa wv : Nat → Nat} {kq ta sm gq gv : Nat} {p : Nat} {t : zNl} {bs : Nat} {Q : Option Value → zW → Prop} {QX : String → zW → Prop} (G : zGok g) (hr : shRd w A tq nq) (kw : kWd g wa wv kq) (ko : kWo g ca wa wv ta sm gq gv) (htp : tpR B n f A tq) (htk : tkR ca B n f v A p) (hpn : p < n) (hrd : rdN w f nq t) (hq2 : A + 21 ≤ nq) (hbs : tkP B n (nxP B n p) = 58 → (lwP B n 4 (nxP B n (nxP B n p))).1 = 0 → (lwP B n 4 (nxP B n (nxP B n p))).2.2.length ≤ bs) (hQ0 : ∀ (b : Int32) v2 f2_z e q, b.toInt = 0 → frX A nq (zS w) f f2_z j j → flR f2_z A e q → e ≠ 0 → laP B n 4 t p = (e, q, t) → Q (some (.int b)) (zM (wW w A v2) f2_z j)) (hQ : ∀ (b : Int32) w2 v2 f2_z j2 q c, b.toInt = 1 → grX A nq w w2 → frX A nq (zS w) f f2_z j j2 → tkR ca B n f2_z v2 A q → rdN w2 f2_z nq (stL 4 t c) → laP B n 4 t p = fiP B n (stL 4 t c) q → Q (some (.int b)) (zM (wW w2 A v2) f2_z j2)) : zC g 70 yX5_readLaw cX5_readLaw 3 (some .boolean) [.ref A, .ref (ca 4)] (zM (wW w A v) f j) (1, bs) Q QX := by
  refine zC_of G (by decide +kernel) (Nat.le_of_ble_eq_true rfl) ?_
  have ht := shRd_t hr
  have hnx := nxP_gt (B := B) hpn
  have hne : nq ≠ A := by omega
  have h900 := htp.2.1
  have hinj := ko.1
  have hsq : nq + 3 ≤ zS w := hrd.2.2.1
  by_cases hc_z : tkP B n (nxP B n p) = 58
  · have hl2 := tk_lt (B := B) (n := n) (s := nxP B n p) (by rw [hc_z]; decide)
    have hnx2 := nxP_gt (B := B) hl2
    have hv2 : laP B n 4 t p = la2P B n 4 t (lwP B n 4 (nxP B n (nxP B n p))) := if_pos hc_z
    have hlw9 : (lwP B n 4 (nxP B n (nxP B n p))) = trP B n 6 6 (nxP B n (nxP B n p)) := if_pos rfl
    by_cases hq : (lwP B n 4 (nxP B n (nxP B n p))).1 = 0
    · obtain ⟨y1, y2, y3⟩ := lw_gt (B := B) (n := n) (i := 4) hnx2.2 hq
      have hb9 := hbs hc_z hq
      refine r_aloadR0 dX5_readLaw_0 ?_
      refine q_callV0 zm_RX5_73 dX5_readLaw_1 hr.1 (by decide) rfl (by first | exact Nat.le_of_ble_eq_true rfl | (dsimp only [zV, zVh, zVg, zrm]; omega) | omega) (by first | exact Nat.le_of_ble_eq_true rfl | (dsimp only [zV, zVh, zVg, zrm]; omega) | omega) (by first | exact Nat.le_of_ble_eq_true rfl | (dsimp only [zV, zVh, zVg, zrm]; omega) | omega) (by first | exact Nat.le_of_ble_eq_true rfl | (dsimp only [zV, zVh, zVg, zrm]; omega) | omega) (by first | exact Nat.le_of_ble_eq_true rfl | (dsimp only [zV, zVh, zVg, zrm]; omega) | omega) (s_X5_next (p := teP B n p) G hr kw ko htp htk.2.1 (teP_le htk.1) htk.2.2.2.2.2.2 (fun v1_z g1 o1 t1 => ?_))
      have t1 : tkR ca B n g1 v1_z A (nxP B n p) := t1
      have htp1 := tpR_of htp ht o1 (by decide)
      refine r_aloadR0 dX5_readLaw_4 ?_
      refine n_bipush dX5_readLaw_5 (by decide) (fun r5 e5_z => ?_)
      refine q_callV1 zm_RX5_102 dX5_readLaw_7 hr.1 (by decide) rfl (by first | exact Nat.le_of_ble_eq_true rfl | (dsimp only [zV, zVh, zVg, zrm]; omega) | omega) (by first | exact Nat.le_of_ble_eq_true rfl | (dsimp only [zV, zVh, zVg, zrm]; omega) | omega) (by first | exact Nat.le_of_ble_eq_true rfl | (dsimp only [zV, zVh, zVg, zrm]; omega) | omega) (by first | exact Nat.le_of_ble_eq_true rfl | (dsimp only [zV, zVh, zVg, zrm]; omega) | omega) (by first | exact Nat.le_of_ble_eq_true rfl | (dsimp only [zV, zVh, zVg, zrm]; omega) | omega) (s_X5_takeSign (s := nxP B n p) (c := 58) G hr kw ko htp1 e5_z t1 (fun r7 v7 g7 o7 a7 b7 => ?_))
      obtain ⟨d7, t7⟩ := a7 hc_z
      refine t_ifne (t := 15) dX5_readLaw_10 (by decide) (fun h10 => ?_) (fun h10 => False.elim (by omega))
      refine r_aloadR0 dX5_readLaw_15 ?_
      refine n_iconst dX5_readLaw_16 (by decide) (fun r16 e16_z => ?_)
      refine m_putI zf_RX5_51 (by intro C T N h_z; cases h_z; rfl) rfl dX5_readLaw_17 hr.1 ?_
      obtain ⟨g17, hg17⟩ : ∃ g9, g9 = zu g7 A 9 r16 := ⟨_, rfl⟩
      rw [← hg17]
      have og17 : frM A [] [9] g7 g17 := by rw [hg17]; exact frM_zk frM_rf (by decide)
      have vg17 : g17 A 9 = r16 := by rw [hg17]; exact zu_at
      have vt17 : (g17 A 9).toInt = r16.toInt := by rw [vg17]
      refine r_aloadR0 dX5_readLaw_20 ?_
      refine r_aloadR1 dX5_readLaw_21 ?_
      refine k_gets (ko.2.1 ("LIKES", 5) (List.mem_of_getElem? (i := 2) rfl)) zg_RX5_137 dX5_readLaw_22 ?_
      refine r_acne (rx := some (ca 4)) (ry := some (ca 5)) (t := 32) dX5_readLaw_25 (by decide) (fun h25 => ?_) (fun h25 => False.elim (absurd (hinj 4 5 (by decide) (by decide) (Option.some.inj h25)) (by decide)))
      refine n_iconst dX5_readLaw_32 (by decide) (fun r32 e32 => ?_)
      refine m_putZ zf_RX5_54 (by intro C T N h_z; cases h_z; rfl) rfl (by omega) dX5_readLaw_33 hr.1 ?_
      obtain ⟨g33, hg33⟩ : ∃ g9, g9 = zu g17 A 10 r32 := ⟨_, rfl⟩
      rw [← hg33]
      have og33 : frM A [] [10] g17 g33 := by rw [hg33]; exact frM_zk frM_rf (by decide)
      have vg33 : g33 A 10 = r32 := by rw [hg33]; exact zu_at
      have vt33 : (g33 A 10).toInt = r32.toInt := by rw [vg33]
      have t33 := tkR_of (tkR_of t7 og17 (by decide) (by decide) (by decide) (by decide)) og33 (by decide) (by decide) (by decide) (by decide)
      have htp33 := tpR_of (tpR_of (tpR_of htp1 ht o7 (by decide)) ht og17 (by decide)) ht og33 (by decide)
      refine r_aloadR1 dX5_readLaw_36 ?_
      refine k_gets (ko.2.1 ("HOLDS", 4) (List.mem_of_getElem? (i := 3) rfl)) zg_RX5_140 dX5_readLaw_37 ?_
      refine r_acne (rx := some (ca 4)) (ry := some (ca 4)) (t := 54) dX5_readLaw_40 (by decide) (fun h40 => False.elim (h40 rfl)) (fun h40 => ?_)
      refine r_aloadR0 dX5_readLaw_43 ?_
      refine n_iconst dX5_readLaw_44 (by decide) (fun r44 e44 => ?_)
      refine q_callV1 zm_RX5_143 dX5_readLaw_45 hr.1 (by decide) rfl (by first | exact Nat.le_of_ble_eq_true rfl | (dsimp only [zV, zVh, zVg, zrm]; omega) | omega) (by first | exact Nat.le_of_ble_eq_true rfl | (dsimp only [zV, zVh, zVg, zrm]; omega) | omega) (by first | exact Nat.le_of_ble_eq_true rfl | (dsimp only [zV, zVh, zVg, zrm]; omega) | omega) (by first | exact Nat.le_of_ble_eq_true rfl | (dsimp only [zV, zVh, zVg, zrm]; omega) | omega) (by first | exact Nat.le_of_ble_eq_true rfl | (dsimp only [zV, zVh, zVg, zrm]; omega) | omega) (s_X5_readTruth_6 (lm := 4) (u := 0) (p := nxP B n (nxP B n p)) G hr kw ko htp33 t33 e44 (by rw [vt33]; omega) (by rw [og33.2.2 9 (by decide), vt17]; omega) (Nat.zero_le _) (fun rs vs gs os as bs9 => ?_))
      rw [show (if (4 : Nat) = 5 then 8 else 6) = 6 from if_neg (by decide)] at as bs9
      have as2 : (lwP B n 4 (nxP B n (nxP B n p))).1 = 0 → rs.toInt = 1 ∧ tkR ca B n gs vs A (lwP B n 4 (nxP B n (nxP B n p))).2.1 ∧ okR g33 gs A 0 (lwP B n 4 (nxP B n (nxP B n p))).2.2 := by rw [hlw9]; exact as
      have bs2 : (lwP B n 4 (nxP B n (nxP B n p))).1 ≠ 0 → rs.toInt = 0 ∧ flR gs A (lwP B n 4 (nxP B n (nxP B n p))).1 (lwP B n 4 (nxP B n (nxP B n p))).2.1 := by rw [hlw9]; exact bs9
      clear as bs9
      have ofs : frM A [8] [2, 3, 4, 5, 9, 10, 11, 12] f gs := frM_tr (frM_tr (frM_su o1 (by decide) (by decide)) (frM_su o7 (by decide) (by decide))) (frM_tr (frM_tr (frM_su og17 (by decide) (by decide)) (frM_su og33 (by decide) (by decide))) (frM_su os (by decide) (by decide)))
      obtain ⟨ds, ts, ks⟩ := as2 hq
      have hus : (gs A 9).toInt = ((lwP B n 4 (nxP B n (nxP B n p))).2.2.length : Nat) := by have := ks.1; omega
      refine t_ifeq (t := 62) dX5_readLaw_48 (by decide) (fun h48 => False.elim (by omega)) (fun h48 => ?_)
      refine r_goto (t := 64) dX5_readLaw_51 (by decide) ?_
      refine r_aloadR0 dX5_readLaw_64 ?_
      refine m_getR (q := (A + 8)) zf_RX5_47 rfl dX5_readLaw_65 hr.1 (shRd_p8 hr) ?_
      refine n_iconst dX5_readLaw_68 (by decide) (fun r68 e68 => ?_)
      refine r_aloadR0 dX5_readLaw_69 ?_
      refine m_getV (x := (gs A 9)) zf_RX5_51 rfl dX5_readLaw_70 hr.1 (rfl) ?_
      refine r_mmax zm_RX5_70 dX5_readLaw_73 (by first | exact Nat.le_of_ble_eq_true rfl | (dsimp only [zV, zVh, zVg, zrm]; omega) | omega) (by first | exact Nat.le_of_ble_eq_true rfl | (dsimp only [zV, zVh, zVg, zrm]; omega) | omega) (by first | exact Nat.le_of_ble_eq_true rfl | (dsimp only [zV, zVh, zVg, zrm]; omega) | omega) (by first | exact Nat.le_of_ble_eq_true rfl | (dsimp only [zV, zVh, zVg, zrm]; omega) | omega) (by first | exact Nat.le_of_ble_eq_true rfl | (dsimp only [zV, zVh, zVg, zrm]; omega) | omega) (fun r73 e73 => ?_)
      refine q_callS2 zm_RX5_149 dX5_readLaw_76 (by first | exact Nat.le_of_ble_eq_true rfl | (dsimp only [zV, zVh, zVg, zrm]; omega) | omega) (by first | exact Nat.le_of_ble_eq_true rfl | (dsimp only [zV, zVh, zVg, zrm]; omega) | omega) (by first | exact Nat.le_of_ble_eq_true rfl | (dsimp only [zV, zVh, zVg, zrm]; omega) | omega) (by first | exact Nat.le_of_ble_eq_true rfl | (dsimp only [zV, zVh, zVg, zrm]; omega) | omega) (by first | exact Nat.le_of_ble_eq_true rfl | (dsimp only [zV, zVh, zVg, zrm]; omega) | omega) (s_J7_copyOf_59c91 (w := wW w A vs) (s := zS w) (N := (lwP B n 4 (nxP B n (nxP B n p))).2.2.length) G rfl (shRd_k8 hr) (shRd_n8 hr) (by omega) (by omega) (by omega) (fun w76 f76 j76 n76 a76 b76 c76 => ?_))
      refine r_astore2 dX5_readLaw_79 rfl ?_
      refine r_aloadR1 dX5_readLaw_80 ?_
      refine k_gets (ko.2.1 ("HOLDS", 4) (List.mem_of_getElem? (i := 3) rfl)) zg_RX5_140 dX5_readLaw_81 ?_
      refine r_acne (rx := some (ca 4)) (ry := some (ca 4)) (t := 98) dX5_readLaw_84 (by decide) (fun h84 => False.elim (h84 rfl)) (fun h84 => ?_)
      refine r_aloadR0 dX5_readLaw_87 ?_
      refine m_getR (q := nq) zf_RX5_43 rfl dX5_readLaw_88 ((n76.2.2.2 A (by omega)).1.trans (shRd_k hr)) (by rw [(n76.2.2.2 A (by omega)).2.2]; exact shRd_p7 hr) ?_
      refine r_aloadR2 dX5_readLaw_91 ?_
      refine m_putP (q := zS w) zf_RX5_155 (by intro C T N h_z; cases h_z; rfl) rfl dX5_readLaw_92 (show zK w76 nq = 4 from (n76.2.2.2 nq (by omega)).1.trans hrd.1.1) ?_
      refine r_goto (t := 124) dX5_readLaw_95 (by decide) ?_
      refine n_iconst dX5_readLaw_124 (by decide) (fun r124 e124 => ?_)
      refine m_zret dX5_readLaw_125 rfl (by omega) (by first | exact Nat.le_of_ble_eq_true rfl | (dsimp only [zV, zVh, zVg, zrm]; omega) | omega) (by first | exact Nat.le_of_ble_eq_true rfl | (dsimp only [zV, zVh, zVg, zrm]; omega) | omega) ?_
      have hp9 : zP w76 A = zP (wW w A vs) A := (n76.2.2.2 A (by omega)).2.2
      have hpn9 : zP w76 nq = zP (wW w A vs) nq := (n76.2.2.2 nq (by omega)).2.2
      obtain ⟨w3, hw3⟩ : ∃ w9, w9 = zsP w76 (zu (zP w76) nq 6 (some (zS w))) := ⟨_, rfl⟩
      rw [← hw3]
      have kw3 : ∀ q, zK w3 q = zK w76 q ∧ zN w3 q = zN w76 q := fun q => by rw [hw3]; exact ⟨rfl, rfl⟩
      have pw3 : ∀ q k, ¬ (q = nq ∧ k = 6) → zP w3 q k = zP w76 q k := fun q k h9 => by rw [hw3]; exact if_neg h9
      have pn3 : zP w3 nq 6 = some (zS w) := by rw [hw3]; exact zu_at
      have sw3 : zS w3 = zS w + 1 := by rw [hw3]; exact n76.1
      have hgr : grX A nq w w3 := by
        refine ⟨by omega, fun q hq => ?_, fun q k hq k6_z k7_z => ?_, fun q hq => (kw3 q).1.trans (n76.2.2.2 q (by omega)).1⟩
        · have h9 := n76.2.2.2 q (by omega)
          exact ⟨(kw3 q).1.trans h9.1, (kw3 q).2.trans h9.2.1⟩
        · rw [pw3 q k (by omega), (n76.2.2.2 q (by omega)).2.2]
          unfold wW
          show zu (zP w) A 6 vs q k = zP w q k
          unfold zu
          rw [if_neg k6_z]
      have hfx : frX A nq (zS w) f f76 j j76 := by
        have h9 := frX_M (nq := nq) (s := zS w) (j := j) ofs
        exact ⟨fun q a b c d e x => (a76 q (by omega)).trans (h9.1 q a b c d e x), by rw [a76 A (by omega)]; exact h9.2.1, fun q a => c76 q (by omega)⟩
      have htk3 : tkR ca B n f76 vs A (lwP B n 4 (nxP B n (nxP B n p))).2.1 := tkR_n ts (a76 A (by omega))
      have hv3 : la2P B n 4 t (lwP B n 4 (nxP B n (nxP B n p))) = fiP B n (stL 4 t (lwP B n 4 (nxP B n (nxP B n p))).2.2) (lwP B n 4 (nxP B n (nxP B n p))).2.1 := if_neg (not_not_intro hq)
      have hpa : zP w3 A 6 = vs := by
        rw [pw3 A 6 (by omega), hp9]
        exact zu_at
      have hrd3 : rdN w3 f76 nq (stL 4 t (lwP B n 4 (nxP B n (nxP B n p))).2.2) := by
        refine rdN_l (s := zS w) hrd rfl (by omega) sw3 (fun q hq => ?_) (fun k hk => ?_) pn3 ((kw3 _).1.trans n76.2.1) ((kw3 _).2.trans n76.2.2.1) (fun q o ho => ?_) (fun q h1 h2 => ?_)
        · have h9 := n76.2.2.2 q (by omega)
          exact ⟨(kw3 q).1.trans h9.1, (kw3 q).2.trans h9.2.1⟩
        · have hk9 : k ≠ 6 := hk
          rw [pw3 nq k (fun h9 => hk9 h9.2), hpn9]
          exact congrFun (zu_ne hne) k
        · have h8 := (List.getElem?_eq_some_iff.mp ho).1
          rw [b76 q h8]
          have h9 := ks.2.2 q o ho
          rw [Nat.zero_add] at h9
          exact h9
        · rw [a76 q (by omega)]
          exact ofs.1 q (Or.inr (by omega))
      have e9_z : zM w3 f76 j76 = zM (wW w3 A vs) f76 j76 := by
        rw [← hpa, wW_id]
      rw [e9_z]
      exact hQ _ w3 vs f76 j76 (lwP B n 4 (nxP B n (nxP B n p))).2.1 (lwP B n 4 (nxP B n (nxP B n p))).2.2 e124 hgr hfx htk3 hrd3 (hv2.trans hv3)
    · have hv3 : la2P B n 4 t (lwP B n 4 (nxP B n (nxP B n p))) = ((lwP B n 4 (nxP B n (nxP B n p))).1, (lwP B n 4 (nxP B n (nxP B n p))).2.1, t) := if_pos hq
      refine r_aloadR0 dX5_readLaw_0 ?_
      refine q_callV0 zm_RX5_73 dX5_readLaw_1 hr.1 (by decide) rfl (by first | exact Nat.le_of_ble_eq_true rfl | (dsimp only [zV, zVh, zVg, zrm]; omega) | omega) (by first | exact Nat.le_of_ble_eq_true rfl | (dsimp only [zV, zVh, zVg, zrm]; omega) | omega) (by first | exact Nat.le_of_ble_eq_true rfl | (dsimp only [zV, zVh, zVg, zrm]; omega) | omega) (by first | exact Nat.le_of_ble_eq_true rfl | (dsimp only [zV, zVh, zVg, zrm]; omega) | omega) (by first | exact Nat.le_of_ble_eq_true rfl | (dsimp only [zV, zVh, zVg, zrm]; omega) | omega) (s_X5_next (p := teP B n p) G hr kw ko htp htk.2.1 (teP_le htk.1) htk.2.2.2.2.2.2 (fun v1_z g1 o1 t1 => ?_))
      have t1 : tkR ca B n g1 v1_z A (nxP B n p) := t1
      have htp1 := tpR_of htp ht o1 (by decide)
      refine r_aloadR0 dX5_readLaw_4 ?_
      refine n_bipush dX5_readLaw_5 (by decide) (fun r5 e5_z => ?_)
      refine q_callV1 zm_RX5_102 dX5_readLaw_7 hr.1 (by decide) rfl (by first | exact Nat.le_of_ble_eq_true rfl | (dsimp only [zV, zVh, zVg, zrm]; omega) | omega) (by first | exact Nat.le_of_ble_eq_true rfl | (dsimp only [zV, zVh, zVg, zrm]; omega) | omega) (by first | exact Nat.le_of_ble_eq_true rfl | (dsimp only [zV, zVh, zVg, zrm]; omega) | omega) (by first | exact Nat.le_of_ble_eq_true rfl | (dsimp only [zV, zVh, zVg, zrm]; omega) | omega) (by first | exact Nat.le_of_ble_eq_true rfl | (dsimp only [zV, zVh, zVg, zrm]; omega) | omega) (s_X5_takeSign (s := nxP B n p) (c := 58) G hr kw ko htp1 e5_z t1 (fun r7 v7 g7 o7 a7 b7 => ?_))
      obtain ⟨d7, t7⟩ := a7 hc_z
      refine t_ifne (t := 15) dX5_readLaw_10 (by decide) (fun h10 => ?_) (fun h10 => False.elim (by omega))
      refine r_aloadR0 dX5_readLaw_15 ?_
      refine n_iconst dX5_readLaw_16 (by decide) (fun r16 e16_z => ?_)
      refine m_putI zf_RX5_51 (by intro C T N h_z; cases h_z; rfl) rfl dX5_readLaw_17 hr.1 ?_
      obtain ⟨g17, hg17⟩ : ∃ g9, g9 = zu g7 A 9 r16 := ⟨_, rfl⟩
      rw [← hg17]
      have og17 : frM A [] [9] g7 g17 := by rw [hg17]; exact frM_zk frM_rf (by decide)
      have vg17 : g17 A 9 = r16 := by rw [hg17]; exact zu_at
      have vt17 : (g17 A 9).toInt = r16.toInt := by rw [vg17]
      refine r_aloadR0 dX5_readLaw_20 ?_
      refine r_aloadR1 dX5_readLaw_21 ?_
      refine k_gets (ko.2.1 ("LIKES", 5) (List.mem_of_getElem? (i := 2) rfl)) zg_RX5_137 dX5_readLaw_22 ?_
      refine r_acne (rx := some (ca 4)) (ry := some (ca 5)) (t := 32) dX5_readLaw_25 (by decide) (fun h25 => ?_) (fun h25 => False.elim (absurd (hinj 4 5 (by decide) (by decide) (Option.some.inj h25)) (by decide)))
      refine n_iconst dX5_readLaw_32 (by decide) (fun r32 e32 => ?_)
      refine m_putZ zf_RX5_54 (by intro C T N h_z; cases h_z; rfl) rfl (by omega) dX5_readLaw_33 hr.1 ?_
      obtain ⟨g33, hg33⟩ : ∃ g9, g9 = zu g17 A 10 r32 := ⟨_, rfl⟩
      rw [← hg33]
      have og33 : frM A [] [10] g17 g33 := by rw [hg33]; exact frM_zk frM_rf (by decide)
      have vg33 : g33 A 10 = r32 := by rw [hg33]; exact zu_at
      have vt33 : (g33 A 10).toInt = r32.toInt := by rw [vg33]
      have t33 := tkR_of (tkR_of t7 og17 (by decide) (by decide) (by decide) (by decide)) og33 (by decide) (by decide) (by decide) (by decide)
      have htp33 := tpR_of (tpR_of (tpR_of htp1 ht o7 (by decide)) ht og17 (by decide)) ht og33 (by decide)
      refine r_aloadR1 dX5_readLaw_36 ?_
      refine k_gets (ko.2.1 ("HOLDS", 4) (List.mem_of_getElem? (i := 3) rfl)) zg_RX5_140 dX5_readLaw_37 ?_
      refine r_acne (rx := some (ca 4)) (ry := some (ca 4)) (t := 54) dX5_readLaw_40 (by decide) (fun h40 => False.elim (h40 rfl)) (fun h40 => ?_)
      refine r_aloadR0 dX5_readLaw_43 ?_
      refine n_iconst dX5_readLaw_44 (by decide) (fun r44 e44 => ?_)
      refine q_callV1 zm_RX5_143 dX5_readLaw_45 hr.1 (by decide) rfl (by first | exact Nat.le_of_ble_eq_true rfl | (dsimp only [zV, zVh, zVg, zrm]; omega) | omega) (by first | exact Nat.le_of_ble_eq_true rfl | (dsimp only [zV, zVh, zVg, zrm]; omega) | omega) (by first | exact Nat.le_of_ble_eq_true rfl | (dsimp only [zV, zVh, zVg, zrm]; omega) | omega) (by first | exact Nat.le_of_ble_eq_true rfl | (dsimp only [zV, zVh, zVg, zrm]; omega) | omega) (by first | exact Nat.le_of_ble_eq_true rfl | (dsimp only [zV, zVh, zVg, zrm]; omega) | omega) (s_X5_readTruth_6 (lm := 4) (u := 0) (p := nxP B n (nxP B n p)) G hr kw ko htp33 t33 e44 (by rw [vt33]; omega) (by rw [og33.2.2 9 (by decide), vt17]; omega) (Nat.zero_le _) (fun rs vs gs os as bs9 => ?_))
      rw [show (if (4 : Nat) = 5 then 8 else 6) = 6 from if_neg (by decide)] at as bs9
      have as2 : (lwP B n 4 (nxP B n (nxP B n p))).1 = 0 → rs.toInt = 1 ∧ tkR ca B n gs vs A (lwP B n 4 (nxP B n (nxP B n p))).2.1 ∧ okR g33 gs A 0 (lwP B n 4 (nxP B n (nxP B n p))).2.2 := by rw [hlw9]; exact as
      have bs2 : (lwP B n 4 (nxP B n (nxP B n p))).1 ≠ 0 → rs.toInt = 0 ∧ flR gs A (lwP B n 4 (nxP B n (nxP B n p))).1 (lwP B n 4 (nxP B n (nxP B n p))).2.1 := by rw [hlw9]; exact bs9
      clear as bs9
      have ofs : frM A [8] [2, 3, 4, 5, 9, 10, 11, 12] f gs := frM_tr (frM_tr (frM_su o1 (by decide) (by decide)) (frM_su o7 (by decide) (by decide))) (frM_tr (frM_tr (frM_su og17 (by decide) (by decide)) (frM_su og33 (by decide) (by decide))) (frM_su os (by decide) (by decide)))
      obtain ⟨ds, ls9⟩ := bs2 hq
      refine t_ifeq (t := 62) dX5_readLaw_48 (by decide) (fun h48 => ?_) (fun h48 => False.elim (by omega))
      refine n_iconst dX5_readLaw_62 (by decide) (fun r62 e62 => ?_)
      refine m_zret dX5_readLaw_63 rfl (by omega) (by first | exact Nat.le_of_ble_eq_true rfl | (dsimp only [zV, zVh, zVg, zrm]; omega) | omega) (by first | exact Nat.le_of_ble_eq_true rfl | (dsimp only [zV, zVh, zVg, zrm]; omega) | omega) ?_
      exact hQ0 _ vs gs _ _ e62 (frX_M ofs) ls9 hq (hv2.trans hv3)
  · have hv2 : laP B n 4 t p = (baP B n (nxP B n p), nxP B n p, t) := if_neg hc_z
    refine r_aloadR0 dX5_readLaw_0 ?_
    refine q_callV0 zm_RX5_73 dX5_readLaw_1 hr.1 (by decide) rfl (by first | exact Nat.le_of_ble_eq_true rfl | (dsimp only [zV, zVh, zVg, zrm]; omega) | omega) (by first | exact Nat.le_of_ble_eq_true rfl | (dsimp only [zV, zVh, zVg, zrm]; omega) | omega) (by first | exact Nat.le_of_ble_eq_true rfl | (dsimp only [zV, zVh, zVg, zrm]; omega) | omega) (by first | exact Nat.le_of_ble_eq_true rfl | (dsimp only [zV, zVh, zVg, zrm]; omega) | omega) (by first | exact Nat.le_of_ble_eq_true rfl | (dsimp only [zV, zVh, zVg, zrm]; omega) | omega) (s_X5_next (p := teP B n p) G hr kw ko htp htk.2.1 (teP_le htk.1) htk.2.2.2.2.2.2 (fun v1_z g1 o1 t1 => ?_))
    have t1 : tkR ca B n g1 v1_z A (nxP B n p) := t1
    have htp1 := tpR_of htp ht o1 (by decide)
    refine r_aloadR0 dX5_readLaw_4 ?_
    refine n_bipush dX5_readLaw_5 (by decide) (fun r5 e5_z => ?_)
    refine q_callV1 zm_RX5_102 dX5_readLaw_7 hr.1 (by decide) rfl (by first | exact Nat.le_of_ble_eq_true rfl | (dsimp only [zV, zVh, zVg, zrm]; omega) | omega) (by first | exact Nat.le_of_ble_eq_true rfl | (dsimp only [zV, zVh, zVg, zrm]; omega) | omega) (by first | exact Nat.le_of_ble_eq_true rfl | (dsimp only [zV, zVh, zVg, zrm]; omega) | omega) (by first | exact Nat.le_of_ble_eq_true rfl | (dsimp only [zV, zVh, zVg, zrm]; omega) | omega) (by first | exact Nat.le_of_ble_eq_true rfl | (dsimp only [zV, zVh, zVg, zrm]; omega) | omega) (s_X5_takeSign (s := nxP B n p) (c := 58) G hr kw ko htp1 e5_z t1 (fun r7 v7 g7 o7 a7 b7 => ?_))
    obtain ⟨d7, l7⟩ := b7 hc_z
    refine t_ifne (t := 15) dX5_readLaw_10 (by decide) (fun h10 => False.elim (by omega)) (fun h10 => ?_)
    refine n_iconst dX5_readLaw_13 (by decide) (fun r13 e13_z => ?_)
    refine m_zret dX5_readLaw_14 rfl (by omega) (by first | exact Nat.le_of_ble_eq_true rfl | (dsimp only [zV, zVh, zVg, zrm]; omega) | omega) (by first | exact Nat.le_of_ble_eq_true rfl | (dsimp only [zV, zVh, zVg, zrm]; omega) | omega) ?_
    exact hQ0 _ v7 g7 _ _ e13_z (frX_M (frM_tr (frM_su o1 (by decide) (by decide)) (frM_su o7 (by decide) (by decide)))) l7 ba_bd.1 hv2
set_option maxHeartbeats 4000000 in
set_option maxRecDepth 100000 in
theorem s_X5_readLaw_5 {g : zGT} {w : zW} {f : Nat → Nat → Int32} {j : Nat → Nat → Int64} {A tq nq : Nat} {v : Option Nat} {B : Nat → Nat} {n : Nat} {ca wa wv : Nat → Nat} {kq ta sm gq gv : Nat} {p : Nat} {t : zNl} {bs : Nat} {Q : Option Value → zW → Prop} {QX : String → zW → Prop} (G : zGok g) (hr : shRd w A tq nq) (kw : kWd g wa wv kq) (ko : kWo g ca wa wv ta sm gq gv) (htp : tpR B n f A tq) (htk : tkR ca B n f v A p) (hpn : p < n) (hrd : rdN w f nq t) (hq2 : A + 21 ≤ nq) (hbs : tkP B n (nxP B n p) = 58 → (lwP B n 5 (nxP B n (nxP B n p))).1 = 0 → (lwP B n 5 (nxP B n (nxP B n p))).2.2.length ≤ bs) (hQ0 : ∀ (b : Int32) v2 f2_z e q, b.toInt = 0 → frX A nq (zS w) f f2_z j j → flR f2_z A e q → e ≠ 0 → laP B n 5 t p = (e, q, t) → Q (some (.int b)) (zM (wW w A v2) f2_z j)) (hQ : ∀ (b : Int32) w2 v2 f2_z j2 q c, b.toInt = 1 → grX A nq w w2 → frX A nq (zS w) f f2_z j j2 → tkR ca B n f2_z v2 A q → rdN w2 f2_z nq (stL 5 t c) → laP B n 5 t p = fiP B n (stL 5 t c) q → Q (some (.int b)) (zM (wW w2 A v2) f2_z j2)) : zC g 70 yX5_readLaw cX5_readLaw 3 (some .boolean) [.ref A, .ref (ca 5)] (zM (wW w A v) f j) (1, bs) Q QX := by
  refine zC_of G (by decide +kernel) (Nat.le_of_ble_eq_true rfl) ?_
  have ht := shRd_t hr
  have hnx := nxP_gt (B := B) hpn
  have hne : nq ≠ A := by omega
  have h900 := htp.2.1
  have hinj := ko.1
  have hsq : nq + 3 ≤ zS w := hrd.2.2.1
  by_cases hc_z : tkP B n (nxP B n p) = 58
  · have hl2 := tk_lt (B := B) (n := n) (s := nxP B n p) (by rw [hc_z]; decide)
    have hnx2 := nxP_gt (B := B) hl2
    have hv2 : laP B n 5 t p = la2P B n 5 t (lwP B n 5 (nxP B n (nxP B n p))) := if_pos hc_z
    have hlw9 : (lwP B n 5 (nxP B n (nxP B n p))) = smP B n (if 5 = 5 then 8 else 6) 6 (nxP B n (nxP B n p)) := if_neg (by decide)
    by_cases hq : (lwP B n 5 (nxP B n (nxP B n p))).1 = 0
    · obtain ⟨y1, y2, y3⟩ := lw_gt (B := B) (n := n) (i := 5) hnx2.2 hq
      have hb9 := hbs hc_z hq
      refine r_aloadR0 dX5_readLaw_0 ?_
      refine q_callV0 zm_RX5_73 dX5_readLaw_1 hr.1 (by decide) rfl (by first | exact Nat.le_of_ble_eq_true rfl | (dsimp only [zV, zVh, zVg, zrm]; omega) | omega) (by first | exact Nat.le_of_ble_eq_true rfl | (dsimp only [zV, zVh, zVg, zrm]; omega) | omega) (by first | exact Nat.le_of_ble_eq_true rfl | (dsimp only [zV, zVh, zVg, zrm]; omega) | omega) (by first | exact Nat.le_of_ble_eq_true rfl | (dsimp only [zV, zVh, zVg, zrm]; omega) | omega) (by first | exact Nat.le_of_ble_eq_true rfl | (dsimp only [zV, zVh, zVg, zrm]; omega) | omega) (s_X5_next (p := teP B n p) G hr kw ko htp htk.2.1 (teP_le htk.1) htk.2.2.2.2.2.2 (fun v1_z g1 o1 t1 => ?_))
      have t1 : tkR ca B n g1 v1_z A (nxP B n p) := t1
      have htp1 := tpR_of htp ht o1 (by decide)
      refine r_aloadR0 dX5_readLaw_4 ?_
      refine n_bipush dX5_readLaw_5 (by decide) (fun r5 e5_z => ?_)
      refine q_callV1 zm_RX5_102 dX5_readLaw_7 hr.1 (by decide) rfl (by first | exact Nat.le_of_ble_eq_true rfl | (dsimp only [zV, zVh, zVg, zrm]; omega) | omega) (by first | exact Nat.le_of_ble_eq_true rfl | (dsimp only [zV, zVh, zVg, zrm]; omega) | omega) (by first | exact Nat.le_of_ble_eq_true rfl | (dsimp only [zV, zVh, zVg, zrm]; omega) | omega) (by first | exact Nat.le_of_ble_eq_true rfl | (dsimp only [zV, zVh, zVg, zrm]; omega) | omega) (by first | exact Nat.le_of_ble_eq_true rfl | (dsimp only [zV, zVh, zVg, zrm]; omega) | omega) (s_X5_takeSign (s := nxP B n p) (c := 58) G hr kw ko htp1 e5_z t1 (fun r7 v7 g7 o7 a7 b7 => ?_))
      obtain ⟨d7, t7⟩ := a7 hc_z
      refine t_ifne (t := 15) dX5_readLaw_10 (by decide) (fun h10 => ?_) (fun h10 => False.elim (by omega))
      refine r_aloadR0 dX5_readLaw_15 ?_
      refine n_iconst dX5_readLaw_16 (by decide) (fun r16 e16_z => ?_)
      refine m_putI zf_RX5_51 (by intro C T N h_z; cases h_z; rfl) rfl dX5_readLaw_17 hr.1 ?_
      obtain ⟨g17, hg17⟩ : ∃ g9, g9 = zu g7 A 9 r16 := ⟨_, rfl⟩
      rw [← hg17]
      have og17 : frM A [] [9] g7 g17 := by rw [hg17]; exact frM_zk frM_rf (by decide)
      have vg17 : g17 A 9 = r16 := by rw [hg17]; exact zu_at
      have vt17 : (g17 A 9).toInt = r16.toInt := by rw [vg17]
      refine r_aloadR0 dX5_readLaw_20 ?_
      refine r_aloadR1 dX5_readLaw_21 ?_
      refine k_gets (ko.2.1 ("LIKES", 5) (List.mem_of_getElem? (i := 2) rfl)) zg_RX5_137 dX5_readLaw_22 ?_
      refine r_acne (rx := some (ca 5)) (ry := some (ca 5)) (t := 32) dX5_readLaw_25 (by decide) (fun h25 => False.elim (h25 rfl)) (fun h25 => ?_)
      refine n_iconst dX5_readLaw_28 (by decide) (fun r28 e28_z => ?_)
      refine r_goto (t := 33) dX5_readLaw_29 (by decide) ?_
      refine m_putZ zf_RX5_54 (by intro C T N h_z; cases h_z; rfl) rfl (by omega) dX5_readLaw_33 hr.1 ?_
      obtain ⟨g33, hg33⟩ : ∃ g9, g9 = zu g17 A 10 r28 := ⟨_, rfl⟩
      rw [← hg33]
      have og33 : frM A [] [10] g17 g33 := by rw [hg33]; exact frM_zk frM_rf (by decide)
      have vg33 : g33 A 10 = r28 := by rw [hg33]; exact zu_at
      have vt33 : (g33 A 10).toInt = r28.toInt := by rw [vg33]
      have t33 := tkR_of (tkR_of t7 og17 (by decide) (by decide) (by decide) (by decide)) og33 (by decide) (by decide) (by decide) (by decide)
      have htp33 := tpR_of (tpR_of (tpR_of htp1 ht o7 (by decide)) ht og17 (by decide)) ht og33 (by decide)
      refine r_aloadR1 dX5_readLaw_36 ?_
      refine k_gets (ko.2.1 ("HOLDS", 4) (List.mem_of_getElem? (i := 3) rfl)) zg_RX5_140 dX5_readLaw_37 ?_
      refine r_acne (rx := some (ca 5)) (ry := some (ca 4)) (t := 54) dX5_readLaw_40 (by decide) (fun h40 => ?_) (fun h40 => False.elim (absurd (hinj 5 4 (by decide) (by decide) (Option.some.inj h40)) (by decide)))
      refine r_aloadR0 dX5_readLaw_54 ?_
      refine n_iconst dX5_readLaw_55 (by decide) (fun r55 e55 => ?_)
      refine q_callV1 zm_RX5_146 dX5_readLaw_56 hr.1 (by decide) rfl (by first | exact Nat.le_of_ble_eq_true rfl | (dsimp only [zV, zVh, zVg, zrm]; omega) | omega) (by first | exact Nat.le_of_ble_eq_true rfl | (dsimp only [zV, zVh, zVg, zrm]; omega) | omega) (by first | exact Nat.le_of_ble_eq_true rfl | (dsimp only [zV, zVh, zVg, zrm]; omega) | omega) (by first | exact Nat.le_of_ble_eq_true rfl | (dsimp only [zV, zVh, zVg, zrm]; omega) | omega) (by first | exact Nat.le_of_ble_eq_true rfl | (dsimp only [zV, zVh, zVg, zrm]; omega) | omega) (s_X5_readSum_6 (lm := 5) (u := 0) (p := nxP B n (nxP B n p)) G hr kw ko htp33 t33 e55 (by rw [vt33]; omega) (by rw [og33.2.2 9 (by decide), vt17]; omega) (Nat.zero_le _) (fun rs vs gs os as bs9 => ?_))
      have as2 : (lwP B n 5 (nxP B n (nxP B n p))).1 = 0 → rs.toInt = 1 ∧ tkR ca B n gs vs A (lwP B n 5 (nxP B n (nxP B n p))).2.1 ∧ okR g33 gs A 0 (lwP B n 5 (nxP B n (nxP B n p))).2.2 := by rw [hlw9]; exact as
      have bs2 : (lwP B n 5 (nxP B n (nxP B n p))).1 ≠ 0 → rs.toInt = 0 ∧ flR gs A (lwP B n 5 (nxP B n (nxP B n p))).1 (lwP B n 5 (nxP B n (nxP B n p))).2.1 := by rw [hlw9]; exact bs9
      clear as bs9
      have ofs : frM A [8] [2, 3, 4, 5, 9, 10, 11, 12] f gs := frM_tr (frM_tr (frM_su o1 (by decide) (by decide)) (frM_su o7 (by decide) (by decide))) (frM_tr (frM_tr (frM_su og17 (by decide) (by decide)) (frM_su og33 (by decide) (by decide))) (frM_su os (by decide) (by decide)))
      obtain ⟨ds, ts, ks⟩ := as2 hq
      have hus : (gs A 9).toInt = ((lwP B n 5 (nxP B n (nxP B n p))).2.2.length : Nat) := by have := ks.1; omega
      refine t_ifne (t := 64) dX5_readLaw_59 (by decide) (fun h59 => ?_) (fun h59 => False.elim (by omega))
      refine r_aloadR0 dX5_readLaw_64 ?_
      refine m_getR (q := (A + 8)) zf_RX5_47 rfl dX5_readLaw_65 hr.1 (shRd_p8 hr) ?_
      refine n_iconst dX5_readLaw_68 (by decide) (fun r68 e68 => ?_)
      refine r_aloadR0 dX5_readLaw_69 ?_
      refine m_getV (x := (gs A 9)) zf_RX5_51 rfl dX5_readLaw_70 hr.1 (rfl) ?_
      refine r_mmax zm_RX5_70 dX5_readLaw_73 (by first | exact Nat.le_of_ble_eq_true rfl | (dsimp only [zV, zVh, zVg, zrm]; omega) | omega) (by first | exact Nat.le_of_ble_eq_true rfl | (dsimp only [zV, zVh, zVg, zrm]; omega) | omega) (by first | exact Nat.le_of_ble_eq_true rfl | (dsimp only [zV, zVh, zVg, zrm]; omega) | omega) (by first | exact Nat.le_of_ble_eq_true rfl | (dsimp only [zV, zVh, zVg, zrm]; omega) | omega) (by first | exact Nat.le_of_ble_eq_true rfl | (dsimp only [zV, zVh, zVg, zrm]; omega) | omega) (fun r73 e73 => ?_)
      refine q_callS2 zm_RX5_149 dX5_readLaw_76 (by first | exact Nat.le_of_ble_eq_true rfl | (dsimp only [zV, zVh, zVg, zrm]; omega) | omega) (by first | exact Nat.le_of_ble_eq_true rfl | (dsimp only [zV, zVh, zVg, zrm]; omega) | omega) (by first | exact Nat.le_of_ble_eq_true rfl | (dsimp only [zV, zVh, zVg, zrm]; omega) | omega) (by first | exact Nat.le_of_ble_eq_true rfl | (dsimp only [zV, zVh, zVg, zrm]; omega) | omega) (by first | exact Nat.le_of_ble_eq_true rfl | (dsimp only [zV, zVh, zVg, zrm]; omega) | omega) (s_J7_copyOf_59c91 (w := wW w A vs) (s := zS w) (N := (lwP B n 5 (nxP B n (nxP B n p))).2.2.length) G rfl (shRd_k8 hr) (shRd_n8 hr) (by omega) (by omega) (by omega) (fun w76 f76 j76 n76 a76 b76 c76 => ?_))
      refine r_astore2 dX5_readLaw_79 rfl ?_
      refine r_aloadR1 dX5_readLaw_80 ?_
      refine k_gets (ko.2.1 ("HOLDS", 4) (List.mem_of_getElem? (i := 3) rfl)) zg_RX5_140 dX5_readLaw_81 ?_
      refine r_acne (rx := some (ca 5)) (ry := some (ca 4)) (t := 98) dX5_readLaw_84 (by decide) (fun h84 => ?_) (fun h84 => False.elim (absurd (hinj 5 4 (by decide) (by decide) (Option.some.inj h84)) (by decide)))
      refine r_aloadR1 dX5_readLaw_98 ?_
      refine k_gets (ko.2.1 ("LIKES", 5) (List.mem_of_getElem? (i := 2) rfl)) zg_RX5_137 dX5_readLaw_99 ?_
      refine r_acne (rx := some (ca 5)) (ry := some (ca 5)) (t := 116) dX5_readLaw_102 (by decide) (fun h102 => False.elim (h102 rfl)) (fun h102 => ?_)
      refine r_aloadR0 dX5_readLaw_105 ?_
      refine m_getR (q := nq) zf_RX5_43 rfl dX5_readLaw_106 ((n76.2.2.2 A (by omega)).1.trans (shRd_k hr)) (by rw [(n76.2.2.2 A (by omega)).2.2]; exact shRd_p7 hr) ?_
      refine r_aloadR2 dX5_readLaw_109 ?_
      refine m_putP (q := zS w) zf_RX5_158 (by intro C T N h_z; cases h_z; rfl) rfl dX5_readLaw_110 (show zK w76 nq = 4 from (n76.2.2.2 nq (by omega)).1.trans hrd.1.1) ?_
      refine r_goto (t := 124) dX5_readLaw_113 (by decide) ?_
      refine n_iconst dX5_readLaw_124 (by decide) (fun r124 e124 => ?_)
      refine m_zret dX5_readLaw_125 rfl (by omega) (by first | exact Nat.le_of_ble_eq_true rfl | (dsimp only [zV, zVh, zVg, zrm]; omega) | omega) (by first | exact Nat.le_of_ble_eq_true rfl | (dsimp only [zV, zVh, zVg, zrm]; omega) | omega) ?_
      have hp9 : zP w76 A = zP (wW w A vs) A := (n76.2.2.2 A (by omega)).2.2
      have hpn9 : zP w76 nq = zP (wW w A vs) nq := (n76.2.2.2 nq (by omega)).2.2
      obtain ⟨w3, hw3⟩ : ∃ w9, w9 = zsP w76 (zu (zP w76) nq 7 (some (zS w))) := ⟨_, rfl⟩
      rw [← hw3]
      have kw3 : ∀ q, zK w3 q = zK w76 q ∧ zN w3 q = zN w76 q := fun q => by rw [hw3]; exact ⟨rfl, rfl⟩
      have pw3 : ∀ q k, ¬ (q = nq ∧ k = 7) → zP w3 q k = zP w76 q k := fun q k h9 => by rw [hw3]; exact if_neg h9
      have pn3 : zP w3 nq 7 = some (zS w) := by rw [hw3]; exact zu_at
      have sw3 : zS w3 = zS w + 1 := by rw [hw3]; exact n76.1
      have hgr : grX A nq w w3 := by
        refine ⟨by omega, fun q hq => ?_, fun q k hq k6_z k7_z => ?_, fun q hq => (kw3 q).1.trans (n76.2.2.2 q (by omega)).1⟩
        · have h9 := n76.2.2.2 q (by omega)
          exact ⟨(kw3 q).1.trans h9.1, (kw3 q).2.trans h9.2.1⟩
        · rw [pw3 q k (by omega), (n76.2.2.2 q (by omega)).2.2]
          unfold wW
          show zu (zP w) A 6 vs q k = zP w q k
          unfold zu
          rw [if_neg k6_z]
      have hfx : frX A nq (zS w) f f76 j j76 := by
        have h9 := frX_M (nq := nq) (s := zS w) (j := j) ofs
        exact ⟨fun q a b c d e x => (a76 q (by omega)).trans (h9.1 q a b c d e x), by rw [a76 A (by omega)]; exact h9.2.1, fun q a => c76 q (by omega)⟩
      have htk3 : tkR ca B n f76 vs A (lwP B n 5 (nxP B n (nxP B n p))).2.1 := tkR_n ts (a76 A (by omega))
      have hv3 : la2P B n 5 t (lwP B n 5 (nxP B n (nxP B n p))) = fiP B n (stL 5 t (lwP B n 5 (nxP B n (nxP B n p))).2.2) (lwP B n 5 (nxP B n (nxP B n p))).2.1 := if_neg (not_not_intro hq)
      have hpa : zP w3 A 6 = vs := by
        rw [pw3 A 6 (by omega), hp9]
        exact zu_at
      have hrd3 : rdN w3 f76 nq (stL 5 t (lwP B n 5 (nxP B n (nxP B n p))).2.2) := by
        refine rdN_l (s := zS w) hrd rfl (by omega) sw3 (fun q hq => ?_) (fun k hk => ?_) pn3 ((kw3 _).1.trans n76.2.1) ((kw3 _).2.trans n76.2.2.1) (fun q o ho => ?_) (fun q h1 h2 => ?_)
        · have h9 := n76.2.2.2 q (by omega)
          exact ⟨(kw3 q).1.trans h9.1, (kw3 q).2.trans h9.2.1⟩
        · have hk9 : k ≠ 7 := hk
          rw [pw3 nq k (fun h9 => hk9 h9.2), hpn9]
          exact congrFun (zu_ne hne) k
        · have h8 := (List.getElem?_eq_some_iff.mp ho).1
          rw [b76 q h8]
          have h9 := ks.2.2 q o ho
          rw [Nat.zero_add] at h9
          exact h9
        · rw [a76 q (by omega)]
          exact ofs.1 q (Or.inr (by omega))
      have e9_z : zM w3 f76 j76 = zM (wW w3 A vs) f76 j76 := by
        rw [← hpa, wW_id]
      rw [e9_z]
      exact hQ _ w3 vs f76 j76 (lwP B n 5 (nxP B n (nxP B n p))).2.1 (lwP B n 5 (nxP B n (nxP B n p))).2.2 e124 hgr hfx htk3 hrd3 (hv2.trans hv3)
    · have hv3 : la2P B n 5 t (lwP B n 5 (nxP B n (nxP B n p))) = ((lwP B n 5 (nxP B n (nxP B n p))).1, (lwP B n 5 (nxP B n (nxP B n p))).2.1, t) := if_pos hq
      refine r_aloadR0 dX5_readLaw_0 ?_
      refine q_callV0 zm_RX5_73 dX5_readLaw_1 hr.1 (by decide) rfl (by first | exact Nat.le_of_ble_eq_true rfl | (dsimp only [zV, zVh, zVg, zrm]; omega) | omega) (by first | exact Nat.le_of_ble_eq_true rfl | (dsimp only [zV, zVh, zVg, zrm]; omega) | omega) (by first | exact Nat.le_of_ble_eq_true rfl | (dsimp only [zV, zVh, zVg, zrm]; omega) | omega) (by first | exact Nat.le_of_ble_eq_true rfl | (dsimp only [zV, zVh, zVg, zrm]; omega) | omega) (by first | exact Nat.le_of_ble_eq_true rfl | (dsimp only [zV, zVh, zVg, zrm]; omega) | omega) (s_X5_next (p := teP B n p) G hr kw ko htp htk.2.1 (teP_le htk.1) htk.2.2.2.2.2.2 (fun v1_z g1 o1 t1 => ?_))
      have t1 : tkR ca B n g1 v1_z A (nxP B n p) := t1
      have htp1 := tpR_of htp ht o1 (by decide)
      refine r_aloadR0 dX5_readLaw_4 ?_
      refine n_bipush dX5_readLaw_5 (by decide) (fun r5 e5_z => ?_)
      refine q_callV1 zm_RX5_102 dX5_readLaw_7 hr.1 (by decide) rfl (by first | exact Nat.le_of_ble_eq_true rfl | (dsimp only [zV, zVh, zVg, zrm]; omega) | omega) (by first | exact Nat.le_of_ble_eq_true rfl | (dsimp only [zV, zVh, zVg, zrm]; omega) | omega) (by first | exact Nat.le_of_ble_eq_true rfl | (dsimp only [zV, zVh, zVg, zrm]; omega) | omega) (by first | exact Nat.le_of_ble_eq_true rfl | (dsimp only [zV, zVh, zVg, zrm]; omega) | omega) (by first | exact Nat.le_of_ble_eq_true rfl | (dsimp only [zV, zVh, zVg, zrm]; omega) | omega) (s_X5_takeSign (s := nxP B n p) (c := 58) G hr kw ko htp1 e5_z t1 (fun r7 v7 g7 o7 a7 b7 => ?_))
      obtain ⟨d7, t7⟩ := a7 hc_z
      refine t_ifne (t := 15) dX5_readLaw_10 (by decide) (fun h10 => ?_) (fun h10 => False.elim (by omega))
      refine r_aloadR0 dX5_readLaw_15 ?_
      refine n_iconst dX5_readLaw_16 (by decide) (fun r16 e16_z => ?_)
      refine m_putI zf_RX5_51 (by intro C T N h_z; cases h_z; rfl) rfl dX5_readLaw_17 hr.1 ?_
      obtain ⟨g17, hg17⟩ : ∃ g9, g9 = zu g7 A 9 r16 := ⟨_, rfl⟩
      rw [← hg17]
      have og17 : frM A [] [9] g7 g17 := by rw [hg17]; exact frM_zk frM_rf (by decide)
      have vg17 : g17 A 9 = r16 := by rw [hg17]; exact zu_at
      have vt17 : (g17 A 9).toInt = r16.toInt := by rw [vg17]
      refine r_aloadR0 dX5_readLaw_20 ?_
      refine r_aloadR1 dX5_readLaw_21 ?_
      refine k_gets (ko.2.1 ("LIKES", 5) (List.mem_of_getElem? (i := 2) rfl)) zg_RX5_137 dX5_readLaw_22 ?_
      refine r_acne (rx := some (ca 5)) (ry := some (ca 5)) (t := 32) dX5_readLaw_25 (by decide) (fun h25 => False.elim (h25 rfl)) (fun h25 => ?_)
      refine n_iconst dX5_readLaw_28 (by decide) (fun r28 e28_z => ?_)
      refine r_goto (t := 33) dX5_readLaw_29 (by decide) ?_
      refine m_putZ zf_RX5_54 (by intro C T N h_z; cases h_z; rfl) rfl (by omega) dX5_readLaw_33 hr.1 ?_
      obtain ⟨g33, hg33⟩ : ∃ g9, g9 = zu g17 A 10 r28 := ⟨_, rfl⟩
      rw [← hg33]
      have og33 : frM A [] [10] g17 g33 := by rw [hg33]; exact frM_zk frM_rf (by decide)
      have vg33 : g33 A 10 = r28 := by rw [hg33]; exact zu_at
      have vt33 : (g33 A 10).toInt = r28.toInt := by rw [vg33]
      have t33 := tkR_of (tkR_of t7 og17 (by decide) (by decide) (by decide) (by decide)) og33 (by decide) (by decide) (by decide) (by decide)
      have htp33 := tpR_of (tpR_of (tpR_of htp1 ht o7 (by decide)) ht og17 (by decide)) ht og33 (by decide)
      refine r_aloadR1 dX5_readLaw_36 ?_
      refine k_gets (ko.2.1 ("HOLDS", 4) (List.mem_of_getElem? (i := 3) rfl)) zg_RX5_140 dX5_readLaw_37 ?_
      refine r_acne (rx := some (ca 5)) (ry := some (ca 4)) (t := 54) dX5_readLaw_40 (by decide) (fun h40 => ?_) (fun h40 => False.elim (absurd (hinj 5 4 (by decide) (by decide) (Option.some.inj h40)) (by decide)))
      refine r_aloadR0 dX5_readLaw_54 ?_
      refine n_iconst dX5_readLaw_55 (by decide) (fun r55 e55 => ?_)
      refine q_callV1 zm_RX5_146 dX5_readLaw_56 hr.1 (by decide) rfl (by first | exact Nat.le_of_ble_eq_true rfl | (dsimp only [zV, zVh, zVg, zrm]; omega) | omega) (by first | exact Nat.le_of_ble_eq_true rfl | (dsimp only [zV, zVh, zVg, zrm]; omega) | omega) (by first | exact Nat.le_of_ble_eq_true rfl | (dsimp only [zV, zVh, zVg, zrm]; omega) | omega) (by first | exact Nat.le_of_ble_eq_true rfl | (dsimp only [zV, zVh, zVg, zrm]; omega) | omega) (by first | exact Nat.le_of_ble_eq_true rfl | (dsimp only [zV, zVh, zVg, zrm]; omega) | omega) (s_X5_readSum_6 (lm := 5) (u := 0) (p := nxP B n (nxP B n p)) G hr kw ko htp33 t33 e55 (by rw [vt33]; omega) (by rw [og33.2.2 9 (by decide), vt17]; omega) (Nat.zero_le _) (fun rs vs gs os as bs9 => ?_))
      have as2 : (lwP B n 5 (nxP B n (nxP B n p))).1 = 0 → rs.toInt = 1 ∧ tkR ca B n gs vs A (lwP B n 5 (nxP B n (nxP B n p))).2.1 ∧ okR g33 gs A 0 (lwP B n 5 (nxP B n (nxP B n p))).2.2 := by rw [hlw9]; exact as
      have bs2 : (lwP B n 5 (nxP B n (nxP B n p))).1 ≠ 0 → rs.toInt = 0 ∧ flR gs A (lwP B n 5 (nxP B n (nxP B n p))).1 (lwP B n 5 (nxP B n (nxP B n p))).2.1 := by rw [hlw9]; exact bs9
      clear as bs9
      have ofs : frM A [8] [2, 3, 4, 5, 9, 10, 11, 12] f gs := frM_tr (frM_tr (frM_su o1 (by decide) (by decide)) (frM_su o7 (by decide) (by decide))) (frM_tr (frM_tr (frM_su og17 (by decide) (by decide)) (frM_su og33 (by decide) (by decide))) (frM_su os (by decide) (by decide)))
      obtain ⟨ds, ls9⟩ := bs2 hq
      refine t_ifne (t := 64) dX5_readLaw_59 (by decide) (fun h59 => False.elim (by omega)) (fun h59 => ?_)
      refine n_iconst dX5_readLaw_62 (by decide) (fun r62 e62 => ?_)
      refine m_zret dX5_readLaw_63 rfl (by omega) (by first | exact Nat.le_of_ble_eq_true rfl | (dsimp only [zV, zVh, zVg, zrm]; omega) | omega) (by first | exact Nat.le_of_ble_eq_true rfl | (dsimp only [zV, zVh, zVg, zrm]; omega) | omega) ?_
      exact hQ0 _ vs gs _ _ e62 (frX_M ofs) ls9 hq (hv2.trans hv3)
  · have hv2 : laP B n 5 t p = (baP B n (nxP B n p), nxP B n p, t) := if_neg hc_z
    refine r_aloadR0 dX5_readLaw_0 ?_
    refine q_callV0 zm_RX5_73 dX5_readLaw_1 hr.1 (by decide) rfl (by first | exact Nat.le_of_ble_eq_true rfl | (dsimp only [zV, zVh, zVg, zrm]; omega) | omega) (by first | exact Nat.le_of_ble_eq_true rfl | (dsimp only [zV, zVh, zVg, zrm]; omega) | omega) (by first | exact Nat.le_of_ble_eq_true rfl | (dsimp only [zV, zVh, zVg, zrm]; omega) | omega) (by first | exact Nat.le_of_ble_eq_true rfl | (dsimp only [zV, zVh, zVg, zrm]; omega) | omega) (by first | exact Nat.le_of_ble_eq_true rfl | (dsimp only [zV, zVh, zVg, zrm]; omega) | omega) (s_X5_next (p := teP B n p) G hr kw ko htp htk.2.1 (teP_le htk.1) htk.2.2.2.2.2.2 (fun v1_z g1 o1 t1 => ?_))
    have t1 : tkR ca B n g1 v1_z A (nxP B n p) := t1
    have htp1 := tpR_of htp ht o1 (by decide)
    refine r_aloadR0 dX5_readLaw_4 ?_
    refine n_bipush dX5_readLaw_5 (by decide) (fun r5 e5_z => ?_)
    refine q_callV1 zm_RX5_102 dX5_readLaw_7 hr.1 (by decide) rfl (by first | exact Nat.le_of_ble_eq_true rfl | (dsimp only [zV, zVh, zVg, zrm]; omega) | omega) (by first | exact Nat.le_of_ble_eq_true rfl | (dsimp only [zV, zVh, zVg, zrm]; omega) | omega) (by first | exact Nat.le_of_ble_eq_true rfl | (dsimp only [zV, zVh, zVg, zrm]; omega) | omega) (by first | exact Nat.le_of_ble_eq_true rfl | (dsimp only [zV, zVh, zVg, zrm]; omega) | omega) (by first | exact Nat.le_of_ble_eq_true rfl | (dsimp only [zV, zVh, zVg, zrm]; omega) | omega) (s_X5_takeSign (s := nxP B n p) (c := 58) G hr kw ko htp1 e5_z t1 (fun r7 v7 g7 o7 a7 b7 => ?_))
    obtain ⟨d7, l7⟩ := b7 hc_z
    refine t_ifne (t := 15) dX5_readLaw_10 (by decide) (fun h10 => False.elim (by omega)) (fun h10 => ?_)
    refine n_iconst dX5_readLaw_13 (by decide) (fun r13 e13_z => ?_)
    refine m_zret dX5_readLaw_14 rfl (by omega) (by first | exact Nat.le_of_ble_eq_true rfl | (dsimp only [zV, zVh, zVg, zrm]; omega) | omega) (by first | exact Nat.le_of_ble_eq_true rfl | (dsimp only [zV, zVh, zVg, zrm]; omega) | omega) ?_
    exact hQ0 _ v7 g7 _ _ e13_z (frX_M (frM_tr (frM_su o1 (by decide) (by decide)) (frM_su o7 (by decide) (by decide)))) l7 ba_bd.1 hv2
