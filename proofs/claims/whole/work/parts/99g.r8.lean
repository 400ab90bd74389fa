/-! the reference reads lines, and the whole text -/
theorem naMk_eq {N N2 : zNm} (h_z : N2.2.1 = N.2.1) (i : Nat) : naMk N2 i = naMk N i := by
  unfold naMk
  rw [h_z]
theorem naMk_a {N : zNm} {c : Nat} : naMk N (2 * c) = ((N.2.1[c]?).map Prod.fst).getD 0 := by
  unfold naMk
  rw [show 2 * c / 2 = c by omega, show 2 * c % 2 = 0 by omega]
  cases N.2.1[c]? <;> rfl
theorem naMk_b {N : zNm} {c : Nat} : naMk N (2 * c + 1) = ((N.2.1[c]?).map Prod.snd).getD 0 := by
  unfold naMk
  rw [show (2 * c + 1) / 2 = c by omega, show (2 * c + 1) % 2 = 1 by omega]
  cases N.2.1[c]? <;> rfl
/-- what is told so far -/
def tlM (K : Nat → Int32) (t : zNl) : Prop := ((K 0).toInt = (t.1.1 : Nat) ∧ (K 1).toInt = (t.1.2.1.length : Nat) ∧ (K 2).toInt = (t.1.2.2.length : Nat) ∧ (K 3).toInt = (t.2.1.length : Nat) ∧ (K 4).toInt = (t.2.2.1.length : Nat) ∧ (K 5).toInt = (t.2.2.2.length : Nat) ∧ (K 6).toInt = 0 ∧ (K 7).toInt = 0) ∧ (∀ c, c < 6 → (K (13 + c)).toInt = (naMk t.1 (2 * c) : Nat) ∧ (K (19 + c)).toInt = (naMk t.1 (2 * c + 1) : Nat)) ∧ (∀ i v, t.1.2.2[i]? = some v → (K (25 + i)).toInt = (v : Nat)) ∧ lwR K 209 t.2.1 ∧ lwR K 1109 t.2.2.1 ∧ lwR K 2009 t.2.2.2
theorem lwR_eq {K K2 : Nat → Int32} {a : Nat} {l : List Nat} (h_z : lwR K a l) (hl : l.length ≤ 900) (e : ∀ k, a ≤ k → k < a + 900 → K2 k = K k) : lwR K2 a l := fun i o hi_z => by
  have := (List.getElem?_eq_some_iff.mp hi_z).1
  rw [e _ (by omega) (by omega)]
  exact h_z i o hi_z
theorem tlM_li {K K2 : Nat → Int32} {t : zNl} (h_z : tlM K t) (h0 : (K2 0).toInt = ((t.1.1 + 1 : Nat) : Int)) (e : ∀ k, k ≠ 0 → K2 k = K k) : tlM K2 ((t.1.1 + 1, t.1.2.1, t.1.2.2), t.2) := by
  obtain ⟨⟨a0, a1, a2, a3, a4, a5, a6, a7⟩, b, c, d1, d2, d3⟩ := h_z
  refine ⟨⟨h0, by rw [e 1 (by decide)]; exact a1, by rw [e 2 (by decide)]; exact a2, by rw [e 3 (by decide)]; exact a3, by rw [e 4 (by decide)]; exact a4, by rw [e 5 (by decide)]; exact a5, by rw [e 6 (by decide)]; exact a6, by rw [e 7 (by decide)]; exact a7⟩, fun c hc_z => ?_, fun i v hi_z => ?_, lwR_of d1 (fun k hk => e k (by omega)), lwR_of d2 (fun k hk => e k (by omega)), lwR_of d3 (fun k hk => e k (by omega))⟩
  · have h9 := b c hc_z
    rw [naMk_a, naMk_b] at h9 ⊢
    rw [e _ (by omega), e _ (by omega)]
    exact h9
  · rw [e _ (by omega)]
    exact c i v hi_z
theorem tlM_ce {K K2 : Nat → Int32} {t : zNl} {a b : Nat} (h_z : tlM K t) (hl : t.1.2.1.length < 6) (h1 : (K2 1).toInt = ((t.1.2.1.length + 1 : Nat) : Int)) (ha_z : (K2 (13 + t.1.2.1.length)).toInt = (a : Nat)) (hb_z : (K2 (19 + t.1.2.1.length)).toInt = (b : Nat)) (e : ∀ k, k ≠ 1 → k ≠ 13 + t.1.2.1.length → k ≠ 19 + t.1.2.1.length → K2 k = K k) : tlM K2 ((t.1.1, t.1.2.1 ++ [(a, b)], t.1.2.2), t.2) := by
  obtain ⟨⟨a0, a1, a2, a3, a4, a5, a6, a7⟩, bb, c, d1, d2, d3⟩ := h_z
  refine ⟨⟨by rw [e 0 (by omega) (by omega) (by omega)]; exact a0, ?_, by rw [e 2 (by omega) (by omega) (by omega)]; exact a2, by rw [e 3 (by omega) (by omega) (by omega)]; exact a3, by rw [e 4 (by omega) (by omega) (by omega)]; exact a4, by rw [e 5 (by omega) (by omega) (by omega)]; exact a5, by rw [e 6 (by omega) (by omega) (by omega)]; exact a6, by rw [e 7 (by omega) (by omega) (by omega)]; exact a7⟩, fun c hc_z => ?_, fun i v hi_z => ?_, lwR_of d1 (fun k hk => e k (by omega) (by omega) (by omega)), lwR_of d2 (fun k hk => e k (by omega) (by omega) (by omega)), lwR_of d3 (fun k hk => e k (by omega) (by omega) (by omega))⟩
  · show (K2 1).toInt = ((t.1.2.1 ++ [(a, b)]).length : Nat)
    rw [List.length_append, List.length_singleton]
    exact h1
  · have hb9 := bb c hc_z
    rw [naMk_a, naMk_b] at hb9 ⊢
    show (K2 (13 + c)).toInt = ((((t.1.2.1 ++ [(a, b)])[c]?).map Prod.fst).getD 0 : Nat) ∧ (K2 (19 + c)).toInt = ((((t.1.2.1 ++ [(a, b)])[c]?).map Prod.snd).getD 0 : Nat)
    rcases Nat.lt_trichotomy c t.1.2.1.length with h9 | h9 | h9
    · rw [List.getElem?_append_left h9, e _ (by omega) (by omega) (by omega), e _ (by omega) (by omega) (by omega)]
      exact hb9
    · rw [List.getElem?_append_right (by omega), show c - t.1.2.1.length = 0 by omega, h9]
      exact ⟨ha_z, hb_z⟩
    · rw [List.getElem?_eq_none (by omega)] at hb9
      rw [List.getElem?_eq_none (by rw [List.length_append, List.length_singleton]; omega), e _ (by omega) (by omega) (by omega), e _ (by omega) (by omega) (by omega)]
      exact hb9
  · have h9 := c i v hi_z
    rw [e _ (by omega) (by omega) (by omega)]
    exact h9
theorem tlM_gu {K K2 : Nat → Int32} {t : zNl} {a : Nat} (h_z : tlM K t) (hl : t.1.2.2.length < 4) (h1 : (K2 2).toInt = ((t.1.2.2.length + 1 : Nat) : Int)) (ha_z : (K2 (25 + t.1.2.2.length)).toInt = (a : Nat)) (e : ∀ k, k ≠ 2 → k ≠ 25 + t.1.2.2.length → K2 k = K k) : tlM K2 ((t.1.1, t.1.2.1, t.1.2.2 ++ [a]), t.2) := by
  obtain ⟨⟨a0, a1, a2, a3, a4, a5, a6, a7⟩, bb, c, d1, d2, d3⟩ := h_z
  refine ⟨⟨by rw [e 0 (by omega) (by omega)]; exact a0, by rw [e 1 (by omega) (by omega)]; exact a1, ?_, by rw [e 3 (by omega) (by omega)]; exact a3, by rw [e 4 (by omega) (by omega)]; exact a4, by rw [e 5 (by omega) (by omega)]; exact a5, by rw [e 6 (by omega) (by omega)]; exact a6, by rw [e 7 (by omega) (by omega)]; exact a7⟩, fun c hc_z => ?_, fun i v hi_z => ?_, lwR_of d1 (fun k hk => e k (by omega) (by omega)), lwR_of d2 (fun k hk => e k (by omega) (by omega)), lwR_of d3 (fun k hk => e k (by omega) (by omega))⟩
  · show (K2 2).toInt = ((t.1.2.2 ++ [a]).length : Nat)
    rw [List.length_append, List.length_singleton]
    exact h1
  · have h9 := bb c hc_z
    rw [naMk_a, naMk_b] at h9 ⊢
    rw [e _ (by omega) (by omega), e _ (by omega) (by omega)]
    exact h9
  · rcases Nat.lt_or_ge i t.1.2.2.length with h9 | h9
    · rw [e _ (by omega) (by omega)]
      exact c i v (by rw [← hi_z]; exact (List.getElem?_append_left h9).symm)
    · have h8 := (List.getElem?_eq_some_iff.mp hi_z).1
      have h7 : i < t.1.2.2.length + 1 := by
        have : (t.1.2.2 ++ [a]).length = t.1.2.2.length + 1 := by rw [List.length_append, List.length_singleton]
        rw [← this]
        exact h8
      obtain rfl : i = t.1.2.2.length := by omega
      have h6 : (t.1.2.2 ++ [a])[t.1.2.2.length]? = some v := hi_z
      rw [List.getElem?_append_right (Nat.le_refl _), Nat.sub_self] at h6
      cases h6
      exact ha_z
theorem tlM_la {K K2 : Nat → Int32} {t : zNl} {i la : Nat} {c : List Nat} (h_z : tlM K t) (hi_z : i = 3 ∨ i = 4 ∨ i = 5) (hla : la = 209 + 900 * (i - 3)) (hg : t.1.2.2.length ≤ 4) (hl : t.2.1.length ≤ 900 ∧ t.2.2.1.length ≤ 900 ∧ t.2.2.2.length ≤ 900) (h1 : (K2 i).toInt = (c.length : Nat)) (hc_z : lwR K2 la c) (e : ∀ k, k ≠ i → (k < la ∨ la + 900 ≤ k) → K2 k = K k) : tlM K2 (stL i t c) := by
  obtain ⟨⟨a0, a1, a2, a3, a4, a5, a6, a7⟩, bb, cc, d1, d2, d3⟩ := h_z
  obtain ⟨l1, l2, l3⟩ := hl
  have hb_z : ∀ c, c < 6 → (K2 (13 + c)).toInt = (naMk t.1 (2 * c) : Nat) ∧ (K2 (19 + c)).toInt = (naMk t.1 (2 * c + 1) : Nat) := fun c hc_z => by
    rw [e _ (by omega) (by omega), e _ (by omega) (by omega)]
    exact bb c hc_z
  have hw : ∀ i v, t.1.2.2[i]? = some v → (K2 (25 + i)).toInt = (v : Nat) := fun i v hi_z => by
    have := (List.getElem?_eq_some_iff.mp hi_z).1
    rw [e _ (by omega) (by omega)]
    exact cc i v hi_z
  have e0_z : K2 0 = K 0 := e 0 (by omega) (by omega)
  have e1_z : K2 1 = K 1 := e 1 (by omega) (by omega)
  have e2_z : K2 2 = K 2 := e 2 (by omega) (by omega)
  have e6_z : K2 6 = K 6 := e 6 (by omega) (by omega)
  have e7_z : K2 7 = K 7 := e 7 (by omega) (by omega)
  rw [← e0_z] at a0
  rw [← e1_z] at a1
  rw [← e2_z] at a2
  rw [← e6_z] at a6
  rw [← e7_z] at a7
  unfold stL
  rcases hi_z with rfl | rfl | rfl
  · rw [if_neg (by decide), if_neg (by decide)]
    subst hla
    exact ⟨⟨a0, a1, a2, h1, by rw [e 4 (by omega) (by omega)]; exact a4, by rw [e 5 (by omega) (by omega)]; exact a5, a6, a7⟩, hb_z, hw, hc_z, lwR_eq d2 l2 (fun k h2 h3 => e k (by omega) (by omega)), lwR_eq d3 l3 (fun k h2 h3 => e k (by omega) (by omega))⟩
  · rw [if_pos rfl]
    subst hla
    exact ⟨⟨a0, a1, a2, by rw [e 3 (by omega) (by omega)]; exact a3, h1, by rw [e 5 (by omega) (by omega)]; exact a5, a6, a7⟩, hb_z, hw, lwR_eq d1 l1 (fun k h2 h3 => e k (by omega) (by omega)), hc_z, lwR_eq d3 l3 (fun k h2 h3 => e k (by omega) (by omega))⟩
  · rw [if_neg (by decide), if_pos rfl]
    subst hla
    exact ⟨⟨a0, a1, a2, by rw [e 3 (by omega) (by omega)]; exact a3, by rw [e 4 (by omega) (by omega)]; exact a4, h1, a6, a7⟩, hb_z, hw, lwR_eq d1 l1 (fun k h2 h3 => e k (by omega) (by omega)), lwR_eq d2 l2 (fun k h2 h3 => e k (by omega) (by omega)), hc_z⟩
/-- the table told -/
def tbOf (t : zNl) : zTb := (t.1, t.2, (naMk t.1, []), [])
theorem tbOf_kn {K : Nat → Int32} {t : zNl} (h_z : tlM K t) : ctKn K (tbOf t) := by
  obtain ⟨⟨a0, a1, a2, a3, a4, a5, a6, a7⟩, b, c, d1, d2, d3⟩ := h_z
  refine ⟨⟨a0, a1, a2, a3, a4, a5, a6⟩, ⟨a7, fun i d hi_z => absurd hi_z (by show ¬ ([] : List Nat)[i]? = some d; simp), fun c hc_z => ?_⟩, c, fun i M hi_z => absurd hi_z (by show ¬ ([] : List zMo)[i]? = some M; simp), d1, d2, d3⟩
  have h9 := b c hc_z
  rw [show 7 + 6 + c = 13 + c by omega, show 7 + 12 + c = 19 + c by omega]
  exact h9
theorem tbOf_wf {n p : Nat} {t : zNl} (h9 : n ≤ 900) (h_z : nlG n (0, p, t)) : wfT (tbOf t) := by
  obtain ⟨h1, h2, h3, h4, h5, h6, h7, h8, h10, h11⟩ := h_z
  have hp : p ≤ n := h2
  have hl : t.1.1 ≤ p := h3
  refine ⟨Nat.le_trans hl (Nat.le_trans hp h9), h4, h5, h7, h8, h10, h11, ⟨trivial, Nat.zero_le 5, fun i => ?_⟩, Nat.zero_le 10, fun M hM_z => absurd hM_z List.not_mem_nil⟩
  show naMk t.1 i ≤ 99
  unfold naMk
  cases e : t.1.2.1[i / 2]? with
  | none => exact Nat.zero_le 99
  | some q =>
    have h12 := h6 q (List.mem_of_getElem? e)
    show (if i % 2 = 0 then q.1 else q.2) ≤ 99
    split
    · exact h12.1
    · exact h12.2
theorem nu_eq {B : Nat → Nat} {n s : Nat} : nuH B n 99 s = nuP B n s := rfl
theorem psM_e {B : Nat → Nat} {n A e e2_z p : Nat} {f : Nat → Nat → Int32} (h_z : psM B n f A e p) (he : e = e2_z) : psM B n f A e2_z p := by rw [← he]; exact h_z
set_option maxHeartbeats 4000000 in
set_option maxRecDepth 100000 in
theorem s_X12_begins {g : zGT} {w : zW} {f : Nat → Nat → Int32} {j : Nat → Nat → Int64} {A : Nat} {B : Nat → Nat} {n : Nat} {x y : Int32} {p m k c : Nat} {Q : Option Value → zW → Prop} {QX : String → zW → Prop} (G : zGok g) (hs : shM w A) (htp : tpM B n f A) (hps : psM B n f A 0 p) (hx : x.toInt = (m : Nat)) (hm_z : m ≤ 5) (hy : y.toInt = (k : Nat)) (hc_z : (f (A + 2) m).toInt = (c : Nat)) (h3 : tkP B n p = 3) (hQ : ∀ (r : Int32) f2_z, frM A [] [8, 9, 10, 11, 12, 13] f f2_z → (c = k → r.toInt = 0 ∧ psM B n f2_z A 4 p) → (c ≠ k → r.toInt = 1 ∧ psM B n f2_z A 0 (nxP B n p)) → Q (some (.int r)) (zM w f2_z j)) : zC g 5 yX12_begins cX12_begins 3 (some .boolean) [.ref A, .int x, .int y] (zM w f j) (0, 0) Q QX := by
  refine zC_of G (by decide +kernel) (Nat.le_of_ble_eq_true rfl) ?_
  have ht := hps.2.1 rfl
  have h12 := hps.1
  have hte := teP_le (B := B) ht.1
  by_cases hck : c = k
  · refine r_aloadR0 dX12_begins_0 ?_
    refine m_getR (q := (A + 2)) zf_RX12_13 rfl dX12_begins_1 (shM_k hs) (shM_p2 hs) ?_
    refine r_iload1 dX12_begins_4 ?_
    refine m_iald (k := m) (x := (f (A + 2) m)) dX12_begins_5 (shM_k2 hs) (shM_n2 hs) (by omega) (by omega) (rfl) ?_
    refine r_iload2 dX12_begins_6 ?_
    refine t_icne (t := 15) dX12_begins_7 (by decide) (fun h7 => False.elim (by omega)) (fun h7 => ?_)
    refine r_aloadR0 dX12_begins_10 ?_
    refine n_iconst dX12_begins_11 (by decide) (fun r11 e11_z => ?_)
    refine q_callV1 zm_RX12_134 dX12_begins_12 (shM_k hs) (by decide) rfl (Nat.le_of_ble_eq_true rfl) (Nat.le_of_ble_eq_true rfl) (Nat.le_of_ble_eq_true rfl) (Nat.le_of_ble_eq_true rfl) (Nat.le_of_ble_eq_true rfl) (s_X12_blames (k := 4) G hs h12 ht e11_z (fun g12 o12 a12 b12 => ?_))
    have w12 : (g12 A 12).toInt = 4 := by rw [a12, if_neg (by omega)]; rfl
    refine r_aloadR0 dX12_begins_15 ?_
    refine m_getV (x := (g12 A 12)) zf_RX12_112 rfl dX12_begins_16 (shM_k hs) (rfl) ?_
    refine t_ifne (t := 26) dX12_begins_19 (by decide) (fun h19 => ?_) (fun h19 => False.elim (by omega))
    refine r_aloadR0 dX12_begins_26 ?_
    refine m_getV (x := (g12 A 12)) zf_RX12_112 rfl dX12_begins_27 (shM_k hs) (rfl) ?_
    refine t_ifne (t := 37) dX12_begins_30 (by decide) (fun h30 => ?_) (fun h30 => False.elim (by omega))
    refine n_iconst dX12_begins_37 (by decide) (fun r37 e37 => ?_)
    refine m_zret dX12_begins_38 rfl (by omega) (Nat.le_of_ble_eq_true rfl) (Nat.le_of_ble_eq_true rfl) ?_
    exact hQ _ _ (frM_su o12 (by decide) (by decide)) (fun _ => ⟨by omega, w12, fun h_z => absurd (show (4 : Nat) = 0 from h_z) (by decide), fun _ => b12⟩) (fun h_z => absurd hck h_z)
  · refine r_aloadR0 dX12_begins_0 ?_
    refine m_getR (q := (A + 2)) zf_RX12_13 rfl dX12_begins_1 (shM_k hs) (shM_p2 hs) ?_
    refine r_iload1 dX12_begins_4 ?_
    refine m_iald (k := m) (x := (f (A + 2) m)) dX12_begins_5 (shM_k2 hs) (shM_n2 hs) (by omega) (by omega) (rfl) ?_
    refine r_iload2 dX12_begins_6 ?_
    refine t_icne (t := 15) dX12_begins_7 (by decide) (fun h7 => ?_) (fun h7 => False.elim (by omega))
    refine r_aloadR0 dX12_begins_15 ?_
    refine m_getV (x := (f A 12)) zf_RX12_112 rfl dX12_begins_16 (shM_k hs) (rfl) ?_
    refine t_ifne (t := 26) dX12_begins_19 (by decide) (fun h19 => False.elim (by omega)) (fun h19 => ?_)
    refine r_aloadR0 dX12_begins_22 ?_
    refine q_callV0 zm_RX12_131 dX12_begins_23 (shM_k hs) (by decide) rfl (Nat.le_of_ble_eq_true rfl) (Nat.le_of_ble_eq_true rfl) (Nat.le_of_ble_eq_true rfl) (Nat.le_of_ble_eq_true rfl) (Nat.le_of_ble_eq_true rfl) (s_X12_readsOn (p := teP B n p) G hs htp ht.2.1 hte (fun g23 o23 t23 => ?_))
    have w12 : (g23 A 12).toInt = 0 := by rw [o23.2.2 12 (by decide)]; exact h12
    refine r_aloadR0 dX12_begins_26 ?_
    refine m_getV (x := (g23 A 12)) zf_RX12_112 rfl dX12_begins_27 (shM_k hs) (rfl) ?_
    refine t_ifne (t := 37) dX12_begins_30 (by decide) (fun h30 => False.elim (by omega)) (fun h30 => ?_)
    refine n_iconst dX12_begins_33 (by decide) (fun r33 e33_z => ?_)
    refine r_goto (t := 38) dX12_begins_34 (by decide) ?_
    refine m_zret dX12_begins_38 rfl (by omega) (Nat.le_of_ble_eq_true rfl) (Nat.le_of_ble_eq_true rfl) ?_
    exact hQ _ _ (frM_su o23 (by decide) (by decide)) (fun h_z => absurd h_z hck) (fun _ => ⟨by omega, w12, fun _ => t23, fun h_z => absurd rfl h_z⟩)
set_option maxHeartbeats 4000000 in
set_option maxRecDepth 100000 in
theorem s_X12_readCell {g : zGT} {w : zW} {f : Nat → Nat → Int32} {j : Nat → Nat → Int64} {A : Nat} {B : Nat → Nat} {n : Nat} {wa wv : Nat → Nat} {kq : Nat} {p : Nat} {t : zNl} {Q : Option Value → zW → Prop} {QX : String → zW → Prop} (G : zGok g) (hs : shM w A) (kw : kWd g wa wv kq) (hld : kLd g wa) (htp : tpM B n f A) (hps : psM B n f A 0 p) (hg : nlG n (0, p, t)) (htl : tlM (f (A + 2)) t) (h3 : tkP B n p = 3) (hQ : ∀ f2_z e q t2, t2.1.1 = t.1.1 → frM A [2] [8, 9, 10, 11, 12, 13] f f2_z → psM B n f2_z A e q → (e = 0 → tlM (f2_z (A + 2)) t2 ∧ ceP B n t p = fiP B n t2 q) → (e ≠ 0 → ceP B n t p = (e, q, t)) → Q none (zM w f2_z j)) : zC g 8 yX12_readCell cX12_readCell 3 none [.ref A] (zM w f j) (0, 0) Q QX := by
  refine zC_of G (by decide +kernel) (Nat.le_of_ble_eq_true rfl) ?_
  have ht := hps.2.1 rfl
  have h12 := hps.1
  have hte := teP_le (B := B) ht.1
  have hpn : p < n := tk_lt (B := B) (by rw [h3]; decide)
  have hnx := nxP_gt (B := B) hpn
  have hl6 : t.1.2.1.length ≤ 6 := hg.2.2.2.1
  have hl4 : t.1.2.2.length ≤ 4 := hg.2.2.2.2.1
  have htl9 := htl
  obtain ⟨⟨t0, t1, t2, t3, t4, t5, t6, t7⟩, tb, tc, td1, td2, td3⟩ := htl9
  by_cases h6 : 6 ≤ t.1.2.1.length
  · obtain ⟨x1, x2⟩ : t.1.2.1.length = 6 ∧ True := ⟨by omega, trivial⟩
    have hv : ceP B n t p = (4, p, t) := if_pos h6
    refine r_aloadR0 dX12_readCell_0 ?_
    refine n_iconst dX12_readCell_1 (by decide) (fun r1 e1_z => ?_)
    refine n_bipush dX12_readCell_2 (by decide) (fun r2 e2_z => ?_)
    refine q_callV2 zm_RX12_213 dX12_readCell_4 (shM_k hs) (by decide) rfl (Nat.le_of_ble_eq_true rfl) (Nat.le_of_ble_eq_true rfl) (Nat.le_of_ble_eq_true rfl) (Nat.le_of_ble_eq_true rfl) (Nat.le_of_ble_eq_true rfl) (s_X12_begins (m := 1) (k := 6) (c := t.1.2.1.length) G hs htp hps e1_z (by decide) e2_z t1 h3 (fun r4 g4 o4 a4 b4 => ?_))
    obtain ⟨r4b, p4⟩ := a4 x1
    refine t_ifne (t := 11) dX12_readCell_7 (by decide) (fun h7 => False.elim (by omega)) (fun h7 => ?_)
    refine r_vret dX12_readCell_10 rfl (Nat.le_of_ble_eq_true rfl) (Nat.le_of_ble_eq_true rfl) ?_
    exact hQ _ 4 p t rfl (frM_su o4 (by decide) (by decide)) p4 (fun h_z => absurd (show (4 : Nat) = 0 from h_z) (by decide)) (fun _ => hv)
  have hv0 : ceP B n t p = ce2P B n t (nuP B n (nxP B n p)) := if_neg h6
  by_cases h1 : (nuP B n (nxP B n p)).1 = 0
  · by_cases h2 : isWd B n (nuP B n (nxP B n p)).2.1 1 = true
    · by_cases h4 : (nuP B n (nxP B n (nuP B n (nxP B n p)).2.1)).1 = 0
      · have hv : ceP B n t p = fiP B n ((t.1.1, t.1.2.1 ++ [((nuP B n (nxP B n p)).2.2, (nuP B n (nxP B n (nuP B n (nxP B n p)).2.1)).2.2)], t.1.2.2), t.2) (nuP B n (nxP B n (nuP B n (nxP B n p)).2.1)).2.1 := hv0.trans ((if_neg (not_not_intro h1)).trans ((if_pos h2).trans (if_neg (not_not_intro h4))))
        have hb5 := (nu_gd (B := B) (n := n) (s := nxP B n p) hnx.2)
        refine r_aloadR0 dX12_readCell_0 ?_
        refine n_iconst dX12_readCell_1 (by decide) (fun r1 e1_z => ?_)
        refine n_bipush dX12_readCell_2 (by decide) (fun r2 e2_z => ?_)
        refine q_callV2 zm_RX12_213 dX12_readCell_4 (shM_k hs) (by decide) rfl (Nat.le_of_ble_eq_true rfl) (Nat.le_of_ble_eq_true rfl) (Nat.le_of_ble_eq_true rfl) (Nat.le_of_ble_eq_true rfl) (Nat.le_of_ble_eq_true rfl) (s_X12_begins (m := 1) (k := 6) (c := t.1.2.1.length) G hs htp hps e1_z (by decide) e2_z t1 h3 (fun r4 g4 o4 a4 b4 => ?_))
        obtain ⟨r4b, p4⟩ := b4 (by omega)
        have htp4 := tpM_of htp (o4.2.1 5 (by decide) (by decide) (by decide)) (o4.2.2 7 (by decide))
        have w4 : g4 (A + 2) = f (A + 2) := o4.2.1 2 (by decide) (by decide) (by decide)
        refine t_ifne (t := 11) dX12_readCell_7 (by decide) (fun h7 => ?_) (fun h7 => False.elim (by omega))
        refine r_aloadR0 dX12_readCell_11 ?_
        refine n_iconst dX12_readCell_12 (by decide) (fun r12 e12_z => ?_)
        refine n_bipush dX12_readCell_13 (by decide) (fun r13 e13_z => ?_)
        refine q_callV2 zm_RX12_209 dX12_readCell_15 (shM_k hs) (by decide) rfl (Nat.le_of_ble_eq_true rfl) (Nat.le_of_ble_eq_true rfl) (Nat.le_of_ble_eq_true rfl) (Nat.le_of_ble_eq_true rfl) (Nat.le_of_ble_eq_true rfl) (s_X12_number (p := nxP B n p) (h_z := 99) G hs htp4 p4 e12_z e13_z (fun r15 g15 o15 p15 v15 z15 => ?_))
        rw [nu_eq] at p15 v15 z15
        have htp15 := tpM_of htp4 (o15.2.1 5 (by decide) (by decide) (by decide)) (o15.2.2 7 (by decide))
        have w15 : g15 (A + 2) = f (A + 2) := (o15.2.1 2 (by decide) (by decide) (by decide)).trans w4
        have of15 : frM A [] [8, 9, 10, 11, 12, 13] f g15 := frM_tr o4 o15
        have p15b := psM_e p15 h1
        have v15b := v15 h1
        refine r_istore1 dX12_readCell_18 rfl ?_
        refine r_aloadR0 dX12_readCell_19 ?_
        refine k_ldc (hld _ (List.mem_of_getElem? (i := 11) rfl)) dX12_readCell_20 ?_
        refine q_callV1 zm_RX12_219 dX12_readCell_22 (shM_k hs) (by decide) rfl (Nat.le_of_ble_eq_true rfl) (Nat.le_of_ble_eq_true rfl) (Nat.le_of_ble_eq_true rfl) (Nat.le_of_ble_eq_true rfl) (Nat.le_of_ble_eq_true rfl) (s_X12_mustWord (i := 1) (s := (nuP B n (nxP B n p)).2.1) G hs kw (by decide) htp15 p15b (fun g22 o22 a22 b22 => ?_))
        have of22 : frM A [] [8, 9, 10, 11, 12, 13] f g22 := frM_tr of15 o22
        have w22 : g22 (A + 2) = f (A + 2) := (o22.2.1 2 (by decide) (by decide) (by decide)).trans w15
        have p22 := a22 h2
        have htp22 := tpM_of htp15 (o22.2.1 5 (by decide) (by decide) (by decide)) (o22.2.2 7 (by decide))
        refine r_aloadR0 dX12_readCell_25 ?_
        refine n_iconst dX12_readCell_26 (by decide) (fun r26 e26_z => ?_)
        refine n_bipush dX12_readCell_27 (by decide) (fun r27 e27_z => ?_)
        refine q_callV2 zm_RX12_209 dX12_readCell_29 (shM_k hs) (by decide) rfl (Nat.le_of_ble_eq_true rfl) (Nat.le_of_ble_eq_true rfl) (Nat.le_of_ble_eq_true rfl) (Nat.le_of_ble_eq_true rfl) (Nat.le_of_ble_eq_true rfl) (s_X12_number (p := nxP B n (nuP B n (nxP B n p)).2.1) (h_z := 99) G hs htp22 p22 e26_z e27_z (fun r29 g29 o29 p29 v29 z29 => ?_))
        rw [nu_eq] at p29 v29 z29
        have w29 : g29 (A + 2) = f (A + 2) := (o29.2.1 2 (by decide) (by decide) (by decide)).trans w22
        have of29 : frM A [] [8, 9, 10, 11, 12, 13] f g29 := frM_tr of22 o29
        have p29b := psM_e p29 h4
        have v29b := v29 h4
        have k29 := p29b.1
        refine r_istore2 dX12_readCell_32 rfl ?_
        refine r_aloadR0 dX12_readCell_33 ?_
        refine m_getV (x := (g29 A 12)) zf_RX12_112 rfl dX12_readCell_34 (shM_k hs) (rfl) ?_
        refine t_ifeq (t := 41) dX12_readCell_37 (by decide) (fun h37 => ?_) (fun h37 => False.elim (by omega))
        have u1 : (g29 (A + 2) 1).toInt = (t.1.2.1.length : Nat) := by rw [w29]; exact t1
        refine r_aloadR0 dX12_readCell_41 ?_
        refine m_getR (q := (A + 2)) zf_RX12_13 rfl dX12_readCell_42 (shM_k hs) (shM_p2 hs) ?_
        refine n_bipush dX12_readCell_45 (by decide) (fun r45 e45 => ?_)
        refine r_aloadR0 dX12_readCell_47 ?_
        refine m_getR (q := (A + 2)) zf_RX12_13 rfl dX12_readCell_48 (shM_k hs) (shM_p2 hs) ?_
        refine n_iconst dX12_readCell_51 (by decide) (fun r51 e51 => ?_)
        refine m_iald (k := 1) (x := (g29 (A + 2) 1)) dX12_readCell_52 (shM_k2 hs) (shM_n2 hs) (by omega) (by omega) (rfl) ?_
        refine n_iadd dX12_readCell_53 (by omega) (fun r53 e53 => ?_)
        refine r_iload1 dX12_readCell_54 ?_
        refine m_iast (k := (13 + t.1.2.1.length)) dX12_readCell_55 (shM_k2 hs) (shM_n2 hs) (by omega) (by omega) ?_
        obtain ⟨g55, hg55⟩ : ∃ g9, g9 = zu g29 (A + 2) (13 + t.1.2.1.length) r15 := ⟨_, rfl⟩
        rw [← hg55]
        have og55 : frM A [2] [] g29 g55 := by rw [hg55]; exact frM_zr frM_rf (by decide) (by decide) (by decide)
        have vg55 : g55 (A + 2) (13 + t.1.2.1.length) = r15 := by rw [hg55]; exact zu_at
        have wg55 : ∀ i9_z, i9_z ≠ (13 + t.1.2.1.length) → g55 (A + 2) i9_z = g29 (A + 2) i9_z := by intro i9_z h9; rw [hg55]; exact zu_ni h9
        have u2 : (g55 (A + 2) 1).toInt = (t.1.2.1.length : Nat) := by rw [wg55 1 (by omega)]; exact u1
        refine r_aloadR0 dX12_readCell_56 ?_
        refine m_getR (q := (A + 2)) zf_RX12_13 rfl dX12_readCell_57 (shM_k hs) (shM_p2 hs) ?_
        refine n_bipush dX12_readCell_60 (by decide) (fun r60 e60 => ?_)
        refine r_aloadR0 dX12_readCell_62 ?_
        refine m_getR (q := (A + 2)) zf_RX12_13 rfl dX12_readCell_63 (shM_k hs) (shM_p2 hs) ?_
        refine n_iconst dX12_readCell_66 (by decide) (fun r66 e66 => ?_)
        refine m_iald (k := 1) (x := (g55 (A + 2) 1)) dX12_readCell_67 (shM_k2 hs) (shM_n2 hs) (by omega) (by omega) (rfl) ?_
        refine n_iadd dX12_readCell_68 (by omega) (fun r68 e68 => ?_)
        refine r_iload2 dX12_readCell_69 ?_
        refine m_iast (k := (19 + t.1.2.1.length)) dX12_readCell_70 (shM_k2 hs) (shM_n2 hs) (by omega) (by omega) ?_
        obtain ⟨g70, hg70⟩ : ∃ g9, g9 = zu g55 (A + 2) (19 + t.1.2.1.length) r29 := ⟨_, rfl⟩
        rw [← hg70]
        have og70 : frM A [2] [] g55 g70 := by rw [hg70]; exact frM_zr frM_rf (by decide) (by decide) (by decide)
        have vg70 : g70 (A + 2) (19 + t.1.2.1.length) = r29 := by rw [hg70]; exact zu_at
        have wg70 : ∀ i9_z, i9_z ≠ (19 + t.1.2.1.length) → g70 (A + 2) i9_z = g55 (A + 2) i9_z := by intro i9_z h9; rw [hg70]; exact zu_ni h9
        have u3 : (g70 (A + 2) 1).toInt = (t.1.2.1.length : Nat) := by rw [wg70 1 (by omega)]; exact u2
        refine r_aloadR0 dX12_readCell_71 ?_
        refine m_getR (q := (A + 2)) zf_RX12_13 rfl dX12_readCell_72 (shM_k hs) (shM_p2 hs) ?_
        refine n_iconst dX12_readCell_75 (by decide) (fun r75 e75 => ?_)
        refine r_dup2 dX12_readCell_76 rfl rfl ?_
        refine m_iald (k := 1) (x := (g70 (A + 2) 1)) dX12_readCell_77 (shM_k2 hs) (shM_n2 hs) (by omega) (by omega) (rfl) ?_
        refine n_iconst dX12_readCell_78 (by decide) (fun r78 e78 => ?_)
        refine n_iadd dX12_readCell_79 (by omega) (fun r79 e79 => ?_)
        refine m_iast (k := 1) dX12_readCell_80 (shM_k2 hs) (shM_n2 hs) (by omega) (by omega) ?_
        obtain ⟨g80, hg80⟩ : ∃ g9, g9 = zu g70 (A + 2) 1 r79 := ⟨_, rfl⟩
        rw [← hg80]
        have og80 : frM A [2] [] g70 g80 := by rw [hg80]; exact frM_zr frM_rf (by decide) (by decide) (by decide)
        have vg80 : g80 (A + 2) 1 = r79 := by rw [hg80]; exact zu_at
        have wg80 : ∀ i9_z, i9_z ≠ 1 → g80 (A + 2) i9_z = g70 (A + 2) i9_z := by intro i9_z h9; rw [hg80]; exact zu_ni h9
        refine r_vret dX12_readCell_81 rfl (Nat.le_of_ble_eq_true rfl) (Nat.le_of_ble_eq_true rfl) ?_
        have ofz : frM A [2] [] g29 g80 := frM_tr (frM_tr og55 og70) og80
        refine hQ g80 0 (nuP B n (nxP B n (nuP B n (nxP B n p)).2.1)).2.1 ((t.1.1, t.1.2.1 ++ [((nuP B n (nxP B n p)).2.2, (nuP B n (nxP B n (nuP B n (nxP B n p)).2.1)).2.2)], t.1.2.2), t.2) rfl (frM_tr (frM_su of29 (by decide) (by decide)) (frM_su ofz (by decide) (by decide))) (psM_of p29b (ofz.2.2 8 (by decide)) (ofz.2.2 9 (by decide)) (ofz.2.2 10 (by decide)) (ofz.2.2 11 (by decide)) (ofz.2.2 12 (by decide)) (ofz.2.2 13 (by decide))) (fun _ => ⟨?_, hv⟩) (fun h_z => absurd rfl h_z)
        refine tlM_ce htl (by omega) (by rw [vg80]; omega) ?_ ?_ (fun k k1_z k2_z k3_z => ?_)
        · rw [wg80 _ (by omega), wg70 _ (by omega), vg55]; exact v15b
        · rw [wg80 _ (by omega), vg70]; exact v29b
        · rw [wg80 _ k1_z, wg70 _ k3_z, wg55 _ k2_z, w29]
      · have hv : ceP B n t p = ((nuP B n (nxP B n (nuP B n (nxP B n p)).2.1)).1, (nuP B n (nxP B n (nuP B n (nxP B n p)).2.1)).2.1, t) := hv0.trans ((if_neg (not_not_intro h1)).trans ((if_pos h2).trans (if_pos h4)))
        refine r_aloadR0 dX12_readCell_0 ?_
        refine n_iconst dX12_readCell_1 (by decide) (fun r1 e1_z => ?_)
        refine n_bipush dX12_readCell_2 (by decide) (fun r2 e2_z => ?_)
        refine q_callV2 zm_RX12_213 dX12_readCell_4 (shM_k hs) (by decide) rfl (Nat.le_of_ble_eq_true rfl) (Nat.le_of_ble_eq_true rfl) (Nat.le_of_ble_eq_true rfl) (Nat.le_of_ble_eq_true rfl) (Nat.le_of_ble_eq_true rfl) (s_X12_begins (m := 1) (k := 6) (c := t.1.2.1.length) G hs htp hps e1_z (by decide) e2_z t1 h3 (fun r4 g4 o4 a4 b4 => ?_))
        obtain ⟨r4b, p4⟩ := b4 (by omega)
        have htp4 := tpM_of htp (o4.2.1 5 (by decide) (by decide) (by decide)) (o4.2.2 7 (by decide))
        have w4 : g4 (A + 2) = f (A + 2) := o4.2.1 2 (by decide) (by decide) (by decide)
        refine t_ifne (t := 11) dX12_readCell_7 (by decide) (fun h7 => ?_) (fun h7 => False.elim (by omega))
        refine r_aloadR0 dX12_readCell_11 ?_
        refine n_iconst dX12_readCell_12 (by decide) (fun r12 e12_z => ?_)
        refine n_bipush dX12_readCell_13 (by decide) (fun r13 e13_z => ?_)
        refine q_callV2 zm_RX12_209 dX12_readCell_15 (shM_k hs) (by decide) rfl (Nat.le_of_ble_eq_true rfl) (Nat.le_of_ble_eq_true rfl) (Nat.le_of_ble_eq_true rfl) (Nat.le_of_ble_eq_true rfl) (Nat.le_of_ble_eq_true rfl) (s_X12_number (p := nxP B n p) (h_z := 99) G hs htp4 p4 e12_z e13_z (fun r15 g15 o15 p15 v15 z15 => ?_))
        rw [nu_eq] at p15 v15 z15
        have htp15 := tpM_of htp4 (o15.2.1 5 (by decide) (by decide) (by decide)) (o15.2.2 7 (by decide))
        have w15 : g15 (A + 2) = f (A + 2) := (o15.2.1 2 (by decide) (by decide) (by decide)).trans w4
        have of15 : frM A [] [8, 9, 10, 11, 12, 13] f g15 := frM_tr o4 o15
        have p15b := psM_e p15 h1
        have v15b := v15 h1
        refine r_istore1 dX12_readCell_18 rfl ?_
        refine r_aloadR0 dX12_readCell_19 ?_
        refine k_ldc (hld _ (List.mem_of_getElem? (i := 11) rfl)) dX12_readCell_20 ?_
        refine q_callV1 zm_RX12_219 dX12_readCell_22 (shM_k hs) (by decide) rfl (Nat.le_of_ble_eq_true rfl) (Nat.le_of_ble_eq_true rfl) (Nat.le_of_ble_eq_true rfl) (Nat.le_of_ble_eq_true rfl) (Nat.le_of_ble_eq_true rfl) (s_X12_mustWord (i := 1) (s := (nuP B n (nxP B n p)).2.1) G hs kw (by decide) htp15 p15b (fun g22 o22 a22 b22 => ?_))
        have of22 : frM A [] [8, 9, 10, 11, 12, 13] f g22 := frM_tr of15 o22
        have w22 : g22 (A + 2) = f (A + 2) := (o22.2.1 2 (by decide) (by decide) (by decide)).trans w15
        have p22 := a22 h2
        have htp22 := tpM_of htp15 (o22.2.1 5 (by decide) (by decide) (by decide)) (o22.2.2 7 (by decide))
        refine r_aloadR0 dX12_readCell_25 ?_
        refine n_iconst dX12_readCell_26 (by decide) (fun r26 e26_z => ?_)
        refine n_bipush dX12_readCell_27 (by decide) (fun r27 e27_z => ?_)
        refine q_callV2 zm_RX12_209 dX12_readCell_29 (shM_k hs) (by decide) rfl (Nat.le_of_ble_eq_true rfl) (Nat.le_of_ble_eq_true rfl) (Nat.le_of_ble_eq_true rfl) (Nat.le_of_ble_eq_true rfl) (Nat.le_of_ble_eq_true rfl) (s_X12_number (p := nxP B n (nuP B n (nxP B n p)).2.1) (h_z := 99) G hs htp22 p22 e26_z e27_z (fun r29 g29 o29 p29 v29 z29 => ?_))
        rw [nu_eq] at p29 v29 z29
        have w29 : g29 (A + 2) = f (A + 2) := (o29.2.1 2 (by decide) (by decide) (by decide)).trans w22
        have of29 : frM A [] [8, 9, 10, 11, 12, 13] f g29 := frM_tr of22 o29
        have k29 : (g29 A 12).toInt ≠ 0 := by rw [p29.1]; omega
        refine r_istore2 dX12_readCell_32 rfl ?_
        refine r_aloadR0 dX12_readCell_33 ?_
        refine m_getV (x := (g29 A 12)) zf_RX12_112 rfl dX12_readCell_34 (shM_k hs) (rfl) ?_
        refine t_ifeq (t := 41) dX12_readCell_37 (by decide) (fun h37 => False.elim (by omega)) (fun h37 => ?_)
        refine r_vret dX12_readCell_40 rfl (Nat.le_of_ble_eq_true rfl) (Nat.le_of_ble_eq_true rfl) ?_
        exact hQ g29 _ _ t rfl (frM_su of29 (by decide) (by decide)) p29 (fun h_z => absurd h_z h4) (fun _ => hv)
    · have hv : ceP B n t p = (baP B n (nuP B n (nxP B n p)).2.1, (nuP B n (nxP B n p)).2.1, t) := hv0.trans ((if_neg (not_not_intro h1)).trans (if_neg h2))
      have hba := ba_bd (B := B) (n := n) (s := (nuP B n (nxP B n p)).2.1)
      refine r_aloadR0 dX12_readCell_0 ?_
      refine n_iconst dX12_readCell_1 (by decide) (fun r1 e1_z => ?_)
      refine n_bipush dX12_readCell_2 (by decide) (fun r2 e2_z => ?_)
      refine q_callV2 zm_RX12_213 dX12_readCell_4 (shM_k hs) (by decide) rfl (Nat.le_of_ble_eq_true rfl) (Nat.le_of_ble_eq_true rfl) (Nat.le_of_ble_eq_true rfl) (Nat.le_of_ble_eq_true rfl) (Nat.le_of_ble_eq_true rfl) (s_X12_begins (m := 1) (k := 6) (c := t.1.2.1.length) G hs htp hps e1_z (by decide) e2_z t1 h3 (fun r4 g4 o4 a4 b4 => ?_))
      obtain ⟨r4b, p4⟩ := b4 (by omega)
      have htp4 := tpM_of htp (o4.2.1 5 (by decide) (by decide) (by decide)) (o4.2.2 7 (by decide))
      have w4 : g4 (A + 2) = f (A + 2) := o4.2.1 2 (by decide) (by decide) (by decide)
      refine t_ifne (t := 11) dX12_readCell_7 (by decide) (fun h7 => ?_) (fun h7 => False.elim (by omega))
      refine r_aloadR0 dX12_readCell_11 ?_
      refine n_iconst dX12_readCell_12 (by decide) (fun r12 e12_z => ?_)
      refine n_bipush dX12_readCell_13 (by decide) (fun r13 e13_z => ?_)
      refine q_callV2 zm_RX12_209 dX12_readCell_15 (shM_k hs) (by decide) rfl (Nat.le_of_ble_eq_true rfl) (Nat.le_of_ble_eq_true rfl) (Nat.le_of_ble_eq_true rfl) (Nat.le_of_ble_eq_true rfl) (Nat.le_of_ble_eq_true rfl) (s_X12_number (p := nxP B n p) (h_z := 99) G hs htp4 p4 e12_z e13_z (fun r15 g15 o15 p15 v15 z15 => ?_))
      rw [nu_eq] at p15 v15 z15
      have htp15 := tpM_of htp4 (o15.2.1 5 (by decide) (by decide) (by decide)) (o15.2.2 7 (by decide))
      have w15 : g15 (A + 2) = f (A + 2) := (o15.2.1 2 (by decide) (by decide) (by decide)).trans w4
      have of15 : frM A [] [8, 9, 10, 11, 12, 13] f g15 := frM_tr o4 o15
      have p15b := psM_e p15 h1
      have v15b := v15 h1
      refine r_istore1 dX12_readCell_18 rfl ?_
      refine r_aloadR0 dX12_readCell_19 ?_
      refine k_ldc (hld _ (List.mem_of_getElem? (i := 11) rfl)) dX12_readCell_20 ?_
      refine q_callV1 zm_RX12_219 dX12_readCell_22 (shM_k hs) (by decide) rfl (Nat.le_of_ble_eq_true rfl) (Nat.le_of_ble_eq_true rfl) (Nat.le_of_ble_eq_true rfl) (Nat.le_of_ble_eq_true rfl) (Nat.le_of_ble_eq_true rfl) (s_X12_mustWord (i := 1) (s := (nuP B n (nxP B n p)).2.1) G hs kw (by decide) htp15 p15b (fun g22 o22 a22 b22 => ?_))
      have of22 : frM A [] [8, 9, 10, 11, 12, 13] f g22 := frM_tr of15 o22
      have w22 : g22 (A + 2) = f (A + 2) := (o22.2.1 2 (by decide) (by decide) (by decide)).trans w15
      have p22 := b22 h2
      have nb22 : (g22 A 12).toInt ≠ 0 := by rw [p22.1]; omega
      refine r_aloadR0 dX12_readCell_25 ?_
      refine n_iconst dX12_readCell_26 (by decide) (fun r26 e26_z => ?_)
      refine n_bipush dX12_readCell_27 (by decide) (fun r27 e27_z => ?_)
      refine q_callV2 zm_RX12_209 dX12_readCell_29 (shM_k hs) (by decide) rfl (Nat.le_of_ble_eq_true rfl) (Nat.le_of_ble_eq_true rfl) (Nat.le_of_ble_eq_true rfl) (Nat.le_of_ble_eq_true rfl) (Nat.le_of_ble_eq_true rfl) (s_X12_number_x G hs nb22 e26_z (fun r29 e29 => ?_))
      refine r_istore2 dX12_readCell_32 rfl ?_
      refine r_aloadR0 dX12_readCell_33 ?_
      refine m_getV (x := (g22 A 12)) zf_RX12_112 rfl dX12_readCell_34 (shM_k hs) (rfl) ?_
      refine t_ifeq (t := 41) dX12_readCell_37 (by decide) (fun h37 => False.elim (by omega)) (fun h37 => ?_)
      refine r_vret dX12_readCell_40 rfl (Nat.le_of_ble_eq_true rfl) (Nat.le_of_ble_eq_true rfl) ?_
      exact hQ g22 _ _ t rfl (frM_su of22 (by decide) (by decide)) p22 (fun h_z => absurd h_z hba.1) (fun _ => hv)
  · have hv : ceP B n t p = ((nuP B n (nxP B n p)).1, (nuP B n (nxP B n p)).2.1, t) := hv0.trans (if_pos h1)
    refine r_aloadR0 dX12_readCell_0 ?_
    refine n_iconst dX12_readCell_1 (by decide) (fun r1 e1_z => ?_)
    refine n_bipush dX12_readCell_2 (by decide) (fun r2 e2_z => ?_)
    refine q_callV2 zm_RX12_213 dX12_readCell_4 (shM_k hs) (by decide) rfl (Nat.le_of_ble_eq_true rfl) (Nat.le_of_ble_eq_true rfl) (Nat.le_of_ble_eq_true rfl) (Nat.le_of_ble_eq_true rfl) (Nat.le_of_ble_eq_true rfl) (s_X12_begins (m := 1) (k := 6) (c := t.1.2.1.length) G hs htp hps e1_z (by decide) e2_z t1 h3 (fun r4 g4 o4 a4 b4 => ?_))
    obtain ⟨r4b, p4⟩ := b4 (by omega)
    have htp4 := tpM_of htp (o4.2.1 5 (by decide) (by decide) (by decide)) (o4.2.2 7 (by decide))
    have w4 : g4 (A + 2) = f (A + 2) := o4.2.1 2 (by decide) (by decide) (by decide)
    refine t_ifne (t := 11) dX12_readCell_7 (by decide) (fun h7 => ?_) (fun h7 => False.elim (by omega))
    refine r_aloadR0 dX12_readCell_11 ?_
    refine n_iconst dX12_readCell_12 (by decide) (fun r12 e12_z => ?_)
    refine n_bipush dX12_readCell_13 (by decide) (fun r13 e13_z => ?_)
    refine q_callV2 zm_RX12_209 dX12_readCell_15 (shM_k hs) (by decide) rfl (Nat.le_of_ble_eq_true rfl) (Nat.le_of_ble_eq_true rfl) (Nat.le_of_ble_eq_true rfl) (Nat.le_of_ble_eq_true rfl) (Nat.le_of_ble_eq_true rfl) (s_X12_number (p := nxP B n p) (h_z := 99) G hs htp4 p4 e12_z e13_z (fun r15 g15 o15 p15 v15 z15 => ?_))
    rw [nu_eq] at p15 v15 z15
    have htp15 := tpM_of htp4 (o15.2.1 5 (by decide) (by decide) (by decide)) (o15.2.2 7 (by decide))
    have w15 : g15 (A + 2) = f (A + 2) := (o15.2.1 2 (by decide) (by decide) (by decide)).trans w4
    have of15 : frM A [] [8, 9, 10, 11, 12, 13] f g15 := frM_tr o4 o15
    have nb15 : (g15 A 12).toInt ≠ 0 := by rw [p15.1]; omega
    refine r_istore1 dX12_readCell_18 rfl ?_
    refine r_aloadR0 dX12_readCell_19 ?_
    refine k_ldc (hld _ (List.mem_of_getElem? (i := 11) rfl)) dX12_readCell_20 ?_
    refine q_callV1 zm_RX12_219 dX12_readCell_22 (shM_k hs) (by decide) rfl (Nat.le_of_ble_eq_true rfl) (Nat.le_of_ble_eq_true rfl) (Nat.le_of_ble_eq_true rfl) (Nat.le_of_ble_eq_true rfl) (Nat.le_of_ble_eq_true rfl) (s_X12_mustWord_x (i := 1) (B := fun _ => 0) (n := 0) G hs kw (by decide) nb15 ?_)
    refine r_aloadR0 dX12_readCell_25 ?_
    refine n_iconst dX12_readCell_26 (by decide) (fun r26 e26_z => ?_)
    refine n_bipush dX12_readCell_27 (by decide) (fun r27 e27_z => ?_)
    refine q_callV2 zm_RX12_209 dX12_readCell_29 (shM_k hs) (by decide) rfl (Nat.le_of_ble_eq_true rfl) (Nat.le_of_ble_eq_true rfl) (Nat.le_of_ble_eq_true rfl) (Nat.le_of_ble_eq_true rfl) (Nat.le_of_ble_eq_true rfl) (s_X12_number_x G hs nb15 e26_z (fun r29 e29 => ?_))
    refine r_istore2 dX12_readCell_32 rfl ?_
    refine r_aloadR0 dX12_readCell_33 ?_
    refine m_getV (x := (g15 A 12)) zf_RX12_112 rfl dX12_readCell_34 (shM_k hs) (rfl) ?_
    refine t_ifeq (t := 41) dX12_readCell_37 (by decide) (fun h37 => False.elim (by omega)) (fun h37 => ?_)
    refine r_vret dX12_readCell_40 rfl (Nat.le_of_ble_eq_true rfl) (Nat.le_of_ble_eq_true rfl) ?_
    exact hQ g15 _ _ t rfl (frM_su of15 (by decide) (by decide)) p15 (fun h_z => absurd h_z h1) (fun _ => hv)
set_option maxHeartbeats 4000000 in
set_option maxRecDepth 100000 in
theorem s_X12_readGuest {g : zGT} {w : zW} {f : Nat → Nat → Int32} {j : Nat → Nat → Int64} {A : Nat} {B : Nat → Nat} {n : Nat} {wa wv : Nat → Nat} {kq : Nat} {p : Nat} {t : zNl} {Q : Option Value → zW → Prop} {QX : String → zW → Prop} (G : zGok g) (hs : shM w A) (kw : kWd g wa wv kq) (hld : kLd g wa) (htp : tpM B n f A) (hps : psM B n f A 0 p) (hg : nlG n (0, p, t)) (htl : tlM (f (A + 2)) t) (h3 : tkP B n p = 3) (hQ : ∀ f2_z e q t2, t2.1.1 = t.1.1 → frM A [2] [8, 9, 10, 11, 12, 13] f f2_z → psM B n f2_z A e q → (e = 0 → tlM (f2_z (A + 2)) t2 ∧ guP B n t p = fiP B n t2 q) → (e ≠ 0 → guP B n t p = (e, q, t)) → Q none (zM w f2_z j)) : zC g 8 yX12_readGuest cX12_readGuest 2 none [.ref A] (zM w f j) (0, 0) Q QX := by
  refine zC_of G (by decide +kernel) (Nat.le_of_ble_eq_true rfl) ?_
  have ht := hps.2.1 rfl
  have h12 := hps.1
  have hte := teP_le (B := B) ht.1
  have hpn : p < n := tk_lt (B := B) (by rw [h3]; decide)
  have hnx := nxP_gt (B := B) hpn
  have hl6 : t.1.2.1.length ≤ 6 := hg.2.2.2.1
  have hl4 : t.1.2.2.length ≤ 4 := hg.2.2.2.2.1
  have htl9 := htl
  obtain ⟨⟨t0, t1, t2, t3, t4, t5, t6, t7⟩, tb, tc, td1, td2, td3⟩ := htl9
  by_cases h6 : 4 ≤ t.1.2.2.length
  · have x1 : t.1.2.2.length = 4 := by omega
    have hv : guP B n t p = (4, p, t) := if_pos h6
    refine r_aloadR0 dX12_readGuest_0 ?_
    refine n_iconst dX12_readGuest_1 (by decide) (fun r1 e1_z => ?_)
    refine n_iconst dX12_readGuest_2 (by decide) (fun r2 e2_z => ?_)
    refine q_callV2 zm_RX12_213 dX12_readGuest_3 (shM_k hs) (by decide) rfl (Nat.le_of_ble_eq_true rfl) (Nat.le_of_ble_eq_true rfl) (Nat.le_of_ble_eq_true rfl) (Nat.le_of_ble_eq_true rfl) (Nat.le_of_ble_eq_true rfl) (s_X12_begins (m := 2) (k := 4) (c := t.1.2.2.length) G hs htp hps e1_z (by decide) e2_z t2 h3 (fun r3 g3_z o3 a3 b3 => ?_))
    obtain ⟨r3b, p3⟩ := a3 x1
    refine t_ifne (t := 10) dX12_readGuest_6 (by decide) (fun h6 => False.elim (by omega)) (fun h6 => ?_)
    refine r_vret dX12_readGuest_9 rfl (Nat.le_of_ble_eq_true rfl) (Nat.le_of_ble_eq_true rfl) ?_
    exact hQ _ 4 p t rfl (frM_su o3 (by decide) (by decide)) p3 (fun h_z => absurd (show (4 : Nat) = 0 from h_z) (by decide)) (fun _ => hv)
  have hv0 : guP B n t p = gu2P B n t (nuP B n (nxP B n p)) := if_neg h6
  by_cases h1 : (nuP B n (nxP B n p)).1 = 0
  · have hv : guP B n t p = fiP B n ((t.1.1, t.1.2.1, t.1.2.2 ++ [(nuP B n (nxP B n p)).2.2]), t.2) (nuP B n (nxP B n p)).2.1 := hv0.trans (if_neg (not_not_intro h1))
    refine r_aloadR0 dX12_readGuest_0 ?_
    refine n_iconst dX12_readGuest_1 (by decide) (fun r1 e1_z => ?_)
    refine n_iconst dX12_readGuest_2 (by decide) (fun r2 e2_z => ?_)
    refine q_callV2 zm_RX12_213 dX12_readGuest_3 (shM_k hs) (by decide) rfl (Nat.le_of_ble_eq_true rfl) (Nat.le_of_ble_eq_true rfl) (Nat.le_of_ble_eq_true rfl) (Nat.le_of_ble_eq_true rfl) (Nat.le_of_ble_eq_true rfl) (s_X12_begins (m := 2) (k := 4) (c := t.1.2.2.length) G hs htp hps e1_z (by decide) e2_z t2 h3 (fun r3 g3_z o3 a3 b3 => ?_))
    obtain ⟨r3b, p3⟩ := b3 (by omega)
    have htp3 := tpM_of htp (o3.2.1 5 (by decide) (by decide) (by decide)) (o3.2.2 7 (by decide))
    have w3 : g3_z (A + 2) = f (A + 2) := o3.2.1 2 (by decide) (by decide) (by decide)
    refine t_ifne (t := 10) dX12_readGuest_6 (by decide) (fun h6 => ?_) (fun h6 => False.elim (by omega))
    refine r_aloadR0 dX12_readGuest_10 ?_
    refine n_iconst dX12_readGuest_11 (by decide) (fun r11 e11_z => ?_)
    refine n_bipush dX12_readGuest_12 (by decide) (fun r12 e12_z => ?_)
    refine q_callV2 zm_RX12_209 dX12_readGuest_14 (shM_k hs) (by decide) rfl (Nat.le_of_ble_eq_true rfl) (Nat.le_of_ble_eq_true rfl) (Nat.le_of_ble_eq_true rfl) (Nat.le_of_ble_eq_true rfl) (Nat.le_of_ble_eq_true rfl) (s_X12_number (p := nxP B n p) (h_z := 99) G hs htp3 p3 e11_z e12_z (fun r14 g14 o14 p14 v14 z14 => ?_))
    rw [nu_eq] at p14 v14 z14
    have w14 : g14 (A + 2) = f (A + 2) := (o14.2.1 2 (by decide) (by decide) (by decide)).trans w3
    have of14 : frM A [] [8, 9, 10, 11, 12, 13] f g14 := frM_tr o3 o14
    have p14b := psM_e p14 h1
    have v14b := v14 h1
    have k14 := p14b.1
    refine r_istore1 dX12_readGuest_17 rfl ?_
    refine r_aloadR0 dX12_readGuest_18 ?_
    refine m_getV (x := (g14 A 12)) zf_RX12_112 rfl dX12_readGuest_19 (shM_k hs) (rfl) ?_
    refine t_ifeq (t := 26) dX12_readGuest_22 (by decide) (fun h22 => ?_) (fun h22 => False.elim (by omega))
    have u1 : (g14 (A + 2) 2).toInt = (t.1.2.2.length : Nat) := by rw [w14]; exact t2
    refine r_aloadR0 dX12_readGuest_26 ?_
    refine m_getR (q := (A + 2)) zf_RX12_13 rfl dX12_readGuest_27 (shM_k hs) (shM_p2 hs) ?_
    refine n_bipush dX12_readGuest_30 (by decide) (fun r30 e30 => ?_)
    refine r_aloadR0 dX12_readGuest_32 ?_
    refine m_getR (q := (A + 2)) zf_RX12_13 rfl dX12_readGuest_33 (shM_k hs) (shM_p2 hs) ?_
    refine n_iconst dX12_readGuest_36 (by decide) (fun r36 e36 => ?_)
    refine m_iald (k := 2) (x := (g14 (A + 2) 2)) dX12_readGuest_37 (shM_k2 hs) (shM_n2 hs) (by omega) (by omega) (rfl) ?_
    refine n_iadd dX12_readGuest_38 (by omega) (fun r38 e38 => ?_)
    refine r_iload1 dX12_readGuest_39 ?_
    refine m_iast (k := (25 + t.1.2.2.length)) dX12_readGuest_40 (shM_k2 hs) (shM_n2 hs) (by omega) (by omega) ?_
    obtain ⟨g40, hg40⟩ : ∃ g9, g9 = zu g14 (A + 2) (25 + t.1.2.2.length) r14 := ⟨_, rfl⟩
    rw [← hg40]
    have og40 : frM A [2] [] g14 g40 := by rw [hg40]; exact frM_zr frM_rf (by decide) (by decide) (by decide)
    have vg40 : g40 (A + 2) (25 + t.1.2.2.length) = r14 := by rw [hg40]; exact zu_at
    have wg40 : ∀ i9_z, i9_z ≠ (25 + t.1.2.2.length) → g40 (A + 2) i9_z = g14 (A + 2) i9_z := by intro i9_z h9; rw [hg40]; exact zu_ni h9
    have u2 : (g40 (A + 2) 2).toInt = (t.1.2.2.length : Nat) := by rw [wg40 2 (by omega)]; exact u1
    refine r_aloadR0 dX12_readGuest_41 ?_
    refine m_getR (q := (A + 2)) zf_RX12_13 rfl dX12_readGuest_42 (shM_k hs) (shM_p2 hs) ?_
    refine n_iconst dX12_readGuest_45 (by decide) (fun r45 e45 => ?_)
    refine r_dup2 dX12_readGuest_46 rfl rfl ?_
    refine m_iald (k := 2) (x := (g40 (A + 2) 2)) dX12_readGuest_47 (shM_k2 hs) (shM_n2 hs) (by omega) (by omega) (rfl) ?_
    refine n_iconst dX12_readGuest_48 (by decide) (fun r48 e48 => ?_)
    refine n_iadd dX12_readGuest_49 (by omega) (fun r49 e49 => ?_)
    refine m_iast (k := 2) dX12_readGuest_50 (shM_k2 hs) (shM_n2 hs) (by omega) (by omega) ?_
    obtain ⟨g50, hg50⟩ : ∃ g9, g9 = zu g40 (A + 2) 2 r49 := ⟨_, rfl⟩
    rw [← hg50]
    have og50 : frM A [2] [] g40 g50 := by rw [hg50]; exact frM_zr frM_rf (by decide) (by decide) (by decide)
    have vg50 : g50 (A + 2) 2 = r49 := by rw [hg50]; exact zu_at
    have wg50 : ∀ i9_z, i9_z ≠ 2 → g50 (A + 2) i9_z = g40 (A + 2) i9_z := by intro i9_z h9; rw [hg50]; exact zu_ni h9
    refine r_vret dX12_readGuest_51 rfl (Nat.le_of_ble_eq_true rfl) (Nat.le_of_ble_eq_true rfl) ?_
    have ofz : frM A [2] [] g14 g50 := frM_tr og40 og50
    refine hQ g50 0 (nuP B n (nxP B n p)).2.1 ((t.1.1, t.1.2.1, t.1.2.2 ++ [(nuP B n (nxP B n p)).2.2]), t.2) rfl (frM_tr (frM_su of14 (by decide) (by decide)) (frM_su ofz (by decide) (by decide))) (psM_of p14b (ofz.2.2 8 (by decide)) (ofz.2.2 9 (by decide)) (ofz.2.2 10 (by decide)) (ofz.2.2 11 (by decide)) (ofz.2.2 12 (by decide)) (ofz.2.2 13 (by decide))) (fun _ => ⟨?_, hv⟩) (fun h_z => absurd rfl h_z)
    refine tlM_gu htl (by omega) (by rw [vg50]; omega) ?_ (fun k k1_z k2_z => ?_)
    · rw [wg50 _ (by omega), vg40]; exact v14b
    · rw [wg50 _ k1_z, wg40 _ k2_z, w14]
  · have hv : guP B n t p = ((nuP B n (nxP B n p)).1, (nuP B n (nxP B n p)).2.1, t) := hv0.trans (if_pos h1)
    refine r_aloadR0 dX12_readGuest_0 ?_
    refine n_iconst dX12_readGuest_1 (by decide) (fun r1 e1_z => ?_)
    refine n_iconst dX12_readGuest_2 (by decide) (fun r2 e2_z => ?_)
    refine q_callV2 zm_RX12_213 dX12_readGuest_3 (shM_k hs) (by decide) rfl (Nat.le_of_ble_eq_true rfl) (Nat.le_of_ble_eq_true rfl) (Nat.le_of_ble_eq_true rfl) (Nat.le_of_ble_eq_true rfl) (Nat.le_of_ble_eq_true rfl) (s_X12_begins (m := 2) (k := 4) (c := t.1.2.2.length) G hs htp hps e1_z (by decide) e2_z t2 h3 (fun r3 g3_z o3 a3 b3 => ?_))
    obtain ⟨r3b, p3⟩ := b3 (by omega)
    have htp3 := tpM_of htp (o3.2.1 5 (by decide) (by decide) (by decide)) (o3.2.2 7 (by decide))
    have w3 : g3_z (A + 2) = f (A + 2) := o3.2.1 2 (by decide) (by decide) (by decide)
    refine t_ifne (t := 10) dX12_readGuest_6 (by decide) (fun h6 => ?_) (fun h6 => False.elim (by omega))
    refine r_aloadR0 dX12_readGuest_10 ?_
    refine n_iconst dX12_readGuest_11 (by decide) (fun r11 e11_z => ?_)
    refine n_bipush dX12_readGuest_12 (by decide) (fun r12 e12_z => ?_)
    refine q_callV2 zm_RX12_209 dX12_readGuest_14 (shM_k hs) (by decide) rfl (Nat.le_of_ble_eq_true rfl) (Nat.le_of_ble_eq_true rfl) (Nat.le_of_ble_eq_true rfl) (Nat.le_of_ble_eq_true rfl) (Nat.le_of_ble_eq_true rfl) (s_X12_number (p := nxP B n p) (h_z := 99) G hs htp3 p3 e11_z e12_z (fun r14 g14 o14 p14 v14 z14 => ?_))
    rw [nu_eq] at p14 v14 z14
    have w14 : g14 (A + 2) = f (A + 2) := (o14.2.1 2 (by decide) (by decide) (by decide)).trans w3
    have of14 : frM A [] [8, 9, 10, 11, 12, 13] f g14 := frM_tr o3 o14
    have nb14 : (g14 A 12).toInt ≠ 0 := by rw [p14.1]; omega
    refine r_istore1 dX12_readGuest_17 rfl ?_
    refine r_aloadR0 dX12_readGuest_18 ?_
    refine m_getV (x := (g14 A 12)) zf_RX12_112 rfl dX12_readGuest_19 (shM_k hs) (rfl) ?_
    refine t_ifeq (t := 26) dX12_readGuest_22 (by decide) (fun h22 => False.elim (by omega)) (fun h22 => ?_)
    refine r_vret dX12_readGuest_25 rfl (Nat.le_of_ble_eq_true rfl) (Nat.le_of_ble_eq_true rfl) ?_
    exact hQ g14 _ _ t rfl (frM_su of14 (by decide) (by decide)) p14 (fun h_z => absurd h_z h1) (fun _ => hv)
set_option maxHeartbeats 4000000 in
set_option maxRecDepth 100000 in
theorem s_X12_readStop {g : zGT} {w : zW} {f : Nat → Nat → Int32} {j : Nat → Nat → Int64} {A : Nat} {B : Nat → Nat} {n : Nat} {e q : Nat} {t : zNl} {Q : Option Value → zW → Prop} {QX : String → zW → Prop} (G : zGok g) (hs : shM w A) (htp : tpM B n f A) (hps : psM B n f A e q) (htl : e = 0 → tlM (f (A + 2)) t) (hl : t.1.1 ≤ 900) (hQ : ∀ f2_z, frM A [2] [8, 9, 10, 11, 12, 13] f f2_z → (e ≠ 0 → psM B n f2_z A e q) → (e = 0 → psM B n f2_z A (fiP B n t q).1 (fiP B n t q).2.1 ∧ ((fiP B n t q).1 = 0 → tlM (f2_z (A + 2)) (fiP B n t q).2.2)) → Q none (zM w f2_z j)) : zC g 5 yX12_readStop cX12_readStop 1 none [.ref A] (zM w f j) (0, 0) Q QX := by
  refine zC_of G (by decide +kernel) (Nat.le_of_ble_eq_true rfl) ?_
  by_cases he : e = 0
  · have hps2 := psM_e hps he
    have htl2 := htl he
    obtain ⟨⟨t0, t1⟩, t9⟩ := htl2
    by_cases h1 : tkP B n q = 59
    · have hv : (fiP B n t q) = (0, nxP B n q, ((t.1.1 + 1, t.1.2.1, t.1.2.2), t.2)) := if_pos h1
      rw [hv] at hQ
      refine r_aloadR0 dX12_readStop_0 ?_
      refine n_bipush dX12_readStop_1 (by decide) (fun r1 e1_z => ?_)
      refine q_callV1 zm_RX12_151 dX12_readStop_3 (shM_k hs) (by decide) rfl (Nat.le_of_ble_eq_true rfl) (Nat.le_of_ble_eq_true rfl) (Nat.le_of_ble_eq_true rfl) (Nat.le_of_ble_eq_true rfl) (Nat.le_of_ble_eq_true rfl) (s_X12_mustSign (p := q) (c := 59) G hs htp hps2 e1_z (by decide) (fun g3_z o3 a3 b3 => ?_))
      have p3 := a3 h1
      have k3_z := p3.1
      have w3 : g3_z (A + 2) = f (A + 2) := o3.2.1 2 (by decide) (by decide) (by decide)
      have u3 : (g3_z (A + 2) 0).toInt = (t.1.1 : Nat) := by rw [w3]; exact t0
      refine r_aloadR0 dX12_readStop_6 ?_
      refine m_getV (x := (g3_z A 12)) zf_RX12_112 rfl dX12_readStop_7 (shM_k hs) (rfl) ?_
      refine t_ifne (t := 23) dX12_readStop_10 (by decide) (fun h10 => False.elim (by omega)) (fun h10 => ?_)
      refine r_aloadR0 dX12_readStop_13 ?_
      refine m_getR (q := (A + 2)) zf_RX12_13 rfl dX12_readStop_14 (shM_k hs) (shM_p2 hs) ?_
      refine n_iconst dX12_readStop_17 (by decide) (fun r17 e17_z => ?_)
      refine r_dup2 dX12_readStop_18 rfl rfl ?_
      refine m_iald (k := 0) (x := (g3_z (A + 2) 0)) dX12_readStop_19 (shM_k2 hs) (shM_n2 hs) (by omega) (by omega) (rfl) ?_
      refine n_iconst dX12_readStop_20 (by decide) (fun r20 e20 => ?_)
      refine n_iadd dX12_readStop_21 (by omega) (fun r21 e21_z => ?_)
      refine m_iast (k := 0) dX12_readStop_22 (shM_k2 hs) (shM_n2 hs) (by omega) (by omega) ?_
      obtain ⟨g22, hg22⟩ : ∃ g9, g9 = zu g3_z (A + 2) 0 r21 := ⟨_, rfl⟩
      rw [← hg22]
      have og22 : frM A [2] [] g3_z g22 := by rw [hg22]; exact frM_zr frM_rf (by decide) (by decide) (by decide)
      have vg22 : g22 (A + 2) 0 = r21 := by rw [hg22]; exact zu_at
      have wg22 : ∀ i9_z, i9_z ≠ 0 → g22 (A + 2) i9_z = g3_z (A + 2) i9_z := by intro i9_z h9; rw [hg22]; exact zu_ni h9
      refine r_vret dX12_readStop_23 rfl (Nat.le_of_ble_eq_true rfl) (Nat.le_of_ble_eq_true rfl) ?_
      refine hQ g22 (frM_tr (frM_su o3 (by decide) (by decide)) (frM_su og22 (by decide) (by decide))) (fun h_z => absurd he h_z) (fun _ => ⟨(psM_of p3 (og22.2.2 8 (by decide)) (og22.2.2 9 (by decide)) (og22.2.2 10 (by decide)) (og22.2.2 11 (by decide)) (og22.2.2 12 (by decide)) (og22.2.2 13 (by decide))), fun _ => ?_⟩)
      exact tlM_li (htl he) (by rw [vg22]; omega) (fun k k1_z => by rw [wg22 _ k1_z, w3])
    · have hv : (fiP B n t q) = (baP B n q, q, t) := if_neg h1
      rw [hv] at hQ
      have hba := ba_bd (B := B) (n := n) (s := q)
      refine r_aloadR0 dX12_readStop_0 ?_
      refine n_bipush dX12_readStop_1 (by decide) (fun r1 e1_z => ?_)
      refine q_callV1 zm_RX12_151 dX12_readStop_3 (shM_k hs) (by decide) rfl (Nat.le_of_ble_eq_true rfl) (Nat.le_of_ble_eq_true rfl) (Nat.le_of_ble_eq_true rfl) (Nat.le_of_ble_eq_true rfl) (Nat.le_of_ble_eq_true rfl) (s_X12_mustSign (p := q) (c := 59) G hs htp hps2 e1_z (by decide) (fun g3_z o3 a3 b3 => ?_))
      have p3 := b3 h1
      have k3_z := p3.1
      refine r_aloadR0 dX12_readStop_6 ?_
      refine m_getV (x := (g3_z A 12)) zf_RX12_112 rfl dX12_readStop_7 (shM_k hs) (rfl) ?_
      refine t_ifne (t := 23) dX12_readStop_10 (by decide) (fun h10 => ?_) (fun h10 => False.elim (by omega))
      refine r_vret dX12_readStop_23 rfl (Nat.le_of_ble_eq_true rfl) (Nat.le_of_ble_eq_true rfl) ?_
      exact hQ g3_z (frM_su o3 (by decide) (by decide)) (fun h_z => absurd he h_z) (fun _ => ⟨p3, fun h_z => absurd h_z hba.1⟩)
  · have nb : (f A 12).toInt ≠ 0 := by rw [hps.1]; omega
    refine r_aloadR0 dX12_readStop_0 ?_
    refine n_bipush dX12_readStop_1 (by decide) (fun r1 e1_z => ?_)
    refine q_callV1 zm_RX12_151 dX12_readStop_3 (shM_k hs) (by decide) rfl (Nat.le_of_ble_eq_true rfl) (Nat.le_of_ble_eq_true rfl) (Nat.le_of_ble_eq_true rfl) (Nat.le_of_ble_eq_true rfl) (Nat.le_of_ble_eq_true rfl) (s_X12_mustSign_x G hs nb ?_)
    refine r_aloadR0 dX12_readStop_6 ?_
    refine m_getV (x := (f A 12)) zf_RX12_112 rfl dX12_readStop_7 (shM_k hs) (rfl) ?_
    refine t_ifne (t := 23) dX12_readStop_10 (by decide) (fun h10 => ?_) (fun h10 => False.elim (by omega))
    refine r_vret dX12_readStop_23 rfl (Nat.le_of_ble_eq_true rfl) (Nat.le_of_ble_eq_true rfl) ?_
    exact hQ f frM_rf (fun _ => hps) (fun h_z => absurd h_z he)
set_option maxHeartbeats 4000000 in
set_option maxRecDepth 100000 in
theorem s_X12_readLine {g : zGT} {w : zW} {f : Nat → Nat → Int32} {j : Nat → Nat → Int64} {A : Nat} {B : Nat → Nat} {n : Nat} {wa wv : Nat → Nat} {kq : Nat} {p : Nat} {t : zNl} {Q : Option Value → zW → Prop} {QX : String → zW → Prop} (G : zGok g) (hs : shM w A) (kw : kWd g wa wv kq) (hld : kLd g wa) (htp : tpM B n f A) (hps : psM B n f A 0 p) (hd16 : (f A 16).toInt = 0) (hg : nlG n (0, p, t)) (htl : tlM (f (A + 2)) t) (hQ : ∀ f2_z, frM A [2] [8, 9, 10, 11, 12, 13, 16, 17, 18] f f2_z → (f2_z A 16).toInt = 0 → psM B n f2_z A (lnP B n t p).1 (lnP B n t p).2.1 → ((lnP B n t p).1 = 0 → tlM (f2_z (A + 2)) (lnP B n t p).2.2) → Q none (zM w f2_z j)) : zC g 80 yX12_readLine cX12_readLine 1 none [.ref A] (zM w f j) (0, 0) Q QX := by
  refine zC_of G (by decide +kernel) (Nat.le_of_ble_eq_true rfl) ?_
  have ht := hps.2.1 rfl
  have h12 := hps.1
  have h900 := htp.2.1
  have hl9 : t.1.1 ≤ 900 := Nat.le_trans hg.2.2.1 (Nat.le_trans ht.1 h900)
  have hl4 : t.1.2.2.length ≤ 4 := hg.2.2.2.2.1
  have hlw : t.2.1.length ≤ 900 ∧ t.2.2.1.length ≤ 900 ∧ t.2.2.2.length ≤ 900 := ⟨hg.2.2.2.2.2.2.2.1.1, hg.2.2.2.2.2.2.2.2.1.1, hg.2.2.2.2.2.2.2.2.2.1⟩
  by_cases hw0 : isWd B n p 0 = true
  · have hwt := isWd_tk hw0
    have hv : (lnP B n t p) = ceP B n t p := (if_pos hwt.1).trans (if_pos hwt.2)
    rw [hv] at hQ
    refine r_aloadR0 dX12_readLine_0 ?_
    refine k_ldc (hld _ (List.mem_of_getElem? (i := 12) rfl)) dX12_readLine_1 ?_
    refine q_callV1 zm_RX12_127 dX12_readLine_3 (shM_k hs) (by decide) rfl (Nat.le_of_ble_eq_true rfl) (Nat.le_of_ble_eq_true rfl) (Nat.le_of_ble_eq_true rfl) (Nat.le_of_ble_eq_true rfl) (Nat.le_of_ble_eq_true rfl) (s_X12_isWord (i := 0) G hs kw (by decide) htp hps (fun r3 e3_z => ?_))
    have e3b : r3.toInt = 1 := e3_z.elim (fun h_z => h_z.1) (fun h_z => absurd hw0 h_z.2)
    refine t_ifeq (t := 16) dX12_readLine_6 (by decide) (fun h6 => False.elim (by omega)) (fun h6 => ?_)
    refine r_aloadR0 dX12_readLine_9 ?_
    refine q_callV0 zm_RX12_225 dX12_readLine_10 (shM_k hs) (by decide) rfl (Nat.le_of_ble_eq_true rfl) (Nat.le_of_ble_eq_true rfl) (Nat.le_of_ble_eq_true rfl) (Nat.le_of_ble_eq_true rfl) (Nat.le_of_ble_eq_true rfl) (s_X12_readCell G hs kw hld htp hps hg htl hwt.1 (fun gl e q t2 ht2 ol pl al bl => ?_))
    by_cases he : e = 0
    · refine r_goto (t := 109) dX12_readLine_13 (by decide) ?_
      refine r_aloadR0 dX12_readLine_109 ?_
      refine q_callV0 zm_RX12_241 dX12_readLine_110 (shM_k hs) (by decide) rfl (Nat.le_of_ble_eq_true rfl) (Nat.le_of_ble_eq_true rfl) (Nat.le_of_ble_eq_true rfl) (Nat.le_of_ble_eq_true rfl) (Nat.le_of_ble_eq_true rfl) (s_X12_readStop (e := e) (q := q) (t := t2) G hs (tpM_of htp (ol.2.1 5 (by decide) (by decide) (by decide)) (ol.2.2 7 (by decide))) pl (fun h_z => (al h_z).1) (by rw [ht2]; exact hl9) (fun g110 o110 a110 b110 => ?_))
      refine r_vret dX12_readLine_113 rfl (Nat.le_of_ble_eq_true rfl) (Nat.le_of_ble_eq_true rfl) ?_
      have ofr : frM A [2] [8, 9, 10, 11, 12, 13, 16, 17, 18] f g110 := frM_tr (frM_su ol (by decide) (by decide)) (frM_su o110 (by decide) (by decide))
      obtain ⟨c1_z, c2_z⟩ := b110 he
      rw [(al he).2] at hQ
      exact hQ g110 ofr (by rw [o110.2.2 16 (by decide), ol.2.2 16 (by decide)]; exact hd16) c1_z c2_z
    · refine r_goto (t := 109) dX12_readLine_13 (by decide) ?_
      refine r_aloadR0 dX12_readLine_109 ?_
      refine q_callV0 zm_RX12_241 dX12_readLine_110 (shM_k hs) (by decide) rfl (Nat.le_of_ble_eq_true rfl) (Nat.le_of_ble_eq_true rfl) (Nat.le_of_ble_eq_true rfl) (Nat.le_of_ble_eq_true rfl) (Nat.le_of_ble_eq_true rfl) (s_X12_readStop (e := e) (q := q) (t := t2) G hs (tpM_of htp (ol.2.1 5 (by decide) (by decide) (by decide)) (ol.2.2 7 (by decide))) pl (fun h_z => (al h_z).1) (by rw [ht2]; exact hl9) (fun g110 o110 a110 b110 => ?_))
      refine r_vret dX12_readLine_113 rfl (Nat.le_of_ble_eq_true rfl) (Nat.le_of_ble_eq_true rfl) ?_
      have ofr : frM A [2] [8, 9, 10, 11, 12, 13, 16, 17, 18] f g110 := frM_tr (frM_su ol (by decide) (by decide)) (frM_su o110 (by decide) (by decide))
      rw [bl he] at hQ
      exact hQ g110 ofr (by rw [o110.2.2 16 (by decide), ol.2.2 16 (by decide)]; exact hd16) (a110 he) (fun h_z => absurd h_z he)
  by_cases hw2 : isWd B n p 2 = true
  · have hwt := isWd_tk hw2
    have hv : (lnP B n t p) = guP B n t p := (if_pos hwt.1).trans ((if_neg (by omega)).trans (if_pos hwt.2))
    rw [hv] at hQ
    refine r_aloadR0 dX12_readLine_0 ?_
    refine k_ldc (hld _ (List.mem_of_getElem? (i := 12) rfl)) dX12_readLine_1 ?_
    refine q_callV1 zm_RX12_127 dX12_readLine_3 (shM_k hs) (by decide) rfl (Nat.le_of_ble_eq_true rfl) (Nat.le_of_ble_eq_true rfl) (Nat.le_of_ble_eq_true rfl) (Nat.le_of_ble_eq_true rfl) (Nat.le_of_ble_eq_true rfl) (s_X12_isWord (i := 0) G hs kw (by decide) htp hps (fun r3 e3_z => ?_))
    have e3b : r3.toInt = 0 := e3_z.elim (fun h_z => absurd h_z.2 hw0) (fun h_z => h_z.1)
    refine t_ifeq (t := 16) dX12_readLine_6 (by decide) (fun h6 => ?_) (fun h6 => False.elim (by omega))
    refine r_aloadR0 dX12_readLine_16 ?_
    refine k_ldc (hld _ (List.mem_of_getElem? (i := 9) rfl)) dX12_readLine_17 ?_
    refine q_callV1 zm_RX12_127 dX12_readLine_19 (shM_k hs) (by decide) rfl (Nat.le_of_ble_eq_true rfl) (Nat.le_of_ble_eq_true rfl) (Nat.le_of_ble_eq_true rfl) (Nat.le_of_ble_eq_true rfl) (Nat.le_of_ble_eq_true rfl) (s_X12_isWord (i := 2) G hs kw (by decide) htp hps (fun r19 e19_z => ?_))
    have e19b : r19.toInt = 1 := e19_z.elim (fun h_z => h_z.1) (fun h_z => absurd hw2 h_z.2)
    refine t_ifeq (t := 32) dX12_readLine_22 (by decide) (fun h22 => False.elim (by omega)) (fun h22 => ?_)
    refine r_aloadR0 dX12_readLine_25 ?_
    refine q_callV0 zm_RX12_228 dX12_readLine_26 (shM_k hs) (by decide) rfl (Nat.le_of_ble_eq_true rfl) (Nat.le_of_ble_eq_true rfl) (Nat.le_of_ble_eq_true rfl) (Nat.le_of_ble_eq_true rfl) (Nat.le_of_ble_eq_true rfl) (s_X12_readGuest G hs kw hld htp hps hg htl hwt.1 (fun gl e q t2 ht2 ol pl al bl => ?_))
    by_cases he : e = 0
    · refine r_goto (t := 109) dX12_readLine_29 (by decide) ?_
      refine r_aloadR0 dX12_readLine_109 ?_
      refine q_callV0 zm_RX12_241 dX12_readLine_110 (shM_k hs) (by decide) rfl (Nat.le_of_ble_eq_true rfl) (Nat.le_of_ble_eq_true rfl) (Nat.le_of_ble_eq_true rfl) (Nat.le_of_ble_eq_true rfl) (Nat.le_of_ble_eq_true rfl) (s_X12_readStop (e := e) (q := q) (t := t2) G hs (tpM_of htp (ol.2.1 5 (by decide) (by decide) (by decide)) (ol.2.2 7 (by decide))) pl (fun h_z => (al h_z).1) (by rw [ht2]; exact hl9) (fun g110 o110 a110 b110 => ?_))
      refine r_vret dX12_readLine_113 rfl (Nat.le_of_ble_eq_true rfl) (Nat.le_of_ble_eq_true rfl) ?_
      have ofr : frM A [2] [8, 9, 10, 11, 12, 13, 16, 17, 18] f g110 := frM_tr (frM_su ol (by decide) (by decide)) (frM_su o110 (by decide) (by decide))
      obtain ⟨c1_z, c2_z⟩ := b110 he
      rw [(al he).2] at hQ
      exact hQ g110 ofr (by rw [o110.2.2 16 (by decide), ol.2.2 16 (by decide)]; exact hd16) c1_z c2_z
    · refine r_goto (t := 109) dX12_readLine_29 (by decide) ?_
      refine r_aloadR0 dX12_readLine_109 ?_
      refine q_callV0 zm_RX12_241 dX12_readLine_110 (shM_k hs) (by decide) rfl (Nat.le_of_ble_eq_true rfl) (Nat.le_of_ble_eq_true rfl) (Nat.le_of_ble_eq_true rfl) (Nat.le_of_ble_eq_true rfl) (Nat.le_of_ble_eq_true rfl) (s_X12_readStop (e := e) (q := q) (t := t2) G hs (tpM_of htp (ol.2.1 5 (by decide) (by decide) (by decide)) (ol.2.2 7 (by decide))) pl (fun h_z => (al h_z).1) (by rw [ht2]; exact hl9) (fun g110 o110 a110 b110 => ?_))
      refine r_vret dX12_readLine_113 rfl (Nat.le_of_ble_eq_true rfl) (Nat.le_of_ble_eq_true rfl) ?_
      have ofr : frM A [2] [8, 9, 10, 11, 12, 13, 16, 17, 18] f g110 := frM_tr (frM_su ol (by decide) (by decide)) (frM_su o110 (by decide) (by decide))
      rw [bl he] at hQ
      exact hQ g110 ofr (by rw [o110.2.2 16 (by decide), ol.2.2 16 (by decide)]; exact hd16) (a110 he) (fun h_z => absurd h_z he)
  by_cases hw3 : isWd B n p 3 = true
  · have hwt := isWd_tk hw3
    have hv : (lnP B n t p) = laP B n 3 t p := (if_pos hwt.1).trans ((if_neg (by omega)).trans ((if_neg (by omega)).trans ((if_pos (by omega)).trans (by rw [hwt.2]))))
    rw [hv] at hQ
    have hpn : p < n := tk_lt (B := B) (by rw [hwt.1]; decide)
    have hnx := nxP_gt (B := B) hpn
    refine r_aloadR0 dX12_readLine_0 ?_
    refine k_ldc (hld _ (List.mem_of_getElem? (i := 12) rfl)) dX12_readLine_1 ?_
    refine q_callV1 zm_RX12_127 dX12_readLine_3 (shM_k hs) (by decide) rfl (Nat.le_of_ble_eq_true rfl) (Nat.le_of_ble_eq_true rfl) (Nat.le_of_ble_eq_true rfl) (Nat.le_of_ble_eq_true rfl) (Nat.le_of_ble_eq_true rfl) (s_X12_isWord (i := 0) G hs kw (by decide) htp hps (fun r3 e3_z => ?_))
    have e3b : r3.toInt = 0 := e3_z.elim (fun h_z => absurd h_z.2 hw0) (fun h_z => h_z.1)
    refine t_ifeq (t := 16) dX12_readLine_6 (by decide) (fun h6 => ?_) (fun h6 => False.elim (by omega))
    refine r_aloadR0 dX12_readLine_16 ?_
    refine k_ldc (hld _ (List.mem_of_getElem? (i := 9) rfl)) dX12_readLine_17 ?_
    refine q_callV1 zm_RX12_127 dX12_readLine_19 (shM_k hs) (by decide) rfl (Nat.le_of_ble_eq_true rfl) (Nat.le_of_ble_eq_true rfl) (Nat.le_of_ble_eq_true rfl) (Nat.le_of_ble_eq_true rfl) (Nat.le_of_ble_eq_true rfl) (s_X12_isWord (i := 2) G hs kw (by decide) htp hps (fun r19 e19_z => ?_))
    have e19b : r19.toInt = 0 := e19_z.elim (fun h_z => absurd h_z.2 hw2) (fun h_z => h_z.1)
    refine t_ifeq (t := 32) dX12_readLine_22 (by decide) (fun h22 => ?_) (fun h22 => False.elim (by omega))
    refine r_aloadR0 dX12_readLine_32 ?_
    refine k_ldc (hld _ (List.mem_of_getElem? (i := 13) rfl)) dX12_readLine_33 ?_
    refine q_callV1 zm_RX12_142 dX12_readLine_35 (shM_k hs) (by decide) rfl (Nat.le_of_ble_eq_true rfl) (Nat.le_of_ble_eq_true rfl) (Nat.le_of_ble_eq_true rfl) (Nat.le_of_ble_eq_true rfl) (Nat.le_of_ble_eq_true rfl) (s_X12_took_t (i := 3) G hs kw (by decide) htp hps hw3 (fun r35 g35 e35 o35 p35 => ?_))
    have htp35 := tpM_of htp (o35.2.1 5 (by decide) (by decide) (by decide)) (o35.2.2 7 (by decide))
    refine t_ifeq (t := 56) dX12_readLine_38 (by decide) (fun h38 => False.elim (by omega)) (fun h38 => ?_)
    refine r_aloadR0 dX12_readLine_41 ?_
    refine n_iconst dX12_readLine_42 (by decide) (fun r42 e42_z => ?_)
    refine n_sipush dX12_readLine_43 (by decide) (fun r43 e43 => ?_)
    refine q_callV2 zm_RX12_233 dX12_readLine_46 (shM_k hs) (by decide) rfl (Nat.le_of_ble_eq_true rfl) (Nat.le_of_ble_eq_true rfl) (Nat.le_of_ble_eq_true rfl) (Nat.le_of_ble_eq_true rfl) (Nat.le_of_ble_eq_true rfl) (s_X12_beginsLaw (lm := 3) (la := 209) (p := nxP B n p) G hs htp35 p35 e42_z e43 (by decide) (fun gb ob lb1 lb2 lb3 wb ab bb => ?_))
    have ofb : frM A [2] [8, 9, 10, 11, 12, 13, 16, 17, 18] f gb := frM_tr (frM_su o35 (by decide) (by decide)) (frM_su ob (by decide) (by decide))
    have htpb := tpM_of htp (ofb.2.1 5 (by decide) (by decide) (by decide)) (ofb.2.2 7 (by decide))
    have db : (gb A 16).toInt = 0 := by rw [ob.2.2 16 (by decide), o35.2.2 16 (by decide)]; exact hd16
    have wb2 : ∀ k, k ≠ 3 → gb (A + 2) k = f (A + 2) k := fun k hk => (wb k hk).trans (by rw [o35.2.1 2 (by decide) (by decide) (by decide)])
    have tls : ∀ (c : List Nat) (gs : Nat → Nat → Int32), okM gb gs A 3 209 0 c → tlM (gs (A + 2)) (stL 3 t c) := fun c gs ks => tlM_la (la := 209) htl (by omega) rfl hl4 hlw (by rw [ks.1, Nat.zero_add]) (fun x o ho => ks.2.2 x o ho) (fun k k1_z k2_z => (ks.2.1 k k1_z (by omega)).trans (wb2 k k1_z))
    by_cases hc_z : tkP B n (nxP B n p) = 58
    · have pb := ab hc_z
      have hpn2 : nxP B n p < n := tk_lt (B := B) (by rw [hc_z]; decide)
      have hnx2 := nxP_gt (B := B) hpn2
      have hv2 : laP B n 3 t p = la2P B n 3 t (lwP B n 3 (nxP B n (nxP B n p))) := if_pos hc_z
      rw [hv2] at hQ
      refine r_aloadR0 dX12_readLine_49 ?_
      refine q_callV0 zm_RX12_181 dX12_readLine_50 (shM_k hs) (by decide) rfl (Nat.le_of_ble_eq_true rfl) (Nat.le_of_ble_eq_true rfl) (Nat.le_of_ble_eq_true rfl) (Nat.le_of_ble_eq_true rfl) (Nat.le_of_ble_eq_true rfl) (s_X12_readSum_6 (lm := 3) (la := 209) (u := 0) G hs kw hld htpb pb (by rw [db] <;> rfl) lb1 lb2 (by rw [lb3] <;> rfl) (by decide) (by decide) (by decide) (Nat.zero_le _) (fun gs os ds ps ks => ?_))
      have hlw9 : (lwP B n 3 (nxP B n (nxP B n p))) = smP B n (if 3 = 5 then 8 else 6) 6 (nxP B n (nxP B n p)) := if_neg (by decide)
      have ps2 : psM B n gs A (lwP B n 3 (nxP B n (nxP B n p))).1 (lwP B n 3 (nxP B n (nxP B n p))).2.1 := by rw [hlw9]; exact ps
      have ks2 : (lwP B n 3 (nxP B n (nxP B n p))).1 = 0 → okM gb gs A 3 209 0 (lwP B n 3 (nxP B n (nxP B n p))).2.2 := by rw [hlw9]; exact ks
      clear ps ks
      have ofs : frM A [2] [8, 9, 10, 11, 12, 13, 16, 17, 18] f gs := frM_tr ofb (frM_su os (by decide) (by decide))
      have dsz : (gs A 16).toInt = 0 := ds
      by_cases hr : (lwP B n 3 (nxP B n (nxP B n p))).1 = 0
      · refine r_goto (t := 109) dX12_readLine_53 (by decide) ?_
        refine r_aloadR0 dX12_readLine_109 ?_
        refine q_callV0 zm_RX12_241 dX12_readLine_110 (shM_k hs) (by decide) rfl (Nat.le_of_ble_eq_true rfl) (Nat.le_of_ble_eq_true rfl) (Nat.le_of_ble_eq_true rfl) (Nat.le_of_ble_eq_true rfl) (Nat.le_of_ble_eq_true rfl) (s_X12_readStop (e := 0) (q := (lwP B n 3 (nxP B n (nxP B n p))).2.1) (t := stL 3 t (lwP B n 3 (nxP B n (nxP B n p))).2.2) G hs (tpM_of htp (ofs.2.1 5 (by decide) (by decide) (by decide)) (ofs.2.2 7 (by decide))) (psM_e ps2 hr) (fun _ => tls (lwP B n 3 (nxP B n (nxP B n p))).2.2 gs (ks2 hr)) hl9 (fun g110 o110 a110 b110 => ?_))
        refine r_vret dX12_readLine_113 rfl (Nat.le_of_ble_eq_true rfl) (Nat.le_of_ble_eq_true rfl) ?_
        have hv3 : la2P B n 3 t (lwP B n 3 (nxP B n (nxP B n p))) = (fiP B n (stL 3 t (lwP B n 3 (nxP B n (nxP B n p))).2.2) (lwP B n 3 (nxP B n (nxP B n p))).2.1) := if_neg (not_not_intro hr)
        rw [hv3] at hQ
        obtain ⟨c1_z, c2_z⟩ := b110 rfl
        exact hQ g110 (frM_tr ofs (frM_su o110 (by decide) (by decide))) (by rw [o110.2.2 16 (by decide)]; exact dsz) c1_z c2_z
      · refine r_goto (t := 109) dX12_readLine_53 (by decide) ?_
        refine r_aloadR0 dX12_readLine_109 ?_
        refine q_callV0 zm_RX12_241 dX12_readLine_110 (shM_k hs) (by decide) rfl (Nat.le_of_ble_eq_true rfl) (Nat.le_of_ble_eq_true rfl) (Nat.le_of_ble_eq_true rfl) (Nat.le_of_ble_eq_true rfl) (Nat.le_of_ble_eq_true rfl) (s_X12_readStop (e := (lwP B n 3 (nxP B n (nxP B n p))).1) (q := (lwP B n 3 (nxP B n (nxP B n p))).2.1) (t := t) G hs (tpM_of htp (ofs.2.1 5 (by decide) (by decide) (by decide)) (ofs.2.2 7 (by decide))) ps2 (fun h_z => absurd h_z hr) hl9 (fun g110 o110 a110 b110 => ?_))
        refine r_vret dX12_readLine_113 rfl (Nat.le_of_ble_eq_true rfl) (Nat.le_of_ble_eq_true rfl) ?_
        have hv3 : la2P B n 3 t (lwP B n 3 (nxP B n (nxP B n p))) = ((lwP B n 3 (nxP B n (nxP B n p))).1, (lwP B n 3 (nxP B n (nxP B n p))).2.1, t) := if_pos hr
        rw [hv3] at hQ
        exact hQ g110 (frM_tr ofs (frM_su o110 (by decide) (by decide))) (by rw [o110.2.2 16 (by decide)]; exact dsz) (a110 hr) (fun h_z => absurd h_z hr)
    · have pb := bb hc_z
      have hba := ba_bd (B := B) (n := n) (s := nxP B n p)
      have nbb : (gb A 12).toInt ≠ 0 := by rw [pb.1]; omega
      have hv2 : laP B n 3 t p = (baP B n (nxP B n p), nxP B n p, t) := if_neg hc_z
      rw [hv2] at hQ
      refine r_aloadR0 dX12_readLine_49 ?_
      refine q_callV0 zm_RX12_181 dX12_readLine_50 (shM_k hs) (by decide) rfl (Nat.le_of_ble_eq_true rfl) (Nat.le_of_ble_eq_true rfl) (Nat.le_of_ble_eq_true rfl) (Nat.le_of_ble_eq_true rfl) (Nat.le_of_ble_eq_true rfl) (s_X12_readSum_x G hs nbb ?_)
      refine r_goto (t := 109) dX12_readLine_53 (by decide) ?_
      refine r_aloadR0 dX12_readLine_109 ?_
      refine q_callV0 zm_RX12_241 dX12_readLine_110 (shM_k hs) (by decide) rfl (Nat.le_of_ble_eq_true rfl) (Nat.le_of_ble_eq_true rfl) (Nat.le_of_ble_eq_true rfl) (Nat.le_of_ble_eq_true rfl) (Nat.le_of_ble_eq_true rfl) (s_X12_readStop (e := baP B n (nxP B n p)) (q := nxP B n p) (t := t) G hs htpb pb (fun h_z => absurd h_z hba.1) hl9 (fun g110 o110 a110 b110 => ?_))
      refine r_vret dX12_readLine_113 rfl (Nat.le_of_ble_eq_true rfl) (Nat.le_of_ble_eq_true rfl) ?_
      exact hQ g110 (frM_tr ofb (frM_su o110 (by decide) (by decide))) (by rw [o110.2.2 16 (by decide)]; exact db) (a110 hba.1) (fun h_z => absurd h_z hba.1)
  by_cases hw4 : isWd B n p 4 = true
  · have hwt := isWd_tk hw4
    have hv : (lnP B n t p) = laP B n 4 t p := (if_pos hwt.1).trans ((if_neg (by omega)).trans ((if_neg (by omega)).trans ((if_pos (by omega)).trans (by rw [hwt.2]))))
    rw [hv] at hQ
    have hpn : p < n := tk_lt (B := B) (by rw [hwt.1]; decide)
    have hnx := nxP_gt (B := B) hpn
    refine r_aloadR0 dX12_readLine_0 ?_
    refine k_ldc (hld _ (List.mem_of_getElem? (i := 12) rfl)) dX12_readLine_1 ?_
    refine q_callV1 zm_RX12_127 dX12_readLine_3 (shM_k hs) (by decide) rfl (Nat.le_of_ble_eq_true rfl) (Nat.le_of_ble_eq_true rfl) (Nat.le_of_ble_eq_true rfl) (Nat.le_of_ble_eq_true rfl) (Nat.le_of_ble_eq_true rfl) (s_X12_isWord (i := 0) G hs kw (by decide) htp hps (fun r3 e3_z => ?_))
    have e3b : r3.toInt = 0 := e3_z.elim (fun h_z => absurd h_z.2 hw0) (fun h_z => h_z.1)
    refine t_ifeq (t := 16) dX12_readLine_6 (by decide) (fun h6 => ?_) (fun h6 => False.elim (by omega))
    refine r_aloadR0 dX12_readLine_16 ?_
    refine k_ldc (hld _ (List.mem_of_getElem? (i := 9) rfl)) dX12_readLine_17 ?_
    refine q_callV1 zm_RX12_127 dX12_readLine_19 (shM_k hs) (by decide) rfl (Nat.le_of_ble_eq_true rfl) (Nat.le_of_ble_eq_true rfl) (Nat.le_of_ble_eq_true rfl) (Nat.le_of_ble_eq_true rfl) (Nat.le_of_ble_eq_true rfl) (s_X12_isWord (i := 2) G hs kw (by decide) htp hps (fun r19 e19_z => ?_))
    have e19b : r19.toInt = 0 := e19_z.elim (fun h_z => absurd h_z.2 hw2) (fun h_z => h_z.1)
    refine t_ifeq (t := 32) dX12_readLine_22 (by decide) (fun h22 => ?_) (fun h22 => False.elim (by omega))
    refine r_aloadR0 dX12_readLine_32 ?_
    refine k_ldc (hld _ (List.mem_of_getElem? (i := 13) rfl)) dX12_readLine_33 ?_
    refine q_callV1 zm_RX12_142 dX12_readLine_35 (shM_k hs) (by decide) rfl (Nat.le_of_ble_eq_true rfl) (Nat.le_of_ble_eq_true rfl) (Nat.le_of_ble_eq_true rfl) (Nat.le_of_ble_eq_true rfl) (Nat.le_of_ble_eq_true rfl) (s_X12_took_f (i := 3) G hs kw (by decide) htp hps hw3 (fun r35 e35 => ?_))
    refine t_ifeq (t := 56) dX12_readLine_38 (by decide) (fun h38 => ?_) (fun h38 => False.elim (by omega))
    refine r_aloadR0 dX12_readLine_56 ?_
    refine k_ldc (hld _ (List.mem_of_getElem? (i := 14) rfl)) dX12_readLine_57 ?_
    refine q_callV1 zm_RX12_142 dX12_readLine_59 (shM_k hs) (by decide) rfl (Nat.le_of_ble_eq_true rfl) (Nat.le_of_ble_eq_true rfl) (Nat.le_of_ble_eq_true rfl) (Nat.le_of_ble_eq_true rfl) (Nat.le_of_ble_eq_true rfl) (s_X12_took_t (i := 4) G hs kw (by decide) htp hps hw4 (fun r59 g59 e59 o59 p59 => ?_))
    have htp59 := tpM_of htp (o59.2.1 5 (by decide) (by decide) (by decide)) (o59.2.2 7 (by decide))
    refine t_ifeq (t := 80) dX12_readLine_62 (by decide) (fun h62 => False.elim (by omega)) (fun h62 => ?_)
    refine r_aloadR0 dX12_readLine_65 ?_
    refine n_iconst dX12_readLine_66 (by decide) (fun r66 e66 => ?_)
    refine n_sipush dX12_readLine_67 (by decide) (fun r67 e67 => ?_)
    refine q_callV2 zm_RX12_233 dX12_readLine_70 (shM_k hs) (by decide) rfl (Nat.le_of_ble_eq_true rfl) (Nat.le_of_ble_eq_true rfl) (Nat.le_of_ble_eq_true rfl) (Nat.le_of_ble_eq_true rfl) (Nat.le_of_ble_eq_true rfl) (s_X12_beginsLaw (lm := 4) (la := 1109) (p := nxP B n p) G hs htp59 p59 e66 e67 (by decide) (fun gb ob lb1 lb2 lb3 wb ab bb => ?_))
    have ofb : frM A [2] [8, 9, 10, 11, 12, 13, 16, 17, 18] f gb := frM_tr (frM_su o59 (by decide) (by decide)) (frM_su ob (by decide) (by decide))
    have htpb := tpM_of htp (ofb.2.1 5 (by decide) (by decide) (by decide)) (ofb.2.2 7 (by decide))
    have db : (gb A 16).toInt = 0 := by rw [ob.2.2 16 (by decide), o59.2.2 16 (by decide)]; exact hd16
    have wb2 : ∀ k, k ≠ 4 → gb (A + 2) k = f (A + 2) k := fun k hk => (wb k hk).trans (by rw [o59.2.1 2 (by decide) (by decide) (by decide)])
    have tls : ∀ (c : List Nat) (gs : Nat → Nat → Int32), okM gb gs A 4 1109 0 c → tlM (gs (A + 2)) (stL 4 t c) := fun c gs ks => tlM_la (la := 1109) htl (by omega) rfl hl4 hlw (by rw [ks.1, Nat.zero_add]) (fun x o ho => ks.2.2 x o ho) (fun k k1_z k2_z => (ks.2.1 k k1_z (by omega)).trans (wb2 k k1_z))
    by_cases hc_z : tkP B n (nxP B n p) = 58
    · have pb := ab hc_z
      have hpn2 : nxP B n p < n := tk_lt (B := B) (by rw [hc_z]; decide)
      have hnx2 := nxP_gt (B := B) hpn2
      have hv2 : laP B n 4 t p = la2P B n 4 t (lwP B n 4 (nxP B n (nxP B n p))) := if_pos hc_z
      rw [hv2] at hQ
      refine r_aloadR0 dX12_readLine_73 ?_
      refine q_callV0 zm_RX12_178 dX12_readLine_74 (shM_k hs) (by decide) rfl (Nat.le_of_ble_eq_true rfl) (Nat.le_of_ble_eq_true rfl) (Nat.le_of_ble_eq_true rfl) (Nat.le_of_ble_eq_true rfl) (Nat.le_of_ble_eq_true rfl) (s_X12_readTruth_6 (lm := 4) (la := 1109) (u := 0) G hs kw hld htpb pb (by rw [db] <;> rfl) lb1 lb2 (by rw [lb3] <;> rfl) (by decide) (by decide) (by decide) (Nat.zero_le _) (fun gs os ds ps ks => ?_))
      have hlw9 : (lwP B n 4 (nxP B n (nxP B n p))) = trP B n 6 6 (nxP B n (nxP B n p)) := if_pos rfl
      rw [show (if (4 : Nat) = 5 then 8 else 6) = 6 from if_neg (by decide)] at ps ks
      have ps2 : psM B n gs A (lwP B n 4 (nxP B n (nxP B n p))).1 (lwP B n 4 (nxP B n (nxP B n p))).2.1 := by rw [hlw9]; exact ps
      have ks2 : (lwP B n 4 (nxP B n (nxP B n p))).1 = 0 → okM gb gs A 4 1109 0 (lwP B n 4 (nxP B n (nxP B n p))).2.2 := by rw [hlw9]; exact ks
      clear ps ks
      have ofs : frM A [2] [8, 9, 10, 11, 12, 13, 16, 17, 18] f gs := frM_tr ofb (frM_su os (by decide) (by decide))
      have dsz : (gs A 16).toInt = 0 := ds
      by_cases hr : (lwP B n 4 (nxP B n (nxP B n p))).1 = 0
      · refine r_goto (t := 109) dX12_readLine_77 (by decide) ?_
        refine r_aloadR0 dX12_readLine_109 ?_
        refine q_callV0 zm_RX12_241 dX12_readLine_110 (shM_k hs) (by decide) rfl (Nat.le_of_ble_eq_true rfl) (Nat.le_of_ble_eq_true rfl) (Nat.le_of_ble_eq_true rfl) (Nat.le_of_ble_eq_true rfl) (Nat.le_of_ble_eq_true rfl) (s_X12_readStop (e := 0) (q := (lwP B n 4 (nxP B n (nxP B n p))).2.1) (t := stL 4 t (lwP B n 4 (nxP B n (nxP B n p))).2.2) G hs (tpM_of htp (ofs.2.1 5 (by decide) (by decide) (by decide)) (ofs.2.2 7 (by decide))) (psM_e ps2 hr) (fun _ => tls (lwP B n 4 (nxP B n (nxP B n p))).2.2 gs (ks2 hr)) hl9 (fun g110 o110 a110 b110 => ?_))
        refine r_vret dX12_readLine_113 rfl (Nat.le_of_ble_eq_true rfl) (Nat.le_of_ble_eq_true rfl) ?_
        have hv3 : la2P B n 4 t (lwP B n 4 (nxP B n (nxP B n p))) = (fiP B n (stL 4 t (lwP B n 4 (nxP B n (nxP B n p))).2.2) (lwP B n 4 (nxP B n (nxP B n p))).2.1) := if_neg (not_not_intro hr)
        rw [hv3] at hQ
        obtain ⟨c1_z, c2_z⟩ := b110 rfl
        exact hQ g110 (frM_tr ofs (frM_su o110 (by decide) (by decide))) (by rw [o110.2.2 16 (by decide)]; exact dsz) c1_z c2_z
      · refine r_goto (t := 109) dX12_readLine_77 (by decide) ?_
        refine r_aloadR0 dX12_readLine_109 ?_
        refine q_callV0 zm_RX12_241 dX12_readLine_110 (shM_k hs) (by decide) rfl (Nat.le_of_ble_eq_true rfl) (Nat.le_of_ble_eq_true rfl) (Nat.le_of_ble_eq_true rfl) (Nat.le_of_ble_eq_true rfl) (Nat.le_of_ble_eq_true rfl) (s_X12_readStop (e := (lwP B n 4 (nxP B n (nxP B n p))).1) (q := (lwP B n 4 (nxP B n (nxP B n p))).2.1) (t := t) G hs (tpM_of htp (ofs.2.1 5 (by decide) (by decide) (by decide)) (ofs.2.2 7 (by decide))) ps2 (fun h_z => absurd h_z hr) hl9 (fun g110 o110 a110 b110 => ?_))
        refine r_vret dX12_readLine_113 rfl (Nat.le_of_ble_eq_true rfl) (Nat.le_of_ble_eq_true rfl) ?_
        have hv3 : la2P B n 4 t (lwP B n 4 (nxP B n (nxP B n p))) = ((lwP B n 4 (nxP B n (nxP B n p))).1, (lwP B n 4 (nxP B n (nxP B n p))).2.1, t) := if_pos hr
        rw [hv3] at hQ
        exact hQ g110 (frM_tr ofs (frM_su o110 (by decide) (by decide))) (by rw [o110.2.2 16 (by decide)]; exact dsz) (a110 hr) (fun h_z => absurd h_z hr)
    · have pb := bb hc_z
      have hba := ba_bd (B := B) (n := n) (s := nxP B n p)
      have nbb : (gb A 12).toInt ≠ 0 := by rw [pb.1]; omega
      have hv2 : laP B n 4 t p = (baP B n (nxP B n p), nxP B n p, t) := if_neg hc_z
      rw [hv2] at hQ
      refine r_aloadR0 dX12_readLine_73 ?_
      refine q_callV0 zm_RX12_178 dX12_readLine_74 (shM_k hs) (by decide) rfl (Nat.le_of_ble_eq_true rfl) (Nat.le_of_ble_eq_true rfl) (Nat.le_of_ble_eq_true rfl) (Nat.le_of_ble_eq_true rfl) (Nat.le_of_ble_eq_true rfl) (s_X12_readTruth_x G hs kw hld nbb ?_)
      refine r_goto (t := 109) dX12_readLine_77 (by decide) ?_
      refine r_aloadR0 dX12_readLine_109 ?_
      refine q_callV0 zm_RX12_241 dX12_readLine_110 (shM_k hs) (by decide) rfl (Nat.le_of_ble_eq_true rfl) (Nat.le_of_ble_eq_true rfl) (Nat.le_of_ble_eq_true rfl) (Nat.le_of_ble_eq_true rfl) (Nat.le_of_ble_eq_true rfl) (s_X12_readStop (e := baP B n (nxP B n p)) (q := nxP B n p) (t := t) G hs htpb pb (fun h_z => absurd h_z hba.1) hl9 (fun g110 o110 a110 b110 => ?_))
      refine r_vret dX12_readLine_113 rfl (Nat.le_of_ble_eq_true rfl) (Nat.le_of_ble_eq_true rfl) ?_
      exact hQ g110 (frM_tr ofb (frM_su o110 (by decide) (by decide))) (by rw [o110.2.2 16 (by decide)]; exact db) (a110 hba.1) (fun h_z => absurd h_z hba.1)
  by_cases hw5 : isWd B n p 5 = true
  · have hwt := isWd_tk hw5
    have hv : (lnP B n t p) = laP B n 5 t p := (if_pos hwt.1).trans ((if_neg (by omega)).trans ((if_neg (by omega)).trans ((if_pos (by omega)).trans (by rw [hwt.2]))))
    rw [hv] at hQ
    have hpn : p < n := tk_lt (B := B) (by rw [hwt.1]; decide)
    have hnx := nxP_gt (B := B) hpn
    refine r_aloadR0 dX12_readLine_0 ?_
    refine k_ldc (hld _ (List.mem_of_getElem? (i := 12) rfl)) dX12_readLine_1 ?_
    refine q_callV1 zm_RX12_127 dX12_readLine_3 (shM_k hs) (by decide) rfl (Nat.le_of_ble_eq_true rfl) (Nat.le_of_ble_eq_true rfl) (Nat.le_of_ble_eq_true rfl) (Nat.le_of_ble_eq_true rfl) (Nat.le_of_ble_eq_true rfl) (s_X12_isWord (i := 0) G hs kw (by decide) htp hps (fun r3 e3_z => ?_))
    have e3b : r3.toInt = 0 := e3_z.elim (fun h_z => absurd h_z.2 hw0) (fun h_z => h_z.1)
    refine t_ifeq (t := 16) dX12_readLine_6 (by decide) (fun h6 => ?_) (fun h6 => False.elim (by omega))
    refine r_aloadR0 dX12_readLine_16 ?_
    refine k_ldc (hld _ (List.mem_of_getElem? (i := 9) rfl)) dX12_readLine_17 ?_
    refine q_callV1 zm_RX12_127 dX12_readLine_19 (shM_k hs) (by decide) rfl (Nat.le_of_ble_eq_true rfl) (Nat.le_of_ble_eq_true rfl) (Nat.le_of_ble_eq_true rfl) (Nat.le_of_ble_eq_true rfl) (Nat.le_of_ble_eq_true rfl) (s_X12_isWord (i := 2) G hs kw (by decide) htp hps (fun r19 e19_z => ?_))
    have e19b : r19.toInt = 0 := e19_z.elim (fun h_z => absurd h_z.2 hw2) (fun h_z => h_z.1)
    refine t_ifeq (t := 32) dX12_readLine_22 (by decide) (fun h22 => ?_) (fun h22 => False.elim (by omega))
    refine r_aloadR0 dX12_readLine_32 ?_
    refine k_ldc (hld _ (List.mem_of_getElem? (i := 13) rfl)) dX12_readLine_33 ?_
    refine q_callV1 zm_RX12_142 dX12_readLine_35 (shM_k hs) (by decide) rfl (Nat.le_of_ble_eq_true rfl) (Nat.le_of_ble_eq_true rfl) (Nat.le_of_ble_eq_true rfl) (Nat.le_of_ble_eq_true rfl) (Nat.le_of_ble_eq_true rfl) (s_X12_took_f (i := 3) G hs kw (by decide) htp hps hw3 (fun r35 e35 => ?_))
    refine t_ifeq (t := 56) dX12_readLine_38 (by decide) (fun h38 => ?_) (fun h38 => False.elim (by omega))
    refine r_aloadR0 dX12_readLine_56 ?_
    refine k_ldc (hld _ (List.mem_of_getElem? (i := 14) rfl)) dX12_readLine_57 ?_
    refine q_callV1 zm_RX12_142 dX12_readLine_59 (shM_k hs) (by decide) rfl (Nat.le_of_ble_eq_true rfl) (Nat.le_of_ble_eq_true rfl) (Nat.le_of_ble_eq_true rfl) (Nat.le_of_ble_eq_true rfl) (Nat.le_of_ble_eq_true rfl) (s_X12_took_f (i := 4) G hs kw (by decide) htp hps hw4 (fun r59 e59 => ?_))
    refine t_ifeq (t := 80) dX12_readLine_62 (by decide) (fun h62 => ?_) (fun h62 => False.elim (by omega))
    refine r_aloadR0 dX12_readLine_80 ?_
    refine k_ldc (hld _ (List.mem_of_getElem? (i := 15) rfl)) dX12_readLine_81 ?_
    refine q_callV1 zm_RX12_142 dX12_readLine_83 (shM_k hs) (by decide) rfl (Nat.le_of_ble_eq_true rfl) (Nat.le_of_ble_eq_true rfl) (Nat.le_of_ble_eq_true rfl) (Nat.le_of_ble_eq_true rfl) (Nat.le_of_ble_eq_true rfl) (s_X12_took_t (i := 5) G hs kw (by decide) htp hps hw5 (fun r83 g83 e83 o83 p83 => ?_))
    have htp83 := tpM_of htp (o83.2.1 5 (by decide) (by decide) (by decide)) (o83.2.2 7 (by decide))
    refine t_ifeq (t := 104) dX12_readLine_86 (by decide) (fun h86 => False.elim (by omega)) (fun h86 => ?_)
    refine r_aloadR0 dX12_readLine_89 ?_
    refine n_iconst dX12_readLine_90 (by decide) (fun r90 e90_z => ?_)
    refine n_sipush dX12_readLine_91 (by decide) (fun r91 e91 => ?_)
    refine q_callV2 zm_RX12_233 dX12_readLine_94 (shM_k hs) (by decide) rfl (Nat.le_of_ble_eq_true rfl) (Nat.le_of_ble_eq_true rfl) (Nat.le_of_ble_eq_true rfl) (Nat.le_of_ble_eq_true rfl) (Nat.le_of_ble_eq_true rfl) (s_X12_beginsLaw (lm := 5) (la := 2009) (p := nxP B n p) G hs htp83 p83 e90_z e91 (by decide) (fun gb ob lb1 lb2 lb3 wb ab bb => ?_))
    have ofb : frM A [2] [8, 9, 10, 11, 12, 13, 16, 17, 18] f gb := frM_tr (frM_su o83 (by decide) (by decide)) (frM_su ob (by decide) (by decide))
    have htpb := tpM_of htp (ofb.2.1 5 (by decide) (by decide) (by decide)) (ofb.2.2 7 (by decide))
    have db : (gb A 16).toInt = 0 := by rw [ob.2.2 16 (by decide), o83.2.2 16 (by decide)]; exact hd16
    have wb2 : ∀ k, k ≠ 5 → gb (A + 2) k = f (A + 2) k := fun k hk => (wb k hk).trans (by rw [o83.2.1 2 (by decide) (by decide) (by decide)])
    have tls : ∀ (c : List Nat) (gs : Nat → Nat → Int32), okM gb gs A 5 2009 0 c → tlM (gs (A + 2)) (stL 5 t c) := fun c gs ks => tlM_la (la := 2009) htl (by omega) rfl hl4 hlw (by rw [ks.1, Nat.zero_add]) (fun x o ho => ks.2.2 x o ho) (fun k k1_z k2_z => (ks.2.1 k k1_z (by omega)).trans (wb2 k k1_z))
    by_cases hc_z : tkP B n (nxP B n p) = 58
    · have pb := ab hc_z
      have hpn2 : nxP B n p < n := tk_lt (B := B) (by rw [hc_z]; decide)
      have hnx2 := nxP_gt (B := B) hpn2
      have hv2 : laP B n 5 t p = la2P B n 5 t (lwP B n 5 (nxP B n (nxP B n p))) := if_pos hc_z
      rw [hv2] at hQ
      refine r_aloadR0 dX12_readLine_97 ?_
      refine q_callV0 zm_RX12_181 dX12_readLine_98 (shM_k hs) (by decide) rfl (Nat.le_of_ble_eq_true rfl) (Nat.le_of_ble_eq_true rfl) (Nat.le_of_ble_eq_true rfl) (Nat.le_of_ble_eq_true rfl) (Nat.le_of_ble_eq_true rfl) (s_X12_readSum_6 (lm := 5) (la := 2009) (u := 0) G hs kw hld htpb pb (by rw [db] <;> rfl) lb1 lb2 (by rw [lb3] <;> rfl) (by decide) (by decide) (by decide) (Nat.zero_le _) (fun gs os ds ps ks => ?_))
      have hlw9 : (lwP B n 5 (nxP B n (nxP B n p))) = smP B n (if 5 = 5 then 8 else 6) 6 (nxP B n (nxP B n p)) := if_neg (by decide)
      have ps2 : psM B n gs A (lwP B n 5 (nxP B n (nxP B n p))).1 (lwP B n 5 (nxP B n (nxP B n p))).2.1 := by rw [hlw9]; exact ps
      have ks2 : (lwP B n 5 (nxP B n (nxP B n p))).1 = 0 → okM gb gs A 5 2009 0 (lwP B n 5 (nxP B n (nxP B n p))).2.2 := by rw [hlw9]; exact ks
      clear ps ks
      have ofs : frM A [2] [8, 9, 10, 11, 12, 13, 16, 17, 18] f gs := frM_tr ofb (frM_su os (by decide) (by decide))
      have dsz : (gs A 16).toInt = 0 := ds
      by_cases hr : (lwP B n 5 (nxP B n (nxP B n p))).1 = 0
      · refine r_goto (t := 109) dX12_readLine_101 (by decide) ?_
        refine r_aloadR0 dX12_readLine_109 ?_
        refine q_callV0 zm_RX12_241 dX12_readLine_110 (shM_k hs) (by decide) rfl (Nat.le_of_ble_eq_true rfl) (Nat.le_of_ble_eq_true rfl) (Nat.le_of_ble_eq_true rfl) (Nat.le_of_ble_eq_true rfl) (Nat.le_of_ble_eq_true rfl) (s_X12_readStop (e := 0) (q := (lwP B n 5 (nxP B n (nxP B n p))).2.1) (t := stL 5 t (lwP B n 5 (nxP B n (nxP B n p))).2.2) G hs (tpM_of htp (ofs.2.1 5 (by decide) (by decide) (by decide)) (ofs.2.2 7 (by decide))) (psM_e ps2 hr) (fun _ => tls (lwP B n 5 (nxP B n (nxP B n p))).2.2 gs (ks2 hr)) hl9 (fun g110 o110 a110 b110 => ?_))
        refine r_vret dX12_readLine_113 rfl (Nat.le_of_ble_eq_true rfl) (Nat.le_of_ble_eq_true rfl) ?_
        have hv3 : la2P B n 5 t (lwP B n 5 (nxP B n (nxP B n p))) = (fiP B n (stL 5 t (lwP B n 5 (nxP B n (nxP B n p))).2.2) (lwP B n 5 (nxP B n (nxP B n p))).2.1) := if_neg (not_not_intro hr)
        rw [hv3] at hQ
        obtain ⟨c1_z, c2_z⟩ := b110 rfl
        exact hQ g110 (frM_tr ofs (frM_su o110 (by decide) (by decide))) (by rw [o110.2.2 16 (by decide)]; exact dsz) c1_z c2_z
      · refine r_goto (t := 109) dX12_readLine_101 (by decide) ?_
        refine r_aloadR0 dX12_readLine_109 ?_
        refine q_callV0 zm_RX12_241 dX12_readLine_110 (shM_k hs) (by decide) rfl (Nat.le_of_ble_eq_true rfl) (Nat.le_of_ble_eq_true rfl) (Nat.le_of_ble_eq_true rfl) (Nat.le_of_ble_eq_true rfl) (Nat.le_of_ble_eq_true rfl) (s_X12_readStop (e := (lwP B n 5 (nxP B n (nxP B n p))).1) (q := (lwP B n 5 (nxP B n (nxP B n p))).2.1) (t := t) G hs (tpM_of htp (ofs.2.1 5 (by decide) (by decide) (by decide)) (ofs.2.2 7 (by decide))) ps2 (fun h_z => absurd h_z hr) hl9 (fun g110 o110 a110 b110 => ?_))
        refine r_vret dX12_readLine_113 rfl (Nat.le_of_ble_eq_true rfl) (Nat.le_of_ble_eq_true rfl) ?_
        have hv3 : la2P B n 5 t (lwP B n 5 (nxP B n (nxP B n p))) = ((lwP B n 5 (nxP B n (nxP B n p))).1, (lwP B n 5 (nxP B n (nxP B n p))).2.1, t) := if_pos hr
        rw [hv3] at hQ
        exact hQ g110 (frM_tr ofs (frM_su o110 (by decide) (by decide))) (by rw [o110.2.2 16 (by decide)]; exact dsz) (a110 hr) (fun h_z => absurd h_z hr)
    · have pb := bb hc_z
      have hba := ba_bd (B := B) (n := n) (s := nxP B n p)
      have nbb : (gb A 12).toInt ≠ 0 := by rw [pb.1]; omega
      have hv2 : laP B n 5 t p = (baP B n (nxP B n p), nxP B n p, t) := if_neg hc_z
      rw [hv2] at hQ
      refine r_aloadR0 dX12_readLine_97 ?_
      refine q_callV0 zm_RX12_181 dX12_readLine_98 (shM_k hs) (by decide) rfl (Nat.le_of_ble_eq_true rfl) (Nat.le_of_ble_eq_true rfl) (Nat.le_of_ble_eq_true rfl) (Nat.le_of_ble_eq_true rfl) (Nat.le_of_ble_eq_true rfl) (s_X12_readSum_x G hs nbb ?_)
      refine r_goto (t := 109) dX12_readLine_101 (by decide) ?_
      refine r_aloadR0 dX12_readLine_109 ?_
      refine q_callV0 zm_RX12_241 dX12_readLine_110 (shM_k hs) (by decide) rfl (Nat.le_of_ble_eq_true rfl) (Nat.le_of_ble_eq_true rfl) (Nat.le_of_ble_eq_true rfl) (Nat.le_of_ble_eq_true rfl) (Nat.le_of_ble_eq_true rfl) (s_X12_readStop (e := baP B n (nxP B n p)) (q := nxP B n p) (t := t) G hs htpb pb (fun h_z => absurd h_z hba.1) hl9 (fun g110 o110 a110 b110 => ?_))
      refine r_vret dX12_readLine_113 rfl (Nat.le_of_ble_eq_true rfl) (Nat.le_of_ble_eq_true rfl) ?_
      exact hQ g110 (frM_tr ofb (frM_su o110 (by decide) (by decide))) (by rw [o110.2.2 16 (by decide)]; exact db) (a110 hba.1) (fun h_z => absurd h_z hba.1)
  have hba := ba_bd (B := B) (n := n) (s := p)
  have hv : (lnP B n t p) = (baP B n p, p, t) := by
    show (if tkP B n p = 3 then (if wdP B n p = 0 then ceP B n t p else if wdP B n p = 2 then guP B n t p else if wdP B n p = 3 ∨ wdP B n p = 4 ∨ wdP B n p = 5 then laP B n (wdP B n p) t p else (2, p, t)) else (baP B n p, p, t)) = _
    by_cases h9 : tkP B n p = 3
    · have hd_z : ∀ i, wdP B n p = i → isWd B n p i = true := fun i hi_z => decide_eq_true ⟨h9, hi_z⟩
      rw [if_pos h9, if_neg (fun h_z => hw0 (hd_z 0 h_z)), if_neg (fun h_z => hw2 (hd_z 2 h_z)), if_neg (fun h_z => h_z.elim (fun h_z => hw3 (hd_z 3 h_z)) (fun h_z => h_z.elim (fun h_z => hw4 (hd_z 4 h_z)) (fun h_z => hw5 (hd_z 5 h_z))))]
      unfold baP
      rw [if_neg (by omega)]
    · exact if_neg h9
  rw [hv] at hQ
  refine r_aloadR0 dX12_readLine_0 ?_
  refine k_ldc (hld _ (List.mem_of_getElem? (i := 12) rfl)) dX12_readLine_1 ?_
  refine q_callV1 zm_RX12_127 dX12_readLine_3 (shM_k hs) (by decide) rfl (Nat.le_of_ble_eq_true rfl) (Nat.le_of_ble_eq_true rfl) (Nat.le_of_ble_eq_true rfl) (Nat.le_of_ble_eq_true rfl) (Nat.le_of_ble_eq_true rfl) (s_X12_isWord (i := 0) G hs kw (by decide) htp hps (fun r3 e3_z => ?_))
  have e3b : r3.toInt = 0 := e3_z.elim (fun h_z => absurd h_z.2 hw0) (fun h_z => h_z.1)
  refine t_ifeq (t := 16) dX12_readLine_6 (by decide) (fun h6 => ?_) (fun h6 => False.elim (by omega))
  refine r_aloadR0 dX12_readLine_16 ?_
  refine k_ldc (hld _ (List.mem_of_getElem? (i := 9) rfl)) dX12_readLine_17 ?_
  refine q_callV1 zm_RX12_127 dX12_readLine_19 (shM_k hs) (by decide) rfl (Nat.le_of_ble_eq_true rfl) (Nat.le_of_ble_eq_true rfl) (Nat.le_of_ble_eq_true rfl) (Nat.le_of_ble_eq_true rfl) (Nat.le_of_ble_eq_true rfl) (s_X12_isWord (i := 2) G hs kw (by decide) htp hps (fun r19 e19_z => ?_))
  have e19b : r19.toInt = 0 := e19_z.elim (fun h_z => absurd h_z.2 hw2) (fun h_z => h_z.1)
  refine t_ifeq (t := 32) dX12_readLine_22 (by decide) (fun h22 => ?_) (fun h22 => False.elim (by omega))
  refine r_aloadR0 dX12_readLine_32 ?_
  refine k_ldc (hld _ (List.mem_of_getElem? (i := 13) rfl)) dX12_readLine_33 ?_
  refine q_callV1 zm_RX12_142 dX12_readLine_35 (shM_k hs) (by decide) rfl (Nat.le_of_ble_eq_true rfl) (Nat.le_of_ble_eq_true rfl) (Nat.le_of_ble_eq_true rfl) (Nat.le_of_ble_eq_true rfl) (Nat.le_of_ble_eq_true rfl) (s_X12_took_f (i := 3) G hs kw (by decide) htp hps hw3 (fun r35 e35 => ?_))
  refine t_ifeq (t := 56) dX12_readLine_38 (by decide) (fun h38 => ?_) (fun h38 => False.elim (by omega))
  refine r_aloadR0 dX12_readLine_56 ?_
  refine k_ldc (hld _ (List.mem_of_getElem? (i := 14) rfl)) dX12_readLine_57 ?_
  refine q_callV1 zm_RX12_142 dX12_readLine_59 (shM_k hs) (by decide) rfl (Nat.le_of_ble_eq_true rfl) (Nat.le_of_ble_eq_true rfl) (Nat.le_of_ble_eq_true rfl) (Nat.le_of_ble_eq_true rfl) (Nat.le_of_ble_eq_true rfl) (s_X12_took_f (i := 4) G hs kw (by decide) htp hps hw4 (fun r59 e59 => ?_))
  refine t_ifeq (t := 80) dX12_readLine_62 (by decide) (fun h62 => ?_) (fun h62 => False.elim (by omega))
  refine r_aloadR0 dX12_readLine_80 ?_
  refine k_ldc (hld _ (List.mem_of_getElem? (i := 15) rfl)) dX12_readLine_81 ?_
  refine q_callV1 zm_RX12_142 dX12_readLine_83 (shM_k hs) (by decide) rfl (Nat.le_of_ble_eq_true rfl) (Nat.le_of_ble_eq_true rfl) (Nat.le_of_ble_eq_true rfl) (Nat.le_of_ble_eq_true rfl) (Nat.le_of_ble_eq_true rfl) (s_X12_took_f (i := 5) G hs kw (by decide) htp hps hw5 (fun r83 e83 => ?_))
  refine t_ifeq (t := 104) dX12_readLine_86 (by decide) (fun h86 => ?_) (fun h86 => False.elim (by omega))
  refine r_aloadR0 dX12_readLine_104 ?_
  refine n_iconst dX12_readLine_105 (by decide) (fun r105 e105 => ?_)
  refine q_callV1 zm_RX12_134 dX12_readLine_106 (shM_k hs) (by decide) rfl (Nat.le_of_ble_eq_true rfl) (Nat.le_of_ble_eq_true rfl) (Nat.le_of_ble_eq_true rfl) (Nat.le_of_ble_eq_true rfl) (Nat.le_of_ble_eq_true rfl) (s_X12_blames (k := 2) G hs h12 ht e105 (fun gb ob ab bb => ?_))
  have pb := ps_ba ab bb
  refine r_aloadR0 dX12_readLine_109 ?_
  refine q_callV0 zm_RX12_241 dX12_readLine_110 (shM_k hs) (by decide) rfl (Nat.le_of_ble_eq_true rfl) (Nat.le_of_ble_eq_true rfl) (Nat.le_of_ble_eq_true rfl) (Nat.le_of_ble_eq_true rfl) (Nat.le_of_ble_eq_true rfl) (s_X12_readStop (e := baP B n p) (q := p) (t := t) G hs (tpM_of htp (ob.2.1 5 (by decide) (by decide) (by decide)) (ob.2.2 7 (by decide))) pb (fun h_z => absurd h_z hba.1) hl9 (fun g110 o110 a110 b110 => ?_))
  refine r_vret dX12_readLine_113 rfl (Nat.le_of_ble_eq_true rfl) (Nat.le_of_ble_eq_true rfl) ?_
  exact hQ g110 (frM_tr (frM_su ob (by decide) (by decide)) (frM_su o110 (by decide) (by decide))) (by rw [o110.2.2 16 (by decide), ob.2.2 16 (by decide)]; exact hd16) (a110 hba.1) (fun h_z => absurd h_z hba.1)
