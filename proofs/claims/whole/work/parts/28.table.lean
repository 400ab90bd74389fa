/-! Table: a napkin, how it is now, what can be undone -/
section ZTB
variable {V : zVT} {cd : ByteArray} {ow : String} {pc : Nat} {ls : List (Option Value)} {st : List Value} {w : zW} {f : Nat → Nat → Int32} {j : Nat → Nat → Int64} {b : Nat × Nat}
theorem m_putP {ix ci k a q : Nat} (hf : zfl ow ix ci k) (hfin : ∀ C T N, vwCl[ci]? = some (C, T, N) → (T k).2.2.2 = false) (ht : ztP (zft ci k) = true) (hd_z : decode cd pc = .ok (.putfield ix, 3)) (hk : zK w a = ci + 1) (kk : zR V cd ow (pc + 3) ls st (zM (zsP w (zu (zP w) a k (some q))) f j) b) : zR V cd ow pc ls (.ref q :: .ref a :: st) (zM w f j) b := r_putP (r := some q) (w := zM w f j) hf hfin ht hd_z hk kk
theorem m_aast {a ci v n k : Nat} {i : Int32} (hd_z : decode cd pc = .ok (.aastore, 1)) (hci : ci < 11) (hk : zK w a = 30 + ci) (hn : zN w a = n) (hi_z : i.toInt = (k : Nat)) (hlt : k < n) (hv : zK w v = ci + 1) (kk : zR V cd ow (pc + 1) ls st (zM (zsP w (zu (zP w) a k (some v))) f j) b) : zR V cd ow pc ls (.ref v :: .int i :: .ref a :: st) (zM w f j) b := by
  refine r_aast (w := zM w f j) hd_z hci hk (by show vp_in i (zN w a); rw [hn]; exact zi_in (by omega) (by omega)) hv ?_
  rw [zcl_of hi_z]
  exact kk
end ZTB
def shTb (w : zW) (a : Nat) : Prop := zK w a = 7 ∧ zP w a 1 = some (a + 7) ∧ zP w a 2 = some (a + 10) ∧ zK w (a + 10) = 32 ∧ zN w (a + 10) = 10 ∧ shMo w (a + 7) ∧ ∀ i, i < 10 → shMo w (a + 11 + 3 * i)
theorem shTb_k {w : zW} {a : Nat} (h_z : shTb w a) : zK w a = 7 := h_z.1
theorem shTb_p1 {w : zW} {a : Nat} (h_z : shTb w a) : zP w a 1 = some (a + 7) := h_z.2.1
theorem shTb_p2 {w : zW} {a : Nat} (h_z : shTb w a) : zP w a 2 = some (a + 10) := h_z.2.2.1
theorem shTb_k10 {w : zW} {a : Nat} (h_z : shTb w a) : zK w (a + 10) = 32 := h_z.2.2.2.1
theorem shTb_n10 {w : zW} {a : Nat} (h_z : shTb w a) : zN w (a + 10) = 10 := h_z.2.2.2.2.1
theorem shTb_mo {w : zW} {a : Nat} (h_z : shTb w a) : shMo w (a + 7) := h_z.2.2.2.2.2.1
theorem shTb_pa {w : zW} {a i : Nat} (h_z : shTb w a) (hi_z : i < 10) : shMo w (a + 11 + 3 * i) := h_z.2.2.2.2.2.2 i hi_z
/-- where its past moments stand: a change of places -/
def ppOk (P : Nat → Nat → Option Nat) (a : Nat) (pp : Nat → Nat) : Prop := (∀ i, i < 10 → P (a + 10) i = some (a + 11 + 3 * pp i) ∧ pp i < 10) ∧ ∀ i k, i < 10 → k < 10 → pp i = pp k → i = k
/-- what it holds: now, ten past moments, the first p of which count -/
def ctTb (f : Nat → Nat → Int32) (a : Nat) (pp : Nat → Nat) (M : zMo) (g : Nat → zMo) (p : Nat) : Prop := (f a 3).toInt = (p : Nat) ∧ p ≤ 10 ∧ ctMo f (a + 7) M ∧ ∀ i, i < 10 → ctMo f (a + 11 + 3 * pp i) (g i)
/-- unchanged: all but its own numbers and its moments -/
def ofT (f f2_z : Nat → Nat → Int32) (a : Nat) : Prop := ∀ q, (q < a ∨ a + 1 ≤ q ∧ q < a + 7 ∨ a + 41 ≤ q) → f2_z q = f q
theorem ofT_rf {f : Nat → Nat → Int32} {a : Nat} : ofT f f a := fun _ _ => rfl
theorem ofT_tr {f f2_z f3_z : Nat → Nat → Int32} {a : Nat} (h_z : ofT f f2_z a) (h2 : ofT f2_z f3_z a) : ofT f f3_z a := fun q hq => (h2 q hq).trans (h_z q hq)
theorem ofT_R {f f2_z : Nat → Nat → Int32} {a b n : Nat} (h_z : ofR f f2_z b n) (hb_z : b = a ∧ n = 1 ∨ a + 7 ≤ b ∧ b + n ≤ a + 41) : ofT f f2_z a := fun q hq => h_z q (by omega)
theorem ofT_zu {f : Nat → Nat → Int32} {a i : Nat} {x : Int32} : ofT f (zu f a i x) a := fun q hq => zu_ne (by omega)
theorem ctMo_zu {f : Nat → Nat → Int32} {a b i : Nat} {x : Int32} {M : zMo} (h_z : ctMo f b M) (hb_z : a < b ∨ b + 3 ≤ a) : ctMo (zu f a i x) b M := ctMo_of h_z (zu_ne (by omega)) (zu_ne (by omega)) (zu_ne (by omega))
set_option maxHeartbeats 4000000 in
set_option maxRecDepth 100000 in
theorem s_X7_goBack {g : zGT} {w : zW} {f : Nat → Nat → Int32} {j : Nat → Nat → Int64} {a p : Nat} {pp : Nat → Nat} {M : zMo} {g0 : Nat → zMo} {m : Nat} {x : Int32} {Q : Option Value → zW → Prop} {QX : String → zW → Prop} (G : zGok g) (hs : shTb w a) (hp : ppOk (zP w) a pp) (hc_z : ctTb f a pp M g0 p) (hx : x.toInt = (m : Nat)) (hm_z : 1 ≤ m) (hmp : m ≤ p) (hQ : ∀ f2_z, ofT f f2_z a → ctTb f2_z a pp (g0 (p - m)) g0 (p - m) → Q none (zM w f2_z j)) : zC g 2 yX7_goBack cX7_goBack 3 none [.ref a, .int x] (zM w f j) (0, 0) Q QX := by
  refine zC_of G (by decide +kernel) (Nat.le_of_ble_eq_true rfl) ?_
  have hc0 := hc_z
  obtain ⟨t1, t2, t3, t4⟩ := hc0
  obtain ⟨e1p, e2p⟩ := hp.1 (p - m) (by omega)
  refine r_aloadR0 dX7_goBack_0 ?_
  refine m_getV (x := (f a 3)) zf_RX7_29 rfl dX7_goBack_1 (shTb_k (w := w) hs) (rfl) ?_
  refine r_iload1 dX7_goBack_4 ?_
  refine n_isub dX7_goBack_5 (by omega) (fun r5 e5_z => ?_)
  refine r_istore2 dX7_goBack_6 rfl ?_
  refine r_iload2 dX7_goBack_7 ?_
  refine t_iflt (t := 38) dX7_goBack_8 (by decide) (fun h8 => False.elim (by omega)) (fun h8 => ?_)
  refine r_iload2 dX7_goBack_11 ?_
  refine r_aloadR0 dX7_goBack_12 ?_
  refine m_getR (q := (a + 10)) zf_RX7_25 rfl dX7_goBack_13 (shTb_k (w := w) hs) (shTb_p2 (w := w) hs) ?_
  refine m_alen dX7_goBack_16 (zge (shTb_k10 (w := w) hs) (by decide)) (shTb_n10 (w := w) hs) (by first | decide | omega) (fun r16 e16_z => ?_)
  refine t_icge (t := 38) dX7_goBack_17 (by decide) (fun h17 => False.elim (by omega)) (fun h17 => ?_)
  refine r_aloadR0 dX7_goBack_20 ?_
  refine m_getR (q := (a + 7)) zf_RX7_21 rfl dX7_goBack_21 (shTb_k (w := w) hs) (shTb_p1 (w := w) hs) ?_
  refine r_aloadR0 dX7_goBack_24 ?_
  refine m_getR (q := (a + 10)) zf_RX7_25 rfl dX7_goBack_25 (shTb_k (w := w) hs) (shTb_p2 (w := w) hs) ?_
  refine r_iload2 dX7_goBack_28 ?_
  refine m_aald (ci := 2) (k := (p - m)) (q := (a + 11 + 3 * pp (p - m))) dX7_goBack_29 (shTb_k10 (w := w) hs) (shTb_n10 (w := w) hs) (by omega) (by omega) (e1p) ?_
  refine q_callV1 zm_RX7_41 dX7_goBack_30 (shMo_k (w := w) (shTb_mo (w := w) hs)) (by decide) rfl (Nat.le_of_ble_eq_true rfl) (Nat.le_of_ble_eq_true rfl) (Nat.le_of_ble_eq_true rfl) (Nat.le_of_ble_eq_true rfl) (Nat.le_of_ble_eq_true rfl) (s_X3_take (w := zM w f j) (M := g0 (p - m)) G (shTb_mo hs) (shTb_pa hs e2p) (t4 (p - m) (by omega)) (by omega) (fun f2_z ho2 hc2 => ?_))
  show zR _ _ _ _ _ _ (zM w f2_z j) _
  refine r_aloadR0 dX7_goBack_33 ?_
  refine r_iload2 dX7_goBack_34 ?_
  refine m_putI zf_RX7_29 (by intro C T N h_z; cases h_z; rfl) rfl dX7_goBack_35 (shTb_k (w := w) hs) ?_
  refine r_vret dX7_goBack_38 rfl (Nat.le_of_ble_eq_true rfl) (Nat.le_of_ble_eq_true rfl) ?_
  refine hQ _ (ofT_tr (ofT_R ho2 (by omega)) ofT_zu) ⟨by rw [zu_at]; omega, by omega, ctMo_zu hc2 (by omega), fun i hi_z => ?_⟩
  have hpi := (hp.1 i hi_z).2
  exact ctMo_zu (ctMo_R (t4 i hi_z) ho2 (by omega)) (by omega)
set_option maxHeartbeats 4000000 in
set_option maxRecDepth 100000 in
theorem s_X7_spread {g : zGT} {w : zW} {f : Nat → Nat → Int32} {j : Nat → Nat → Int64} {a p : Nat} {pp : Nat → Nat} {M : zMo} {g0 : Nat → zMo} {q : Nat} {N : zNm} {Q : Option Value → zW → Prop} {QX : String → zW → Prop} (G : zGok g) (hs : shTb w a) (hp : ppOk (zP w) a pp) (hc_z : ctTb f a pp M g0 p) (hn : shNa w q) (hnc : ctNa f q N) (hqd : q + 3 ≤ a ∨ a + 41 ≤ q ∨ a + 1 ≤ q ∧ q + 3 ≤ a + 7) (hQ : ∀ f2_z, ofT f f2_z a → ctTb f2_z a pp (naMk N, []) g0 0 → Q none (zM (zsP w (zu (zP w) a 0 (some q))) f2_z j)) : zC g 2 yX7_spread cX7_spread 2 none [.ref a, .ref q] (zM w f j) (0, 0) Q QX := by
  refine zC_of G (by decide +kernel) (Nat.le_of_ble_eq_true rfl) ?_
  have hc0 := hc_z
  obtain ⟨t1, t2, t3, t4⟩ := hc0
  refine r_aloadR0 dX7_spread_0 ?_
  refine r_aloadR1 dX7_spread_1 ?_
  refine m_putP (q := q) zf_RX7_12 (by intro C T N h_z; cases h_z; rfl) rfl dX7_spread_2 (shTb_k (w := w) hs) ?_
  have hp1 : zu (zP w) a 0 (some q) a 1 = some (a + 7) := by rw [zu_ni (by decide)]; exact shTb_p1 hs
  have hmo2 : shMo (zsP w (zu (zP w) a 0 (some q))) (a + 7) := by
    obtain ⟨m1_z, m2_z, m3_z, m4_z⟩ := shTb_mo hs
    exact ⟨m1_z, (zu_ne2 (by omega)).trans m2_z, (zu_ne2 (by omega)).trans m3_z, m4_z⟩
  have hna2 : shNa (zsP w (zu (zP w) a 0 (some q))) q := by
    obtain ⟨m1_z, m2_z, m3_z, m4_z⟩ := hn
    exact ⟨m1_z, (zu_ne2 (by omega)).trans m2_z, (zu_ne2 (by omega)).trans m3_z, m4_z⟩
  refine r_aloadR0 dX7_spread_5 ?_
  refine m_getR (q := (a + 7)) zf_RX7_21 rfl dX7_spread_6 (shTb_k (w := w) hs) (hp1) ?_
  refine r_aloadR1 dX7_spread_9 ?_
  refine q_callV1 zm_RX7_37 dX7_spread_10 (shMo_k (w := zsP w (zu (zP w) a 0 (some q))) hmo2) (by decide) rfl (Nat.le_of_ble_eq_true rfl) (Nat.le_of_ble_eq_true rfl) (Nat.le_of_ble_eq_true rfl) (Nat.le_of_ble_eq_true rfl) (Nat.le_of_ble_eq_true rfl) (s_X3_begin (w := zM (zsP w (zu (zP w) a 0 (some q))) f j) (N := N) G hmo2 hna2 hnc (fun f2_z ho2 hc2 => ?_))
  show zR _ _ _ _ _ _ (zM (zsP w (zu (zP w) a 0 (some q))) f2_z j) _
  refine r_aloadR0 dX7_spread_13 ?_
  refine n_iconst dX7_spread_14 (by decide) (fun r14 e14_z => ?_)
  refine m_putI zf_RX7_29 (by intro C T N h_z; cases h_z; rfl) rfl dX7_spread_15 (shTb_k (w := w) hs) ?_
  refine r_vret dX7_spread_18 rfl (Nat.le_of_ble_eq_true rfl) (Nat.le_of_ble_eq_true rfl) ?_
  refine hQ _ (ofT_tr (ofT_R ho2 (by omega)) ofT_zu) ⟨by rw [zu_at]; omega, by omega, ctMo_zu hc2 (by omega), fun i hi_z => ?_⟩
  have hpi := (hp.1 i hi_z).2
  exact ctMo_zu (ctMo_R (t4 i hi_z) ho2 (by omega)) (by omega)
set_option maxHeartbeats 4000000 in
set_option maxRecDepth 100000 in
theorem s_X7_forgetEldest {g : zGT} {w : zW} {f : Nat → Nat → Int32} {j : Nat → Nat → Int64} {a p : Nat} {pp : Nat → Nat} {M : zMo} {g0 : Nat → zMo} {Q : Option Value → zW → Prop} {QX : String → zW → Prop} (G : zGok g) (hs : shTb w a) (hp : ppOk (zP w) a pp) (hc_z : ctTb f a pp M g0 p) (hp10 : p = 10) (hQ : ∀ P2 f2_z, (∀ q, q ≠ a + 10 → P2 q = zP w q) → (∀ i, i < 9 → P2 (a + 10) i = zP w (a + 10) (i + 1)) → P2 (a + 10) 9 = zP w (a + 10) 0 → f2_z = zu f a 3 (f2_z a 3) → (f2_z a 3).toInt = 9 → Q none (zM (zsP w P2) f2_z j)) : zC g 1 yX7_forgetEldest cX7_forgetEldest 3 none [.ref a] (zM w f j) (0, 0) Q QX := by
  refine zC_of G (by decide +kernel) (Nat.le_of_ble_eq_true rfl) ?_
  have hc0 := hc_z
  obtain ⟨t1, t2, t3, t4⟩ := hc0
  have lp : ∀ (mz : Nat) (c : Int32) (k : Nat) (P2 : Nat → Nat → Option Nat) (v2_ : Option Value), c.toInt = (k : Nat) → k ≤ 10 → 1 ≤ k → (∀ q, q ≠ a + 10 → P2 q = zP w q) → (∀ i, i < k - 1 → P2 (a + 10) i = zP w (a + 10) (i + 1)) → P2 (a + 10) (k - 1) = zP w (a + 10) 0 → (∀ i, k ≤ i → i < 10 → P2 (a + 10) i = zP w (a + 10) i) → 10 - k < mz → zR (zV g 1 yX7_forgetEldest 3 none (0, 0) Q QX) cX7_forgetEldest yX7_forgetEldest.cls 2 [some (.ref a), some (.int c), v2_] [] (zM (zsP w P2) f j) (0, 0) := by
    intro mz
    induction mz with
    | zero =>
      intro c k P2 v2_ hck hk hk1 ho hdone hcur hrest hmz
      exact absurd hmz (Nat.not_lt_zero _)
    | succ mz ih =>
      intro c k P2 v2_ hck hk hk1 ho hdone hcur hrest hmz
      have hs2 : zP (zsP w P2) a 2 = some (a + 10) := by show P2 a 2 = _; rw [ho a (by omega)]; exact shTb_p2 hs
      rcases Nat.lt_or_ge k 10 with hkl | hkl
      · have e1p : P2 (a + 10) (k - 1) = some (a + 11 + 3 * pp 0) := by rw [hcur]; exact (hp.1 0 (by omega)).1
        have e2p : P2 (a + 10) k = some (a + 11 + 3 * pp k) := by rw [hrest k (by omega) (by omega)]; exact (hp.1 k hkl).1
        have hb0 := (hp.1 0 (by omega)).2
        have hbk := (hp.1 k hkl).2
        refine r_iload1 dX7_forgetEldest_2 ?_
        refine r_aloadR0 dX7_forgetEldest_3 ?_
        refine m_getR (q := (a + 10)) zf_RX7_25 rfl dX7_forgetEldest_4 (shTb_k (w := w) hs) (hs2) ?_
        refine m_alen dX7_forgetEldest_7 (zge (shTb_k10 (w := w) hs) (by decide)) (shTb_n10 (w := w) hs) (by first | decide | omega) (fun r7 e7_z => ?_)
        refine t_icge (t := 47) dX7_forgetEldest_8 (by decide) (fun h8 => False.elim (by omega)) (fun h8 => ?_)
        refine r_aloadR0 dX7_forgetEldest_11 ?_
        refine m_getR (q := (a + 10)) zf_RX7_25 rfl dX7_forgetEldest_12 (shTb_k (w := w) hs) (hs2) ?_
        refine r_iload1 dX7_forgetEldest_15 ?_
        refine n_iconst dX7_forgetEldest_16 (by decide) (fun r16 e16_z => ?_)
        refine n_isub dX7_forgetEldest_17 (by omega) (fun r17 e17_z => ?_)
        refine m_aald (ci := 2) (k := (k - 1)) (q := (a + 11 + 3 * pp 0)) dX7_forgetEldest_18 (shTb_k10 (w := w) hs) (shTb_n10 (w := w) hs) (by omega) (by omega) (e1p) ?_
        refine r_astore2 dX7_forgetEldest_19 rfl ?_
        refine r_aloadR0 dX7_forgetEldest_20 ?_
        refine m_getR (q := (a + 10)) zf_RX7_25 rfl dX7_forgetEldest_21 (shTb_k (w := w) hs) (hs2) ?_
        refine r_iload1 dX7_forgetEldest_24 ?_
        refine n_iconst dX7_forgetEldest_25 (by decide) (fun r25 e25_z => ?_)
        refine n_isub dX7_forgetEldest_26 (by omega) (fun r26 e26_z => ?_)
        refine r_aloadR0 dX7_forgetEldest_27 ?_
        refine m_getR (q := (a + 10)) zf_RX7_25 rfl dX7_forgetEldest_28 (shTb_k (w := w) hs) (hs2) ?_
        refine r_iload1 dX7_forgetEldest_31 ?_
        refine m_aald (ci := 2) (k := k) (q := (a + 11 + 3 * pp k)) dX7_forgetEldest_32 (shTb_k10 (w := w) hs) (shTb_n10 (w := w) hs) (by omega) (by omega) (e2p) ?_
        refine m_aast (ci := 2) (k := (k - 1)) dX7_forgetEldest_33 (by decide) (shTb_k10 (w := w) hs) (shTb_n10 (w := w) hs) (by omega) (by omega) (shMo_k (w := w) (shTb_pa (w := w) hs (hp.1 k (by omega)).2)) ?_
        refine r_aloadR0 dX7_forgetEldest_34 ?_
        refine m_getR (q := (a + 10)) zf_RX7_25 rfl dX7_forgetEldest_35 (shTb_k (w := w) hs) (by show zu P2 (a + 10) (k - 1) _ a 2 = _; rw [zu_ne2 (by omega)]; exact hs2) ?_
        refine r_iload1 dX7_forgetEldest_38 ?_
        refine r_aloadR2 dX7_forgetEldest_39 ?_
        refine m_aast (ci := 2) (k := k) dX7_forgetEldest_40 (by decide) (shTb_k10 (w := w) hs) (shTb_n10 (w := w) hs) (by omega) (by omega) (shMo_k (w := w) (shTb_pa (w := w) hs (hp.1 0 (by omega)).2)) ?_
        refine n_iinc1 dX7_forgetEldest_41 (by decide) rfl (by omega) (fun r41 e41_z => ?_)
        refine r_goto (t := 2) dX7_forgetEldest_44 (by decide) ?_
        refine ih _ (k + 1) _ _ (by omega) (by omega) (by omega) (fun q hq => (zu_ne hq).trans ((zu_ne hq).trans (ho q hq))) (fun i hi_z => ?_) ?_ (fun i hi_z hi2 => ?_) (by omega)
        · show zu (zu P2 (a + 10) (k - 1) _) (a + 10) k _ (a + 10) i = _
          rw [zu_ni (by omega), zu_s2]
          by_cases he : i = k - 1
          · rw [if_pos he, he, show k - 1 + 1 = k by omega]; exact (hp.1 k hkl).1.symm
          · rw [if_neg he]; exact hdone i (by omega)
        · show zu (zu P2 (a + 10) (k - 1) _) (a + 10) k _ (a + 10) (k + 1 - 1) = _
          rw [show k + 1 - 1 = k by omega, zu_at]; exact (hp.1 0 (by omega)).1.symm
        · show zu (zu P2 (a + 10) (k - 1) _) (a + 10) k _ (a + 10) i = _
          rw [zu_ni (by omega), zu_ni (by omega)]; exact hrest i (by omega) hi2
      · refine r_iload1 dX7_forgetEldest_2 ?_
        refine r_aloadR0 dX7_forgetEldest_3 ?_
        refine m_getR (q := (a + 10)) zf_RX7_25 rfl dX7_forgetEldest_4 (shTb_k (w := w) hs) (hs2) ?_
        refine m_alen dX7_forgetEldest_7 (zge (shTb_k10 (w := w) hs) (by decide)) (shTb_n10 (w := w) hs) (by first | decide | omega) (fun r7 e7_z => ?_)
        refine t_icge (t := 47) dX7_forgetEldest_8 (by decide) (fun h8 => ?_) (fun h8 => False.elim (by omega))
        refine r_aloadR0 dX7_forgetEldest_47 ?_
        refine r_dup dX7_forgetEldest_48 rfl ?_
        refine m_getV (x := (f a 3)) zf_RX7_29 rfl dX7_forgetEldest_49 (shTb_k (w := w) hs) (rfl) ?_
        refine n_iconst dX7_forgetEldest_52 (by decide) (fun r52 e52 => ?_)
        refine n_isub dX7_forgetEldest_53 (by omega) (fun r53 e53 => ?_)
        refine m_putI zf_RX7_29 (by intro C T N h_z; cases h_z; rfl) rfl dX7_forgetEldest_54 (shTb_k (w := w) hs) ?_
        refine r_vret dX7_forgetEldest_57 rfl (Nat.le_of_ble_eq_true rfl) (Nat.le_of_ble_eq_true rfl) ?_
        have hk10 : k = 10 := by omega
        subst hk10
        exact hQ P2 _ ho (fun i hi_z => hdone i (by omega)) hcur (by rw [zu_at]) (by rw [zu_at]; omega)
  refine n_iconst dX7_forgetEldest_0 (by decide) (fun r0 e0_z => ?_)
  refine r_istore1 dX7_forgetEldest_1 rfl ?_
  exact lp 11 _ 1 (zP w) none (by omega) (by omega) (by omega) (fun _ _ => rfl) (fun i h_z => absurd h_z (by omega)) rfl (fun _ _ _ => rfl) (by omega)
theorem drop_map {g : Nat → zMo} {n : Nat} : ((List.range (n + 1)).map g).drop 1 = (List.range n).map (fun i => g (i + 1)) := by
  rw [List.range_succ_eq_map, List.map_cons, List.drop_succ_cons, List.drop_zero, List.map_map]
  rfl
theorem map_snoc {g : Nat → zMo} {M : zMo} {n : Nat} : (List.range (n + 1)).map (fun i => if i = n then M else g i) = (List.range n).map g ++ [M] := by
  rw [List.range_succ, List.map_append]
  congr 1
  · refine List.map_congr_left (fun i hi_z => ?_)
    have := List.mem_range.mp hi_z
    show (if i = n then M else g i) = g i
    rw [if_neg (by omega)]
  · show [if n = n then M else g n] = [M]
    rw [if_pos rfl]
theorem ppOk_rot {P P2 : Nat → Nat → Option Nat} {a : Nat} {pp : Nat → Nat} (h_z : ppOk P a pp) (h1 : ∀ i, i < 9 → P2 (a + 10) i = P (a + 10) (i + 1)) (h2 : P2 (a + 10) 9 = P (a + 10) 0) : ppOk P2 a (fun i => if i < 9 then pp (i + 1) else pp 0) := by
  refine ⟨fun i hi_z => ?_, fun i k hi_z hk e => ?_⟩
  · by_cases h9 : i < 9
    · show P2 (a + 10) i = some (a + 11 + 3 * (if i < 9 then pp (i + 1) else pp 0)) ∧ (if i < 9 then pp (i + 1) else pp 0) < 10
      rw [if_pos h9, h1 i h9]
      exact h_z.1 (i + 1) (by omega)
    · show P2 (a + 10) i = some (a + 11 + 3 * (if i < 9 then pp (i + 1) else pp 0)) ∧ (if i < 9 then pp (i + 1) else pp 0) < 10
      rw [if_neg h9, show i = 9 by omega, h2]
      exact h_z.1 0 (by omega)
  · replace e : (if i < 9 then pp (i + 1) else pp 0) = (if k < 9 then pp (k + 1) else pp 0) := e
    by_cases hi9 : i < 9 <;> by_cases hk9 : k < 9
    · rw [if_pos hi9, if_pos hk9] at e
      have := h_z.2 (i + 1) (k + 1) (by omega) (by omega) e
      omega
    · rw [if_pos hi9, if_neg hk9] at e
      have := h_z.2 (i + 1) 0 (by omega) (by omega) e
      omega
    · rw [if_neg hi9, if_pos hk9] at e
      have := h_z.2 0 (k + 1) (by omega) (by omega) e
      omega
    · omega
set_option maxHeartbeats 4000000 in
set_option maxRecDepth 100000 in
theorem s_X7_remember {g : zGT} {w : zW} {f : Nat → Nat → Int32} {j : Nat → Nat → Int64} {a p : Nat} {pp : Nat → Nat} {M : zMo} {g0 : Nat → zMo} {Q : Option Value → zW → Prop} {QX : String → zW → Prop} (G : zGok g) (hs : shTb w a) (hp : ppOk (zP w) a pp) (hc_z : ctTb f a pp M g0 p) (hQ : ∀ P2 f2_z pp2 g2 p2, (∀ q, q ≠ a + 10 → P2 q = zP w q) → ppOk P2 a pp2 → ofT f f2_z a → ctTb f2_z a pp2 M g2 p2 → (List.range p2).map g2 = (if p = 10 then ((List.range p).map g0).drop 1 else (List.range p).map g0) ++ [M] → Q none (zM (zsP w P2) f2_z j)) : zC g 2 yX7_remember cX7_remember 1 none [.ref a] (zM w f j) (0, 0) Q QX := by
  refine zC_of G (by decide +kernel) (Nat.le_of_ble_eq_true rfl) ?_
  have hc0 := hc_z
  obtain ⟨t1, t2, t3, t4⟩ := hc0
  by_cases hp10 : p = 10
  · refine r_aloadR0 dX7_remember_0 ?_
    refine m_getV (x := (f a 3)) zf_RX7_29 rfl dX7_remember_1 (shTb_k (w := w) hs) (rfl) ?_
    refine r_aloadR0 dX7_remember_4 ?_
    refine m_getR (q := (a + 10)) zf_RX7_25 rfl dX7_remember_5 (shTb_k (w := w) hs) (shTb_p2 (w := w) hs) ?_
    refine m_alen dX7_remember_8 (zge (shTb_k10 (w := w) hs) (by decide)) (shTb_n10 (w := w) hs) (by first | decide | omega) (fun r8 e8 => ?_)
    refine t_iclt (t := 16) dX7_remember_9 (by decide) (fun h9 => False.elim (by omega)) (fun h9 => ?_)
    refine r_aloadR0 dX7_remember_12 ?_
    refine q_callV0 zm_RX7_45 dX7_remember_13 (shTb_k (w := w) hs) (by decide) rfl (Nat.le_of_ble_eq_true rfl) (Nat.le_of_ble_eq_true rfl) (Nat.le_of_ble_eq_true rfl) (Nat.le_of_ble_eq_true rfl) (Nat.le_of_ble_eq_true rfl) (s_X7_forgetEldest G hs hp hc_z hp10 (fun P2 f1_z ho h19 h10 hf1 hf9 => ?_))
    have hp2 := ppOk_rot hp h19 h10
    have hs2 : shTb (zsP w P2) a := by
      obtain ⟨m1_z, m2_z, m3_z, m4_z, m5_z, m6_z, m7_z⟩ := hs
      refine ⟨m1_z, by show P2 a 1 = _; rw [ho a (by omega)]; exact m2_z, by show P2 a 2 = _; rw [ho a (by omega)]; exact m3_z, m4_z, m5_z, ?_, fun i hi_z => ?_⟩
      · exact ⟨m6_z.1, by show P2 _ 0 = _; rw [ho _ (by omega)]; exact m6_z.2.1, by show P2 _ 1 = _; rw [ho _ (by omega)]; exact m6_z.2.2.1, m6_z.2.2.2⟩
      · have m8_z := m7_z i hi_z
        exact ⟨m8_z.1, by show P2 _ 0 = _; rw [ho _ (by omega)]; exact m8_z.2.1, by show P2 _ 1 = _; rw [ho _ (by omega)]; exact m8_z.2.2.1, m8_z.2.2.2⟩
    generalize hpp : (fun i => if i < 9 then pp (i + 1) else pp 0) = pp2 at hp2
    have hpe : ∀ i, pp2 i = if i < 9 then pp (i + 1) else pp 0 := fun i => by rw [← hpp]
    obtain ⟨e1p, e2p⟩ := hp2.1 9 (by decide)
    have hfo : ofT f f1_z a := by rw [hf1]; exact ofT_zu
    have hmo1 : ∀ b M, ctMo f b M → a < b → ctMo f1_z b M := fun b M h_z hb_z => by rw [hf1]; exact ctMo_zu h_z (Or.inl hb_z)
    refine r_aloadR0 dX7_remember_16 ?_
    refine m_getV (x := (f1_z a 3)) zf_RX7_29 rfl dX7_remember_17 (shTb_k (w := w) hs) (rfl) ?_
    refine t_iflt (t := 61) dX7_remember_20 (by decide) (fun h20 => False.elim (by omega)) (fun h20 => ?_)
    refine r_aloadR0 dX7_remember_23 ?_
    refine m_getV (x := (f1_z a 3)) zf_RX7_29 rfl dX7_remember_24 (shTb_k (w := w) hs) (rfl) ?_
    refine r_aloadR0 dX7_remember_27 ?_
    refine m_getR (q := (a + 10)) zf_RX7_25 rfl dX7_remember_28 (shTb_k (w := w) hs) (shTb_p2 (w := zsP w P2) hs2) ?_
    refine m_alen dX7_remember_31 (zge (shTb_k10 (w := w) hs) (by decide)) (shTb_n10 (w := w) hs) (by first | decide | omega) (fun r31 e31_z => ?_)
    refine t_icge (t := 61) dX7_remember_32 (by decide) (fun h32 => False.elim (by omega)) (fun h32 => ?_)
    refine r_aloadR0 dX7_remember_35 ?_
    refine m_getR (q := (a + 10)) zf_RX7_25 rfl dX7_remember_36 (shTb_k (w := w) hs) (shTb_p2 (w := zsP w P2) hs2) ?_
    refine r_aloadR0 dX7_remember_39 ?_
    refine m_getV (x := (f1_z a 3)) zf_RX7_29 rfl dX7_remember_40 (shTb_k (w := w) hs) (rfl) ?_
    refine m_aald (ci := 2) (k := 9) (q := (a + 11 + 3 * pp2 9)) dX7_remember_43 (shTb_k10 (w := w) hs) (shTb_n10 (w := w) hs) (by omega) (by omega) (e1p) ?_
    refine r_aloadR0 dX7_remember_44 ?_
    refine m_getR (q := (a + 7)) zf_RX7_21 rfl dX7_remember_45 (shTb_k (w := w) hs) (shTb_p1 (w := zsP w P2) hs2) ?_
    refine q_callV1 zm_RX7_41 dX7_remember_48 (shMo_k (w := zsP w P2) (shTb_pa (w := zsP w P2) hs2 e2p)) (by decide) rfl (Nat.le_of_ble_eq_true rfl) (Nat.le_of_ble_eq_true rfl) (Nat.le_of_ble_eq_true rfl) (Nat.le_of_ble_eq_true rfl) (Nat.le_of_ble_eq_true rfl) (s_X3_take (w := zM (zsP w P2) f1_z j) (M := M) G (shTb_pa hs2 e2p) (shTb_mo hs2) (hmo1 _ _ t3 (by omega)) (by omega) (fun f2_z ho2 hc2 => ?_))
    show zR _ _ _ _ _ _ (zM (zsP w P2) f2_z j) _
    have hv3 : (f2_z a 3).toInt = 9 := by rw [ho2 a (by omega)]; exact hf9
    refine r_aloadR0 dX7_remember_51 ?_
    refine r_dup dX7_remember_52 rfl ?_
    refine m_getV (x := (f2_z a 3)) zf_RX7_29 rfl dX7_remember_53 (shTb_k (w := w) hs) (rfl) ?_
    refine n_iconst dX7_remember_56 (by decide) (fun r56 e56 => ?_)
    refine n_iadd dX7_remember_57 (by omega) (fun r57 e57 => ?_)
    refine m_putI zf_RX7_29 (by intro C T N h_z; cases h_z; rfl) rfl dX7_remember_58 (shTb_k (w := w) hs) ?_
    refine r_vret dX7_remember_61 rfl (Nat.le_of_ble_eq_true rfl) (Nat.le_of_ble_eq_true rfl) ?_
    refine hQ P2 _ pp2 (fun i => if i = 9 then M else g0 (i + 1)) 10 ho hp2 (ofT_tr (ofT_tr hfo (ofT_R ho2 (by omega))) ofT_zu) ⟨by rw [zu_at]; omega, by decide, ?_, fun i hi_z => ?_⟩ ?_
    · exact ctMo_zu (ctMo_R (hmo1 _ _ t3 (by omega)) ho2 (by omega)) (by omega)
    · have hpi := (hp2.1 i hi_z).2
      refine ctMo_zu ?_ (by omega)
      show ctMo f2_z (a + 11 + 3 * pp2 i) (if i = 9 then M else g0 (i + 1))
      by_cases he : i = 9
      · rw [if_pos he, he]; exact hc2
      · rw [if_neg he]
        have hne : pp2 i ≠ pp2 9 := fun e => he (hp2.2 i 9 hi_z (by decide) e)
        have h5 : pp2 i = pp (i + 1) := by rw [hpe, if_pos (by omega)]
        have h6 := t4 (i + 1) (by omega)
        rw [← h5] at h6
        exact ctMo_R (hmo1 _ _ h6 (by omega)) ho2 (by omega)
    · rw [if_pos hp10, hp10, drop_map, ← map_snoc]
  · obtain ⟨e1p, e2p⟩ := hp.1 p (by omega)
    refine r_aloadR0 dX7_remember_0 ?_
    refine m_getV (x := (f a 3)) zf_RX7_29 rfl dX7_remember_1 (shTb_k (w := w) hs) (rfl) ?_
    refine r_aloadR0 dX7_remember_4 ?_
    refine m_getR (q := (a + 10)) zf_RX7_25 rfl dX7_remember_5 (shTb_k (w := w) hs) (shTb_p2 (w := w) hs) ?_
    refine m_alen dX7_remember_8 (zge (shTb_k10 (w := w) hs) (by decide)) (shTb_n10 (w := w) hs) (by first | decide | omega) (fun r8 e8 => ?_)
    refine t_iclt (t := 16) dX7_remember_9 (by decide) (fun h9 => ?_) (fun h9 => False.elim (by omega))
    refine r_aloadR0 dX7_remember_16 ?_
    refine m_getV (x := (f a 3)) zf_RX7_29 rfl dX7_remember_17 (shTb_k (w := w) hs) (rfl) ?_
    refine t_iflt (t := 61) dX7_remember_20 (by decide) (fun h20 => False.elim (by omega)) (fun h20 => ?_)
    refine r_aloadR0 dX7_remember_23 ?_
    refine m_getV (x := (f a 3)) zf_RX7_29 rfl dX7_remember_24 (shTb_k (w := w) hs) (rfl) ?_
    refine r_aloadR0 dX7_remember_27 ?_
    refine m_getR (q := (a + 10)) zf_RX7_25 rfl dX7_remember_28 (shTb_k (w := w) hs) (shTb_p2 (w := w) hs) ?_
    refine m_alen dX7_remember_31 (zge (shTb_k10 (w := w) hs) (by decide)) (shTb_n10 (w := w) hs) (by first | decide | omega) (fun r31 e31_z => ?_)
    refine t_icge (t := 61) dX7_remember_32 (by decide) (fun h32 => False.elim (by omega)) (fun h32 => ?_)
    refine r_aloadR0 dX7_remember_35 ?_
    refine m_getR (q := (a + 10)) zf_RX7_25 rfl dX7_remember_36 (shTb_k (w := w) hs) (shTb_p2 (w := w) hs) ?_
    refine r_aloadR0 dX7_remember_39 ?_
    refine m_getV (x := (f a 3)) zf_RX7_29 rfl dX7_remember_40 (shTb_k (w := w) hs) (rfl) ?_
    refine m_aald (ci := 2) (k := p) (q := (a + 11 + 3 * pp p)) dX7_remember_43 (shTb_k10 (w := w) hs) (shTb_n10 (w := w) hs) (by omega) (by omega) (e1p) ?_
    refine r_aloadR0 dX7_remember_44 ?_
    refine m_getR (q := (a + 7)) zf_RX7_21 rfl dX7_remember_45 (shTb_k (w := w) hs) (shTb_p1 (w := w) hs) ?_
    refine q_callV1 zm_RX7_41 dX7_remember_48 (shMo_k (w := w) (shTb_pa (w := w) hs e2p)) (by decide) rfl (Nat.le_of_ble_eq_true rfl) (Nat.le_of_ble_eq_true rfl) (Nat.le_of_ble_eq_true rfl) (Nat.le_of_ble_eq_true rfl) (Nat.le_of_ble_eq_true rfl) (s_X3_take (w := zM w f j) (M := M) G (shTb_pa hs e2p) (shTb_mo hs) t3 (by omega) (fun f2_z ho2 hc2 => ?_))
    show zR _ _ _ _ _ _ (zM w f2_z j) _
    have hv3 : (f2_z a 3).toInt = (p : Nat) := by rw [ho2 a (by omega)]; exact t1
    refine r_aloadR0 dX7_remember_51 ?_
    refine r_dup dX7_remember_52 rfl ?_
    refine m_getV (x := (f2_z a 3)) zf_RX7_29 rfl dX7_remember_53 (shTb_k (w := w) hs) (rfl) ?_
    refine n_iconst dX7_remember_56 (by decide) (fun r56 e56 => ?_)
    refine n_iadd dX7_remember_57 (by omega) (fun r57 e57 => ?_)
    refine m_putI zf_RX7_29 (by intro C T N h_z; cases h_z; rfl) rfl dX7_remember_58 (shTb_k (w := w) hs) ?_
    refine r_vret dX7_remember_61 rfl (Nat.le_of_ble_eq_true rfl) (Nat.le_of_ble_eq_true rfl) ?_
    refine hQ (zP w) _ pp (fun i => if i = p then M else g0 i) (p + 1) (fun _ _ => rfl) hp (ofT_tr (ofT_R ho2 (by omega)) ofT_zu) ⟨by rw [zu_at]; omega, by omega, ?_, fun i hi_z => ?_⟩ ?_
    · exact ctMo_zu (ctMo_R t3 ho2 (by omega)) (by omega)
    · have hpi := (hp.1 i hi_z).2
      refine ctMo_zu ?_ (by omega)
      show ctMo f2_z (a + 11 + 3 * pp i) (if i = p then M else g0 i)
      by_cases he : i = p
      · rw [if_pos he, he]; exact hc2
      · rw [if_neg he]
        have hne : pp i ≠ pp p := fun e => he (hp.2 i p hi_z (by omega) e)
        exact ctMo_R (t4 i hi_z) ho2 (by omega)
    · rw [if_neg hp10, ← map_snoc]
set_option maxHeartbeats 4000000 in
set_option maxRecDepth 100000 in
theorem s_X7_take {g : zGT} {w : zW} {f : Nat → Nat → Int32} {j : Nat → Nat → Int64} {a p : Nat} {pp : Nat → Nat} {M : zMo} {g0 : Nat → zMo} {b pb nq : Nat} {ppb : Nat → Nat} {Mb : zMo} {gb : Nat → zMo} {Q : Option Value → zW → Prop} {QX : String → zW → Prop} (G : zGok g) (hs : shTb w a) (hp : ppOk (zP w) a pp) (hc_z : ctTb f a pp M g0 p) (hsb : shTb w b) (hpb : ppOk (zP w) b ppb) (hcb : ctTb f b ppb Mb gb pb) (hab : b + 41 ≤ a ∨ a + 41 ≤ b) (hnq : zP w b 0 = some nq) (hQ : ∀ f2_z, ofT f f2_z a → ctTb f2_z a pp Mb gb pb → Q none (zM (zsP w (zu (zP w) a 0 (some nq))) f2_z j)) : zC g 2 yX7_take cX7_take 3 none [.ref a, .ref b] (zM w f j) (0, 0) Q QX := by
  refine zC_of G (by decide +kernel) (Nat.le_of_ble_eq_true rfl) ?_
  have hc0 := hc_z
  obtain ⟨t1, t2, t3, t4⟩ := hc0
  have hcb0 := hcb
  obtain ⟨u1, u2, u3, u4⟩ := hcb0
  have shw : ∀ c, shTb w c → shTb (zsP w (zu (zP w) a 0 (some nq))) c := by
    intro c hsc
    have hK_z : ∀ i, i < 10 → c + 11 + 3 * i ≠ a → True := fun _ _ _ => trivial
    obtain ⟨m1_z, m2_z, m3_z, m4_z, m5_z, m6_z, m7_z⟩ := hsc
    have hx : ∀ q, zK w q = 3 → q ≠ a := fun q h1 h2 => by rw [h2, shTb_k hs] at h1; exact absurd h1 (by decide)
    refine ⟨m1_z, (zu_nn (Or.inr (by decide))).trans m2_z, (zu_nn (Or.inr (by decide))).trans m3_z, m4_z, m5_z, ?_, fun i hi_z => ?_⟩
    · exact ⟨m6_z.1, (zu_ne2 (hx _ m6_z.1)).trans m6_z.2.1, (zu_ne2 (hx _ m6_z.1)).trans m6_z.2.2.1, m6_z.2.2.2⟩
    · have m8_z := m7_z i hi_z
      exact ⟨m8_z.1, (zu_ne2 (hx _ m8_z.1)).trans m8_z.2.1, (zu_ne2 (hx _ m8_z.1)).trans m8_z.2.2.1, m8_z.2.2.2⟩
  have hsa2 := shw a hs
  have hsb2 := shw b hsb
  have hpa2 : ∀ i, i < 10 → zu (zP w) a 0 (some nq) (a + 10) i = some (a + 11 + 3 * pp i) := fun i hi_z => (zu_ne2 (by omega)).trans (hp.1 i hi_z).1
  have hpb2 : ∀ i, i < 10 → zu (zP w) a 0 (some nq) (b + 10) i = some (b + 11 + 3 * ppb i) := fun i hi_z => (zu_ne2 (by omega)).trans (hpb.1 i hi_z).1
  have lp : ∀ (mz : Nat) (c : Int32) (k : Nat) (f2_z : Nat → Nat → Int32), c.toInt = (k : Nat) → k ≤ 10 → ofT f f2_z a → ctMo f2_z (a + 7) Mb → (∀ i, i < k → ctMo f2_z (a + 11 + 3 * pp i) (gb i)) → 10 - k < mz → zR (zV g 2 yX7_take 3 none (0, 0) Q QX) cX7_take yX7_take.cls 21 [some (.ref a), some (.ref b), some (.int c)] [] (zM (zsP w (zu (zP w) a 0 (some nq))) f2_z j) (0, 0) := by
    intro mz
    induction mz with
    | zero =>
      intro c k f2_z hck hk ho hnow hdone hmz
      exact absurd hmz (Nat.not_lt_zero _)
    | succ mz ih =>
      intro c k f2_z hck hk ho hnow hdone hmz
      have hub : ∀ q, b ≤ q → q < b + 41 → f2_z q = f q := fun q h1 h2 => ho q (by omega)
      rcases Nat.lt_or_ge k 10 with hkl | hkl
      · have hpk := (hp.1 k hkl).2
        have hpk2 := (hpb.1 k hkl).2
        have hsrc : ctMo f2_z (b + 11 + 3 * ppb k) (gb k) := ctMo_of (u4 k hkl) (hub _ (by omega) (by omega)) (hub _ (by omega) (by omega)) (hub _ (by omega) (by omega))
        refine r_iload2 dX7_take_21 ?_
        refine r_aloadR0 dX7_take_22 ?_
        refine m_getR (q := (a + 10)) zf_RX7_25 rfl dX7_take_23 (shTb_k (w := w) hs) (shTb_p2 hsa2) ?_
        refine m_alen dX7_take_26 (zge (shTb_k10 (w := w) hs) (by decide)) (shTb_n10 (w := w) hs) (by first | decide | omega) (fun r26 e26_z => ?_)
        refine t_icge (t := 60) dX7_take_27 (by decide) (fun h27 => False.elim (by omega)) (fun h27 => ?_)
        refine r_iload2 dX7_take_30 ?_
        refine r_aloadR1 dX7_take_31 ?_
        refine m_getR (q := (b + 10)) zf_RX7_25 rfl dX7_take_32 (shTb_k (w := w) hsb) (shTb_p2 hsb2) ?_
        refine m_alen dX7_take_35 (zge (shTb_k10 (w := w) hsb) (by decide)) (shTb_n10 (w := w) hsb) (by first | decide | omega) (fun r35 e35 => ?_)
        refine t_icge (t := 60) dX7_take_36 (by decide) (fun h36 => False.elim (by omega)) (fun h36 => ?_)
        refine r_aloadR0 dX7_take_39 ?_
        refine m_getR (q := (a + 10)) zf_RX7_25 rfl dX7_take_40 (shTb_k (w := w) hs) (shTb_p2 hsa2) ?_
        refine r_iload2 dX7_take_43 ?_
        refine m_aald (ci := 2) (k := k) (q := (a + 11 + 3 * pp k)) dX7_take_44 (shTb_k10 (w := w) hs) (shTb_n10 (w := w) hs) (by omega) (by omega) (hpa2 k hkl) ?_
        refine r_aloadR1 dX7_take_45 ?_
        refine m_getR (q := (b + 10)) zf_RX7_25 rfl dX7_take_46 (shTb_k (w := w) hsb) (shTb_p2 hsb2) ?_
        refine r_iload2 dX7_take_49 ?_
        refine m_aald (ci := 2) (k := k) (q := (b + 11 + 3 * ppb k)) dX7_take_50 (shTb_k10 (w := w) hsb) (shTb_n10 (w := w) hsb) (by omega) (by omega) (hpb2 k hkl) ?_
        refine q_callV1 zm_RX7_41 dX7_take_51 (shMo_k (w := w) (shTb_pa (w := w) hs hpk)) (by decide) rfl (Nat.le_of_ble_eq_true rfl) (Nat.le_of_ble_eq_true rfl) (Nat.le_of_ble_eq_true rfl) (Nat.le_of_ble_eq_true rfl) (Nat.le_of_ble_eq_true rfl) (s_X3_take (w := zM (zsP w (zu (zP w) a 0 (some nq))) f2_z j) (M := gb k) G (shTb_pa hsa2 hpk) (shTb_pa hsb2 hpk2) hsrc (by omega) (fun f3_z ho3 hc3 => ?_))
        show zR _ _ _ _ _ _ (zM (zsP w (zu (zP w) a 0 (some nq))) f3_z j) _
        refine n_iinc2 dX7_take_54 (by decide) rfl (by omega) (fun r54 e54 => ?_)
        refine r_goto (t := 21) dX7_take_57 (by decide) ?_
        refine ih _ (k + 1) f3_z (by omega) (by omega) (ofT_tr ho (ofT_R ho3 (by omega))) (ctMo_R hnow ho3 (by omega)) (fun i hi_z => ?_) (by omega)
        rcases Nat.lt_or_ge i k with h9 | h9
        · have hpi := (hp.1 i (by omega)).2
          have hne : pp i ≠ pp k := fun e => absurd (hp.2 i k (by omega) hkl e) (by omega)
          exact ctMo_R (hdone i h9) ho3 (by omega)
        · rw [show i = k by omega]; exact hc3
      · refine r_iload2 dX7_take_21 ?_
        refine r_aloadR0 dX7_take_22 ?_
        refine m_getR (q := (a + 10)) zf_RX7_25 rfl dX7_take_23 (shTb_k (w := w) hs) (shTb_p2 hsa2) ?_
        refine m_alen dX7_take_26 (zge (shTb_k10 (w := w) hs) (by decide)) (shTb_n10 (w := w) hs) (by first | decide | omega) (fun r26 e26_z => ?_)
        refine t_icge (t := 60) dX7_take_27 (by decide) (fun h27 => ?_) (fun h27 => False.elim (by omega))
        refine r_aloadR0 dX7_take_60 ?_
        refine r_aloadR1 dX7_take_61 ?_
        refine m_getV (x := (f b 3)) zf_RX7_29 rfl dX7_take_62 (shTb_k (w := w) hsb) (by rw [hub b (by omega) (by omega)]) ?_
        refine m_putI zf_RX7_29 (by intro C T N h_z; cases h_z; rfl) rfl dX7_take_65 (shTb_k (w := w) hs) ?_
        refine r_vret dX7_take_68 rfl (Nat.le_of_ble_eq_true rfl) (Nat.le_of_ble_eq_true rfl) ?_
        refine hQ _ (ofT_tr ho ofT_zu) ⟨by rw [zu_at]; exact u1, u2, ctMo_zu hnow (by omega), fun i hi_z => ?_⟩
        have hpi := (hp.1 i hi_z).2
        exact ctMo_zu (hdone i (by omega)) (by omega)
  refine r_aloadR0 dX7_take_0 ?_
  refine r_aloadR1 dX7_take_1 ?_
  refine m_getR (q := nq) zf_RX7_12 rfl dX7_take_2 (shTb_k (w := w) hsb) (hnq) ?_
  refine m_putP (q := nq) zf_RX7_12 (by intro C T N h_z; cases h_z; rfl) rfl dX7_take_5 (shTb_k (w := w) hs) ?_
  refine r_aloadR0 dX7_take_8 ?_
  refine m_getR (q := (a + 7)) zf_RX7_21 rfl dX7_take_9 (shTb_k (w := w) hs) (shTb_p1 hsa2) ?_
  refine r_aloadR1 dX7_take_12 ?_
  refine m_getR (q := (b + 7)) zf_RX7_21 rfl dX7_take_13 (shTb_k (w := w) hsb) (shTb_p1 hsb2) ?_
  refine q_callV1 zm_RX7_41 dX7_take_16 (shMo_k (w := w) (shTb_mo (w := w) hs)) (by decide) rfl (Nat.le_of_ble_eq_true rfl) (Nat.le_of_ble_eq_true rfl) (Nat.le_of_ble_eq_true rfl) (Nat.le_of_ble_eq_true rfl) (Nat.le_of_ble_eq_true rfl) (s_X3_take (w := zM (zsP w (zu (zP w) a 0 (some nq))) f j) (M := Mb) G (shTb_mo hsa2) (shTb_mo hsb2) u3 (by omega) (fun f2_z ho2 hc2 => ?_))
  show zR _ _ _ _ _ _ (zM (zsP w (zu (zP w) a 0 (some nq))) f2_z j) _
  refine n_iconst dX7_take_19 (by decide) (fun r19 e19_z => ?_)
  refine r_istore2 dX7_take_20 rfl ?_
  exact lp 11 _ 0 f2_z (by omega) (by omega) (ofT_R ho2 (by omega)) hc2 (fun i h_z => absurd h_z (by omega)) (by omega)
