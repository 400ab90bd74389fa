/-! the reference asks for words -/
theorem ltP_len {B : Nat → Nat} {s e : Nat} : (ltP B s e).length = e - s := by
  unfold ltP
  rw [List.length_map, List.length_range]
theorem ltP_eq {B : Nat → Nat} {s e : Nat} {L : List Nat} : ltP B s e = L ↔ L.length = e - s ∧ ∀ k, k < L.length → B (s + k) = L.getD k 0 := by
  constructor
  · intro h_z
    subst h_z
    refine ⟨ltP_len, fun k hk => ?_⟩
    rw [ltP_len] at hk
    unfold ltP
    rw [List.getD_eq_getElem?_getD, List.getElem?_map, List.getElem?_range hk]
    rfl
  · rintro ⟨h1, h2⟩
    apply List.ext_getElem?
    intro k
    unfold ltP
    rw [List.getElem?_map]
    rcases Nat.lt_or_ge k L.length with h3 | h3
    · rw [List.getElem?_range (by omega), List.getElem?_eq_getElem h3]
      have h4 := h2 k h3
      rw [List.getD_eq_getElem?_getD, List.getElem?_eq_getElem h3] at h4
      exact congrArg some h4
    · rw [List.getElem?_eq_none (by rw [List.length_range]; omega), List.getElem?_eq_none h3]
      rfl
theorem wd_nd : ∀ i, i < 16 → ∀ l, l < 16 → wdL.getD i [] = wdL.getD l [] → i = l := by decide +kernel
theorem wd_eq {B : Nat → Nat} {n s i : Nat} (hi_z : i < 16) : wdP B n s = i ↔ ltP B s (teP B n s) = wdL.getD i [] := by
  have hl : wdL.length = 16 := by decide
  unfold wdP
  constructor
  · intro h_z
    have h1 : wdL.idxOf (ltP B s (teP B n s)) < wdL.length := by omega
    have h2 := List.getElem_idxOf h1
    rw [List.getD_eq_getElem?_getD, List.getElem?_eq_getElem (by omega)]
    show _ = wdL[i]
    rw [← h2]
    congr 1
  · intro h_z
    have h0 : ltP B s (teP B n s) ∈ wdL := by
      rw [h_z, List.getD_eq_getElem?_getD, List.getElem?_eq_getElem (by omega)]
      exact List.getElem_mem _
    have h1 := List.idxOf_lt_length_of_mem h0
    have h2 := List.getElem_idxOf h1
    refine wd_nd _ (by omega) i hi_z ?_
    rw [← h_z, List.getD_eq_getElem?_getD, List.getElem?_eq_getElem h1]
    exact h2
/-- the texts of the words, as constants -/
def kWd (g : zGT) (wa wv : Nat → Nat) (q : Nat) : Prop := kCS g ∧ (∀ U, g.2.2.2 U → va_Z "jdk/internal/util/Preconditions" "SIOOBE_FORMATTER" "Ljava/util/function/BiFunction;" (kQv q) (zA g.2.2.1) U U.heap) ∧ ∀ i, i < 16 → kTx g (wa i) (wv i) (wdL.getD i [])
set_option maxHeartbeats 4000000 in
set_option maxRecDepth 100000 in
theorem s_X12_isWord_x {g : zGT} {w : zW} {f : Nat → Nat → Int32} {j : Nat → Nat → Int64} {A : Nat} {B : Nat → Nat} {n : Nat} {wa wv : Nat → Nat} {kq : Nat} {i : Nat} {Q : Option Value → zW → Prop} {QX : String → zW → Prop} (G : zGok g) (hs : shM w A) (kw : kWd g wa wv kq) (hi_z : i < 16) (hb_z : (f A 12).toInt ≠ 0) (hQ : ∀ r : Int32, r.toInt = 0 → Q (some (.int r)) (zM w f j)) : zC g 5 yX12_isWord cX12_isWord 4 (some .boolean) [.ref A, .ref (wa i)] (zM w f j) (0, 0) Q QX := by
  refine zC_of G (by decide +kernel) (Nat.le_of_ble_eq_true rfl) ?_
  refine r_aloadR0 dX12_isWord_0 ?_
  refine m_getV (x := (f A 12)) zf_RX12_112 rfl dX12_isWord_1 (shM_k hs) (rfl) ?_
  refine t_ifne (t := 35) dX12_isWord_4 (by decide) (fun h4 => ?_) (fun h4 => False.elim (by omega))
  refine n_iconst dX12_isWord_35 (by decide) (fun r35 e35 => ?_)
  refine r_istore2 dX12_isWord_36 rfl ?_
  refine n_iconst dX12_isWord_37 (by decide) (fun r37 e37 => ?_)
  refine r_istore3 dX12_isWord_38 rfl ?_
  refine r_iload2 dX12_isWord_39 ?_
  refine t_ifeq (t := 82) dX12_isWord_40 (by decide) (fun h40 => ?_) (fun h40 => False.elim (by omega))
  refine r_iload2 dX12_isWord_82 ?_
  refine m_zret dX12_isWord_83 rfl (by omega) (Nat.le_of_ble_eq_true rfl) (Nat.le_of_ble_eq_true rfl) ?_
  exact hQ _ (by omega)
set_option maxHeartbeats 4000000 in
set_option maxRecDepth 100000 in
theorem s_X12_isWord {g : zGT} {w : zW} {f : Nat → Nat → Int32} {j : Nat → Nat → Int64} {A : Nat} {B : Nat → Nat} {n : Nat} {wa wv : Nat → Nat} {kq : Nat} {i s : Nat} {Q : Option Value → zW → Prop} {QX : String → zW → Prop} (G : zGok g) (hs : shM w A) (kw : kWd g wa wv kq) (hi_z : i < 16) (htp : tpM B n f A) (hps : psM B n f A 0 s) (hQ : ∀ r : Int32, (r.toInt = 1 ∧ isWd B n s i = true ∨ r.toInt = 0 ∧ ¬ isWd B n s i = true) → Q (some (.int r)) (zM w f j)) : zC g 5 yX12_isWord cX12_isWord 4 (some .boolean) [.ref A, .ref (wa i)] (zM w f j) (0, 0) Q QX := by
  refine zC_of G (by decide +kernel) (Nat.le_of_ble_eq_true rfl) ?_
  have ht := hps.2.1 rfl
  have h8 := ht.2.1
  have h9 := ht.2.2.1
  have h10 := ht.2.2.2.1
  have h12 := hps.1
  have hrk := rk1 (B := B) (n := n) (s := s)
  have hkt := kw.2.2 i hi_z
  have hll := hkt.1
  have hte := teP_le (B := B) ht.1
  have h900 := htp.2.1
  obtain ⟨L, hL⟩ : ∃ L, L = wdL.getD i [] := ⟨_, rfl⟩
  rw [← hL] at hkt hll
  have hno : (tkP B n s ≠ 3 ∨ ¬ ltP B s (teP B n s) = L) → ¬ isWd B n s i = true := by
    intro h1 h2
    have h3 := isWd_tk h2
    rcases h1 with h1 | h1
    · exact h1 h3.1
    · exact h1 (by rw [hL]; exact (wd_eq hi_z).mp h3.2)
  by_cases h3 : tkP B n s = 3
  · have h10b := hrk.mpr h3
    have hsn : s < n := tk_lt (B := B) (by omega)
    have htg := teP_gt (B := B) hsn
    by_cases hlen : L.length = teP B n s - s
    · have lq : True := trivial
      have lp : ∀ (mz : Nat) (u : Int32) (v : Int32) (k : Nat), v.toInt = (k : Nat) → k ≤ L.length → (u.toInt = 1 ∧ (∀ q, q < k → B (s + q) = L.getD q 0) ∨ u.toInt = 0 ∧ ¬ ltP B s (teP B n s) = L) → L.length - k < mz → zR (zV g 5 yX12_isWord 4 (some .boolean) (0, 0) Q QX) cX12_isWord yX12_isWord.cls 39 [some (.ref A), some (.ref (wa i)), some (.int u), some (.int v)] [] (zM w f j) (0, 0) := by
        intro mz
        induction mz with
        | zero =>
          intro u v k hv hk hu hmz
          exact absurd hmz (Nat.not_lt_zero _)
        | succ mz ih =>
          intro u v k hv hk hu hmz
          rcases hu with ⟨hu1, hu2⟩ | ⟨hu1, hu2⟩
          · rcases Nat.lt_or_ge k L.length with hkl | hkl
            · have hB_z := htp.2.2.1 (s + k) (by omega)
              by_cases hc_z : B (s + k) = L.getD k 0
              · refine r_iload2 dX12_isWord_39 ?_
                refine t_ifeq (t := 82) dX12_isWord_40 (by decide) (fun h40 => False.elim (by omega)) (fun h40 => ?_)
                refine r_iload3 dX12_isWord_43 ?_
                refine r_aloadR1 dX12_isWord_44 ?_
                refine k_callV0 zm_RX12_118 dX12_isWord_45 (fun U hU => ((kw.2.2 i hi_z).2.2 U hU).1) (Nat.le_of_ble_eq_true rfl) (Nat.le_of_ble_eq_true rfl) (Nat.le_of_ble_eq_true rfl) (Nat.le_of_ble_eq_true rfl) (Nat.le_of_ble_eq_true rfl) (s_length G hkt kw.1 (fun r45 e45 => ?_))
                refine t_icge (t := 82) dX12_isWord_48 (by decide) (fun h48 => False.elim (by omega)) (fun h48 => ?_)
                refine r_aloadR0 dX12_isWord_51 ?_
                refine m_getR (q := (A + 5)) zf_RX12_23 rfl dX12_isWord_52 (shM_k hs) (shM_p5 hs) ?_
                refine r_aloadR0 dX12_isWord_55 ?_
                refine m_getV (x := (f A 9)) zf_RX12_89 rfl dX12_isWord_56 (shM_k hs) (rfl) ?_
                refine r_iload3 dX12_isWord_59 ?_
                refine n_iadd dX12_isWord_60 (by omega) (fun r60 e60 => ?_)
                refine m_iald (k := (s + k)) (x := (f (A + 5) ((s + k)))) dX12_isWord_61 (shM_k5 hs) (shM_n5 hs) (by omega) (by omega) (rfl) ?_
                refine r_aloadR1 dX12_isWord_62 ?_
                refine r_iload3 dX12_isWord_63 ?_
                refine k_callV1 zm_RX12_123 dX12_isWord_64 (fun U hU => ((kw.2.2 i hi_z).2.2 U hU).1) (Nat.le_of_ble_eq_true rfl) (Nat.le_of_ble_eq_true rfl) (Nat.le_of_ble_eq_true rfl) (Nat.le_of_ble_eq_true rfl) (Nat.le_of_ble_eq_true rfl) (s_charAt (i := k) G hkt kw.1 kw.2.1 hv (by omega) (fun r64 e64 => ?_))
                refine t_icne (t := 74) dX12_isWord_67 (by decide) (fun h67 => False.elim (by omega)) (fun h67 => ?_)
                refine n_iconst dX12_isWord_70 (by decide) (fun r70 e70 => ?_)
                refine r_goto (t := 75) dX12_isWord_71 (by decide) ?_
                refine r_istore2 dX12_isWord_75 rfl ?_
                refine n_iinc3 dX12_isWord_76 (by decide) rfl (by omega) (fun r76 e76 => ?_)
                refine r_goto (t := 39) dX12_isWord_79 (by decide) ?_
                refine ih _ _ (k + 1) (by omega) (by omega) (Or.inl ⟨by omega, fun q hq => ?_⟩) (by omega)
                rcases Nat.lt_or_ge q k with h7 | h7
                · exact hu2 q h7
                · rw [show q = k by omega]; exact hc_z
              · refine r_iload2 dX12_isWord_39 ?_
                refine t_ifeq (t := 82) dX12_isWord_40 (by decide) (fun h40 => False.elim (by omega)) (fun h40 => ?_)
                refine r_iload3 dX12_isWord_43 ?_
                refine r_aloadR1 dX12_isWord_44 ?_
                refine k_callV0 zm_RX12_118 dX12_isWord_45 (fun U hU => ((kw.2.2 i hi_z).2.2 U hU).1) (Nat.le_of_ble_eq_true rfl) (Nat.le_of_ble_eq_true rfl) (Nat.le_of_ble_eq_true rfl) (Nat.le_of_ble_eq_true rfl) (Nat.le_of_ble_eq_true rfl) (s_length G hkt kw.1 (fun r45 e45 => ?_))
                refine t_icge (t := 82) dX12_isWord_48 (by decide) (fun h48 => False.elim (by omega)) (fun h48 => ?_)
                refine r_aloadR0 dX12_isWord_51 ?_
                refine m_getR (q := (A + 5)) zf_RX12_23 rfl dX12_isWord_52 (shM_k hs) (shM_p5 hs) ?_
                refine r_aloadR0 dX12_isWord_55 ?_
                refine m_getV (x := (f A 9)) zf_RX12_89 rfl dX12_isWord_56 (shM_k hs) (rfl) ?_
                refine r_iload3 dX12_isWord_59 ?_
                refine n_iadd dX12_isWord_60 (by omega) (fun r60 e60 => ?_)
                refine m_iald (k := (s + k)) (x := (f (A + 5) ((s + k)))) dX12_isWord_61 (shM_k5 hs) (shM_n5 hs) (by omega) (by omega) (rfl) ?_
                refine r_aloadR1 dX12_isWord_62 ?_
                refine r_iload3 dX12_isWord_63 ?_
                refine k_callV1 zm_RX12_123 dX12_isWord_64 (fun U hU => ((kw.2.2 i hi_z).2.2 U hU).1) (Nat.le_of_ble_eq_true rfl) (Nat.le_of_ble_eq_true rfl) (Nat.le_of_ble_eq_true rfl) (Nat.le_of_ble_eq_true rfl) (Nat.le_of_ble_eq_true rfl) (s_charAt (i := k) G hkt kw.1 kw.2.1 hv (by omega) (fun r64 e64 => ?_))
                refine t_icne (t := 74) dX12_isWord_67 (by decide) (fun h67 => ?_) (fun h67 => False.elim (by omega))
                refine n_iconst dX12_isWord_74 (by decide) (fun r74 e74_z => ?_)
                refine r_istore2 dX12_isWord_75 rfl ?_
                refine n_iinc3 dX12_isWord_76 (by decide) rfl (by omega) (fun r76 e76 => ?_)
                refine r_goto (t := 39) dX12_isWord_79 (by decide) ?_
                exact ih _ _ (k + 1) (by omega) (by omega) (Or.inr ⟨by omega, fun h7 => hc_z ((ltP_eq.mp h7).2 k hkl)⟩) (by omega)
            · refine r_iload2 dX12_isWord_39 ?_
              refine t_ifeq (t := 82) dX12_isWord_40 (by decide) (fun h40 => False.elim (by omega)) (fun h40 => ?_)
              refine r_iload3 dX12_isWord_43 ?_
              refine r_aloadR1 dX12_isWord_44 ?_
              refine k_callV0 zm_RX12_118 dX12_isWord_45 (fun U hU => ((kw.2.2 i hi_z).2.2 U hU).1) (Nat.le_of_ble_eq_true rfl) (Nat.le_of_ble_eq_true rfl) (Nat.le_of_ble_eq_true rfl) (Nat.le_of_ble_eq_true rfl) (Nat.le_of_ble_eq_true rfl) (s_length G hkt kw.1 (fun r45 e45 => ?_))
              refine t_icge (t := 82) dX12_isWord_48 (by decide) (fun h48 => ?_) (fun h48 => False.elim (by omega))
              refine r_iload2 dX12_isWord_82 ?_
              refine m_zret dX12_isWord_83 rfl (by omega) (Nat.le_of_ble_eq_true rfl) (Nat.le_of_ble_eq_true rfl) ?_
              exact hQ _ (Or.inl ⟨hu1, decide_eq_true ⟨h3, (wd_eq hi_z).mpr (by rw [← hL]; exact ltP_eq.mpr ⟨hlen, fun q hq => hu2 q (by omega)⟩)⟩⟩)
          · refine r_iload2 dX12_isWord_39 ?_
            refine t_ifeq (t := 82) dX12_isWord_40 (by decide) (fun h40 => ?_) (fun h40 => False.elim (by omega))
            refine r_iload2 dX12_isWord_82 ?_
            refine m_zret dX12_isWord_83 rfl (by omega) (Nat.le_of_ble_eq_true rfl) (Nat.le_of_ble_eq_true rfl) ?_
            exact hQ _ (Or.inr ⟨hu1, hno (Or.inr hu2)⟩)
      refine r_aloadR0 dX12_isWord_0 ?_
      refine m_getV (x := (f A 12)) zf_RX12_112 rfl dX12_isWord_1 (shM_k hs) (rfl) ?_
      refine t_ifne (t := 35) dX12_isWord_4 (by decide) (fun h4 => False.elim (by omega)) (fun h4 => ?_)
      refine r_aloadR0 dX12_isWord_7 ?_
      refine m_getV (x := (f A 10)) zf_RX12_92 rfl dX12_isWord_8 (shM_k hs) (rfl) ?_
      refine n_iconst dX12_isWord_11 (by decide) (fun r11 e11_z => ?_)
      refine t_icne (t := 35) dX12_isWord_12 (by decide) (fun h12 => False.elim (by omega)) (fun h12 => ?_)
      refine r_aloadR0 dX12_isWord_15 ?_
      refine m_getV (x := (f A 8)) zf_RX12_86 rfl dX12_isWord_16 (shM_k hs) (rfl) ?_
      refine r_aloadR0 dX12_isWord_19 ?_
      refine m_getV (x := (f A 9)) zf_RX12_89 rfl dX12_isWord_20 (shM_k hs) (rfl) ?_
      refine n_isub dX12_isWord_23 (by omega) (fun r23 e23_z => ?_)
      refine r_aloadR1 dX12_isWord_24 ?_
      refine k_callV0 zm_RX12_118 dX12_isWord_25 (fun U hU => ((kw.2.2 i hi_z).2.2 U hU).1) (Nat.le_of_ble_eq_true rfl) (Nat.le_of_ble_eq_true rfl) (Nat.le_of_ble_eq_true rfl) (Nat.le_of_ble_eq_true rfl) (Nat.le_of_ble_eq_true rfl) (s_length G hkt kw.1 (fun r25 e25_z => ?_))
      refine t_icne (t := 35) dX12_isWord_28 (by decide) (fun h28 => False.elim (by omega)) (fun h28 => ?_)
      refine n_iconst dX12_isWord_31 (by decide) (fun r31 e31_z => ?_)
      refine r_goto (t := 36) dX12_isWord_32 (by decide) ?_
      refine r_istore2 dX12_isWord_36 rfl ?_
      refine n_iconst dX12_isWord_37 (by decide) (fun r37 e37 => ?_)
      refine r_istore3 dX12_isWord_38 rfl ?_
      exact lp _ _ _ 0 (by omega) (Nat.zero_le _) (Or.inl ⟨by omega, fun q hq => absurd hq (Nat.not_lt_zero q)⟩) (Nat.lt_succ_self _)
    · refine r_aloadR0 dX12_isWord_0 ?_
      refine m_getV (x := (f A 12)) zf_RX12_112 rfl dX12_isWord_1 (shM_k hs) (rfl) ?_
      refine t_ifne (t := 35) dX12_isWord_4 (by decide) (fun h4 => False.elim (by omega)) (fun h4 => ?_)
      refine r_aloadR0 dX12_isWord_7 ?_
      refine m_getV (x := (f A 10)) zf_RX12_92 rfl dX12_isWord_8 (shM_k hs) (rfl) ?_
      refine n_iconst dX12_isWord_11 (by decide) (fun r11 e11_z => ?_)
      refine t_icne (t := 35) dX12_isWord_12 (by decide) (fun h12 => False.elim (by omega)) (fun h12 => ?_)
      refine r_aloadR0 dX12_isWord_15 ?_
      refine m_getV (x := (f A 8)) zf_RX12_86 rfl dX12_isWord_16 (shM_k hs) (rfl) ?_
      refine r_aloadR0 dX12_isWord_19 ?_
      refine m_getV (x := (f A 9)) zf_RX12_89 rfl dX12_isWord_20 (shM_k hs) (rfl) ?_
      refine n_isub dX12_isWord_23 (by omega) (fun r23 e23_z => ?_)
      refine r_aloadR1 dX12_isWord_24 ?_
      refine k_callV0 zm_RX12_118 dX12_isWord_25 (fun U hU => ((kw.2.2 i hi_z).2.2 U hU).1) (Nat.le_of_ble_eq_true rfl) (Nat.le_of_ble_eq_true rfl) (Nat.le_of_ble_eq_true rfl) (Nat.le_of_ble_eq_true rfl) (Nat.le_of_ble_eq_true rfl) (s_length G hkt kw.1 (fun r25 e25_z => ?_))
      refine t_icne (t := 35) dX12_isWord_28 (by decide) (fun h28 => ?_) (fun h28 => False.elim (by omega))
      refine n_iconst dX12_isWord_35 (by decide) (fun r35 e35 => ?_)
      refine r_istore2 dX12_isWord_36 rfl ?_
      refine n_iconst dX12_isWord_37 (by decide) (fun r37 e37 => ?_)
      refine r_istore3 dX12_isWord_38 rfl ?_
      refine r_iload2 dX12_isWord_39 ?_
      refine t_ifeq (t := 82) dX12_isWord_40 (by decide) (fun h40 => ?_) (fun h40 => False.elim (by omega))
      refine r_iload2 dX12_isWord_82 ?_
      refine m_zret dX12_isWord_83 rfl (by omega) (Nat.le_of_ble_eq_true rfl) (Nat.le_of_ble_eq_true rfl) ?_
      exact hQ _ (Or.inr ⟨by omega, hno (Or.inr (fun h7 => hlen (ltP_eq.mp h7).1))⟩)
  · refine r_aloadR0 dX12_isWord_0 ?_
    refine m_getV (x := (f A 12)) zf_RX12_112 rfl dX12_isWord_1 (shM_k hs) (rfl) ?_
    refine t_ifne (t := 35) dX12_isWord_4 (by decide) (fun h4 => False.elim (by omega)) (fun h4 => ?_)
    refine r_aloadR0 dX12_isWord_7 ?_
    have h10b : rkP B n s ≠ 1 := fun h_z => h3 (hrk.mp h_z)
    refine m_getV (x := (f A 10)) zf_RX12_92 rfl dX12_isWord_8 (shM_k hs) (rfl) ?_
    refine n_iconst dX12_isWord_11 (by decide) (fun r11 e11_z => ?_)
    refine t_icne (t := 35) dX12_isWord_12 (by decide) (fun h12 => ?_) (fun h12 => False.elim (by omega))
    refine n_iconst dX12_isWord_35 (by decide) (fun r35 e35 => ?_)
    refine r_istore2 dX12_isWord_36 rfl ?_
    refine n_iconst dX12_isWord_37 (by decide) (fun r37 e37 => ?_)
    refine r_istore3 dX12_isWord_38 rfl ?_
    refine r_iload2 dX12_isWord_39 ?_
    refine t_ifeq (t := 82) dX12_isWord_40 (by decide) (fun h40 => ?_) (fun h40 => False.elim (by omega))
    refine r_iload2 dX12_isWord_82 ?_
    refine m_zret dX12_isWord_83 rfl (by omega) (Nat.le_of_ble_eq_true rfl) (Nat.le_of_ble_eq_true rfl) ?_
    exact hQ _ (Or.inr ⟨by omega, hno (Or.inl h3)⟩)
