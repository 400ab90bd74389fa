/-! Tray: a row of numbers cut to its sort; rows filled -/
def shTr (w : zW) (a : Nat) : Prop := zK w a = 8 ∧ zP w a 0 = some (a + 1) ∧ zK w (a + 1) = 25 ∧ zN w (a + 1) = 30
theorem shTr_k {w : zW} {a : Nat} (h_z : shTr w a) : zK w a = 8 := h_z.1
theorem shTr_p0 {w : zW} {a : Nat} (h_z : shTr w a) : zP w a 0 = some (a + 1) := h_z.2.1
theorem shTr_k1 {w : zW} {a : Nat} (h_z : shTr w a) : zK w (a + 1) = 25 := h_z.2.2.1
theorem shTr_n1 {w : zW} {a : Nat} (h_z : shTr w a) : zN w (a + 1) = 30 := h_z.2.2.2
abbrev zTy : Type := Option (Nat × List Int)
def ctTr (f : Nat → Nat → Int32) (j : Nat → Nat → Int64) (a : Nat) : zTy → Prop
  | none => (f a 3).toInt = 1 ∧ (f a 2).toInt = 0
  | some (s, l) => (f a 3).toInt = 0 ∧ (f a 1).toInt = (s : Nat) ∧ s ≤ 3 ∧ (f a 2).toInt = (l.length : Nat) ∧ l.length ≤ 30 ∧ ∀ (i : Nat) (v : Int), l[i]? = some v → (j (a + 1) i).toInt = v
def cutI (s : Nat) (v : Int) : Int := if s = 0 then Int.bmod v 256 else if s = 1 then Int.bmod v 65536 else if s = 2 then Int.bmod v 4294967296 else v
theorem ctTr_of {f f2_z : Nat → Nat → Int32} {j j2 : Nat → Nat → Int64} {a : Nat} {t : zTy} (h_z : ctTr f j a t) (e : f2_z a = f a) (e2_z : j2 (a + 1) = j (a + 1)) : ctTr f2_z j2 a t := by
  cases t with
  | none => unfold ctTr at h_z ⊢; rw [e]; exact h_z
  | some q => unfold ctTr at h_z ⊢; rw [e, e2_z]; exact h_z
theorem cut0 {v : Int64} : (v.toInt32.toInt8.toInt32).toInt = cutI 0 v.toInt := by
  rw [Int8.toInt_toInt32, Int32.toInt_toInt8, Int64.toInt_toInt32]
  show _ = Int.bmod v.toInt 256
  rw [Int.bmod_bmod_of_dvd (by decide)]
theorem cut1 {v : Int64} : (v.toInt32.toInt16.toInt32).toInt = cutI 1 v.toInt := by
  rw [Int16.toInt_toInt32, Int32.toInt_toInt16, Int64.toInt_toInt32]
  show _ = Int.bmod v.toInt 65536
  rw [Int.bmod_bmod_of_dvd (by decide)]
theorem cut2 {v : Int64} : (v.toInt32).toInt = cutI 2 v.toInt := by
  rw [Int64.toInt_toInt32]
  rfl
set_option maxHeartbeats 4000000 in
set_option maxRecDepth 100000 in
theorem s_J7_fill_53178 {g : zGT} {w : zW} {f : Nat → Nat → Int32} {j : Nat → Nat → Int64} {q n : Nat} {x : Int32} {Q : Option Value → zW → Prop} {QX : String → zW → Prop} (G : zGok g) (hqk : zK w q = 21) (hqn : zN w q = n) (hn : n < 2147483647) (hQ : ∀ f2_z, (∀ p, p ≠ q → f2_z p = f p) → (∀ i, i < n → f2_z q i = x) → Q none (zM w f2_z j)) : zC g 1 yJ7_fill_53178 cJ7_fill_53178 4 none [.ref q, .int x] (zM w f j) (0, 0) Q QX := by
  refine zC_of G (by decide +kernel) (Nat.le_of_ble_eq_true rfl) ?_
  refine n_iconst dJ7_fill_53178_0 (by decide) (fun r0 e0_z => ?_)
  refine r_istore2 dJ7_fill_53178_1 rfl ?_
  refine r_aloadR0 dJ7_fill_53178_2 ?_
  refine m_alen dJ7_fill_53178_3 (zge hqk (by decide)) hqn (by first | decide | omega) (fun r3 e3_z => ?_)
  refine r_istore3 dJ7_fill_53178_4 rfl ?_
  have lp : ∀ (mz : Nat) (c : Int32) (k : Nat) (f2_z : Nat → Nat → Int32), c.toInt = (k : Nat) → k ≤ n → (∀ p, p ≠ q → f2_z p = f p) → (∀ i, i < k → f2_z q i = x) → n - k < mz → zR (zV g 1 yJ7_fill_53178 4 none (0, 0) Q QX) cJ7_fill_53178 yJ7_fill_53178.cls 5 [some (.ref q), some (.int x), some (.int c), some (.int r3)] [] (zM w f2_z j) (0, 0) := by
    intro mz
    induction mz with
    | zero =>
      intro c k f2_z hc_z hk ho hin hmz
      exact absurd hmz (Nat.not_lt_zero _)
    | succ mz ih =>
      intro c k f2_z hc_z hk ho hin hmz
      rcases Nat.lt_or_ge k n with hkl | hkl
      · skip
        refine r_iload2 dJ7_fill_53178_5 ?_
        refine r_iload3 dJ7_fill_53178_6 ?_
        refine t_icge (t := 20) dJ7_fill_53178_7 (by decide) (fun h7 => False.elim (by omega)) (fun h7 => ?_)
        refine r_aloadR0 dJ7_fill_53178_10 ?_
        refine r_iload2 dJ7_fill_53178_11 ?_
        refine r_iload1 dJ7_fill_53178_12 ?_
        refine m_iast (k := k) dJ7_fill_53178_13 hqk hqn (by omega) (by omega) ?_
        refine n_iinc2 dJ7_fill_53178_14 (by decide) rfl (by omega) (fun r14 e14_z => ?_)
        refine r_goto (t := 5) dJ7_fill_53178_17 (by decide) ?_
        refine ih _ (k + 1) _ (by omega) (by omega) (fun p hp => (zu_ne hp).trans (ho p hp)) (fun i hi_z => ?_) (by omega)
        rw [zu_s2]
        split
        · rfl
        · exact hin i (by omega)
      · refine r_iload2 dJ7_fill_53178_5 ?_
        refine r_iload3 dJ7_fill_53178_6 ?_
        refine t_icge (t := 20) dJ7_fill_53178_7 (by decide) (fun h7 => ?_) (fun h7 => False.elim (by omega))
        refine r_vret dJ7_fill_53178_20 rfl (Nat.le_of_ble_eq_true rfl) (Nat.le_of_ble_eq_true rfl) ?_
        exact hQ f2_z ho (fun i hi_z => hin i (by omega))
  exact lp (n + 1) _ 0 f (by omega) (by omega) (fun _ _ => rfl) (fun i hi_z => absurd hi_z (by omega)) (by omega)
set_option maxHeartbeats 4000000 in
set_option maxRecDepth 100000 in
theorem s_J7_fill_d0a16 {g : zGT} {w : zW} {f : Nat → Nat → Int32} {j : Nat → Nat → Int64} {q n : Nat} {x : Int64} {Q : Option Value → zW → Prop} {QX : String → zW → Prop} (G : zGok g) (hqk : zK w q = 25) (hqn : zN w q = n) (hn : n < 2147483647) (hQ : ∀ j2, (∀ p, p ≠ q → j2 p = j p) → (∀ i, i < n → j2 q i = x) → Q none (zM w f j2)) : zC g 1 yJ7_fill_d0a16 cJ7_fill_d0a16 5 none [.ref q, .long x] (zM w f j) (0, 0) Q QX := by
  refine zC_of G (by decide +kernel) (Nat.le_of_ble_eq_true rfl) ?_
  refine n_iconst dJ7_fill_d0a16_0 (by decide) (fun r0 e0_z => ?_)
  refine r_istore3 dJ7_fill_d0a16_1 rfl ?_
  refine r_aloadR0 dJ7_fill_d0a16_2 ?_
  refine m_alen dJ7_fill_d0a16_3 (zge hqk (by decide)) hqn (by first | decide | omega) (fun r3 e3_z => ?_)
  refine r_istore4 dJ7_fill_d0a16_4 rfl ?_
  have lp : ∀ (mz : Nat) (c : Int32) (k : Nat) (j2 : Nat → Nat → Int64), c.toInt = (k : Nat) → k ≤ n → (∀ p, p ≠ q → j2 p = j p) → (∀ i, i < k → j2 q i = x) → n - k < mz → zR (zV g 1 yJ7_fill_d0a16 5 none (0, 0) Q QX) cJ7_fill_d0a16 yJ7_fill_d0a16.cls 6 [some (.ref q), some (.long x), none, some (.int c), some (.int r3)] [] (zM w f j2) (0, 0) := by
    intro mz
    induction mz with
    | zero =>
      intro c k j2 hc_z hk ho hin hmz
      exact absurd hmz (Nat.not_lt_zero _)
    | succ mz ih =>
      intro c k j2 hc_z hk ho hin hmz
      rcases Nat.lt_or_ge k n with hkl | hkl
      · skip
        refine r_iload3 dJ7_fill_d0a16_6 ?_
        refine r_iload4 dJ7_fill_d0a16_7 ?_
        refine t_icge (t := 22) dJ7_fill_d0a16_9 (by decide) (fun h9 => False.elim (by omega)) (fun h9 => ?_)
        refine r_aloadR0 dJ7_fill_d0a16_12 ?_
        refine r_iload3 dJ7_fill_d0a16_13 ?_
        refine r_lload1 dJ7_fill_d0a16_14 ?_
        refine m_last (k := k) dJ7_fill_d0a16_15 hqk hqn (by omega) (by omega) ?_
        refine n_iinc3 dJ7_fill_d0a16_16 (by decide) rfl (by omega) (fun r16 e16_z => ?_)
        refine r_goto (t := 6) dJ7_fill_d0a16_19 (by decide) ?_
        refine ih _ (k + 1) _ (by omega) (by omega) (fun p hp => (zu_ne hp).trans (ho p hp)) (fun i hi_z => ?_) (by omega)
        rw [zu_s2]
        split
        · rfl
        · exact hin i (by omega)
      · refine r_iload3 dJ7_fill_d0a16_6 ?_
        refine r_iload4 dJ7_fill_d0a16_7 ?_
        refine t_icge (t := 22) dJ7_fill_d0a16_9 (by decide) (fun h9 => ?_) (fun h9 => False.elim (by omega))
        refine r_vret dJ7_fill_d0a16_22 rfl (Nat.le_of_ble_eq_true rfl) (Nat.le_of_ble_eq_true rfl) ?_
        exact hQ j2 ho (fun i hi_z => hin i (by omega))
  exact lp (n + 1) _ 0 j (by omega) (by omega) (fun _ _ => rfl) (fun i hi_z => absurd hi_z (by omega)) (by omega)
set_option maxHeartbeats 4000000 in
set_option maxRecDepth 100000 in
theorem s_X8_numberAt {g : zGT} {w : zW} {f : Nat → Nat → Int32} {j : Nat → Nat → Int64} {a s : Nat} {l : List Int} {k : Nat} {v : Int} {x : Int32} {Q : Option Value → zW → Prop} {QX : String → zW → Prop} (G : zGok g) (hs : shTr w a) (ht : ctTr f j a (some (s, l))) (hx : x.toInt = (k : Nat)) (hv : l[k]? = some v) (hQ : ∀ r : Int64, r.toInt = v → Q (some (.long r)) (zM w f j)) : zC g 1 yX8_numberAt cX8_numberAt 2 (some .long) [.ref a, .int x] (zM w f j) (0, 0) Q QX := by
  refine zC_of G (by decide +kernel) (Nat.le_of_ble_eq_true rfl) ?_
  obtain ⟨t1, t2, t3, t4, t5, t6⟩ := ht
  have hkl := (List.getElem?_eq_some_iff.mp hv).1
  refine r_iload1 dX8_numberAt_0 ?_
  refine t_iflt (t := 30) dX8_numberAt_1 (by decide) (fun h1 => False.elim (by omega)) (fun h1 => ?_)
  refine r_iload1 dX8_numberAt_4 ?_
  refine r_aloadR0 dX8_numberAt_5 ?_
  refine m_getV (x := (f a 2)) zf_RX8_19 rfl dX8_numberAt_6 (shTr_k hs) (rfl) ?_
  refine t_icge (t := 30) dX8_numberAt_9 (by decide) (fun h9 => False.elim (by omega)) (fun h9 => ?_)
  refine r_iload1 dX8_numberAt_12 ?_
  refine r_aloadR0 dX8_numberAt_13 ?_
  refine m_getR (q := (a + 1)) zf_RX8_9 rfl dX8_numberAt_14 (shTr_k hs) (shTr_p0 hs) ?_
  refine m_alen dX8_numberAt_17 (zge (shTr_k1 hs) (by decide)) (shTr_n1 hs) (by first | decide | omega) (fun r17 e17_z => ?_)
  refine t_icge (t := 30) dX8_numberAt_18 (by decide) (fun h18 => False.elim (by omega)) (fun h18 => ?_)
  refine r_aloadR0 dX8_numberAt_21 ?_
  refine m_getR (q := (a + 1)) zf_RX8_9 rfl dX8_numberAt_22 (shTr_k hs) (shTr_p0 hs) ?_
  refine r_iload1 dX8_numberAt_25 ?_
  refine m_lald (k := k) (x := (j (a + 1) k)) dX8_numberAt_26 (shTr_k1 hs) (shTr_n1 hs) (by omega) (by omega) (rfl) ?_
  refine r_goto (t := 31) dX8_numberAt_27 (by decide) ?_
  refine r_lret dX8_numberAt_31 rfl (Nat.le_of_ble_eq_true rfl) (Nat.le_of_ble_eq_true rfl) ?_
  exact hQ _ (t6 k v hv)
set_option maxHeartbeats 4000000 in
set_option maxRecDepth 100000 in
theorem s_X8_cut {g : zGT} {w : zW} {f : Nat → Nat → Int32} {j : Nat → Nat → Int64} {a s : Nat} {v : Int64} {Q : Option Value → zW → Prop} {QX : String → zW → Prop} (G : zGok g) (hs : shTr w a) (h1 : (f a 1).toInt = (s : Nat)) (h3 : s ≤ 3) (hQ : ∀ r : Int64, r.toInt = cutI s v.toInt → Q (some (.long r)) (zM w f j)) : zC g 1 yX8_cut cX8_cut 3 (some .long) [.ref a, .long v] (zM w f j) (0, 0) Q QX := by
  refine zC_of G (by decide +kernel) (Nat.le_of_ble_eq_true rfl) ?_
  rcases (show s = 0 ∨ s = 1 ∨ s = 2 ∨ s = 3 by omega) with rfl | rfl | rfl | rfl
  · refine r_aloadR0 dX8_cut_0 ?_
    refine m_getV (x := (f a 1)) zf_RX8_15 rfl dX8_cut_1 (shTr_k hs) (rfl) ?_
    refine n_tabC (k := 0) (t := 32) dX8_cut_4 (by decide) rfl (by decide) (fun h4 => ?_) (fun h4 => False.elim (h4 (by omega)))
    refine r_lload1 dX8_cut_32 ?_
    refine r_l2i dX8_cut_33 ?_
    refine n_name (fun r33 e33_z => ?_)
    refine r_i2b dX8_cut_34 ?_
    refine n_name (fun r34 e34 => ?_)
    refine n_i2l dX8_cut_35 (fun r35 e35 => ?_)
    refine r_lret dX8_cut_36 rfl (Nat.le_of_ble_eq_true rfl) (Nat.le_of_ble_eq_true rfl) ?_
    exact hQ _ (by rw [e35, e34, e33_z]; exact cut0)
  · refine r_aloadR0 dX8_cut_0 ?_
    refine m_getV (x := (f a 1)) zf_RX8_15 rfl dX8_cut_1 (shTr_k hs) (rfl) ?_
    refine n_tabC (k := 1) (t := 37) dX8_cut_4 (by decide) rfl (by decide) (fun h4 => ?_) (fun h4 => False.elim (h4 (by omega)))
    refine r_lload1 dX8_cut_37 ?_
    refine r_l2i dX8_cut_38 ?_
    refine n_name (fun r38 e38 => ?_)
    refine r_i2s dX8_cut_39 ?_
    refine n_name (fun r39 e39 => ?_)
    refine n_i2l dX8_cut_40 (fun r40 e40 => ?_)
    refine r_lret dX8_cut_41 rfl (Nat.le_of_ble_eq_true rfl) (Nat.le_of_ble_eq_true rfl) ?_
    exact hQ _ (by rw [e40, e39, e38]; exact cut1)
  · refine r_aloadR0 dX8_cut_0 ?_
    refine m_getV (x := (f a 1)) zf_RX8_15 rfl dX8_cut_1 (shTr_k hs) (rfl) ?_
    refine n_tabC (k := 2) (t := 42) dX8_cut_4 (by decide) rfl (by decide) (fun h4 => ?_) (fun h4 => False.elim (h4 (by omega)))
    refine r_lload1 dX8_cut_42 ?_
    refine r_l2i dX8_cut_43 ?_
    refine n_name (fun r43 e43 => ?_)
    refine n_i2l dX8_cut_44 (fun r44 e44 => ?_)
    refine r_lret dX8_cut_45 rfl (Nat.le_of_ble_eq_true rfl) (Nat.le_of_ble_eq_true rfl) ?_
    exact hQ _ (by rw [e44, e43]; exact cut2)
  · refine r_aloadR0 dX8_cut_0 ?_
    refine m_getV (x := (f a 1)) zf_RX8_15 rfl dX8_cut_1 (shTr_k hs) (rfl) ?_
    refine n_tabD (t := 46) dX8_cut_4 (by decide) (by omega) ?_
    refine r_lload1 dX8_cut_46 ?_
    refine r_lret dX8_cut_47 rfl (Nat.le_of_ble_eq_true rfl) (Nat.le_of_ble_eq_true rfl) ?_
    exact hQ _ rfl
set_option maxHeartbeats 4000000 in
set_option maxRecDepth 100000 in
theorem s_X8_put {g : zGT} {w : zW} {f : Nat → Nat → Int32} {j : Nat → Nat → Int64} {a s : Nat} {l : List Int} {k : Nat} {x : Int32} {v : Int64} {Q : Option Value → zW → Prop} {QX : String → zW → Prop} (G : zGok g) (hs : shTr w a) (ht : ctTr f j a (some (s, l))) (hx : x.toInt = (k : Nat)) (hk : k < l.length) (hQ : ∀ (r : Int64) j2, r.toInt = cutI s v.toInt → ctTr f j2 a (some (s, l.set k (cutI s v.toInt))) → (∀ q, q ≠ a + 1 → j2 q = j q) → Q (some (.long r)) (zM w f j2)) : zC g 2 yX8_put cX8_put 4 (some .long) [.ref a, .int x, .long v] (zM w f j) (0, 0) Q QX := by
  refine zC_of G (by decide +kernel) (Nat.le_of_ble_eq_true rfl) ?_
  have ht0 := ht
  obtain ⟨t1, t2, t3, t4, t5, t6⟩ := ht
  refine r_iload1 dX8_put_0 ?_
  refine t_iflt (t := 32) dX8_put_1 (by decide) (fun h1 => False.elim (by omega)) (fun h1 => ?_)
  refine r_iload1 dX8_put_4 ?_
  refine r_aloadR0 dX8_put_5 ?_
  refine m_getV (x := (f a 2)) zf_RX8_19 rfl dX8_put_6 (shTr_k hs) (rfl) ?_
  refine t_icge (t := 32) dX8_put_9 (by decide) (fun h9 => False.elim (by omega)) (fun h9 => ?_)
  refine r_iload1 dX8_put_12 ?_
  refine r_aloadR0 dX8_put_13 ?_
  refine m_getR (q := (a + 1)) zf_RX8_9 rfl dX8_put_14 (shTr_k hs) (shTr_p0 hs) ?_
  refine m_alen dX8_put_17 (zge (shTr_k1 hs) (by decide)) (shTr_n1 hs) (by first | decide | omega) (fun r17 e17_z => ?_)
  refine t_icge (t := 32) dX8_put_18 (by decide) (fun h18 => False.elim (by omega)) (fun h18 => ?_)
  refine r_aloadR0 dX8_put_21 ?_
  refine m_getR (q := (a + 1)) zf_RX8_9 rfl dX8_put_22 (shTr_k hs) (shTr_p0 hs) ?_
  refine r_iload1 dX8_put_25 ?_
  refine r_aloadR0 dX8_put_26 ?_
  refine r_lload2 dX8_put_27 ?_
  refine q_callV1 zm_RX8_32 dX8_put_28 (shTr_k hs) (by decide) rfl (Nat.le_of_ble_eq_true rfl) (Nat.le_of_ble_eq_true rfl) (Nat.le_of_ble_eq_true rfl) (Nat.le_of_ble_eq_true rfl) (Nat.le_of_ble_eq_true rfl) (s_X8_cut G hs t2 t3 (fun r28 e28_z => ?_))
  refine m_last (k := k) dX8_put_31 (shTr_k1 hs) (shTr_n1 hs) (by omega) (by omega) ?_
  obtain ⟨j2, hj2⟩ : ∃ j2, j2 = zu j (a + 1) k r28 := ⟨_, rfl⟩
  rw [← hj2]
  have hc2 : ctTr f j2 a (some (s, l.set k (cutI s v.toInt))) := by
    refine ⟨t1, t2, t3, by rw [List.length_set]; exact t4, by rw [List.length_set]; exact t5, fun i u hu => ?_⟩
    rw [hj2, zu_s2]
    by_cases hi_z : i = k
    · rw [if_pos hi_z]; subst hi_z; rw [List.getElem?_set_self hk] at hu; cases hu; exact e28_z
    · rw [if_neg hi_z]; rw [List.getElem?_set_ne (Ne.symm hi_z)] at hu; exact t6 i u hu
  refine r_aloadR0 dX8_put_32 ?_
  refine r_iload1 dX8_put_33 ?_
  refine q_callV1 zm_RX8_36 dX8_put_34 (shTr_k hs) (by decide) rfl (Nat.le_of_ble_eq_true rfl) (Nat.le_of_ble_eq_true rfl) (Nat.le_of_ble_eq_true rfl) (Nat.le_of_ble_eq_true rfl) (Nat.le_of_ble_eq_true rfl) (s_X8_numberAt (k := k) (v := cutI s v.toInt) G hs hc2 hx (by rw [List.getElem?_set_self hk]) (fun r34 e34 => ?_))
  refine r_lret dX8_put_37 rfl (Nat.le_of_ble_eq_true rfl) (Nat.le_of_ble_eq_true rfl) ?_
  exact hQ _ j2 e34 hc2 (fun q hq => by rw [hj2]; exact zu_ne hq)
set_option maxHeartbeats 4000000 in
set_option maxRecDepth 100000 in
theorem s_X8_clear {g : zGT} {w : zW} {f : Nat → Nat → Int32} {j : Nat → Nat → Int64} {a s m : Nat} {x y : Int32} {Q : Option Value → zW → Prop} {QX : String → zW → Prop} (G : zGok g) (hs : shTr w a) (hx : x.toInt = (s : Nat)) (h3 : s ≤ 3) (hy : y.toInt = (m : Nat)) (hm_z : m ≤ 30) (hQ : ∀ f2_z j2, ofR f f2_z a 1 → (∀ q, q ≠ a + 1 → j2 q = j q) → ctTr f2_z j2 a (some (s, List.replicate m 0)) → Q none (zM w f2_z j2)) : zC g 2 yX8_clear cX8_clear 3 none [.ref a, .int x, .int y] (zM w f j) (0, 0) Q QX := by
  refine zC_of G (by decide +kernel) (Nat.le_of_ble_eq_true rfl) ?_
  refine r_aloadR0 dX8_clear_0 ?_
  refine m_getR (q := (a + 1)) zf_RX8_9 rfl dX8_clear_1 (shTr_k hs) (shTr_p0 hs) ?_
  refine n_lconst (q := 0) dX8_clear_4 rfl (by decide) (fun r4 e4_z => ?_)
  refine q_callS2 zm_RX8_26 dX8_clear_5 (Nat.le_of_ble_eq_true rfl) (Nat.le_of_ble_eq_true rfl) (Nat.le_of_ble_eq_true rfl) (Nat.le_of_ble_eq_true rfl) (Nat.le_of_ble_eq_true rfl) (s_J7_fill_d0a16 G (shTr_k1 hs) (shTr_n1 hs) (by decide) (fun j2 hj1 hj2 => ?_))
  refine r_aloadR0 dX8_clear_8 ?_
  refine r_iload1 dX8_clear_9 ?_
  refine m_putI zf_RX8_15 (by intro C T N h_z; cases h_z; rfl) rfl dX8_clear_10 (shTr_k hs) ?_
  refine r_aloadR0 dX8_clear_13 ?_
  refine r_iload2 dX8_clear_14 ?_
  refine m_putI zf_RX8_19 (by intro C T N h_z; cases h_z; rfl) rfl dX8_clear_15 (shTr_k hs) ?_
  refine r_aloadR0 dX8_clear_18 ?_
  refine n_iconst dX8_clear_19 (by decide) (fun r19 e19_z => ?_)
  refine m_putZ zf_RX8_22 (by intro C T N h_z; cases h_z; rfl) rfl (by omega) dX8_clear_20 (shTr_k hs) ?_
  refine r_vret dX8_clear_23 rfl (Nat.le_of_ble_eq_true rfl) (Nat.le_of_ble_eq_true rfl) ?_
  refine hQ _ j2 (ofR_zu (ofR_zu (ofR_zu ofR_rf (by omega)) (by omega)) (by omega)) hj1 ⟨?_, ?_, h3, ?_, by rw [List.length_replicate]; exact hm_z, fun i v hv => ?_⟩
  · rw [zu_at]; omega
  · rw [zu_ni (by decide), zu_ni (by decide), zu_at]; exact hx
  · rw [zu_ni (by decide), zu_at, List.length_replicate]; exact hy
  · have hl := (List.getElem?_eq_some_iff.mp hv).1
    rw [List.length_replicate] at hl
    rw [hj2 i (by omega)]
    rw [List.getElem?_replicate, if_pos hl] at hv
    cases hv
    exact e4_z
theorem all_at {l : List Int} {p : Int → Prop} : (∀ v ∈ l, p v) ↔ ∀ (i : Nat) (v : Int), l[i]? = some v → p v := by
  constructor
  · exact fun h_z i v hv => h_z v (List.mem_of_getElem? hv)
  · intro h_z v hv
    obtain ⟨i, hi_z⟩ := List.mem_iff_getElem?.mp hv
    exact h_z i v hi_z
set_option maxHeartbeats 4000000 in
set_option maxRecDepth 100000 in
theorem s_X8_tellsFrom {g : zGT} {w : zW} {f : Nat → Nat → Int32} {j : Nat → Nat → Int64} {a s : Nat} {l : List Int} {x : Int64} {Q : Option Value → zW → Prop} {QX : String → zW → Prop} (G : zGok g) (hs : shTr w a) (ht : ctTr f j a (some (s, l))) (hQ : ∀ r : Int32, (r.toInt = 1 ∧ (∀ v ∈ l, x.toInt ≤ v) ∨ r.toInt = 0 ∧ ¬ (∀ v ∈ l, x.toInt ≤ v)) → Q (some (.int r)) (zM w f j)) : zC g 2 yX8_tellsFrom cX8_tellsFrom 4 (some .boolean) [.ref a, .long x] (zM w f j) (0, 0) Q QX := by
  refine zC_of G (by decide +kernel) (Nat.le_of_ble_eq_true rfl) ?_
  have ht0 := ht
  obtain ⟨t1, t2, t3, t4, t5, t6⟩ := ht0
  have lp : ∀ (mz : Nat) (c : Int32) (k : Nat), c.toInt = (k : Nat) → k ≤ l.length → (∀ (i : Nat) (u : Int), i < k → l[i]? = some u → x.toInt ≤ u) → l.length - k < mz → zR (zV g 2 yX8_tellsFrom 4 (some .boolean) (0, 0) Q QX) cX8_tellsFrom yX8_tellsFrom.cls 2 [some (.ref a), some (.long x), none, some (.int c)] [] (zM w f j) (0, 0) := by
    intro mz
    induction mz with
    | zero =>
      intro c k hc_z hk hin hmz
      exact absurd hmz (Nat.not_lt_zero _)
    | succ mz ih =>
      intro c k hc_z hk hin hmz
      rcases Nat.lt_or_ge k l.length with hkl | hkl
      · obtain ⟨v, hv⟩ : ∃ v, l[k]? = some v := ⟨_, List.getElem?_eq_getElem hkl⟩
        refine r_iload3 dX8_tellsFrom_2 ?_
        refine r_aloadR0 dX8_tellsFrom_3 ?_
        refine m_getV (x := (f a 2)) zf_RX8_19 rfl dX8_tellsFrom_4 (shTr_k hs) (rfl) ?_
        refine t_icge (t := 28) dX8_tellsFrom_7 (by decide) (fun h7 => False.elim (by omega)) (fun h7 => ?_)
        refine r_aloadR0 dX8_tellsFrom_10 ?_
        refine r_iload3 dX8_tellsFrom_11 ?_
        refine q_callV1 zm_RX8_36 dX8_tellsFrom_12 (shTr_k hs) (by decide) rfl (Nat.le_of_ble_eq_true rfl) (Nat.le_of_ble_eq_true rfl) (Nat.le_of_ble_eq_true rfl) (Nat.le_of_ble_eq_true rfl) (Nat.le_of_ble_eq_true rfl) (s_X8_numberAt (k := k) (v := v) G hs ht hc_z hv (fun r12 e12_z => ?_))
        refine r_lload1 dX8_tellsFrom_15 ?_
        refine n_lcmp dX8_tellsFrom_16 (fun r16 e16_z => ?_)
        unfold zcmp at e16_z
        refine t_ifge (t := 22) dX8_tellsFrom_17 (by decide) (fun h17 => ?_) (fun h17 => ?_)
        · refine n_iinc3 dX8_tellsFrom_22 (by decide) rfl (by omega) (fun r22 e22_z => ?_)
          refine r_goto (t := 2) dX8_tellsFrom_25 (by decide) ?_
          refine ih _ (k + 1) (by omega) (by omega) (fun i u hi_z hu => ?_) (by omega)
          rcases Nat.lt_or_ge i k with h9 | h9
          · exact hin i u h9 hu
          · rw [show i = k by omega, hv] at hu; cases hu; omega
        · refine n_iconst dX8_tellsFrom_20 (by decide) (fun r20 e20 => ?_)
          refine m_zret dX8_tellsFrom_21 rfl (by omega) (Nat.le_of_ble_eq_true rfl) (Nat.le_of_ble_eq_true rfl) ?_
          exact hQ _ (Or.inr ⟨by omega, fun hall => absurd (hall v (List.mem_of_getElem? hv)) (by omega)⟩)
      · refine r_iload3 dX8_tellsFrom_2 ?_
        refine r_aloadR0 dX8_tellsFrom_3 ?_
        refine m_getV (x := (f a 2)) zf_RX8_19 rfl dX8_tellsFrom_4 (shTr_k hs) (rfl) ?_
        refine t_icge (t := 28) dX8_tellsFrom_7 (by decide) (fun h7 => ?_) (fun h7 => False.elim (by omega))
        refine n_iconst dX8_tellsFrom_28 (by decide) (fun r28 e28_z => ?_)
        refine m_zret dX8_tellsFrom_29 rfl (by omega) (Nat.le_of_ble_eq_true rfl) (Nat.le_of_ble_eq_true rfl) ?_
        exact hQ _ (Or.inl ⟨by omega, all_at.mpr (fun i u hu => hin i u (by have := (List.getElem?_eq_some_iff.mp hu).1; omega) hu)⟩)
  refine n_iconst dX8_tellsFrom_0 (by decide) (fun r0 e0_z => ?_)
  refine r_istore3 dX8_tellsFrom_1 rfl ?_
  exact lp (l.length + 1) _ 0 (by omega) (by omega) (fun i u h_z => absurd h_z (by omega)) (by omega)
set_option maxHeartbeats 4000000 in
set_option maxRecDepth 100000 in
theorem s_X8_tellsWithin {g : zGT} {w : zW} {f : Nat → Nat → Int32} {j : Nat → Nat → Int64} {a s : Nat} {l : List Int} {x y : Int64} {Q : Option Value → zW → Prop} {QX : String → zW → Prop} (G : zGok g) (hs : shTr w a) (ht : ctTr f j a (some (s, l))) (hQ : ∀ r : Int32, (r.toInt = 1 ∧ (∀ v ∈ l, x.toInt ≤ v ∧ v ≤ y.toInt) ∨ r.toInt = 0 ∧ ¬ (∀ v ∈ l, x.toInt ≤ v ∧ v ≤ y.toInt)) → Q (some (.int r)) (zM w f j)) : zC g 3 yX8_tellsWithin cX8_tellsWithin 6 (some .boolean) [.ref a, .long x, .long y] (zM w f j) (0, 0) Q QX := by
  refine zC_of G (by decide +kernel) (Nat.le_of_ble_eq_true rfl) ?_
  have ht0 := ht
  obtain ⟨t1, t2, t3, t4, t5, t6⟩ := ht0
  have lp : ∀ (mz : Nat) (c : Int32) (k : Nat), c.toInt = (k : Nat) → k ≤ l.length → (∀ (i : Nat) (u : Int), i < k → l[i]? = some u → u ≤ y.toInt) → l.length - k < mz → zR (zV g 3 yX8_tellsWithin 6 (some .boolean) (0, 0) Q QX) cX8_tellsWithin yX8_tellsWithin.cls 3 [some (.ref a), some (.long x), none, some (.long y), none, some (.int c)] [] (zM w f j) (0, 0) := by
    intro mz
    induction mz with
    | zero =>
      intro c k hc_z hk hin hmz
      exact absurd hmz (Nat.not_lt_zero _)
    | succ mz ih =>
      intro c k hc_z hk hin hmz
      rcases Nat.lt_or_ge k l.length with hkl | hkl
      · obtain ⟨v, hv⟩ : ∃ v, l[k]? = some v := ⟨_, List.getElem?_eq_getElem hkl⟩
        refine r_iload5 dX8_tellsWithin_3 ?_
        refine r_aloadR0 dX8_tellsWithin_5 ?_
        refine m_getV (x := (f a 2)) zf_RX8_19 rfl dX8_tellsWithin_6 (shTr_k hs) (rfl) ?_
        refine t_icge (t := 31) dX8_tellsWithin_9 (by decide) (fun h9 => False.elim (by omega)) (fun h9 => ?_)
        refine r_aloadR0 dX8_tellsWithin_12 ?_
        refine r_iload5 dX8_tellsWithin_13 ?_
        refine q_callV1 zm_RX8_36 dX8_tellsWithin_15 (shTr_k hs) (by decide) rfl (Nat.le_of_ble_eq_true rfl) (Nat.le_of_ble_eq_true rfl) (Nat.le_of_ble_eq_true rfl) (Nat.le_of_ble_eq_true rfl) (Nat.le_of_ble_eq_true rfl) (s_X8_numberAt (k := k) (v := v) G hs ht hc_z hv (fun r15 e15_z => ?_))
        refine r_lload3 dX8_tellsWithin_18 ?_
        refine n_lcmp dX8_tellsWithin_19 (fun r19 e19_z => ?_)
        unfold zcmp at e19_z
        refine t_ifle (t := 25) dX8_tellsWithin_20 (by decide) (fun h20 => ?_) (fun h20 => ?_)
        · refine n_iinc5 dX8_tellsWithin_25 (by decide) rfl (by omega) (fun r25 e25_z => ?_)
          refine r_goto (t := 3) dX8_tellsWithin_28 (by decide) ?_
          refine ih _ (k + 1) (by omega) (by omega) (fun i u hi_z hu => ?_) (by omega)
          rcases Nat.lt_or_ge i k with h9 | h9
          · exact hin i u h9 hu
          · rw [show i = k by omega, hv] at hu; cases hu; omega
        · refine n_iconst dX8_tellsWithin_23 (by decide) (fun r23 e23_z => ?_)
          refine m_zret dX8_tellsWithin_24 rfl (by omega) (Nat.le_of_ble_eq_true rfl) (Nat.le_of_ble_eq_true rfl) ?_
          exact hQ _ (Or.inr ⟨by omega, fun hall => absurd (hall v (List.mem_of_getElem? hv)).2 (by omega)⟩)
      · refine r_iload5 dX8_tellsWithin_3 ?_
        refine r_aloadR0 dX8_tellsWithin_5 ?_
        refine m_getV (x := (f a 2)) zf_RX8_19 rfl dX8_tellsWithin_6 (shTr_k hs) (rfl) ?_
        refine t_icge (t := 31) dX8_tellsWithin_9 (by decide) (fun h9 => ?_) (fun h9 => False.elim (by omega))
        refine r_aloadR0 dX8_tellsWithin_31 ?_
        refine r_lload1 dX8_tellsWithin_32 ?_
        refine q_callV1 zm_RX8_40 dX8_tellsWithin_33 (shTr_k hs) (by decide) rfl (Nat.le_of_ble_eq_true rfl) (Nat.le_of_ble_eq_true rfl) (Nat.le_of_ble_eq_true rfl) (Nat.le_of_ble_eq_true rfl) (Nat.le_of_ble_eq_true rfl) (s_X8_tellsFrom G hs ht (fun r33 e33_z => ?_))
        refine m_zret dX8_tellsWithin_36 rfl (by omega) (Nat.le_of_ble_eq_true rfl) (Nat.le_of_ble_eq_true rfl) ?_
        have hy2 : ∀ v ∈ l, v ≤ y.toInt := all_at.mpr (fun i u hu => hin i u (by have := (List.getElem?_eq_some_iff.mp hu).1; omega) hu)
        rcases e33_z with ⟨p1, p2⟩ | ⟨p1, p2⟩
        · exact hQ _ (Or.inl ⟨p1, fun v hv => ⟨p2 v hv, hy2 v hv⟩⟩)
        · exact hQ _ (Or.inr ⟨p1, fun hall => p2 (fun v hv => (hall v hv).1)⟩)
  refine n_iconst dX8_tellsWithin_0 (by decide) (fun r0 e0_z => ?_)
  refine r_istore5 dX8_tellsWithin_1 rfl ?_
  exact lp (l.length + 1) _ 0 (by omega) (by omega) (fun i u h_z => absurd h_z (by omega)) (by omega)
set_option maxHeartbeats 4000000 in
set_option maxRecDepth 100000 in
theorem s_X8_tellsSight {g : zGT} {w : zW} {f : Nat → Nat → Int32} {j : Nat → Nat → Int64} {a s : Nat} {l : List Int} {Q : Option Value → zW → Prop} {QX : String → zW → Prop} (G : zGok g) (hs : shTr w a) (ht : ctTr f j a (some (s, l))) (hQ : ∀ r : Int32, (r.toInt = 1 ∧ ((1 ≤ l.length ∧ l.length ≤ 6) ∧ ∀ v ∈ l, -1 ≤ v) ∨ r.toInt = 0 ∧ ¬ ((1 ≤ l.length ∧ l.length ≤ 6) ∧ ∀ v ∈ l, -1 ≤ v)) → Q (some (.int r)) (zM w f j)) : zC g 3 yX8_tellsSight cX8_tellsSight 1 (some .boolean) [.ref a] (zM w f j) (0, 0) Q QX := by
  refine zC_of G (by decide +kernel) (Nat.le_of_ble_eq_true rfl) ?_
  have ht0 := ht
  obtain ⟨t1, t2, t3, t4, t5, t6⟩ := ht0
  refine r_aloadR0 dX8_tellsSight_0 ?_
  refine m_getV (x := (f a 2)) zf_RX8_19 rfl dX8_tellsSight_1 (shTr_k hs) (rfl) ?_
  refine n_iconst dX8_tellsSight_4 (by decide) (fun r4 e4_z => ?_)
  refine t_iclt (t := 31) dX8_tellsSight_5 (by decide) (fun h5 => ?_) (fun h5 => ?_)
  · refine n_iconst dX8_tellsSight_31 (by decide) (fun r31 e31_z => ?_)
    refine m_zret dX8_tellsSight_32 rfl (by omega) (Nat.le_of_ble_eq_true rfl) (Nat.le_of_ble_eq_true rfl) ?_
    first
      | exact hQ _ (Or.inr ⟨by omega, fun hall => absurd hall.1 (by omega)⟩)
      | (rcases e21_z with ⟨p1, p2⟩ | ⟨p1, p2⟩ <;> first | exact hQ _ (Or.inl ⟨by omega, ⟨by omega, by omega⟩, fun v hv => by have := p2 v hv; omega⟩) | exact hQ _ (Or.inr ⟨by omega, fun hall => p2 (fun v hv => by have := hall.2 v hv; omega)⟩))
  · refine r_aloadR0 dX8_tellsSight_8 ?_
    refine m_getV (x := (f a 2)) zf_RX8_19 rfl dX8_tellsSight_9 (shTr_k hs) (rfl) ?_
    refine n_bipush dX8_tellsSight_12 (by decide) (fun r12 e12_z => ?_)
    refine t_icgt (t := 31) dX8_tellsSight_14 (by decide) (fun h14 => ?_) (fun h14 => ?_)
    · refine n_iconst dX8_tellsSight_31 (by decide) (fun r31 e31_z => ?_)
      refine m_zret dX8_tellsSight_32 rfl (by omega) (Nat.le_of_ble_eq_true rfl) (Nat.le_of_ble_eq_true rfl) ?_
      first
        | exact hQ _ (Or.inr ⟨by omega, fun hall => absurd hall.1 (by omega)⟩)
        | (rcases e21_z with ⟨p1, p2⟩ | ⟨p1, p2⟩ <;> first | exact hQ _ (Or.inl ⟨by omega, ⟨by omega, by omega⟩, fun v hv => by have := p2 v hv; omega⟩) | exact hQ _ (Or.inr ⟨by omega, fun hall => p2 (fun v hv => by have := hall.2 v hv; omega)⟩))
    · refine r_aloadR0 dX8_tellsSight_17 ?_
      refine n_ldc2 (n := -1) zk_RX8_44 dX8_tellsSight_18 (by decide) (fun r18 e18_z => ?_)
      refine q_callV1 zm_RX8_40 dX8_tellsSight_21 (shTr_k hs) (by decide) rfl (Nat.le_of_ble_eq_true rfl) (Nat.le_of_ble_eq_true rfl) (Nat.le_of_ble_eq_true rfl) (Nat.le_of_ble_eq_true rfl) (Nat.le_of_ble_eq_true rfl) (s_X8_tellsFrom G hs ht (fun r21 e21_z => ?_))
      refine t_ifeq (t := 31) dX8_tellsSight_24 (by decide) (fun h24 => ?_) (fun h24 => ?_)
      · refine n_iconst dX8_tellsSight_31 (by decide) (fun r31 e31_z => ?_)
        refine m_zret dX8_tellsSight_32 rfl (by omega) (Nat.le_of_ble_eq_true rfl) (Nat.le_of_ble_eq_true rfl) ?_
        first
          | exact hQ _ (Or.inr ⟨by omega, fun hall => absurd hall.1 (by omega)⟩)
          | (rcases e21_z with ⟨p1, p2⟩ | ⟨p1, p2⟩ <;> first | exact hQ _ (Or.inl ⟨by omega, ⟨by omega, by omega⟩, fun v hv => by have := p2 v hv; omega⟩) | exact hQ _ (Or.inr ⟨by omega, fun hall => p2 (fun v hv => by have := hall.2 v hv; omega)⟩))
      · refine n_iconst dX8_tellsSight_27 (by decide) (fun r27 e27_z => ?_)
        refine r_goto (t := 32) dX8_tellsSight_28 (by decide) ?_
        refine m_zret dX8_tellsSight_32 rfl (by omega) (Nat.le_of_ble_eq_true rfl) (Nat.le_of_ble_eq_true rfl) ?_
        first
          | exact hQ _ (Or.inr ⟨by omega, fun hall => absurd hall.1 (by omega)⟩)
          | (rcases e21_z with ⟨p1, p2⟩ | ⟨p1, p2⟩ <;> first | exact hQ _ (Or.inl ⟨by omega, ⟨by omega, by omega⟩, fun v hv => by have := p2 v hv; omega⟩) | exact hQ _ (Or.inr ⟨by omega, fun hall => p2 (fun v hv => by have := hall.2 v hv; omega)⟩))
set_option maxHeartbeats 4000000 in
set_option maxRecDepth 100000 in
theorem s_X8_tellsEachOnce {g : zGT} {w : zW} {f : Nat → Nat → Int32} {j : Nat → Nat → Int64} {a s : Nat} {l : List Int} {n : Nat} {x : Int32} {Q : Option Value → zW → Prop} {QX : String → zW → Prop} (G : zGok g) (hs : shTr w a) (ht : ctTr f j a (some (s, l))) (hx : x.toInt = (n : Nat)) (hn6 : n ≤ 6) (hQ : ∀ r : Int32, (r.toInt = 1 ∧ ((l.length : Int) = (n : Nat) ∧ (∀ v ∈ l, 0 ≤ v ∧ v < (n : Nat)) ∧ ∀ (i k : Nat) (u v : Int), k < i → l[i]? = some u → l[k]? = some v → u ≠ v) ∨ r.toInt = 0 ∧ ¬ ((l.length : Int) = (n : Nat) ∧ (∀ v ∈ l, 0 ≤ v ∧ v < (n : Nat)) ∧ ∀ (i k : Nat) (u v : Int), k < i → l[i]? = some u → l[k]? = some v → u ≠ v)) → Q (some (.int r)) (zM w f j)) : zC g 4 yX8_tellsEachOnce cX8_tellsEachOnce 4 (some .boolean) [.ref a, .int x] (zM w f j) (0, 0) Q QX := by
  refine zC_of G (by decide +kernel) (Nat.le_of_ble_eq_true rfl) ?_
  have ht0 := ht
  obtain ⟨t1, t2, t3, t4, t5, t6⟩ := ht0
  refine r_aloadR0 dX8_tellsEachOnce_0 ?_
  refine m_getV (x := (f a 2)) zf_RX8_19 rfl dX8_tellsEachOnce_1 (shTr_k hs) (rfl) ?_
  refine r_iload1 dX8_tellsEachOnce_4 ?_
  refine t_icne (t := 20) dX8_tellsEachOnce_5 (by decide) (fun h5 => ?_) (fun h5 => ?_)
  · refine n_iconst dX8_tellsEachOnce_20 (by decide) (fun r20 e20 => ?_)
    refine m_zret dX8_tellsEachOnce_21 rfl (by omega) (Nat.le_of_ble_eq_true rfl) (Nat.le_of_ble_eq_true rfl) ?_
    first
      | exact hQ _ (Or.inr ⟨by omega, fun hall => absurd hall.1 (by omega)⟩)
      | (rcases e14_z with ⟨p1, p2⟩ | ⟨p1, p2⟩
         · exact absurd p1 (by omega)
         · exact hQ _ (Or.inr ⟨by omega, fun hall => p2 (fun v hv => by have := hall.2.1 v hv; omega)⟩))
  · refine r_aloadR0 dX8_tellsEachOnce_8 ?_
    refine n_lconst (q := 0) dX8_tellsEachOnce_9 rfl (by decide) (fun r9 e9_z => ?_)
    refine r_iload1 dX8_tellsEachOnce_10 ?_
    refine n_iconst dX8_tellsEachOnce_11 (by decide) (fun r11 e11_z => ?_)
    refine n_isub dX8_tellsEachOnce_12 (by omega) (fun r12 e12_z => ?_)
    refine n_i2l dX8_tellsEachOnce_13 (fun r13 e13_z => ?_)
    refine q_callV2 zm_RX8_46 dX8_tellsEachOnce_14 (shTr_k hs) (by decide) rfl (Nat.le_of_ble_eq_true rfl) (Nat.le_of_ble_eq_true rfl) (Nat.le_of_ble_eq_true rfl) (Nat.le_of_ble_eq_true rfl) (Nat.le_of_ble_eq_true rfl) (s_X8_tellsWithin G hs ht (fun r14 e14_z => ?_))
    refine t_ifne (t := 22) dX8_tellsEachOnce_17 (by decide) (fun h17 => ?_) (fun h17 => ?_)
    · refine n_iconst dX8_tellsEachOnce_22 (by decide) (fun r22 e22_z => ?_)
      refine r_istore2 dX8_tellsEachOnce_23 rfl ?_
      rcases e14_z with ⟨p1, p2⟩ | ⟨p1, p2⟩
      · have hwi : ∀ v ∈ l, 0 ≤ v ∧ v < (n : Nat) := fun v hv => by have := p2 v hv; omega
        have hnn : (l.length : Int) = (n : Nat) := by omega
        have lp : ∀ (mz : Nat) (c : Int32) (v3 : Option Value) (k : Nat), c.toInt = (k : Nat) → k ≤ l.length → (∀ (i q : Nat) (u v : Int), i < k → q < i → l[i]? = some u → l[q]? = some v → u ≠ v) → l.length - k < mz → zR (zV g 4 yX8_tellsEachOnce 4 (some .boolean) (0, 0) Q QX) cX8_tellsEachOnce yX8_tellsEachOnce.cls 24 [some (.ref a), some (.int x), some (.int c), v3] [] (zM w f j) (0, 0) := by
          intro mz
          induction mz with
          | zero =>
            intro c v3 k hc_z hk hin hmz
            exact absurd hmz (Nat.not_lt_zero _)
          | succ mz ih =>
            intro c v3 k hc_z hk hin hmz
            rcases Nat.lt_or_ge k l.length with hkl | hkl
            · obtain ⟨v, hv⟩ : ∃ v, l[k]? = some v := ⟨_, List.getElem?_eq_getElem hkl⟩
              have lp2 : ∀ (m2_z : Nat) (e : Int32) (i : Nat), e.toInt = (i : Nat) → i ≤ k → (∀ (p : Nat) (z : Int), p < i → l[p]? = some z → v ≠ z) → k - i < m2_z → zR (zV g 4 yX8_tellsEachOnce 4 (some .boolean) (0, 0) Q QX) cX8_tellsEachOnce yX8_tellsEachOnce.cls 34 [some (.ref a), some (.int x), some (.int c), some (.int e)] [] (zM w f j) (0, 0) := by
                intro m2_z
                induction m2_z with
                | zero =>
                  intro e i hi_z hik hne hm2
                  exact absurd hm2 (Nat.not_lt_zero _)
                | succ m2_z ih2 =>
                  intro e i hi_z hik hne hm2
                  rcases Nat.lt_or_ge i k with hil | hil
                  · obtain ⟨u, hu⟩ : ∃ u, l[i]? = some u := ⟨_, List.getElem?_eq_getElem (by omega)⟩
                    refine r_iload3 dX8_tellsEachOnce_34 ?_
                    refine r_iload2 dX8_tellsEachOnce_35 ?_
                    refine t_icge (t := 61) dX8_tellsEachOnce_36 (by decide) (fun h36 => False.elim (by omega)) (fun h36 => ?_)
                    refine r_aloadR0 dX8_tellsEachOnce_39 ?_
                    refine r_iload2 dX8_tellsEachOnce_40 ?_
                    refine q_callV1 zm_RX8_36 dX8_tellsEachOnce_41 (shTr_k hs) (by decide) rfl (Nat.le_of_ble_eq_true rfl) (Nat.le_of_ble_eq_true rfl) (Nat.le_of_ble_eq_true rfl) (Nat.le_of_ble_eq_true rfl) (Nat.le_of_ble_eq_true rfl) (s_X8_numberAt (k := k) (v := v) G hs ht hc_z hv (fun r41 e41_z => ?_))
                    refine r_aloadR0 dX8_tellsEachOnce_44 ?_
                    refine r_iload3 dX8_tellsEachOnce_45 ?_
                    refine q_callV1 zm_RX8_36 dX8_tellsEachOnce_46 (shTr_k hs) (by decide) rfl (Nat.le_of_ble_eq_true rfl) (Nat.le_of_ble_eq_true rfl) (Nat.le_of_ble_eq_true rfl) (Nat.le_of_ble_eq_true rfl) (Nat.le_of_ble_eq_true rfl) (s_X8_numberAt (k := i) (v := u) G hs ht hi_z hu (fun r46 e46 => ?_))
                    refine n_lcmp dX8_tellsEachOnce_49 (fun r49 e49 => ?_)
                    unfold zcmp at e49
                    refine t_ifne (t := 55) dX8_tellsEachOnce_50 (by decide) (fun h50 => ?_) (fun h50 => ?_)
                    · refine n_iinc3 dX8_tellsEachOnce_55 (by decide) rfl (by omega) (fun r55 e55 => ?_)
                      refine r_goto (t := 34) dX8_tellsEachOnce_58 (by decide) ?_
                      refine ih2 _ (i + 1) (by omega) (by omega) (fun p z hp hz => ?_) (by omega)
                      rcases Nat.lt_or_ge p i with h9 | h9
                      · exact hne p z h9 hz
                      · rw [show p = i by omega, hu] at hz; cases hz; omega
                    · refine n_iconst dX8_tellsEachOnce_53 (by decide) (fun r53 e53 => ?_)
                      refine m_zret dX8_tellsEachOnce_54 rfl (by omega) (Nat.le_of_ble_eq_true rfl) (Nat.le_of_ble_eq_true rfl) ?_
                      exact hQ _ (Or.inr ⟨by omega, fun hall => hall.2.2 k i v u hil hv hu (by omega)⟩)
                  · refine r_iload3 dX8_tellsEachOnce_34 ?_
                    refine r_iload2 dX8_tellsEachOnce_35 ?_
                    refine t_icge (t := 61) dX8_tellsEachOnce_36 (by decide) (fun h36 => ?_) (fun h36 => False.elim (by omega))
                    refine n_iinc2 dX8_tellsEachOnce_61 (by decide) rfl (by omega) (fun r61 e61 => ?_)
                    refine r_goto (t := 24) dX8_tellsEachOnce_64 (by decide) ?_
                    refine ih _ _ (k + 1) (by omega) (by omega) (fun p q z y hp hq hz hy => ?_) (by omega)
                    rcases Nat.lt_or_ge p k with h9 | h9
                    · exact hin p q z y h9 hq hz hy
                    · rw [show p = k by omega, hv] at hz; cases hz; exact hne q y (by omega) hy
              refine r_iload2 dX8_tellsEachOnce_24 ?_
              refine r_aloadR0 dX8_tellsEachOnce_25 ?_
              refine m_getV (x := (f a 2)) zf_RX8_19 rfl dX8_tellsEachOnce_26 (shTr_k hs) (rfl) ?_
              refine t_icge (t := 67) dX8_tellsEachOnce_29 (by decide) (fun h29 => False.elim (by omega)) (fun h29 => ?_)
              refine n_iconst dX8_tellsEachOnce_32 (by decide) (fun r32 e32 => ?_)
              refine r_istore3 dX8_tellsEachOnce_33 rfl ?_
              exact lp2 (k + 1) _ 0 (by omega) (by omega) (fun p z h_z => absurd h_z (by omega)) (by omega)
            · refine r_iload2 dX8_tellsEachOnce_24 ?_
              refine r_aloadR0 dX8_tellsEachOnce_25 ?_
              refine m_getV (x := (f a 2)) zf_RX8_19 rfl dX8_tellsEachOnce_26 (shTr_k hs) (rfl) ?_
              refine t_icge (t := 67) dX8_tellsEachOnce_29 (by decide) (fun h29 => ?_) (fun h29 => False.elim (by omega))
              refine n_iconst dX8_tellsEachOnce_67 (by decide) (fun r67 e67 => ?_)
              refine m_zret dX8_tellsEachOnce_68 rfl (by omega) (Nat.le_of_ble_eq_true rfl) (Nat.le_of_ble_eq_true rfl) ?_
              exact hQ _ (Or.inl ⟨by omega, hnn, hwi, fun i q u v hq hu hv => hin i q u v (by have := (List.getElem?_eq_some_iff.mp hu).1; omega) hq hu hv⟩)
        exact lp (l.length + 1) _ _ 0 (by omega) (by omega) (fun i q u v h_z => absurd h_z (by omega)) (by omega)
      · exact absurd p1 (by omega)
    · refine n_iconst dX8_tellsEachOnce_20 (by decide) (fun r20 e20 => ?_)
      refine m_zret dX8_tellsEachOnce_21 rfl (by omega) (Nat.le_of_ble_eq_true rfl) (Nat.le_of_ble_eq_true rfl) ?_
      first
        | exact hQ _ (Or.inr ⟨by omega, fun hall => absurd hall.1 (by omega)⟩)
        | (rcases e14_z with ⟨p1, p2⟩ | ⟨p1, p2⟩
           · exact absurd p1 (by omega)
           · exact hQ _ (Or.inr ⟨by omega, fun hall => p2 (fun v hv => by have := hall.2.1 v hv; omega)⟩))
