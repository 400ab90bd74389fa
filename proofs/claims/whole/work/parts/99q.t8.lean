/-! the class reads a napkin -/
def grA (A : Nat) (w w2 : zW) : Prop := zS w ≤ zS w2 ∧ (∀ q, q < zS w → zK w2 q = zK w q ∧ zN w2 q = zN w q) ∧ (∀ q k, q < zS w → ¬ (q = A ∧ (k = 0 ∨ k = 6 ∨ k = 7)) → zP w2 q k = zP w q k) ∧ ∀ q, zS w2 ≤ q → zK w2 q = zK w q
def frA (A s : Nat) (f f2_z : Nat → Nat → Int32) (j j2 : Nat → Nat → Int64) : Prop := (∀ q, q < s → q ≠ A → q ≠ A + 8 → f2_z q = f q) ∧ ∀ q, q < s → j2 q = j q
theorem lwS_W {w : zW} {f : Nat → Nat → Int32} {nq k A : Nat} {v : Option Nat} {l : List Nat} (h_z : lwS w f nq k l) (hne : nq ≠ A) : lwS (wW w A v) f nq k l := by
  obtain ⟨la, a1, a2, a3, a4, a5, a6⟩ := h_z
  exact ⟨la, a1, a2, (congrFun (zu_ne hne) k).trans a3, a4, a5, a6⟩
theorem rdN_W {w : zW} {f : Nat → Nat → Int32} {nq A : Nat} {v : Option Nat} {t : zNl} (h_z : rdN w f nq t) (hne : nq ≠ A) : rdN (wW w A v) f nq t := by
  obtain ⟨⟨s1, s2, s3, s4⟩, a2, a3, a4, a5, a6⟩ := h_z
  exact ⟨⟨s1, (congrFun (zu_ne hne) 3).trans s2, (congrFun (zu_ne hne) 4).trans s3, s4⟩, a2, a3, lwS_W a4 hne, lwS_W a5 hne, lwS_W a6 hne⟩
theorem ll_st {B : Nat → Nat} {n k p : Nat} {t : zNl} (h_z : tkP B n p ≠ 0) : llP B n (k + 1) (0, p, t) = llP B n k (lnP B n t p) := ll_on (x := (0, p, t)) rfl h_z
set_option maxHeartbeats 4000000 in
set_option maxRecDepth 100000 in
theorem s_X5_read {g : zGT} {w : zW} {f : Nat → Nat → Int32} {j : Nat → Nat → Int64} {A tq : Nat} {B : Nat → Nat} {n : Nat} {ca wa wv : Nat → Nat} {kq ta sm gq gv : Nat} {x : Int32} {Q : Option Value → zW → Prop} {QX : String → zW → Prop} (G : zGok g) (kw : kWd g wa wv kq) (ko : kWo g ca wa wv ta sm gq gv) (kA : zK w A = 5) (kp8 : zP w A 8 = some (A + 8)) (kt : zK w tq = 22 ∧ zN w tq = 900) (k8_z : zK w (A + 8) = 21 ∧ zN w (A + 8) = 900) (htq : tq < A) (hA : A + 21 ≤ zS w) (hx : x.toInt = (n : Nat)) (hn : n ≤ 900) (hB_z : ∀ q, q < n → btO (f tq q) (B q)) (hB9 : ∀ q, B q ≤ 255) (hQ0 : (npP B n).1 ≠ 0 → ∀ w2 f2_z j2, grA A w w2 → frA A (zS w) f f2_z j j2 → (f2_z A 11).toInt = ((npP B n).1 : Nat) → (f2_z A 12).toInt = ((npP B n).2.1 : Nat) → Q (some .null) (zM w2 f2_z j2)) (hQ : (npP B n).1 = 0 → ∀ w2 f2_z j2, grA A w w2 → frA A (zS w) f f2_z j j2 → (f2_z A 11).toInt = 0 → (f2_z A 12).toInt = -1 → zS w + 3 ≤ zS w2 → rdN w2 f2_z (zS w) (npP B n).2.2 → Q (some (.ref (zS w))) (zM w2 f2_z j2)) : zC g 74 yX5_read cX5_read 4 (some (.object "NapkinDeeds$Napkin")) [.ref A, .ref tq, .int x] (zM w f j) (950, 1000) Q QX := by
  refine zC_of G (by decide +kernel) (Nat.le_of_ble_eq_true rfl) ?_
  obtain ⟨nq, hnq⟩ : ∃ nq, nq = zS w := ⟨_, rfl⟩
  rw [← hnq] at hQ hQ0 hA
  refine r_aloadR0 dX5_read_0 ?_
  refine r_aloadR1 dX5_read_1 ?_
  refine m_putP (q := tq) zf_RX5_9 (by intro C T N h_z; cases h_z; rfl) rfl dX5_read_2 kA ?_
  obtain ⟨w1, hw1⟩ : ∃ w9, w9 = zsP w (zu (zP w) A 0 (some tq)) := ⟨_, rfl⟩
  rw [← hw1]
  have k1_z : ∀ q, zK w1 q = zK w q ∧ zN w1 q = zN w q := fun q => by rw [hw1]; exact ⟨rfl, rfl⟩
  have p1 : ∀ q k, ¬ (q = A ∧ k = 0) → zP w1 q k = zP w q k := fun q k h_z => by rw [hw1]; exact if_neg h_z
  have p10 : zP w1 A 0 = some tq := by rw [hw1]; exact zu_at
  have s1 : zS w1 = nq := by rw [hw1]; exact hnq.symm
  have kA1 : zK w1 A = 5 := (k1_z A).1.trans kA
  refine r_aloadR0 dX5_read_5 ?_
  refine n_iconst dX5_read_6 (by decide) (fun r6 e6_z => ?_)
  refine r_iload2 dX5_read_7 ?_
  refine r_aloadR1 dX5_read_8 ?_
  refine m_alen dX5_read_9 (zge ((k1_z tq).1.trans kt.1) (by decide)) ((k1_z tq).2.trans kt.2) (by first | decide | omega) (fun r9 e9_z => ?_)
  refine r_mmin zm_RX5_64 dX5_read_10 (by first | exact Nat.le_of_ble_eq_true rfl | (dsimp only [zV, zVh, zVg, zrm]; omega) | omega) (by first | exact Nat.le_of_ble_eq_true rfl | (dsimp only [zV, zVh, zVg, zrm]; omega) | omega) (by first | exact Nat.le_of_ble_eq_true rfl | (dsimp only [zV, zVh, zVg, zrm]; omega) | omega) (by first | exact Nat.le_of_ble_eq_true rfl | (dsimp only [zV, zVh, zVg, zrm]; omega) | omega) (by first | exact Nat.le_of_ble_eq_true rfl | (dsimp only [zV, zVh, zVg, zrm]; omega) | omega) (fun r10 e10_z => ?_)
  refine r_mmax zm_RX5_70 dX5_read_13 (by first | exact Nat.le_of_ble_eq_true rfl | (dsimp only [zV, zVh, zVg, zrm]; omega) | omega) (by first | exact Nat.le_of_ble_eq_true rfl | (dsimp only [zV, zVh, zVg, zrm]; omega) | omega) (by first | exact Nat.le_of_ble_eq_true rfl | (dsimp only [zV, zVh, zVg, zrm]; omega) | omega) (by first | exact Nat.le_of_ble_eq_true rfl | (dsimp only [zV, zVh, zVg, zrm]; omega) | omega) (by first | exact Nat.le_of_ble_eq_true rfl | (dsimp only [zV, zVh, zVg, zrm]; omega) | omega) (fun r13 e13_z => ?_)
  refine m_putI zf_RX5_15 (by intro C T N h_z; cases h_z; rfl) rfl dX5_read_16 kA1 ?_
  obtain ⟨g16, hg16⟩ : ∃ g9, g9 = zu f A 1 r13 := ⟨_, rfl⟩
  rw [← hg16]
  have og16 : frM A [] [1] f g16 := by rw [hg16]; exact frM_zk frM_rf (by decide)
  have vg16 : g16 A 1 = r13 := by rw [hg16]; exact zu_at
  have vt16 : (g16 A 1).toInt = r13.toInt := by rw [vg16]
  refine r_aloadR0 dX5_read_19 ?_
  refine n_iconst dX5_read_20 (by decide) (fun r20 e20 => ?_)
  refine m_putI zf_RX5_19 (by intro C T N h_z; cases h_z; rfl) rfl dX5_read_21 kA1 ?_
  obtain ⟨g21, hg21⟩ : ∃ g9, g9 = zu g16 A 2 r20 := ⟨_, rfl⟩
  rw [← hg21]
  have og21 : frM A [] [2] g16 g21 := by rw [hg21]; exact frM_zk frM_rf (by decide)
  have vg21 : g21 A 2 = r20 := by rw [hg21]; exact zu_at
  have vt21 : (g21 A 2).toInt = r20.toInt := by rw [vg21]
  have f21 : frM A [] [1, 2] f g21 := frM_tr (frM_su og16 (by decide) (by decide)) (frM_su og21 (by decide) (by decide))
  have y1 : (g21 A 1).toInt = (n : Nat) := by rw [og21.2.2 1 (by decide), vt16]; omega
  have y2 : (g21 A 2).toInt = 0 := by rw [vt21]; omega
  refine r_aloadR0 dX5_read_24 ?_
  refine m_new (s := nq) s1 zn_RX5_40 dX5_read_25 (by first | exact Nat.le_of_ble_eq_true rfl | (dsimp only [zV, zVh, zVg, zrm]; omega) | omega) (by first | exact Nat.le_of_ble_eq_true rfl | (dsimp only [zV, zVh, zVg, zrm]; omega) | omega) (fun w2 f2_z j2 n2 m2_z p2 => ?_)
  refine r_dup dX5_read_28 rfl ?_
  refine r_callI (n := 0) (As := []) (b2 := (5, 16)) (Or.inr ⟨"NapkinDeeds", List.mem_of_getElem? (i := 1) rfl⟩) zin_yX4_init zini_RX4 zcode_yX4_init rfl ⟨by decide, by decide, by decide +kernel⟩ (by decide) dX5_read_29 (s_X4_init (a := nq) (w := w2) (f := f2_z) (j := j2) G (by rw [n2.1]) n2.2.1 n2.2.2.1 m2_z.2 (fun w3 f3_z j3 c3_z => ?_)) rfl rfl (by first | exact Nat.le_of_ble_eq_true rfl | (dsimp only [zV, zVh, zVg, zrm]; omega) | omega) (by first | exact Nat.le_of_ble_eq_true rfl | (dsimp only [zV, zVh, zVg, zrm]; omega) | omega) (by first | exact Nat.le_of_ble_eq_true rfl | (dsimp only [zV, zVh, zVg, zrm]; omega) | omega) (by first | exact Nat.le_of_ble_eq_true rfl | (dsimp only [zV, zVh, zVg, zrm]; omega) | omega) (by first | exact Nat.le_of_ble_eq_true rfl | (dsimp only [zV, zVh, zVg, zrm]; omega) | omega) (fun r w9 h9 => h9)
  have b3 := c3_z.2.1
  have hAq : A < nq := by omega
  have kA3 : zK w3 A = 5 := ((b3 A hAq).1.1.trans (n2.2.2.2 A (by omega)).1).trans kA1
  refine m_putP (q := nq) zf_RX5_43 (by intro C T N h_z; cases h_z; rfl) rfl dX5_read_32 kA3 ?_
  obtain ⟨w4, hw4⟩ : ∃ w9, w9 = zsP w3 (zu (zP w3) A 7 (some nq)) := ⟨_, rfl⟩
  rw [← hw4]
  have k4_z : ∀ q, zK w4 q = zK w3 q ∧ zN w4 q = zN w3 q := fun q => by rw [hw4]; exact ⟨rfl, rfl⟩
  have p4 : ∀ q k, ¬ (q = A ∧ k = 7) → zP w4 q k = zP w3 q k := fun q k h_z => by rw [hw4]; exact if_neg h_z
  have p47 : zP w4 A 7 = some nq := by rw [hw4]; exact zu_at
  have s4 : zS w4 = nq + 6 := by rw [hw4]; show zS w3 = nq + 6; exact ctS_S c3_z
  have kA4 : zK w4 A = 5 := (k4_z A).1.trans kA3
  have low : ∀ q, q < nq → (zK w4 q = zK w q ∧ zN w4 q = zN w q) ∧ (∀ k, ¬ (q = A ∧ (k = 0 ∨ k = 7)) → zP w4 q k = zP w q k) := by
    intro q hq
    obtain ⟨⟨d1, d2, d3⟩, _⟩ := b3 q hq
    obtain ⟨x1, x2, x3⟩ := n2.2.2.2 q (by omega)
    exact ⟨⟨(k4_z q).1.trans (d1.trans (x1.trans (k1_z q).1)), (k4_z q).2.trans (d2.trans (x2.trans (k1_z q).2))⟩, fun k hk => (p4 q k (by omega)).trans ((congrFun (d3.trans x3) k).trans (p1 q k (by omega)))⟩
  have hr4 : shRd w4 A tq nq := ⟨kA4, ((p4 A 0 (by omega)).trans (congrFun ((b3 A hAq).1.2.2.trans (n2.2.2.2 A (by omega)).2.2) 0)).trans p10, p47, ((low A hAq).2 8 (by omega)).trans kp8, ⟨(low tq (by omega)).1.1.trans kt.1, (low tq (by omega)).1.2.trans kt.2⟩, ⟨(low (A + 8) (by omega)).1.1.trans k8_z.1, (low (A + 8) (by omega)).1.2.trans k8_z.2⟩, htq⟩
  have hna4 : shNa w4 nq := ⟨(k4_z nq).1.trans (c3_z.2.2.1 (0, 4, 0) (List.mem_of_getElem? (i := 0) (by decide +kernel))).2.1, (p4 nq 3 (by omega)).trans (c3_z.2.2.2.1 (0, 3, 1) (List.mem_of_getElem? (i := 0) (by decide +kernel))).2, (p4 nq 4 (by omega)).trans (c3_z.2.2.2.1 (0, 4, 2) (List.mem_of_getElem? (i := 1) (by decide +kernel))).2, (k4_z (nq + 1)).1.trans (c3_z.2.2.1 (1, 21, 12) (List.mem_of_getElem? (i := 1) (by decide +kernel))).2.1, (k4_z (nq + 2)).1.trans (c3_z.2.2.1 (2, 21, 4) (List.mem_of_getElem? (i := 2) (by decide +kernel))).2.1, (k4_z (nq + 1)).2.trans (c3_z.2.2.1 (1, 21, 12) (List.mem_of_getElem? (i := 1) (by decide +kernel))).2.2, (k4_z (nq + 2)).2.trans (c3_z.2.2.1 (2, 21, 4) (List.mem_of_getElem? (i := 2) (by decide +kernel))).2.2⟩
  have hlw4 : ∀ k t, (k = 5 ∧ t = 3 ∨ k = 6 ∧ t = 4 ∨ k = 7 ∧ t = 5) → lwS w4 f3_z nq k [] := by
    intro k t hkt
    have hp : zP w3 nq k = some (nq + t) ∧ zK w3 (nq + t) = 21 ∧ zN w3 (nq + t) = 0 ∧ 3 ≤ t ∧ t < 6 := by
      rcases hkt with ⟨rfl, rfl⟩ | ⟨rfl, rfl⟩ | ⟨rfl, rfl⟩
      · exact ⟨(c3_z.2.2.2.1 (0, 5, 3) (List.mem_of_getElem? (i := 2) (by decide +kernel))).2, (c3_z.2.2.1 (3, 21, 0) (List.mem_of_getElem? (i := 3) (by decide +kernel))).2.1, (c3_z.2.2.1 (3, 21, 0) (List.mem_of_getElem? (i := 3) (by decide +kernel))).2.2, by decide, by decide⟩
      · exact ⟨(c3_z.2.2.2.1 (0, 6, 4) (List.mem_of_getElem? (i := 3) (by decide +kernel))).2, (c3_z.2.2.1 (4, 21, 0) (List.mem_of_getElem? (i := 4) (by decide +kernel))).2.1, (c3_z.2.2.1 (4, 21, 0) (List.mem_of_getElem? (i := 4) (by decide +kernel))).2.2, by decide, by decide⟩
      · exact ⟨(c3_z.2.2.2.1 (0, 7, 5) (List.mem_of_getElem? (i := 4) (by decide +kernel))).2, (c3_z.2.2.1 (5, 21, 0) (List.mem_of_getElem? (i := 5) (by decide +kernel))).2.1, (c3_z.2.2.1 (5, 21, 0) (List.mem_of_getElem? (i := 5) (by decide +kernel))).2.2, by decide, by decide⟩
    obtain ⟨h1, h2, h3, h4, h5⟩ := hp
    exact ⟨nq + t, by omega, by omega, (p4 nq k (by omega)).trans h1, (k4_z _).1.trans h2, (k4_z _).2.trans h3, fun i o hi_z => absurd hi_z (by simp)⟩
  have z3 : ∀ k, k < 3 → f3_z nq k = 0 := by
    intro k hk
    have h9 : (0, k, (0 : Int32)) ∈ cV_X4 := by
      rcases (show k = 0 ∨ k = 1 ∨ k = 2 by omega) with rfl | rfl | rfl
      · exact List.mem_of_getElem? (i := 0) (by decide +kernel)
      · exact List.mem_of_getElem? (i := 1) (by decide +kernel)
      · exact List.mem_of_getElem? (i := 2) (by decide +kernel)
    exact (c3_z.2.2.2.2.1 _ h9).2
  have z31 : ∀ i, f3_z (nq + 1) i = 0 := fun i => ((c3_z.2.2.2.2.2 1 (List.mem_of_getElem? (i := 0) (by decide +kernel))).2 i).1
  have z32 : ∀ i, f3_z (nq + 2) i = 0 := fun i => ((c3_z.2.2.2.2.2 2 (List.mem_of_getElem? (i := 1) (by decide +kernel))).2 i).1
  have hct3 : ctNa f3_z nq (0, [], []) := ⟨z3 0 (by decide), z3 1 (by decide), z3 2 (by decide), Nat.zero_le 6, Nat.zero_le 4, fun i p hi_z => absurd hi_z (by simp), fun i _ _ => z31 i, fun i v hi_z => absurd hi_z (by simp), fun i _ _ => z32 i⟩
  have hrd3 : rdN w4 f3_z nq ((0, [], []), ([], [], [])) := ⟨hna4, hct3, by omega, hlw4 5 3 (by omega), hlw4 6 4 (by omega), hlw4 7 5 (by omega)⟩
  refine r_aloadR0 dX5_read_35 ?_
  refine n_iconst dX5_read_36 (by decide) (fun r36 e36 => ?_)
  refine m_putI zf_RX5_58 (by intro C T N h_z; cases h_z; rfl) rfl dX5_read_37 kA4 ?_
  obtain ⟨g37, hg37⟩ : ∃ g9, g9 = zu f3_z A 11 r36 := ⟨_, rfl⟩
  rw [← hg37]
  have og37 : frM A [] [11] f3_z g37 := by rw [hg37]; exact frM_zk frM_rf (by decide)
  have vg37 : g37 A 11 = r36 := by rw [hg37]; exact zu_at
  have vt37 : (g37 A 11).toInt = r36.toInt := by rw [vg37]
  refine r_aloadR0 dX5_read_40 ?_
  refine n_iconst dX5_read_41 (by decide) (fun r41 e41_z => ?_)
  refine m_putI zf_RX5_61 (by intro C T N h_z; cases h_z; rfl) rfl dX5_read_42 kA4 ?_
  obtain ⟨g42, hg42⟩ : ∃ g9, g9 = zu g37 A 12 r41 := ⟨_, rfl⟩
  rw [← hg42]
  have og42 : frM A [] [12] g37 g42 := by rw [hg42]; exact frM_zk frM_rf (by decide)
  have vg42 : g42 A 12 = r41 := by rw [hg42]; exact zu_at
  have vt42 : (g42 A 12).toInt = r41.toInt := by rw [vg42]
  have f42 : frM A [] [11, 12] f3_z g42 := frM_tr (frM_su og37 (by decide) (by decide)) (frM_su og42 (by decide) (by decide))
  have f3A : f3_z A = g21 A := (b3 A hAq).2.1.trans (m2_z.1 A (by omega))
  have z1 : (g42 A 1).toInt = (n : Nat) := by rw [f42.2.2 1 (by decide), f3A]; exact y1
  have z2 : (g42 A 2).toInt = ((0 : Nat) : Int) := by rw [f42.2.2 2 (by decide), f3A, y2]; rfl
  have z11 : (g42 A 11).toInt = 0 ∧ (g42 A 12).toInt = -1 := ⟨by rw [og42.2.2 11 (by decide), vt37]; omega, by rw [vt42]; omega⟩
  have lowf : ∀ q, q < nq → q ≠ A → g42 q = f q := by
    intro q hq hqa
    have h1 : g42 q = f3_z q := by
      rcases Nat.lt_or_ge q A with h9 | h9
      · exact f42.1 q (Or.inl h9)
      · rcases Nat.lt_or_ge q (A + 21) with h8 | h8
        · have h7 := f42.2.1 (q - A) (by omega) (by omega) (by simp)
          rw [show A + (q - A) = q by omega] at h7
          exact h7
        · exact f42.1 q (Or.inr h8)
    have h2 : f3_z q = g21 q := (b3 q hq).2.1.trans (m2_z.1 q (by omega))
    have h3 : g21 q = f q := by
      rcases Nat.lt_or_ge q A with h9 | h9
      · exact f21.1 q (Or.inl h9)
      · rcases Nat.lt_or_ge q (A + 21) with h8 | h8
        · have h7 := f21.2.1 (q - A) (by omega) (by omega) (by simp)
          rw [show A + (q - A) = q by omega] at h7
          exact h7
        · exact f21.1 q (Or.inr h8)
    rw [h1, h2, h3]
  have htp4 : tpR B n g42 A tq := ⟨z1, hn, fun q hq => by rw [lowf tq (by omega) (by omega)]; exact hB_z q hq, hB9⟩
  have hrd4 : rdN w4 g42 nq ((0, [], []), ([], [], [])) := rdN_e hrd3 (fun q h1 h2 => f42.1 q (Or.inr (by omega)))
  have lowj : ∀ q, q < nq → j3 q = j q := fun q hq => (b3 q hq).2.2.trans (p2.1 q (by omega))
  have hg4 : grA A w w4 := ⟨by omega, fun q hq => (low q (by omega)).1, fun q k hq hk => (low q (by omega)).2 k (by omega), fun q hq => ((k4_z q).1.trans (c3_z.1.1.2 q (by omega))).trans ((n2.2.2.2 q (by omega)).1.trans (k1_z q).1)⟩
  have hq2 : A + 21 ≤ nq := hA
  have e9_z : zM w4 g42 j3 = zM (wW w4 A (zP w4 A 6)) g42 j3 := by rw [wW_id]
  rw [e9_z]
  refine r_aloadR0 dX5_read_45 ?_
  refine q_callV0 zm_RX5_73 dX5_read_46 hr4.1 (by decide) rfl (by first | exact Nat.le_of_ble_eq_true rfl | (dsimp only [zV, zVh, zVg, zrm]; omega) | omega) (by first | exact Nat.le_of_ble_eq_true rfl | (dsimp only [zV, zVh, zVg, zrm]; omega) | omega) (by first | exact Nat.le_of_ble_eq_true rfl | (dsimp only [zV, zVh, zVg, zrm]; omega) | omega) (by first | exact Nat.le_of_ble_eq_true rfl | (dsimp only [zV, zVh, zVg, zrm]; omega) | omega) (by first | exact Nat.le_of_ble_eq_true rfl | (dsimp only [zV, zVh, zVg, zrm]; omega) | omega) (s_X5_next (p := 0) G hr4 kw ko htp4 z2 (Nat.zero_le n) z11 (fun v46 g46 o46 t46 => ?_))
  have o46b : frX A nq (zS w4) g42 g46 j3 j3 := frX_M (frM_su o46 (by decide) (by decide))
  have htp46 := tpR_X htp4 o46b htq (by omega) hq2
  have lp : ∀ (mz : Nat) (uu : Int32) (i : Nat) (k : Nat) (pos : Nat) (t : zNl) (w5 : zW) (v5 : Option Nat) (f5_z : Nat → Nat → Int32) (j5 : Nat → Nat → Int64) (b1 : Nat) (b2 : Nat), uu.toInt = (i : Nat) → shRd w5 A tq nq → grX A nq w4 w5 → frX A nq (zS w4) g46 f5_z j3 j5 → tkR ca B n f5_z v5 A pos → rdN w5 f5_z nq t → nlG n (0, pos, t) → llP B n k (0, pos, t) = npP B n → n < k + pos → i ≤ pos → b1 ≤ 6 + pos → b2 ≤ 24 + pos → k < mz → zR (zV g 74 yX5_read 4 (some (.object "NapkinDeeds$Napkin")) (950, 1000) Q QX) cX5_read yX5_read.cls 51 [some (.ref A), some (.ref tq), some (.int x), some (.int uu)] [] (zM (wW w5 A v5) f5_z j5) (b1, b2) := by
    intro mz
    induction mz with
    | zero =>
      intro uu i k pos t w5 v5 f5_z j5 b1 b2 hui hr hgr hfx htk hrd hg hR hnk hip hb1 hb2 hmz
      exact absurd hmz (Nat.not_lt_zero _)
    | succ mz ih =>
      intro uu i k pos t w5 v5 f5_z j5 b1 b2 hui hr hgr hfx htk hrd hg hR hnk hip hb1 hb2 hmz
      have ht := shRd_t hr
      have hpn := htk.1
      have h4 := htk.2.2.2.1
      have hty := tpR_X htp46 hfx htq (by omega) hq2
      have h1 := hty.1
      have hsq := hrd.2.2.1
      have fin : ∀ v9, grA A w (wW w5 A v9) := fun v9 => ⟨Nat.le_trans (by omega) hgr.1, fun q hq => ⟨(hgr.2.1 q (by omega)).1.trans (low q (by omega)).1.1, (hgr.2.1 q (by omega)).2.trans (low q (by omega)).1.2⟩, fun q k hq hk => by
        show zu (zP w5) A 6 v9 q k = zP w q k
        have h9 : zu (zP w5) A 6 v9 q k = zP w5 q k := if_neg (fun h_z => hk ⟨h_z.1, Or.inr (Or.inl h_z.2)⟩)
        rw [h9, hgr.2.2.1 q k (by omega) (fun h_z => hk ⟨h_z.1, Or.inr (Or.inl h_z.2)⟩) (by omega)]
        exact (low q (by omega)).2 k (by omega), fun q hq => (hgr.2.2.2 q hq).trans (hg4.2.2.2 q (Nat.le_trans hgr.1 hq))⟩
      have finf : frA A nq f f5_z j j5 := ⟨fun q hq h8 h9 => (hfx.1 q (by omega) h8 h9 (by omega) (by omega) (by omega)).trans ((o46b.1 q (by omega) h8 h9 (by omega) (by omega) (by omega)).trans (lowf q hq h8)), fun q hq => (hfx.2.2 q (by omega)).trans (lowj q hq)⟩
      by_cases h0 : tkP B n pos = 0
      · have hy : (0, pos, t) = npP B n := (ll_er (B := B) (n := n) (k := k) (x := (0, pos, t)) (Or.inr h0)).symm.trans hR
        rw [← hy] at hQ
        refine r_iload3 dX5_read_51 ?_
        refine r_aloadR0 dX5_read_52 ?_
        refine m_getV (x := (f5_z A 1)) zf_RX5_15 rfl dX5_read_53 hr.1 (rfl) ?_
        refine t_icgt (t := 81) dX5_read_56 (by decide) (fun h56 => False.elim (by omega)) (fun h56 => ?_)
        refine r_aloadR0 dX5_read_59 ?_
        refine m_getV (x := (f5_z A 4)) zf_RX5_25 rfl dX5_read_60 hr.1 (rfl) ?_
        refine t_ifeq (t := 81) dX5_read_63 (by decide) (fun h63 => ?_) (fun h63 => False.elim (by omega))
        refine r_aloadR0 dX5_read_81 ?_
        refine m_getR (q := nq) zf_RX5_43 rfl dX5_read_82 hr.1 (shRd_p7 hr) ?_
        refine r_aret dX5_read_85 rfl (by first | exact Or.inl ⟨_, rfl⟩ | exact Or.inr ⟨_, rfl⟩) (by first | exact zrf_r | exact zrf_o | exact zrf_n) (by first | exact Nat.le_of_ble_eq_true rfl | (dsimp only [zV, zVh, zVg, zrm]; omega) | omega) (by first | exact Nat.le_of_ble_eq_true rfl | (dsimp only [zV, zVh, zVg, zrm]; omega) | omega) ?_
        exact hQ rfl _ f5_z j5 (fin v5) finf htk.2.2.2.2.2.2.1 htk.2.2.2.2.2.2.2 (by show nq + 3 ≤ zS w5; omega) (rdN_W hrd (by omega))
      have hlt := tk_lt h0
      obtain ⟨k2_z, rfl⟩ : ∃ k2_z, k = k2_z + 1 := ⟨k - 1, by omega⟩
      have hR2 := (ll_st (k := k2_z) h0).symm.trans hR
      have hln := ln_gd (B := B) hn hg hlt
      have hln2 := hln.2.1
      refine r_iload3 dX5_read_51 ?_
      refine r_aloadR0 dX5_read_52 ?_
      refine m_getV (x := (f5_z A 1)) zf_RX5_15 rfl dX5_read_53 hr.1 (rfl) ?_
      refine t_icgt (t := 81) dX5_read_56 (by decide) (fun h56 => False.elim (by omega)) (fun h56 => ?_)
      refine r_aloadR0 dX5_read_59 ?_
      refine m_getV (x := (f5_z A 4)) zf_RX5_25 rfl dX5_read_60 hr.1 (rfl) ?_
      refine t_ifeq (t := 81) dX5_read_63 (by decide) (fun h63 => False.elim (by omega)) (fun h63 => ?_)
      refine r_aloadR0 dX5_read_66 ?_
      refine q_callV0 zm_RX5_76 dX5_read_67 hr.1 (by decide) rfl (by first | exact Nat.le_of_ble_eq_true rfl | (dsimp only [zV, zVh, zVg, zrm]; omega) | omega) (by first | exact Nat.le_of_ble_eq_true rfl | (dsimp only [zV, zVh, zVg, zrm]; omega) | omega) (by first | exact Nat.le_of_ble_eq_true rfl | (dsimp only [zV, zVh, zVg, zrm]; omega) | omega) (by first | exact Nat.le_of_ble_eq_true rfl | (dsimp only [zV, zVh, zVg, zrm]; omega) | omega) (by first | exact Nat.le_of_ble_eq_true rfl | (dsimp only [zV, zVh, zVg, zrm]; omega) | omega) (s_X5_readLine (bs := (lnP B n t pos).2.1 - pos) G hr kw ko hty htk hlt hg hrd hq2 (by omega) (fun hz rc wc vc gc jc dc hg9 fc lc => ?_) (fun hz rc wc vc gc jc dc hg9 fc tc rdc => ?_))
      · have hy : (lnP B n t pos) = npP B n := (ll_er (B := B) (n := n) (k := k2_z) (Or.inl hz)).symm.trans hR2
        rw [← hy] at hQ0
        refine t_ifne (t := 75) dX5_read_70 (by decide) (fun h70 => False.elim (by omega)) (fun h70 => ?_)
        refine r_null dX5_read_73 ?_
        refine r_aret dX5_read_74 rfl (by first | exact Or.inl ⟨_, rfl⟩ | exact Or.inr ⟨_, rfl⟩) (by first | exact zrf_r | exact zrf_o | exact zrf_n) (by first | exact Nat.le_of_ble_eq_true rfl | (dsimp only [zV, zVh, zVg, zrm]; omega) | omega) (by first | exact Nat.le_of_ble_eq_true rfl | (dsimp only [zV, zVh, zVg, zrm]; omega) | omega) ?_
        have hfx2 := frX_tr hfx fc hgr.1
        have fin2 : grA A w (wW wc A vc) := ⟨Nat.le_trans (by omega) (Nat.le_trans hgr.1 hg9.1), fun q hq => ⟨(hg9.2.1 q (by omega)).1.trans ((hgr.2.1 q (by omega)).1.trans (low q (by omega)).1.1), (hg9.2.1 q (by omega)).2.trans ((hgr.2.1 q (by omega)).2.trans (low q (by omega)).1.2)⟩, fun q k hq hk => by
          show zu (zP wc) A 6 vc q k = zP w q k
          have h9 : zu (zP wc) A 6 vc q k = zP wc q k := if_neg (fun h_z => hk ⟨h_z.1, Or.inr (Or.inl h_z.2)⟩)
          rw [h9, hg9.2.2.1 q k (by omega) (fun h_z => hk ⟨h_z.1, Or.inr (Or.inl h_z.2)⟩) (by omega), hgr.2.2.1 q k (by omega) (fun h_z => hk ⟨h_z.1, Or.inr (Or.inl h_z.2)⟩) (by omega)]
          exact (low q (by omega)).2 k (by omega), fun q hq => (hg9.2.2.2 q hq).trans ((hgr.2.2.2 q (Nat.le_trans hg9.1 hq)).trans (hg4.2.2.2 q (Nat.le_trans hgr.1 (Nat.le_trans hg9.1 hq))))⟩
        have finf2 : frA A nq f gc j jc := ⟨fun q hq h8 h9 => (hfx2.1 q (by omega) h8 h9 (by omega) (by omega) (by omega)).trans ((o46b.1 q (by omega) h8 h9 (by omega) (by omega) (by omega)).trans (lowf q hq h8)), fun q hq => (hfx2.2.2 q (by omega)).trans (lowj q hq)⟩
        exact hQ0 hz _ gc jc fin2 finf2 lc.1 lc.2
      · have hgt := ln_gt (B := B) (t := t) hlt hz
        have hz2 : (lnP B n t pos) = (0, (lnP B n t pos).2.1, (lnP B n t pos).2.2) := Prod.ext hz rfl
        rw [hz2] at hln hR2
        refine t_ifne (t := 75) dX5_read_70 (by decide) (fun h70 => ?_) (fun h70 => False.elim (by omega))
        refine n_iinc3 dX5_read_75 (by decide) rfl (by omega) (fun r75 e75 => ?_)
        refine r_goto (t := 51) dX5_read_78 (by decide) ?_
        exact ih _ (i + 1) k2_z (lnP B n t pos).2.1 (lnP B n t pos).2.2 wc vc gc jc _ _ (by omega) (shRd_X hr hg9 hq2 (by omega)) (grX_tr hgr hg9) (frX_tr hfx fc hgr.1) tc rdc hln hR2 (by omega) (by omega) (by omega) (by omega) (by omega)
  refine n_iconst dX5_read_49 (by decide) (fun r49 e49 => ?_)
  refine r_istore3 dX5_read_50 rfl ?_
  exact lp (n + 2) _ 0 (n + 1) (ruE (fun q => isSp (B q)) n 0) ((0, [], []), ([], [], [])) w4 v46 g46 j3 _ _ (by omega) hr4 grX_rf frX_rf t46 (rdN_e hrd4 (fun q h1 h2 => o46.1 q (Or.inr (by omega)))) nlG_0 rfl (by omega) (by omega) (by omega) (by omega) (by omega)
