/-! the reference takes words-/
def kLt : List (Nat × String × Nat) := [(160, "or", 6), (168, "and", 7), (170, "not", 8), (190, "wide", 9), (192, "high", 10), (194, "folds", 11), (196, "top", 12), (198, "under", 13), (200, "hidden", 14), (202, "guest", 2), (204, "want", 15), (217, "back", 1), (223, "cell", 0), (231, "worth", 3), (237, "holds", 4), (239, "likes", 5)]
def kLd (g : zGT) (wa : Nat → Nat) : Prop := ∀ e ∈ kLt, ∀ U, g.2.2.2 U → vk_R RX12 e.1 e.2.1 (wa e.2.2) U
set_option maxHeartbeats 4000000 in
set_option maxRecDepth 100000 in
theorem s_X12_took_x {g : zGT} {w : zW} {f : Nat → Nat → Int32} {j : Nat → Nat → Int64} {A : Nat} {B : Nat → Nat} {n : Nat} {wa wv : Nat → Nat} {kq : Nat} {i : Nat} {Q : Option Value → zW → Prop} {QX : String → zW → Prop} (G : zGok g) (hs : shM w A) (kw : kWd g wa wv kq) (hi_z : i < 16) (hb_z : (f A 12).toInt ≠ 0) (hQ : ∀ r : Int32, r.toInt = 0 → Q (some (.int r)) (zM w f j)) : zC g 6 yX12_took cX12_took 3 (some .boolean) [.ref A, .ref (wa i)] (zM w f j) (0, 0) Q QX := by
  refine zC_of G (by decide +kernel) (Nat.le_of_ble_eq_true rfl) ?_
  refine r_aloadR0 dX12_took_0 ?_
  refine r_aloadR1 dX12_took_1 ?_
  refine q_callV1 zm_RX12_127 dX12_took_2 (shM_k hs) (by decide) rfl (Nat.le_of_ble_eq_true rfl) (Nat.le_of_ble_eq_true rfl) (Nat.le_of_ble_eq_true rfl) (Nat.le_of_ble_eq_true rfl) (Nat.le_of_ble_eq_true rfl) (s_X12_isWord_x (B := fun _ => 0) (n := 0) G hs kw hi_z hb_z (fun r2 e2_z => ?_))
  refine r_istore2 dX12_took_5 rfl ?_
  refine r_iload2 dX12_took_6 ?_
  refine t_ifeq (t := 14) dX12_took_7 (by decide) (fun h7 => ?_) (fun h7 => False.elim (by omega))
  refine r_iload2 dX12_took_14 ?_
  refine m_zret dX12_took_15 rfl (by omega) (Nat.le_of_ble_eq_true rfl) (Nat.le_of_ble_eq_true rfl) ?_
  exact hQ _ e2_z
set_option maxHeartbeats 4000000 in
set_option maxRecDepth 100000 in
theorem s_X12_took_t {g : zGT} {w : zW} {f : Nat → Nat → Int32} {j : Nat → Nat → Int64} {A : Nat} {B : Nat → Nat} {n : Nat} {wa wv : Nat → Nat} {kq : Nat} {i s : Nat} {Q : Option Value → zW → Prop} {QX : String → zW → Prop} (G : zGok g) (hs : shM w A) (kw : kWd g wa wv kq) (hi_z : i < 16) (htp : tpM B n f A) (hps : psM B n f A 0 s) (hw : isWd B n s i = true) (hQ : ∀ (r : Int32) f2_z, r.toInt = 1 → frM A [] [8, 9, 10, 11, 12, 13] f f2_z → psM B n f2_z A 0 (nxP B n s) → Q (some (.int r)) (zM w f2_z j)) : zC g 6 yX12_took cX12_took 3 (some .boolean) [.ref A, .ref (wa i)] (zM w f j) (0, 0) Q QX := by
  refine zC_of G (by decide +kernel) (Nat.le_of_ble_eq_true rfl) ?_
  have ht := hps.2.1 rfl
  have h12 := hps.1
  have hte := teP_le (B := B) ht.1
  refine r_aloadR0 dX12_took_0 ?_
  refine r_aloadR1 dX12_took_1 ?_
  refine q_callV1 zm_RX12_127 dX12_took_2 (shM_k hs) (by decide) rfl (Nat.le_of_ble_eq_true rfl) (Nat.le_of_ble_eq_true rfl) (Nat.le_of_ble_eq_true rfl) (Nat.le_of_ble_eq_true rfl) (Nat.le_of_ble_eq_true rfl) (s_X12_isWord G hs kw hi_z htp hps (fun r2 e2_z => ?_))
  have e2b : r2.toInt = 1 := e2_z.elim (fun h_z => h_z.1) (fun h_z => absurd hw h_z.2)
  refine r_istore2 dX12_took_5 rfl ?_
  refine r_iload2 dX12_took_6 ?_
  refine t_ifeq (t := 14) dX12_took_7 (by decide) (fun h7 => False.elim (by omega)) (fun h7 => ?_)
  refine r_aloadR0 dX12_took_10 ?_
  refine q_callV0 zm_RX12_131 dX12_took_11 (shM_k hs) (by decide) rfl (Nat.le_of_ble_eq_true rfl) (Nat.le_of_ble_eq_true rfl) (Nat.le_of_ble_eq_true rfl) (Nat.le_of_ble_eq_true rfl) (Nat.le_of_ble_eq_true rfl) (s_X12_readsOn (p := teP B n s) G hs htp ht.2.1 hte (fun g11 o11 t11 => ?_))
  refine r_iload2 dX12_took_14 ?_
  refine m_zret dX12_took_15 rfl (by omega) (Nat.le_of_ble_eq_true rfl) (Nat.le_of_ble_eq_true rfl) ?_
  exact hQ _ _ e2b (frM_su o11 (by decide) (by decide)) ⟨by rw [o11.2.2 12 (by decide)]; exact h12, fun _ => t11, fun h_z => absurd rfl h_z⟩
set_option maxHeartbeats 4000000 in
set_option maxRecDepth 100000 in
theorem s_X12_took_f {g : zGT} {w : zW} {f : Nat → Nat → Int32} {j : Nat → Nat → Int64} {A : Nat} {B : Nat → Nat} {n : Nat} {wa wv : Nat → Nat} {kq : Nat} {i s : Nat} {Q : Option Value → zW → Prop} {QX : String → zW → Prop} (G : zGok g) (hs : shM w A) (kw : kWd g wa wv kq) (hi_z : i < 16) (htp : tpM B n f A) (hps : psM B n f A 0 s) (hw : ¬ isWd B n s i = true) (hQ : ∀ r : Int32, r.toInt = 0 → Q (some (.int r)) (zM w f j)) : zC g 6 yX12_took cX12_took 3 (some .boolean) [.ref A, .ref (wa i)] (zM w f j) (0, 0) Q QX := by
  refine zC_of G (by decide +kernel) (Nat.le_of_ble_eq_true rfl) ?_
  refine r_aloadR0 dX12_took_0 ?_
  refine r_aloadR1 dX12_took_1 ?_
  refine q_callV1 zm_RX12_127 dX12_took_2 (shM_k hs) (by decide) rfl (Nat.le_of_ble_eq_true rfl) (Nat.le_of_ble_eq_true rfl) (Nat.le_of_ble_eq_true rfl) (Nat.le_of_ble_eq_true rfl) (Nat.le_of_ble_eq_true rfl) (s_X12_isWord G hs kw hi_z htp hps (fun r2 e2_z => ?_))
  have e2b : r2.toInt = 0 := e2_z.elim (fun h_z => absurd h_z.1 (fun _ => hw h_z.2)) (fun h_z => h_z.1)
  refine r_istore2 dX12_took_5 rfl ?_
  refine r_iload2 dX12_took_6 ?_
  refine t_ifeq (t := 14) dX12_took_7 (by decide) (fun h7 => ?_) (fun h7 => False.elim (by omega))
  refine r_iload2 dX12_took_14 ?_
  refine m_zret dX12_took_15 rfl (by omega) (Nat.le_of_ble_eq_true rfl) (Nat.le_of_ble_eq_true rfl) ?_
  exact hQ _ e2b
set_option maxHeartbeats 4000000 in
set_option maxRecDepth 100000 in
theorem s_X12_mustWord_x {g : zGT} {w : zW} {f : Nat → Nat → Int32} {j : Nat → Nat → Int64} {A : Nat} {B : Nat → Nat} {n : Nat} {wa wv : Nat → Nat} {kq : Nat} {i : Nat} {Q : Option Value → zW → Prop} {QX : String → zW → Prop} (G : zGok g) (hs : shM w A) (kw : kWd g wa wv kq) (hi_z : i < 16) (hb_z : (f A 12).toInt ≠ 0) (hQ : Q none (zM w f j)) : zC g 7 yX12_mustWord cX12_mustWord 2 none [.ref A, .ref (wa i)] (zM w f j) (0, 0) Q QX := by
  refine zC_of G (by decide +kernel) (Nat.le_of_ble_eq_true rfl) ?_
  refine r_aloadR0 dX12_mustWord_0 ?_
  refine r_aloadR1 dX12_mustWord_1 ?_
  refine q_callV1 zm_RX12_142 dX12_mustWord_2 (shM_k hs) (by decide) rfl (Nat.le_of_ble_eq_true rfl) (Nat.le_of_ble_eq_true rfl) (Nat.le_of_ble_eq_true rfl) (Nat.le_of_ble_eq_true rfl) (Nat.le_of_ble_eq_true rfl) (s_X12_took_x (B := fun _ => 0) (n := 0) G hs kw hi_z hb_z (fun r2 e2_z => ?_))
  refine t_ifne (t := 13) dX12_mustWord_5 (by decide) (fun h5 => False.elim (by omega)) (fun h5 => ?_)
  refine r_aloadR0 dX12_mustWord_8 ?_
  refine n_iconst dX12_mustWord_9 (by decide) (fun r9 e9_z => ?_)
  refine q_callV1 zm_RX12_134 dX12_mustWord_10 (shM_k hs) (by decide) rfl (Nat.le_of_ble_eq_true rfl) (Nat.le_of_ble_eq_true rfl) (Nat.le_of_ble_eq_true rfl) (Nat.le_of_ble_eq_true rfl) (Nat.le_of_ble_eq_true rfl) (s_X12_blames_x G hs hb_z ?_)
  refine r_vret dX12_mustWord_13 rfl (Nat.le_of_ble_eq_true rfl) (Nat.le_of_ble_eq_true rfl) ?_
  exact hQ
set_option maxHeartbeats 4000000 in
set_option maxRecDepth 100000 in
theorem s_X12_mustWord {g : zGT} {w : zW} {f : Nat → Nat → Int32} {j : Nat → Nat → Int64} {A : Nat} {B : Nat → Nat} {n : Nat} {wa wv : Nat → Nat} {kq : Nat} {i s : Nat} {Q : Option Value → zW → Prop} {QX : String → zW → Prop} (G : zGok g) (hs : shM w A) (kw : kWd g wa wv kq) (hi_z : i < 16) (htp : tpM B n f A) (hps : psM B n f A 0 s) (hQ : ∀ f2_z, frM A [] [8, 9, 10, 11, 12, 13] f f2_z → (isWd B n s i = true → psM B n f2_z A 0 (nxP B n s)) → (¬ isWd B n s i = true → psM B n f2_z A (baP B n s) s) → Q none (zM w f2_z j)) : zC g 7 yX12_mustWord cX12_mustWord 2 none [.ref A, .ref (wa i)] (zM w f j) (0, 0) Q QX := by
  refine zC_of G (by decide +kernel) (Nat.le_of_ble_eq_true rfl) ?_
  have ht := hps.2.1 rfl
  have h12 := hps.1
  have hte := teP_le (B := B) ht.1
  by_cases hw : isWd B n s i = true
  · refine r_aloadR0 dX12_mustWord_0 ?_
    refine r_aloadR1 dX12_mustWord_1 ?_
    refine q_callV1 zm_RX12_142 dX12_mustWord_2 (shM_k hs) (by decide) rfl (Nat.le_of_ble_eq_true rfl) (Nat.le_of_ble_eq_true rfl) (Nat.le_of_ble_eq_true rfl) (Nat.le_of_ble_eq_true rfl) (Nat.le_of_ble_eq_true rfl) (s_X12_took_t G hs kw hi_z htp hps hw (fun r2 g2 e2_z o2 p2 => ?_))
    refine t_ifne (t := 13) dX12_mustWord_5 (by decide) (fun h5 => ?_) (fun h5 => False.elim (by omega))
    refine r_vret dX12_mustWord_13 rfl (Nat.le_of_ble_eq_true rfl) (Nat.le_of_ble_eq_true rfl) ?_
    exact hQ _ o2 (fun _ => p2) (fun h_z => absurd hw h_z)
  · refine r_aloadR0 dX12_mustWord_0 ?_
    refine r_aloadR1 dX12_mustWord_1 ?_
    refine q_callV1 zm_RX12_142 dX12_mustWord_2 (shM_k hs) (by decide) rfl (Nat.le_of_ble_eq_true rfl) (Nat.le_of_ble_eq_true rfl) (Nat.le_of_ble_eq_true rfl) (Nat.le_of_ble_eq_true rfl) (Nat.le_of_ble_eq_true rfl) (s_X12_took_f G hs kw hi_z htp hps hw (fun r2 e2_z => ?_))
    refine t_ifne (t := 13) dX12_mustWord_5 (by decide) (fun h5 => False.elim (by omega)) (fun h5 => ?_)
    refine r_aloadR0 dX12_mustWord_8 ?_
    refine n_iconst dX12_mustWord_9 (by decide) (fun r9 e9_z => ?_)
    refine q_callV1 zm_RX12_134 dX12_mustWord_10 (shM_k hs) (by decide) rfl (Nat.le_of_ble_eq_true rfl) (Nat.le_of_ble_eq_true rfl) (Nat.le_of_ble_eq_true rfl) (Nat.le_of_ble_eq_true rfl) (Nat.le_of_ble_eq_true rfl) (s_X12_blames (k := 2) G hs h12 ht e9_z (fun g10 o10 a10 b10 => ?_))
    refine r_vret dX12_mustWord_13 rfl (Nat.le_of_ble_eq_true rfl) (Nat.le_of_ble_eq_true rfl) ?_
    exact hQ _ (frM_su o10 (by decide) (by decide)) (fun h_z => absurd h_z hw) (fun _ => ps_ba a10 b10)
set_option maxHeartbeats 4000000 in
set_option maxRecDepth 100000 in
theorem s_X12_lawWord {g : zGT} {w : zW} {f : Nat → Nat → Int32} {j : Nat → Nat → Int64} {A : Nat} {B : Nat → Nat} {n : Nat} {wa wv : Nat → Nat} {kq : Nat} {s lm : Nat} {Q : Option Value → zW → Prop} {QX : String → zW → Prop} (G : zGok g) (hs : shM w A) (kw : kWd g wa wv kq) (hld : kLd g wa) (htp : tpM B n f A) (hps : psM B n f A 0 s) (hlm : (f A 17).toInt = (lm : Nat)) (hQ : ∀ (r : Int32) f2_z, frM A [] [8, 9, 10, 11, 12, 13] f f2_z → (tkP B n s = 3 ∧ fcP (wdP B n s) < (if lm = 5 then 8 else 6) → r.toInt = (fcP (wdP B n s) : Nat) ∧ psM B n f2_z A 0 (nxP B n s)) → (¬ (tkP B n s = 3 ∧ fcP (wdP B n s) < (if lm = 5 then 8 else 6)) → r.toInt = -1 ∧ psM B n f2_z A 0 s) → Q (some (.int r)) (zM w f2_z j)) : zC g 7 yX12_lawWord cX12_lawWord 1 (some .int) [.ref A] (zM w f j) (0, 0) Q QX := by
  refine zC_of G (by decide +kernel) (Nat.le_of_ble_eq_true rfl) ?_
  by_cases hw9 : isWd B n s 9 = true
  · have hwt := isWd_tk hw9
    refine r_aloadR0 dX12_lawWord_0 ?_
    refine k_ldc (hld _ (List.mem_of_getElem? (i := 3) rfl)) dX12_lawWord_1 ?_
    refine q_callV1 zm_RX12_142 dX12_lawWord_3 (shM_k hs) (by decide) rfl (Nat.le_of_ble_eq_true rfl) (Nat.le_of_ble_eq_true rfl) (Nat.le_of_ble_eq_true rfl) (Nat.le_of_ble_eq_true rfl) (Nat.le_of_ble_eq_true rfl) (s_X12_took_t (i := 9) G hs kw (by decide) htp hps hw9 (fun r3 g3_z e3_z o3 p3 => ?_))
    refine t_ifeq (t := 11) dX12_lawWord_6 (by decide) (fun h6 => False.elim (by omega)) (fun h6 => ?_)
    refine n_iconst dX12_lawWord_9 (by decide) (fun r9 e9_z => ?_)
    refine r_iret dX12_lawWord_10 rfl (Nat.le_of_ble_eq_true rfl) (Nat.le_of_ble_eq_true rfl) ?_
    have hfc : fcP (wdP B n s) = 0 := by rw [hwt.2]; rfl
    refine hQ _ _ o3 (fun _ => ⟨by rw [hfc]; omega, p3⟩) (fun h_z => absurd ⟨hwt.1, ?_⟩ h_z)
    rw [hfc]
    split <;> omega
  by_cases hw10 : isWd B n s 10 = true
  · have hwt := isWd_tk hw10
    refine r_aloadR0 dX12_lawWord_0 ?_
    refine k_ldc (hld _ (List.mem_of_getElem? (i := 3) rfl)) dX12_lawWord_1 ?_
    refine q_callV1 zm_RX12_142 dX12_lawWord_3 (shM_k hs) (by decide) rfl (Nat.le_of_ble_eq_true rfl) (Nat.le_of_ble_eq_true rfl) (Nat.le_of_ble_eq_true rfl) (Nat.le_of_ble_eq_true rfl) (Nat.le_of_ble_eq_true rfl) (s_X12_took_f (i := 9) G hs kw (by decide) htp hps hw9 (fun r3 e3_z => ?_))
    refine t_ifeq (t := 11) dX12_lawWord_6 (by decide) (fun h6 => ?_) (fun h6 => False.elim (by omega))
    refine r_aloadR0 dX12_lawWord_11 ?_
    refine k_ldc (hld _ (List.mem_of_getElem? (i := 4) rfl)) dX12_lawWord_12 ?_
    refine q_callV1 zm_RX12_142 dX12_lawWord_14 (shM_k hs) (by decide) rfl (Nat.le_of_ble_eq_true rfl) (Nat.le_of_ble_eq_true rfl) (Nat.le_of_ble_eq_true rfl) (Nat.le_of_ble_eq_true rfl) (Nat.le_of_ble_eq_true rfl) (s_X12_took_t (i := 10) G hs kw (by decide) htp hps hw10 (fun r14 g14 e14_z o14 p14 => ?_))
    refine t_ifeq (t := 22) dX12_lawWord_17 (by decide) (fun h17 => False.elim (by omega)) (fun h17 => ?_)
    refine n_iconst dX12_lawWord_20 (by decide) (fun r20 e20 => ?_)
    refine r_iret dX12_lawWord_21 rfl (Nat.le_of_ble_eq_true rfl) (Nat.le_of_ble_eq_true rfl) ?_
    have hfc : fcP (wdP B n s) = 1 := by rw [hwt.2]; rfl
    refine hQ _ _ o14 (fun _ => ⟨by rw [hfc]; omega, p14⟩) (fun h_z => absurd ⟨hwt.1, ?_⟩ h_z)
    rw [hfc]
    split <;> omega
  by_cases hw11 : isWd B n s 11 = true
  · have hwt := isWd_tk hw11
    refine r_aloadR0 dX12_lawWord_0 ?_
    refine k_ldc (hld _ (List.mem_of_getElem? (i := 3) rfl)) dX12_lawWord_1 ?_
    refine q_callV1 zm_RX12_142 dX12_lawWord_3 (shM_k hs) (by decide) rfl (Nat.le_of_ble_eq_true rfl) (Nat.le_of_ble_eq_true rfl) (Nat.le_of_ble_eq_true rfl) (Nat.le_of_ble_eq_true rfl) (Nat.le_of_ble_eq_true rfl) (s_X12_took_f (i := 9) G hs kw (by decide) htp hps hw9 (fun r3 e3_z => ?_))
    refine t_ifeq (t := 11) dX12_lawWord_6 (by decide) (fun h6 => ?_) (fun h6 => False.elim (by omega))
    refine r_aloadR0 dX12_lawWord_11 ?_
    refine k_ldc (hld _ (List.mem_of_getElem? (i := 4) rfl)) dX12_lawWord_12 ?_
    refine q_callV1 zm_RX12_142 dX12_lawWord_14 (shM_k hs) (by decide) rfl (Nat.le_of_ble_eq_true rfl) (Nat.le_of_ble_eq_true rfl) (Nat.le_of_ble_eq_true rfl) (Nat.le_of_ble_eq_true rfl) (Nat.le_of_ble_eq_true rfl) (s_X12_took_f (i := 10) G hs kw (by decide) htp hps hw10 (fun r14 e14_z => ?_))
    refine t_ifeq (t := 22) dX12_lawWord_17 (by decide) (fun h17 => ?_) (fun h17 => False.elim (by omega))
    refine r_aloadR0 dX12_lawWord_22 ?_
    refine k_ldc (hld _ (List.mem_of_getElem? (i := 5) rfl)) dX12_lawWord_23 ?_
    refine q_callV1 zm_RX12_142 dX12_lawWord_25 (shM_k hs) (by decide) rfl (Nat.le_of_ble_eq_true rfl) (Nat.le_of_ble_eq_true rfl) (Nat.le_of_ble_eq_true rfl) (Nat.le_of_ble_eq_true rfl) (Nat.le_of_ble_eq_true rfl) (s_X12_took_t (i := 11) G hs kw (by decide) htp hps hw11 (fun r25 g25 e25_z o25 p25 => ?_))
    refine t_ifeq (t := 33) dX12_lawWord_28 (by decide) (fun h28 => False.elim (by omega)) (fun h28 => ?_)
    refine n_iconst dX12_lawWord_31 (by decide) (fun r31 e31_z => ?_)
    refine r_iret dX12_lawWord_32 rfl (Nat.le_of_ble_eq_true rfl) (Nat.le_of_ble_eq_true rfl) ?_
    have hfc : fcP (wdP B n s) = 2 := by rw [hwt.2]; rfl
    refine hQ _ _ o25 (fun _ => ⟨by rw [hfc]; omega, p25⟩) (fun h_z => absurd ⟨hwt.1, ?_⟩ h_z)
    rw [hfc]
    split <;> omega
  by_cases hw12 : isWd B n s 12 = true
  · have hwt := isWd_tk hw12
    refine r_aloadR0 dX12_lawWord_0 ?_
    refine k_ldc (hld _ (List.mem_of_getElem? (i := 3) rfl)) dX12_lawWord_1 ?_
    refine q_callV1 zm_RX12_142 dX12_lawWord_3 (shM_k hs) (by decide) rfl (Nat.le_of_ble_eq_true rfl) (Nat.le_of_ble_eq_true rfl) (Nat.le_of_ble_eq_true rfl) (Nat.le_of_ble_eq_true rfl) (Nat.le_of_ble_eq_true rfl) (s_X12_took_f (i := 9) G hs kw (by decide) htp hps hw9 (fun r3 e3_z => ?_))
    refine t_ifeq (t := 11) dX12_lawWord_6 (by decide) (fun h6 => ?_) (fun h6 => False.elim (by omega))
    refine r_aloadR0 dX12_lawWord_11 ?_
    refine k_ldc (hld _ (List.mem_of_getElem? (i := 4) rfl)) dX12_lawWord_12 ?_
    refine q_callV1 zm_RX12_142 dX12_lawWord_14 (shM_k hs) (by decide) rfl (Nat.le_of_ble_eq_true rfl) (Nat.le_of_ble_eq_true rfl) (Nat.le_of_ble_eq_true rfl) (Nat.le_of_ble_eq_true rfl) (Nat.le_of_ble_eq_true rfl) (s_X12_took_f (i := 10) G hs kw (by decide) htp hps hw10 (fun r14 e14_z => ?_))
    refine t_ifeq (t := 22) dX12_lawWord_17 (by decide) (fun h17 => ?_) (fun h17 => False.elim (by omega))
    refine r_aloadR0 dX12_lawWord_22 ?_
    refine k_ldc (hld _ (List.mem_of_getElem? (i := 5) rfl)) dX12_lawWord_23 ?_
    refine q_callV1 zm_RX12_142 dX12_lawWord_25 (shM_k hs) (by decide) rfl (Nat.le_of_ble_eq_true rfl) (Nat.le_of_ble_eq_true rfl) (Nat.le_of_ble_eq_true rfl) (Nat.le_of_ble_eq_true rfl) (Nat.le_of_ble_eq_true rfl) (s_X12_took_f (i := 11) G hs kw (by decide) htp hps hw11 (fun r25 e25_z => ?_))
    refine t_ifeq (t := 33) dX12_lawWord_28 (by decide) (fun h28 => ?_) (fun h28 => False.elim (by omega))
    refine r_aloadR0 dX12_lawWord_33 ?_
    refine k_ldc (hld _ (List.mem_of_getElem? (i := 6) rfl)) dX12_lawWord_34 ?_
    refine q_callV1 zm_RX12_142 dX12_lawWord_36 (shM_k hs) (by decide) rfl (Nat.le_of_ble_eq_true rfl) (Nat.le_of_ble_eq_true rfl) (Nat.le_of_ble_eq_true rfl) (Nat.le_of_ble_eq_true rfl) (Nat.le_of_ble_eq_true rfl) (s_X12_took_t (i := 12) G hs kw (by decide) htp hps hw12 (fun r36 g36 e36 o36 p36 => ?_))
    refine t_ifeq (t := 44) dX12_lawWord_39 (by decide) (fun h39 => False.elim (by omega)) (fun h39 => ?_)
    refine n_iconst dX12_lawWord_42 (by decide) (fun r42 e42_z => ?_)
    refine r_iret dX12_lawWord_43 rfl (Nat.le_of_ble_eq_true rfl) (Nat.le_of_ble_eq_true rfl) ?_
    have hfc : fcP (wdP B n s) = 3 := by rw [hwt.2]; rfl
    refine hQ _ _ o36 (fun _ => ⟨by rw [hfc]; omega, p36⟩) (fun h_z => absurd ⟨hwt.1, ?_⟩ h_z)
    rw [hfc]
    split <;> omega
  by_cases hw13 : isWd B n s 13 = true
  · have hwt := isWd_tk hw13
    refine r_aloadR0 dX12_lawWord_0 ?_
    refine k_ldc (hld _ (List.mem_of_getElem? (i := 3) rfl)) dX12_lawWord_1 ?_
    refine q_callV1 zm_RX12_142 dX12_lawWord_3 (shM_k hs) (by decide) rfl (Nat.le_of_ble_eq_true rfl) (Nat.le_of_ble_eq_true rfl) (Nat.le_of_ble_eq_true rfl) (Nat.le_of_ble_eq_true rfl) (Nat.le_of_ble_eq_true rfl) (s_X12_took_f (i := 9) G hs kw (by decide) htp hps hw9 (fun r3 e3_z => ?_))
    refine t_ifeq (t := 11) dX12_lawWord_6 (by decide) (fun h6 => ?_) (fun h6 => False.elim (by omega))
    refine r_aloadR0 dX12_lawWord_11 ?_
    refine k_ldc (hld _ (List.mem_of_getElem? (i := 4) rfl)) dX12_lawWord_12 ?_
    refine q_callV1 zm_RX12_142 dX12_lawWord_14 (shM_k hs) (by decide) rfl (Nat.le_of_ble_eq_true rfl) (Nat.le_of_ble_eq_true rfl) (Nat.le_of_ble_eq_true rfl) (Nat.le_of_ble_eq_true rfl) (Nat.le_of_ble_eq_true rfl) (s_X12_took_f (i := 10) G hs kw (by decide) htp hps hw10 (fun r14 e14_z => ?_))
    refine t_ifeq (t := 22) dX12_lawWord_17 (by decide) (fun h17 => ?_) (fun h17 => False.elim (by omega))
    refine r_aloadR0 dX12_lawWord_22 ?_
    refine k_ldc (hld _ (List.mem_of_getElem? (i := 5) rfl)) dX12_lawWord_23 ?_
    refine q_callV1 zm_RX12_142 dX12_lawWord_25 (shM_k hs) (by decide) rfl (Nat.le_of_ble_eq_true rfl) (Nat.le_of_ble_eq_true rfl) (Nat.le_of_ble_eq_true rfl) (Nat.le_of_ble_eq_true rfl) (Nat.le_of_ble_eq_true rfl) (s_X12_took_f (i := 11) G hs kw (by decide) htp hps hw11 (fun r25 e25_z => ?_))
    refine t_ifeq (t := 33) dX12_lawWord_28 (by decide) (fun h28 => ?_) (fun h28 => False.elim (by omega))
    refine r_aloadR0 dX12_lawWord_33 ?_
    refine k_ldc (hld _ (List.mem_of_getElem? (i := 6) rfl)) dX12_lawWord_34 ?_
    refine q_callV1 zm_RX12_142 dX12_lawWord_36 (shM_k hs) (by decide) rfl (Nat.le_of_ble_eq_true rfl) (Nat.le_of_ble_eq_true rfl) (Nat.le_of_ble_eq_true rfl) (Nat.le_of_ble_eq_true rfl) (Nat.le_of_ble_eq_true rfl) (s_X12_took_f (i := 12) G hs kw (by decide) htp hps hw12 (fun r36 e36 => ?_))
    refine t_ifeq (t := 44) dX12_lawWord_39 (by decide) (fun h39 => ?_) (fun h39 => False.elim (by omega))
    refine r_aloadR0 dX12_lawWord_44 ?_
    refine k_ldc (hld _ (List.mem_of_getElem? (i := 7) rfl)) dX12_lawWord_45 ?_
    refine q_callV1 zm_RX12_142 dX12_lawWord_47 (shM_k hs) (by decide) rfl (Nat.le_of_ble_eq_true rfl) (Nat.le_of_ble_eq_true rfl) (Nat.le_of_ble_eq_true rfl) (Nat.le_of_ble_eq_true rfl) (Nat.le_of_ble_eq_true rfl) (s_X12_took_t (i := 13) G hs kw (by decide) htp hps hw13 (fun r47 g47 e47 o47 p47 => ?_))
    refine t_ifeq (t := 55) dX12_lawWord_50 (by decide) (fun h50 => False.elim (by omega)) (fun h50 => ?_)
    refine n_iconst dX12_lawWord_53 (by decide) (fun r53 e53 => ?_)
    refine r_iret dX12_lawWord_54 rfl (Nat.le_of_ble_eq_true rfl) (Nat.le_of_ble_eq_true rfl) ?_
    have hfc : fcP (wdP B n s) = 4 := by rw [hwt.2]; rfl
    refine hQ _ _ o47 (fun _ => ⟨by rw [hfc]; omega, p47⟩) (fun h_z => absurd ⟨hwt.1, ?_⟩ h_z)
    rw [hfc]
    split <;> omega
  by_cases hw14 : isWd B n s 14 = true
  · have hwt := isWd_tk hw14
    refine r_aloadR0 dX12_lawWord_0 ?_
    refine k_ldc (hld _ (List.mem_of_getElem? (i := 3) rfl)) dX12_lawWord_1 ?_
    refine q_callV1 zm_RX12_142 dX12_lawWord_3 (shM_k hs) (by decide) rfl (Nat.le_of_ble_eq_true rfl) (Nat.le_of_ble_eq_true rfl) (Nat.le_of_ble_eq_true rfl) (Nat.le_of_ble_eq_true rfl) (Nat.le_of_ble_eq_true rfl) (s_X12_took_f (i := 9) G hs kw (by decide) htp hps hw9 (fun r3 e3_z => ?_))
    refine t_ifeq (t := 11) dX12_lawWord_6 (by decide) (fun h6 => ?_) (fun h6 => False.elim (by omega))
    refine r_aloadR0 dX12_lawWord_11 ?_
    refine k_ldc (hld _ (List.mem_of_getElem? (i := 4) rfl)) dX12_lawWord_12 ?_
    refine q_callV1 zm_RX12_142 dX12_lawWord_14 (shM_k hs) (by decide) rfl (Nat.le_of_ble_eq_true rfl) (Nat.le_of_ble_eq_true rfl) (Nat.le_of_ble_eq_true rfl) (Nat.le_of_ble_eq_true rfl) (Nat.le_of_ble_eq_true rfl) (s_X12_took_f (i := 10) G hs kw (by decide) htp hps hw10 (fun r14 e14_z => ?_))
    refine t_ifeq (t := 22) dX12_lawWord_17 (by decide) (fun h17 => ?_) (fun h17 => False.elim (by omega))
    refine r_aloadR0 dX12_lawWord_22 ?_
    refine k_ldc (hld _ (List.mem_of_getElem? (i := 5) rfl)) dX12_lawWord_23 ?_
    refine q_callV1 zm_RX12_142 dX12_lawWord_25 (shM_k hs) (by decide) rfl (Nat.le_of_ble_eq_true rfl) (Nat.le_of_ble_eq_true rfl) (Nat.le_of_ble_eq_true rfl) (Nat.le_of_ble_eq_true rfl) (Nat.le_of_ble_eq_true rfl) (s_X12_took_f (i := 11) G hs kw (by decide) htp hps hw11 (fun r25 e25_z => ?_))
    refine t_ifeq (t := 33) dX12_lawWord_28 (by decide) (fun h28 => ?_) (fun h28 => False.elim (by omega))
    refine r_aloadR0 dX12_lawWord_33 ?_
    refine k_ldc (hld _ (List.mem_of_getElem? (i := 6) rfl)) dX12_lawWord_34 ?_
    refine q_callV1 zm_RX12_142 dX12_lawWord_36 (shM_k hs) (by decide) rfl (Nat.le_of_ble_eq_true rfl) (Nat.le_of_ble_eq_true rfl) (Nat.le_of_ble_eq_true rfl) (Nat.le_of_ble_eq_true rfl) (Nat.le_of_ble_eq_true rfl) (s_X12_took_f (i := 12) G hs kw (by decide) htp hps hw12 (fun r36 e36 => ?_))
    refine t_ifeq (t := 44) dX12_lawWord_39 (by decide) (fun h39 => ?_) (fun h39 => False.elim (by omega))
    refine r_aloadR0 dX12_lawWord_44 ?_
    refine k_ldc (hld _ (List.mem_of_getElem? (i := 7) rfl)) dX12_lawWord_45 ?_
    refine q_callV1 zm_RX12_142 dX12_lawWord_47 (shM_k hs) (by decide) rfl (Nat.le_of_ble_eq_true rfl) (Nat.le_of_ble_eq_true rfl) (Nat.le_of_ble_eq_true rfl) (Nat.le_of_ble_eq_true rfl) (Nat.le_of_ble_eq_true rfl) (s_X12_took_f (i := 13) G hs kw (by decide) htp hps hw13 (fun r47 e47 => ?_))
    refine t_ifeq (t := 55) dX12_lawWord_50 (by decide) (fun h50 => ?_) (fun h50 => False.elim (by omega))
    refine r_aloadR0 dX12_lawWord_55 ?_
    refine k_ldc (hld _ (List.mem_of_getElem? (i := 8) rfl)) dX12_lawWord_56 ?_
    refine q_callV1 zm_RX12_142 dX12_lawWord_58 (shM_k hs) (by decide) rfl (Nat.le_of_ble_eq_true rfl) (Nat.le_of_ble_eq_true rfl) (Nat.le_of_ble_eq_true rfl) (Nat.le_of_ble_eq_true rfl) (Nat.le_of_ble_eq_true rfl) (s_X12_took_t (i := 14) G hs kw (by decide) htp hps hw14 (fun r58 g58 e58 o58 p58 => ?_))
    refine t_ifeq (t := 66) dX12_lawWord_61 (by decide) (fun h61 => False.elim (by omega)) (fun h61 => ?_)
    refine n_iconst dX12_lawWord_64 (by decide) (fun r64 e64 => ?_)
    refine r_iret dX12_lawWord_65 rfl (Nat.le_of_ble_eq_true rfl) (Nat.le_of_ble_eq_true rfl) ?_
    have hfc : fcP (wdP B n s) = 5 := by rw [hwt.2]; rfl
    refine hQ _ _ o58 (fun _ => ⟨by rw [hfc]; omega, p58⟩) (fun h_z => absurd ⟨hwt.1, ?_⟩ h_z)
    rw [hfc]
    split <;> omega
  by_cases h5 : lm = 5
  case neg =>
    have hno : ¬ (tkP B n s = 3 ∧ fcP (wdP B n s) < (if lm = 5 then 8 else 6)) := by
      rintro ⟨h1, h2⟩
      rw [if_neg h5] at h2
      have hd_z : ∀ c, isWd B n s c = true ↔ (tkP B n s = 3 ∧ wdP B n s = c) := fun c => ⟨isWd_tk, fun h_z => decide_eq_true h_z⟩
      rw [hd_z] at hw9 hw10 hw11 hw12 hw13 hw14
      unfold fcP at h2
      split at h2
      · omega
      split at h2
      · omega
      split at h2
      · omega
      · omega
    refine r_aloadR0 dX12_lawWord_0 ?_
    refine k_ldc (hld _ (List.mem_of_getElem? (i := 3) rfl)) dX12_lawWord_1 ?_
    refine q_callV1 zm_RX12_142 dX12_lawWord_3 (shM_k hs) (by decide) rfl (Nat.le_of_ble_eq_true rfl) (Nat.le_of_ble_eq_true rfl) (Nat.le_of_ble_eq_true rfl) (Nat.le_of_ble_eq_true rfl) (Nat.le_of_ble_eq_true rfl) (s_X12_took_f (i := 9) G hs kw (by decide) htp hps hw9 (fun r3 e3_z => ?_))
    refine t_ifeq (t := 11) dX12_lawWord_6 (by decide) (fun h6 => ?_) (fun h6 => False.elim (by omega))
    refine r_aloadR0 dX12_lawWord_11 ?_
    refine k_ldc (hld _ (List.mem_of_getElem? (i := 4) rfl)) dX12_lawWord_12 ?_
    refine q_callV1 zm_RX12_142 dX12_lawWord_14 (shM_k hs) (by decide) rfl (Nat.le_of_ble_eq_true rfl) (Nat.le_of_ble_eq_true rfl) (Nat.le_of_ble_eq_true rfl) (Nat.le_of_ble_eq_true rfl) (Nat.le_of_ble_eq_true rfl) (s_X12_took_f (i := 10) G hs kw (by decide) htp hps hw10 (fun r14 e14_z => ?_))
    refine t_ifeq (t := 22) dX12_lawWord_17 (by decide) (fun h17 => ?_) (fun h17 => False.elim (by omega))
    refine r_aloadR0 dX12_lawWord_22 ?_
    refine k_ldc (hld _ (List.mem_of_getElem? (i := 5) rfl)) dX12_lawWord_23 ?_
    refine q_callV1 zm_RX12_142 dX12_lawWord_25 (shM_k hs) (by decide) rfl (Nat.le_of_ble_eq_true rfl) (Nat.le_of_ble_eq_true rfl) (Nat.le_of_ble_eq_true rfl) (Nat.le_of_ble_eq_true rfl) (Nat.le_of_ble_eq_true rfl) (s_X12_took_f (i := 11) G hs kw (by decide) htp hps hw11 (fun r25 e25_z => ?_))
    refine t_ifeq (t := 33) dX12_lawWord_28 (by decide) (fun h28 => ?_) (fun h28 => False.elim (by omega))
    refine r_aloadR0 dX12_lawWord_33 ?_
    refine k_ldc (hld _ (List.mem_of_getElem? (i := 6) rfl)) dX12_lawWord_34 ?_
    refine q_callV1 zm_RX12_142 dX12_lawWord_36 (shM_k hs) (by decide) rfl (Nat.le_of_ble_eq_true rfl) (Nat.le_of_ble_eq_true rfl) (Nat.le_of_ble_eq_true rfl) (Nat.le_of_ble_eq_true rfl) (Nat.le_of_ble_eq_true rfl) (s_X12_took_f (i := 12) G hs kw (by decide) htp hps hw12 (fun r36 e36 => ?_))
    refine t_ifeq (t := 44) dX12_lawWord_39 (by decide) (fun h39 => ?_) (fun h39 => False.elim (by omega))
    refine r_aloadR0 dX12_lawWord_44 ?_
    refine k_ldc (hld _ (List.mem_of_getElem? (i := 7) rfl)) dX12_lawWord_45 ?_
    refine q_callV1 zm_RX12_142 dX12_lawWord_47 (shM_k hs) (by decide) rfl (Nat.le_of_ble_eq_true rfl) (Nat.le_of_ble_eq_true rfl) (Nat.le_of_ble_eq_true rfl) (Nat.le_of_ble_eq_true rfl) (Nat.le_of_ble_eq_true rfl) (s_X12_took_f (i := 13) G hs kw (by decide) htp hps hw13 (fun r47 e47 => ?_))
    refine t_ifeq (t := 55) dX12_lawWord_50 (by decide) (fun h50 => ?_) (fun h50 => False.elim (by omega))
    refine r_aloadR0 dX12_lawWord_55 ?_
    refine k_ldc (hld _ (List.mem_of_getElem? (i := 8) rfl)) dX12_lawWord_56 ?_
    refine q_callV1 zm_RX12_142 dX12_lawWord_58 (shM_k hs) (by decide) rfl (Nat.le_of_ble_eq_true rfl) (Nat.le_of_ble_eq_true rfl) (Nat.le_of_ble_eq_true rfl) (Nat.le_of_ble_eq_true rfl) (Nat.le_of_ble_eq_true rfl) (s_X12_took_f (i := 14) G hs kw (by decide) htp hps hw14 (fun r58 e58 => ?_))
    refine t_ifeq (t := 66) dX12_lawWord_61 (by decide) (fun h61 => ?_) (fun h61 => False.elim (by omega))
    refine r_aloadR0 dX12_lawWord_66 ?_
    refine m_getV (x := (f A 17)) zf_RX12_148 rfl dX12_lawWord_67 (shM_k hs) (rfl) ?_
    refine n_iconst dX12_lawWord_70 (by decide) (fun r70 e70 => ?_)
    refine t_iceq (t := 76) dX12_lawWord_71 (by decide) (fun h71 => False.elim (by omega)) (fun h71 => ?_)
    refine n_iconst dX12_lawWord_74 (by decide) (fun r74 e74_z => ?_)
    refine r_iret dX12_lawWord_75 rfl (Nat.le_of_ble_eq_true rfl) (Nat.le_of_ble_eq_true rfl) ?_
    exact hQ _ f frM_rf (fun h_z => absurd h_z hno) (fun _ => ⟨by omega, hps⟩)
  case pos =>
    by_cases hw2 : isWd B n s 2 = true
    · have hwt := isWd_tk hw2
      refine r_aloadR0 dX12_lawWord_0 ?_
      refine k_ldc (hld _ (List.mem_of_getElem? (i := 3) rfl)) dX12_lawWord_1 ?_
      refine q_callV1 zm_RX12_142 dX12_lawWord_3 (shM_k hs) (by decide) rfl (Nat.le_of_ble_eq_true rfl) (Nat.le_of_ble_eq_true rfl) (Nat.le_of_ble_eq_true rfl) (Nat.le_of_ble_eq_true rfl) (Nat.le_of_ble_eq_true rfl) (s_X12_took_f (i := 9) G hs kw (by decide) htp hps hw9 (fun r3 e3_z => ?_))
      refine t_ifeq (t := 11) dX12_lawWord_6 (by decide) (fun h6 => ?_) (fun h6 => False.elim (by omega))
      refine r_aloadR0 dX12_lawWord_11 ?_
      refine k_ldc (hld _ (List.mem_of_getElem? (i := 4) rfl)) dX12_lawWord_12 ?_
      refine q_callV1 zm_RX12_142 dX12_lawWord_14 (shM_k hs) (by decide) rfl (Nat.le_of_ble_eq_true rfl) (Nat.le_of_ble_eq_true rfl) (Nat.le_of_ble_eq_true rfl) (Nat.le_of_ble_eq_true rfl) (Nat.le_of_ble_eq_true rfl) (s_X12_took_f (i := 10) G hs kw (by decide) htp hps hw10 (fun r14 e14_z => ?_))
      refine t_ifeq (t := 22) dX12_lawWord_17 (by decide) (fun h17 => ?_) (fun h17 => False.elim (by omega))
      refine r_aloadR0 dX12_lawWord_22 ?_
      refine k_ldc (hld _ (List.mem_of_getElem? (i := 5) rfl)) dX12_lawWord_23 ?_
      refine q_callV1 zm_RX12_142 dX12_lawWord_25 (shM_k hs) (by decide) rfl (Nat.le_of_ble_eq_true rfl) (Nat.le_of_ble_eq_true rfl) (Nat.le_of_ble_eq_true rfl) (Nat.le_of_ble_eq_true rfl) (Nat.le_of_ble_eq_true rfl) (s_X12_took_f (i := 11) G hs kw (by decide) htp hps hw11 (fun r25 e25_z => ?_))
      refine t_ifeq (t := 33) dX12_lawWord_28 (by decide) (fun h28 => ?_) (fun h28 => False.elim (by omega))
      refine r_aloadR0 dX12_lawWord_33 ?_
      refine k_ldc (hld _ (List.mem_of_getElem? (i := 6) rfl)) dX12_lawWord_34 ?_
      refine q_callV1 zm_RX12_142 dX12_lawWord_36 (shM_k hs) (by decide) rfl (Nat.le_of_ble_eq_true rfl) (Nat.le_of_ble_eq_true rfl) (Nat.le_of_ble_eq_true rfl) (Nat.le_of_ble_eq_true rfl) (Nat.le_of_ble_eq_true rfl) (s_X12_took_f (i := 12) G hs kw (by decide) htp hps hw12 (fun r36 e36 => ?_))
      refine t_ifeq (t := 44) dX12_lawWord_39 (by decide) (fun h39 => ?_) (fun h39 => False.elim (by omega))
      refine r_aloadR0 dX12_lawWord_44 ?_
      refine k_ldc (hld _ (List.mem_of_getElem? (i := 7) rfl)) dX12_lawWord_45 ?_
      refine q_callV1 zm_RX12_142 dX12_lawWord_47 (shM_k hs) (by decide) rfl (Nat.le_of_ble_eq_true rfl) (Nat.le_of_ble_eq_true rfl) (Nat.le_of_ble_eq_true rfl) (Nat.le_of_ble_eq_true rfl) (Nat.le_of_ble_eq_true rfl) (s_X12_took_f (i := 13) G hs kw (by decide) htp hps hw13 (fun r47 e47 => ?_))
      refine t_ifeq (t := 55) dX12_lawWord_50 (by decide) (fun h50 => ?_) (fun h50 => False.elim (by omega))
      refine r_aloadR0 dX12_lawWord_55 ?_
      refine k_ldc (hld _ (List.mem_of_getElem? (i := 8) rfl)) dX12_lawWord_56 ?_
      refine q_callV1 zm_RX12_142 dX12_lawWord_58 (shM_k hs) (by decide) rfl (Nat.le_of_ble_eq_true rfl) (Nat.le_of_ble_eq_true rfl) (Nat.le_of_ble_eq_true rfl) (Nat.le_of_ble_eq_true rfl) (Nat.le_of_ble_eq_true rfl) (s_X12_took_f (i := 14) G hs kw (by decide) htp hps hw14 (fun r58 e58 => ?_))
      refine t_ifeq (t := 66) dX12_lawWord_61 (by decide) (fun h61 => ?_) (fun h61 => False.elim (by omega))
      refine r_aloadR0 dX12_lawWord_66 ?_
      refine m_getV (x := (f A 17)) zf_RX12_148 rfl dX12_lawWord_67 (shM_k hs) (rfl) ?_
      refine n_iconst dX12_lawWord_70 (by decide) (fun r70 e70 => ?_)
      refine t_iceq (t := 76) dX12_lawWord_71 (by decide) (fun h71 => ?_) (fun h71 => False.elim (by omega))
      refine r_aloadR0 dX12_lawWord_76 ?_
      refine k_ldc (hld _ (List.mem_of_getElem? (i := 9) rfl)) dX12_lawWord_77 ?_
      refine q_callV1 zm_RX12_142 dX12_lawWord_79 (shM_k hs) (by decide) rfl (Nat.le_of_ble_eq_true rfl) (Nat.le_of_ble_eq_true rfl) (Nat.le_of_ble_eq_true rfl) (Nat.le_of_ble_eq_true rfl) (Nat.le_of_ble_eq_true rfl) (s_X12_took_t (i := 2) G hs kw (by decide) htp hps hw2 (fun r79 g79 e79 o79 p79 => ?_))
      refine t_ifeq (t := 88) dX12_lawWord_82 (by decide) (fun h82 => False.elim (by omega)) (fun h82 => ?_)
      refine n_bipush dX12_lawWord_85 (by decide) (fun r85 e85 => ?_)
      refine r_iret dX12_lawWord_87 rfl (Nat.le_of_ble_eq_true rfl) (Nat.le_of_ble_eq_true rfl) ?_
      have hfc : fcP (wdP B n s) = 6 := by rw [hwt.2]; rfl
      refine hQ _ _ o79 (fun _ => ⟨by rw [hfc]; omega, p79⟩) (fun h_z => absurd ⟨hwt.1, ?_⟩ h_z)
      rw [hfc]
      split <;> omega
    by_cases hw15 : isWd B n s 15 = true
    · have hwt := isWd_tk hw15
      refine r_aloadR0 dX12_lawWord_0 ?_
      refine k_ldc (hld _ (List.mem_of_getElem? (i := 3) rfl)) dX12_lawWord_1 ?_
      refine q_callV1 zm_RX12_142 dX12_lawWord_3 (shM_k hs) (by decide) rfl (Nat.le_of_ble_eq_true rfl) (Nat.le_of_ble_eq_true rfl) (Nat.le_of_ble_eq_true rfl) (Nat.le_of_ble_eq_true rfl) (Nat.le_of_ble_eq_true rfl) (s_X12_took_f (i := 9) G hs kw (by decide) htp hps hw9 (fun r3 e3_z => ?_))
      refine t_ifeq (t := 11) dX12_lawWord_6 (by decide) (fun h6 => ?_) (fun h6 => False.elim (by omega))
      refine r_aloadR0 dX12_lawWord_11 ?_
      refine k_ldc (hld _ (List.mem_of_getElem? (i := 4) rfl)) dX12_lawWord_12 ?_
      refine q_callV1 zm_RX12_142 dX12_lawWord_14 (shM_k hs) (by decide) rfl (Nat.le_of_ble_eq_true rfl) (Nat.le_of_ble_eq_true rfl) (Nat.le_of_ble_eq_true rfl) (Nat.le_of_ble_eq_true rfl) (Nat.le_of_ble_eq_true rfl) (s_X12_took_f (i := 10) G hs kw (by decide) htp hps hw10 (fun r14 e14_z => ?_))
      refine t_ifeq (t := 22) dX12_lawWord_17 (by decide) (fun h17 => ?_) (fun h17 => False.elim (by omega))
      refine r_aloadR0 dX12_lawWord_22 ?_
      refine k_ldc (hld _ (List.mem_of_getElem? (i := 5) rfl)) dX12_lawWord_23 ?_
      refine q_callV1 zm_RX12_142 dX12_lawWord_25 (shM_k hs) (by decide) rfl (Nat.le_of_ble_eq_true rfl) (Nat.le_of_ble_eq_true rfl) (Nat.le_of_ble_eq_true rfl) (Nat.le_of_ble_eq_true rfl) (Nat.le_of_ble_eq_true rfl) (s_X12_took_f (i := 11) G hs kw (by decide) htp hps hw11 (fun r25 e25_z => ?_))
      refine t_ifeq (t := 33) dX12_lawWord_28 (by decide) (fun h28 => ?_) (fun h28 => False.elim (by omega))
      refine r_aloadR0 dX12_lawWord_33 ?_
      refine k_ldc (hld _ (List.mem_of_getElem? (i := 6) rfl)) dX12_lawWord_34 ?_
      refine q_callV1 zm_RX12_142 dX12_lawWord_36 (shM_k hs) (by decide) rfl (Nat.le_of_ble_eq_true rfl) (Nat.le_of_ble_eq_true rfl) (Nat.le_of_ble_eq_true rfl) (Nat.le_of_ble_eq_true rfl) (Nat.le_of_ble_eq_true rfl) (s_X12_took_f (i := 12) G hs kw (by decide) htp hps hw12 (fun r36 e36 => ?_))
      refine t_ifeq (t := 44) dX12_lawWord_39 (by decide) (fun h39 => ?_) (fun h39 => False.elim (by omega))
      refine r_aloadR0 dX12_lawWord_44 ?_
      refine k_ldc (hld _ (List.mem_of_getElem? (i := 7) rfl)) dX12_lawWord_45 ?_
      refine q_callV1 zm_RX12_142 dX12_lawWord_47 (shM_k hs) (by decide) rfl (Nat.le_of_ble_eq_true rfl) (Nat.le_of_ble_eq_true rfl) (Nat.le_of_ble_eq_true rfl) (Nat.le_of_ble_eq_true rfl) (Nat.le_of_ble_eq_true rfl) (s_X12_took_f (i := 13) G hs kw (by decide) htp hps hw13 (fun r47 e47 => ?_))
      refine t_ifeq (t := 55) dX12_lawWord_50 (by decide) (fun h50 => ?_) (fun h50 => False.elim (by omega))
      refine r_aloadR0 dX12_lawWord_55 ?_
      refine k_ldc (hld _ (List.mem_of_getElem? (i := 8) rfl)) dX12_lawWord_56 ?_
      refine q_callV1 zm_RX12_142 dX12_lawWord_58 (shM_k hs) (by decide) rfl (Nat.le_of_ble_eq_true rfl) (Nat.le_of_ble_eq_true rfl) (Nat.le_of_ble_eq_true rfl) (Nat.le_of_ble_eq_true rfl) (Nat.le_of_ble_eq_true rfl) (s_X12_took_f (i := 14) G hs kw (by decide) htp hps hw14 (fun r58 e58 => ?_))
      refine t_ifeq (t := 66) dX12_lawWord_61 (by decide) (fun h61 => ?_) (fun h61 => False.elim (by omega))
      refine r_aloadR0 dX12_lawWord_66 ?_
      refine m_getV (x := (f A 17)) zf_RX12_148 rfl dX12_lawWord_67 (shM_k hs) (rfl) ?_
      refine n_iconst dX12_lawWord_70 (by decide) (fun r70 e70 => ?_)
      refine t_iceq (t := 76) dX12_lawWord_71 (by decide) (fun h71 => ?_) (fun h71 => False.elim (by omega))
      refine r_aloadR0 dX12_lawWord_76 ?_
      refine k_ldc (hld _ (List.mem_of_getElem? (i := 9) rfl)) dX12_lawWord_77 ?_
      refine q_callV1 zm_RX12_142 dX12_lawWord_79 (shM_k hs) (by decide) rfl (Nat.le_of_ble_eq_true rfl) (Nat.le_of_ble_eq_true rfl) (Nat.le_of_ble_eq_true rfl) (Nat.le_of_ble_eq_true rfl) (Nat.le_of_ble_eq_true rfl) (s_X12_took_f (i := 2) G hs kw (by decide) htp hps hw2 (fun r79 e79 => ?_))
      refine t_ifeq (t := 88) dX12_lawWord_82 (by decide) (fun h82 => ?_) (fun h82 => False.elim (by omega))
      refine r_aloadR0 dX12_lawWord_88 ?_
      refine k_ldc (hld _ (List.mem_of_getElem? (i := 10) rfl)) dX12_lawWord_89 ?_
      refine q_callV1 zm_RX12_142 dX12_lawWord_91 (shM_k hs) (by decide) rfl (Nat.le_of_ble_eq_true rfl) (Nat.le_of_ble_eq_true rfl) (Nat.le_of_ble_eq_true rfl) (Nat.le_of_ble_eq_true rfl) (Nat.le_of_ble_eq_true rfl) (s_X12_took_t (i := 15) G hs kw (by decide) htp hps hw15 (fun r91 g91 e91 o91 p91 => ?_))
      refine t_ifeq (t := 102) dX12_lawWord_94 (by decide) (fun h94 => False.elim (by omega)) (fun h94 => ?_)
      refine n_bipush dX12_lawWord_97 (by decide) (fun r97 e97_z => ?_)
      refine r_goto (t := 103) dX12_lawWord_99 (by decide) ?_
      refine r_iret dX12_lawWord_103 rfl (Nat.le_of_ble_eq_true rfl) (Nat.le_of_ble_eq_true rfl) ?_
      have hfc : fcP (wdP B n s) = 7 := by rw [hwt.2]; rfl
      refine hQ _ _ o91 (fun _ => ⟨by rw [hfc]; omega, p91⟩) (fun h_z => absurd ⟨hwt.1, ?_⟩ h_z)
      rw [hfc]
      split <;> omega
    have hno : ¬ (tkP B n s = 3 ∧ fcP (wdP B n s) < (if lm = 5 then 8 else 6)) := by
      rintro ⟨h1, h2⟩
      rw [if_pos h5] at h2
      have hd_z : ∀ c, isWd B n s c = true ↔ (tkP B n s = 3 ∧ wdP B n s = c) := fun c => ⟨isWd_tk, fun h_z => decide_eq_true h_z⟩
      rw [hd_z] at hw9 hw10 hw11 hw12 hw13 hw14 hw2 hw15
      unfold fcP at h2
      split at h2
      · omega
      split at h2
      · omega
      split at h2
      · omega
      · omega
    refine r_aloadR0 dX12_lawWord_0 ?_
    refine k_ldc (hld _ (List.mem_of_getElem? (i := 3) rfl)) dX12_lawWord_1 ?_
    refine q_callV1 zm_RX12_142 dX12_lawWord_3 (shM_k hs) (by decide) rfl (Nat.le_of_ble_eq_true rfl) (Nat.le_of_ble_eq_true rfl) (Nat.le_of_ble_eq_true rfl) (Nat.le_of_ble_eq_true rfl) (Nat.le_of_ble_eq_true rfl) (s_X12_took_f (i := 9) G hs kw (by decide) htp hps hw9 (fun r3 e3_z => ?_))
    refine t_ifeq (t := 11) dX12_lawWord_6 (by decide) (fun h6 => ?_) (fun h6 => False.elim (by omega))
    refine r_aloadR0 dX12_lawWord_11 ?_
    refine k_ldc (hld _ (List.mem_of_getElem? (i := 4) rfl)) dX12_lawWord_12 ?_
    refine q_callV1 zm_RX12_142 dX12_lawWord_14 (shM_k hs) (by decide) rfl (Nat.le_of_ble_eq_true rfl) (Nat.le_of_ble_eq_true rfl) (Nat.le_of_ble_eq_true rfl) (Nat.le_of_ble_eq_true rfl) (Nat.le_of_ble_eq_true rfl) (s_X12_took_f (i := 10) G hs kw (by decide) htp hps hw10 (fun r14 e14_z => ?_))
    refine t_ifeq (t := 22) dX12_lawWord_17 (by decide) (fun h17 => ?_) (fun h17 => False.elim (by omega))
    refine r_aloadR0 dX12_lawWord_22 ?_
    refine k_ldc (hld _ (List.mem_of_getElem? (i := 5) rfl)) dX12_lawWord_23 ?_
    refine q_callV1 zm_RX12_142 dX12_lawWord_25 (shM_k hs) (by decide) rfl (Nat.le_of_ble_eq_true rfl) (Nat.le_of_ble_eq_true rfl) (Nat.le_of_ble_eq_true rfl) (Nat.le_of_ble_eq_true rfl) (Nat.le_of_ble_eq_true rfl) (s_X12_took_f (i := 11) G hs kw (by decide) htp hps hw11 (fun r25 e25_z => ?_))
    refine t_ifeq (t := 33) dX12_lawWord_28 (by decide) (fun h28 => ?_) (fun h28 => False.elim (by omega))
    refine r_aloadR0 dX12_lawWord_33 ?_
    refine k_ldc (hld _ (List.mem_of_getElem? (i := 6) rfl)) dX12_lawWord_34 ?_
    refine q_callV1 zm_RX12_142 dX12_lawWord_36 (shM_k hs) (by decide) rfl (Nat.le_of_ble_eq_true rfl) (Nat.le_of_ble_eq_true rfl) (Nat.le_of_ble_eq_true rfl) (Nat.le_of_ble_eq_true rfl) (Nat.le_of_ble_eq_true rfl) (s_X12_took_f (i := 12) G hs kw (by decide) htp hps hw12 (fun r36 e36 => ?_))
    refine t_ifeq (t := 44) dX12_lawWord_39 (by decide) (fun h39 => ?_) (fun h39 => False.elim (by omega))
    refine r_aloadR0 dX12_lawWord_44 ?_
    refine k_ldc (hld _ (List.mem_of_getElem? (i := 7) rfl)) dX12_lawWord_45 ?_
    refine q_callV1 zm_RX12_142 dX12_lawWord_47 (shM_k hs) (by decide) rfl (Nat.le_of_ble_eq_true rfl) (Nat.le_of_ble_eq_true rfl) (Nat.le_of_ble_eq_true rfl) (Nat.le_of_ble_eq_true rfl) (Nat.le_of_ble_eq_true rfl) (s_X12_took_f (i := 13) G hs kw (by decide) htp hps hw13 (fun r47 e47 => ?_))
    refine t_ifeq (t := 55) dX12_lawWord_50 (by decide) (fun h50 => ?_) (fun h50 => False.elim (by omega))
    refine r_aloadR0 dX12_lawWord_55 ?_
    refine k_ldc (hld _ (List.mem_of_getElem? (i := 8) rfl)) dX12_lawWord_56 ?_
    refine q_callV1 zm_RX12_142 dX12_lawWord_58 (shM_k hs) (by decide) rfl (Nat.le_of_ble_eq_true rfl) (Nat.le_of_ble_eq_true rfl) (Nat.le_of_ble_eq_true rfl) (Nat.le_of_ble_eq_true rfl) (Nat.le_of_ble_eq_true rfl) (s_X12_took_f (i := 14) G hs kw (by decide) htp hps hw14 (fun r58 e58 => ?_))
    refine t_ifeq (t := 66) dX12_lawWord_61 (by decide) (fun h61 => ?_) (fun h61 => False.elim (by omega))
    refine r_aloadR0 dX12_lawWord_66 ?_
    refine m_getV (x := (f A 17)) zf_RX12_148 rfl dX12_lawWord_67 (shM_k hs) (rfl) ?_
    refine n_iconst dX12_lawWord_70 (by decide) (fun r70 e70 => ?_)
    refine t_iceq (t := 76) dX12_lawWord_71 (by decide) (fun h71 => ?_) (fun h71 => False.elim (by omega))
    refine r_aloadR0 dX12_lawWord_76 ?_
    refine k_ldc (hld _ (List.mem_of_getElem? (i := 9) rfl)) dX12_lawWord_77 ?_
    refine q_callV1 zm_RX12_142 dX12_lawWord_79 (shM_k hs) (by decide) rfl (Nat.le_of_ble_eq_true rfl) (Nat.le_of_ble_eq_true rfl) (Nat.le_of_ble_eq_true rfl) (Nat.le_of_ble_eq_true rfl) (Nat.le_of_ble_eq_true rfl) (s_X12_took_f (i := 2) G hs kw (by decide) htp hps hw2 (fun r79 e79 => ?_))
    refine t_ifeq (t := 88) dX12_lawWord_82 (by decide) (fun h82 => ?_) (fun h82 => False.elim (by omega))
    refine r_aloadR0 dX12_lawWord_88 ?_
    refine k_ldc (hld _ (List.mem_of_getElem? (i := 10) rfl)) dX12_lawWord_89 ?_
    refine q_callV1 zm_RX12_142 dX12_lawWord_91 (shM_k hs) (by decide) rfl (Nat.le_of_ble_eq_true rfl) (Nat.le_of_ble_eq_true rfl) (Nat.le_of_ble_eq_true rfl) (Nat.le_of_ble_eq_true rfl) (Nat.le_of_ble_eq_true rfl) (s_X12_took_f (i := 15) G hs kw (by decide) htp hps hw15 (fun r91 e91 => ?_))
    refine t_ifeq (t := 102) dX12_lawWord_94 (by decide) (fun h94 => ?_) (fun h94 => False.elim (by omega))
    refine n_iconst dX12_lawWord_102 (by decide) (fun r102 e102_z => ?_)
    refine r_iret dX12_lawWord_103 rfl (Nat.le_of_ble_eq_true rfl) (Nat.le_of_ble_eq_true rfl) ?_
    exact hQ _ f frM_rf (fun h_z => absurd h_z hno) (fun _ => ⟨by omega, hps⟩)
