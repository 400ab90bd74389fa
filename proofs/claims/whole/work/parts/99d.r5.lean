/-! the reference reads laws: atoms, products, sums -/
def okM (f f2_z : Nat → Nat → Int32) (A lm la u : Nat) (c : List Nat) : Prop := (f2_z (A + 2) lm).toInt = ((u + c.length : Nat) : Int) ∧ (∀ i, i ≠ lm → (i < la + u ∨ la + 900 ≤ i) → f2_z (A + 2) i = f (A + 2) i) ∧ ∀ i o, c[i]? = some o → (f2_z (A + 2) (la + u + i)).toInt = (rfO o : Nat)
theorem okM_ap {f f2_z f3_z : Nat → Nat → Int32} {A lm la u : Nat} {c d : List Nat} (hl : lm < la) (h9 : u + c.length ≤ 900) (h_z : okM f f2_z A lm la u c) (h2 : okM f2_z f3_z A lm la (u + c.length) d) : okM f f3_z A lm la u (c ++ d) := by
  refine ⟨by rw [h2.1, List.length_append, Nat.add_assoc], fun i h3 h4 => ?_, fun i o ho => ?_⟩
  · rw [h2.2.1 i h3 (by omega), h_z.2.1 i h3 h4]
  · rcases Nat.lt_or_ge i c.length with h5 | h5
    · rw [List.getElem?_append_left h5] at ho
      rw [h2.2.1 _ (by omega) (by omega)]
      exact h_z.2.2 i o ho
    · rw [List.getElem?_append_right h5] at ho
      have := h2.2.2 _ o ho
      rw [show la + (u + c.length) + (i - c.length) = la + u + i by omega] at this
      exact this
theorem okM_nil {f f2_z : Nat → Nat → Int32} {A lm la u : Nat} (hu : (f (A + 2) lm).toInt = (u : Nat)) (h_z : f2_z (A + 2) = f (A + 2)) : okM f f2_z A lm la u [] := ⟨by rw [h_z]; exact hu, fun i _ _ => by rw [h_z], fun i o ho => by simp at ho⟩
theorem okM_one {f f2_z : Nat → Nat → Int32} {A lm la u o : Nat} {x : Int32} (h9 : u < 900) (h1 : (f2_z (A + 2) lm).toInt = ((u + 1 : Nat) : Int)) (h2 : f2_z (A + 2) (la + u) = x) (h3 : ∀ i, i ≠ lm → i ≠ la + u → f2_z (A + 2) i = f (A + 2) i) (hx : x.toInt = (rfO o : Nat)) : okM f f2_z A lm la u [o] := by
  refine ⟨h1, fun i h4 h5 => h3 i h4 (by omega), fun i q hq => ?_⟩
  have h6 : i < 1 := (List.getElem?_eq_some_iff.mp hq).1
  obtain rfl : i = 0 := by omega
  cases hq
  show (f2_z (A + 2) (la + u)).toInt = _
  rw [h2]
  exact hx
theorem okM_cg {f f1_z f2_z f3_z : Nat → Nat → Int32} {A lm la u : Nat} {c : List Nat} (h_z : okM f1_z f2_z A lm la u c) (h1 : f1_z (A + 2) = f (A + 2)) (h2 : f3_z (A + 2) = f2_z (A + 2)) : okM f f3_z A lm la u c := by
  unfold okM at *
  rw [h2, ← h1]
  exact h_z
theorem a1_num {B : Nat → Nat} {n m s : Nat} (h_z : tkP B n s = 2) : a1P B n m s = (0, nxP B n s, [nmP B n s]) := if_pos h_z
theorem a1_fact {B : Nat → Nat} {n m s : Nat} (h_z : tkP B n s = 3 ∧ fcP (wdP B n s) < m) : a1P B n m s = (0, nxP B n s, [1000 + fcP (wdP B n s)]) := (if_neg (by rw [h_z.1]; decide)).trans (if_pos h_z)
theorem a1_bad {B : Nat → Nat} {n m s : Nat} (h2 : tkP B n s ≠ 2) (h_z : ¬ (tkP B n s = 3 ∧ fcP (wdP B n s) < m)) : a1P B n m s = (baP B n s, s, []) := (if_neg h2).trans (if_neg h_z)
set_option maxHeartbeats 4000000 in
set_option maxRecDepth 100000 in
theorem s_X12_readAtom_x {g : zGT} {w : zW} {f : Nat → Nat → Int32} {j : Nat → Nat → Int64} {A : Nat} {Q : Option Value → zW → Prop} {QX : String → zW → Prop} (G : zGok g) (hs : shM w A) (hb_z : (f A 12).toInt ≠ 0) (hQ : Q none (zM w f j)) : zC g 2 yX12_readAtom cX12_readAtom 3 none [.ref A] (zM w f j) (0, 0) Q QX := by
  refine zC_of G (by decide +kernel) (Nat.le_of_ble_eq_true rfl) ?_
  refine r_aloadR0 dX12_readAtom_0 ?_
  refine m_getV (x := (f A 12)) zf_RX12_112 rfl dX12_readAtom_1 (shM_k hs) (rfl) ?_
  refine t_ifeq (t := 8) dX12_readAtom_4 (by decide) (fun h4 => False.elim (by omega)) (fun h4 => ?_)
  refine r_vret dX12_readAtom_7 rfl (Nat.le_of_ble_eq_true rfl) (Nat.le_of_ble_eq_true rfl) ?_
  exact hQ
set_option maxHeartbeats 4000000 in
set_option maxRecDepth 100000 in
theorem s_X12_readTerm_x {g : zGT} {w : zW} {f : Nat → Nat → Int32} {j : Nat → Nat → Int64} {A : Nat} {Q : Option Value → zW → Prop} {QX : String → zW → Prop} (G : zGok g) (hs : shM w A) (hb_z : (f A 12).toInt ≠ 0) (hQ : Q none (zM w f j)) : zC g 3 yX12_readTerm cX12_readTerm 1 none [.ref A] (zM w f j) (0, 0) Q QX := by
  refine zC_of G (by decide +kernel) (Nat.le_of_ble_eq_true rfl) ?_
  refine r_aloadR0 dX12_readTerm_0 ?_
  refine q_callV0 zm_RX12_187 dX12_readTerm_1 (shM_k hs) (by decide) rfl (Nat.le_of_ble_eq_true rfl) (Nat.le_of_ble_eq_true rfl) (Nat.le_of_ble_eq_true rfl) (Nat.le_of_ble_eq_true rfl) (Nat.le_of_ble_eq_true rfl) (s_X12_readAtom_x G hs hb_z ?_)
  refine r_aloadR0 dX12_readTerm_4 ?_
  refine n_bipush dX12_readTerm_5 (by decide) (fun r5 e5_z => ?_)
  refine q_callV1 zm_RX12_175 dX12_readTerm_7 (shM_k hs) (by decide) rfl (Nat.le_of_ble_eq_true rfl) (Nat.le_of_ble_eq_true rfl) (Nat.le_of_ble_eq_true rfl) (Nat.le_of_ble_eq_true rfl) (Nat.le_of_ble_eq_true rfl) (s_X12_isSign G hs (fun r7 e7_z => ?_))
  refine t_ifeq (t := 30) dX12_readTerm_10 (by decide) (fun h10 => ?_) (fun h10 => False.elim (by omega))
  refine r_vret dX12_readTerm_30 rfl (Nat.le_of_ble_eq_true rfl) (Nat.le_of_ble_eq_true rfl) ?_
  exact hQ
set_option maxHeartbeats 4000000 in
set_option maxRecDepth 100000 in
theorem s_X12_readSum_x {g : zGT} {w : zW} {f : Nat → Nat → Int32} {j : Nat → Nat → Int64} {A : Nat} {Q : Option Value → zW → Prop} {QX : String → zW → Prop} (G : zGok g) (hs : shM w A) (hb_z : (f A 12).toInt ≠ 0) (hQ : Q none (zM w f j)) : zC g 4 yX12_readSum cX12_readSum 2 none [.ref A] (zM w f j) (0, 0) Q QX := by
  refine zC_of G (by decide +kernel) (Nat.le_of_ble_eq_true rfl) ?_
  refine r_aloadR0 dX12_readSum_0 ?_
  refine q_callV0 zm_RX12_184 dX12_readSum_1 (shM_k hs) (by decide) rfl (Nat.le_of_ble_eq_true rfl) (Nat.le_of_ble_eq_true rfl) (Nat.le_of_ble_eq_true rfl) (Nat.le_of_ble_eq_true rfl) (Nat.le_of_ble_eq_true rfl) (s_X12_readTerm_x G hs hb_z ?_)
  refine r_aloadR0 dX12_readSum_4 ?_
  refine n_bipush dX12_readSum_5 (by decide) (fun r5 e5_z => ?_)
  refine q_callV1 zm_RX12_175 dX12_readSum_7 (shM_k hs) (by decide) rfl (Nat.le_of_ble_eq_true rfl) (Nat.le_of_ble_eq_true rfl) (Nat.le_of_ble_eq_true rfl) (Nat.le_of_ble_eq_true rfl) (Nat.le_of_ble_eq_true rfl) (s_X12_isSign G hs (fun r7 e7_z => ?_))
  refine t_ifne (t := 22) dX12_readSum_10 (by decide) (fun h10 => False.elim (by omega)) (fun h10 => ?_)
  refine r_aloadR0 dX12_readSum_13 ?_
  refine n_bipush dX12_readSum_14 (by decide) (fun r14 e14_z => ?_)
  refine q_callV1 zm_RX12_175 dX12_readSum_16 (shM_k hs) (by decide) rfl (Nat.le_of_ble_eq_true rfl) (Nat.le_of_ble_eq_true rfl) (Nat.le_of_ble_eq_true rfl) (Nat.le_of_ble_eq_true rfl) (Nat.le_of_ble_eq_true rfl) (s_X12_isSign G hs (fun r16 e16_z => ?_))
  refine t_ifeq (t := 55) dX12_readSum_19 (by decide) (fun h19 => ?_) (fun h19 => False.elim (by omega))
  refine r_vret dX12_readSum_55 rfl (Nat.le_of_ble_eq_true rfl) (Nat.le_of_ble_eq_true rfl) ?_
  exact hQ
set_option maxHeartbeats 4000000 in
set_option maxRecDepth 100000 in
theorem s_X12_readAtom_0 {g : zGT} {w : zW} {f : Nat → Nat → Int32} {j : Nat → Nat → Int64} {A : Nat} {B : Nat → Nat} {n : Nat} {wa wv : Nat → Nat} {kq : Nat} {p lm la u : Nat} {Q : Option Value → zW → Prop} {QX : String → zW → Prop} (G : zGok g) (hs : shM w A) (kw : kWd g wa wv kq) (hld : kLd g wa) (htp : tpM B n f A) (hps : psM B n f A 0 p) (hd16 : (f A 16).toInt = 6) (hlm : (f A 17).toInt = (lm : Nat)) (hla : (f A 18).toInt = (la : Nat)) (hu : (f (A + 2) lm).toInt = (u : Nat)) (h5 : lm ≤ 5) (h29 : 209 ≤ la) (h99 : la ≤ 2009) (hup : u ≤ p) (hQ : ∀ f2_z, frM A [2] [8, 9, 10, 11, 12, 13, 16] f f2_z → (f2_z A 16).toInt = 6 → psM B n f2_z A (atP B n (if lm = 5 then 8 else 6) 0 p).1 (atP B n (if lm = 5 then 8 else 6) 0 p).2.1 → ((atP B n (if lm = 5 then 8 else 6) 0 p).1 = 0 → okM f f2_z A lm la u (atP B n (if lm = 5 then 8 else 6) 0 p).2.2) → Q none (zM w f2_z j)) : zC g 10 yX12_readAtom cX12_readAtom 3 none [.ref A] (zM w f j) (0, 0) Q QX := by
  refine zC_of G (by decide +kernel) (Nat.le_of_ble_eq_true rfl) ?_
  have ht := hps.2.1 rfl
  have h12 := hps.1
  have hte := teP_le (B := B) ht.1
  have h900 := htp.2.1
  have h10 := ht.2.2.2.1
  by_cases hf : tkP B n p = 3 ∧ fcP (wdP B n p) < (if lm = 5 then 8 else 6)
  · have hne : tkP B n p ≠ 40 := by rw [hf.1]; decide
    have hv : atP B n (if lm = 5 then 8 else 6) 0 p = (0, nxP B n p, [1000 + fcP (wdP B n p)]) := (if_neg hne).trans (a1_fact hf)
    rw [hv] at hQ
    have hpn := tk_lt (B := B) (n := n) (s := p) (by rw [hf.1]; decide)
    have hf8 : fcP (wdP B n p) < 8 := Nat.lt_of_lt_of_le hf.2 (by split <;> decide)
    refine r_aloadR0 dX12_readAtom_0 ?_
    refine m_getV (x := (f A 12)) zf_RX12_112 rfl dX12_readAtom_1 (shM_k hs) (rfl) ?_
    refine t_ifeq (t := 8) dX12_readAtom_4 (by decide) (fun h4 => ?_) (fun h4 => False.elim (by omega))
    refine r_aloadR0 dX12_readAtom_8 ?_
    refine q_callV0 zm_RX12_206 dX12_readAtom_9 (shM_k hs) (by decide) rfl (Nat.le_of_ble_eq_true rfl) (Nat.le_of_ble_eq_true rfl) (Nat.le_of_ble_eq_true rfl) (Nat.le_of_ble_eq_true rfl) (Nat.le_of_ble_eq_true rfl) (s_X12_lawWord G hs kw hld htp hps hlm (fun r9 g9 o9 a9 b9 => ?_))
    have htp9 := tpM_of htp (o9.2.1 5 (by decide) (by decide) (by decide)) (o9.2.2 7 (by decide))
    have w2 : g9 (A + 2) = f (A + 2) := o9.2.1 2 (by decide) (by decide) (by decide)
    obtain ⟨e9_z, p9⟩ := a9 hf
    have n9 := p9.1
    refine r_istore1 dX12_readAtom_12 rfl ?_
    refine r_iload1 dX12_readAtom_13 ?_
    refine n_iconst dX12_readAtom_14 (by decide) (fun r14 e14_z => ?_)
    refine t_iceq (t := 29) dX12_readAtom_15 (by decide) (fun h15 => False.elim (by omega)) (fun h15 => ?_)
    refine r_aloadR0 dX12_readAtom_18 ?_
    refine n_bipush dX12_readAtom_19 (by decide) (fun r19 e19_z => ?_)
    refine r_iload1 dX12_readAtom_21 ?_
    refine n_iadd dX12_readAtom_22 (by omega) (fun r22 e22_z => ?_)
    refine q_callV1 zm_RX12_162 dX12_readAtom_23 (shM_k hs) (by decide) rfl (Nat.le_of_ble_eq_true rfl) (Nat.le_of_ble_eq_true rfl) (Nat.le_of_ble_eq_true rfl) (Nat.le_of_ble_eq_true rfl) (Nat.le_of_ble_eq_true rfl) (s_X12_laysStep (lm := lm) (la := la) (u := u) G hs p9.1 (by rw [o9.2.2 17 (by decide)]; exact hlm) (by rw [o9.2.2 18 (by decide)]; exact hla) (by rw [w2]; exact hu) h5 h29 (by omega) (fun g23 o23 a23 b23 c23 => ?_))
    refine r_goto (t := 83) dX12_readAtom_26 (by decide) ?_
    refine r_vret dX12_readAtom_83 rfl (Nat.le_of_ble_eq_true rfl) (Nat.le_of_ble_eq_true rfl) ?_
    refine hQ _ (frM_tr (frM_su o9 (by decide) (by decide)) (frM_su o23 (by decide) (by decide))) (by rw [o23.2.2 16 (by decide), o9.2.2 16 (by decide)]; exact hd16) (psM_of p9 (o23.2.2 8 (by decide)) (o23.2.2 9 (by decide)) (o23.2.2 10 (by decide)) (o23.2.2 11 (by decide)) (o23.2.2 12 (by decide)) (o23.2.2 13 (by decide))) (fun _ => okM_cg (okM_one (by omega) a23 b23 c23 ?_) w2 rfl)
    unfold rfO
    rw [if_neg (by omega), if_pos (by omega)]
    omega
  by_cases hp : tkP B n p = 40
  · have hv : atP B n (if lm = 5 then 8 else 6) 0 p = (4, p, []) := if_pos hp
    rw [hv] at hQ
    have hrk := (rk4 (B := B) (n := n) (s := p) (c := 40) (by decide)).mpr hp
    refine r_aloadR0 dX12_readAtom_0 ?_
    refine m_getV (x := (f A 12)) zf_RX12_112 rfl dX12_readAtom_1 (shM_k hs) (rfl) ?_
    refine t_ifeq (t := 8) dX12_readAtom_4 (by decide) (fun h4 => ?_) (fun h4 => False.elim (by omega))
    refine r_aloadR0 dX12_readAtom_8 ?_
    refine q_callV0 zm_RX12_206 dX12_readAtom_9 (shM_k hs) (by decide) rfl (Nat.le_of_ble_eq_true rfl) (Nat.le_of_ble_eq_true rfl) (Nat.le_of_ble_eq_true rfl) (Nat.le_of_ble_eq_true rfl) (Nat.le_of_ble_eq_true rfl) (s_X12_lawWord G hs kw hld htp hps hlm (fun r9 g9 o9 a9 b9 => ?_))
    have htp9 := tpM_of htp (o9.2.1 5 (by decide) (by decide) (by decide)) (o9.2.2 7 (by decide))
    have w2 : g9 (A + 2) = f (A + 2) := o9.2.1 2 (by decide) (by decide) (by decide)
    obtain ⟨e9_z, p9⟩ := b9 hf
    have n9 := p9.1
    have t9 := p9.2.1 rfl
    have k9 := t9.2.2.2.1
    have d9 : (g9 A 16).toInt = 6 := by rw [o9.2.2 16 (by decide)]; exact hd16
    refine r_istore1 dX12_readAtom_12 rfl ?_
    refine r_iload1 dX12_readAtom_13 ?_
    refine n_iconst dX12_readAtom_14 (by decide) (fun r14 e14_z => ?_)
    refine t_iceq (t := 29) dX12_readAtom_15 (by decide) (fun h15 => ?_) (fun h15 => False.elim (by omega))
    refine r_aloadR0 dX12_readAtom_29 ?_
    refine n_bipush dX12_readAtom_30 (by decide) (fun r30 e30 => ?_)
    refine q_callV1 zm_RX12_175 dX12_readAtom_32 (shM_k hs) (by decide) rfl (Nat.le_of_ble_eq_true rfl) (Nat.le_of_ble_eq_true rfl) (Nat.le_of_ble_eq_true rfl) (Nat.le_of_ble_eq_true rfl) (Nat.le_of_ble_eq_true rfl) (s_X12_isSign G hs (fun r32 e32 => ?_))
    refine t_ifeq (t := 65) dX12_readAtom_35 (by decide) (fun h35 => False.elim (by omega)) (fun h35 => ?_)
    refine r_aloadR0 dX12_readAtom_38 ?_
    refine q_callV0 zm_RX12_172 dX12_readAtom_39 (shM_k hs) (by decide) rfl (Nat.le_of_ble_eq_true rfl) (Nat.le_of_ble_eq_true rfl) (Nat.le_of_ble_eq_true rfl) (Nat.le_of_ble_eq_true rfl) (Nat.le_of_ble_eq_true rfl) (s_X12_goesIn (d := 6) G hs htp9 p9 d9 (Nat.le_refl 6) (by rw [hp]; decide) (fun g39 o39 a39 b39 c39 => ?_))
    have p39 := b39 rfl
    have nb : (g39 A 12).toInt ≠ 0 := by rw [p39.1]; decide
    refine r_aloadR0 dX12_readAtom_42 ?_
    refine q_callV0 zm_RX12_181 dX12_readAtom_43 (shM_k hs) (by decide) rfl (Nat.le_of_ble_eq_true rfl) (Nat.le_of_ble_eq_true rfl) (Nat.le_of_ble_eq_true rfl) (Nat.le_of_ble_eq_true rfl) (Nat.le_of_ble_eq_true rfl) (s_X12_readSum_x G hs nb ?_)
    refine r_aloadR0 dX12_readAtom_46 ?_
    refine n_bipush dX12_readAtom_47 (by decide) (fun r47 e47 => ?_)
    refine q_callV1 zm_RX12_151 dX12_readAtom_49 (shM_k hs) (by decide) rfl (Nat.le_of_ble_eq_true rfl) (Nat.le_of_ble_eq_true rfl) (Nat.le_of_ble_eq_true rfl) (Nat.le_of_ble_eq_true rfl) (Nat.le_of_ble_eq_true rfl) (s_X12_mustSign_x G hs nb ?_)
    refine r_aloadR0 dX12_readAtom_52 ?_
    refine r_dup dX12_readAtom_53 rfl ?_
    refine m_getV (x := (g39 A 16)) zf_RX12_154 rfl dX12_readAtom_54 (shM_k hs) (rfl) ?_
    refine n_iconst dX12_readAtom_57 (by decide) (fun r57 e57 => ?_)
    refine n_isub dX12_readAtom_58 (by omega) (fun r58 e58 => ?_)
    refine m_putI zf_RX12_154 (by intro C T N h_z; cases h_z; rfl) rfl dX12_readAtom_59 (shM_k hs) ?_
    obtain ⟨g59, hg59⟩ : ∃ g9, g9 = zu g39 A 16 r58 := ⟨_, rfl⟩
    rw [← hg59]
    have og59 : frM A [] [16] g39 g59 := by rw [hg59]; exact frM_zk frM_rf (by decide)
    have vg59 : g59 A 16 = r58 := by rw [hg59]; exact zu_at
    have vt59 : (g59 A 16).toInt = r58.toInt := by rw [vg59]
    refine r_goto (t := 83) dX12_readAtom_62 (by decide) ?_
    refine r_vret dX12_readAtom_83 rfl (Nat.le_of_ble_eq_true rfl) (Nat.le_of_ble_eq_true rfl) ?_
    exact hQ _ (frM_tr (frM_tr (frM_su o9 (by decide) (by decide)) (frM_su o39 (by decide) (by decide))) (frM_su og59 (by decide) (by decide))) (by rw [vt59]; omega) (psM_of p39 (og59.2.2 8 (by decide)) (og59.2.2 9 (by decide)) (og59.2.2 10 (by decide)) (og59.2.2 11 (by decide)) (og59.2.2 12 (by decide)) (og59.2.2 13 (by decide))) (fun h_z => absurd (show (4 : Nat) = 0 from h_z) (by decide))
  have hrk : rkP B n p ≠ 40 := fun h_z => hp ((rk4 (B := B) (n := n) (s := p) (c := 40) (by decide)).mp h_z)
  have hv0 : atP B n (if lm = 5 then 8 else 6) 0 p = a1P B n (if lm = 5 then 8 else 6) p := if_neg hp
  by_cases h2 : tkP B n p = 2
  · have hv : atP B n (if lm = 5 then 8 else 6) 0 p = (0, nxP B n p, [nmP B n p]) := hv0.trans (a1_num h2)
    rw [hv] at hQ
    have hpn := (tk2 h2).1
    have hnm := nm_bd h2
    have hnu : nuH B n 999 p = (0, nxP B n p, nmP B n p) := by unfold nuH; rw [if_pos h2, if_neg (by omega)]
    refine r_aloadR0 dX12_readAtom_0 ?_
    refine m_getV (x := (f A 12)) zf_RX12_112 rfl dX12_readAtom_1 (shM_k hs) (rfl) ?_
    refine t_ifeq (t := 8) dX12_readAtom_4 (by decide) (fun h4 => ?_) (fun h4 => False.elim (by omega))
    refine r_aloadR0 dX12_readAtom_8 ?_
    refine q_callV0 zm_RX12_206 dX12_readAtom_9 (shM_k hs) (by decide) rfl (Nat.le_of_ble_eq_true rfl) (Nat.le_of_ble_eq_true rfl) (Nat.le_of_ble_eq_true rfl) (Nat.le_of_ble_eq_true rfl) (Nat.le_of_ble_eq_true rfl) (s_X12_lawWord G hs kw hld htp hps hlm (fun r9 g9 o9 a9 b9 => ?_))
    have htp9 := tpM_of htp (o9.2.1 5 (by decide) (by decide) (by decide)) (o9.2.2 7 (by decide))
    have w2 : g9 (A + 2) = f (A + 2) := o9.2.1 2 (by decide) (by decide) (by decide)
    obtain ⟨e9_z, p9⟩ := b9 hf
    have n9 := p9.1
    have t9 := p9.2.1 rfl
    have k9 := t9.2.2.2.1
    have d9 : (g9 A 16).toInt = 6 := by rw [o9.2.2 16 (by decide)]; exact hd16
    refine r_istore1 dX12_readAtom_12 rfl ?_
    refine r_iload1 dX12_readAtom_13 ?_
    refine n_iconst dX12_readAtom_14 (by decide) (fun r14 e14_z => ?_)
    refine t_iceq (t := 29) dX12_readAtom_15 (by decide) (fun h15 => ?_) (fun h15 => False.elim (by omega))
    refine r_aloadR0 dX12_readAtom_29 ?_
    refine n_bipush dX12_readAtom_30 (by decide) (fun r30 e30 => ?_)
    refine q_callV1 zm_RX12_175 dX12_readAtom_32 (shM_k hs) (by decide) rfl (Nat.le_of_ble_eq_true rfl) (Nat.le_of_ble_eq_true rfl) (Nat.le_of_ble_eq_true rfl) (Nat.le_of_ble_eq_true rfl) (Nat.le_of_ble_eq_true rfl) (s_X12_isSign G hs (fun r32 e32 => ?_))
    refine t_ifeq (t := 65) dX12_readAtom_35 (by decide) (fun h35 => ?_) (fun h35 => False.elim (by omega))
    refine r_aloadR0 dX12_readAtom_65 ?_
    refine n_iconst dX12_readAtom_66 (by decide) (fun r66 e66 => ?_)
    refine n_sipush dX12_readAtom_67 (by decide) (fun r67 e67 => ?_)
    refine q_callV2 zm_RX12_209 dX12_readAtom_70 (shM_k hs) (by decide) rfl (Nat.le_of_ble_eq_true rfl) (Nat.le_of_ble_eq_true rfl) (Nat.le_of_ble_eq_true rfl) (Nat.le_of_ble_eq_true rfl) (Nat.le_of_ble_eq_true rfl) (s_X12_number (p := p) (h_z := 999) G hs htp9 p9 e66 e67 (fun r70 g70 o70 a70 b70 c70 => ?_))
    rw [hnu] at a70 b70
    have e70 : r70.toInt = (nmP B n p : Nat) := b70 rfl
    have w3 : g70 (A + 2) = f (A + 2) := (o70.2.1 2 (by decide) (by decide) (by decide)).trans w2
    refine r_istore2 dX12_readAtom_73 rfl ?_
    refine r_aloadR0 dX12_readAtom_74 ?_
    refine n_sipush dX12_readAtom_75 (by decide) (fun r75 e75 => ?_)
    refine r_iload2 dX12_readAtom_78 ?_
    refine n_iadd dX12_readAtom_79 (by omega) (fun r79 e79 => ?_)
    refine q_callV1 zm_RX12_162 dX12_readAtom_80 (shM_k hs) (by decide) rfl (Nat.le_of_ble_eq_true rfl) (Nat.le_of_ble_eq_true rfl) (Nat.le_of_ble_eq_true rfl) (Nat.le_of_ble_eq_true rfl) (Nat.le_of_ble_eq_true rfl) (s_X12_laysStep (lm := lm) (la := la) (u := u) G hs a70.1 (by rw [o70.2.2 17 (by decide), o9.2.2 17 (by decide)]; exact hlm) (by rw [o70.2.2 18 (by decide), o9.2.2 18 (by decide)]; exact hla) (by rw [w3]; exact hu) h5 h29 (by omega) (fun g80 o80 a80 b80 c80 => ?_))
    refine r_vret dX12_readAtom_83 rfl (Nat.le_of_ble_eq_true rfl) (Nat.le_of_ble_eq_true rfl) ?_
    refine hQ _ (frM_tr (frM_tr (frM_su o9 (by decide) (by decide)) (frM_su o70 (by decide) (by decide))) (frM_su o80 (by decide) (by decide))) (by rw [o80.2.2 16 (by decide), o70.2.2 16 (by decide)]; exact d9) (psM_of a70 (o80.2.2 8 (by decide)) (o80.2.2 9 (by decide)) (o80.2.2 10 (by decide)) (o80.2.2 11 (by decide)) (o80.2.2 12 (by decide)) (o80.2.2 13 (by decide))) (fun _ => okM_cg (okM_one (by omega) a80 b80 c80 ?_) w3 rfl)
    unfold rfO
    rw [if_pos (by omega)]
    omega
  · have hv : atP B n (if lm = 5 then 8 else 6) 0 p = (baP B n p, p, []) := hv0.trans (a1_bad h2 hf)
    rw [hv] at hQ
    have hba := ba_bd (B := B) (n := n) (s := p)
    have hnu : nuH B n 999 p = (baP B n p, p, 0) := by unfold nuH; rw [if_neg h2]
    refine r_aloadR0 dX12_readAtom_0 ?_
    refine m_getV (x := (f A 12)) zf_RX12_112 rfl dX12_readAtom_1 (shM_k hs) (rfl) ?_
    refine t_ifeq (t := 8) dX12_readAtom_4 (by decide) (fun h4 => ?_) (fun h4 => False.elim (by omega))
    refine r_aloadR0 dX12_readAtom_8 ?_
    refine q_callV0 zm_RX12_206 dX12_readAtom_9 (shM_k hs) (by decide) rfl (Nat.le_of_ble_eq_true rfl) (Nat.le_of_ble_eq_true rfl) (Nat.le_of_ble_eq_true rfl) (Nat.le_of_ble_eq_true rfl) (Nat.le_of_ble_eq_true rfl) (s_X12_lawWord G hs kw hld htp hps hlm (fun r9 g9 o9 a9 b9 => ?_))
    have htp9 := tpM_of htp (o9.2.1 5 (by decide) (by decide) (by decide)) (o9.2.2 7 (by decide))
    have w2 : g9 (A + 2) = f (A + 2) := o9.2.1 2 (by decide) (by decide) (by decide)
    obtain ⟨e9_z, p9⟩ := b9 hf
    have n9 := p9.1
    have t9 := p9.2.1 rfl
    have k9 := t9.2.2.2.1
    have d9 : (g9 A 16).toInt = 6 := by rw [o9.2.2 16 (by decide)]; exact hd16
    refine r_istore1 dX12_readAtom_12 rfl ?_
    refine r_iload1 dX12_readAtom_13 ?_
    refine n_iconst dX12_readAtom_14 (by decide) (fun r14 e14_z => ?_)
    refine t_iceq (t := 29) dX12_readAtom_15 (by decide) (fun h15 => ?_) (fun h15 => False.elim (by omega))
    refine r_aloadR0 dX12_readAtom_29 ?_
    refine n_bipush dX12_readAtom_30 (by decide) (fun r30 e30 => ?_)
    refine q_callV1 zm_RX12_175 dX12_readAtom_32 (shM_k hs) (by decide) rfl (Nat.le_of_ble_eq_true rfl) (Nat.le_of_ble_eq_true rfl) (Nat.le_of_ble_eq_true rfl) (Nat.le_of_ble_eq_true rfl) (Nat.le_of_ble_eq_true rfl) (s_X12_isSign G hs (fun r32 e32 => ?_))
    refine t_ifeq (t := 65) dX12_readAtom_35 (by decide) (fun h35 => ?_) (fun h35 => False.elim (by omega))
    refine r_aloadR0 dX12_readAtom_65 ?_
    refine n_iconst dX12_readAtom_66 (by decide) (fun r66 e66 => ?_)
    refine n_sipush dX12_readAtom_67 (by decide) (fun r67 e67 => ?_)
    refine q_callV2 zm_RX12_209 dX12_readAtom_70 (shM_k hs) (by decide) rfl (Nat.le_of_ble_eq_true rfl) (Nat.le_of_ble_eq_true rfl) (Nat.le_of_ble_eq_true rfl) (Nat.le_of_ble_eq_true rfl) (Nat.le_of_ble_eq_true rfl) (s_X12_number (p := p) (h_z := 999) G hs htp9 p9 e66 e67 (fun r70 g70 o70 a70 b70 c70 => ?_))
    rw [hnu] at a70 c70
    have e70 : r70.toInt = 0 := c70 hba.1
    have nb : (g70 A 12).toInt ≠ 0 := by rw [a70.1]; have := hba.1; omega
    refine r_istore2 dX12_readAtom_73 rfl ?_
    refine r_aloadR0 dX12_readAtom_74 ?_
    refine n_sipush dX12_readAtom_75 (by decide) (fun r75 e75 => ?_)
    refine r_iload2 dX12_readAtom_78 ?_
    refine n_iadd dX12_readAtom_79 (by omega) (fun r79 e79 => ?_)
    refine q_callV1 zm_RX12_162 dX12_readAtom_80 (shM_k hs) (by decide) rfl (Nat.le_of_ble_eq_true rfl) (Nat.le_of_ble_eq_true rfl) (Nat.le_of_ble_eq_true rfl) (Nat.le_of_ble_eq_true rfl) (Nat.le_of_ble_eq_true rfl) (s_X12_laysStep_x G hs nb ?_)
    refine r_vret dX12_readAtom_83 rfl (Nat.le_of_ble_eq_true rfl) (Nat.le_of_ble_eq_true rfl) ?_
    exact hQ _ (frM_tr (frM_su o9 (by decide) (by decide)) (frM_su o70 (by decide) (by decide))) (by rw [o70.2.2 16 (by decide)]; exact d9) a70 (fun h_z => absurd h_z hba.1)
set_option maxHeartbeats 4000000 in
set_option maxRecDepth 100000 in
theorem s_X12_readTerm_0 {g : zGT} {w : zW} {f : Nat → Nat → Int32} {j : Nat → Nat → Int64} {A : Nat} {B : Nat → Nat} {n : Nat} {wa wv : Nat → Nat} {kq : Nat} {p lm la u : Nat} {Q : Option Value → zW → Prop} {QX : String → zW → Prop} (G : zGok g) (hs : shM w A) (kw : kWd g wa wv kq) (hld : kLd g wa) (htp : tpM B n f A) (hps : psM B n f A 0 p) (hd16 : (f A 16).toInt = 6) (hlm : (f A 17).toInt = (lm : Nat)) (hla : (f A 18).toInt = (la : Nat)) (hu : (f (A + 2) lm).toInt = (u : Nat)) (h5 : lm ≤ 5) (h29 : 209 ≤ la) (h99 : la ≤ 2009) (hup : u ≤ p) (hQ : ∀ f2_z, frM A [2] [8, 9, 10, 11, 12, 13, 16] f f2_z → (f2_z A 16).toInt = 6 → psM B n f2_z A (chP B n (atP B n (if lm = 5 then 8 else 6) 0) (opT B n) p).1 (chP B n (atP B n (if lm = 5 then 8 else 6) 0) (opT B n) p).2.1 → ((chP B n (atP B n (if lm = 5 then 8 else 6) 0) (opT B n) p).1 = 0 → okM f f2_z A lm la u (chP B n (atP B n (if lm = 5 then 8 else 6) 0) (opT B n) p).2.2) → Q none (zM w f2_z j)) : zC g 11 yX12_readTerm cX12_readTerm 1 none [.ref A] (zM w f j) (0, 0) Q QX := by
  refine zC_of G (by decide +kernel) (Nat.le_of_ble_eq_true rfl) ?_
  have ht := hps.2.1 rfl
  have h12 := hps.1
  have h900 := htp.2.1
  have hgd : ∀ s, s ≤ n → gdP n false (if lm = 5 then 8 else 6) (1 + 2 * 0) s ((atP B n (if lm = 5 then 8 else 6) 0) s) := gd_at (by split <;> decide) 0
  have lp : ∀ (mz : Nat) (f2_z : Nat → Nat → Int32) (k : Nat) (r : zPR), frM A [2] [8, 9, 10, 11, 12, 13, 16] f f2_z → (f2_z A 16).toInt = 6 → psM B n f2_z A r.1 r.2.1 → (r.1 = 0 → okM f f2_z A lm la u r.2.2) → (r.1 = 0 → p ≤ r.2.1 ∧ r.2.1 ≤ n ∧ r.2.2.length + p ≤ r.2.1) → (r.1 = 0 → n ≤ k + r.2.1) → lpP B n (atP B n (if lm = 5 then 8 else 6) 0) (opT B n) k r = chP B n (atP B n (if lm = 5 then 8 else 6) 0) (opT B n) p → k < mz → zR (zV g 11 yX12_readTerm 1 none (0, 0) Q QX) cX12_readTerm yX12_readTerm.cls 4 [some (.ref A)] [] (zM w f2_z j) (0, 0) := by
    intro mz
    induction mz with
    | zero =>
      intro f2_z k r ofr hd2 hp2 hk2 hg2 hnk hR hmz
      exact absurd hmz (Nat.not_lt_zero _)
    | succ mz ih =>
      intro f2_z k r ofr hd2 hp2 hk2 hg2 hnk hR hmz
      by_cases hr : r.1 = 0
      · have hk3 := hk2 hr
        obtain ⟨q1_z, q2_z, q3_z⟩ := hg2 hr
        have hnk3 := hnk hr
        have hps2 := hp2
        rw [hr] at hps2
        have ht2 := hps2.2.1 rfl
        have hb2 := hps2.1
        have hte2 := teP_le (B := B) ht2.1
        have htp2 := tpM_of htp (ofr.2.1 5 (by decide) (by decide) (by decide)) (ofr.2.2 7 (by decide))
        have h10 := ht2.2.2.2.1
        have hrk := rk4 (B := B) (n := n) (s := r.2.1) (c := 42) (by decide)
        by_cases hc_z : tkP B n r.2.1 = 42
        · have h10b := hrk.mpr hc_z
          have hop : opT B n r.2.1 = 2005 := if_pos hc_z
          have hop0 : opT B n r.2.1 ≠ 0 := by rw [hop]; decide
          have hln := tk_lt (B := B) (n := n) (s := r.2.1) (by rw [hc_z]; decide)
          obtain ⟨k2_z, rfl⟩ : ∃ k2_z, k = k2_z + 1 := ⟨k - 1, by omega⟩
          have hnx := nxP_gt (B := B) hln
          have gq := hgd _ hnx.2
          by_cases hq : ((atP B n (if lm = 5 then 8 else 6) 0) (nxP B n r.2.1)).1 = 0
          · obtain ⟨y1, y2, y3, y4⟩ := gq.1 hq
            refine r_aloadR0 dX12_readTerm_4 ?_
            refine n_bipush dX12_readTerm_5 (by decide) (fun r5 e5_z => ?_)
            refine q_callV1 zm_RX12_175 dX12_readTerm_7 (shM_k hs) (by decide) rfl (Nat.le_of_ble_eq_true rfl) (Nat.le_of_ble_eq_true rfl) (Nat.le_of_ble_eq_true rfl) (Nat.le_of_ble_eq_true rfl) (Nat.le_of_ble_eq_true rfl) (s_X12_isSign G hs (fun r7 e7_z => ?_))
            refine t_ifeq (t := 30) dX12_readTerm_10 (by decide) (fun h10 => False.elim (by omega)) (fun h10 => ?_)
            refine r_aloadR0 dX12_readTerm_13 ?_
            refine q_callV0 zm_RX12_131 dX12_readTerm_14 (shM_k hs) (by decide) rfl (Nat.le_of_ble_eq_true rfl) (Nat.le_of_ble_eq_true rfl) (Nat.le_of_ble_eq_true rfl) (Nat.le_of_ble_eq_true rfl) (Nat.le_of_ble_eq_true rfl) (s_X12_readsOn (p := teP B n r.2.1) G hs htp2 ht2.2.1 hte2 (fun g14 o14 t14 => ?_))
            have htp14 := tpM_of htp2 (o14.2.1 5 (by decide) (by decide) (by decide)) (o14.2.2 7 (by decide))
            have hp14 : psM B n g14 A 0 (nxP B n r.2.1) := ⟨by rw [o14.2.2 12 (by decide)]; exact hb2, fun _ => t14, fun h_z => absurd rfl h_z⟩
            have w14 : g14 (A + 2) = f2_z (A + 2) := o14.2.1 2 (by decide) (by decide) (by decide)
            refine r_aloadR0 dX12_readTerm_17 ?_
            refine q_callV0 zm_RX12_187 dX12_readTerm_18 (shM_k hs) (by decide) rfl (Nat.le_of_ble_eq_true rfl) (Nat.le_of_ble_eq_true rfl) (Nat.le_of_ble_eq_true rfl) (Nat.le_of_ble_eq_true rfl) (Nat.le_of_ble_eq_true rfl) (s_X12_readAtom_0 (lm := lm) (la := la) (u := u + r.2.2.length) G hs kw hld htp14 hp14 (by rw [o14.2.2 16 (by decide)]; exact hd2) (by rw [o14.2.2 17 (by decide), ofr.2.2 17 (by decide)]; exact hlm) (by rw [o14.2.2 18 (by decide), ofr.2.2 18 (by decide)]; exact hla) (by rw [w14]; exact hk3.1) h5 h29 h99 (by omega) (fun g18 o18 d18 p18 k18 => ?_))
            have of18 : frM A [2] [8, 9, 10, 11, 12, 13, 16] f g18 := frM_tr ofr (frM_tr (frM_su o14 (by decide) (by decide)) o18)
            refine r_aloadR0 dX12_readTerm_21 ?_
            refine n_bipush dX12_readTerm_22 (by decide) (fun r22 e22_z => ?_)
            refine q_callV1 zm_RX12_162 dX12_readTerm_24 (shM_k hs) (by decide) rfl (Nat.le_of_ble_eq_true rfl) (Nat.le_of_ble_eq_true rfl) (Nat.le_of_ble_eq_true rfl) (Nat.le_of_ble_eq_true rfl) (Nat.le_of_ble_eq_true rfl) (s_X12_laysStep (lm := lm) (la := la) (u := u + r.2.2.length + ((atP B n (if lm = 5 then 8 else 6) 0) (nxP B n r.2.1)).2.2.length) G hs (by have := p18.1; rw [hq] at this; exact this) (by rw [of18.2.2 17 (by decide)]; exact hlm) (by rw [of18.2.2 18 (by decide)]; exact hla) (k18 hq).1 h5 h29 (by omega) (fun g24 o24 a24 b24 c24 => ?_))
            refine r_goto (t := 4) dX12_readTerm_27 (by decide) ?_
            have hp18 := p18
            rw [hq] at hp18
            refine ih _ k2_z (0, ((atP B n (if lm = 5 then 8 else 6) 0) (nxP B n r.2.1)).2.1, r.2.2 ++ ((atP B n (if lm = 5 then 8 else 6) 0) (nxP B n r.2.1)).2.2 ++ [opT B n r.2.1]) (frM_tr of18 (frM_su o24 (by decide) (by decide))) (by rw [o24.2.2 16 (by decide)]; exact d18) (psM_of hp18 (o24.2.2 8 (by decide)) (o24.2.2 9 (by decide)) (o24.2.2 10 (by decide)) (o24.2.2 11 (by decide)) (o24.2.2 12 (by decide)) (o24.2.2 13 (by decide))) (fun _ => okM_ap (by omega) (by rw [List.length_append]; omega) (okM_ap (by omega) (by omega) hk3 (okM_cg (k18 hq) w14 rfl)) ?_) (fun _ => ?_) (fun _ => ?_) ?_ (by omega)
            · rw [List.length_append, ← Nat.add_assoc, hop]
              exact okM_one (by omega) a24 b24 c24 (by rw [e22_z]; rfl)
            · show p ≤ ((atP B n (if lm = 5 then 8 else 6) 0) (nxP B n r.2.1)).2.1 ∧ ((atP B n (if lm = 5 then 8 else 6) 0) (nxP B n r.2.1)).2.1 ≤ n ∧ (r.2.2 ++ ((atP B n (if lm = 5 then 8 else 6) 0) (nxP B n r.2.1)).2.2 ++ [opT B n r.2.1]).length + p ≤ ((atP B n (if lm = 5 then 8 else 6) 0) (nxP B n r.2.1)).2.1
              rw [List.length_append, List.length_append, List.length_singleton]
              omega
            · show n ≤ k2_z + ((atP B n (if lm = 5 then 8 else 6) 0) (nxP B n r.2.1)).2.1
              omega
            · exact (lpP_on hr hop0 hq).symm.trans hR
          · have nb : ∀ g : Nat → Nat → Int32, psM B n g A ((atP B n (if lm = 5 then 8 else 6) 0) (nxP B n r.2.1)).1 ((atP B n (if lm = 5 then 8 else 6) 0) (nxP B n r.2.1)).2.1 → (g A 12).toInt ≠ 0 := fun g h_z => by rw [h_z.1]; omega
            refine r_aloadR0 dX12_readTerm_4 ?_
            refine n_bipush dX12_readTerm_5 (by decide) (fun r5 e5_z => ?_)
            refine q_callV1 zm_RX12_175 dX12_readTerm_7 (shM_k hs) (by decide) rfl (Nat.le_of_ble_eq_true rfl) (Nat.le_of_ble_eq_true rfl) (Nat.le_of_ble_eq_true rfl) (Nat.le_of_ble_eq_true rfl) (Nat.le_of_ble_eq_true rfl) (s_X12_isSign G hs (fun r7 e7_z => ?_))
            refine t_ifeq (t := 30) dX12_readTerm_10 (by decide) (fun h10 => False.elim (by omega)) (fun h10 => ?_)
            refine r_aloadR0 dX12_readTerm_13 ?_
            refine q_callV0 zm_RX12_131 dX12_readTerm_14 (shM_k hs) (by decide) rfl (Nat.le_of_ble_eq_true rfl) (Nat.le_of_ble_eq_true rfl) (Nat.le_of_ble_eq_true rfl) (Nat.le_of_ble_eq_true rfl) (Nat.le_of_ble_eq_true rfl) (s_X12_readsOn (p := teP B n r.2.1) G hs htp2 ht2.2.1 hte2 (fun g14 o14 t14 => ?_))
            have htp14 := tpM_of htp2 (o14.2.1 5 (by decide) (by decide) (by decide)) (o14.2.2 7 (by decide))
            have hp14 : psM B n g14 A 0 (nxP B n r.2.1) := ⟨by rw [o14.2.2 12 (by decide)]; exact hb2, fun _ => t14, fun h_z => absurd rfl h_z⟩
            have w14 : g14 (A + 2) = f2_z (A + 2) := o14.2.1 2 (by decide) (by decide) (by decide)
            refine r_aloadR0 dX12_readTerm_17 ?_
            refine q_callV0 zm_RX12_187 dX12_readTerm_18 (shM_k hs) (by decide) rfl (Nat.le_of_ble_eq_true rfl) (Nat.le_of_ble_eq_true rfl) (Nat.le_of_ble_eq_true rfl) (Nat.le_of_ble_eq_true rfl) (Nat.le_of_ble_eq_true rfl) (s_X12_readAtom_0 (lm := lm) (la := la) (u := u + r.2.2.length) G hs kw hld htp14 hp14 (by rw [o14.2.2 16 (by decide)]; exact hd2) (by rw [o14.2.2 17 (by decide), ofr.2.2 17 (by decide)]; exact hlm) (by rw [o14.2.2 18 (by decide), ofr.2.2 18 (by decide)]; exact hla) (by rw [w14]; exact hk3.1) h5 h29 h99 (by omega) (fun g18 o18 d18 p18 k18 => ?_))
            have of18 : frM A [2] [8, 9, 10, 11, 12, 13, 16] f g18 := frM_tr ofr (frM_tr (frM_su o14 (by decide) (by decide)) o18)
            refine r_aloadR0 dX12_readTerm_21 ?_
            refine n_bipush dX12_readTerm_22 (by decide) (fun r22 e22_z => ?_)
            refine q_callV1 zm_RX12_162 dX12_readTerm_24 (shM_k hs) (by decide) rfl (Nat.le_of_ble_eq_true rfl) (Nat.le_of_ble_eq_true rfl) (Nat.le_of_ble_eq_true rfl) (Nat.le_of_ble_eq_true rfl) (Nat.le_of_ble_eq_true rfl) (s_X12_laysStep_x G hs (nb _ p18) ?_)
            refine r_goto (t := 4) dX12_readTerm_27 (by decide) ?_
            exact ih _ k2_z ((atP B n (if lm = 5 then 8 else 6) 0) (nxP B n r.2.1)) of18 d18 p18 (fun h_z => absurd h_z hq) (fun h_z => absurd h_z hq) (fun h_z => absurd h_z hq) ((lpP_bad hq).trans ((lpP_sub hr hop0 hq).symm.trans hR)) (by omega)
        · have h10b : rkP B n r.2.1 ≠ 42 := fun h_z => hc_z (hrk.mp h_z)
          have hop : opT B n r.2.1 = 0 := if_neg hc_z
          have hv := (lpP_end (B := B) (n := n) (k := k) (sub := (atP B n (if lm = 5 then 8 else 6) 0)) hop).symm.trans hR
          refine r_aloadR0 dX12_readTerm_4 ?_
          refine n_bipush dX12_readTerm_5 (by decide) (fun r5 e5_z => ?_)
          refine q_callV1 zm_RX12_175 dX12_readTerm_7 (shM_k hs) (by decide) rfl (Nat.le_of_ble_eq_true rfl) (Nat.le_of_ble_eq_true rfl) (Nat.le_of_ble_eq_true rfl) (Nat.le_of_ble_eq_true rfl) (Nat.le_of_ble_eq_true rfl) (s_X12_isSign G hs (fun r7 e7_z => ?_))
          refine t_ifeq (t := 30) dX12_readTerm_10 (by decide) (fun h10 => ?_) (fun h10 => False.elim (by omega))
          refine r_vret dX12_readTerm_30 rfl (Nat.le_of_ble_eq_true rfl) (Nat.le_of_ble_eq_true rfl) ?_
          rw [← hv] at hQ
          exact hQ _ ofr hd2 hp2 hk2
      · have hb2 : (f2_z A 12).toInt ≠ 0 := by rw [hp2.1]; omega
        have hv := (lpP_bad (B := B) (n := n) (k := k) (sub := (atP B n (if lm = 5 then 8 else 6) 0)) (op := opT B n) hr).symm.trans hR
        refine r_aloadR0 dX12_readTerm_4 ?_
        refine n_bipush dX12_readTerm_5 (by decide) (fun r5 e5_z => ?_)
        refine q_callV1 zm_RX12_175 dX12_readTerm_7 (shM_k hs) (by decide) rfl (Nat.le_of_ble_eq_true rfl) (Nat.le_of_ble_eq_true rfl) (Nat.le_of_ble_eq_true rfl) (Nat.le_of_ble_eq_true rfl) (Nat.le_of_ble_eq_true rfl) (s_X12_isSign G hs (fun r7 e7_z => ?_))
        refine t_ifeq (t := 30) dX12_readTerm_10 (by decide) (fun h10 => ?_) (fun h10 => False.elim (by omega))
        refine r_vret dX12_readTerm_30 rfl (Nat.le_of_ble_eq_true rfl) (Nat.le_of_ble_eq_true rfl) ?_
        rw [← hv] at hQ
        exact hQ _ ofr hd2 hp2 hk2
  refine r_aloadR0 dX12_readTerm_0 ?_
  refine q_callV0 zm_RX12_187 dX12_readTerm_1 (shM_k hs) (by decide) rfl (Nat.le_of_ble_eq_true rfl) (Nat.le_of_ble_eq_true rfl) (Nat.le_of_ble_eq_true rfl) (Nat.le_of_ble_eq_true rfl) (Nat.le_of_ble_eq_true rfl) (s_X12_readAtom_0 G hs kw hld htp hps hd16 hlm hla hu h5 h29 h99 hup (fun g1 o1 d1 p1 k1_z => ?_))
  have gp := hgd p ht.1
  exact lp _ g1 n ((atP B n (if lm = 5 then 8 else 6) 0) p) o1 d1 p1 k1_z (fun h_z => ⟨Nat.le_of_lt (gp.1 h_z).1, (gp.1 h_z).2.1, (gp.1 h_z).2.2.1⟩) (fun _ => Nat.le_add_right n _) rfl (Nat.lt_succ_self n)
set_option maxHeartbeats 4000000 in
set_option maxRecDepth 100000 in
theorem s_X12_readSum_0 {g : zGT} {w : zW} {f : Nat → Nat → Int32} {j : Nat → Nat → Int64} {A : Nat} {B : Nat → Nat} {n : Nat} {wa wv : Nat → Nat} {kq : Nat} {p lm la u : Nat} {Q : Option Value → zW → Prop} {QX : String → zW → Prop} (G : zGok g) (hs : shM w A) (kw : kWd g wa wv kq) (hld : kLd g wa) (htp : tpM B n f A) (hps : psM B n f A 0 p) (hd16 : (f A 16).toInt = 6) (hlm : (f A 17).toInt = (lm : Nat)) (hla : (f A 18).toInt = (la : Nat)) (hu : (f (A + 2) lm).toInt = (u : Nat)) (h5 : lm ≤ 5) (h29 : 209 ≤ la) (h99 : la ≤ 2009) (hup : u ≤ p) (hQ : ∀ f2_z, frM A [2] [8, 9, 10, 11, 12, 13, 16] f f2_z → (f2_z A 16).toInt = 6 → psM B n f2_z A (chP B n (chP B n (atP B n (if lm = 5 then 8 else 6) 0) (opT B n)) (opS B n) p).1 (chP B n (chP B n (atP B n (if lm = 5 then 8 else 6) 0) (opT B n)) (opS B n) p).2.1 → ((chP B n (chP B n (atP B n (if lm = 5 then 8 else 6) 0) (opT B n)) (opS B n) p).1 = 0 → okM f f2_z A lm la u (chP B n (chP B n (atP B n (if lm = 5 then 8 else 6) 0) (opT B n)) (opS B n) p).2.2) → Q none (zM w f2_z j)) : zC g 12 yX12_readSum cX12_readSum 2 none [.ref A] (zM w f j) (0, 0) Q QX := by
  refine zC_of G (by decide +kernel) (Nat.le_of_ble_eq_true rfl) ?_
  have ht := hps.2.1 rfl
  have h12 := hps.1
  have h900 := htp.2.1
  have hgd : ∀ s, s ≤ n → gdP n false (if lm = 5 then 8 else 6) (1 + 2 * 0 + 1) s ((chP B n (atP B n (if lm = 5 then 8 else 6) 0) (opT B n)) s) := fun s hs9 => gd_ch (gd_at (by split <;> decide) 0) hop_T hs9
  have lp : ∀ (mz : Nat) (f2_z : Nat → Nat → Int32) (k : Nat) (r : zPR) (v1_ : Option Value), frM A [2] [8, 9, 10, 11, 12, 13, 16] f f2_z → (f2_z A 16).toInt = 6 → psM B n f2_z A r.1 r.2.1 → (r.1 = 0 → okM f f2_z A lm la u r.2.2) → (r.1 = 0 → p ≤ r.2.1 ∧ r.2.1 ≤ n ∧ r.2.2.length + p ≤ r.2.1) → (r.1 = 0 → n ≤ k + r.2.1) → lpP B n (chP B n (atP B n (if lm = 5 then 8 else 6) 0) (opT B n)) (opS B n) k r = chP B n (chP B n (atP B n (if lm = 5 then 8 else 6) 0) (opT B n)) (opS B n) p → k < mz → zR (zV g 12 yX12_readSum 2 none (0, 0) Q QX) cX12_readSum yX12_readSum.cls 4 [some (.ref A), v1_] [] (zM w f2_z j) (0, 0) := by
    intro mz
    induction mz with
    | zero =>
      intro f2_z k r v1_ ofr hd2 hp2 hk2 hg2 hnk hR hmz
      exact absurd hmz (Nat.not_lt_zero _)
    | succ mz ih =>
      intro f2_z k r v1_ ofr hd2 hp2 hk2 hg2 hnk hR hmz
      by_cases hr : r.1 = 0
      · have hk3 := hk2 hr
        obtain ⟨q1_z, q2_z, q3_z⟩ := hg2 hr
        have hnk3 := hnk hr
        have hps2 := hp2
        rw [hr] at hps2
        have ht2 := hps2.2.1 rfl
        have hb2 := hps2.1
        have hte2 := teP_le (B := B) ht2.1
        have htp2 := tpM_of htp (ofr.2.1 5 (by decide) (by decide) (by decide)) (ofr.2.2 7 (by decide))
        have h10 := ht2.2.2.2.1
        have hrk := rk4 (B := B) (n := n) (s := r.2.1) (c := 43) (by decide)
        have hrm := rk4 (B := B) (n := n) (s := r.2.1) (c := 45) (by decide)
        by_cases hc_z : tkP B n r.2.1 = 43
        · have h10b := hrk.mpr hc_z
          have hop : opS B n r.2.1 = 2003 := if_pos hc_z
          have hop0 : opS B n r.2.1 ≠ 0 := by rw [hop]; decide
          have hln := tk_lt (B := B) (n := n) (s := r.2.1) (by rw [hc_z]; decide)
          obtain ⟨k2_z, rfl⟩ : ∃ k2_z, k = k2_z + 1 := ⟨k - 1, by omega⟩
          have hnx := nxP_gt (B := B) hln
          have gq := hgd _ hnx.2
          by_cases hq : ((chP B n (atP B n (if lm = 5 then 8 else 6) 0) (opT B n)) (nxP B n r.2.1)).1 = 0
          · obtain ⟨y1, y2, y3, y4⟩ := gq.1 hq
            refine r_aloadR0 dX12_readSum_4 ?_
            refine n_bipush dX12_readSum_5 (by decide) (fun r5 e5_z => ?_)
            refine q_callV1 zm_RX12_175 dX12_readSum_7 (shM_k hs) (by decide) rfl (Nat.le_of_ble_eq_true rfl) (Nat.le_of_ble_eq_true rfl) (Nat.le_of_ble_eq_true rfl) (Nat.le_of_ble_eq_true rfl) (Nat.le_of_ble_eq_true rfl) (s_X12_isSign G hs (fun r7 e7_z => ?_))
            refine t_ifne (t := 22) dX12_readSum_10 (by decide) (fun h10 => ?_) (fun h10 => False.elim (by omega))
            refine r_aloadR0 dX12_readSum_22 ?_
            refine m_getV (x := (f2_z A 10)) zf_RX12_92 rfl dX12_readSum_23 (shM_k hs) (rfl) ?_
            refine r_istore1 dX12_readSum_26 rfl ?_
            refine r_aloadR0 dX12_readSum_27 ?_
            refine q_callV0 zm_RX12_131 dX12_readSum_28 (shM_k hs) (by decide) rfl (Nat.le_of_ble_eq_true rfl) (Nat.le_of_ble_eq_true rfl) (Nat.le_of_ble_eq_true rfl) (Nat.le_of_ble_eq_true rfl) (Nat.le_of_ble_eq_true rfl) (s_X12_readsOn (p := teP B n r.2.1) G hs htp2 ht2.2.1 hte2 (fun g28 o28 t28 => ?_))
            have htp28 := tpM_of htp2 (o28.2.1 5 (by decide) (by decide) (by decide)) (o28.2.2 7 (by decide))
            have hp28 : psM B n g28 A 0 (nxP B n r.2.1) := ⟨by rw [o28.2.2 12 (by decide)]; exact hb2, fun _ => t28, fun h_z => absurd rfl h_z⟩
            have w28 : g28 (A + 2) = f2_z (A + 2) := o28.2.1 2 (by decide) (by decide) (by decide)
            refine r_aloadR0 dX12_readSum_31 ?_
            refine q_callV0 zm_RX12_184 dX12_readSum_32 (shM_k hs) (by decide) rfl (Nat.le_of_ble_eq_true rfl) (Nat.le_of_ble_eq_true rfl) (Nat.le_of_ble_eq_true rfl) (Nat.le_of_ble_eq_true rfl) (Nat.le_of_ble_eq_true rfl) (s_X12_readTerm_0 (lm := lm) (la := la) (u := u + r.2.2.length) G hs kw hld htp28 hp28 (by rw [o28.2.2 16 (by decide)]; exact hd2) (by rw [o28.2.2 17 (by decide), ofr.2.2 17 (by decide)]; exact hlm) (by rw [o28.2.2 18 (by decide), ofr.2.2 18 (by decide)]; exact hla) (by rw [w28]; exact hk3.1) h5 h29 h99 (by omega) (fun g32 o32 d32 p32 k32 => ?_))
            have of32 : frM A [2] [8, 9, 10, 11, 12, 13, 16] f g32 := frM_tr ofr (frM_tr (frM_su o28 (by decide) (by decide)) o32)
            refine r_aloadR0 dX12_readSum_35 ?_
            refine r_iload1 dX12_readSum_36 ?_
            refine n_bipush dX12_readSum_37 (by decide) (fun r37 e37 => ?_)
            refine t_icne (t := 47) dX12_readSum_39 (by decide) (fun h39 => False.elim (by omega)) (fun h39 => ?_)
            refine n_bipush dX12_readSum_42 (by decide) (fun r42 e42_z => ?_)
            refine r_goto (t := 49) dX12_readSum_44 (by decide) ?_
            refine q_callV1 zm_RX12_162 dX12_readSum_49 (shM_k hs) (by decide) rfl (Nat.le_of_ble_eq_true rfl) (Nat.le_of_ble_eq_true rfl) (Nat.le_of_ble_eq_true rfl) (Nat.le_of_ble_eq_true rfl) (Nat.le_of_ble_eq_true rfl) (s_X12_laysStep (lm := lm) (la := la) (u := u + r.2.2.length + ((chP B n (atP B n (if lm = 5 then 8 else 6) 0) (opT B n)) (nxP B n r.2.1)).2.2.length) G hs (by have := p32.1; rw [hq] at this; exact this) (by rw [of32.2.2 17 (by decide)]; exact hlm) (by rw [of32.2.2 18 (by decide)]; exact hla) (k32 hq).1 h5 h29 (by omega) (fun g49 o49 a49 b49 c49 => ?_))
            refine r_goto (t := 4) dX12_readSum_52 (by decide) ?_
            have hp32 := p32
            rw [hq] at hp32
            refine ih _ k2_z (0, ((chP B n (atP B n (if lm = 5 then 8 else 6) 0) (opT B n)) (nxP B n r.2.1)).2.1, r.2.2 ++ ((chP B n (atP B n (if lm = 5 then 8 else 6) 0) (opT B n)) (nxP B n r.2.1)).2.2 ++ [opS B n r.2.1]) _ (frM_tr of32 (frM_su o49 (by decide) (by decide))) (by rw [o49.2.2 16 (by decide)]; exact d32) (psM_of hp32 (o49.2.2 8 (by decide)) (o49.2.2 9 (by decide)) (o49.2.2 10 (by decide)) (o49.2.2 11 (by decide)) (o49.2.2 12 (by decide)) (o49.2.2 13 (by decide))) (fun _ => okM_ap (by omega) (by rw [List.length_append]; omega) (okM_ap (by omega) (by omega) hk3 (okM_cg (k32 hq) w28 rfl)) ?_) (fun _ => ?_) (fun _ => ?_) ?_ (by omega)
            · rw [List.length_append, ← Nat.add_assoc, hop]
              exact okM_one (by omega) a49 b49 c49 (by rw [e42_z]; rfl)
            · show p ≤ ((chP B n (atP B n (if lm = 5 then 8 else 6) 0) (opT B n)) (nxP B n r.2.1)).2.1 ∧ ((chP B n (atP B n (if lm = 5 then 8 else 6) 0) (opT B n)) (nxP B n r.2.1)).2.1 ≤ n ∧ (r.2.2 ++ ((chP B n (atP B n (if lm = 5 then 8 else 6) 0) (opT B n)) (nxP B n r.2.1)).2.2 ++ [opS B n r.2.1]).length + p ≤ ((chP B n (atP B n (if lm = 5 then 8 else 6) 0) (opT B n)) (nxP B n r.2.1)).2.1
              rw [List.length_append, List.length_append, List.length_singleton]
              omega
            · show n ≤ k2_z + ((chP B n (atP B n (if lm = 5 then 8 else 6) 0) (opT B n)) (nxP B n r.2.1)).2.1
              omega
            · exact (lpP_on hr hop0 hq).symm.trans hR
          · have nb : ∀ g : Nat → Nat → Int32, psM B n g A ((chP B n (atP B n (if lm = 5 then 8 else 6) 0) (opT B n)) (nxP B n r.2.1)).1 ((chP B n (atP B n (if lm = 5 then 8 else 6) 0) (opT B n)) (nxP B n r.2.1)).2.1 → (g A 12).toInt ≠ 0 := fun g h_z => by rw [h_z.1]; omega
            refine r_aloadR0 dX12_readSum_4 ?_
            refine n_bipush dX12_readSum_5 (by decide) (fun r5 e5_z => ?_)
            refine q_callV1 zm_RX12_175 dX12_readSum_7 (shM_k hs) (by decide) rfl (Nat.le_of_ble_eq_true rfl) (Nat.le_of_ble_eq_true rfl) (Nat.le_of_ble_eq_true rfl) (Nat.le_of_ble_eq_true rfl) (Nat.le_of_ble_eq_true rfl) (s_X12_isSign G hs (fun r7 e7_z => ?_))
            refine t_ifne (t := 22) dX12_readSum_10 (by decide) (fun h10 => ?_) (fun h10 => False.elim (by omega))
            refine r_aloadR0 dX12_readSum_22 ?_
            refine m_getV (x := (f2_z A 10)) zf_RX12_92 rfl dX12_readSum_23 (shM_k hs) (rfl) ?_
            refine r_istore1 dX12_readSum_26 rfl ?_
            refine r_aloadR0 dX12_readSum_27 ?_
            refine q_callV0 zm_RX12_131 dX12_readSum_28 (shM_k hs) (by decide) rfl (Nat.le_of_ble_eq_true rfl) (Nat.le_of_ble_eq_true rfl) (Nat.le_of_ble_eq_true rfl) (Nat.le_of_ble_eq_true rfl) (Nat.le_of_ble_eq_true rfl) (s_X12_readsOn (p := teP B n r.2.1) G hs htp2 ht2.2.1 hte2 (fun g28 o28 t28 => ?_))
            have htp28 := tpM_of htp2 (o28.2.1 5 (by decide) (by decide) (by decide)) (o28.2.2 7 (by decide))
            have hp28 : psM B n g28 A 0 (nxP B n r.2.1) := ⟨by rw [o28.2.2 12 (by decide)]; exact hb2, fun _ => t28, fun h_z => absurd rfl h_z⟩
            have w28 : g28 (A + 2) = f2_z (A + 2) := o28.2.1 2 (by decide) (by decide) (by decide)
            refine r_aloadR0 dX12_readSum_31 ?_
            refine q_callV0 zm_RX12_184 dX12_readSum_32 (shM_k hs) (by decide) rfl (Nat.le_of_ble_eq_true rfl) (Nat.le_of_ble_eq_true rfl) (Nat.le_of_ble_eq_true rfl) (Nat.le_of_ble_eq_true rfl) (Nat.le_of_ble_eq_true rfl) (s_X12_readTerm_0 (lm := lm) (la := la) (u := u + r.2.2.length) G hs kw hld htp28 hp28 (by rw [o28.2.2 16 (by decide)]; exact hd2) (by rw [o28.2.2 17 (by decide), ofr.2.2 17 (by decide)]; exact hlm) (by rw [o28.2.2 18 (by decide), ofr.2.2 18 (by decide)]; exact hla) (by rw [w28]; exact hk3.1) h5 h29 h99 (by omega) (fun g32 o32 d32 p32 k32 => ?_))
            have of32 : frM A [2] [8, 9, 10, 11, 12, 13, 16] f g32 := frM_tr ofr (frM_tr (frM_su o28 (by decide) (by decide)) o32)
            refine r_aloadR0 dX12_readSum_35 ?_
            refine r_iload1 dX12_readSum_36 ?_
            refine n_bipush dX12_readSum_37 (by decide) (fun r37 e37 => ?_)
            refine t_icne (t := 47) dX12_readSum_39 (by decide) (fun h39 => False.elim (by omega)) (fun h39 => ?_)
            refine n_bipush dX12_readSum_42 (by decide) (fun r42 e42_z => ?_)
            refine r_goto (t := 49) dX12_readSum_44 (by decide) ?_
            refine q_callV1 zm_RX12_162 dX12_readSum_49 (shM_k hs) (by decide) rfl (Nat.le_of_ble_eq_true rfl) (Nat.le_of_ble_eq_true rfl) (Nat.le_of_ble_eq_true rfl) (Nat.le_of_ble_eq_true rfl) (Nat.le_of_ble_eq_true rfl) (s_X12_laysStep_x G hs (nb _ p32) ?_)
            refine r_goto (t := 4) dX12_readSum_52 (by decide) ?_
            exact ih _ k2_z ((chP B n (atP B n (if lm = 5 then 8 else 6) 0) (opT B n)) (nxP B n r.2.1)) _ of32 d32 p32 (fun h_z => absurd h_z hq) (fun h_z => absurd h_z hq) (fun h_z => absurd h_z hq) ((lpP_bad hq).trans ((lpP_sub hr hop0 hq).symm.trans hR)) (by omega)
        have hcn := hc_z
        have hc43 : rkP B n r.2.1 ≠ 43 := fun h_z => hc_z (hrk.mp h_z)
        clear hc_z
        by_cases hc_z : tkP B n r.2.1 = 45
        · have h10b := hrm.mpr hc_z
          have hop : opS B n r.2.1 = 2004 := (if_neg (by omega)).trans (if_pos hc_z)
          have hop0 : opS B n r.2.1 ≠ 0 := by rw [hop]; decide
          have hln := tk_lt (B := B) (n := n) (s := r.2.1) (by rw [hc_z]; decide)
          obtain ⟨k2_z, rfl⟩ : ∃ k2_z, k = k2_z + 1 := ⟨k - 1, by omega⟩
          have hnx := nxP_gt (B := B) hln
          have gq := hgd _ hnx.2
          by_cases hq : ((chP B n (atP B n (if lm = 5 then 8 else 6) 0) (opT B n)) (nxP B n r.2.1)).1 = 0
          · obtain ⟨y1, y2, y3, y4⟩ := gq.1 hq
            refine r_aloadR0 dX12_readSum_4 ?_
            refine n_bipush dX12_readSum_5 (by decide) (fun r5 e5_z => ?_)
            refine q_callV1 zm_RX12_175 dX12_readSum_7 (shM_k hs) (by decide) rfl (Nat.le_of_ble_eq_true rfl) (Nat.le_of_ble_eq_true rfl) (Nat.le_of_ble_eq_true rfl) (Nat.le_of_ble_eq_true rfl) (Nat.le_of_ble_eq_true rfl) (s_X12_isSign G hs (fun r7 e7_z => ?_))
            refine t_ifne (t := 22) dX12_readSum_10 (by decide) (fun h10 => False.elim (by omega)) (fun h10 => ?_)
            refine r_aloadR0 dX12_readSum_13 ?_
            refine n_bipush dX12_readSum_14 (by decide) (fun r14 e14_z => ?_)
            refine q_callV1 zm_RX12_175 dX12_readSum_16 (shM_k hs) (by decide) rfl (Nat.le_of_ble_eq_true rfl) (Nat.le_of_ble_eq_true rfl) (Nat.le_of_ble_eq_true rfl) (Nat.le_of_ble_eq_true rfl) (Nat.le_of_ble_eq_true rfl) (s_X12_isSign G hs (fun r16 e16_z => ?_))
            refine t_ifeq (t := 55) dX12_readSum_19 (by decide) (fun h19 => False.elim (by omega)) (fun h19 => ?_)
            refine r_aloadR0 dX12_readSum_22 ?_
            refine m_getV (x := (f2_z A 10)) zf_RX12_92 rfl dX12_readSum_23 (shM_k hs) (rfl) ?_
            refine r_istore1 dX12_readSum_26 rfl ?_
            refine r_aloadR0 dX12_readSum_27 ?_
            refine q_callV0 zm_RX12_131 dX12_readSum_28 (shM_k hs) (by decide) rfl (Nat.le_of_ble_eq_true rfl) (Nat.le_of_ble_eq_true rfl) (Nat.le_of_ble_eq_true rfl) (Nat.le_of_ble_eq_true rfl) (Nat.le_of_ble_eq_true rfl) (s_X12_readsOn (p := teP B n r.2.1) G hs htp2 ht2.2.1 hte2 (fun g28 o28 t28 => ?_))
            have htp28 := tpM_of htp2 (o28.2.1 5 (by decide) (by decide) (by decide)) (o28.2.2 7 (by decide))
            have hp28 : psM B n g28 A 0 (nxP B n r.2.1) := ⟨by rw [o28.2.2 12 (by decide)]; exact hb2, fun _ => t28, fun h_z => absurd rfl h_z⟩
            have w28 : g28 (A + 2) = f2_z (A + 2) := o28.2.1 2 (by decide) (by decide) (by decide)
            refine r_aloadR0 dX12_readSum_31 ?_
            refine q_callV0 zm_RX12_184 dX12_readSum_32 (shM_k hs) (by decide) rfl (Nat.le_of_ble_eq_true rfl) (Nat.le_of_ble_eq_true rfl) (Nat.le_of_ble_eq_true rfl) (Nat.le_of_ble_eq_true rfl) (Nat.le_of_ble_eq_true rfl) (s_X12_readTerm_0 (lm := lm) (la := la) (u := u + r.2.2.length) G hs kw hld htp28 hp28 (by rw [o28.2.2 16 (by decide)]; exact hd2) (by rw [o28.2.2 17 (by decide), ofr.2.2 17 (by decide)]; exact hlm) (by rw [o28.2.2 18 (by decide), ofr.2.2 18 (by decide)]; exact hla) (by rw [w28]; exact hk3.1) h5 h29 h99 (by omega) (fun g32 o32 d32 p32 k32 => ?_))
            have of32 : frM A [2] [8, 9, 10, 11, 12, 13, 16] f g32 := frM_tr ofr (frM_tr (frM_su o28 (by decide) (by decide)) o32)
            refine r_aloadR0 dX12_readSum_35 ?_
            refine r_iload1 dX12_readSum_36 ?_
            refine n_bipush dX12_readSum_37 (by decide) (fun r37 e37 => ?_)
            refine t_icne (t := 47) dX12_readSum_39 (by decide) (fun h39 => ?_) (fun h39 => False.elim (by omega))
            refine n_bipush dX12_readSum_47 (by decide) (fun r47 e47 => ?_)
            refine q_callV1 zm_RX12_162 dX12_readSum_49 (shM_k hs) (by decide) rfl (Nat.le_of_ble_eq_true rfl) (Nat.le_of_ble_eq_true rfl) (Nat.le_of_ble_eq_true rfl) (Nat.le_of_ble_eq_true rfl) (Nat.le_of_ble_eq_true rfl) (s_X12_laysStep (lm := lm) (la := la) (u := u + r.2.2.length + ((chP B n (atP B n (if lm = 5 then 8 else 6) 0) (opT B n)) (nxP B n r.2.1)).2.2.length) G hs (by have := p32.1; rw [hq] at this; exact this) (by rw [of32.2.2 17 (by decide)]; exact hlm) (by rw [of32.2.2 18 (by decide)]; exact hla) (k32 hq).1 h5 h29 (by omega) (fun g49 o49 a49 b49 c49 => ?_))
            refine r_goto (t := 4) dX12_readSum_52 (by decide) ?_
            have hp32 := p32
            rw [hq] at hp32
            refine ih _ k2_z (0, ((chP B n (atP B n (if lm = 5 then 8 else 6) 0) (opT B n)) (nxP B n r.2.1)).2.1, r.2.2 ++ ((chP B n (atP B n (if lm = 5 then 8 else 6) 0) (opT B n)) (nxP B n r.2.1)).2.2 ++ [opS B n r.2.1]) _ (frM_tr of32 (frM_su o49 (by decide) (by decide))) (by rw [o49.2.2 16 (by decide)]; exact d32) (psM_of hp32 (o49.2.2 8 (by decide)) (o49.2.2 9 (by decide)) (o49.2.2 10 (by decide)) (o49.2.2 11 (by decide)) (o49.2.2 12 (by decide)) (o49.2.2 13 (by decide))) (fun _ => okM_ap (by omega) (by rw [List.length_append]; omega) (okM_ap (by omega) (by omega) hk3 (okM_cg (k32 hq) w28 rfl)) ?_) (fun _ => ?_) (fun _ => ?_) ?_ (by omega)
            · rw [List.length_append, ← Nat.add_assoc, hop]
              exact okM_one (by omega) a49 b49 c49 (by rw [e47]; rfl)
            · show p ≤ ((chP B n (atP B n (if lm = 5 then 8 else 6) 0) (opT B n)) (nxP B n r.2.1)).2.1 ∧ ((chP B n (atP B n (if lm = 5 then 8 else 6) 0) (opT B n)) (nxP B n r.2.1)).2.1 ≤ n ∧ (r.2.2 ++ ((chP B n (atP B n (if lm = 5 then 8 else 6) 0) (opT B n)) (nxP B n r.2.1)).2.2 ++ [opS B n r.2.1]).length + p ≤ ((chP B n (atP B n (if lm = 5 then 8 else 6) 0) (opT B n)) (nxP B n r.2.1)).2.1
              rw [List.length_append, List.length_append, List.length_singleton]
              omega
            · show n ≤ k2_z + ((chP B n (atP B n (if lm = 5 then 8 else 6) 0) (opT B n)) (nxP B n r.2.1)).2.1
              omega
            · exact (lpP_on hr hop0 hq).symm.trans hR
          · have nb : ∀ g : Nat → Nat → Int32, psM B n g A ((chP B n (atP B n (if lm = 5 then 8 else 6) 0) (opT B n)) (nxP B n r.2.1)).1 ((chP B n (atP B n (if lm = 5 then 8 else 6) 0) (opT B n)) (nxP B n r.2.1)).2.1 → (g A 12).toInt ≠ 0 := fun g h_z => by rw [h_z.1]; omega
            refine r_aloadR0 dX12_readSum_4 ?_
            refine n_bipush dX12_readSum_5 (by decide) (fun r5 e5_z => ?_)
            refine q_callV1 zm_RX12_175 dX12_readSum_7 (shM_k hs) (by decide) rfl (Nat.le_of_ble_eq_true rfl) (Nat.le_of_ble_eq_true rfl) (Nat.le_of_ble_eq_true rfl) (Nat.le_of_ble_eq_true rfl) (Nat.le_of_ble_eq_true rfl) (s_X12_isSign G hs (fun r7 e7_z => ?_))
            refine t_ifne (t := 22) dX12_readSum_10 (by decide) (fun h10 => False.elim (by omega)) (fun h10 => ?_)
            refine r_aloadR0 dX12_readSum_13 ?_
            refine n_bipush dX12_readSum_14 (by decide) (fun r14 e14_z => ?_)
            refine q_callV1 zm_RX12_175 dX12_readSum_16 (shM_k hs) (by decide) rfl (Nat.le_of_ble_eq_true rfl) (Nat.le_of_ble_eq_true rfl) (Nat.le_of_ble_eq_true rfl) (Nat.le_of_ble_eq_true rfl) (Nat.le_of_ble_eq_true rfl) (s_X12_isSign G hs (fun r16 e16_z => ?_))
            refine t_ifeq (t := 55) dX12_readSum_19 (by decide) (fun h19 => False.elim (by omega)) (fun h19 => ?_)
            refine r_aloadR0 dX12_readSum_22 ?_
            refine m_getV (x := (f2_z A 10)) zf_RX12_92 rfl dX12_readSum_23 (shM_k hs) (rfl) ?_
            refine r_istore1 dX12_readSum_26 rfl ?_
            refine r_aloadR0 dX12_readSum_27 ?_
            refine q_callV0 zm_RX12_131 dX12_readSum_28 (shM_k hs) (by decide) rfl (Nat.le_of_ble_eq_true rfl) (Nat.le_of_ble_eq_true rfl) (Nat.le_of_ble_eq_true rfl) (Nat.le_of_ble_eq_true rfl) (Nat.le_of_ble_eq_true rfl) (s_X12_readsOn (p := teP B n r.2.1) G hs htp2 ht2.2.1 hte2 (fun g28 o28 t28 => ?_))
            have htp28 := tpM_of htp2 (o28.2.1 5 (by decide) (by decide) (by decide)) (o28.2.2 7 (by decide))
            have hp28 : psM B n g28 A 0 (nxP B n r.2.1) := ⟨by rw [o28.2.2 12 (by decide)]; exact hb2, fun _ => t28, fun h_z => absurd rfl h_z⟩
            have w28 : g28 (A + 2) = f2_z (A + 2) := o28.2.1 2 (by decide) (by decide) (by decide)
            refine r_aloadR0 dX12_readSum_31 ?_
            refine q_callV0 zm_RX12_184 dX12_readSum_32 (shM_k hs) (by decide) rfl (Nat.le_of_ble_eq_true rfl) (Nat.le_of_ble_eq_true rfl) (Nat.le_of_ble_eq_true rfl) (Nat.le_of_ble_eq_true rfl) (Nat.le_of_ble_eq_true rfl) (s_X12_readTerm_0 (lm := lm) (la := la) (u := u + r.2.2.length) G hs kw hld htp28 hp28 (by rw [o28.2.2 16 (by decide)]; exact hd2) (by rw [o28.2.2 17 (by decide), ofr.2.2 17 (by decide)]; exact hlm) (by rw [o28.2.2 18 (by decide), ofr.2.2 18 (by decide)]; exact hla) (by rw [w28]; exact hk3.1) h5 h29 h99 (by omega) (fun g32 o32 d32 p32 k32 => ?_))
            have of32 : frM A [2] [8, 9, 10, 11, 12, 13, 16] f g32 := frM_tr ofr (frM_tr (frM_su o28 (by decide) (by decide)) o32)
            refine r_aloadR0 dX12_readSum_35 ?_
            refine r_iload1 dX12_readSum_36 ?_
            refine n_bipush dX12_readSum_37 (by decide) (fun r37 e37 => ?_)
            refine t_icne (t := 47) dX12_readSum_39 (by decide) (fun h39 => ?_) (fun h39 => False.elim (by omega))
            refine n_bipush dX12_readSum_47 (by decide) (fun r47 e47 => ?_)
            refine q_callV1 zm_RX12_162 dX12_readSum_49 (shM_k hs) (by decide) rfl (Nat.le_of_ble_eq_true rfl) (Nat.le_of_ble_eq_true rfl) (Nat.le_of_ble_eq_true rfl) (Nat.le_of_ble_eq_true rfl) (Nat.le_of_ble_eq_true rfl) (s_X12_laysStep_x G hs (nb _ p32) ?_)
            refine r_goto (t := 4) dX12_readSum_52 (by decide) ?_
            exact ih _ k2_z ((chP B n (atP B n (if lm = 5 then 8 else 6) 0) (opT B n)) (nxP B n r.2.1)) _ of32 d32 p32 (fun h_z => absurd h_z hq) (fun h_z => absurd h_z hq) (fun h_z => absurd h_z hq) ((lpP_bad hq).trans ((lpP_sub hr hop0 hq).symm.trans hR)) (by omega)
        have hc45 : rkP B n r.2.1 ≠ 45 := fun h_z => hc_z (hrm.mp h_z)
        have hop : opS B n r.2.1 = 0 := (if_neg hcn).trans (if_neg hc_z)
        have hv := (lpP_end (B := B) (n := n) (k := k) (sub := (chP B n (atP B n (if lm = 5 then 8 else 6) 0) (opT B n))) hop).symm.trans hR
        refine r_aloadR0 dX12_readSum_4 ?_
        refine n_bipush dX12_readSum_5 (by decide) (fun r5 e5_z => ?_)
        refine q_callV1 zm_RX12_175 dX12_readSum_7 (shM_k hs) (by decide) rfl (Nat.le_of_ble_eq_true rfl) (Nat.le_of_ble_eq_true rfl) (Nat.le_of_ble_eq_true rfl) (Nat.le_of_ble_eq_true rfl) (Nat.le_of_ble_eq_true rfl) (s_X12_isSign G hs (fun r7 e7_z => ?_))
        refine t_ifne (t := 22) dX12_readSum_10 (by decide) (fun h10 => False.elim (by omega)) (fun h10 => ?_)
        refine r_aloadR0 dX12_readSum_13 ?_
        refine n_bipush dX12_readSum_14 (by decide) (fun r14 e14_z => ?_)
        refine q_callV1 zm_RX12_175 dX12_readSum_16 (shM_k hs) (by decide) rfl (Nat.le_of_ble_eq_true rfl) (Nat.le_of_ble_eq_true rfl) (Nat.le_of_ble_eq_true rfl) (Nat.le_of_ble_eq_true rfl) (Nat.le_of_ble_eq_true rfl) (s_X12_isSign G hs (fun r16 e16_z => ?_))
        refine t_ifeq (t := 55) dX12_readSum_19 (by decide) (fun h19 => ?_) (fun h19 => False.elim (by omega))
        refine r_vret dX12_readSum_55 rfl (Nat.le_of_ble_eq_true rfl) (Nat.le_of_ble_eq_true rfl) ?_
        rw [← hv] at hQ
        exact hQ _ ofr hd2 hp2 hk2
      · have hb2 : (f2_z A 12).toInt ≠ 0 := by rw [hp2.1]; omega
        have hv := (lpP_bad (B := B) (n := n) (k := k) (sub := (chP B n (atP B n (if lm = 5 then 8 else 6) 0) (opT B n))) (op := opS B n) hr).symm.trans hR
        refine r_aloadR0 dX12_readSum_4 ?_
        refine n_bipush dX12_readSum_5 (by decide) (fun r5 e5_z => ?_)
        refine q_callV1 zm_RX12_175 dX12_readSum_7 (shM_k hs) (by decide) rfl (Nat.le_of_ble_eq_true rfl) (Nat.le_of_ble_eq_true rfl) (Nat.le_of_ble_eq_true rfl) (Nat.le_of_ble_eq_true rfl) (Nat.le_of_ble_eq_true rfl) (s_X12_isSign G hs (fun r7 e7_z => ?_))
        refine t_ifne (t := 22) dX12_readSum_10 (by decide) (fun h10 => False.elim (by omega)) (fun h10 => ?_)
        refine r_aloadR0 dX12_readSum_13 ?_
        refine n_bipush dX12_readSum_14 (by decide) (fun r14 e14_z => ?_)
        refine q_callV1 zm_RX12_175 dX12_readSum_16 (shM_k hs) (by decide) rfl (Nat.le_of_ble_eq_true rfl) (Nat.le_of_ble_eq_true rfl) (Nat.le_of_ble_eq_true rfl) (Nat.le_of_ble_eq_true rfl) (Nat.le_of_ble_eq_true rfl) (s_X12_isSign G hs (fun r16 e16_z => ?_))
        refine t_ifeq (t := 55) dX12_readSum_19 (by decide) (fun h19 => ?_) (fun h19 => False.elim (by omega))
        refine r_vret dX12_readSum_55 rfl (Nat.le_of_ble_eq_true rfl) (Nat.le_of_ble_eq_true rfl) ?_
        rw [← hv] at hQ
        exact hQ _ ofr hd2 hp2 hk2
  refine r_aloadR0 dX12_readSum_0 ?_
  refine q_callV0 zm_RX12_184 dX12_readSum_1 (shM_k hs) (by decide) rfl (Nat.le_of_ble_eq_true rfl) (Nat.le_of_ble_eq_true rfl) (Nat.le_of_ble_eq_true rfl) (Nat.le_of_ble_eq_true rfl) (Nat.le_of_ble_eq_true rfl) (s_X12_readTerm_0 G hs kw hld htp hps hd16 hlm hla hu h5 h29 h99 hup (fun g1 o1 d1 p1 k1_z => ?_))
  have gp := hgd p ht.1
  exact lp _ g1 n ((chP B n (atP B n (if lm = 5 then 8 else 6) 0) (opT B n)) p) _ o1 d1 p1 k1_z (fun h_z => ⟨Nat.le_of_lt (gp.1 h_z).1, (gp.1 h_z).2.1, (gp.1 h_z).2.2.1⟩) (fun _ => Nat.le_add_right n _) rfl (Nat.lt_succ_self n)
set_option maxHeartbeats 4000000 in
set_option maxRecDepth 100000 in
theorem s_X12_readAtom_1 {g : zGT} {w : zW} {f : Nat → Nat → Int32} {j : Nat → Nat → Int64} {A : Nat} {B : Nat → Nat} {n : Nat} {wa wv : Nat → Nat} {kq : Nat} {p lm la u : Nat} {Q : Option Value → zW → Prop} {QX : String → zW → Prop} (G : zGok g) (hs : shM w A) (kw : kWd g wa wv kq) (hld : kLd g wa) (htp : tpM B n f A) (hps : psM B n f A 0 p) (hd16 : (f A 16).toInt = 5) (hlm : (f A 17).toInt = (lm : Nat)) (hla : (f A 18).toInt = (la : Nat)) (hu : (f (A + 2) lm).toInt = (u : Nat)) (h5 : lm ≤ 5) (h29 : 209 ≤ la) (h99 : la ≤ 2009) (hup : u ≤ p) (hQ : ∀ f2_z, frM A [2] [8, 9, 10, 11, 12, 13, 16] f f2_z → (f2_z A 16).toInt = 5 → psM B n f2_z A (atP B n (if lm = 5 then 8 else 6) 1 p).1 (atP B n (if lm = 5 then 8 else 6) 1 p).2.1 → ((atP B n (if lm = 5 then 8 else 6) 1 p).1 = 0 → okM f f2_z A lm la u (atP B n (if lm = 5 then 8 else 6) 1 p).2.2) → Q none (zM w f2_z j)) : zC g 14 yX12_readAtom cX12_readAtom 3 none [.ref A] (zM w f j) (0, 0) Q QX := by
  refine zC_of G (by decide +kernel) (Nat.le_of_ble_eq_true rfl) ?_
  have ht := hps.2.1 rfl
  have h12 := hps.1
  have hte := teP_le (B := B) ht.1
  have h900 := htp.2.1
  have h10 := ht.2.2.2.1
  by_cases hf : tkP B n p = 3 ∧ fcP (wdP B n p) < (if lm = 5 then 8 else 6)
  · have hne : tkP B n p ≠ 40 := by rw [hf.1]; decide
    have hv : atP B n (if lm = 5 then 8 else 6) 1 p = (0, nxP B n p, [1000 + fcP (wdP B n p)]) := (if_neg hne).trans (a1_fact hf)
    rw [hv] at hQ
    have hpn := tk_lt (B := B) (n := n) (s := p) (by rw [hf.1]; decide)
    have hf8 : fcP (wdP B n p) < 8 := Nat.lt_of_lt_of_le hf.2 (by split <;> decide)
    refine r_aloadR0 dX12_readAtom_0 ?_
    refine m_getV (x := (f A 12)) zf_RX12_112 rfl dX12_readAtom_1 (shM_k hs) (rfl) ?_
    refine t_ifeq (t := 8) dX12_readAtom_4 (by decide) (fun h4 => ?_) (fun h4 => False.elim (by omega))
    refine r_aloadR0 dX12_readAtom_8 ?_
    refine q_callV0 zm_RX12_206 dX12_readAtom_9 (shM_k hs) (by decide) rfl (Nat.le_of_ble_eq_true rfl) (Nat.le_of_ble_eq_true rfl) (Nat.le_of_ble_eq_true rfl) (Nat.le_of_ble_eq_true rfl) (Nat.le_of_ble_eq_true rfl) (s_X12_lawWord G hs kw hld htp hps hlm (fun r9 g9 o9 a9 b9 => ?_))
    have htp9 := tpM_of htp (o9.2.1 5 (by decide) (by decide) (by decide)) (o9.2.2 7 (by decide))
    have w2 : g9 (A + 2) = f (A + 2) := o9.2.1 2 (by decide) (by decide) (by decide)
    obtain ⟨e9_z, p9⟩ := a9 hf
    have n9 := p9.1
    refine r_istore1 dX12_readAtom_12 rfl ?_
    refine r_iload1 dX12_readAtom_13 ?_
    refine n_iconst dX12_readAtom_14 (by decide) (fun r14 e14_z => ?_)
    refine t_iceq (t := 29) dX12_readAtom_15 (by decide) (fun h15 => False.elim (by omega)) (fun h15 => ?_)
    refine r_aloadR0 dX12_readAtom_18 ?_
    refine n_bipush dX12_readAtom_19 (by decide) (fun r19 e19_z => ?_)
    refine r_iload1 dX12_readAtom_21 ?_
    refine n_iadd dX12_readAtom_22 (by omega) (fun r22 e22_z => ?_)
    refine q_callV1 zm_RX12_162 dX12_readAtom_23 (shM_k hs) (by decide) rfl (Nat.le_of_ble_eq_true rfl) (Nat.le_of_ble_eq_true rfl) (Nat.le_of_ble_eq_true rfl) (Nat.le_of_ble_eq_true rfl) (Nat.le_of_ble_eq_true rfl) (s_X12_laysStep (lm := lm) (la := la) (u := u) G hs p9.1 (by rw [o9.2.2 17 (by decide)]; exact hlm) (by rw [o9.2.2 18 (by decide)]; exact hla) (by rw [w2]; exact hu) h5 h29 (by omega) (fun g23 o23 a23 b23 c23 => ?_))
    refine r_goto (t := 83) dX12_readAtom_26 (by decide) ?_
    refine r_vret dX12_readAtom_83 rfl (Nat.le_of_ble_eq_true rfl) (Nat.le_of_ble_eq_true rfl) ?_
    refine hQ _ (frM_tr (frM_su o9 (by decide) (by decide)) (frM_su o23 (by decide) (by decide))) (by rw [o23.2.2 16 (by decide), o9.2.2 16 (by decide)]; exact hd16) (psM_of p9 (o23.2.2 8 (by decide)) (o23.2.2 9 (by decide)) (o23.2.2 10 (by decide)) (o23.2.2 11 (by decide)) (o23.2.2 12 (by decide)) (o23.2.2 13 (by decide))) (fun _ => okM_cg (okM_one (by omega) a23 b23 c23 ?_) w2 rfl)
    unfold rfO
    rw [if_neg (by omega), if_pos (by omega)]
    omega
  by_cases hp : tkP B n p = 40
  · have hv : atP B n (if lm = 5 then 8 else 6) 1 p = clP B n 41 (suP B n (atP B n (if lm = 5 then 8 else 6) 0) (nxP B n p)) := if_pos hp
    rw [hv] at hQ
    have hrk := (rk4 (B := B) (n := n) (s := p) (c := 40) (by decide)).mpr hp
    have hpn := tk_lt (B := B) (n := n) (s := p) (by rw [hp]; decide)
    have hnx := nxP_gt (B := B) hpn
    by_cases hr : (suP B n (atP B n (if lm = 5 then 8 else 6) 0) (nxP B n p)).1 = 0
    · by_cases h41 : tkP B n (suP B n (atP B n (if lm = 5 then 8 else 6) 0) (nxP B n p)).2.1 = 41
      · have hv2 : clP B n 41 (suP B n (atP B n (if lm = 5 then 8 else 6) 0) (nxP B n p)) = (0, nxP B n (suP B n (atP B n (if lm = 5 then 8 else 6) 0) (nxP B n p)).2.1, (suP B n (atP B n (if lm = 5 then 8 else 6) 0) (nxP B n p)).2.2) := (if_neg (not_not_intro hr)).trans (if_pos h41)
        rw [hv2] at hQ
        refine r_aloadR0 dX12_readAtom_0 ?_
        refine m_getV (x := (f A 12)) zf_RX12_112 rfl dX12_readAtom_1 (shM_k hs) (rfl) ?_
        refine t_ifeq (t := 8) dX12_readAtom_4 (by decide) (fun h4 => ?_) (fun h4 => False.elim (by omega))
        refine r_aloadR0 dX12_readAtom_8 ?_
        refine q_callV0 zm_RX12_206 dX12_readAtom_9 (shM_k hs) (by decide) rfl (Nat.le_of_ble_eq_true rfl) (Nat.le_of_ble_eq_true rfl) (Nat.le_of_ble_eq_true rfl) (Nat.le_of_ble_eq_true rfl) (Nat.le_of_ble_eq_true rfl) (s_X12_lawWord G hs kw hld htp hps hlm (fun r9 g9 o9 a9 b9 => ?_))
        have htp9 := tpM_of htp (o9.2.1 5 (by decide) (by decide) (by decide)) (o9.2.2 7 (by decide))
        have w2 : g9 (A + 2) = f (A + 2) := o9.2.1 2 (by decide) (by decide) (by decide)
        obtain ⟨e9_z, p9⟩ := b9 hf
        have n9 := p9.1
        have t9 := p9.2.1 rfl
        have k9 := t9.2.2.2.1
        have d9 : (g9 A 16).toInt = 5 := by rw [o9.2.2 16 (by decide)]; exact hd16
        refine r_istore1 dX12_readAtom_12 rfl ?_
        refine r_iload1 dX12_readAtom_13 ?_
        refine n_iconst dX12_readAtom_14 (by decide) (fun r14 e14_z => ?_)
        refine t_iceq (t := 29) dX12_readAtom_15 (by decide) (fun h15 => ?_) (fun h15 => False.elim (by omega))
        refine r_aloadR0 dX12_readAtom_29 ?_
        refine n_bipush dX12_readAtom_30 (by decide) (fun r30 e30 => ?_)
        refine q_callV1 zm_RX12_175 dX12_readAtom_32 (shM_k hs) (by decide) rfl (Nat.le_of_ble_eq_true rfl) (Nat.le_of_ble_eq_true rfl) (Nat.le_of_ble_eq_true rfl) (Nat.le_of_ble_eq_true rfl) (Nat.le_of_ble_eq_true rfl) (s_X12_isSign G hs (fun r32 e32 => ?_))
        refine t_ifeq (t := 65) dX12_readAtom_35 (by decide) (fun h35 => False.elim (by omega)) (fun h35 => ?_)
        refine r_aloadR0 dX12_readAtom_38 ?_
        refine q_callV0 zm_RX12_172 dX12_readAtom_39 (shM_k hs) (by decide) rfl (Nat.le_of_ble_eq_true rfl) (Nat.le_of_ble_eq_true rfl) (Nat.le_of_ble_eq_true rfl) (Nat.le_of_ble_eq_true rfl) (Nat.le_of_ble_eq_true rfl) (s_X12_goesIn (d := 5) G hs htp9 p9 d9 (by decide) (by rw [hp]; decide) (fun g39 o39 a39 b39 c39 => ?_))
        have p39 := c39 (by decide)
        have htp39 := tpM_of htp9 (o39.2.1 5 (by decide) (by decide) (by decide)) (o39.2.2 7 (by decide))
        have w39 : g39 (A + 2) = f (A + 2) := (o39.2.1 2 (by decide) (by decide) (by decide)).trans w2
        refine r_aloadR0 dX12_readAtom_42 ?_
        refine q_callV0 zm_RX12_181 dX12_readAtom_43 (shM_k hs) (by decide) rfl (Nat.le_of_ble_eq_true rfl) (Nat.le_of_ble_eq_true rfl) (Nat.le_of_ble_eq_true rfl) (Nat.le_of_ble_eq_true rfl) (Nat.le_of_ble_eq_true rfl) (s_X12_readSum_0 (lm := lm) (la := la) (u := u) G hs kw hld htp39 p39 (by rw [a39]; rfl) (by rw [o39.2.2 17 (by decide), o9.2.2 17 (by decide)]; exact hlm) (by rw [o39.2.2 18 (by decide), o9.2.2 18 (by decide)]; exact hla) (by rw [w39]; exact hu) h5 h29 h99 (by omega) (fun g43 o43 d43 p43 k43 => ?_))
        have p43b : psM B n g43 A (suP B n (atP B n (if lm = 5 then 8 else 6) 0) (nxP B n p)).1 (suP B n (atP B n (if lm = 5 then 8 else 6) 0) (nxP B n p)).2.1 := p43
        have of43 : frM A [2] [8, 9, 10, 11, 12, 13, 16] f g43 := frM_tr (frM_tr (frM_su o9 (by decide) (by decide)) (frM_su o39 (by decide) (by decide))) o43
        have htp43 := tpM_of htp (of43.2.1 5 (by decide) (by decide) (by decide)) (of43.2.2 7 (by decide))
        have p43c := p43b
        rw [hr] at p43c
        refine r_aloadR0 dX12_readAtom_46 ?_
        refine n_bipush dX12_readAtom_47 (by decide) (fun r47 e47 => ?_)
        refine q_callV1 zm_RX12_151 dX12_readAtom_49 (shM_k hs) (by decide) rfl (Nat.le_of_ble_eq_true rfl) (Nat.le_of_ble_eq_true rfl) (Nat.le_of_ble_eq_true rfl) (Nat.le_of_ble_eq_true rfl) (Nat.le_of_ble_eq_true rfl) (s_X12_mustSign (p := (suP B n (atP B n (if lm = 5 then 8 else 6) 0) (nxP B n p)).2.1) (c := 41) G hs htp43 p43c e47 (by decide) (fun g49 o49 a49 b49 => ?_))
        have d49 : (g49 A 16).toInt = 6 := by rw [o49.2.2 16 (by decide)]; exact d43
        refine r_aloadR0 dX12_readAtom_52 ?_
        refine r_dup dX12_readAtom_53 rfl ?_
        refine m_getV (x := (g49 A 16)) zf_RX12_154 rfl dX12_readAtom_54 (shM_k hs) (rfl) ?_
        refine n_iconst dX12_readAtom_57 (by decide) (fun r57 e57 => ?_)
        refine n_isub dX12_readAtom_58 (by omega) (fun r58 e58 => ?_)
        refine m_putI zf_RX12_154 (by intro C T N h_z; cases h_z; rfl) rfl dX12_readAtom_59 (shM_k hs) ?_
        obtain ⟨g59, hg59⟩ : ∃ g9, g9 = zu g49 A 16 r58 := ⟨_, rfl⟩
        rw [← hg59]
        have og59 : frM A [] [16] g49 g59 := by rw [hg59]; exact frM_zk frM_rf (by decide)
        have vg59 : g59 A 16 = r58 := by rw [hg59]; exact zu_at
        have vt59 : (g59 A 16).toInt = r58.toInt := by rw [vg59]
        refine r_goto (t := 83) dX12_readAtom_62 (by decide) ?_
        refine r_vret dX12_readAtom_83 rfl (Nat.le_of_ble_eq_true rfl) (Nat.le_of_ble_eq_true rfl) ?_
        exact hQ _ (frM_tr (frM_tr of43 (frM_su o49 (by decide) (by decide))) (frM_su og59 (by decide) (by decide))) (by rw [vt59]; omega) (psM_of (a49 h41) (og59.2.2 8 (by decide)) (og59.2.2 9 (by decide)) (og59.2.2 10 (by decide)) (og59.2.2 11 (by decide)) (og59.2.2 12 (by decide)) (og59.2.2 13 (by decide))) (fun _ => okM_cg (k43 hr) w39 ((og59.2.1 2 (by decide) (by decide) (by decide)).trans (o49.2.1 2 (by decide) (by decide) (by decide))))
      · have hv2 : clP B n 41 (suP B n (atP B n (if lm = 5 then 8 else 6) 0) (nxP B n p)) = (baP B n (suP B n (atP B n (if lm = 5 then 8 else 6) 0) (nxP B n p)).2.1, (suP B n (atP B n (if lm = 5 then 8 else 6) 0) (nxP B n p)).2.1, []) := (if_neg (not_not_intro hr)).trans (if_neg h41)
        rw [hv2] at hQ
        refine r_aloadR0 dX12_readAtom_0 ?_
        refine m_getV (x := (f A 12)) zf_RX12_112 rfl dX12_readAtom_1 (shM_k hs) (rfl) ?_
        refine t_ifeq (t := 8) dX12_readAtom_4 (by decide) (fun h4 => ?_) (fun h4 => False.elim (by omega))
        refine r_aloadR0 dX12_readAtom_8 ?_
        refine q_callV0 zm_RX12_206 dX12_readAtom_9 (shM_k hs) (by decide) rfl (Nat.le_of_ble_eq_true rfl) (Nat.le_of_ble_eq_true rfl) (Nat.le_of_ble_eq_true rfl) (Nat.le_of_ble_eq_true rfl) (Nat.le_of_ble_eq_true rfl) (s_X12_lawWord G hs kw hld htp hps hlm (fun r9 g9 o9 a9 b9 => ?_))
        have htp9 := tpM_of htp (o9.2.1 5 (by decide) (by decide) (by decide)) (o9.2.2 7 (by decide))
        have w2 : g9 (A + 2) = f (A + 2) := o9.2.1 2 (by decide) (by decide) (by decide)
        obtain ⟨e9_z, p9⟩ := b9 hf
        have n9 := p9.1
        have t9 := p9.2.1 rfl
        have k9 := t9.2.2.2.1
        have d9 : (g9 A 16).toInt = 5 := by rw [o9.2.2 16 (by decide)]; exact hd16
        refine r_istore1 dX12_readAtom_12 rfl ?_
        refine r_iload1 dX12_readAtom_13 ?_
        refine n_iconst dX12_readAtom_14 (by decide) (fun r14 e14_z => ?_)
        refine t_iceq (t := 29) dX12_readAtom_15 (by decide) (fun h15 => ?_) (fun h15 => False.elim (by omega))
        refine r_aloadR0 dX12_readAtom_29 ?_
        refine n_bipush dX12_readAtom_30 (by decide) (fun r30 e30 => ?_)
        refine q_callV1 zm_RX12_175 dX12_readAtom_32 (shM_k hs) (by decide) rfl (Nat.le_of_ble_eq_true rfl) (Nat.le_of_ble_eq_true rfl) (Nat.le_of_ble_eq_true rfl) (Nat.le_of_ble_eq_true rfl) (Nat.le_of_ble_eq_true rfl) (s_X12_isSign G hs (fun r32 e32 => ?_))
        refine t_ifeq (t := 65) dX12_readAtom_35 (by decide) (fun h35 => False.elim (by omega)) (fun h35 => ?_)
        refine r_aloadR0 dX12_readAtom_38 ?_
        refine q_callV0 zm_RX12_172 dX12_readAtom_39 (shM_k hs) (by decide) rfl (Nat.le_of_ble_eq_true rfl) (Nat.le_of_ble_eq_true rfl) (Nat.le_of_ble_eq_true rfl) (Nat.le_of_ble_eq_true rfl) (Nat.le_of_ble_eq_true rfl) (s_X12_goesIn (d := 5) G hs htp9 p9 d9 (by decide) (by rw [hp]; decide) (fun g39 o39 a39 b39 c39 => ?_))
        have p39 := c39 (by decide)
        have htp39 := tpM_of htp9 (o39.2.1 5 (by decide) (by decide) (by decide)) (o39.2.2 7 (by decide))
        have w39 : g39 (A + 2) = f (A + 2) := (o39.2.1 2 (by decide) (by decide) (by decide)).trans w2
        refine r_aloadR0 dX12_readAtom_42 ?_
        refine q_callV0 zm_RX12_181 dX12_readAtom_43 (shM_k hs) (by decide) rfl (Nat.le_of_ble_eq_true rfl) (Nat.le_of_ble_eq_true rfl) (Nat.le_of_ble_eq_true rfl) (Nat.le_of_ble_eq_true rfl) (Nat.le_of_ble_eq_true rfl) (s_X12_readSum_0 (lm := lm) (la := la) (u := u) G hs kw hld htp39 p39 (by rw [a39]; rfl) (by rw [o39.2.2 17 (by decide), o9.2.2 17 (by decide)]; exact hlm) (by rw [o39.2.2 18 (by decide), o9.2.2 18 (by decide)]; exact hla) (by rw [w39]; exact hu) h5 h29 h99 (by omega) (fun g43 o43 d43 p43 k43 => ?_))
        have p43b : psM B n g43 A (suP B n (atP B n (if lm = 5 then 8 else 6) 0) (nxP B n p)).1 (suP B n (atP B n (if lm = 5 then 8 else 6) 0) (nxP B n p)).2.1 := p43
        have of43 : frM A [2] [8, 9, 10, 11, 12, 13, 16] f g43 := frM_tr (frM_tr (frM_su o9 (by decide) (by decide)) (frM_su o39 (by decide) (by decide))) o43
        have htp43 := tpM_of htp (of43.2.1 5 (by decide) (by decide) (by decide)) (of43.2.2 7 (by decide))
        have p43c := p43b
        rw [hr] at p43c
        refine r_aloadR0 dX12_readAtom_46 ?_
        refine n_bipush dX12_readAtom_47 (by decide) (fun r47 e47 => ?_)
        refine q_callV1 zm_RX12_151 dX12_readAtom_49 (shM_k hs) (by decide) rfl (Nat.le_of_ble_eq_true rfl) (Nat.le_of_ble_eq_true rfl) (Nat.le_of_ble_eq_true rfl) (Nat.le_of_ble_eq_true rfl) (Nat.le_of_ble_eq_true rfl) (s_X12_mustSign (p := (suP B n (atP B n (if lm = 5 then 8 else 6) 0) (nxP B n p)).2.1) (c := 41) G hs htp43 p43c e47 (by decide) (fun g49 o49 a49 b49 => ?_))
        have d49 : (g49 A 16).toInt = 6 := by rw [o49.2.2 16 (by decide)]; exact d43
        refine r_aloadR0 dX12_readAtom_52 ?_
        refine r_dup dX12_readAtom_53 rfl ?_
        refine m_getV (x := (g49 A 16)) zf_RX12_154 rfl dX12_readAtom_54 (shM_k hs) (rfl) ?_
        refine n_iconst dX12_readAtom_57 (by decide) (fun r57 e57 => ?_)
        refine n_isub dX12_readAtom_58 (by omega) (fun r58 e58 => ?_)
        refine m_putI zf_RX12_154 (by intro C T N h_z; cases h_z; rfl) rfl dX12_readAtom_59 (shM_k hs) ?_
        obtain ⟨g59, hg59⟩ : ∃ g9, g9 = zu g49 A 16 r58 := ⟨_, rfl⟩
        rw [← hg59]
        have og59 : frM A [] [16] g49 g59 := by rw [hg59]; exact frM_zk frM_rf (by decide)
        have vg59 : g59 A 16 = r58 := by rw [hg59]; exact zu_at
        have vt59 : (g59 A 16).toInt = r58.toInt := by rw [vg59]
        refine r_goto (t := 83) dX12_readAtom_62 (by decide) ?_
        refine r_vret dX12_readAtom_83 rfl (Nat.le_of_ble_eq_true rfl) (Nat.le_of_ble_eq_true rfl) ?_
        exact hQ _ (frM_tr (frM_tr of43 (frM_su o49 (by decide) (by decide))) (frM_su og59 (by decide) (by decide))) (by rw [vt59]; omega) (psM_of (b49 h41) (og59.2.2 8 (by decide)) (og59.2.2 9 (by decide)) (og59.2.2 10 (by decide)) (og59.2.2 11 (by decide)) (og59.2.2 12 (by decide)) (og59.2.2 13 (by decide))) (fun h_z => absurd h_z ba_bd.1)
    · have hv2 : clP B n 41 (suP B n (atP B n (if lm = 5 then 8 else 6) 0) (nxP B n p)) = (suP B n (atP B n (if lm = 5 then 8 else 6) 0) (nxP B n p)) := if_pos hr
      rw [hv2] at hQ
      refine r_aloadR0 dX12_readAtom_0 ?_
      refine m_getV (x := (f A 12)) zf_RX12_112 rfl dX12_readAtom_1 (shM_k hs) (rfl) ?_
      refine t_ifeq (t := 8) dX12_readAtom_4 (by decide) (fun h4 => ?_) (fun h4 => False.elim (by omega))
      refine r_aloadR0 dX12_readAtom_8 ?_
      refine q_callV0 zm_RX12_206 dX12_readAtom_9 (shM_k hs) (by decide) rfl (Nat.le_of_ble_eq_true rfl) (Nat.le_of_ble_eq_true rfl) (Nat.le_of_ble_eq_true rfl) (Nat.le_of_ble_eq_true rfl) (Nat.le_of_ble_eq_true rfl) (s_X12_lawWord G hs kw hld htp hps hlm (fun r9 g9 o9 a9 b9 => ?_))
      have htp9 := tpM_of htp (o9.2.1 5 (by decide) (by decide) (by decide)) (o9.2.2 7 (by decide))
      have w2 : g9 (A + 2) = f (A + 2) := o9.2.1 2 (by decide) (by decide) (by decide)
      obtain ⟨e9_z, p9⟩ := b9 hf
      have n9 := p9.1
      have t9 := p9.2.1 rfl
      have k9 := t9.2.2.2.1
      have d9 : (g9 A 16).toInt = 5 := by rw [o9.2.2 16 (by decide)]; exact hd16
      refine r_istore1 dX12_readAtom_12 rfl ?_
      refine r_iload1 dX12_readAtom_13 ?_
      refine n_iconst dX12_readAtom_14 (by decide) (fun r14 e14_z => ?_)
      refine t_iceq (t := 29) dX12_readAtom_15 (by decide) (fun h15 => ?_) (fun h15 => False.elim (by omega))
      refine r_aloadR0 dX12_readAtom_29 ?_
      refine n_bipush dX12_readAtom_30 (by decide) (fun r30 e30 => ?_)
      refine q_callV1 zm_RX12_175 dX12_readAtom_32 (shM_k hs) (by decide) rfl (Nat.le_of_ble_eq_true rfl) (Nat.le_of_ble_eq_true rfl) (Nat.le_of_ble_eq_true rfl) (Nat.le_of_ble_eq_true rfl) (Nat.le_of_ble_eq_true rfl) (s_X12_isSign G hs (fun r32 e32 => ?_))
      refine t_ifeq (t := 65) dX12_readAtom_35 (by decide) (fun h35 => False.elim (by omega)) (fun h35 => ?_)
      refine r_aloadR0 dX12_readAtom_38 ?_
      refine q_callV0 zm_RX12_172 dX12_readAtom_39 (shM_k hs) (by decide) rfl (Nat.le_of_ble_eq_true rfl) (Nat.le_of_ble_eq_true rfl) (Nat.le_of_ble_eq_true rfl) (Nat.le_of_ble_eq_true rfl) (Nat.le_of_ble_eq_true rfl) (s_X12_goesIn (d := 5) G hs htp9 p9 d9 (by decide) (by rw [hp]; decide) (fun g39 o39 a39 b39 c39 => ?_))
      have p39 := c39 (by decide)
      have htp39 := tpM_of htp9 (o39.2.1 5 (by decide) (by decide) (by decide)) (o39.2.2 7 (by decide))
      have w39 : g39 (A + 2) = f (A + 2) := (o39.2.1 2 (by decide) (by decide) (by decide)).trans w2
      refine r_aloadR0 dX12_readAtom_42 ?_
      refine q_callV0 zm_RX12_181 dX12_readAtom_43 (shM_k hs) (by decide) rfl (Nat.le_of_ble_eq_true rfl) (Nat.le_of_ble_eq_true rfl) (Nat.le_of_ble_eq_true rfl) (Nat.le_of_ble_eq_true rfl) (Nat.le_of_ble_eq_true rfl) (s_X12_readSum_0 (lm := lm) (la := la) (u := u) G hs kw hld htp39 p39 (by rw [a39]; rfl) (by rw [o39.2.2 17 (by decide), o9.2.2 17 (by decide)]; exact hlm) (by rw [o39.2.2 18 (by decide), o9.2.2 18 (by decide)]; exact hla) (by rw [w39]; exact hu) h5 h29 h99 (by omega) (fun g43 o43 d43 p43 k43 => ?_))
      have p43b : psM B n g43 A (suP B n (atP B n (if lm = 5 then 8 else 6) 0) (nxP B n p)).1 (suP B n (atP B n (if lm = 5 then 8 else 6) 0) (nxP B n p)).2.1 := p43
      have of43 : frM A [2] [8, 9, 10, 11, 12, 13, 16] f g43 := frM_tr (frM_tr (frM_su o9 (by decide) (by decide)) (frM_su o39 (by decide) (by decide))) o43
      have htp43 := tpM_of htp (of43.2.1 5 (by decide) (by decide) (by decide)) (of43.2.2 7 (by decide))
      have nb : (g43 A 12).toInt ≠ 0 := by rw [p43b.1]; omega
      have d43b : (g43 A 16).toInt = 6 := d43
      refine r_aloadR0 dX12_readAtom_46 ?_
      refine n_bipush dX12_readAtom_47 (by decide) (fun r47 e47 => ?_)
      refine q_callV1 zm_RX12_151 dX12_readAtom_49 (shM_k hs) (by decide) rfl (Nat.le_of_ble_eq_true rfl) (Nat.le_of_ble_eq_true rfl) (Nat.le_of_ble_eq_true rfl) (Nat.le_of_ble_eq_true rfl) (Nat.le_of_ble_eq_true rfl) (s_X12_mustSign_x G hs nb ?_)
      refine r_aloadR0 dX12_readAtom_52 ?_
      refine r_dup dX12_readAtom_53 rfl ?_
      refine m_getV (x := (g43 A 16)) zf_RX12_154 rfl dX12_readAtom_54 (shM_k hs) (rfl) ?_
      refine n_iconst dX12_readAtom_57 (by decide) (fun r57 e57 => ?_)
      refine n_isub dX12_readAtom_58 (by omega) (fun r58 e58 => ?_)
      refine m_putI zf_RX12_154 (by intro C T N h_z; cases h_z; rfl) rfl dX12_readAtom_59 (shM_k hs) ?_
      obtain ⟨g59, hg59⟩ : ∃ g9, g9 = zu g43 A 16 r58 := ⟨_, rfl⟩
      rw [← hg59]
      have og59 : frM A [] [16] g43 g59 := by rw [hg59]; exact frM_zk frM_rf (by decide)
      have vg59 : g59 A 16 = r58 := by rw [hg59]; exact zu_at
      have vt59 : (g59 A 16).toInt = r58.toInt := by rw [vg59]
      refine r_goto (t := 83) dX12_readAtom_62 (by decide) ?_
      refine r_vret dX12_readAtom_83 rfl (Nat.le_of_ble_eq_true rfl) (Nat.le_of_ble_eq_true rfl) ?_
      exact hQ _ (frM_tr of43 (frM_su og59 (by decide) (by decide))) (by rw [vt59]; omega) (psM_of p43b (og59.2.2 8 (by decide)) (og59.2.2 9 (by decide)) (og59.2.2 10 (by decide)) (og59.2.2 11 (by decide)) (og59.2.2 12 (by decide)) (og59.2.2 13 (by decide))) (fun h_z => absurd h_z hr)
  have hrk : rkP B n p ≠ 40 := fun h_z => hp ((rk4 (B := B) (n := n) (s := p) (c := 40) (by decide)).mp h_z)
  have hv0 : atP B n (if lm = 5 then 8 else 6) 1 p = a1P B n (if lm = 5 then 8 else 6) p := if_neg hp
  by_cases h2 : tkP B n p = 2
  · have hv : atP B n (if lm = 5 then 8 else 6) 1 p = (0, nxP B n p, [nmP B n p]) := hv0.trans (a1_num h2)
    rw [hv] at hQ
    have hpn := (tk2 h2).1
    have hnm := nm_bd h2
    have hnu : nuH B n 999 p = (0, nxP B n p, nmP B n p) := by unfold nuH; rw [if_pos h2, if_neg (by omega)]
    refine r_aloadR0 dX12_readAtom_0 ?_
    refine m_getV (x := (f A 12)) zf_RX12_112 rfl dX12_readAtom_1 (shM_k hs) (rfl) ?_
    refine t_ifeq (t := 8) dX12_readAtom_4 (by decide) (fun h4 => ?_) (fun h4 => False.elim (by omega))
    refine r_aloadR0 dX12_readAtom_8 ?_
    refine q_callV0 zm_RX12_206 dX12_readAtom_9 (shM_k hs) (by decide) rfl (Nat.le_of_ble_eq_true rfl) (Nat.le_of_ble_eq_true rfl) (Nat.le_of_ble_eq_true rfl) (Nat.le_of_ble_eq_true rfl) (Nat.le_of_ble_eq_true rfl) (s_X12_lawWord G hs kw hld htp hps hlm (fun r9 g9 o9 a9 b9 => ?_))
    have htp9 := tpM_of htp (o9.2.1 5 (by decide) (by decide) (by decide)) (o9.2.2 7 (by decide))
    have w2 : g9 (A + 2) = f (A + 2) := o9.2.1 2 (by decide) (by decide) (by decide)
    obtain ⟨e9_z, p9⟩ := b9 hf
    have n9 := p9.1
    have t9 := p9.2.1 rfl
    have k9 := t9.2.2.2.1
    have d9 : (g9 A 16).toInt = 5 := by rw [o9.2.2 16 (by decide)]; exact hd16
    refine r_istore1 dX12_readAtom_12 rfl ?_
    refine r_iload1 dX12_readAtom_13 ?_
    refine n_iconst dX12_readAtom_14 (by decide) (fun r14 e14_z => ?_)
    refine t_iceq (t := 29) dX12_readAtom_15 (by decide) (fun h15 => ?_) (fun h15 => False.elim (by omega))
    refine r_aloadR0 dX12_readAtom_29 ?_
    refine n_bipush dX12_readAtom_30 (by decide) (fun r30 e30 => ?_)
    refine q_callV1 zm_RX12_175 dX12_readAtom_32 (shM_k hs) (by decide) rfl (Nat.le_of_ble_eq_true rfl) (Nat.le_of_ble_eq_true rfl) (Nat.le_of_ble_eq_true rfl) (Nat.le_of_ble_eq_true rfl) (Nat.le_of_ble_eq_true rfl) (s_X12_isSign G hs (fun r32 e32 => ?_))
    refine t_ifeq (t := 65) dX12_readAtom_35 (by decide) (fun h35 => ?_) (fun h35 => False.elim (by omega))
    refine r_aloadR0 dX12_readAtom_65 ?_
    refine n_iconst dX12_readAtom_66 (by decide) (fun r66 e66 => ?_)
    refine n_sipush dX12_readAtom_67 (by decide) (fun r67 e67 => ?_)
    refine q_callV2 zm_RX12_209 dX12_readAtom_70 (shM_k hs) (by decide) rfl (Nat.le_of_ble_eq_true rfl) (Nat.le_of_ble_eq_true rfl) (Nat.le_of_ble_eq_true rfl) (Nat.le_of_ble_eq_true rfl) (Nat.le_of_ble_eq_true rfl) (s_X12_number (p := p) (h_z := 999) G hs htp9 p9 e66 e67 (fun r70 g70 o70 a70 b70 c70 => ?_))
    rw [hnu] at a70 b70
    have e70 : r70.toInt = (nmP B n p : Nat) := b70 rfl
    have w3 : g70 (A + 2) = f (A + 2) := (o70.2.1 2 (by decide) (by decide) (by decide)).trans w2
    refine r_istore2 dX12_readAtom_73 rfl ?_
    refine r_aloadR0 dX12_readAtom_74 ?_
    refine n_sipush dX12_readAtom_75 (by decide) (fun r75 e75 => ?_)
    refine r_iload2 dX12_readAtom_78 ?_
    refine n_iadd dX12_readAtom_79 (by omega) (fun r79 e79 => ?_)
    refine q_callV1 zm_RX12_162 dX12_readAtom_80 (shM_k hs) (by decide) rfl (Nat.le_of_ble_eq_true rfl) (Nat.le_of_ble_eq_true rfl) (Nat.le_of_ble_eq_true rfl) (Nat.le_of_ble_eq_true rfl) (Nat.le_of_ble_eq_true rfl) (s_X12_laysStep (lm := lm) (la := la) (u := u) G hs a70.1 (by rw [o70.2.2 17 (by decide), o9.2.2 17 (by decide)]; exact hlm) (by rw [o70.2.2 18 (by decide), o9.2.2 18 (by decide)]; exact hla) (by rw [w3]; exact hu) h5 h29 (by omega) (fun g80 o80 a80 b80 c80 => ?_))
    refine r_vret dX12_readAtom_83 rfl (Nat.le_of_ble_eq_true rfl) (Nat.le_of_ble_eq_true rfl) ?_
    refine hQ _ (frM_tr (frM_tr (frM_su o9 (by decide) (by decide)) (frM_su o70 (by decide) (by decide))) (frM_su o80 (by decide) (by decide))) (by rw [o80.2.2 16 (by decide), o70.2.2 16 (by decide)]; exact d9) (psM_of a70 (o80.2.2 8 (by decide)) (o80.2.2 9 (by decide)) (o80.2.2 10 (by decide)) (o80.2.2 11 (by decide)) (o80.2.2 12 (by decide)) (o80.2.2 13 (by decide))) (fun _ => okM_cg (okM_one (by omega) a80 b80 c80 ?_) w3 rfl)
    unfold rfO
    rw [if_pos (by omega)]
    omega
  · have hv : atP B n (if lm = 5 then 8 else 6) 1 p = (baP B n p, p, []) := hv0.trans (a1_bad h2 hf)
    rw [hv] at hQ
    have hba := ba_bd (B := B) (n := n) (s := p)
    have hnu : nuH B n 999 p = (baP B n p, p, 0) := by unfold nuH; rw [if_neg h2]
    refine r_aloadR0 dX12_readAtom_0 ?_
    refine m_getV (x := (f A 12)) zf_RX12_112 rfl dX12_readAtom_1 (shM_k hs) (rfl) ?_
    refine t_ifeq (t := 8) dX12_readAtom_4 (by decide) (fun h4 => ?_) (fun h4 => False.elim (by omega))
    refine r_aloadR0 dX12_readAtom_8 ?_
    refine q_callV0 zm_RX12_206 dX12_readAtom_9 (shM_k hs) (by decide) rfl (Nat.le_of_ble_eq_true rfl) (Nat.le_of_ble_eq_true rfl) (Nat.le_of_ble_eq_true rfl) (Nat.le_of_ble_eq_true rfl) (Nat.le_of_ble_eq_true rfl) (s_X12_lawWord G hs kw hld htp hps hlm (fun r9 g9 o9 a9 b9 => ?_))
    have htp9 := tpM_of htp (o9.2.1 5 (by decide) (by decide) (by decide)) (o9.2.2 7 (by decide))
    have w2 : g9 (A + 2) = f (A + 2) := o9.2.1 2 (by decide) (by decide) (by decide)
    obtain ⟨e9_z, p9⟩ := b9 hf
    have n9 := p9.1
    have t9 := p9.2.1 rfl
    have k9 := t9.2.2.2.1
    have d9 : (g9 A 16).toInt = 5 := by rw [o9.2.2 16 (by decide)]; exact hd16
    refine r_istore1 dX12_readAtom_12 rfl ?_
    refine r_iload1 dX12_readAtom_13 ?_
    refine n_iconst dX12_readAtom_14 (by decide) (fun r14 e14_z => ?_)
    refine t_iceq (t := 29) dX12_readAtom_15 (by decide) (fun h15 => ?_) (fun h15 => False.elim (by omega))
    refine r_aloadR0 dX12_readAtom_29 ?_
    refine n_bipush dX12_readAtom_30 (by decide) (fun r30 e30 => ?_)
    refine q_callV1 zm_RX12_175 dX12_readAtom_32 (shM_k hs) (by decide) rfl (Nat.le_of_ble_eq_true rfl) (Nat.le_of_ble_eq_true rfl) (Nat.le_of_ble_eq_true rfl) (Nat.le_of_ble_eq_true rfl) (Nat.le_of_ble_eq_true rfl) (s_X12_isSign G hs (fun r32 e32 => ?_))
    refine t_ifeq (t := 65) dX12_readAtom_35 (by decide) (fun h35 => ?_) (fun h35 => False.elim (by omega))
    refine r_aloadR0 dX12_readAtom_65 ?_
    refine n_iconst dX12_readAtom_66 (by decide) (fun r66 e66 => ?_)
    refine n_sipush dX12_readAtom_67 (by decide) (fun r67 e67 => ?_)
    refine q_callV2 zm_RX12_209 dX12_readAtom_70 (shM_k hs) (by decide) rfl (Nat.le_of_ble_eq_true rfl) (Nat.le_of_ble_eq_true rfl) (Nat.le_of_ble_eq_true rfl) (Nat.le_of_ble_eq_true rfl) (Nat.le_of_ble_eq_true rfl) (s_X12_number (p := p) (h_z := 999) G hs htp9 p9 e66 e67 (fun r70 g70 o70 a70 b70 c70 => ?_))
    rw [hnu] at a70 c70
    have e70 : r70.toInt = 0 := c70 hba.1
    have nb : (g70 A 12).toInt ≠ 0 := by rw [a70.1]; have := hba.1; omega
    refine r_istore2 dX12_readAtom_73 rfl ?_
    refine r_aloadR0 dX12_readAtom_74 ?_
    refine n_sipush dX12_readAtom_75 (by decide) (fun r75 e75 => ?_)
    refine r_iload2 dX12_readAtom_78 ?_
    refine n_iadd dX12_readAtom_79 (by omega) (fun r79 e79 => ?_)
    refine q_callV1 zm_RX12_162 dX12_readAtom_80 (shM_k hs) (by decide) rfl (Nat.le_of_ble_eq_true rfl) (Nat.le_of_ble_eq_true rfl) (Nat.le_of_ble_eq_true rfl) (Nat.le_of_ble_eq_true rfl) (Nat.le_of_ble_eq_true rfl) (s_X12_laysStep_x G hs nb ?_)
    refine r_vret dX12_readAtom_83 rfl (Nat.le_of_ble_eq_true rfl) (Nat.le_of_ble_eq_true rfl) ?_
    exact hQ _ (frM_tr (frM_su o9 (by decide) (by decide)) (frM_su o70 (by decide) (by decide))) (by rw [o70.2.2 16 (by decide)]; exact d9) a70 (fun h_z => absurd h_z hba.1)
set_option maxHeartbeats 4000000 in
set_option maxRecDepth 100000 in
theorem s_X12_readTerm_1 {g : zGT} {w : zW} {f : Nat → Nat → Int32} {j : Nat → Nat → Int64} {A : Nat} {B : Nat → Nat} {n : Nat} {wa wv : Nat → Nat} {kq : Nat} {p lm la u : Nat} {Q : Option Value → zW → Prop} {QX : String → zW → Prop} (G : zGok g) (hs : shM w A) (kw : kWd g wa wv kq) (hld : kLd g wa) (htp : tpM B n f A) (hps : psM B n f A 0 p) (hd16 : (f A 16).toInt = 5) (hlm : (f A 17).toInt = (lm : Nat)) (hla : (f A 18).toInt = (la : Nat)) (hu : (f (A + 2) lm).toInt = (u : Nat)) (h5 : lm ≤ 5) (h29 : 209 ≤ la) (h99 : la ≤ 2009) (hup : u ≤ p) (hQ : ∀ f2_z, frM A [2] [8, 9, 10, 11, 12, 13, 16] f f2_z → (f2_z A 16).toInt = 5 → psM B n f2_z A (chP B n (atP B n (if lm = 5 then 8 else 6) 1) (opT B n) p).1 (chP B n (atP B n (if lm = 5 then 8 else 6) 1) (opT B n) p).2.1 → ((chP B n (atP B n (if lm = 5 then 8 else 6) 1) (opT B n) p).1 = 0 → okM f f2_z A lm la u (chP B n (atP B n (if lm = 5 then 8 else 6) 1) (opT B n) p).2.2) → Q none (zM w f2_z j)) : zC g 15 yX12_readTerm cX12_readTerm 1 none [.ref A] (zM w f j) (0, 0) Q QX := by
  refine zC_of G (by decide +kernel) (Nat.le_of_ble_eq_true rfl) ?_
  have ht := hps.2.1 rfl
  have h12 := hps.1
  have h900 := htp.2.1
  have hgd : ∀ s, s ≤ n → gdP n false (if lm = 5 then 8 else 6) (1 + 2 * 1) s ((atP B n (if lm = 5 then 8 else 6) 1) s) := gd_at (by split <;> decide) 1
  have lp : ∀ (mz : Nat) (f2_z : Nat → Nat → Int32) (k : Nat) (r : zPR), frM A [2] [8, 9, 10, 11, 12, 13, 16] f f2_z → (f2_z A 16).toInt = 5 → psM B n f2_z A r.1 r.2.1 → (r.1 = 0 → okM f f2_z A lm la u r.2.2) → (r.1 = 0 → p ≤ r.2.1 ∧ r.2.1 ≤ n ∧ r.2.2.length + p ≤ r.2.1) → (r.1 = 0 → n ≤ k + r.2.1) → lpP B n (atP B n (if lm = 5 then 8 else 6) 1) (opT B n) k r = chP B n (atP B n (if lm = 5 then 8 else 6) 1) (opT B n) p → k < mz → zR (zV g 15 yX12_readTerm 1 none (0, 0) Q QX) cX12_readTerm yX12_readTerm.cls 4 [some (.ref A)] [] (zM w f2_z j) (0, 0) := by
    intro mz
    induction mz with
    | zero =>
      intro f2_z k r ofr hd2 hp2 hk2 hg2 hnk hR hmz
      exact absurd hmz (Nat.not_lt_zero _)
    | succ mz ih =>
      intro f2_z k r ofr hd2 hp2 hk2 hg2 hnk hR hmz
      by_cases hr : r.1 = 0
      · have hk3 := hk2 hr
        obtain ⟨q1_z, q2_z, q3_z⟩ := hg2 hr
        have hnk3 := hnk hr
        have hps2 := hp2
        rw [hr] at hps2
        have ht2 := hps2.2.1 rfl
        have hb2 := hps2.1
        have hte2 := teP_le (B := B) ht2.1
        have htp2 := tpM_of htp (ofr.2.1 5 (by decide) (by decide) (by decide)) (ofr.2.2 7 (by decide))
        have h10 := ht2.2.2.2.1
        have hrk := rk4 (B := B) (n := n) (s := r.2.1) (c := 42) (by decide)
        by_cases hc_z : tkP B n r.2.1 = 42
        · have h10b := hrk.mpr hc_z
          have hop : opT B n r.2.1 = 2005 := if_pos hc_z
          have hop0 : opT B n r.2.1 ≠ 0 := by rw [hop]; decide
          have hln := tk_lt (B := B) (n := n) (s := r.2.1) (by rw [hc_z]; decide)
          obtain ⟨k2_z, rfl⟩ : ∃ k2_z, k = k2_z + 1 := ⟨k - 1, by omega⟩
          have hnx := nxP_gt (B := B) hln
          have gq := hgd _ hnx.2
          by_cases hq : ((atP B n (if lm = 5 then 8 else 6) 1) (nxP B n r.2.1)).1 = 0
          · obtain ⟨y1, y2, y3, y4⟩ := gq.1 hq
            refine r_aloadR0 dX12_readTerm_4 ?_
            refine n_bipush dX12_readTerm_5 (by decide) (fun r5 e5_z => ?_)
            refine q_callV1 zm_RX12_175 dX12_readTerm_7 (shM_k hs) (by decide) rfl (Nat.le_of_ble_eq_true rfl) (Nat.le_of_ble_eq_true rfl) (Nat.le_of_ble_eq_true rfl) (Nat.le_of_ble_eq_true rfl) (Nat.le_of_ble_eq_true rfl) (s_X12_isSign G hs (fun r7 e7_z => ?_))
            refine t_ifeq (t := 30) dX12_readTerm_10 (by decide) (fun h10 => False.elim (by omega)) (fun h10 => ?_)
            refine r_aloadR0 dX12_readTerm_13 ?_
            refine q_callV0 zm_RX12_131 dX12_readTerm_14 (shM_k hs) (by decide) rfl (Nat.le_of_ble_eq_true rfl) (Nat.le_of_ble_eq_true rfl) (Nat.le_of_ble_eq_true rfl) (Nat.le_of_ble_eq_true rfl) (Nat.le_of_ble_eq_true rfl) (s_X12_readsOn (p := teP B n r.2.1) G hs htp2 ht2.2.1 hte2 (fun g14 o14 t14 => ?_))
            have htp14 := tpM_of htp2 (o14.2.1 5 (by decide) (by decide) (by decide)) (o14.2.2 7 (by decide))
            have hp14 : psM B n g14 A 0 (nxP B n r.2.1) := ⟨by rw [o14.2.2 12 (by decide)]; exact hb2, fun _ => t14, fun h_z => absurd rfl h_z⟩
            have w14 : g14 (A + 2) = f2_z (A + 2) := o14.2.1 2 (by decide) (by decide) (by decide)
            refine r_aloadR0 dX12_readTerm_17 ?_
            refine q_callV0 zm_RX12_187 dX12_readTerm_18 (shM_k hs) (by decide) rfl (Nat.le_of_ble_eq_true rfl) (Nat.le_of_ble_eq_true rfl) (Nat.le_of_ble_eq_true rfl) (Nat.le_of_ble_eq_true rfl) (Nat.le_of_ble_eq_true rfl) (s_X12_readAtom_1 (lm := lm) (la := la) (u := u + r.2.2.length) G hs kw hld htp14 hp14 (by rw [o14.2.2 16 (by decide)]; exact hd2) (by rw [o14.2.2 17 (by decide), ofr.2.2 17 (by decide)]; exact hlm) (by rw [o14.2.2 18 (by decide), ofr.2.2 18 (by decide)]; exact hla) (by rw [w14]; exact hk3.1) h5 h29 h99 (by omega) (fun g18 o18 d18 p18 k18 => ?_))
            have of18 : frM A [2] [8, 9, 10, 11, 12, 13, 16] f g18 := frM_tr ofr (frM_tr (frM_su o14 (by decide) (by decide)) o18)
            refine r_aloadR0 dX12_readTerm_21 ?_
            refine n_bipush dX12_readTerm_22 (by decide) (fun r22 e22_z => ?_)
            refine q_callV1 zm_RX12_162 dX12_readTerm_24 (shM_k hs) (by decide) rfl (Nat.le_of_ble_eq_true rfl) (Nat.le_of_ble_eq_true rfl) (Nat.le_of_ble_eq_true rfl) (Nat.le_of_ble_eq_true rfl) (Nat.le_of_ble_eq_true rfl) (s_X12_laysStep (lm := lm) (la := la) (u := u + r.2.2.length + ((atP B n (if lm = 5 then 8 else 6) 1) (nxP B n r.2.1)).2.2.length) G hs (by have := p18.1; rw [hq] at this; exact this) (by rw [of18.2.2 17 (by decide)]; exact hlm) (by rw [of18.2.2 18 (by decide)]; exact hla) (k18 hq).1 h5 h29 (by omega) (fun g24 o24 a24 b24 c24 => ?_))
            refine r_goto (t := 4) dX12_readTerm_27 (by decide) ?_
            have hp18 := p18
            rw [hq] at hp18
            refine ih _ k2_z (0, ((atP B n (if lm = 5 then 8 else 6) 1) (nxP B n r.2.1)).2.1, r.2.2 ++ ((atP B n (if lm = 5 then 8 else 6) 1) (nxP B n r.2.1)).2.2 ++ [opT B n r.2.1]) (frM_tr of18 (frM_su o24 (by decide) (by decide))) (by rw [o24.2.2 16 (by decide)]; exact d18) (psM_of hp18 (o24.2.2 8 (by decide)) (o24.2.2 9 (by decide)) (o24.2.2 10 (by decide)) (o24.2.2 11 (by decide)) (o24.2.2 12 (by decide)) (o24.2.2 13 (by decide))) (fun _ => okM_ap (by omega) (by rw [List.length_append]; omega) (okM_ap (by omega) (by omega) hk3 (okM_cg (k18 hq) w14 rfl)) ?_) (fun _ => ?_) (fun _ => ?_) ?_ (by omega)
            · rw [List.length_append, ← Nat.add_assoc, hop]
              exact okM_one (by omega) a24 b24 c24 (by rw [e22_z]; rfl)
            · show p ≤ ((atP B n (if lm = 5 then 8 else 6) 1) (nxP B n r.2.1)).2.1 ∧ ((atP B n (if lm = 5 then 8 else 6) 1) (nxP B n r.2.1)).2.1 ≤ n ∧ (r.2.2 ++ ((atP B n (if lm = 5 then 8 else 6) 1) (nxP B n r.2.1)).2.2 ++ [opT B n r.2.1]).length + p ≤ ((atP B n (if lm = 5 then 8 else 6) 1) (nxP B n r.2.1)).2.1
              rw [List.length_append, List.length_append, List.length_singleton]
              omega
            · show n ≤ k2_z + ((atP B n (if lm = 5 then 8 else 6) 1) (nxP B n r.2.1)).2.1
              omega
            · exact (lpP_on hr hop0 hq).symm.trans hR
          · have nb : ∀ g : Nat → Nat → Int32, psM B n g A ((atP B n (if lm = 5 then 8 else 6) 1) (nxP B n r.2.1)).1 ((atP B n (if lm = 5 then 8 else 6) 1) (nxP B n r.2.1)).2.1 → (g A 12).toInt ≠ 0 := fun g h_z => by rw [h_z.1]; omega
            refine r_aloadR0 dX12_readTerm_4 ?_
            refine n_bipush dX12_readTerm_5 (by decide) (fun r5 e5_z => ?_)
            refine q_callV1 zm_RX12_175 dX12_readTerm_7 (shM_k hs) (by decide) rfl (Nat.le_of_ble_eq_true rfl) (Nat.le_of_ble_eq_true rfl) (Nat.le_of_ble_eq_true rfl) (Nat.le_of_ble_eq_true rfl) (Nat.le_of_ble_eq_true rfl) (s_X12_isSign G hs (fun r7 e7_z => ?_))
            refine t_ifeq (t := 30) dX12_readTerm_10 (by decide) (fun h10 => False.elim (by omega)) (fun h10 => ?_)
            refine r_aloadR0 dX12_readTerm_13 ?_
            refine q_callV0 zm_RX12_131 dX12_readTerm_14 (shM_k hs) (by decide) rfl (Nat.le_of_ble_eq_true rfl) (Nat.le_of_ble_eq_true rfl) (Nat.le_of_ble_eq_true rfl) (Nat.le_of_ble_eq_true rfl) (Nat.le_of_ble_eq_true rfl) (s_X12_readsOn (p := teP B n r.2.1) G hs htp2 ht2.2.1 hte2 (fun g14 o14 t14 => ?_))
            have htp14 := tpM_of htp2 (o14.2.1 5 (by decide) (by decide) (by decide)) (o14.2.2 7 (by decide))
            have hp14 : psM B n g14 A 0 (nxP B n r.2.1) := ⟨by rw [o14.2.2 12 (by decide)]; exact hb2, fun _ => t14, fun h_z => absurd rfl h_z⟩
            have w14 : g14 (A + 2) = f2_z (A + 2) := o14.2.1 2 (by decide) (by decide) (by decide)
            refine r_aloadR0 dX12_readTerm_17 ?_
            refine q_callV0 zm_RX12_187 dX12_readTerm_18 (shM_k hs) (by decide) rfl (Nat.le_of_ble_eq_true rfl) (Nat.le_of_ble_eq_true rfl) (Nat.le_of_ble_eq_true rfl) (Nat.le_of_ble_eq_true rfl) (Nat.le_of_ble_eq_true rfl) (s_X12_readAtom_1 (lm := lm) (la := la) (u := u + r.2.2.length) G hs kw hld htp14 hp14 (by rw [o14.2.2 16 (by decide)]; exact hd2) (by rw [o14.2.2 17 (by decide), ofr.2.2 17 (by decide)]; exact hlm) (by rw [o14.2.2 18 (by decide), ofr.2.2 18 (by decide)]; exact hla) (by rw [w14]; exact hk3.1) h5 h29 h99 (by omega) (fun g18 o18 d18 p18 k18 => ?_))
            have of18 : frM A [2] [8, 9, 10, 11, 12, 13, 16] f g18 := frM_tr ofr (frM_tr (frM_su o14 (by decide) (by decide)) o18)
            refine r_aloadR0 dX12_readTerm_21 ?_
            refine n_bipush dX12_readTerm_22 (by decide) (fun r22 e22_z => ?_)
            refine q_callV1 zm_RX12_162 dX12_readTerm_24 (shM_k hs) (by decide) rfl (Nat.le_of_ble_eq_true rfl) (Nat.le_of_ble_eq_true rfl) (Nat.le_of_ble_eq_true rfl) (Nat.le_of_ble_eq_true rfl) (Nat.le_of_ble_eq_true rfl) (s_X12_laysStep_x G hs (nb _ p18) ?_)
            refine r_goto (t := 4) dX12_readTerm_27 (by decide) ?_
            exact ih _ k2_z ((atP B n (if lm = 5 then 8 else 6) 1) (nxP B n r.2.1)) of18 d18 p18 (fun h_z => absurd h_z hq) (fun h_z => absurd h_z hq) (fun h_z => absurd h_z hq) ((lpP_bad hq).trans ((lpP_sub hr hop0 hq).symm.trans hR)) (by omega)
        · have h10b : rkP B n r.2.1 ≠ 42 := fun h_z => hc_z (hrk.mp h_z)
          have hop : opT B n r.2.1 = 0 := if_neg hc_z
          have hv := (lpP_end (B := B) (n := n) (k := k) (sub := (atP B n (if lm = 5 then 8 else 6) 1)) hop).symm.trans hR
          refine r_aloadR0 dX12_readTerm_4 ?_
          refine n_bipush dX12_readTerm_5 (by decide) (fun r5 e5_z => ?_)
          refine q_callV1 zm_RX12_175 dX12_readTerm_7 (shM_k hs) (by decide) rfl (Nat.le_of_ble_eq_true rfl) (Nat.le_of_ble_eq_true rfl) (Nat.le_of_ble_eq_true rfl) (Nat.le_of_ble_eq_true rfl) (Nat.le_of_ble_eq_true rfl) (s_X12_isSign G hs (fun r7 e7_z => ?_))
          refine t_ifeq (t := 30) dX12_readTerm_10 (by decide) (fun h10 => ?_) (fun h10 => False.elim (by omega))
          refine r_vret dX12_readTerm_30 rfl (Nat.le_of_ble_eq_true rfl) (Nat.le_of_ble_eq_true rfl) ?_
          rw [← hv] at hQ
          exact hQ _ ofr hd2 hp2 hk2
      · have hb2 : (f2_z A 12).toInt ≠ 0 := by rw [hp2.1]; omega
        have hv := (lpP_bad (B := B) (n := n) (k := k) (sub := (atP B n (if lm = 5 then 8 else 6) 1)) (op := opT B n) hr).symm.trans hR
        refine r_aloadR0 dX12_readTerm_4 ?_
        refine n_bipush dX12_readTerm_5 (by decide) (fun r5 e5_z => ?_)
        refine q_callV1 zm_RX12_175 dX12_readTerm_7 (shM_k hs) (by decide) rfl (Nat.le_of_ble_eq_true rfl) (Nat.le_of_ble_eq_true rfl) (Nat.le_of_ble_eq_true rfl) (Nat.le_of_ble_eq_true rfl) (Nat.le_of_ble_eq_true rfl) (s_X12_isSign G hs (fun r7 e7_z => ?_))
        refine t_ifeq (t := 30) dX12_readTerm_10 (by decide) (fun h10 => ?_) (fun h10 => False.elim (by omega))
        refine r_vret dX12_readTerm_30 rfl (Nat.le_of_ble_eq_true rfl) (Nat.le_of_ble_eq_true rfl) ?_
        rw [← hv] at hQ
        exact hQ _ ofr hd2 hp2 hk2
  refine r_aloadR0 dX12_readTerm_0 ?_
  refine q_callV0 zm_RX12_187 dX12_readTerm_1 (shM_k hs) (by decide) rfl (Nat.le_of_ble_eq_true rfl) (Nat.le_of_ble_eq_true rfl) (Nat.le_of_ble_eq_true rfl) (Nat.le_of_ble_eq_true rfl) (Nat.le_of_ble_eq_true rfl) (s_X12_readAtom_1 G hs kw hld htp hps hd16 hlm hla hu h5 h29 h99 hup (fun g1 o1 d1 p1 k1_z => ?_))
  have gp := hgd p ht.1
  exact lp _ g1 n ((atP B n (if lm = 5 then 8 else 6) 1) p) o1 d1 p1 k1_z (fun h_z => ⟨Nat.le_of_lt (gp.1 h_z).1, (gp.1 h_z).2.1, (gp.1 h_z).2.2.1⟩) (fun _ => Nat.le_add_right n _) rfl (Nat.lt_succ_self n)
set_option maxHeartbeats 4000000 in
set_option maxRecDepth 100000 in
theorem s_X12_readSum_1 {g : zGT} {w : zW} {f : Nat → Nat → Int32} {j : Nat → Nat → Int64} {A : Nat} {B : Nat → Nat} {n : Nat} {wa wv : Nat → Nat} {kq : Nat} {p lm la u : Nat} {Q : Option Value → zW → Prop} {QX : String → zW → Prop} (G : zGok g) (hs : shM w A) (kw : kWd g wa wv kq) (hld : kLd g wa) (htp : tpM B n f A) (hps : psM B n f A 0 p) (hd16 : (f A 16).toInt = 5) (hlm : (f A 17).toInt = (lm : Nat)) (hla : (f A 18).toInt = (la : Nat)) (hu : (f (A + 2) lm).toInt = (u : Nat)) (h5 : lm ≤ 5) (h29 : 209 ≤ la) (h99 : la ≤ 2009) (hup : u ≤ p) (hQ : ∀ f2_z, frM A [2] [8, 9, 10, 11, 12, 13, 16] f f2_z → (f2_z A 16).toInt = 5 → psM B n f2_z A (chP B n (chP B n (atP B n (if lm = 5 then 8 else 6) 1) (opT B n)) (opS B n) p).1 (chP B n (chP B n (atP B n (if lm = 5 then 8 else 6) 1) (opT B n)) (opS B n) p).2.1 → ((chP B n (chP B n (atP B n (if lm = 5 then 8 else 6) 1) (opT B n)) (opS B n) p).1 = 0 → okM f f2_z A lm la u (chP B n (chP B n (atP B n (if lm = 5 then 8 else 6) 1) (opT B n)) (opS B n) p).2.2) → Q none (zM w f2_z j)) : zC g 16 yX12_readSum cX12_readSum 2 none [.ref A] (zM w f j) (0, 0) Q QX := by
  refine zC_of G (by decide +kernel) (Nat.le_of_ble_eq_true rfl) ?_
  have ht := hps.2.1 rfl
  have h12 := hps.1
  have h900 := htp.2.1
  have hgd : ∀ s, s ≤ n → gdP n false (if lm = 5 then 8 else 6) (1 + 2 * 1 + 1) s ((chP B n (atP B n (if lm = 5 then 8 else 6) 1) (opT B n)) s) := fun s hs9 => gd_ch (gd_at (by split <;> decide) 1) hop_T hs9
  have lp : ∀ (mz : Nat) (f2_z : Nat → Nat → Int32) (k : Nat) (r : zPR) (v1_ : Option Value), frM A [2] [8, 9, 10, 11, 12, 13, 16] f f2_z → (f2_z A 16).toInt = 5 → psM B n f2_z A r.1 r.2.1 → (r.1 = 0 → okM f f2_z A lm la u r.2.2) → (r.1 = 0 → p ≤ r.2.1 ∧ r.2.1 ≤ n ∧ r.2.2.length + p ≤ r.2.1) → (r.1 = 0 → n ≤ k + r.2.1) → lpP B n (chP B n (atP B n (if lm = 5 then 8 else 6) 1) (opT B n)) (opS B n) k r = chP B n (chP B n (atP B n (if lm = 5 then 8 else 6) 1) (opT B n)) (opS B n) p → k < mz → zR (zV g 16 yX12_readSum 2 none (0, 0) Q QX) cX12_readSum yX12_readSum.cls 4 [some (.ref A), v1_] [] (zM w f2_z j) (0, 0) := by
    intro mz
    induction mz with
    | zero =>
      intro f2_z k r v1_ ofr hd2 hp2 hk2 hg2 hnk hR hmz
      exact absurd hmz (Nat.not_lt_zero _)
    | succ mz ih =>
      intro f2_z k r v1_ ofr hd2 hp2 hk2 hg2 hnk hR hmz
      by_cases hr : r.1 = 0
      · have hk3 := hk2 hr
        obtain ⟨q1_z, q2_z, q3_z⟩ := hg2 hr
        have hnk3 := hnk hr
        have hps2 := hp2
        rw [hr] at hps2
        have ht2 := hps2.2.1 rfl
        have hb2 := hps2.1
        have hte2 := teP_le (B := B) ht2.1
        have htp2 := tpM_of htp (ofr.2.1 5 (by decide) (by decide) (by decide)) (ofr.2.2 7 (by decide))
        have h10 := ht2.2.2.2.1
        have hrk := rk4 (B := B) (n := n) (s := r.2.1) (c := 43) (by decide)
        have hrm := rk4 (B := B) (n := n) (s := r.2.1) (c := 45) (by decide)
        by_cases hc_z : tkP B n r.2.1 = 43
        · have h10b := hrk.mpr hc_z
          have hop : opS B n r.2.1 = 2003 := if_pos hc_z
          have hop0 : opS B n r.2.1 ≠ 0 := by rw [hop]; decide
          have hln := tk_lt (B := B) (n := n) (s := r.2.1) (by rw [hc_z]; decide)
          obtain ⟨k2_z, rfl⟩ : ∃ k2_z, k = k2_z + 1 := ⟨k - 1, by omega⟩
          have hnx := nxP_gt (B := B) hln
          have gq := hgd _ hnx.2
          by_cases hq : ((chP B n (atP B n (if lm = 5 then 8 else 6) 1) (opT B n)) (nxP B n r.2.1)).1 = 0
          · obtain ⟨y1, y2, y3, y4⟩ := gq.1 hq
            refine r_aloadR0 dX12_readSum_4 ?_
            refine n_bipush dX12_readSum_5 (by decide) (fun r5 e5_z => ?_)
            refine q_callV1 zm_RX12_175 dX12_readSum_7 (shM_k hs) (by decide) rfl (Nat.le_of_ble_eq_true rfl) (Nat.le_of_ble_eq_true rfl) (Nat.le_of_ble_eq_true rfl) (Nat.le_of_ble_eq_true rfl) (Nat.le_of_ble_eq_true rfl) (s_X12_isSign G hs (fun r7 e7_z => ?_))
            refine t_ifne (t := 22) dX12_readSum_10 (by decide) (fun h10 => ?_) (fun h10 => False.elim (by omega))
            refine r_aloadR0 dX12_readSum_22 ?_
            refine m_getV (x := (f2_z A 10)) zf_RX12_92 rfl dX12_readSum_23 (shM_k hs) (rfl) ?_
            refine r_istore1 dX12_readSum_26 rfl ?_
            refine r_aloadR0 dX12_readSum_27 ?_
            refine q_callV0 zm_RX12_131 dX12_readSum_28 (shM_k hs) (by decide) rfl (Nat.le_of_ble_eq_true rfl) (Nat.le_of_ble_eq_true rfl) (Nat.le_of_ble_eq_true rfl) (Nat.le_of_ble_eq_true rfl) (Nat.le_of_ble_eq_true rfl) (s_X12_readsOn (p := teP B n r.2.1) G hs htp2 ht2.2.1 hte2 (fun g28 o28 t28 => ?_))
            have htp28 := tpM_of htp2 (o28.2.1 5 (by decide) (by decide) (by decide)) (o28.2.2 7 (by decide))
            have hp28 : psM B n g28 A 0 (nxP B n r.2.1) := ⟨by rw [o28.2.2 12 (by decide)]; exact hb2, fun _ => t28, fun h_z => absurd rfl h_z⟩
            have w28 : g28 (A + 2) = f2_z (A + 2) := o28.2.1 2 (by decide) (by decide) (by decide)
            refine r_aloadR0 dX12_readSum_31 ?_
            refine q_callV0 zm_RX12_184 dX12_readSum_32 (shM_k hs) (by decide) rfl (Nat.le_of_ble_eq_true rfl) (Nat.le_of_ble_eq_true rfl) (Nat.le_of_ble_eq_true rfl) (Nat.le_of_ble_eq_true rfl) (Nat.le_of_ble_eq_true rfl) (s_X12_readTerm_1 (lm := lm) (la := la) (u := u + r.2.2.length) G hs kw hld htp28 hp28 (by rw [o28.2.2 16 (by decide)]; exact hd2) (by rw [o28.2.2 17 (by decide), ofr.2.2 17 (by decide)]; exact hlm) (by rw [o28.2.2 18 (by decide), ofr.2.2 18 (by decide)]; exact hla) (by rw [w28]; exact hk3.1) h5 h29 h99 (by omega) (fun g32 o32 d32 p32 k32 => ?_))
            have of32 : frM A [2] [8, 9, 10, 11, 12, 13, 16] f g32 := frM_tr ofr (frM_tr (frM_su o28 (by decide) (by decide)) o32)
            refine r_aloadR0 dX12_readSum_35 ?_
            refine r_iload1 dX12_readSum_36 ?_
            refine n_bipush dX12_readSum_37 (by decide) (fun r37 e37 => ?_)
            refine t_icne (t := 47) dX12_readSum_39 (by decide) (fun h39 => False.elim (by omega)) (fun h39 => ?_)
            refine n_bipush dX12_readSum_42 (by decide) (fun r42 e42_z => ?_)
            refine r_goto (t := 49) dX12_readSum_44 (by decide) ?_
            refine q_callV1 zm_RX12_162 dX12_readSum_49 (shM_k hs) (by decide) rfl (Nat.le_of_ble_eq_true rfl) (Nat.le_of_ble_eq_true rfl) (Nat.le_of_ble_eq_true rfl) (Nat.le_of_ble_eq_true rfl) (Nat.le_of_ble_eq_true rfl) (s_X12_laysStep (lm := lm) (la := la) (u := u + r.2.2.length + ((chP B n (atP B n (if lm = 5 then 8 else 6) 1) (opT B n)) (nxP B n r.2.1)).2.2.length) G hs (by have := p32.1; rw [hq] at this; exact this) (by rw [of32.2.2 17 (by decide)]; exact hlm) (by rw [of32.2.2 18 (by decide)]; exact hla) (k32 hq).1 h5 h29 (by omega) (fun g49 o49 a49 b49 c49 => ?_))
            refine r_goto (t := 4) dX12_readSum_52 (by decide) ?_
            have hp32 := p32
            rw [hq] at hp32
            refine ih _ k2_z (0, ((chP B n (atP B n (if lm = 5 then 8 else 6) 1) (opT B n)) (nxP B n r.2.1)).2.1, r.2.2 ++ ((chP B n (atP B n (if lm = 5 then 8 else 6) 1) (opT B n)) (nxP B n r.2.1)).2.2 ++ [opS B n r.2.1]) _ (frM_tr of32 (frM_su o49 (by decide) (by decide))) (by rw [o49.2.2 16 (by decide)]; exact d32) (psM_of hp32 (o49.2.2 8 (by decide)) (o49.2.2 9 (by decide)) (o49.2.2 10 (by decide)) (o49.2.2 11 (by decide)) (o49.2.2 12 (by decide)) (o49.2.2 13 (by decide))) (fun _ => okM_ap (by omega) (by rw [List.length_append]; omega) (okM_ap (by omega) (by omega) hk3 (okM_cg (k32 hq) w28 rfl)) ?_) (fun _ => ?_) (fun _ => ?_) ?_ (by omega)
            · rw [List.length_append, ← Nat.add_assoc, hop]
              exact okM_one (by omega) a49 b49 c49 (by rw [e42_z]; rfl)
            · show p ≤ ((chP B n (atP B n (if lm = 5 then 8 else 6) 1) (opT B n)) (nxP B n r.2.1)).2.1 ∧ ((chP B n (atP B n (if lm = 5 then 8 else 6) 1) (opT B n)) (nxP B n r.2.1)).2.1 ≤ n ∧ (r.2.2 ++ ((chP B n (atP B n (if lm = 5 then 8 else 6) 1) (opT B n)) (nxP B n r.2.1)).2.2 ++ [opS B n r.2.1]).length + p ≤ ((chP B n (atP B n (if lm = 5 then 8 else 6) 1) (opT B n)) (nxP B n r.2.1)).2.1
              rw [List.length_append, List.length_append, List.length_singleton]
              omega
            · show n ≤ k2_z + ((chP B n (atP B n (if lm = 5 then 8 else 6) 1) (opT B n)) (nxP B n r.2.1)).2.1
              omega
            · exact (lpP_on hr hop0 hq).symm.trans hR
          · have nb : ∀ g : Nat → Nat → Int32, psM B n g A ((chP B n (atP B n (if lm = 5 then 8 else 6) 1) (opT B n)) (nxP B n r.2.1)).1 ((chP B n (atP B n (if lm = 5 then 8 else 6) 1) (opT B n)) (nxP B n r.2.1)).2.1 → (g A 12).toInt ≠ 0 := fun g h_z => by rw [h_z.1]; omega
            refine r_aloadR0 dX12_readSum_4 ?_
            refine n_bipush dX12_readSum_5 (by decide) (fun r5 e5_z => ?_)
            refine q_callV1 zm_RX12_175 dX12_readSum_7 (shM_k hs) (by decide) rfl (Nat.le_of_ble_eq_true rfl) (Nat.le_of_ble_eq_true rfl) (Nat.le_of_ble_eq_true rfl) (Nat.le_of_ble_eq_true rfl) (Nat.le_of_ble_eq_true rfl) (s_X12_isSign G hs (fun r7 e7_z => ?_))
            refine t_ifne (t := 22) dX12_readSum_10 (by decide) (fun h10 => ?_) (fun h10 => False.elim (by omega))
            refine r_aloadR0 dX12_readSum_22 ?_
            refine m_getV (x := (f2_z A 10)) zf_RX12_92 rfl dX12_readSum_23 (shM_k hs) (rfl) ?_
            refine r_istore1 dX12_readSum_26 rfl ?_
            refine r_aloadR0 dX12_readSum_27 ?_
            refine q_callV0 zm_RX12_131 dX12_readSum_28 (shM_k hs) (by decide) rfl (Nat.le_of_ble_eq_true rfl) (Nat.le_of_ble_eq_true rfl) (Nat.le_of_ble_eq_true rfl) (Nat.le_of_ble_eq_true rfl) (Nat.le_of_ble_eq_true rfl) (s_X12_readsOn (p := teP B n r.2.1) G hs htp2 ht2.2.1 hte2 (fun g28 o28 t28 => ?_))
            have htp28 := tpM_of htp2 (o28.2.1 5 (by decide) (by decide) (by decide)) (o28.2.2 7 (by decide))
            have hp28 : psM B n g28 A 0 (nxP B n r.2.1) := ⟨by rw [o28.2.2 12 (by decide)]; exact hb2, fun _ => t28, fun h_z => absurd rfl h_z⟩
            have w28 : g28 (A + 2) = f2_z (A + 2) := o28.2.1 2 (by decide) (by decide) (by decide)
            refine r_aloadR0 dX12_readSum_31 ?_
            refine q_callV0 zm_RX12_184 dX12_readSum_32 (shM_k hs) (by decide) rfl (Nat.le_of_ble_eq_true rfl) (Nat.le_of_ble_eq_true rfl) (Nat.le_of_ble_eq_true rfl) (Nat.le_of_ble_eq_true rfl) (Nat.le_of_ble_eq_true rfl) (s_X12_readTerm_1 (lm := lm) (la := la) (u := u + r.2.2.length) G hs kw hld htp28 hp28 (by rw [o28.2.2 16 (by decide)]; exact hd2) (by rw [o28.2.2 17 (by decide), ofr.2.2 17 (by decide)]; exact hlm) (by rw [o28.2.2 18 (by decide), ofr.2.2 18 (by decide)]; exact hla) (by rw [w28]; exact hk3.1) h5 h29 h99 (by omega) (fun g32 o32 d32 p32 k32 => ?_))
            have of32 : frM A [2] [8, 9, 10, 11, 12, 13, 16] f g32 := frM_tr ofr (frM_tr (frM_su o28 (by decide) (by decide)) o32)
            refine r_aloadR0 dX12_readSum_35 ?_
            refine r_iload1 dX12_readSum_36 ?_
            refine n_bipush dX12_readSum_37 (by decide) (fun r37 e37 => ?_)
            refine t_icne (t := 47) dX12_readSum_39 (by decide) (fun h39 => False.elim (by omega)) (fun h39 => ?_)
            refine n_bipush dX12_readSum_42 (by decide) (fun r42 e42_z => ?_)
            refine r_goto (t := 49) dX12_readSum_44 (by decide) ?_
            refine q_callV1 zm_RX12_162 dX12_readSum_49 (shM_k hs) (by decide) rfl (Nat.le_of_ble_eq_true rfl) (Nat.le_of_ble_eq_true rfl) (Nat.le_of_ble_eq_true rfl) (Nat.le_of_ble_eq_true rfl) (Nat.le_of_ble_eq_true rfl) (s_X12_laysStep_x G hs (nb _ p32) ?_)
            refine r_goto (t := 4) dX12_readSum_52 (by decide) ?_
            exact ih _ k2_z ((chP B n (atP B n (if lm = 5 then 8 else 6) 1) (opT B n)) (nxP B n r.2.1)) _ of32 d32 p32 (fun h_z => absurd h_z hq) (fun h_z => absurd h_z hq) (fun h_z => absurd h_z hq) ((lpP_bad hq).trans ((lpP_sub hr hop0 hq).symm.trans hR)) (by omega)
        have hcn := hc_z
        have hc43 : rkP B n r.2.1 ≠ 43 := fun h_z => hc_z (hrk.mp h_z)
        clear hc_z
        by_cases hc_z : tkP B n r.2.1 = 45
        · have h10b := hrm.mpr hc_z
          have hop : opS B n r.2.1 = 2004 := (if_neg (by omega)).trans (if_pos hc_z)
          have hop0 : opS B n r.2.1 ≠ 0 := by rw [hop]; decide
          have hln := tk_lt (B := B) (n := n) (s := r.2.1) (by rw [hc_z]; decide)
          obtain ⟨k2_z, rfl⟩ : ∃ k2_z, k = k2_z + 1 := ⟨k - 1, by omega⟩
          have hnx := nxP_gt (B := B) hln
          have gq := hgd _ hnx.2
          by_cases hq : ((chP B n (atP B n (if lm = 5 then 8 else 6) 1) (opT B n)) (nxP B n r.2.1)).1 = 0
          · obtain ⟨y1, y2, y3, y4⟩ := gq.1 hq
            refine r_aloadR0 dX12_readSum_4 ?_
            refine n_bipush dX12_readSum_5 (by decide) (fun r5 e5_z => ?_)
            refine q_callV1 zm_RX12_175 dX12_readSum_7 (shM_k hs) (by decide) rfl (Nat.le_of_ble_eq_true rfl) (Nat.le_of_ble_eq_true rfl) (Nat.le_of_ble_eq_true rfl) (Nat.le_of_ble_eq_true rfl) (Nat.le_of_ble_eq_true rfl) (s_X12_isSign G hs (fun r7 e7_z => ?_))
            refine t_ifne (t := 22) dX12_readSum_10 (by decide) (fun h10 => False.elim (by omega)) (fun h10 => ?_)
            refine r_aloadR0 dX12_readSum_13 ?_
            refine n_bipush dX12_readSum_14 (by decide) (fun r14 e14_z => ?_)
            refine q_callV1 zm_RX12_175 dX12_readSum_16 (shM_k hs) (by decide) rfl (Nat.le_of_ble_eq_true rfl) (Nat.le_of_ble_eq_true rfl) (Nat.le_of_ble_eq_true rfl) (Nat.le_of_ble_eq_true rfl) (Nat.le_of_ble_eq_true rfl) (s_X12_isSign G hs (fun r16 e16_z => ?_))
            refine t_ifeq (t := 55) dX12_readSum_19 (by decide) (fun h19 => False.elim (by omega)) (fun h19 => ?_)
            refine r_aloadR0 dX12_readSum_22 ?_
            refine m_getV (x := (f2_z A 10)) zf_RX12_92 rfl dX12_readSum_23 (shM_k hs) (rfl) ?_
            refine r_istore1 dX12_readSum_26 rfl ?_
            refine r_aloadR0 dX12_readSum_27 ?_
            refine q_callV0 zm_RX12_131 dX12_readSum_28 (shM_k hs) (by decide) rfl (Nat.le_of_ble_eq_true rfl) (Nat.le_of_ble_eq_true rfl) (Nat.le_of_ble_eq_true rfl) (Nat.le_of_ble_eq_true rfl) (Nat.le_of_ble_eq_true rfl) (s_X12_readsOn (p := teP B n r.2.1) G hs htp2 ht2.2.1 hte2 (fun g28 o28 t28 => ?_))
            have htp28 := tpM_of htp2 (o28.2.1 5 (by decide) (by decide) (by decide)) (o28.2.2 7 (by decide))
            have hp28 : psM B n g28 A 0 (nxP B n r.2.1) := ⟨by rw [o28.2.2 12 (by decide)]; exact hb2, fun _ => t28, fun h_z => absurd rfl h_z⟩
            have w28 : g28 (A + 2) = f2_z (A + 2) := o28.2.1 2 (by decide) (by decide) (by decide)
            refine r_aloadR0 dX12_readSum_31 ?_
            refine q_callV0 zm_RX12_184 dX12_readSum_32 (shM_k hs) (by decide) rfl (Nat.le_of_ble_eq_true rfl) (Nat.le_of_ble_eq_true rfl) (Nat.le_of_ble_eq_true rfl) (Nat.le_of_ble_eq_true rfl) (Nat.le_of_ble_eq_true rfl) (s_X12_readTerm_1 (lm := lm) (la := la) (u := u + r.2.2.length) G hs kw hld htp28 hp28 (by rw [o28.2.2 16 (by decide)]; exact hd2) (by rw [o28.2.2 17 (by decide), ofr.2.2 17 (by decide)]; exact hlm) (by rw [o28.2.2 18 (by decide), ofr.2.2 18 (by decide)]; exact hla) (by rw [w28]; exact hk3.1) h5 h29 h99 (by omega) (fun g32 o32 d32 p32 k32 => ?_))
            have of32 : frM A [2] [8, 9, 10, 11, 12, 13, 16] f g32 := frM_tr ofr (frM_tr (frM_su o28 (by decide) (by decide)) o32)
            refine r_aloadR0 dX12_readSum_35 ?_
            refine r_iload1 dX12_readSum_36 ?_
            refine n_bipush dX12_readSum_37 (by decide) (fun r37 e37 => ?_)
            refine t_icne (t := 47) dX12_readSum_39 (by decide) (fun h39 => ?_) (fun h39 => False.elim (by omega))
            refine n_bipush dX12_readSum_47 (by decide) (fun r47 e47 => ?_)
            refine q_callV1 zm_RX12_162 dX12_readSum_49 (shM_k hs) (by decide) rfl (Nat.le_of_ble_eq_true rfl) (Nat.le_of_ble_eq_true rfl) (Nat.le_of_ble_eq_true rfl) (Nat.le_of_ble_eq_true rfl) (Nat.le_of_ble_eq_true rfl) (s_X12_laysStep (lm := lm) (la := la) (u := u + r.2.2.length + ((chP B n (atP B n (if lm = 5 then 8 else 6) 1) (opT B n)) (nxP B n r.2.1)).2.2.length) G hs (by have := p32.1; rw [hq] at this; exact this) (by rw [of32.2.2 17 (by decide)]; exact hlm) (by rw [of32.2.2 18 (by decide)]; exact hla) (k32 hq).1 h5 h29 (by omega) (fun g49 o49 a49 b49 c49 => ?_))
            refine r_goto (t := 4) dX12_readSum_52 (by decide) ?_
            have hp32 := p32
            rw [hq] at hp32
            refine ih _ k2_z (0, ((chP B n (atP B n (if lm = 5 then 8 else 6) 1) (opT B n)) (nxP B n r.2.1)).2.1, r.2.2 ++ ((chP B n (atP B n (if lm = 5 then 8 else 6) 1) (opT B n)) (nxP B n r.2.1)).2.2 ++ [opS B n r.2.1]) _ (frM_tr of32 (frM_su o49 (by decide) (by decide))) (by rw [o49.2.2 16 (by decide)]; exact d32) (psM_of hp32 (o49.2.2 8 (by decide)) (o49.2.2 9 (by decide)) (o49.2.2 10 (by decide)) (o49.2.2 11 (by decide)) (o49.2.2 12 (by decide)) (o49.2.2 13 (by decide))) (fun _ => okM_ap (by omega) (by rw [List.length_append]; omega) (okM_ap (by omega) (by omega) hk3 (okM_cg (k32 hq) w28 rfl)) ?_) (fun _ => ?_) (fun _ => ?_) ?_ (by omega)
            · rw [List.length_append, ← Nat.add_assoc, hop]
              exact okM_one (by omega) a49 b49 c49 (by rw [e47]; rfl)
            · show p ≤ ((chP B n (atP B n (if lm = 5 then 8 else 6) 1) (opT B n)) (nxP B n r.2.1)).2.1 ∧ ((chP B n (atP B n (if lm = 5 then 8 else 6) 1) (opT B n)) (nxP B n r.2.1)).2.1 ≤ n ∧ (r.2.2 ++ ((chP B n (atP B n (if lm = 5 then 8 else 6) 1) (opT B n)) (nxP B n r.2.1)).2.2 ++ [opS B n r.2.1]).length + p ≤ ((chP B n (atP B n (if lm = 5 then 8 else 6) 1) (opT B n)) (nxP B n r.2.1)).2.1
              rw [List.length_append, List.length_append, List.length_singleton]
              omega
            · show n ≤ k2_z + ((chP B n (atP B n (if lm = 5 then 8 else 6) 1) (opT B n)) (nxP B n r.2.1)).2.1
              omega
            · exact (lpP_on hr hop0 hq).symm.trans hR
          · have nb : ∀ g : Nat → Nat → Int32, psM B n g A ((chP B n (atP B n (if lm = 5 then 8 else 6) 1) (opT B n)) (nxP B n r.2.1)).1 ((chP B n (atP B n (if lm = 5 then 8 else 6) 1) (opT B n)) (nxP B n r.2.1)).2.1 → (g A 12).toInt ≠ 0 := fun g h_z => by rw [h_z.1]; omega
            refine r_aloadR0 dX12_readSum_4 ?_
            refine n_bipush dX12_readSum_5 (by decide) (fun r5 e5_z => ?_)
            refine q_callV1 zm_RX12_175 dX12_readSum_7 (shM_k hs) (by decide) rfl (Nat.le_of_ble_eq_true rfl) (Nat.le_of_ble_eq_true rfl) (Nat.le_of_ble_eq_true rfl) (Nat.le_of_ble_eq_true rfl) (Nat.le_of_ble_eq_true rfl) (s_X12_isSign G hs (fun r7 e7_z => ?_))
            refine t_ifne (t := 22) dX12_readSum_10 (by decide) (fun h10 => False.elim (by omega)) (fun h10 => ?_)
            refine r_aloadR0 dX12_readSum_13 ?_
            refine n_bipush dX12_readSum_14 (by decide) (fun r14 e14_z => ?_)
            refine q_callV1 zm_RX12_175 dX12_readSum_16 (shM_k hs) (by decide) rfl (Nat.le_of_ble_eq_true rfl) (Nat.le_of_ble_eq_true rfl) (Nat.le_of_ble_eq_true rfl) (Nat.le_of_ble_eq_true rfl) (Nat.le_of_ble_eq_true rfl) (s_X12_isSign G hs (fun r16 e16_z => ?_))
            refine t_ifeq (t := 55) dX12_readSum_19 (by decide) (fun h19 => False.elim (by omega)) (fun h19 => ?_)
            refine r_aloadR0 dX12_readSum_22 ?_
            refine m_getV (x := (f2_z A 10)) zf_RX12_92 rfl dX12_readSum_23 (shM_k hs) (rfl) ?_
            refine r_istore1 dX12_readSum_26 rfl ?_
            refine r_aloadR0 dX12_readSum_27 ?_
            refine q_callV0 zm_RX12_131 dX12_readSum_28 (shM_k hs) (by decide) rfl (Nat.le_of_ble_eq_true rfl) (Nat.le_of_ble_eq_true rfl) (Nat.le_of_ble_eq_true rfl) (Nat.le_of_ble_eq_true rfl) (Nat.le_of_ble_eq_true rfl) (s_X12_readsOn (p := teP B n r.2.1) G hs htp2 ht2.2.1 hte2 (fun g28 o28 t28 => ?_))
            have htp28 := tpM_of htp2 (o28.2.1 5 (by decide) (by decide) (by decide)) (o28.2.2 7 (by decide))
            have hp28 : psM B n g28 A 0 (nxP B n r.2.1) := ⟨by rw [o28.2.2 12 (by decide)]; exact hb2, fun _ => t28, fun h_z => absurd rfl h_z⟩
            have w28 : g28 (A + 2) = f2_z (A + 2) := o28.2.1 2 (by decide) (by decide) (by decide)
            refine r_aloadR0 dX12_readSum_31 ?_
            refine q_callV0 zm_RX12_184 dX12_readSum_32 (shM_k hs) (by decide) rfl (Nat.le_of_ble_eq_true rfl) (Nat.le_of_ble_eq_true rfl) (Nat.le_of_ble_eq_true rfl) (Nat.le_of_ble_eq_true rfl) (Nat.le_of_ble_eq_true rfl) (s_X12_readTerm_1 (lm := lm) (la := la) (u := u + r.2.2.length) G hs kw hld htp28 hp28 (by rw [o28.2.2 16 (by decide)]; exact hd2) (by rw [o28.2.2 17 (by decide), ofr.2.2 17 (by decide)]; exact hlm) (by rw [o28.2.2 18 (by decide), ofr.2.2 18 (by decide)]; exact hla) (by rw [w28]; exact hk3.1) h5 h29 h99 (by omega) (fun g32 o32 d32 p32 k32 => ?_))
            have of32 : frM A [2] [8, 9, 10, 11, 12, 13, 16] f g32 := frM_tr ofr (frM_tr (frM_su o28 (by decide) (by decide)) o32)
            refine r_aloadR0 dX12_readSum_35 ?_
            refine r_iload1 dX12_readSum_36 ?_
            refine n_bipush dX12_readSum_37 (by decide) (fun r37 e37 => ?_)
            refine t_icne (t := 47) dX12_readSum_39 (by decide) (fun h39 => ?_) (fun h39 => False.elim (by omega))
            refine n_bipush dX12_readSum_47 (by decide) (fun r47 e47 => ?_)
            refine q_callV1 zm_RX12_162 dX12_readSum_49 (shM_k hs) (by decide) rfl (Nat.le_of_ble_eq_true rfl) (Nat.le_of_ble_eq_true rfl) (Nat.le_of_ble_eq_true rfl) (Nat.le_of_ble_eq_true rfl) (Nat.le_of_ble_eq_true rfl) (s_X12_laysStep_x G hs (nb _ p32) ?_)
            refine r_goto (t := 4) dX12_readSum_52 (by decide) ?_
            exact ih _ k2_z ((chP B n (atP B n (if lm = 5 then 8 else 6) 1) (opT B n)) (nxP B n r.2.1)) _ of32 d32 p32 (fun h_z => absurd h_z hq) (fun h_z => absurd h_z hq) (fun h_z => absurd h_z hq) ((lpP_bad hq).trans ((lpP_sub hr hop0 hq).symm.trans hR)) (by omega)
        have hc45 : rkP B n r.2.1 ≠ 45 := fun h_z => hc_z (hrm.mp h_z)
        have hop : opS B n r.2.1 = 0 := (if_neg hcn).trans (if_neg hc_z)
        have hv := (lpP_end (B := B) (n := n) (k := k) (sub := (chP B n (atP B n (if lm = 5 then 8 else 6) 1) (opT B n))) hop).symm.trans hR
        refine r_aloadR0 dX12_readSum_4 ?_
        refine n_bipush dX12_readSum_5 (by decide) (fun r5 e5_z => ?_)
        refine q_callV1 zm_RX12_175 dX12_readSum_7 (shM_k hs) (by decide) rfl (Nat.le_of_ble_eq_true rfl) (Nat.le_of_ble_eq_true rfl) (Nat.le_of_ble_eq_true rfl) (Nat.le_of_ble_eq_true rfl) (Nat.le_of_ble_eq_true rfl) (s_X12_isSign G hs (fun r7 e7_z => ?_))
        refine t_ifne (t := 22) dX12_readSum_10 (by decide) (fun h10 => False.elim (by omega)) (fun h10 => ?_)
        refine r_aloadR0 dX12_readSum_13 ?_
        refine n_bipush dX12_readSum_14 (by decide) (fun r14 e14_z => ?_)
        refine q_callV1 zm_RX12_175 dX12_readSum_16 (shM_k hs) (by decide) rfl (Nat.le_of_ble_eq_true rfl) (Nat.le_of_ble_eq_true rfl) (Nat.le_of_ble_eq_true rfl) (Nat.le_of_ble_eq_true rfl) (Nat.le_of_ble_eq_true rfl) (s_X12_isSign G hs (fun r16 e16_z => ?_))
        refine t_ifeq (t := 55) dX12_readSum_19 (by decide) (fun h19 => ?_) (fun h19 => False.elim (by omega))
        refine r_vret dX12_readSum_55 rfl (Nat.le_of_ble_eq_true rfl) (Nat.le_of_ble_eq_true rfl) ?_
        rw [← hv] at hQ
        exact hQ _ ofr hd2 hp2 hk2
      · have hb2 : (f2_z A 12).toInt ≠ 0 := by rw [hp2.1]; omega
        have hv := (lpP_bad (B := B) (n := n) (k := k) (sub := (chP B n (atP B n (if lm = 5 then 8 else 6) 1) (opT B n))) (op := opS B n) hr).symm.trans hR
        refine r_aloadR0 dX12_readSum_4 ?_
        refine n_bipush dX12_readSum_5 (by decide) (fun r5 e5_z => ?_)
        refine q_callV1 zm_RX12_175 dX12_readSum_7 (shM_k hs) (by decide) rfl (Nat.le_of_ble_eq_true rfl) (Nat.le_of_ble_eq_true rfl) (Nat.le_of_ble_eq_true rfl) (Nat.le_of_ble_eq_true rfl) (Nat.le_of_ble_eq_true rfl) (s_X12_isSign G hs (fun r7 e7_z => ?_))
        refine t_ifne (t := 22) dX12_readSum_10 (by decide) (fun h10 => False.elim (by omega)) (fun h10 => ?_)
        refine r_aloadR0 dX12_readSum_13 ?_
        refine n_bipush dX12_readSum_14 (by decide) (fun r14 e14_z => ?_)
        refine q_callV1 zm_RX12_175 dX12_readSum_16 (shM_k hs) (by decide) rfl (Nat.le_of_ble_eq_true rfl) (Nat.le_of_ble_eq_true rfl) (Nat.le_of_ble_eq_true rfl) (Nat.le_of_ble_eq_true rfl) (Nat.le_of_ble_eq_true rfl) (s_X12_isSign G hs (fun r16 e16_z => ?_))
        refine t_ifeq (t := 55) dX12_readSum_19 (by decide) (fun h19 => ?_) (fun h19 => False.elim (by omega))
        refine r_vret dX12_readSum_55 rfl (Nat.le_of_ble_eq_true rfl) (Nat.le_of_ble_eq_true rfl) ?_
        rw [← hv] at hQ
        exact hQ _ ofr hd2 hp2 hk2
  refine r_aloadR0 dX12_readSum_0 ?_
  refine q_callV0 zm_RX12_184 dX12_readSum_1 (shM_k hs) (by decide) rfl (Nat.le_of_ble_eq_true rfl) (Nat.le_of_ble_eq_true rfl) (Nat.le_of_ble_eq_true rfl) (Nat.le_of_ble_eq_true rfl) (Nat.le_of_ble_eq_true rfl) (s_X12_readTerm_1 G hs kw hld htp hps hd16 hlm hla hu h5 h29 h99 hup (fun g1 o1 d1 p1 k1_z => ?_))
  have gp := hgd p ht.1
  exact lp _ g1 n ((chP B n (atP B n (if lm = 5 then 8 else 6) 1) (opT B n)) p) _ o1 d1 p1 k1_z (fun h_z => ⟨Nat.le_of_lt (gp.1 h_z).1, (gp.1 h_z).2.1, (gp.1 h_z).2.2.1⟩) (fun _ => Nat.le_add_right n _) rfl (Nat.lt_succ_self n)
set_option maxHeartbeats 4000000 in
set_option maxRecDepth 100000 in
theorem s_X12_readAtom_2 {g : zGT} {w : zW} {f : Nat → Nat → Int32} {j : Nat → Nat → Int64} {A : Nat} {B : Nat → Nat} {n : Nat} {wa wv : Nat → Nat} {kq : Nat} {p lm la u : Nat} {Q : Option Value → zW → Prop} {QX : String → zW → Prop} (G : zGok g) (hs : shM w A) (kw : kWd g wa wv kq) (hld : kLd g wa) (htp : tpM B n f A) (hps : psM B n f A 0 p) (hd16 : (f A 16).toInt = 4) (hlm : (f A 17).toInt = (lm : Nat)) (hla : (f A 18).toInt = (la : Nat)) (hu : (f (A + 2) lm).toInt = (u : Nat)) (h5 : lm ≤ 5) (h29 : 209 ≤ la) (h99 : la ≤ 2009) (hup : u ≤ p) (hQ : ∀ f2_z, frM A [2] [8, 9, 10, 11, 12, 13, 16] f f2_z → (f2_z A 16).toInt = 4 → psM B n f2_z A (atP B n (if lm = 5 then 8 else 6) 2 p).1 (atP B n (if lm = 5 then 8 else 6) 2 p).2.1 → ((atP B n (if lm = 5 then 8 else 6) 2 p).1 = 0 → okM f f2_z A lm la u (atP B n (if lm = 5 then 8 else 6) 2 p).2.2) → Q none (zM w f2_z j)) : zC g 18 yX12_readAtom cX12_readAtom 3 none [.ref A] (zM w f j) (0, 0) Q QX := by
  refine zC_of G (by decide +kernel) (Nat.le_of_ble_eq_true rfl) ?_
  have ht := hps.2.1 rfl
  have h12 := hps.1
  have hte := teP_le (B := B) ht.1
  have h900 := htp.2.1
  have h10 := ht.2.2.2.1
  by_cases hf : tkP B n p = 3 ∧ fcP (wdP B n p) < (if lm = 5 then 8 else 6)
  · have hne : tkP B n p ≠ 40 := by rw [hf.1]; decide
    have hv : atP B n (if lm = 5 then 8 else 6) 2 p = (0, nxP B n p, [1000 + fcP (wdP B n p)]) := (if_neg hne).trans (a1_fact hf)
    rw [hv] at hQ
    have hpn := tk_lt (B := B) (n := n) (s := p) (by rw [hf.1]; decide)
    have hf8 : fcP (wdP B n p) < 8 := Nat.lt_of_lt_of_le hf.2 (by split <;> decide)
    refine r_aloadR0 dX12_readAtom_0 ?_
    refine m_getV (x := (f A 12)) zf_RX12_112 rfl dX12_readAtom_1 (shM_k hs) (rfl) ?_
    refine t_ifeq (t := 8) dX12_readAtom_4 (by decide) (fun h4 => ?_) (fun h4 => False.elim (by omega))
    refine r_aloadR0 dX12_readAtom_8 ?_
    refine q_callV0 zm_RX12_206 dX12_readAtom_9 (shM_k hs) (by decide) rfl (Nat.le_of_ble_eq_true rfl) (Nat.le_of_ble_eq_true rfl) (Nat.le_of_ble_eq_true rfl) (Nat.le_of_ble_eq_true rfl) (Nat.le_of_ble_eq_true rfl) (s_X12_lawWord G hs kw hld htp hps hlm (fun r9 g9 o9 a9 b9 => ?_))
    have htp9 := tpM_of htp (o9.2.1 5 (by decide) (by decide) (by decide)) (o9.2.2 7 (by decide))
    have w2 : g9 (A + 2) = f (A + 2) := o9.2.1 2 (by decide) (by decide) (by decide)
    obtain ⟨e9_z, p9⟩ := a9 hf
    have n9 := p9.1
    refine r_istore1 dX12_readAtom_12 rfl ?_
    refine r_iload1 dX12_readAtom_13 ?_
    refine n_iconst dX12_readAtom_14 (by decide) (fun r14 e14_z => ?_)
    refine t_iceq (t := 29) dX12_readAtom_15 (by decide) (fun h15 => False.elim (by omega)) (fun h15 => ?_)
    refine r_aloadR0 dX12_readAtom_18 ?_
    refine n_bipush dX12_readAtom_19 (by decide) (fun r19 e19_z => ?_)
    refine r_iload1 dX12_readAtom_21 ?_
    refine n_iadd dX12_readAtom_22 (by omega) (fun r22 e22_z => ?_)
    refine q_callV1 zm_RX12_162 dX12_readAtom_23 (shM_k hs) (by decide) rfl (Nat.le_of_ble_eq_true rfl) (Nat.le_of_ble_eq_true rfl) (Nat.le_of_ble_eq_true rfl) (Nat.le_of_ble_eq_true rfl) (Nat.le_of_ble_eq_true rfl) (s_X12_laysStep (lm := lm) (la := la) (u := u) G hs p9.1 (by rw [o9.2.2 17 (by decide)]; exact hlm) (by rw [o9.2.2 18 (by decide)]; exact hla) (by rw [w2]; exact hu) h5 h29 (by omega) (fun g23 o23 a23 b23 c23 => ?_))
    refine r_goto (t := 83) dX12_readAtom_26 (by decide) ?_
    refine r_vret dX12_readAtom_83 rfl (Nat.le_of_ble_eq_true rfl) (Nat.le_of_ble_eq_true rfl) ?_
    refine hQ _ (frM_tr (frM_su o9 (by decide) (by decide)) (frM_su o23 (by decide) (by decide))) (by rw [o23.2.2 16 (by decide), o9.2.2 16 (by decide)]; exact hd16) (psM_of p9 (o23.2.2 8 (by decide)) (o23.2.2 9 (by decide)) (o23.2.2 10 (by decide)) (o23.2.2 11 (by decide)) (o23.2.2 12 (by decide)) (o23.2.2 13 (by decide))) (fun _ => okM_cg (okM_one (by omega) a23 b23 c23 ?_) w2 rfl)
    unfold rfO
    rw [if_neg (by omega), if_pos (by omega)]
    omega
  by_cases hp : tkP B n p = 40
  · have hv : atP B n (if lm = 5 then 8 else 6) 2 p = clP B n 41 (suP B n (atP B n (if lm = 5 then 8 else 6) 1) (nxP B n p)) := if_pos hp
    rw [hv] at hQ
    have hrk := (rk4 (B := B) (n := n) (s := p) (c := 40) (by decide)).mpr hp
    have hpn := tk_lt (B := B) (n := n) (s := p) (by rw [hp]; decide)
    have hnx := nxP_gt (B := B) hpn
    by_cases hr : (suP B n (atP B n (if lm = 5 then 8 else 6) 1) (nxP B n p)).1 = 0
    · by_cases h41 : tkP B n (suP B n (atP B n (if lm = 5 then 8 else 6) 1) (nxP B n p)).2.1 = 41
      · have hv2 : clP B n 41 (suP B n (atP B n (if lm = 5 then 8 else 6) 1) (nxP B n p)) = (0, nxP B n (suP B n (atP B n (if lm = 5 then 8 else 6) 1) (nxP B n p)).2.1, (suP B n (atP B n (if lm = 5 then 8 else 6) 1) (nxP B n p)).2.2) := (if_neg (not_not_intro hr)).trans (if_pos h41)
        rw [hv2] at hQ
        refine r_aloadR0 dX12_readAtom_0 ?_
        refine m_getV (x := (f A 12)) zf_RX12_112 rfl dX12_readAtom_1 (shM_k hs) (rfl) ?_
        refine t_ifeq (t := 8) dX12_readAtom_4 (by decide) (fun h4 => ?_) (fun h4 => False.elim (by omega))
        refine r_aloadR0 dX12_readAtom_8 ?_
        refine q_callV0 zm_RX12_206 dX12_readAtom_9 (shM_k hs) (by decide) rfl (Nat.le_of_ble_eq_true rfl) (Nat.le_of_ble_eq_true rfl) (Nat.le_of_ble_eq_true rfl) (Nat.le_of_ble_eq_true rfl) (Nat.le_of_ble_eq_true rfl) (s_X12_lawWord G hs kw hld htp hps hlm (fun r9 g9 o9 a9 b9 => ?_))
        have htp9 := tpM_of htp (o9.2.1 5 (by decide) (by decide) (by decide)) (o9.2.2 7 (by decide))
        have w2 : g9 (A + 2) = f (A + 2) := o9.2.1 2 (by decide) (by decide) (by decide)
        obtain ⟨e9_z, p9⟩ := b9 hf
        have n9 := p9.1
        have t9 := p9.2.1 rfl
        have k9 := t9.2.2.2.1
        have d9 : (g9 A 16).toInt = 4 := by rw [o9.2.2 16 (by decide)]; exact hd16
        refine r_istore1 dX12_readAtom_12 rfl ?_
        refine r_iload1 dX12_readAtom_13 ?_
        refine n_iconst dX12_readAtom_14 (by decide) (fun r14 e14_z => ?_)
        refine t_iceq (t := 29) dX12_readAtom_15 (by decide) (fun h15 => ?_) (fun h15 => False.elim (by omega))
        refine r_aloadR0 dX12_readAtom_29 ?_
        refine n_bipush dX12_readAtom_30 (by decide) (fun r30 e30 => ?_)
        refine q_callV1 zm_RX12_175 dX12_readAtom_32 (shM_k hs) (by decide) rfl (Nat.le_of_ble_eq_true rfl) (Nat.le_of_ble_eq_true rfl) (Nat.le_of_ble_eq_true rfl) (Nat.le_of_ble_eq_true rfl) (Nat.le_of_ble_eq_true rfl) (s_X12_isSign G hs (fun r32 e32 => ?_))
        refine t_ifeq (t := 65) dX12_readAtom_35 (by decide) (fun h35 => False.elim (by omega)) (fun h35 => ?_)
        refine r_aloadR0 dX12_readAtom_38 ?_
        refine q_callV0 zm_RX12_172 dX12_readAtom_39 (shM_k hs) (by decide) rfl (Nat.le_of_ble_eq_true rfl) (Nat.le_of_ble_eq_true rfl) (Nat.le_of_ble_eq_true rfl) (Nat.le_of_ble_eq_true rfl) (Nat.le_of_ble_eq_true rfl) (s_X12_goesIn (d := 4) G hs htp9 p9 d9 (by decide) (by rw [hp]; decide) (fun g39 o39 a39 b39 c39 => ?_))
        have p39 := c39 (by decide)
        have htp39 := tpM_of htp9 (o39.2.1 5 (by decide) (by decide) (by decide)) (o39.2.2 7 (by decide))
        have w39 : g39 (A + 2) = f (A + 2) := (o39.2.1 2 (by decide) (by decide) (by decide)).trans w2
        refine r_aloadR0 dX12_readAtom_42 ?_
        refine q_callV0 zm_RX12_181 dX12_readAtom_43 (shM_k hs) (by decide) rfl (Nat.le_of_ble_eq_true rfl) (Nat.le_of_ble_eq_true rfl) (Nat.le_of_ble_eq_true rfl) (Nat.le_of_ble_eq_true rfl) (Nat.le_of_ble_eq_true rfl) (s_X12_readSum_1 (lm := lm) (la := la) (u := u) G hs kw hld htp39 p39 (by rw [a39]; rfl) (by rw [o39.2.2 17 (by decide), o9.2.2 17 (by decide)]; exact hlm) (by rw [o39.2.2 18 (by decide), o9.2.2 18 (by decide)]; exact hla) (by rw [w39]; exact hu) h5 h29 h99 (by omega) (fun g43 o43 d43 p43 k43 => ?_))
        have p43b : psM B n g43 A (suP B n (atP B n (if lm = 5 then 8 else 6) 1) (nxP B n p)).1 (suP B n (atP B n (if lm = 5 then 8 else 6) 1) (nxP B n p)).2.1 := p43
        have of43 : frM A [2] [8, 9, 10, 11, 12, 13, 16] f g43 := frM_tr (frM_tr (frM_su o9 (by decide) (by decide)) (frM_su o39 (by decide) (by decide))) o43
        have htp43 := tpM_of htp (of43.2.1 5 (by decide) (by decide) (by decide)) (of43.2.2 7 (by decide))
        have p43c := p43b
        rw [hr] at p43c
        refine r_aloadR0 dX12_readAtom_46 ?_
        refine n_bipush dX12_readAtom_47 (by decide) (fun r47 e47 => ?_)
        refine q_callV1 zm_RX12_151 dX12_readAtom_49 (shM_k hs) (by decide) rfl (Nat.le_of_ble_eq_true rfl) (Nat.le_of_ble_eq_true rfl) (Nat.le_of_ble_eq_true rfl) (Nat.le_of_ble_eq_true rfl) (Nat.le_of_ble_eq_true rfl) (s_X12_mustSign (p := (suP B n (atP B n (if lm = 5 then 8 else 6) 1) (nxP B n p)).2.1) (c := 41) G hs htp43 p43c e47 (by decide) (fun g49 o49 a49 b49 => ?_))
        have d49 : (g49 A 16).toInt = 5 := by rw [o49.2.2 16 (by decide)]; exact d43
        refine r_aloadR0 dX12_readAtom_52 ?_
        refine r_dup dX12_readAtom_53 rfl ?_
        refine m_getV (x := (g49 A 16)) zf_RX12_154 rfl dX12_readAtom_54 (shM_k hs) (rfl) ?_
        refine n_iconst dX12_readAtom_57 (by decide) (fun r57 e57 => ?_)
        refine n_isub dX12_readAtom_58 (by omega) (fun r58 e58 => ?_)
        refine m_putI zf_RX12_154 (by intro C T N h_z; cases h_z; rfl) rfl dX12_readAtom_59 (shM_k hs) ?_
        obtain ⟨g59, hg59⟩ : ∃ g9, g9 = zu g49 A 16 r58 := ⟨_, rfl⟩
        rw [← hg59]
        have og59 : frM A [] [16] g49 g59 := by rw [hg59]; exact frM_zk frM_rf (by decide)
        have vg59 : g59 A 16 = r58 := by rw [hg59]; exact zu_at
        have vt59 : (g59 A 16).toInt = r58.toInt := by rw [vg59]
        refine r_goto (t := 83) dX12_readAtom_62 (by decide) ?_
        refine r_vret dX12_readAtom_83 rfl (Nat.le_of_ble_eq_true rfl) (Nat.le_of_ble_eq_true rfl) ?_
        exact hQ _ (frM_tr (frM_tr of43 (frM_su o49 (by decide) (by decide))) (frM_su og59 (by decide) (by decide))) (by rw [vt59]; omega) (psM_of (a49 h41) (og59.2.2 8 (by decide)) (og59.2.2 9 (by decide)) (og59.2.2 10 (by decide)) (og59.2.2 11 (by decide)) (og59.2.2 12 (by decide)) (og59.2.2 13 (by decide))) (fun _ => okM_cg (k43 hr) w39 ((og59.2.1 2 (by decide) (by decide) (by decide)).trans (o49.2.1 2 (by decide) (by decide) (by decide))))
      · have hv2 : clP B n 41 (suP B n (atP B n (if lm = 5 then 8 else 6) 1) (nxP B n p)) = (baP B n (suP B n (atP B n (if lm = 5 then 8 else 6) 1) (nxP B n p)).2.1, (suP B n (atP B n (if lm = 5 then 8 else 6) 1) (nxP B n p)).2.1, []) := (if_neg (not_not_intro hr)).trans (if_neg h41)
        rw [hv2] at hQ
        refine r_aloadR0 dX12_readAtom_0 ?_
        refine m_getV (x := (f A 12)) zf_RX12_112 rfl dX12_readAtom_1 (shM_k hs) (rfl) ?_
        refine t_ifeq (t := 8) dX12_readAtom_4 (by decide) (fun h4 => ?_) (fun h4 => False.elim (by omega))
        refine r_aloadR0 dX12_readAtom_8 ?_
        refine q_callV0 zm_RX12_206 dX12_readAtom_9 (shM_k hs) (by decide) rfl (Nat.le_of_ble_eq_true rfl) (Nat.le_of_ble_eq_true rfl) (Nat.le_of_ble_eq_true rfl) (Nat.le_of_ble_eq_true rfl) (Nat.le_of_ble_eq_true rfl) (s_X12_lawWord G hs kw hld htp hps hlm (fun r9 g9 o9 a9 b9 => ?_))
        have htp9 := tpM_of htp (o9.2.1 5 (by decide) (by decide) (by decide)) (o9.2.2 7 (by decide))
        have w2 : g9 (A + 2) = f (A + 2) := o9.2.1 2 (by decide) (by decide) (by decide)
        obtain ⟨e9_z, p9⟩ := b9 hf
        have n9 := p9.1
        have t9 := p9.2.1 rfl
        have k9 := t9.2.2.2.1
        have d9 : (g9 A 16).toInt = 4 := by rw [o9.2.2 16 (by decide)]; exact hd16
        refine r_istore1 dX12_readAtom_12 rfl ?_
        refine r_iload1 dX12_readAtom_13 ?_
        refine n_iconst dX12_readAtom_14 (by decide) (fun r14 e14_z => ?_)
        refine t_iceq (t := 29) dX12_readAtom_15 (by decide) (fun h15 => ?_) (fun h15 => False.elim (by omega))
        refine r_aloadR0 dX12_readAtom_29 ?_
        refine n_bipush dX12_readAtom_30 (by decide) (fun r30 e30 => ?_)
        refine q_callV1 zm_RX12_175 dX12_readAtom_32 (shM_k hs) (by decide) rfl (Nat.le_of_ble_eq_true rfl) (Nat.le_of_ble_eq_true rfl) (Nat.le_of_ble_eq_true rfl) (Nat.le_of_ble_eq_true rfl) (Nat.le_of_ble_eq_true rfl) (s_X12_isSign G hs (fun r32 e32 => ?_))
        refine t_ifeq (t := 65) dX12_readAtom_35 (by decide) (fun h35 => False.elim (by omega)) (fun h35 => ?_)
        refine r_aloadR0 dX12_readAtom_38 ?_
        refine q_callV0 zm_RX12_172 dX12_readAtom_39 (shM_k hs) (by decide) rfl (Nat.le_of_ble_eq_true rfl) (Nat.le_of_ble_eq_true rfl) (Nat.le_of_ble_eq_true rfl) (Nat.le_of_ble_eq_true rfl) (Nat.le_of_ble_eq_true rfl) (s_X12_goesIn (d := 4) G hs htp9 p9 d9 (by decide) (by rw [hp]; decide) (fun g39 o39 a39 b39 c39 => ?_))
        have p39 := c39 (by decide)
        have htp39 := tpM_of htp9 (o39.2.1 5 (by decide) (by decide) (by decide)) (o39.2.2 7 (by decide))
        have w39 : g39 (A + 2) = f (A + 2) := (o39.2.1 2 (by decide) (by decide) (by decide)).trans w2
        refine r_aloadR0 dX12_readAtom_42 ?_
        refine q_callV0 zm_RX12_181 dX12_readAtom_43 (shM_k hs) (by decide) rfl (Nat.le_of_ble_eq_true rfl) (Nat.le_of_ble_eq_true rfl) (Nat.le_of_ble_eq_true rfl) (Nat.le_of_ble_eq_true rfl) (Nat.le_of_ble_eq_true rfl) (s_X12_readSum_1 (lm := lm) (la := la) (u := u) G hs kw hld htp39 p39 (by rw [a39]; rfl) (by rw [o39.2.2 17 (by decide), o9.2.2 17 (by decide)]; exact hlm) (by rw [o39.2.2 18 (by decide), o9.2.2 18 (by decide)]; exact hla) (by rw [w39]; exact hu) h5 h29 h99 (by omega) (fun g43 o43 d43 p43 k43 => ?_))
        have p43b : psM B n g43 A (suP B n (atP B n (if lm = 5 then 8 else 6) 1) (nxP B n p)).1 (suP B n (atP B n (if lm = 5 then 8 else 6) 1) (nxP B n p)).2.1 := p43
        have of43 : frM A [2] [8, 9, 10, 11, 12, 13, 16] f g43 := frM_tr (frM_tr (frM_su o9 (by decide) (by decide)) (frM_su o39 (by decide) (by decide))) o43
        have htp43 := tpM_of htp (of43.2.1 5 (by decide) (by decide) (by decide)) (of43.2.2 7 (by decide))
        have p43c := p43b
        rw [hr] at p43c
        refine r_aloadR0 dX12_readAtom_46 ?_
        refine n_bipush dX12_readAtom_47 (by decide) (fun r47 e47 => ?_)
        refine q_callV1 zm_RX12_151 dX12_readAtom_49 (shM_k hs) (by decide) rfl (Nat.le_of_ble_eq_true rfl) (Nat.le_of_ble_eq_true rfl) (Nat.le_of_ble_eq_true rfl) (Nat.le_of_ble_eq_true rfl) (Nat.le_of_ble_eq_true rfl) (s_X12_mustSign (p := (suP B n (atP B n (if lm = 5 then 8 else 6) 1) (nxP B n p)).2.1) (c := 41) G hs htp43 p43c e47 (by decide) (fun g49 o49 a49 b49 => ?_))
        have d49 : (g49 A 16).toInt = 5 := by rw [o49.2.2 16 (by decide)]; exact d43
        refine r_aloadR0 dX12_readAtom_52 ?_
        refine r_dup dX12_readAtom_53 rfl ?_
        refine m_getV (x := (g49 A 16)) zf_RX12_154 rfl dX12_readAtom_54 (shM_k hs) (rfl) ?_
        refine n_iconst dX12_readAtom_57 (by decide) (fun r57 e57 => ?_)
        refine n_isub dX12_readAtom_58 (by omega) (fun r58 e58 => ?_)
        refine m_putI zf_RX12_154 (by intro C T N h_z; cases h_z; rfl) rfl dX12_readAtom_59 (shM_k hs) ?_
        obtain ⟨g59, hg59⟩ : ∃ g9, g9 = zu g49 A 16 r58 := ⟨_, rfl⟩
        rw [← hg59]
        have og59 : frM A [] [16] g49 g59 := by rw [hg59]; exact frM_zk frM_rf (by decide)
        have vg59 : g59 A 16 = r58 := by rw [hg59]; exact zu_at
        have vt59 : (g59 A 16).toInt = r58.toInt := by rw [vg59]
        refine r_goto (t := 83) dX12_readAtom_62 (by decide) ?_
        refine r_vret dX12_readAtom_83 rfl (Nat.le_of_ble_eq_true rfl) (Nat.le_of_ble_eq_true rfl) ?_
        exact hQ _ (frM_tr (frM_tr of43 (frM_su o49 (by decide) (by decide))) (frM_su og59 (by decide) (by decide))) (by rw [vt59]; omega) (psM_of (b49 h41) (og59.2.2 8 (by decide)) (og59.2.2 9 (by decide)) (og59.2.2 10 (by decide)) (og59.2.2 11 (by decide)) (og59.2.2 12 (by decide)) (og59.2.2 13 (by decide))) (fun h_z => absurd h_z ba_bd.1)
    · have hv2 : clP B n 41 (suP B n (atP B n (if lm = 5 then 8 else 6) 1) (nxP B n p)) = (suP B n (atP B n (if lm = 5 then 8 else 6) 1) (nxP B n p)) := if_pos hr
      rw [hv2] at hQ
      refine r_aloadR0 dX12_readAtom_0 ?_
      refine m_getV (x := (f A 12)) zf_RX12_112 rfl dX12_readAtom_1 (shM_k hs) (rfl) ?_
      refine t_ifeq (t := 8) dX12_readAtom_4 (by decide) (fun h4 => ?_) (fun h4 => False.elim (by omega))
      refine r_aloadR0 dX12_readAtom_8 ?_
      refine q_callV0 zm_RX12_206 dX12_readAtom_9 (shM_k hs) (by decide) rfl (Nat.le_of_ble_eq_true rfl) (Nat.le_of_ble_eq_true rfl) (Nat.le_of_ble_eq_true rfl) (Nat.le_of_ble_eq_true rfl) (Nat.le_of_ble_eq_true rfl) (s_X12_lawWord G hs kw hld htp hps hlm (fun r9 g9 o9 a9 b9 => ?_))
      have htp9 := tpM_of htp (o9.2.1 5 (by decide) (by decide) (by decide)) (o9.2.2 7 (by decide))
      have w2 : g9 (A + 2) = f (A + 2) := o9.2.1 2 (by decide) (by decide) (by decide)
      obtain ⟨e9_z, p9⟩ := b9 hf
      have n9 := p9.1
      have t9 := p9.2.1 rfl
      have k9 := t9.2.2.2.1
      have d9 : (g9 A 16).toInt = 4 := by rw [o9.2.2 16 (by decide)]; exact hd16
      refine r_istore1 dX12_readAtom_12 rfl ?_
      refine r_iload1 dX12_readAtom_13 ?_
      refine n_iconst dX12_readAtom_14 (by decide) (fun r14 e14_z => ?_)
      refine t_iceq (t := 29) dX12_readAtom_15 (by decide) (fun h15 => ?_) (fun h15 => False.elim (by omega))
      refine r_aloadR0 dX12_readAtom_29 ?_
      refine n_bipush dX12_readAtom_30 (by decide) (fun r30 e30 => ?_)
      refine q_callV1 zm_RX12_175 dX12_readAtom_32 (shM_k hs) (by decide) rfl (Nat.le_of_ble_eq_true rfl) (Nat.le_of_ble_eq_true rfl) (Nat.le_of_ble_eq_true rfl) (Nat.le_of_ble_eq_true rfl) (Nat.le_of_ble_eq_true rfl) (s_X12_isSign G hs (fun r32 e32 => ?_))
      refine t_ifeq (t := 65) dX12_readAtom_35 (by decide) (fun h35 => False.elim (by omega)) (fun h35 => ?_)
      refine r_aloadR0 dX12_readAtom_38 ?_
      refine q_callV0 zm_RX12_172 dX12_readAtom_39 (shM_k hs) (by decide) rfl (Nat.le_of_ble_eq_true rfl) (Nat.le_of_ble_eq_true rfl) (Nat.le_of_ble_eq_true rfl) (Nat.le_of_ble_eq_true rfl) (Nat.le_of_ble_eq_true rfl) (s_X12_goesIn (d := 4) G hs htp9 p9 d9 (by decide) (by rw [hp]; decide) (fun g39 o39 a39 b39 c39 => ?_))
      have p39 := c39 (by decide)
      have htp39 := tpM_of htp9 (o39.2.1 5 (by decide) (by decide) (by decide)) (o39.2.2 7 (by decide))
      have w39 : g39 (A + 2) = f (A + 2) := (o39.2.1 2 (by decide) (by decide) (by decide)).trans w2
      refine r_aloadR0 dX12_readAtom_42 ?_
      refine q_callV0 zm_RX12_181 dX12_readAtom_43 (shM_k hs) (by decide) rfl (Nat.le_of_ble_eq_true rfl) (Nat.le_of_ble_eq_true rfl) (Nat.le_of_ble_eq_true rfl) (Nat.le_of_ble_eq_true rfl) (Nat.le_of_ble_eq_true rfl) (s_X12_readSum_1 (lm := lm) (la := la) (u := u) G hs kw hld htp39 p39 (by rw [a39]; rfl) (by rw [o39.2.2 17 (by decide), o9.2.2 17 (by decide)]; exact hlm) (by rw [o39.2.2 18 (by decide), o9.2.2 18 (by decide)]; exact hla) (by rw [w39]; exact hu) h5 h29 h99 (by omega) (fun g43 o43 d43 p43 k43 => ?_))
      have p43b : psM B n g43 A (suP B n (atP B n (if lm = 5 then 8 else 6) 1) (nxP B n p)).1 (suP B n (atP B n (if lm = 5 then 8 else 6) 1) (nxP B n p)).2.1 := p43
      have of43 : frM A [2] [8, 9, 10, 11, 12, 13, 16] f g43 := frM_tr (frM_tr (frM_su o9 (by decide) (by decide)) (frM_su o39 (by decide) (by decide))) o43
      have htp43 := tpM_of htp (of43.2.1 5 (by decide) (by decide) (by decide)) (of43.2.2 7 (by decide))
      have nb : (g43 A 12).toInt ≠ 0 := by rw [p43b.1]; omega
      have d43b : (g43 A 16).toInt = 5 := d43
      refine r_aloadR0 dX12_readAtom_46 ?_
      refine n_bipush dX12_readAtom_47 (by decide) (fun r47 e47 => ?_)
      refine q_callV1 zm_RX12_151 dX12_readAtom_49 (shM_k hs) (by decide) rfl (Nat.le_of_ble_eq_true rfl) (Nat.le_of_ble_eq_true rfl) (Nat.le_of_ble_eq_true rfl) (Nat.le_of_ble_eq_true rfl) (Nat.le_of_ble_eq_true rfl) (s_X12_mustSign_x G hs nb ?_)
      refine r_aloadR0 dX12_readAtom_52 ?_
      refine r_dup dX12_readAtom_53 rfl ?_
      refine m_getV (x := (g43 A 16)) zf_RX12_154 rfl dX12_readAtom_54 (shM_k hs) (rfl) ?_
      refine n_iconst dX12_readAtom_57 (by decide) (fun r57 e57 => ?_)
      refine n_isub dX12_readAtom_58 (by omega) (fun r58 e58 => ?_)
      refine m_putI zf_RX12_154 (by intro C T N h_z; cases h_z; rfl) rfl dX12_readAtom_59 (shM_k hs) ?_
      obtain ⟨g59, hg59⟩ : ∃ g9, g9 = zu g43 A 16 r58 := ⟨_, rfl⟩
      rw [← hg59]
      have og59 : frM A [] [16] g43 g59 := by rw [hg59]; exact frM_zk frM_rf (by decide)
      have vg59 : g59 A 16 = r58 := by rw [hg59]; exact zu_at
      have vt59 : (g59 A 16).toInt = r58.toInt := by rw [vg59]
      refine r_goto (t := 83) dX12_readAtom_62 (by decide) ?_
      refine r_vret dX12_readAtom_83 rfl (Nat.le_of_ble_eq_true rfl) (Nat.le_of_ble_eq_true rfl) ?_
      exact hQ _ (frM_tr of43 (frM_su og59 (by decide) (by decide))) (by rw [vt59]; omega) (psM_of p43b (og59.2.2 8 (by decide)) (og59.2.2 9 (by decide)) (og59.2.2 10 (by decide)) (og59.2.2 11 (by decide)) (og59.2.2 12 (by decide)) (og59.2.2 13 (by decide))) (fun h_z => absurd h_z hr)
  have hrk : rkP B n p ≠ 40 := fun h_z => hp ((rk4 (B := B) (n := n) (s := p) (c := 40) (by decide)).mp h_z)
  have hv0 : atP B n (if lm = 5 then 8 else 6) 2 p = a1P B n (if lm = 5 then 8 else 6) p := if_neg hp
  by_cases h2 : tkP B n p = 2
  · have hv : atP B n (if lm = 5 then 8 else 6) 2 p = (0, nxP B n p, [nmP B n p]) := hv0.trans (a1_num h2)
    rw [hv] at hQ
    have hpn := (tk2 h2).1
    have hnm := nm_bd h2
    have hnu : nuH B n 999 p = (0, nxP B n p, nmP B n p) := by unfold nuH; rw [if_pos h2, if_neg (by omega)]
    refine r_aloadR0 dX12_readAtom_0 ?_
    refine m_getV (x := (f A 12)) zf_RX12_112 rfl dX12_readAtom_1 (shM_k hs) (rfl) ?_
    refine t_ifeq (t := 8) dX12_readAtom_4 (by decide) (fun h4 => ?_) (fun h4 => False.elim (by omega))
    refine r_aloadR0 dX12_readAtom_8 ?_
    refine q_callV0 zm_RX12_206 dX12_readAtom_9 (shM_k hs) (by decide) rfl (Nat.le_of_ble_eq_true rfl) (Nat.le_of_ble_eq_true rfl) (Nat.le_of_ble_eq_true rfl) (Nat.le_of_ble_eq_true rfl) (Nat.le_of_ble_eq_true rfl) (s_X12_lawWord G hs kw hld htp hps hlm (fun r9 g9 o9 a9 b9 => ?_))
    have htp9 := tpM_of htp (o9.2.1 5 (by decide) (by decide) (by decide)) (o9.2.2 7 (by decide))
    have w2 : g9 (A + 2) = f (A + 2) := o9.2.1 2 (by decide) (by decide) (by decide)
    obtain ⟨e9_z, p9⟩ := b9 hf
    have n9 := p9.1
    have t9 := p9.2.1 rfl
    have k9 := t9.2.2.2.1
    have d9 : (g9 A 16).toInt = 4 := by rw [o9.2.2 16 (by decide)]; exact hd16
    refine r_istore1 dX12_readAtom_12 rfl ?_
    refine r_iload1 dX12_readAtom_13 ?_
    refine n_iconst dX12_readAtom_14 (by decide) (fun r14 e14_z => ?_)
    refine t_iceq (t := 29) dX12_readAtom_15 (by decide) (fun h15 => ?_) (fun h15 => False.elim (by omega))
    refine r_aloadR0 dX12_readAtom_29 ?_
    refine n_bipush dX12_readAtom_30 (by decide) (fun r30 e30 => ?_)
    refine q_callV1 zm_RX12_175 dX12_readAtom_32 (shM_k hs) (by decide) rfl (Nat.le_of_ble_eq_true rfl) (Nat.le_of_ble_eq_true rfl) (Nat.le_of_ble_eq_true rfl) (Nat.le_of_ble_eq_true rfl) (Nat.le_of_ble_eq_true rfl) (s_X12_isSign G hs (fun r32 e32 => ?_))
    refine t_ifeq (t := 65) dX12_readAtom_35 (by decide) (fun h35 => ?_) (fun h35 => False.elim (by omega))
    refine r_aloadR0 dX12_readAtom_65 ?_
    refine n_iconst dX12_readAtom_66 (by decide) (fun r66 e66 => ?_)
    refine n_sipush dX12_readAtom_67 (by decide) (fun r67 e67 => ?_)
    refine q_callV2 zm_RX12_209 dX12_readAtom_70 (shM_k hs) (by decide) rfl (Nat.le_of_ble_eq_true rfl) (Nat.le_of_ble_eq_true rfl) (Nat.le_of_ble_eq_true rfl) (Nat.le_of_ble_eq_true rfl) (Nat.le_of_ble_eq_true rfl) (s_X12_number (p := p) (h_z := 999) G hs htp9 p9 e66 e67 (fun r70 g70 o70 a70 b70 c70 => ?_))
    rw [hnu] at a70 b70
    have e70 : r70.toInt = (nmP B n p : Nat) := b70 rfl
    have w3 : g70 (A + 2) = f (A + 2) := (o70.2.1 2 (by decide) (by decide) (by decide)).trans w2
    refine r_istore2 dX12_readAtom_73 rfl ?_
    refine r_aloadR0 dX12_readAtom_74 ?_
    refine n_sipush dX12_readAtom_75 (by decide) (fun r75 e75 => ?_)
    refine r_iload2 dX12_readAtom_78 ?_
    refine n_iadd dX12_readAtom_79 (by omega) (fun r79 e79 => ?_)
    refine q_callV1 zm_RX12_162 dX12_readAtom_80 (shM_k hs) (by decide) rfl (Nat.le_of_ble_eq_true rfl) (Nat.le_of_ble_eq_true rfl) (Nat.le_of_ble_eq_true rfl) (Nat.le_of_ble_eq_true rfl) (Nat.le_of_ble_eq_true rfl) (s_X12_laysStep (lm := lm) (la := la) (u := u) G hs a70.1 (by rw [o70.2.2 17 (by decide), o9.2.2 17 (by decide)]; exact hlm) (by rw [o70.2.2 18 (by decide), o9.2.2 18 (by decide)]; exact hla) (by rw [w3]; exact hu) h5 h29 (by omega) (fun g80 o80 a80 b80 c80 => ?_))
    refine r_vret dX12_readAtom_83 rfl (Nat.le_of_ble_eq_true rfl) (Nat.le_of_ble_eq_true rfl) ?_
    refine hQ _ (frM_tr (frM_tr (frM_su o9 (by decide) (by decide)) (frM_su o70 (by decide) (by decide))) (frM_su o80 (by decide) (by decide))) (by rw [o80.2.2 16 (by decide), o70.2.2 16 (by decide)]; exact d9) (psM_of a70 (o80.2.2 8 (by decide)) (o80.2.2 9 (by decide)) (o80.2.2 10 (by decide)) (o80.2.2 11 (by decide)) (o80.2.2 12 (by decide)) (o80.2.2 13 (by decide))) (fun _ => okM_cg (okM_one (by omega) a80 b80 c80 ?_) w3 rfl)
    unfold rfO
    rw [if_pos (by omega)]
    omega
  · have hv : atP B n (if lm = 5 then 8 else 6) 2 p = (baP B n p, p, []) := hv0.trans (a1_bad h2 hf)
    rw [hv] at hQ
    have hba := ba_bd (B := B) (n := n) (s := p)
    have hnu : nuH B n 999 p = (baP B n p, p, 0) := by unfold nuH; rw [if_neg h2]
    refine r_aloadR0 dX12_readAtom_0 ?_
    refine m_getV (x := (f A 12)) zf_RX12_112 rfl dX12_readAtom_1 (shM_k hs) (rfl) ?_
    refine t_ifeq (t := 8) dX12_readAtom_4 (by decide) (fun h4 => ?_) (fun h4 => False.elim (by omega))
    refine r_aloadR0 dX12_readAtom_8 ?_
    refine q_callV0 zm_RX12_206 dX12_readAtom_9 (shM_k hs) (by decide) rfl (Nat.le_of_ble_eq_true rfl) (Nat.le_of_ble_eq_true rfl) (Nat.le_of_ble_eq_true rfl) (Nat.le_of_ble_eq_true rfl) (Nat.le_of_ble_eq_true rfl) (s_X12_lawWord G hs kw hld htp hps hlm (fun r9 g9 o9 a9 b9 => ?_))
    have htp9 := tpM_of htp (o9.2.1 5 (by decide) (by decide) (by decide)) (o9.2.2 7 (by decide))
    have w2 : g9 (A + 2) = f (A + 2) := o9.2.1 2 (by decide) (by decide) (by decide)
    obtain ⟨e9_z, p9⟩ := b9 hf
    have n9 := p9.1
    have t9 := p9.2.1 rfl
    have k9 := t9.2.2.2.1
    have d9 : (g9 A 16).toInt = 4 := by rw [o9.2.2 16 (by decide)]; exact hd16
    refine r_istore1 dX12_readAtom_12 rfl ?_
    refine r_iload1 dX12_readAtom_13 ?_
    refine n_iconst dX12_readAtom_14 (by decide) (fun r14 e14_z => ?_)
    refine t_iceq (t := 29) dX12_readAtom_15 (by decide) (fun h15 => ?_) (fun h15 => False.elim (by omega))
    refine r_aloadR0 dX12_readAtom_29 ?_
    refine n_bipush dX12_readAtom_30 (by decide) (fun r30 e30 => ?_)
    refine q_callV1 zm_RX12_175 dX12_readAtom_32 (shM_k hs) (by decide) rfl (Nat.le_of_ble_eq_true rfl) (Nat.le_of_ble_eq_true rfl) (Nat.le_of_ble_eq_true rfl) (Nat.le_of_ble_eq_true rfl) (Nat.le_of_ble_eq_true rfl) (s_X12_isSign G hs (fun r32 e32 => ?_))
    refine t_ifeq (t := 65) dX12_readAtom_35 (by decide) (fun h35 => ?_) (fun h35 => False.elim (by omega))
    refine r_aloadR0 dX12_readAtom_65 ?_
    refine n_iconst dX12_readAtom_66 (by decide) (fun r66 e66 => ?_)
    refine n_sipush dX12_readAtom_67 (by decide) (fun r67 e67 => ?_)
    refine q_callV2 zm_RX12_209 dX12_readAtom_70 (shM_k hs) (by decide) rfl (Nat.le_of_ble_eq_true rfl) (Nat.le_of_ble_eq_true rfl) (Nat.le_of_ble_eq_true rfl) (Nat.le_of_ble_eq_true rfl) (Nat.le_of_ble_eq_true rfl) (s_X12_number (p := p) (h_z := 999) G hs htp9 p9 e66 e67 (fun r70 g70 o70 a70 b70 c70 => ?_))
    rw [hnu] at a70 c70
    have e70 : r70.toInt = 0 := c70 hba.1
    have nb : (g70 A 12).toInt ≠ 0 := by rw [a70.1]; have := hba.1; omega
    refine r_istore2 dX12_readAtom_73 rfl ?_
    refine r_aloadR0 dX12_readAtom_74 ?_
    refine n_sipush dX12_readAtom_75 (by decide) (fun r75 e75 => ?_)
    refine r_iload2 dX12_readAtom_78 ?_
    refine n_iadd dX12_readAtom_79 (by omega) (fun r79 e79 => ?_)
    refine q_callV1 zm_RX12_162 dX12_readAtom_80 (shM_k hs) (by decide) rfl (Nat.le_of_ble_eq_true rfl) (Nat.le_of_ble_eq_true rfl) (Nat.le_of_ble_eq_true rfl) (Nat.le_of_ble_eq_true rfl) (Nat.le_of_ble_eq_true rfl) (s_X12_laysStep_x G hs nb ?_)
    refine r_vret dX12_readAtom_83 rfl (Nat.le_of_ble_eq_true rfl) (Nat.le_of_ble_eq_true rfl) ?_
    exact hQ _ (frM_tr (frM_su o9 (by decide) (by decide)) (frM_su o70 (by decide) (by decide))) (by rw [o70.2.2 16 (by decide)]; exact d9) a70 (fun h_z => absurd h_z hba.1)
set_option maxHeartbeats 4000000 in
set_option maxRecDepth 100000 in
theorem s_X12_readTerm_2 {g : zGT} {w : zW} {f : Nat → Nat → Int32} {j : Nat → Nat → Int64} {A : Nat} {B : Nat → Nat} {n : Nat} {wa wv : Nat → Nat} {kq : Nat} {p lm la u : Nat} {Q : Option Value → zW → Prop} {QX : String → zW → Prop} (G : zGok g) (hs : shM w A) (kw : kWd g wa wv kq) (hld : kLd g wa) (htp : tpM B n f A) (hps : psM B n f A 0 p) (hd16 : (f A 16).toInt = 4) (hlm : (f A 17).toInt = (lm : Nat)) (hla : (f A 18).toInt = (la : Nat)) (hu : (f (A + 2) lm).toInt = (u : Nat)) (h5 : lm ≤ 5) (h29 : 209 ≤ la) (h99 : la ≤ 2009) (hup : u ≤ p) (hQ : ∀ f2_z, frM A [2] [8, 9, 10, 11, 12, 13, 16] f f2_z → (f2_z A 16).toInt = 4 → psM B n f2_z A (chP B n (atP B n (if lm = 5 then 8 else 6) 2) (opT B n) p).1 (chP B n (atP B n (if lm = 5 then 8 else 6) 2) (opT B n) p).2.1 → ((chP B n (atP B n (if lm = 5 then 8 else 6) 2) (opT B n) p).1 = 0 → okM f f2_z A lm la u (chP B n (atP B n (if lm = 5 then 8 else 6) 2) (opT B n) p).2.2) → Q none (zM w f2_z j)) : zC g 19 yX12_readTerm cX12_readTerm 1 none [.ref A] (zM w f j) (0, 0) Q QX := by
  refine zC_of G (by decide +kernel) (Nat.le_of_ble_eq_true rfl) ?_
  have ht := hps.2.1 rfl
  have h12 := hps.1
  have h900 := htp.2.1
  have hgd : ∀ s, s ≤ n → gdP n false (if lm = 5 then 8 else 6) (1 + 2 * 2) s ((atP B n (if lm = 5 then 8 else 6) 2) s) := gd_at (by split <;> decide) 2
  have lp : ∀ (mz : Nat) (f2_z : Nat → Nat → Int32) (k : Nat) (r : zPR), frM A [2] [8, 9, 10, 11, 12, 13, 16] f f2_z → (f2_z A 16).toInt = 4 → psM B n f2_z A r.1 r.2.1 → (r.1 = 0 → okM f f2_z A lm la u r.2.2) → (r.1 = 0 → p ≤ r.2.1 ∧ r.2.1 ≤ n ∧ r.2.2.length + p ≤ r.2.1) → (r.1 = 0 → n ≤ k + r.2.1) → lpP B n (atP B n (if lm = 5 then 8 else 6) 2) (opT B n) k r = chP B n (atP B n (if lm = 5 then 8 else 6) 2) (opT B n) p → k < mz → zR (zV g 19 yX12_readTerm 1 none (0, 0) Q QX) cX12_readTerm yX12_readTerm.cls 4 [some (.ref A)] [] (zM w f2_z j) (0, 0) := by
    intro mz
    induction mz with
    | zero =>
      intro f2_z k r ofr hd2 hp2 hk2 hg2 hnk hR hmz
      exact absurd hmz (Nat.not_lt_zero _)
    | succ mz ih =>
      intro f2_z k r ofr hd2 hp2 hk2 hg2 hnk hR hmz
      by_cases hr : r.1 = 0
      · have hk3 := hk2 hr
        obtain ⟨q1_z, q2_z, q3_z⟩ := hg2 hr
        have hnk3 := hnk hr
        have hps2 := hp2
        rw [hr] at hps2
        have ht2 := hps2.2.1 rfl
        have hb2 := hps2.1
        have hte2 := teP_le (B := B) ht2.1
        have htp2 := tpM_of htp (ofr.2.1 5 (by decide) (by decide) (by decide)) (ofr.2.2 7 (by decide))
        have h10 := ht2.2.2.2.1
        have hrk := rk4 (B := B) (n := n) (s := r.2.1) (c := 42) (by decide)
        by_cases hc_z : tkP B n r.2.1 = 42
        · have h10b := hrk.mpr hc_z
          have hop : opT B n r.2.1 = 2005 := if_pos hc_z
          have hop0 : opT B n r.2.1 ≠ 0 := by rw [hop]; decide
          have hln := tk_lt (B := B) (n := n) (s := r.2.1) (by rw [hc_z]; decide)
          obtain ⟨k2_z, rfl⟩ : ∃ k2_z, k = k2_z + 1 := ⟨k - 1, by omega⟩
          have hnx := nxP_gt (B := B) hln
          have gq := hgd _ hnx.2
          by_cases hq : ((atP B n (if lm = 5 then 8 else 6) 2) (nxP B n r.2.1)).1 = 0
          · obtain ⟨y1, y2, y3, y4⟩ := gq.1 hq
            refine r_aloadR0 dX12_readTerm_4 ?_
            refine n_bipush dX12_readTerm_5 (by decide) (fun r5 e5_z => ?_)
            refine q_callV1 zm_RX12_175 dX12_readTerm_7 (shM_k hs) (by decide) rfl (Nat.le_of_ble_eq_true rfl) (Nat.le_of_ble_eq_true rfl) (Nat.le_of_ble_eq_true rfl) (Nat.le_of_ble_eq_true rfl) (Nat.le_of_ble_eq_true rfl) (s_X12_isSign G hs (fun r7 e7_z => ?_))
            refine t_ifeq (t := 30) dX12_readTerm_10 (by decide) (fun h10 => False.elim (by omega)) (fun h10 => ?_)
            refine r_aloadR0 dX12_readTerm_13 ?_
            refine q_callV0 zm_RX12_131 dX12_readTerm_14 (shM_k hs) (by decide) rfl (Nat.le_of_ble_eq_true rfl) (Nat.le_of_ble_eq_true rfl) (Nat.le_of_ble_eq_true rfl) (Nat.le_of_ble_eq_true rfl) (Nat.le_of_ble_eq_true rfl) (s_X12_readsOn (p := teP B n r.2.1) G hs htp2 ht2.2.1 hte2 (fun g14 o14 t14 => ?_))
            have htp14 := tpM_of htp2 (o14.2.1 5 (by decide) (by decide) (by decide)) (o14.2.2 7 (by decide))
            have hp14 : psM B n g14 A 0 (nxP B n r.2.1) := ⟨by rw [o14.2.2 12 (by decide)]; exact hb2, fun _ => t14, fun h_z => absurd rfl h_z⟩
            have w14 : g14 (A + 2) = f2_z (A + 2) := o14.2.1 2 (by decide) (by decide) (by decide)
            refine r_aloadR0 dX12_readTerm_17 ?_
            refine q_callV0 zm_RX12_187 dX12_readTerm_18 (shM_k hs) (by decide) rfl (Nat.le_of_ble_eq_true rfl) (Nat.le_of_ble_eq_true rfl) (Nat.le_of_ble_eq_true rfl) (Nat.le_of_ble_eq_true rfl) (Nat.le_of_ble_eq_true rfl) (s_X12_readAtom_2 (lm := lm) (la := la) (u := u + r.2.2.length) G hs kw hld htp14 hp14 (by rw [o14.2.2 16 (by decide)]; exact hd2) (by rw [o14.2.2 17 (by decide), ofr.2.2 17 (by decide)]; exact hlm) (by rw [o14.2.2 18 (by decide), ofr.2.2 18 (by decide)]; exact hla) (by rw [w14]; exact hk3.1) h5 h29 h99 (by omega) (fun g18 o18 d18 p18 k18 => ?_))
            have of18 : frM A [2] [8, 9, 10, 11, 12, 13, 16] f g18 := frM_tr ofr (frM_tr (frM_su o14 (by decide) (by decide)) o18)
            refine r_aloadR0 dX12_readTerm_21 ?_
            refine n_bipush dX12_readTerm_22 (by decide) (fun r22 e22_z => ?_)
            refine q_callV1 zm_RX12_162 dX12_readTerm_24 (shM_k hs) (by decide) rfl (Nat.le_of_ble_eq_true rfl) (Nat.le_of_ble_eq_true rfl) (Nat.le_of_ble_eq_true rfl) (Nat.le_of_ble_eq_true rfl) (Nat.le_of_ble_eq_true rfl) (s_X12_laysStep (lm := lm) (la := la) (u := u + r.2.2.length + ((atP B n (if lm = 5 then 8 else 6) 2) (nxP B n r.2.1)).2.2.length) G hs (by have := p18.1; rw [hq] at this; exact this) (by rw [of18.2.2 17 (by decide)]; exact hlm) (by rw [of18.2.2 18 (by decide)]; exact hla) (k18 hq).1 h5 h29 (by omega) (fun g24 o24 a24 b24 c24 => ?_))
            refine r_goto (t := 4) dX12_readTerm_27 (by decide) ?_
            have hp18 := p18
            rw [hq] at hp18
            refine ih _ k2_z (0, ((atP B n (if lm = 5 then 8 else 6) 2) (nxP B n r.2.1)).2.1, r.2.2 ++ ((atP B n (if lm = 5 then 8 else 6) 2) (nxP B n r.2.1)).2.2 ++ [opT B n r.2.1]) (frM_tr of18 (frM_su o24 (by decide) (by decide))) (by rw [o24.2.2 16 (by decide)]; exact d18) (psM_of hp18 (o24.2.2 8 (by decide)) (o24.2.2 9 (by decide)) (o24.2.2 10 (by decide)) (o24.2.2 11 (by decide)) (o24.2.2 12 (by decide)) (o24.2.2 13 (by decide))) (fun _ => okM_ap (by omega) (by rw [List.length_append]; omega) (okM_ap (by omega) (by omega) hk3 (okM_cg (k18 hq) w14 rfl)) ?_) (fun _ => ?_) (fun _ => ?_) ?_ (by omega)
            · rw [List.length_append, ← Nat.add_assoc, hop]
              exact okM_one (by omega) a24 b24 c24 (by rw [e22_z]; rfl)
            · show p ≤ ((atP B n (if lm = 5 then 8 else 6) 2) (nxP B n r.2.1)).2.1 ∧ ((atP B n (if lm = 5 then 8 else 6) 2) (nxP B n r.2.1)).2.1 ≤ n ∧ (r.2.2 ++ ((atP B n (if lm = 5 then 8 else 6) 2) (nxP B n r.2.1)).2.2 ++ [opT B n r.2.1]).length + p ≤ ((atP B n (if lm = 5 then 8 else 6) 2) (nxP B n r.2.1)).2.1
              rw [List.length_append, List.length_append, List.length_singleton]
              omega
            · show n ≤ k2_z + ((atP B n (if lm = 5 then 8 else 6) 2) (nxP B n r.2.1)).2.1
              omega
            · exact (lpP_on hr hop0 hq).symm.trans hR
          · have nb : ∀ g : Nat → Nat → Int32, psM B n g A ((atP B n (if lm = 5 then 8 else 6) 2) (nxP B n r.2.1)).1 ((atP B n (if lm = 5 then 8 else 6) 2) (nxP B n r.2.1)).2.1 → (g A 12).toInt ≠ 0 := fun g h_z => by rw [h_z.1]; omega
            refine r_aloadR0 dX12_readTerm_4 ?_
            refine n_bipush dX12_readTerm_5 (by decide) (fun r5 e5_z => ?_)
            refine q_callV1 zm_RX12_175 dX12_readTerm_7 (shM_k hs) (by decide) rfl (Nat.le_of_ble_eq_true rfl) (Nat.le_of_ble_eq_true rfl) (Nat.le_of_ble_eq_true rfl) (Nat.le_of_ble_eq_true rfl) (Nat.le_of_ble_eq_true rfl) (s_X12_isSign G hs (fun r7 e7_z => ?_))
            refine t_ifeq (t := 30) dX12_readTerm_10 (by decide) (fun h10 => False.elim (by omega)) (fun h10 => ?_)
            refine r_aloadR0 dX12_readTerm_13 ?_
            refine q_callV0 zm_RX12_131 dX12_readTerm_14 (shM_k hs) (by decide) rfl (Nat.le_of_ble_eq_true rfl) (Nat.le_of_ble_eq_true rfl) (Nat.le_of_ble_eq_true rfl) (Nat.le_of_ble_eq_true rfl) (Nat.le_of_ble_eq_true rfl) (s_X12_readsOn (p := teP B n r.2.1) G hs htp2 ht2.2.1 hte2 (fun g14 o14 t14 => ?_))
            have htp14 := tpM_of htp2 (o14.2.1 5 (by decide) (by decide) (by decide)) (o14.2.2 7 (by decide))
            have hp14 : psM B n g14 A 0 (nxP B n r.2.1) := ⟨by rw [o14.2.2 12 (by decide)]; exact hb2, fun _ => t14, fun h_z => absurd rfl h_z⟩
            have w14 : g14 (A + 2) = f2_z (A + 2) := o14.2.1 2 (by decide) (by decide) (by decide)
            refine r_aloadR0 dX12_readTerm_17 ?_
            refine q_callV0 zm_RX12_187 dX12_readTerm_18 (shM_k hs) (by decide) rfl (Nat.le_of_ble_eq_true rfl) (Nat.le_of_ble_eq_true rfl) (Nat.le_of_ble_eq_true rfl) (Nat.le_of_ble_eq_true rfl) (Nat.le_of_ble_eq_true rfl) (s_X12_readAtom_2 (lm := lm) (la := la) (u := u + r.2.2.length) G hs kw hld htp14 hp14 (by rw [o14.2.2 16 (by decide)]; exact hd2) (by rw [o14.2.2 17 (by decide), ofr.2.2 17 (by decide)]; exact hlm) (by rw [o14.2.2 18 (by decide), ofr.2.2 18 (by decide)]; exact hla) (by rw [w14]; exact hk3.1) h5 h29 h99 (by omega) (fun g18 o18 d18 p18 k18 => ?_))
            have of18 : frM A [2] [8, 9, 10, 11, 12, 13, 16] f g18 := frM_tr ofr (frM_tr (frM_su o14 (by decide) (by decide)) o18)
            refine r_aloadR0 dX12_readTerm_21 ?_
            refine n_bipush dX12_readTerm_22 (by decide) (fun r22 e22_z => ?_)
            refine q_callV1 zm_RX12_162 dX12_readTerm_24 (shM_k hs) (by decide) rfl (Nat.le_of_ble_eq_true rfl) (Nat.le_of_ble_eq_true rfl) (Nat.le_of_ble_eq_true rfl) (Nat.le_of_ble_eq_true rfl) (Nat.le_of_ble_eq_true rfl) (s_X12_laysStep_x G hs (nb _ p18) ?_)
            refine r_goto (t := 4) dX12_readTerm_27 (by decide) ?_
            exact ih _ k2_z ((atP B n (if lm = 5 then 8 else 6) 2) (nxP B n r.2.1)) of18 d18 p18 (fun h_z => absurd h_z hq) (fun h_z => absurd h_z hq) (fun h_z => absurd h_z hq) ((lpP_bad hq).trans ((lpP_sub hr hop0 hq).symm.trans hR)) (by omega)
        · have h10b : rkP B n r.2.1 ≠ 42 := fun h_z => hc_z (hrk.mp h_z)
          have hop : opT B n r.2.1 = 0 := if_neg hc_z
          have hv := (lpP_end (B := B) (n := n) (k := k) (sub := (atP B n (if lm = 5 then 8 else 6) 2)) hop).symm.trans hR
          refine r_aloadR0 dX12_readTerm_4 ?_
          refine n_bipush dX12_readTerm_5 (by decide) (fun r5 e5_z => ?_)
          refine q_callV1 zm_RX12_175 dX12_readTerm_7 (shM_k hs) (by decide) rfl (Nat.le_of_ble_eq_true rfl) (Nat.le_of_ble_eq_true rfl) (Nat.le_of_ble_eq_true rfl) (Nat.le_of_ble_eq_true rfl) (Nat.le_of_ble_eq_true rfl) (s_X12_isSign G hs (fun r7 e7_z => ?_))
          refine t_ifeq (t := 30) dX12_readTerm_10 (by decide) (fun h10 => ?_) (fun h10 => False.elim (by omega))
          refine r_vret dX12_readTerm_30 rfl (Nat.le_of_ble_eq_true rfl) (Nat.le_of_ble_eq_true rfl) ?_
          rw [← hv] at hQ
          exact hQ _ ofr hd2 hp2 hk2
      · have hb2 : (f2_z A 12).toInt ≠ 0 := by rw [hp2.1]; omega
        have hv := (lpP_bad (B := B) (n := n) (k := k) (sub := (atP B n (if lm = 5 then 8 else 6) 2)) (op := opT B n) hr).symm.trans hR
        refine r_aloadR0 dX12_readTerm_4 ?_
        refine n_bipush dX12_readTerm_5 (by decide) (fun r5 e5_z => ?_)
        refine q_callV1 zm_RX12_175 dX12_readTerm_7 (shM_k hs) (by decide) rfl (Nat.le_of_ble_eq_true rfl) (Nat.le_of_ble_eq_true rfl) (Nat.le_of_ble_eq_true rfl) (Nat.le_of_ble_eq_true rfl) (Nat.le_of_ble_eq_true rfl) (s_X12_isSign G hs (fun r7 e7_z => ?_))
        refine t_ifeq (t := 30) dX12_readTerm_10 (by decide) (fun h10 => ?_) (fun h10 => False.elim (by omega))
        refine r_vret dX12_readTerm_30 rfl (Nat.le_of_ble_eq_true rfl) (Nat.le_of_ble_eq_true rfl) ?_
        rw [← hv] at hQ
        exact hQ _ ofr hd2 hp2 hk2
  refine r_aloadR0 dX12_readTerm_0 ?_
  refine q_callV0 zm_RX12_187 dX12_readTerm_1 (shM_k hs) (by decide) rfl (Nat.le_of_ble_eq_true rfl) (Nat.le_of_ble_eq_true rfl) (Nat.le_of_ble_eq_true rfl) (Nat.le_of_ble_eq_true rfl) (Nat.le_of_ble_eq_true rfl) (s_X12_readAtom_2 G hs kw hld htp hps hd16 hlm hla hu h5 h29 h99 hup (fun g1 o1 d1 p1 k1_z => ?_))
  have gp := hgd p ht.1
  exact lp _ g1 n ((atP B n (if lm = 5 then 8 else 6) 2) p) o1 d1 p1 k1_z (fun h_z => ⟨Nat.le_of_lt (gp.1 h_z).1, (gp.1 h_z).2.1, (gp.1 h_z).2.2.1⟩) (fun _ => Nat.le_add_right n _) rfl (Nat.lt_succ_self n)
set_option maxHeartbeats 4000000 in
set_option maxRecDepth 100000 in
theorem s_X12_readSum_2 {g : zGT} {w : zW} {f : Nat → Nat → Int32} {j : Nat → Nat → Int64} {A : Nat} {B : Nat → Nat} {n : Nat} {wa wv : Nat → Nat} {kq : Nat} {p lm la u : Nat} {Q : Option Value → zW → Prop} {QX : String → zW → Prop} (G : zGok g) (hs : shM w A) (kw : kWd g wa wv kq) (hld : kLd g wa) (htp : tpM B n f A) (hps : psM B n f A 0 p) (hd16 : (f A 16).toInt = 4) (hlm : (f A 17).toInt = (lm : Nat)) (hla : (f A 18).toInt = (la : Nat)) (hu : (f (A + 2) lm).toInt = (u : Nat)) (h5 : lm ≤ 5) (h29 : 209 ≤ la) (h99 : la ≤ 2009) (hup : u ≤ p) (hQ : ∀ f2_z, frM A [2] [8, 9, 10, 11, 12, 13, 16] f f2_z → (f2_z A 16).toInt = 4 → psM B n f2_z A (chP B n (chP B n (atP B n (if lm = 5 then 8 else 6) 2) (opT B n)) (opS B n) p).1 (chP B n (chP B n (atP B n (if lm = 5 then 8 else 6) 2) (opT B n)) (opS B n) p).2.1 → ((chP B n (chP B n (atP B n (if lm = 5 then 8 else 6) 2) (opT B n)) (opS B n) p).1 = 0 → okM f f2_z A lm la u (chP B n (chP B n (atP B n (if lm = 5 then 8 else 6) 2) (opT B n)) (opS B n) p).2.2) → Q none (zM w f2_z j)) : zC g 20 yX12_readSum cX12_readSum 2 none [.ref A] (zM w f j) (0, 0) Q QX := by
  refine zC_of G (by decide +kernel) (Nat.le_of_ble_eq_true rfl) ?_
  have ht := hps.2.1 rfl
  have h12 := hps.1
  have h900 := htp.2.1
  have hgd : ∀ s, s ≤ n → gdP n false (if lm = 5 then 8 else 6) (1 + 2 * 2 + 1) s ((chP B n (atP B n (if lm = 5 then 8 else 6) 2) (opT B n)) s) := fun s hs9 => gd_ch (gd_at (by split <;> decide) 2) hop_T hs9
  have lp : ∀ (mz : Nat) (f2_z : Nat → Nat → Int32) (k : Nat) (r : zPR) (v1_ : Option Value), frM A [2] [8, 9, 10, 11, 12, 13, 16] f f2_z → (f2_z A 16).toInt = 4 → psM B n f2_z A r.1 r.2.1 → (r.1 = 0 → okM f f2_z A lm la u r.2.2) → (r.1 = 0 → p ≤ r.2.1 ∧ r.2.1 ≤ n ∧ r.2.2.length + p ≤ r.2.1) → (r.1 = 0 → n ≤ k + r.2.1) → lpP B n (chP B n (atP B n (if lm = 5 then 8 else 6) 2) (opT B n)) (opS B n) k r = chP B n (chP B n (atP B n (if lm = 5 then 8 else 6) 2) (opT B n)) (opS B n) p → k < mz → zR (zV g 20 yX12_readSum 2 none (0, 0) Q QX) cX12_readSum yX12_readSum.cls 4 [some (.ref A), v1_] [] (zM w f2_z j) (0, 0) := by
    intro mz
    induction mz with
    | zero =>
      intro f2_z k r v1_ ofr hd2 hp2 hk2 hg2 hnk hR hmz
      exact absurd hmz (Nat.not_lt_zero _)
    | succ mz ih =>
      intro f2_z k r v1_ ofr hd2 hp2 hk2 hg2 hnk hR hmz
      by_cases hr : r.1 = 0
      · have hk3 := hk2 hr
        obtain ⟨q1_z, q2_z, q3_z⟩ := hg2 hr
        have hnk3 := hnk hr
        have hps2 := hp2
        rw [hr] at hps2
        have ht2 := hps2.2.1 rfl
        have hb2 := hps2.1
        have hte2 := teP_le (B := B) ht2.1
        have htp2 := tpM_of htp (ofr.2.1 5 (by decide) (by decide) (by decide)) (ofr.2.2 7 (by decide))
        have h10 := ht2.2.2.2.1
        have hrk := rk4 (B := B) (n := n) (s := r.2.1) (c := 43) (by decide)
        have hrm := rk4 (B := B) (n := n) (s := r.2.1) (c := 45) (by decide)
        by_cases hc_z : tkP B n r.2.1 = 43
        · have h10b := hrk.mpr hc_z
          have hop : opS B n r.2.1 = 2003 := if_pos hc_z
          have hop0 : opS B n r.2.1 ≠ 0 := by rw [hop]; decide
          have hln := tk_lt (B := B) (n := n) (s := r.2.1) (by rw [hc_z]; decide)
          obtain ⟨k2_z, rfl⟩ : ∃ k2_z, k = k2_z + 1 := ⟨k - 1, by omega⟩
          have hnx := nxP_gt (B := B) hln
          have gq := hgd _ hnx.2
          by_cases hq : ((chP B n (atP B n (if lm = 5 then 8 else 6) 2) (opT B n)) (nxP B n r.2.1)).1 = 0
          · obtain ⟨y1, y2, y3, y4⟩ := gq.1 hq
            refine r_aloadR0 dX12_readSum_4 ?_
            refine n_bipush dX12_readSum_5 (by decide) (fun r5 e5_z => ?_)
            refine q_callV1 zm_RX12_175 dX12_readSum_7 (shM_k hs) (by decide) rfl (Nat.le_of_ble_eq_true rfl) (Nat.le_of_ble_eq_true rfl) (Nat.le_of_ble_eq_true rfl) (Nat.le_of_ble_eq_true rfl) (Nat.le_of_ble_eq_true rfl) (s_X12_isSign G hs (fun r7 e7_z => ?_))
            refine t_ifne (t := 22) dX12_readSum_10 (by decide) (fun h10 => ?_) (fun h10 => False.elim (by omega))
            refine r_aloadR0 dX12_readSum_22 ?_
            refine m_getV (x := (f2_z A 10)) zf_RX12_92 rfl dX12_readSum_23 (shM_k hs) (rfl) ?_
            refine r_istore1 dX12_readSum_26 rfl ?_
            refine r_aloadR0 dX12_readSum_27 ?_
            refine q_callV0 zm_RX12_131 dX12_readSum_28 (shM_k hs) (by decide) rfl (Nat.le_of_ble_eq_true rfl) (Nat.le_of_ble_eq_true rfl) (Nat.le_of_ble_eq_true rfl) (Nat.le_of_ble_eq_true rfl) (Nat.le_of_ble_eq_true rfl) (s_X12_readsOn (p := teP B n r.2.1) G hs htp2 ht2.2.1 hte2 (fun g28 o28 t28 => ?_))
            have htp28 := tpM_of htp2 (o28.2.1 5 (by decide) (by decide) (by decide)) (o28.2.2 7 (by decide))
            have hp28 : psM B n g28 A 0 (nxP B n r.2.1) := ⟨by rw [o28.2.2 12 (by decide)]; exact hb2, fun _ => t28, fun h_z => absurd rfl h_z⟩
            have w28 : g28 (A + 2) = f2_z (A + 2) := o28.2.1 2 (by decide) (by decide) (by decide)
            refine r_aloadR0 dX12_readSum_31 ?_
            refine q_callV0 zm_RX12_184 dX12_readSum_32 (shM_k hs) (by decide) rfl (Nat.le_of_ble_eq_true rfl) (Nat.le_of_ble_eq_true rfl) (Nat.le_of_ble_eq_true rfl) (Nat.le_of_ble_eq_true rfl) (Nat.le_of_ble_eq_true rfl) (s_X12_readTerm_2 (lm := lm) (la := la) (u := u + r.2.2.length) G hs kw hld htp28 hp28 (by rw [o28.2.2 16 (by decide)]; exact hd2) (by rw [o28.2.2 17 (by decide), ofr.2.2 17 (by decide)]; exact hlm) (by rw [o28.2.2 18 (by decide), ofr.2.2 18 (by decide)]; exact hla) (by rw [w28]; exact hk3.1) h5 h29 h99 (by omega) (fun g32 o32 d32 p32 k32 => ?_))
            have of32 : frM A [2] [8, 9, 10, 11, 12, 13, 16] f g32 := frM_tr ofr (frM_tr (frM_su o28 (by decide) (by decide)) o32)
            refine r_aloadR0 dX12_readSum_35 ?_
            refine r_iload1 dX12_readSum_36 ?_
            refine n_bipush dX12_readSum_37 (by decide) (fun r37 e37 => ?_)
            refine t_icne (t := 47) dX12_readSum_39 (by decide) (fun h39 => False.elim (by omega)) (fun h39 => ?_)
            refine n_bipush dX12_readSum_42 (by decide) (fun r42 e42_z => ?_)
            refine r_goto (t := 49) dX12_readSum_44 (by decide) ?_
            refine q_callV1 zm_RX12_162 dX12_readSum_49 (shM_k hs) (by decide) rfl (Nat.le_of_ble_eq_true rfl) (Nat.le_of_ble_eq_true rfl) (Nat.le_of_ble_eq_true rfl) (Nat.le_of_ble_eq_true rfl) (Nat.le_of_ble_eq_true rfl) (s_X12_laysStep (lm := lm) (la := la) (u := u + r.2.2.length + ((chP B n (atP B n (if lm = 5 then 8 else 6) 2) (opT B n)) (nxP B n r.2.1)).2.2.length) G hs (by have := p32.1; rw [hq] at this; exact this) (by rw [of32.2.2 17 (by decide)]; exact hlm) (by rw [of32.2.2 18 (by decide)]; exact hla) (k32 hq).1 h5 h29 (by omega) (fun g49 o49 a49 b49 c49 => ?_))
            refine r_goto (t := 4) dX12_readSum_52 (by decide) ?_
            have hp32 := p32
            rw [hq] at hp32
            refine ih _ k2_z (0, ((chP B n (atP B n (if lm = 5 then 8 else 6) 2) (opT B n)) (nxP B n r.2.1)).2.1, r.2.2 ++ ((chP B n (atP B n (if lm = 5 then 8 else 6) 2) (opT B n)) (nxP B n r.2.1)).2.2 ++ [opS B n r.2.1]) _ (frM_tr of32 (frM_su o49 (by decide) (by decide))) (by rw [o49.2.2 16 (by decide)]; exact d32) (psM_of hp32 (o49.2.2 8 (by decide)) (o49.2.2 9 (by decide)) (o49.2.2 10 (by decide)) (o49.2.2 11 (by decide)) (o49.2.2 12 (by decide)) (o49.2.2 13 (by decide))) (fun _ => okM_ap (by omega) (by rw [List.length_append]; omega) (okM_ap (by omega) (by omega) hk3 (okM_cg (k32 hq) w28 rfl)) ?_) (fun _ => ?_) (fun _ => ?_) ?_ (by omega)
            · rw [List.length_append, ← Nat.add_assoc, hop]
              exact okM_one (by omega) a49 b49 c49 (by rw [e42_z]; rfl)
            · show p ≤ ((chP B n (atP B n (if lm = 5 then 8 else 6) 2) (opT B n)) (nxP B n r.2.1)).2.1 ∧ ((chP B n (atP B n (if lm = 5 then 8 else 6) 2) (opT B n)) (nxP B n r.2.1)).2.1 ≤ n ∧ (r.2.2 ++ ((chP B n (atP B n (if lm = 5 then 8 else 6) 2) (opT B n)) (nxP B n r.2.1)).2.2 ++ [opS B n r.2.1]).length + p ≤ ((chP B n (atP B n (if lm = 5 then 8 else 6) 2) (opT B n)) (nxP B n r.2.1)).2.1
              rw [List.length_append, List.length_append, List.length_singleton]
              omega
            · show n ≤ k2_z + ((chP B n (atP B n (if lm = 5 then 8 else 6) 2) (opT B n)) (nxP B n r.2.1)).2.1
              omega
            · exact (lpP_on hr hop0 hq).symm.trans hR
          · have nb : ∀ g : Nat → Nat → Int32, psM B n g A ((chP B n (atP B n (if lm = 5 then 8 else 6) 2) (opT B n)) (nxP B n r.2.1)).1 ((chP B n (atP B n (if lm = 5 then 8 else 6) 2) (opT B n)) (nxP B n r.2.1)).2.1 → (g A 12).toInt ≠ 0 := fun g h_z => by rw [h_z.1]; omega
            refine r_aloadR0 dX12_readSum_4 ?_
            refine n_bipush dX12_readSum_5 (by decide) (fun r5 e5_z => ?_)
            refine q_callV1 zm_RX12_175 dX12_readSum_7 (shM_k hs) (by decide) rfl (Nat.le_of_ble_eq_true rfl) (Nat.le_of_ble_eq_true rfl) (Nat.le_of_ble_eq_true rfl) (Nat.le_of_ble_eq_true rfl) (Nat.le_of_ble_eq_true rfl) (s_X12_isSign G hs (fun r7 e7_z => ?_))
            refine t_ifne (t := 22) dX12_readSum_10 (by decide) (fun h10 => ?_) (fun h10 => False.elim (by omega))
            refine r_aloadR0 dX12_readSum_22 ?_
            refine m_getV (x := (f2_z A 10)) zf_RX12_92 rfl dX12_readSum_23 (shM_k hs) (rfl) ?_
            refine r_istore1 dX12_readSum_26 rfl ?_
            refine r_aloadR0 dX12_readSum_27 ?_
            refine q_callV0 zm_RX12_131 dX12_readSum_28 (shM_k hs) (by decide) rfl (Nat.le_of_ble_eq_true rfl) (Nat.le_of_ble_eq_true rfl) (Nat.le_of_ble_eq_true rfl) (Nat.le_of_ble_eq_true rfl) (Nat.le_of_ble_eq_true rfl) (s_X12_readsOn (p := teP B n r.2.1) G hs htp2 ht2.2.1 hte2 (fun g28 o28 t28 => ?_))
            have htp28 := tpM_of htp2 (o28.2.1 5 (by decide) (by decide) (by decide)) (o28.2.2 7 (by decide))
            have hp28 : psM B n g28 A 0 (nxP B n r.2.1) := ⟨by rw [o28.2.2 12 (by decide)]; exact hb2, fun _ => t28, fun h_z => absurd rfl h_z⟩
            have w28 : g28 (A + 2) = f2_z (A + 2) := o28.2.1 2 (by decide) (by decide) (by decide)
            refine r_aloadR0 dX12_readSum_31 ?_
            refine q_callV0 zm_RX12_184 dX12_readSum_32 (shM_k hs) (by decide) rfl (Nat.le_of_ble_eq_true rfl) (Nat.le_of_ble_eq_true rfl) (Nat.le_of_ble_eq_true rfl) (Nat.le_of_ble_eq_true rfl) (Nat.le_of_ble_eq_true rfl) (s_X12_readTerm_2 (lm := lm) (la := la) (u := u + r.2.2.length) G hs kw hld htp28 hp28 (by rw [o28.2.2 16 (by decide)]; exact hd2) (by rw [o28.2.2 17 (by decide), ofr.2.2 17 (by decide)]; exact hlm) (by rw [o28.2.2 18 (by decide), ofr.2.2 18 (by decide)]; exact hla) (by rw [w28]; exact hk3.1) h5 h29 h99 (by omega) (fun g32 o32 d32 p32 k32 => ?_))
            have of32 : frM A [2] [8, 9, 10, 11, 12, 13, 16] f g32 := frM_tr ofr (frM_tr (frM_su o28 (by decide) (by decide)) o32)
            refine r_aloadR0 dX12_readSum_35 ?_
            refine r_iload1 dX12_readSum_36 ?_
            refine n_bipush dX12_readSum_37 (by decide) (fun r37 e37 => ?_)
            refine t_icne (t := 47) dX12_readSum_39 (by decide) (fun h39 => False.elim (by omega)) (fun h39 => ?_)
            refine n_bipush dX12_readSum_42 (by decide) (fun r42 e42_z => ?_)
            refine r_goto (t := 49) dX12_readSum_44 (by decide) ?_
            refine q_callV1 zm_RX12_162 dX12_readSum_49 (shM_k hs) (by decide) rfl (Nat.le_of_ble_eq_true rfl) (Nat.le_of_ble_eq_true rfl) (Nat.le_of_ble_eq_true rfl) (Nat.le_of_ble_eq_true rfl) (Nat.le_of_ble_eq_true rfl) (s_X12_laysStep_x G hs (nb _ p32) ?_)
            refine r_goto (t := 4) dX12_readSum_52 (by decide) ?_
            exact ih _ k2_z ((chP B n (atP B n (if lm = 5 then 8 else 6) 2) (opT B n)) (nxP B n r.2.1)) _ of32 d32 p32 (fun h_z => absurd h_z hq) (fun h_z => absurd h_z hq) (fun h_z => absurd h_z hq) ((lpP_bad hq).trans ((lpP_sub hr hop0 hq).symm.trans hR)) (by omega)
        have hcn := hc_z
        have hc43 : rkP B n r.2.1 ≠ 43 := fun h_z => hc_z (hrk.mp h_z)
        clear hc_z
        by_cases hc_z : tkP B n r.2.1 = 45
        · have h10b := hrm.mpr hc_z
          have hop : opS B n r.2.1 = 2004 := (if_neg (by omega)).trans (if_pos hc_z)
          have hop0 : opS B n r.2.1 ≠ 0 := by rw [hop]; decide
          have hln := tk_lt (B := B) (n := n) (s := r.2.1) (by rw [hc_z]; decide)
          obtain ⟨k2_z, rfl⟩ : ∃ k2_z, k = k2_z + 1 := ⟨k - 1, by omega⟩
          have hnx := nxP_gt (B := B) hln
          have gq := hgd _ hnx.2
          by_cases hq : ((chP B n (atP B n (if lm = 5 then 8 else 6) 2) (opT B n)) (nxP B n r.2.1)).1 = 0
          · obtain ⟨y1, y2, y3, y4⟩ := gq.1 hq
            refine r_aloadR0 dX12_readSum_4 ?_
            refine n_bipush dX12_readSum_5 (by decide) (fun r5 e5_z => ?_)
            refine q_callV1 zm_RX12_175 dX12_readSum_7 (shM_k hs) (by decide) rfl (Nat.le_of_ble_eq_true rfl) (Nat.le_of_ble_eq_true rfl) (Nat.le_of_ble_eq_true rfl) (Nat.le_of_ble_eq_true rfl) (Nat.le_of_ble_eq_true rfl) (s_X12_isSign G hs (fun r7 e7_z => ?_))
            refine t_ifne (t := 22) dX12_readSum_10 (by decide) (fun h10 => False.elim (by omega)) (fun h10 => ?_)
            refine r_aloadR0 dX12_readSum_13 ?_
            refine n_bipush dX12_readSum_14 (by decide) (fun r14 e14_z => ?_)
            refine q_callV1 zm_RX12_175 dX12_readSum_16 (shM_k hs) (by decide) rfl (Nat.le_of_ble_eq_true rfl) (Nat.le_of_ble_eq_true rfl) (Nat.le_of_ble_eq_true rfl) (Nat.le_of_ble_eq_true rfl) (Nat.le_of_ble_eq_true rfl) (s_X12_isSign G hs (fun r16 e16_z => ?_))
            refine t_ifeq (t := 55) dX12_readSum_19 (by decide) (fun h19 => False.elim (by omega)) (fun h19 => ?_)
            refine r_aloadR0 dX12_readSum_22 ?_
            refine m_getV (x := (f2_z A 10)) zf_RX12_92 rfl dX12_readSum_23 (shM_k hs) (rfl) ?_
            refine r_istore1 dX12_readSum_26 rfl ?_
            refine r_aloadR0 dX12_readSum_27 ?_
            refine q_callV0 zm_RX12_131 dX12_readSum_28 (shM_k hs) (by decide) rfl (Nat.le_of_ble_eq_true rfl) (Nat.le_of_ble_eq_true rfl) (Nat.le_of_ble_eq_true rfl) (Nat.le_of_ble_eq_true rfl) (Nat.le_of_ble_eq_true rfl) (s_X12_readsOn (p := teP B n r.2.1) G hs htp2 ht2.2.1 hte2 (fun g28 o28 t28 => ?_))
            have htp28 := tpM_of htp2 (o28.2.1 5 (by decide) (by decide) (by decide)) (o28.2.2 7 (by decide))
            have hp28 : psM B n g28 A 0 (nxP B n r.2.1) := ⟨by rw [o28.2.2 12 (by decide)]; exact hb2, fun _ => t28, fun h_z => absurd rfl h_z⟩
            have w28 : g28 (A + 2) = f2_z (A + 2) := o28.2.1 2 (by decide) (by decide) (by decide)
            refine r_aloadR0 dX12_readSum_31 ?_
            refine q_callV0 zm_RX12_184 dX12_readSum_32 (shM_k hs) (by decide) rfl (Nat.le_of_ble_eq_true rfl) (Nat.le_of_ble_eq_true rfl) (Nat.le_of_ble_eq_true rfl) (Nat.le_of_ble_eq_true rfl) (Nat.le_of_ble_eq_true rfl) (s_X12_readTerm_2 (lm := lm) (la := la) (u := u + r.2.2.length) G hs kw hld htp28 hp28 (by rw [o28.2.2 16 (by decide)]; exact hd2) (by rw [o28.2.2 17 (by decide), ofr.2.2 17 (by decide)]; exact hlm) (by rw [o28.2.2 18 (by decide), ofr.2.2 18 (by decide)]; exact hla) (by rw [w28]; exact hk3.1) h5 h29 h99 (by omega) (fun g32 o32 d32 p32 k32 => ?_))
            have of32 : frM A [2] [8, 9, 10, 11, 12, 13, 16] f g32 := frM_tr ofr (frM_tr (frM_su o28 (by decide) (by decide)) o32)
            refine r_aloadR0 dX12_readSum_35 ?_
            refine r_iload1 dX12_readSum_36 ?_
            refine n_bipush dX12_readSum_37 (by decide) (fun r37 e37 => ?_)
            refine t_icne (t := 47) dX12_readSum_39 (by decide) (fun h39 => ?_) (fun h39 => False.elim (by omega))
            refine n_bipush dX12_readSum_47 (by decide) (fun r47 e47 => ?_)
            refine q_callV1 zm_RX12_162 dX12_readSum_49 (shM_k hs) (by decide) rfl (Nat.le_of_ble_eq_true rfl) (Nat.le_of_ble_eq_true rfl) (Nat.le_of_ble_eq_true rfl) (Nat.le_of_ble_eq_true rfl) (Nat.le_of_ble_eq_true rfl) (s_X12_laysStep (lm := lm) (la := la) (u := u + r.2.2.length + ((chP B n (atP B n (if lm = 5 then 8 else 6) 2) (opT B n)) (nxP B n r.2.1)).2.2.length) G hs (by have := p32.1; rw [hq] at this; exact this) (by rw [of32.2.2 17 (by decide)]; exact hlm) (by rw [of32.2.2 18 (by decide)]; exact hla) (k32 hq).1 h5 h29 (by omega) (fun g49 o49 a49 b49 c49 => ?_))
            refine r_goto (t := 4) dX12_readSum_52 (by decide) ?_
            have hp32 := p32
            rw [hq] at hp32
            refine ih _ k2_z (0, ((chP B n (atP B n (if lm = 5 then 8 else 6) 2) (opT B n)) (nxP B n r.2.1)).2.1, r.2.2 ++ ((chP B n (atP B n (if lm = 5 then 8 else 6) 2) (opT B n)) (nxP B n r.2.1)).2.2 ++ [opS B n r.2.1]) _ (frM_tr of32 (frM_su o49 (by decide) (by decide))) (by rw [o49.2.2 16 (by decide)]; exact d32) (psM_of hp32 (o49.2.2 8 (by decide)) (o49.2.2 9 (by decide)) (o49.2.2 10 (by decide)) (o49.2.2 11 (by decide)) (o49.2.2 12 (by decide)) (o49.2.2 13 (by decide))) (fun _ => okM_ap (by omega) (by rw [List.length_append]; omega) (okM_ap (by omega) (by omega) hk3 (okM_cg (k32 hq) w28 rfl)) ?_) (fun _ => ?_) (fun _ => ?_) ?_ (by omega)
            · rw [List.length_append, ← Nat.add_assoc, hop]
              exact okM_one (by omega) a49 b49 c49 (by rw [e47]; rfl)
            · show p ≤ ((chP B n (atP B n (if lm = 5 then 8 else 6) 2) (opT B n)) (nxP B n r.2.1)).2.1 ∧ ((chP B n (atP B n (if lm = 5 then 8 else 6) 2) (opT B n)) (nxP B n r.2.1)).2.1 ≤ n ∧ (r.2.2 ++ ((chP B n (atP B n (if lm = 5 then 8 else 6) 2) (opT B n)) (nxP B n r.2.1)).2.2 ++ [opS B n r.2.1]).length + p ≤ ((chP B n (atP B n (if lm = 5 then 8 else 6) 2) (opT B n)) (nxP B n r.2.1)).2.1
              rw [List.length_append, List.length_append, List.length_singleton]
              omega
            · show n ≤ k2_z + ((chP B n (atP B n (if lm = 5 then 8 else 6) 2) (opT B n)) (nxP B n r.2.1)).2.1
              omega
            · exact (lpP_on hr hop0 hq).symm.trans hR
          · have nb : ∀ g : Nat → Nat → Int32, psM B n g A ((chP B n (atP B n (if lm = 5 then 8 else 6) 2) (opT B n)) (nxP B n r.2.1)).1 ((chP B n (atP B n (if lm = 5 then 8 else 6) 2) (opT B n)) (nxP B n r.2.1)).2.1 → (g A 12).toInt ≠ 0 := fun g h_z => by rw [h_z.1]; omega
            refine r_aloadR0 dX12_readSum_4 ?_
            refine n_bipush dX12_readSum_5 (by decide) (fun r5 e5_z => ?_)
            refine q_callV1 zm_RX12_175 dX12_readSum_7 (shM_k hs) (by decide) rfl (Nat.le_of_ble_eq_true rfl) (Nat.le_of_ble_eq_true rfl) (Nat.le_of_ble_eq_true rfl) (Nat.le_of_ble_eq_true rfl) (Nat.le_of_ble_eq_true rfl) (s_X12_isSign G hs (fun r7 e7_z => ?_))
            refine t_ifne (t := 22) dX12_readSum_10 (by decide) (fun h10 => False.elim (by omega)) (fun h10 => ?_)
            refine r_aloadR0 dX12_readSum_13 ?_
            refine n_bipush dX12_readSum_14 (by decide) (fun r14 e14_z => ?_)
            refine q_callV1 zm_RX12_175 dX12_readSum_16 (shM_k hs) (by decide) rfl (Nat.le_of_ble_eq_true rfl) (Nat.le_of_ble_eq_true rfl) (Nat.le_of_ble_eq_true rfl) (Nat.le_of_ble_eq_true rfl) (Nat.le_of_ble_eq_true rfl) (s_X12_isSign G hs (fun r16 e16_z => ?_))
            refine t_ifeq (t := 55) dX12_readSum_19 (by decide) (fun h19 => False.elim (by omega)) (fun h19 => ?_)
            refine r_aloadR0 dX12_readSum_22 ?_
            refine m_getV (x := (f2_z A 10)) zf_RX12_92 rfl dX12_readSum_23 (shM_k hs) (rfl) ?_
            refine r_istore1 dX12_readSum_26 rfl ?_
            refine r_aloadR0 dX12_readSum_27 ?_
            refine q_callV0 zm_RX12_131 dX12_readSum_28 (shM_k hs) (by decide) rfl (Nat.le_of_ble_eq_true rfl) (Nat.le_of_ble_eq_true rfl) (Nat.le_of_ble_eq_true rfl) (Nat.le_of_ble_eq_true rfl) (Nat.le_of_ble_eq_true rfl) (s_X12_readsOn (p := teP B n r.2.1) G hs htp2 ht2.2.1 hte2 (fun g28 o28 t28 => ?_))
            have htp28 := tpM_of htp2 (o28.2.1 5 (by decide) (by decide) (by decide)) (o28.2.2 7 (by decide))
            have hp28 : psM B n g28 A 0 (nxP B n r.2.1) := ⟨by rw [o28.2.2 12 (by decide)]; exact hb2, fun _ => t28, fun h_z => absurd rfl h_z⟩
            have w28 : g28 (A + 2) = f2_z (A + 2) := o28.2.1 2 (by decide) (by decide) (by decide)
            refine r_aloadR0 dX12_readSum_31 ?_
            refine q_callV0 zm_RX12_184 dX12_readSum_32 (shM_k hs) (by decide) rfl (Nat.le_of_ble_eq_true rfl) (Nat.le_of_ble_eq_true rfl) (Nat.le_of_ble_eq_true rfl) (Nat.le_of_ble_eq_true rfl) (Nat.le_of_ble_eq_true rfl) (s_X12_readTerm_2 (lm := lm) (la := la) (u := u + r.2.2.length) G hs kw hld htp28 hp28 (by rw [o28.2.2 16 (by decide)]; exact hd2) (by rw [o28.2.2 17 (by decide), ofr.2.2 17 (by decide)]; exact hlm) (by rw [o28.2.2 18 (by decide), ofr.2.2 18 (by decide)]; exact hla) (by rw [w28]; exact hk3.1) h5 h29 h99 (by omega) (fun g32 o32 d32 p32 k32 => ?_))
            have of32 : frM A [2] [8, 9, 10, 11, 12, 13, 16] f g32 := frM_tr ofr (frM_tr (frM_su o28 (by decide) (by decide)) o32)
            refine r_aloadR0 dX12_readSum_35 ?_
            refine r_iload1 dX12_readSum_36 ?_
            refine n_bipush dX12_readSum_37 (by decide) (fun r37 e37 => ?_)
            refine t_icne (t := 47) dX12_readSum_39 (by decide) (fun h39 => ?_) (fun h39 => False.elim (by omega))
            refine n_bipush dX12_readSum_47 (by decide) (fun r47 e47 => ?_)
            refine q_callV1 zm_RX12_162 dX12_readSum_49 (shM_k hs) (by decide) rfl (Nat.le_of_ble_eq_true rfl) (Nat.le_of_ble_eq_true rfl) (Nat.le_of_ble_eq_true rfl) (Nat.le_of_ble_eq_true rfl) (Nat.le_of_ble_eq_true rfl) (s_X12_laysStep_x G hs (nb _ p32) ?_)
            refine r_goto (t := 4) dX12_readSum_52 (by decide) ?_
            exact ih _ k2_z ((chP B n (atP B n (if lm = 5 then 8 else 6) 2) (opT B n)) (nxP B n r.2.1)) _ of32 d32 p32 (fun h_z => absurd h_z hq) (fun h_z => absurd h_z hq) (fun h_z => absurd h_z hq) ((lpP_bad hq).trans ((lpP_sub hr hop0 hq).symm.trans hR)) (by omega)
        have hc45 : rkP B n r.2.1 ≠ 45 := fun h_z => hc_z (hrm.mp h_z)
        have hop : opS B n r.2.1 = 0 := (if_neg hcn).trans (if_neg hc_z)
        have hv := (lpP_end (B := B) (n := n) (k := k) (sub := (chP B n (atP B n (if lm = 5 then 8 else 6) 2) (opT B n))) hop).symm.trans hR
        refine r_aloadR0 dX12_readSum_4 ?_
        refine n_bipush dX12_readSum_5 (by decide) (fun r5 e5_z => ?_)
        refine q_callV1 zm_RX12_175 dX12_readSum_7 (shM_k hs) (by decide) rfl (Nat.le_of_ble_eq_true rfl) (Nat.le_of_ble_eq_true rfl) (Nat.le_of_ble_eq_true rfl) (Nat.le_of_ble_eq_true rfl) (Nat.le_of_ble_eq_true rfl) (s_X12_isSign G hs (fun r7 e7_z => ?_))
        refine t_ifne (t := 22) dX12_readSum_10 (by decide) (fun h10 => False.elim (by omega)) (fun h10 => ?_)
        refine r_aloadR0 dX12_readSum_13 ?_
        refine n_bipush dX12_readSum_14 (by decide) (fun r14 e14_z => ?_)
        refine q_callV1 zm_RX12_175 dX12_readSum_16 (shM_k hs) (by decide) rfl (Nat.le_of_ble_eq_true rfl) (Nat.le_of_ble_eq_true rfl) (Nat.le_of_ble_eq_true rfl) (Nat.le_of_ble_eq_true rfl) (Nat.le_of_ble_eq_true rfl) (s_X12_isSign G hs (fun r16 e16_z => ?_))
        refine t_ifeq (t := 55) dX12_readSum_19 (by decide) (fun h19 => ?_) (fun h19 => False.elim (by omega))
        refine r_vret dX12_readSum_55 rfl (Nat.le_of_ble_eq_true rfl) (Nat.le_of_ble_eq_true rfl) ?_
        rw [← hv] at hQ
        exact hQ _ ofr hd2 hp2 hk2
      · have hb2 : (f2_z A 12).toInt ≠ 0 := by rw [hp2.1]; omega
        have hv := (lpP_bad (B := B) (n := n) (k := k) (sub := (chP B n (atP B n (if lm = 5 then 8 else 6) 2) (opT B n))) (op := opS B n) hr).symm.trans hR
        refine r_aloadR0 dX12_readSum_4 ?_
        refine n_bipush dX12_readSum_5 (by decide) (fun r5 e5_z => ?_)
        refine q_callV1 zm_RX12_175 dX12_readSum_7 (shM_k hs) (by decide) rfl (Nat.le_of_ble_eq_true rfl) (Nat.le_of_ble_eq_true rfl) (Nat.le_of_ble_eq_true rfl) (Nat.le_of_ble_eq_true rfl) (Nat.le_of_ble_eq_true rfl) (s_X12_isSign G hs (fun r7 e7_z => ?_))
        refine t_ifne (t := 22) dX12_readSum_10 (by decide) (fun h10 => False.elim (by omega)) (fun h10 => ?_)
        refine r_aloadR0 dX12_readSum_13 ?_
        refine n_bipush dX12_readSum_14 (by decide) (fun r14 e14_z => ?_)
        refine q_callV1 zm_RX12_175 dX12_readSum_16 (shM_k hs) (by decide) rfl (Nat.le_of_ble_eq_true rfl) (Nat.le_of_ble_eq_true rfl) (Nat.le_of_ble_eq_true rfl) (Nat.le_of_ble_eq_true rfl) (Nat.le_of_ble_eq_true rfl) (s_X12_isSign G hs (fun r16 e16_z => ?_))
        refine t_ifeq (t := 55) dX12_readSum_19 (by decide) (fun h19 => ?_) (fun h19 => False.elim (by omega))
        refine r_vret dX12_readSum_55 rfl (Nat.le_of_ble_eq_true rfl) (Nat.le_of_ble_eq_true rfl) ?_
        rw [← hv] at hQ
        exact hQ _ ofr hd2 hp2 hk2
  refine r_aloadR0 dX12_readSum_0 ?_
  refine q_callV0 zm_RX12_184 dX12_readSum_1 (shM_k hs) (by decide) rfl (Nat.le_of_ble_eq_true rfl) (Nat.le_of_ble_eq_true rfl) (Nat.le_of_ble_eq_true rfl) (Nat.le_of_ble_eq_true rfl) (Nat.le_of_ble_eq_true rfl) (s_X12_readTerm_2 G hs kw hld htp hps hd16 hlm hla hu h5 h29 h99 hup (fun g1 o1 d1 p1 k1_z => ?_))
  have gp := hgd p ht.1
  exact lp _ g1 n ((chP B n (atP B n (if lm = 5 then 8 else 6) 2) (opT B n)) p) _ o1 d1 p1 k1_z (fun h_z => ⟨Nat.le_of_lt (gp.1 h_z).1, (gp.1 h_z).2.1, (gp.1 h_z).2.2.1⟩) (fun _ => Nat.le_add_right n _) rfl (Nat.lt_succ_self n)
set_option maxHeartbeats 4000000 in
set_option maxRecDepth 100000 in
theorem s_X12_readAtom_3 {g : zGT} {w : zW} {f : Nat → Nat → Int32} {j : Nat → Nat → Int64} {A : Nat} {B : Nat → Nat} {n : Nat} {wa wv : Nat → Nat} {kq : Nat} {p lm la u : Nat} {Q : Option Value → zW → Prop} {QX : String → zW → Prop} (G : zGok g) (hs : shM w A) (kw : kWd g wa wv kq) (hld : kLd g wa) (htp : tpM B n f A) (hps : psM B n f A 0 p) (hd16 : (f A 16).toInt = 3) (hlm : (f A 17).toInt = (lm : Nat)) (hla : (f A 18).toInt = (la : Nat)) (hu : (f (A + 2) lm).toInt = (u : Nat)) (h5 : lm ≤ 5) (h29 : 209 ≤ la) (h99 : la ≤ 2009) (hup : u ≤ p) (hQ : ∀ f2_z, frM A [2] [8, 9, 10, 11, 12, 13, 16] f f2_z → (f2_z A 16).toInt = 3 → psM B n f2_z A (atP B n (if lm = 5 then 8 else 6) 3 p).1 (atP B n (if lm = 5 then 8 else 6) 3 p).2.1 → ((atP B n (if lm = 5 then 8 else 6) 3 p).1 = 0 → okM f f2_z A lm la u (atP B n (if lm = 5 then 8 else 6) 3 p).2.2) → Q none (zM w f2_z j)) : zC g 22 yX12_readAtom cX12_readAtom 3 none [.ref A] (zM w f j) (0, 0) Q QX := by
  refine zC_of G (by decide +kernel) (Nat.le_of_ble_eq_true rfl) ?_
  have ht := hps.2.1 rfl
  have h12 := hps.1
  have hte := teP_le (B := B) ht.1
  have h900 := htp.2.1
  have h10 := ht.2.2.2.1
  by_cases hf : tkP B n p = 3 ∧ fcP (wdP B n p) < (if lm = 5 then 8 else 6)
  · have hne : tkP B n p ≠ 40 := by rw [hf.1]; decide
    have hv : atP B n (if lm = 5 then 8 else 6) 3 p = (0, nxP B n p, [1000 + fcP (wdP B n p)]) := (if_neg hne).trans (a1_fact hf)
    rw [hv] at hQ
    have hpn := tk_lt (B := B) (n := n) (s := p) (by rw [hf.1]; decide)
    have hf8 : fcP (wdP B n p) < 8 := Nat.lt_of_lt_of_le hf.2 (by split <;> decide)
    refine r_aloadR0 dX12_readAtom_0 ?_
    refine m_getV (x := (f A 12)) zf_RX12_112 rfl dX12_readAtom_1 (shM_k hs) (rfl) ?_
    refine t_ifeq (t := 8) dX12_readAtom_4 (by decide) (fun h4 => ?_) (fun h4 => False.elim (by omega))
    refine r_aloadR0 dX12_readAtom_8 ?_
    refine q_callV0 zm_RX12_206 dX12_readAtom_9 (shM_k hs) (by decide) rfl (Nat.le_of_ble_eq_true rfl) (Nat.le_of_ble_eq_true rfl) (Nat.le_of_ble_eq_true rfl) (Nat.le_of_ble_eq_true rfl) (Nat.le_of_ble_eq_true rfl) (s_X12_lawWord G hs kw hld htp hps hlm (fun r9 g9 o9 a9 b9 => ?_))
    have htp9 := tpM_of htp (o9.2.1 5 (by decide) (by decide) (by decide)) (o9.2.2 7 (by decide))
    have w2 : g9 (A + 2) = f (A + 2) := o9.2.1 2 (by decide) (by decide) (by decide)
    obtain ⟨e9_z, p9⟩ := a9 hf
    have n9 := p9.1
    refine r_istore1 dX12_readAtom_12 rfl ?_
    refine r_iload1 dX12_readAtom_13 ?_
    refine n_iconst dX12_readAtom_14 (by decide) (fun r14 e14_z => ?_)
    refine t_iceq (t := 29) dX12_readAtom_15 (by decide) (fun h15 => False.elim (by omega)) (fun h15 => ?_)
    refine r_aloadR0 dX12_readAtom_18 ?_
    refine n_bipush dX12_readAtom_19 (by decide) (fun r19 e19_z => ?_)
    refine r_iload1 dX12_readAtom_21 ?_
    refine n_iadd dX12_readAtom_22 (by omega) (fun r22 e22_z => ?_)
    refine q_callV1 zm_RX12_162 dX12_readAtom_23 (shM_k hs) (by decide) rfl (Nat.le_of_ble_eq_true rfl) (Nat.le_of_ble_eq_true rfl) (Nat.le_of_ble_eq_true rfl) (Nat.le_of_ble_eq_true rfl) (Nat.le_of_ble_eq_true rfl) (s_X12_laysStep (lm := lm) (la := la) (u := u) G hs p9.1 (by rw [o9.2.2 17 (by decide)]; exact hlm) (by rw [o9.2.2 18 (by decide)]; exact hla) (by rw [w2]; exact hu) h5 h29 (by omega) (fun g23 o23 a23 b23 c23 => ?_))
    refine r_goto (t := 83) dX12_readAtom_26 (by decide) ?_
    refine r_vret dX12_readAtom_83 rfl (Nat.le_of_ble_eq_true rfl) (Nat.le_of_ble_eq_true rfl) ?_
    refine hQ _ (frM_tr (frM_su o9 (by decide) (by decide)) (frM_su o23 (by decide) (by decide))) (by rw [o23.2.2 16 (by decide), o9.2.2 16 (by decide)]; exact hd16) (psM_of p9 (o23.2.2 8 (by decide)) (o23.2.2 9 (by decide)) (o23.2.2 10 (by decide)) (o23.2.2 11 (by decide)) (o23.2.2 12 (by decide)) (o23.2.2 13 (by decide))) (fun _ => okM_cg (okM_one (by omega) a23 b23 c23 ?_) w2 rfl)
    unfold rfO
    rw [if_neg (by omega), if_pos (by omega)]
    omega
  by_cases hp : tkP B n p = 40
  · have hv : atP B n (if lm = 5 then 8 else 6) 3 p = clP B n 41 (suP B n (atP B n (if lm = 5 then 8 else 6) 2) (nxP B n p)) := if_pos hp
    rw [hv] at hQ
    have hrk := (rk4 (B := B) (n := n) (s := p) (c := 40) (by decide)).mpr hp
    have hpn := tk_lt (B := B) (n := n) (s := p) (by rw [hp]; decide)
    have hnx := nxP_gt (B := B) hpn
    by_cases hr : (suP B n (atP B n (if lm = 5 then 8 else 6) 2) (nxP B n p)).1 = 0
    · by_cases h41 : tkP B n (suP B n (atP B n (if lm = 5 then 8 else 6) 2) (nxP B n p)).2.1 = 41
      · have hv2 : clP B n 41 (suP B n (atP B n (if lm = 5 then 8 else 6) 2) (nxP B n p)) = (0, nxP B n (suP B n (atP B n (if lm = 5 then 8 else 6) 2) (nxP B n p)).2.1, (suP B n (atP B n (if lm = 5 then 8 else 6) 2) (nxP B n p)).2.2) := (if_neg (not_not_intro hr)).trans (if_pos h41)
        rw [hv2] at hQ
        refine r_aloadR0 dX12_readAtom_0 ?_
        refine m_getV (x := (f A 12)) zf_RX12_112 rfl dX12_readAtom_1 (shM_k hs) (rfl) ?_
        refine t_ifeq (t := 8) dX12_readAtom_4 (by decide) (fun h4 => ?_) (fun h4 => False.elim (by omega))
        refine r_aloadR0 dX12_readAtom_8 ?_
        refine q_callV0 zm_RX12_206 dX12_readAtom_9 (shM_k hs) (by decide) rfl (Nat.le_of_ble_eq_true rfl) (Nat.le_of_ble_eq_true rfl) (Nat.le_of_ble_eq_true rfl) (Nat.le_of_ble_eq_true rfl) (Nat.le_of_ble_eq_true rfl) (s_X12_lawWord G hs kw hld htp hps hlm (fun r9 g9 o9 a9 b9 => ?_))
        have htp9 := tpM_of htp (o9.2.1 5 (by decide) (by decide) (by decide)) (o9.2.2 7 (by decide))
        have w2 : g9 (A + 2) = f (A + 2) := o9.2.1 2 (by decide) (by decide) (by decide)
        obtain ⟨e9_z, p9⟩ := b9 hf
        have n9 := p9.1
        have t9 := p9.2.1 rfl
        have k9 := t9.2.2.2.1
        have d9 : (g9 A 16).toInt = 3 := by rw [o9.2.2 16 (by decide)]; exact hd16
        refine r_istore1 dX12_readAtom_12 rfl ?_
        refine r_iload1 dX12_readAtom_13 ?_
        refine n_iconst dX12_readAtom_14 (by decide) (fun r14 e14_z => ?_)
        refine t_iceq (t := 29) dX12_readAtom_15 (by decide) (fun h15 => ?_) (fun h15 => False.elim (by omega))
        refine r_aloadR0 dX12_readAtom_29 ?_
        refine n_bipush dX12_readAtom_30 (by decide) (fun r30 e30 => ?_)
        refine q_callV1 zm_RX12_175 dX12_readAtom_32 (shM_k hs) (by decide) rfl (Nat.le_of_ble_eq_true rfl) (Nat.le_of_ble_eq_true rfl) (Nat.le_of_ble_eq_true rfl) (Nat.le_of_ble_eq_true rfl) (Nat.le_of_ble_eq_true rfl) (s_X12_isSign G hs (fun r32 e32 => ?_))
        refine t_ifeq (t := 65) dX12_readAtom_35 (by decide) (fun h35 => False.elim (by omega)) (fun h35 => ?_)
        refine r_aloadR0 dX12_readAtom_38 ?_
        refine q_callV0 zm_RX12_172 dX12_readAtom_39 (shM_k hs) (by decide) rfl (Nat.le_of_ble_eq_true rfl) (Nat.le_of_ble_eq_true rfl) (Nat.le_of_ble_eq_true rfl) (Nat.le_of_ble_eq_true rfl) (Nat.le_of_ble_eq_true rfl) (s_X12_goesIn (d := 3) G hs htp9 p9 d9 (by decide) (by rw [hp]; decide) (fun g39 o39 a39 b39 c39 => ?_))
        have p39 := c39 (by decide)
        have htp39 := tpM_of htp9 (o39.2.1 5 (by decide) (by decide) (by decide)) (o39.2.2 7 (by decide))
        have w39 : g39 (A + 2) = f (A + 2) := (o39.2.1 2 (by decide) (by decide) (by decide)).trans w2
        refine r_aloadR0 dX12_readAtom_42 ?_
        refine q_callV0 zm_RX12_181 dX12_readAtom_43 (shM_k hs) (by decide) rfl (Nat.le_of_ble_eq_true rfl) (Nat.le_of_ble_eq_true rfl) (Nat.le_of_ble_eq_true rfl) (Nat.le_of_ble_eq_true rfl) (Nat.le_of_ble_eq_true rfl) (s_X12_readSum_2 (lm := lm) (la := la) (u := u) G hs kw hld htp39 p39 (by rw [a39]; rfl) (by rw [o39.2.2 17 (by decide), o9.2.2 17 (by decide)]; exact hlm) (by rw [o39.2.2 18 (by decide), o9.2.2 18 (by decide)]; exact hla) (by rw [w39]; exact hu) h5 h29 h99 (by omega) (fun g43 o43 d43 p43 k43 => ?_))
        have p43b : psM B n g43 A (suP B n (atP B n (if lm = 5 then 8 else 6) 2) (nxP B n p)).1 (suP B n (atP B n (if lm = 5 then 8 else 6) 2) (nxP B n p)).2.1 := p43
        have of43 : frM A [2] [8, 9, 10, 11, 12, 13, 16] f g43 := frM_tr (frM_tr (frM_su o9 (by decide) (by decide)) (frM_su o39 (by decide) (by decide))) o43
        have htp43 := tpM_of htp (of43.2.1 5 (by decide) (by decide) (by decide)) (of43.2.2 7 (by decide))
        have p43c := p43b
        rw [hr] at p43c
        refine r_aloadR0 dX12_readAtom_46 ?_
        refine n_bipush dX12_readAtom_47 (by decide) (fun r47 e47 => ?_)
        refine q_callV1 zm_RX12_151 dX12_readAtom_49 (shM_k hs) (by decide) rfl (Nat.le_of_ble_eq_true rfl) (Nat.le_of_ble_eq_true rfl) (Nat.le_of_ble_eq_true rfl) (Nat.le_of_ble_eq_true rfl) (Nat.le_of_ble_eq_true rfl) (s_X12_mustSign (p := (suP B n (atP B n (if lm = 5 then 8 else 6) 2) (nxP B n p)).2.1) (c := 41) G hs htp43 p43c e47 (by decide) (fun g49 o49 a49 b49 => ?_))
        have d49 : (g49 A 16).toInt = 4 := by rw [o49.2.2 16 (by decide)]; exact d43
        refine r_aloadR0 dX12_readAtom_52 ?_
        refine r_dup dX12_readAtom_53 rfl ?_
        refine m_getV (x := (g49 A 16)) zf_RX12_154 rfl dX12_readAtom_54 (shM_k hs) (rfl) ?_
        refine n_iconst dX12_readAtom_57 (by decide) (fun r57 e57 => ?_)
        refine n_isub dX12_readAtom_58 (by omega) (fun r58 e58 => ?_)
        refine m_putI zf_RX12_154 (by intro C T N h_z; cases h_z; rfl) rfl dX12_readAtom_59 (shM_k hs) ?_
        obtain ⟨g59, hg59⟩ : ∃ g9, g9 = zu g49 A 16 r58 := ⟨_, rfl⟩
        rw [← hg59]
        have og59 : frM A [] [16] g49 g59 := by rw [hg59]; exact frM_zk frM_rf (by decide)
        have vg59 : g59 A 16 = r58 := by rw [hg59]; exact zu_at
        have vt59 : (g59 A 16).toInt = r58.toInt := by rw [vg59]
        refine r_goto (t := 83) dX12_readAtom_62 (by decide) ?_
        refine r_vret dX12_readAtom_83 rfl (Nat.le_of_ble_eq_true rfl) (Nat.le_of_ble_eq_true rfl) ?_
        exact hQ _ (frM_tr (frM_tr of43 (frM_su o49 (by decide) (by decide))) (frM_su og59 (by decide) (by decide))) (by rw [vt59]; omega) (psM_of (a49 h41) (og59.2.2 8 (by decide)) (og59.2.2 9 (by decide)) (og59.2.2 10 (by decide)) (og59.2.2 11 (by decide)) (og59.2.2 12 (by decide)) (og59.2.2 13 (by decide))) (fun _ => okM_cg (k43 hr) w39 ((og59.2.1 2 (by decide) (by decide) (by decide)).trans (o49.2.1 2 (by decide) (by decide) (by decide))))
      · have hv2 : clP B n 41 (suP B n (atP B n (if lm = 5 then 8 else 6) 2) (nxP B n p)) = (baP B n (suP B n (atP B n (if lm = 5 then 8 else 6) 2) (nxP B n p)).2.1, (suP B n (atP B n (if lm = 5 then 8 else 6) 2) (nxP B n p)).2.1, []) := (if_neg (not_not_intro hr)).trans (if_neg h41)
        rw [hv2] at hQ
        refine r_aloadR0 dX12_readAtom_0 ?_
        refine m_getV (x := (f A 12)) zf_RX12_112 rfl dX12_readAtom_1 (shM_k hs) (rfl) ?_
        refine t_ifeq (t := 8) dX12_readAtom_4 (by decide) (fun h4 => ?_) (fun h4 => False.elim (by omega))
        refine r_aloadR0 dX12_readAtom_8 ?_
        refine q_callV0 zm_RX12_206 dX12_readAtom_9 (shM_k hs) (by decide) rfl (Nat.le_of_ble_eq_true rfl) (Nat.le_of_ble_eq_true rfl) (Nat.le_of_ble_eq_true rfl) (Nat.le_of_ble_eq_true rfl) (Nat.le_of_ble_eq_true rfl) (s_X12_lawWord G hs kw hld htp hps hlm (fun r9 g9 o9 a9 b9 => ?_))
        have htp9 := tpM_of htp (o9.2.1 5 (by decide) (by decide) (by decide)) (o9.2.2 7 (by decide))
        have w2 : g9 (A + 2) = f (A + 2) := o9.2.1 2 (by decide) (by decide) (by decide)
        obtain ⟨e9_z, p9⟩ := b9 hf
        have n9 := p9.1
        have t9 := p9.2.1 rfl
        have k9 := t9.2.2.2.1
        have d9 : (g9 A 16).toInt = 3 := by rw [o9.2.2 16 (by decide)]; exact hd16
        refine r_istore1 dX12_readAtom_12 rfl ?_
        refine r_iload1 dX12_readAtom_13 ?_
        refine n_iconst dX12_readAtom_14 (by decide) (fun r14 e14_z => ?_)
        refine t_iceq (t := 29) dX12_readAtom_15 (by decide) (fun h15 => ?_) (fun h15 => False.elim (by omega))
        refine r_aloadR0 dX12_readAtom_29 ?_
        refine n_bipush dX12_readAtom_30 (by decide) (fun r30 e30 => ?_)
        refine q_callV1 zm_RX12_175 dX12_readAtom_32 (shM_k hs) (by decide) rfl (Nat.le_of_ble_eq_true rfl) (Nat.le_of_ble_eq_true rfl) (Nat.le_of_ble_eq_true rfl) (Nat.le_of_ble_eq_true rfl) (Nat.le_of_ble_eq_true rfl) (s_X12_isSign G hs (fun r32 e32 => ?_))
        refine t_ifeq (t := 65) dX12_readAtom_35 (by decide) (fun h35 => False.elim (by omega)) (fun h35 => ?_)
        refine r_aloadR0 dX12_readAtom_38 ?_
        refine q_callV0 zm_RX12_172 dX12_readAtom_39 (shM_k hs) (by decide) rfl (Nat.le_of_ble_eq_true rfl) (Nat.le_of_ble_eq_true rfl) (Nat.le_of_ble_eq_true rfl) (Nat.le_of_ble_eq_true rfl) (Nat.le_of_ble_eq_true rfl) (s_X12_goesIn (d := 3) G hs htp9 p9 d9 (by decide) (by rw [hp]; decide) (fun g39 o39 a39 b39 c39 => ?_))
        have p39 := c39 (by decide)
        have htp39 := tpM_of htp9 (o39.2.1 5 (by decide) (by decide) (by decide)) (o39.2.2 7 (by decide))
        have w39 : g39 (A + 2) = f (A + 2) := (o39.2.1 2 (by decide) (by decide) (by decide)).trans w2
        refine r_aloadR0 dX12_readAtom_42 ?_
        refine q_callV0 zm_RX12_181 dX12_readAtom_43 (shM_k hs) (by decide) rfl (Nat.le_of_ble_eq_true rfl) (Nat.le_of_ble_eq_true rfl) (Nat.le_of_ble_eq_true rfl) (Nat.le_of_ble_eq_true rfl) (Nat.le_of_ble_eq_true rfl) (s_X12_readSum_2 (lm := lm) (la := la) (u := u) G hs kw hld htp39 p39 (by rw [a39]; rfl) (by rw [o39.2.2 17 (by decide), o9.2.2 17 (by decide)]; exact hlm) (by rw [o39.2.2 18 (by decide), o9.2.2 18 (by decide)]; exact hla) (by rw [w39]; exact hu) h5 h29 h99 (by omega) (fun g43 o43 d43 p43 k43 => ?_))
        have p43b : psM B n g43 A (suP B n (atP B n (if lm = 5 then 8 else 6) 2) (nxP B n p)).1 (suP B n (atP B n (if lm = 5 then 8 else 6) 2) (nxP B n p)).2.1 := p43
        have of43 : frM A [2] [8, 9, 10, 11, 12, 13, 16] f g43 := frM_tr (frM_tr (frM_su o9 (by decide) (by decide)) (frM_su o39 (by decide) (by decide))) o43
        have htp43 := tpM_of htp (of43.2.1 5 (by decide) (by decide) (by decide)) (of43.2.2 7 (by decide))
        have p43c := p43b
        rw [hr] at p43c
        refine r_aloadR0 dX12_readAtom_46 ?_
        refine n_bipush dX12_readAtom_47 (by decide) (fun r47 e47 => ?_)
        refine q_callV1 zm_RX12_151 dX12_readAtom_49 (shM_k hs) (by decide) rfl (Nat.le_of_ble_eq_true rfl) (Nat.le_of_ble_eq_true rfl) (Nat.le_of_ble_eq_true rfl) (Nat.le_of_ble_eq_true rfl) (Nat.le_of_ble_eq_true rfl) (s_X12_mustSign (p := (suP B n (atP B n (if lm = 5 then 8 else 6) 2) (nxP B n p)).2.1) (c := 41) G hs htp43 p43c e47 (by decide) (fun g49 o49 a49 b49 => ?_))
        have d49 : (g49 A 16).toInt = 4 := by rw [o49.2.2 16 (by decide)]; exact d43
        refine r_aloadR0 dX12_readAtom_52 ?_
        refine r_dup dX12_readAtom_53 rfl ?_
        refine m_getV (x := (g49 A 16)) zf_RX12_154 rfl dX12_readAtom_54 (shM_k hs) (rfl) ?_
        refine n_iconst dX12_readAtom_57 (by decide) (fun r57 e57 => ?_)
        refine n_isub dX12_readAtom_58 (by omega) (fun r58 e58 => ?_)
        refine m_putI zf_RX12_154 (by intro C T N h_z; cases h_z; rfl) rfl dX12_readAtom_59 (shM_k hs) ?_
        obtain ⟨g59, hg59⟩ : ∃ g9, g9 = zu g49 A 16 r58 := ⟨_, rfl⟩
        rw [← hg59]
        have og59 : frM A [] [16] g49 g59 := by rw [hg59]; exact frM_zk frM_rf (by decide)
        have vg59 : g59 A 16 = r58 := by rw [hg59]; exact zu_at
        have vt59 : (g59 A 16).toInt = r58.toInt := by rw [vg59]
        refine r_goto (t := 83) dX12_readAtom_62 (by decide) ?_
        refine r_vret dX12_readAtom_83 rfl (Nat.le_of_ble_eq_true rfl) (Nat.le_of_ble_eq_true rfl) ?_
        exact hQ _ (frM_tr (frM_tr of43 (frM_su o49 (by decide) (by decide))) (frM_su og59 (by decide) (by decide))) (by rw [vt59]; omega) (psM_of (b49 h41) (og59.2.2 8 (by decide)) (og59.2.2 9 (by decide)) (og59.2.2 10 (by decide)) (og59.2.2 11 (by decide)) (og59.2.2 12 (by decide)) (og59.2.2 13 (by decide))) (fun h_z => absurd h_z ba_bd.1)
    · have hv2 : clP B n 41 (suP B n (atP B n (if lm = 5 then 8 else 6) 2) (nxP B n p)) = (suP B n (atP B n (if lm = 5 then 8 else 6) 2) (nxP B n p)) := if_pos hr
      rw [hv2] at hQ
      refine r_aloadR0 dX12_readAtom_0 ?_
      refine m_getV (x := (f A 12)) zf_RX12_112 rfl dX12_readAtom_1 (shM_k hs) (rfl) ?_
      refine t_ifeq (t := 8) dX12_readAtom_4 (by decide) (fun h4 => ?_) (fun h4 => False.elim (by omega))
      refine r_aloadR0 dX12_readAtom_8 ?_
      refine q_callV0 zm_RX12_206 dX12_readAtom_9 (shM_k hs) (by decide) rfl (Nat.le_of_ble_eq_true rfl) (Nat.le_of_ble_eq_true rfl) (Nat.le_of_ble_eq_true rfl) (Nat.le_of_ble_eq_true rfl) (Nat.le_of_ble_eq_true rfl) (s_X12_lawWord G hs kw hld htp hps hlm (fun r9 g9 o9 a9 b9 => ?_))
      have htp9 := tpM_of htp (o9.2.1 5 (by decide) (by decide) (by decide)) (o9.2.2 7 (by decide))
      have w2 : g9 (A + 2) = f (A + 2) := o9.2.1 2 (by decide) (by decide) (by decide)
      obtain ⟨e9_z, p9⟩ := b9 hf
      have n9 := p9.1
      have t9 := p9.2.1 rfl
      have k9 := t9.2.2.2.1
      have d9 : (g9 A 16).toInt = 3 := by rw [o9.2.2 16 (by decide)]; exact hd16
      refine r_istore1 dX12_readAtom_12 rfl ?_
      refine r_iload1 dX12_readAtom_13 ?_
      refine n_iconst dX12_readAtom_14 (by decide) (fun r14 e14_z => ?_)
      refine t_iceq (t := 29) dX12_readAtom_15 (by decide) (fun h15 => ?_) (fun h15 => False.elim (by omega))
      refine r_aloadR0 dX12_readAtom_29 ?_
      refine n_bipush dX12_readAtom_30 (by decide) (fun r30 e30 => ?_)
      refine q_callV1 zm_RX12_175 dX12_readAtom_32 (shM_k hs) (by decide) rfl (Nat.le_of_ble_eq_true rfl) (Nat.le_of_ble_eq_true rfl) (Nat.le_of_ble_eq_true rfl) (Nat.le_of_ble_eq_true rfl) (Nat.le_of_ble_eq_true rfl) (s_X12_isSign G hs (fun r32 e32 => ?_))
      refine t_ifeq (t := 65) dX12_readAtom_35 (by decide) (fun h35 => False.elim (by omega)) (fun h35 => ?_)
      refine r_aloadR0 dX12_readAtom_38 ?_
      refine q_callV0 zm_RX12_172 dX12_readAtom_39 (shM_k hs) (by decide) rfl (Nat.le_of_ble_eq_true rfl) (Nat.le_of_ble_eq_true rfl) (Nat.le_of_ble_eq_true rfl) (Nat.le_of_ble_eq_true rfl) (Nat.le_of_ble_eq_true rfl) (s_X12_goesIn (d := 3) G hs htp9 p9 d9 (by decide) (by rw [hp]; decide) (fun g39 o39 a39 b39 c39 => ?_))
      have p39 := c39 (by decide)
      have htp39 := tpM_of htp9 (o39.2.1 5 (by decide) (by decide) (by decide)) (o39.2.2 7 (by decide))
      have w39 : g39 (A + 2) = f (A + 2) := (o39.2.1 2 (by decide) (by decide) (by decide)).trans w2
      refine r_aloadR0 dX12_readAtom_42 ?_
      refine q_callV0 zm_RX12_181 dX12_readAtom_43 (shM_k hs) (by decide) rfl (Nat.le_of_ble_eq_true rfl) (Nat.le_of_ble_eq_true rfl) (Nat.le_of_ble_eq_true rfl) (Nat.le_of_ble_eq_true rfl) (Nat.le_of_ble_eq_true rfl) (s_X12_readSum_2 (lm := lm) (la := la) (u := u) G hs kw hld htp39 p39 (by rw [a39]; rfl) (by rw [o39.2.2 17 (by decide), o9.2.2 17 (by decide)]; exact hlm) (by rw [o39.2.2 18 (by decide), o9.2.2 18 (by decide)]; exact hla) (by rw [w39]; exact hu) h5 h29 h99 (by omega) (fun g43 o43 d43 p43 k43 => ?_))
      have p43b : psM B n g43 A (suP B n (atP B n (if lm = 5 then 8 else 6) 2) (nxP B n p)).1 (suP B n (atP B n (if lm = 5 then 8 else 6) 2) (nxP B n p)).2.1 := p43
      have of43 : frM A [2] [8, 9, 10, 11, 12, 13, 16] f g43 := frM_tr (frM_tr (frM_su o9 (by decide) (by decide)) (frM_su o39 (by decide) (by decide))) o43
      have htp43 := tpM_of htp (of43.2.1 5 (by decide) (by decide) (by decide)) (of43.2.2 7 (by decide))
      have nb : (g43 A 12).toInt ≠ 0 := by rw [p43b.1]; omega
      have d43b : (g43 A 16).toInt = 4 := d43
      refine r_aloadR0 dX12_readAtom_46 ?_
      refine n_bipush dX12_readAtom_47 (by decide) (fun r47 e47 => ?_)
      refine q_callV1 zm_RX12_151 dX12_readAtom_49 (shM_k hs) (by decide) rfl (Nat.le_of_ble_eq_true rfl) (Nat.le_of_ble_eq_true rfl) (Nat.le_of_ble_eq_true rfl) (Nat.le_of_ble_eq_true rfl) (Nat.le_of_ble_eq_true rfl) (s_X12_mustSign_x G hs nb ?_)
      refine r_aloadR0 dX12_readAtom_52 ?_
      refine r_dup dX12_readAtom_53 rfl ?_
      refine m_getV (x := (g43 A 16)) zf_RX12_154 rfl dX12_readAtom_54 (shM_k hs) (rfl) ?_
      refine n_iconst dX12_readAtom_57 (by decide) (fun r57 e57 => ?_)
      refine n_isub dX12_readAtom_58 (by omega) (fun r58 e58 => ?_)
      refine m_putI zf_RX12_154 (by intro C T N h_z; cases h_z; rfl) rfl dX12_readAtom_59 (shM_k hs) ?_
      obtain ⟨g59, hg59⟩ : ∃ g9, g9 = zu g43 A 16 r58 := ⟨_, rfl⟩
      rw [← hg59]
      have og59 : frM A [] [16] g43 g59 := by rw [hg59]; exact frM_zk frM_rf (by decide)
      have vg59 : g59 A 16 = r58 := by rw [hg59]; exact zu_at
      have vt59 : (g59 A 16).toInt = r58.toInt := by rw [vg59]
      refine r_goto (t := 83) dX12_readAtom_62 (by decide) ?_
      refine r_vret dX12_readAtom_83 rfl (Nat.le_of_ble_eq_true rfl) (Nat.le_of_ble_eq_true rfl) ?_
      exact hQ _ (frM_tr of43 (frM_su og59 (by decide) (by decide))) (by rw [vt59]; omega) (psM_of p43b (og59.2.2 8 (by decide)) (og59.2.2 9 (by decide)) (og59.2.2 10 (by decide)) (og59.2.2 11 (by decide)) (og59.2.2 12 (by decide)) (og59.2.2 13 (by decide))) (fun h_z => absurd h_z hr)
  have hrk : rkP B n p ≠ 40 := fun h_z => hp ((rk4 (B := B) (n := n) (s := p) (c := 40) (by decide)).mp h_z)
  have hv0 : atP B n (if lm = 5 then 8 else 6) 3 p = a1P B n (if lm = 5 then 8 else 6) p := if_neg hp
  by_cases h2 : tkP B n p = 2
  · have hv : atP B n (if lm = 5 then 8 else 6) 3 p = (0, nxP B n p, [nmP B n p]) := hv0.trans (a1_num h2)
    rw [hv] at hQ
    have hpn := (tk2 h2).1
    have hnm := nm_bd h2
    have hnu : nuH B n 999 p = (0, nxP B n p, nmP B n p) := by unfold nuH; rw [if_pos h2, if_neg (by omega)]
    refine r_aloadR0 dX12_readAtom_0 ?_
    refine m_getV (x := (f A 12)) zf_RX12_112 rfl dX12_readAtom_1 (shM_k hs) (rfl) ?_
    refine t_ifeq (t := 8) dX12_readAtom_4 (by decide) (fun h4 => ?_) (fun h4 => False.elim (by omega))
    refine r_aloadR0 dX12_readAtom_8 ?_
    refine q_callV0 zm_RX12_206 dX12_readAtom_9 (shM_k hs) (by decide) rfl (Nat.le_of_ble_eq_true rfl) (Nat.le_of_ble_eq_true rfl) (Nat.le_of_ble_eq_true rfl) (Nat.le_of_ble_eq_true rfl) (Nat.le_of_ble_eq_true rfl) (s_X12_lawWord G hs kw hld htp hps hlm (fun r9 g9 o9 a9 b9 => ?_))
    have htp9 := tpM_of htp (o9.2.1 5 (by decide) (by decide) (by decide)) (o9.2.2 7 (by decide))
    have w2 : g9 (A + 2) = f (A + 2) := o9.2.1 2 (by decide) (by decide) (by decide)
    obtain ⟨e9_z, p9⟩ := b9 hf
    have n9 := p9.1
    have t9 := p9.2.1 rfl
    have k9 := t9.2.2.2.1
    have d9 : (g9 A 16).toInt = 3 := by rw [o9.2.2 16 (by decide)]; exact hd16
    refine r_istore1 dX12_readAtom_12 rfl ?_
    refine r_iload1 dX12_readAtom_13 ?_
    refine n_iconst dX12_readAtom_14 (by decide) (fun r14 e14_z => ?_)
    refine t_iceq (t := 29) dX12_readAtom_15 (by decide) (fun h15 => ?_) (fun h15 => False.elim (by omega))
    refine r_aloadR0 dX12_readAtom_29 ?_
    refine n_bipush dX12_readAtom_30 (by decide) (fun r30 e30 => ?_)
    refine q_callV1 zm_RX12_175 dX12_readAtom_32 (shM_k hs) (by decide) rfl (Nat.le_of_ble_eq_true rfl) (Nat.le_of_ble_eq_true rfl) (Nat.le_of_ble_eq_true rfl) (Nat.le_of_ble_eq_true rfl) (Nat.le_of_ble_eq_true rfl) (s_X12_isSign G hs (fun r32 e32 => ?_))
    refine t_ifeq (t := 65) dX12_readAtom_35 (by decide) (fun h35 => ?_) (fun h35 => False.elim (by omega))
    refine r_aloadR0 dX12_readAtom_65 ?_
    refine n_iconst dX12_readAtom_66 (by decide) (fun r66 e66 => ?_)
    refine n_sipush dX12_readAtom_67 (by decide) (fun r67 e67 => ?_)
    refine q_callV2 zm_RX12_209 dX12_readAtom_70 (shM_k hs) (by decide) rfl (Nat.le_of_ble_eq_true rfl) (Nat.le_of_ble_eq_true rfl) (Nat.le_of_ble_eq_true rfl) (Nat.le_of_ble_eq_true rfl) (Nat.le_of_ble_eq_true rfl) (s_X12_number (p := p) (h_z := 999) G hs htp9 p9 e66 e67 (fun r70 g70 o70 a70 b70 c70 => ?_))
    rw [hnu] at a70 b70
    have e70 : r70.toInt = (nmP B n p : Nat) := b70 rfl
    have w3 : g70 (A + 2) = f (A + 2) := (o70.2.1 2 (by decide) (by decide) (by decide)).trans w2
    refine r_istore2 dX12_readAtom_73 rfl ?_
    refine r_aloadR0 dX12_readAtom_74 ?_
    refine n_sipush dX12_readAtom_75 (by decide) (fun r75 e75 => ?_)
    refine r_iload2 dX12_readAtom_78 ?_
    refine n_iadd dX12_readAtom_79 (by omega) (fun r79 e79 => ?_)
    refine q_callV1 zm_RX12_162 dX12_readAtom_80 (shM_k hs) (by decide) rfl (Nat.le_of_ble_eq_true rfl) (Nat.le_of_ble_eq_true rfl) (Nat.le_of_ble_eq_true rfl) (Nat.le_of_ble_eq_true rfl) (Nat.le_of_ble_eq_true rfl) (s_X12_laysStep (lm := lm) (la := la) (u := u) G hs a70.1 (by rw [o70.2.2 17 (by decide), o9.2.2 17 (by decide)]; exact hlm) (by rw [o70.2.2 18 (by decide), o9.2.2 18 (by decide)]; exact hla) (by rw [w3]; exact hu) h5 h29 (by omega) (fun g80 o80 a80 b80 c80 => ?_))
    refine r_vret dX12_readAtom_83 rfl (Nat.le_of_ble_eq_true rfl) (Nat.le_of_ble_eq_true rfl) ?_
    refine hQ _ (frM_tr (frM_tr (frM_su o9 (by decide) (by decide)) (frM_su o70 (by decide) (by decide))) (frM_su o80 (by decide) (by decide))) (by rw [o80.2.2 16 (by decide), o70.2.2 16 (by decide)]; exact d9) (psM_of a70 (o80.2.2 8 (by decide)) (o80.2.2 9 (by decide)) (o80.2.2 10 (by decide)) (o80.2.2 11 (by decide)) (o80.2.2 12 (by decide)) (o80.2.2 13 (by decide))) (fun _ => okM_cg (okM_one (by omega) a80 b80 c80 ?_) w3 rfl)
    unfold rfO
    rw [if_pos (by omega)]
    omega
  · have hv : atP B n (if lm = 5 then 8 else 6) 3 p = (baP B n p, p, []) := hv0.trans (a1_bad h2 hf)
    rw [hv] at hQ
    have hba := ba_bd (B := B) (n := n) (s := p)
    have hnu : nuH B n 999 p = (baP B n p, p, 0) := by unfold nuH; rw [if_neg h2]
    refine r_aloadR0 dX12_readAtom_0 ?_
    refine m_getV (x := (f A 12)) zf_RX12_112 rfl dX12_readAtom_1 (shM_k hs) (rfl) ?_
    refine t_ifeq (t := 8) dX12_readAtom_4 (by decide) (fun h4 => ?_) (fun h4 => False.elim (by omega))
    refine r_aloadR0 dX12_readAtom_8 ?_
    refine q_callV0 zm_RX12_206 dX12_readAtom_9 (shM_k hs) (by decide) rfl (Nat.le_of_ble_eq_true rfl) (Nat.le_of_ble_eq_true rfl) (Nat.le_of_ble_eq_true rfl) (Nat.le_of_ble_eq_true rfl) (Nat.le_of_ble_eq_true rfl) (s_X12_lawWord G hs kw hld htp hps hlm (fun r9 g9 o9 a9 b9 => ?_))
    have htp9 := tpM_of htp (o9.2.1 5 (by decide) (by decide) (by decide)) (o9.2.2 7 (by decide))
    have w2 : g9 (A + 2) = f (A + 2) := o9.2.1 2 (by decide) (by decide) (by decide)
    obtain ⟨e9_z, p9⟩ := b9 hf
    have n9 := p9.1
    have t9 := p9.2.1 rfl
    have k9 := t9.2.2.2.1
    have d9 : (g9 A 16).toInt = 3 := by rw [o9.2.2 16 (by decide)]; exact hd16
    refine r_istore1 dX12_readAtom_12 rfl ?_
    refine r_iload1 dX12_readAtom_13 ?_
    refine n_iconst dX12_readAtom_14 (by decide) (fun r14 e14_z => ?_)
    refine t_iceq (t := 29) dX12_readAtom_15 (by decide) (fun h15 => ?_) (fun h15 => False.elim (by omega))
    refine r_aloadR0 dX12_readAtom_29 ?_
    refine n_bipush dX12_readAtom_30 (by decide) (fun r30 e30 => ?_)
    refine q_callV1 zm_RX12_175 dX12_readAtom_32 (shM_k hs) (by decide) rfl (Nat.le_of_ble_eq_true rfl) (Nat.le_of_ble_eq_true rfl) (Nat.le_of_ble_eq_true rfl) (Nat.le_of_ble_eq_true rfl) (Nat.le_of_ble_eq_true rfl) (s_X12_isSign G hs (fun r32 e32 => ?_))
    refine t_ifeq (t := 65) dX12_readAtom_35 (by decide) (fun h35 => ?_) (fun h35 => False.elim (by omega))
    refine r_aloadR0 dX12_readAtom_65 ?_
    refine n_iconst dX12_readAtom_66 (by decide) (fun r66 e66 => ?_)
    refine n_sipush dX12_readAtom_67 (by decide) (fun r67 e67 => ?_)
    refine q_callV2 zm_RX12_209 dX12_readAtom_70 (shM_k hs) (by decide) rfl (Nat.le_of_ble_eq_true rfl) (Nat.le_of_ble_eq_true rfl) (Nat.le_of_ble_eq_true rfl) (Nat.le_of_ble_eq_true rfl) (Nat.le_of_ble_eq_true rfl) (s_X12_number (p := p) (h_z := 999) G hs htp9 p9 e66 e67 (fun r70 g70 o70 a70 b70 c70 => ?_))
    rw [hnu] at a70 c70
    have e70 : r70.toInt = 0 := c70 hba.1
    have nb : (g70 A 12).toInt ≠ 0 := by rw [a70.1]; have := hba.1; omega
    refine r_istore2 dX12_readAtom_73 rfl ?_
    refine r_aloadR0 dX12_readAtom_74 ?_
    refine n_sipush dX12_readAtom_75 (by decide) (fun r75 e75 => ?_)
    refine r_iload2 dX12_readAtom_78 ?_
    refine n_iadd dX12_readAtom_79 (by omega) (fun r79 e79 => ?_)
    refine q_callV1 zm_RX12_162 dX12_readAtom_80 (shM_k hs) (by decide) rfl (Nat.le_of_ble_eq_true rfl) (Nat.le_of_ble_eq_true rfl) (Nat.le_of_ble_eq_true rfl) (Nat.le_of_ble_eq_true rfl) (Nat.le_of_ble_eq_true rfl) (s_X12_laysStep_x G hs nb ?_)
    refine r_vret dX12_readAtom_83 rfl (Nat.le_of_ble_eq_true rfl) (Nat.le_of_ble_eq_true rfl) ?_
    exact hQ _ (frM_tr (frM_su o9 (by decide) (by decide)) (frM_su o70 (by decide) (by decide))) (by rw [o70.2.2 16 (by decide)]; exact d9) a70 (fun h_z => absurd h_z hba.1)
set_option maxHeartbeats 4000000 in
set_option maxRecDepth 100000 in
theorem s_X12_readTerm_3 {g : zGT} {w : zW} {f : Nat → Nat → Int32} {j : Nat → Nat → Int64} {A : Nat} {B : Nat → Nat} {n : Nat} {wa wv : Nat → Nat} {kq : Nat} {p lm la u : Nat} {Q : Option Value → zW → Prop} {QX : String → zW → Prop} (G : zGok g) (hs : shM w A) (kw : kWd g wa wv kq) (hld : kLd g wa) (htp : tpM B n f A) (hps : psM B n f A 0 p) (hd16 : (f A 16).toInt = 3) (hlm : (f A 17).toInt = (lm : Nat)) (hla : (f A 18).toInt = (la : Nat)) (hu : (f (A + 2) lm).toInt = (u : Nat)) (h5 : lm ≤ 5) (h29 : 209 ≤ la) (h99 : la ≤ 2009) (hup : u ≤ p) (hQ : ∀ f2_z, frM A [2] [8, 9, 10, 11, 12, 13, 16] f f2_z → (f2_z A 16).toInt = 3 → psM B n f2_z A (chP B n (atP B n (if lm = 5 then 8 else 6) 3) (opT B n) p).1 (chP B n (atP B n (if lm = 5 then 8 else 6) 3) (opT B n) p).2.1 → ((chP B n (atP B n (if lm = 5 then 8 else 6) 3) (opT B n) p).1 = 0 → okM f f2_z A lm la u (chP B n (atP B n (if lm = 5 then 8 else 6) 3) (opT B n) p).2.2) → Q none (zM w f2_z j)) : zC g 23 yX12_readTerm cX12_readTerm 1 none [.ref A] (zM w f j) (0, 0) Q QX := by
  refine zC_of G (by decide +kernel) (Nat.le_of_ble_eq_true rfl) ?_
  have ht := hps.2.1 rfl
  have h12 := hps.1
  have h900 := htp.2.1
  have hgd : ∀ s, s ≤ n → gdP n false (if lm = 5 then 8 else 6) (1 + 2 * 3) s ((atP B n (if lm = 5 then 8 else 6) 3) s) := gd_at (by split <;> decide) 3
  have lp : ∀ (mz : Nat) (f2_z : Nat → Nat → Int32) (k : Nat) (r : zPR), frM A [2] [8, 9, 10, 11, 12, 13, 16] f f2_z → (f2_z A 16).toInt = 3 → psM B n f2_z A r.1 r.2.1 → (r.1 = 0 → okM f f2_z A lm la u r.2.2) → (r.1 = 0 → p ≤ r.2.1 ∧ r.2.1 ≤ n ∧ r.2.2.length + p ≤ r.2.1) → (r.1 = 0 → n ≤ k + r.2.1) → lpP B n (atP B n (if lm = 5 then 8 else 6) 3) (opT B n) k r = chP B n (atP B n (if lm = 5 then 8 else 6) 3) (opT B n) p → k < mz → zR (zV g 23 yX12_readTerm 1 none (0, 0) Q QX) cX12_readTerm yX12_readTerm.cls 4 [some (.ref A)] [] (zM w f2_z j) (0, 0) := by
    intro mz
    induction mz with
    | zero =>
      intro f2_z k r ofr hd2 hp2 hk2 hg2 hnk hR hmz
      exact absurd hmz (Nat.not_lt_zero _)
    | succ mz ih =>
      intro f2_z k r ofr hd2 hp2 hk2 hg2 hnk hR hmz
      by_cases hr : r.1 = 0
      · have hk3 := hk2 hr
        obtain ⟨q1_z, q2_z, q3_z⟩ := hg2 hr
        have hnk3 := hnk hr
        have hps2 := hp2
        rw [hr] at hps2
        have ht2 := hps2.2.1 rfl
        have hb2 := hps2.1
        have hte2 := teP_le (B := B) ht2.1
        have htp2 := tpM_of htp (ofr.2.1 5 (by decide) (by decide) (by decide)) (ofr.2.2 7 (by decide))
        have h10 := ht2.2.2.2.1
        have hrk := rk4 (B := B) (n := n) (s := r.2.1) (c := 42) (by decide)
        by_cases hc_z : tkP B n r.2.1 = 42
        · have h10b := hrk.mpr hc_z
          have hop : opT B n r.2.1 = 2005 := if_pos hc_z
          have hop0 : opT B n r.2.1 ≠ 0 := by rw [hop]; decide
          have hln := tk_lt (B := B) (n := n) (s := r.2.1) (by rw [hc_z]; decide)
          obtain ⟨k2_z, rfl⟩ : ∃ k2_z, k = k2_z + 1 := ⟨k - 1, by omega⟩
          have hnx := nxP_gt (B := B) hln
          have gq := hgd _ hnx.2
          by_cases hq : ((atP B n (if lm = 5 then 8 else 6) 3) (nxP B n r.2.1)).1 = 0
          · obtain ⟨y1, y2, y3, y4⟩ := gq.1 hq
            refine r_aloadR0 dX12_readTerm_4 ?_
            refine n_bipush dX12_readTerm_5 (by decide) (fun r5 e5_z => ?_)
            refine q_callV1 zm_RX12_175 dX12_readTerm_7 (shM_k hs) (by decide) rfl (Nat.le_of_ble_eq_true rfl) (Nat.le_of_ble_eq_true rfl) (Nat.le_of_ble_eq_true rfl) (Nat.le_of_ble_eq_true rfl) (Nat.le_of_ble_eq_true rfl) (s_X12_isSign G hs (fun r7 e7_z => ?_))
            refine t_ifeq (t := 30) dX12_readTerm_10 (by decide) (fun h10 => False.elim (by omega)) (fun h10 => ?_)
            refine r_aloadR0 dX12_readTerm_13 ?_
            refine q_callV0 zm_RX12_131 dX12_readTerm_14 (shM_k hs) (by decide) rfl (Nat.le_of_ble_eq_true rfl) (Nat.le_of_ble_eq_true rfl) (Nat.le_of_ble_eq_true rfl) (Nat.le_of_ble_eq_true rfl) (Nat.le_of_ble_eq_true rfl) (s_X12_readsOn (p := teP B n r.2.1) G hs htp2 ht2.2.1 hte2 (fun g14 o14 t14 => ?_))
            have htp14 := tpM_of htp2 (o14.2.1 5 (by decide) (by decide) (by decide)) (o14.2.2 7 (by decide))
            have hp14 : psM B n g14 A 0 (nxP B n r.2.1) := ⟨by rw [o14.2.2 12 (by decide)]; exact hb2, fun _ => t14, fun h_z => absurd rfl h_z⟩
            have w14 : g14 (A + 2) = f2_z (A + 2) := o14.2.1 2 (by decide) (by decide) (by decide)
            refine r_aloadR0 dX12_readTerm_17 ?_
            refine q_callV0 zm_RX12_187 dX12_readTerm_18 (shM_k hs) (by decide) rfl (Nat.le_of_ble_eq_true rfl) (Nat.le_of_ble_eq_true rfl) (Nat.le_of_ble_eq_true rfl) (Nat.le_of_ble_eq_true rfl) (Nat.le_of_ble_eq_true rfl) (s_X12_readAtom_3 (lm := lm) (la := la) (u := u + r.2.2.length) G hs kw hld htp14 hp14 (by rw [o14.2.2 16 (by decide)]; exact hd2) (by rw [o14.2.2 17 (by decide), ofr.2.2 17 (by decide)]; exact hlm) (by rw [o14.2.2 18 (by decide), ofr.2.2 18 (by decide)]; exact hla) (by rw [w14]; exact hk3.1) h5 h29 h99 (by omega) (fun g18 o18 d18 p18 k18 => ?_))
            have of18 : frM A [2] [8, 9, 10, 11, 12, 13, 16] f g18 := frM_tr ofr (frM_tr (frM_su o14 (by decide) (by decide)) o18)
            refine r_aloadR0 dX12_readTerm_21 ?_
            refine n_bipush dX12_readTerm_22 (by decide) (fun r22 e22_z => ?_)
            refine q_callV1 zm_RX12_162 dX12_readTerm_24 (shM_k hs) (by decide) rfl (Nat.le_of_ble_eq_true rfl) (Nat.le_of_ble_eq_true rfl) (Nat.le_of_ble_eq_true rfl) (Nat.le_of_ble_eq_true rfl) (Nat.le_of_ble_eq_true rfl) (s_X12_laysStep (lm := lm) (la := la) (u := u + r.2.2.length + ((atP B n (if lm = 5 then 8 else 6) 3) (nxP B n r.2.1)).2.2.length) G hs (by have := p18.1; rw [hq] at this; exact this) (by rw [of18.2.2 17 (by decide)]; exact hlm) (by rw [of18.2.2 18 (by decide)]; exact hla) (k18 hq).1 h5 h29 (by omega) (fun g24 o24 a24 b24 c24 => ?_))
            refine r_goto (t := 4) dX12_readTerm_27 (by decide) ?_
            have hp18 := p18
            rw [hq] at hp18
            refine ih _ k2_z (0, ((atP B n (if lm = 5 then 8 else 6) 3) (nxP B n r.2.1)).2.1, r.2.2 ++ ((atP B n (if lm = 5 then 8 else 6) 3) (nxP B n r.2.1)).2.2 ++ [opT B n r.2.1]) (frM_tr of18 (frM_su o24 (by decide) (by decide))) (by rw [o24.2.2 16 (by decide)]; exact d18) (psM_of hp18 (o24.2.2 8 (by decide)) (o24.2.2 9 (by decide)) (o24.2.2 10 (by decide)) (o24.2.2 11 (by decide)) (o24.2.2 12 (by decide)) (o24.2.2 13 (by decide))) (fun _ => okM_ap (by omega) (by rw [List.length_append]; omega) (okM_ap (by omega) (by omega) hk3 (okM_cg (k18 hq) w14 rfl)) ?_) (fun _ => ?_) (fun _ => ?_) ?_ (by omega)
            · rw [List.length_append, ← Nat.add_assoc, hop]
              exact okM_one (by omega) a24 b24 c24 (by rw [e22_z]; rfl)
            · show p ≤ ((atP B n (if lm = 5 then 8 else 6) 3) (nxP B n r.2.1)).2.1 ∧ ((atP B n (if lm = 5 then 8 else 6) 3) (nxP B n r.2.1)).2.1 ≤ n ∧ (r.2.2 ++ ((atP B n (if lm = 5 then 8 else 6) 3) (nxP B n r.2.1)).2.2 ++ [opT B n r.2.1]).length + p ≤ ((atP B n (if lm = 5 then 8 else 6) 3) (nxP B n r.2.1)).2.1
              rw [List.length_append, List.length_append, List.length_singleton]
              omega
            · show n ≤ k2_z + ((atP B n (if lm = 5 then 8 else 6) 3) (nxP B n r.2.1)).2.1
              omega
            · exact (lpP_on hr hop0 hq).symm.trans hR
          · have nb : ∀ g : Nat → Nat → Int32, psM B n g A ((atP B n (if lm = 5 then 8 else 6) 3) (nxP B n r.2.1)).1 ((atP B n (if lm = 5 then 8 else 6) 3) (nxP B n r.2.1)).2.1 → (g A 12).toInt ≠ 0 := fun g h_z => by rw [h_z.1]; omega
            refine r_aloadR0 dX12_readTerm_4 ?_
            refine n_bipush dX12_readTerm_5 (by decide) (fun r5 e5_z => ?_)
            refine q_callV1 zm_RX12_175 dX12_readTerm_7 (shM_k hs) (by decide) rfl (Nat.le_of_ble_eq_true rfl) (Nat.le_of_ble_eq_true rfl) (Nat.le_of_ble_eq_true rfl) (Nat.le_of_ble_eq_true rfl) (Nat.le_of_ble_eq_true rfl) (s_X12_isSign G hs (fun r7 e7_z => ?_))
            refine t_ifeq (t := 30) dX12_readTerm_10 (by decide) (fun h10 => False.elim (by omega)) (fun h10 => ?_)
            refine r_aloadR0 dX12_readTerm_13 ?_
            refine q_callV0 zm_RX12_131 dX12_readTerm_14 (shM_k hs) (by decide) rfl (Nat.le_of_ble_eq_true rfl) (Nat.le_of_ble_eq_true rfl) (Nat.le_of_ble_eq_true rfl) (Nat.le_of_ble_eq_true rfl) (Nat.le_of_ble_eq_true rfl) (s_X12_readsOn (p := teP B n r.2.1) G hs htp2 ht2.2.1 hte2 (fun g14 o14 t14 => ?_))
            have htp14 := tpM_of htp2 (o14.2.1 5 (by decide) (by decide) (by decide)) (o14.2.2 7 (by decide))
            have hp14 : psM B n g14 A 0 (nxP B n r.2.1) := ⟨by rw [o14.2.2 12 (by decide)]; exact hb2, fun _ => t14, fun h_z => absurd rfl h_z⟩
            have w14 : g14 (A + 2) = f2_z (A + 2) := o14.2.1 2 (by decide) (by decide) (by decide)
            refine r_aloadR0 dX12_readTerm_17 ?_
            refine q_callV0 zm_RX12_187 dX12_readTerm_18 (shM_k hs) (by decide) rfl (Nat.le_of_ble_eq_true rfl) (Nat.le_of_ble_eq_true rfl) (Nat.le_of_ble_eq_true rfl) (Nat.le_of_ble_eq_true rfl) (Nat.le_of_ble_eq_true rfl) (s_X12_readAtom_3 (lm := lm) (la := la) (u := u + r.2.2.length) G hs kw hld htp14 hp14 (by rw [o14.2.2 16 (by decide)]; exact hd2) (by rw [o14.2.2 17 (by decide), ofr.2.2 17 (by decide)]; exact hlm) (by rw [o14.2.2 18 (by decide), ofr.2.2 18 (by decide)]; exact hla) (by rw [w14]; exact hk3.1) h5 h29 h99 (by omega) (fun g18 o18 d18 p18 k18 => ?_))
            have of18 : frM A [2] [8, 9, 10, 11, 12, 13, 16] f g18 := frM_tr ofr (frM_tr (frM_su o14 (by decide) (by decide)) o18)
            refine r_aloadR0 dX12_readTerm_21 ?_
            refine n_bipush dX12_readTerm_22 (by decide) (fun r22 e22_z => ?_)
            refine q_callV1 zm_RX12_162 dX12_readTerm_24 (shM_k hs) (by decide) rfl (Nat.le_of_ble_eq_true rfl) (Nat.le_of_ble_eq_true rfl) (Nat.le_of_ble_eq_true rfl) (Nat.le_of_ble_eq_true rfl) (Nat.le_of_ble_eq_true rfl) (s_X12_laysStep_x G hs (nb _ p18) ?_)
            refine r_goto (t := 4) dX12_readTerm_27 (by decide) ?_
            exact ih _ k2_z ((atP B n (if lm = 5 then 8 else 6) 3) (nxP B n r.2.1)) of18 d18 p18 (fun h_z => absurd h_z hq) (fun h_z => absurd h_z hq) (fun h_z => absurd h_z hq) ((lpP_bad hq).trans ((lpP_sub hr hop0 hq).symm.trans hR)) (by omega)
        · have h10b : rkP B n r.2.1 ≠ 42 := fun h_z => hc_z (hrk.mp h_z)
          have hop : opT B n r.2.1 = 0 := if_neg hc_z
          have hv := (lpP_end (B := B) (n := n) (k := k) (sub := (atP B n (if lm = 5 then 8 else 6) 3)) hop).symm.trans hR
          refine r_aloadR0 dX12_readTerm_4 ?_
          refine n_bipush dX12_readTerm_5 (by decide) (fun r5 e5_z => ?_)
          refine q_callV1 zm_RX12_175 dX12_readTerm_7 (shM_k hs) (by decide) rfl (Nat.le_of_ble_eq_true rfl) (Nat.le_of_ble_eq_true rfl) (Nat.le_of_ble_eq_true rfl) (Nat.le_of_ble_eq_true rfl) (Nat.le_of_ble_eq_true rfl) (s_X12_isSign G hs (fun r7 e7_z => ?_))
          refine t_ifeq (t := 30) dX12_readTerm_10 (by decide) (fun h10 => ?_) (fun h10 => False.elim (by omega))
          refine r_vret dX12_readTerm_30 rfl (Nat.le_of_ble_eq_true rfl) (Nat.le_of_ble_eq_true rfl) ?_
          rw [← hv] at hQ
          exact hQ _ ofr hd2 hp2 hk2
      · have hb2 : (f2_z A 12).toInt ≠ 0 := by rw [hp2.1]; omega
        have hv := (lpP_bad (B := B) (n := n) (k := k) (sub := (atP B n (if lm = 5 then 8 else 6) 3)) (op := opT B n) hr).symm.trans hR
        refine r_aloadR0 dX12_readTerm_4 ?_
        refine n_bipush dX12_readTerm_5 (by decide) (fun r5 e5_z => ?_)
        refine q_callV1 zm_RX12_175 dX12_readTerm_7 (shM_k hs) (by decide) rfl (Nat.le_of_ble_eq_true rfl) (Nat.le_of_ble_eq_true rfl) (Nat.le_of_ble_eq_true rfl) (Nat.le_of_ble_eq_true rfl) (Nat.le_of_ble_eq_true rfl) (s_X12_isSign G hs (fun r7 e7_z => ?_))
        refine t_ifeq (t := 30) dX12_readTerm_10 (by decide) (fun h10 => ?_) (fun h10 => False.elim (by omega))
        refine r_vret dX12_readTerm_30 rfl (Nat.le_of_ble_eq_true rfl) (Nat.le_of_ble_eq_true rfl) ?_
        rw [← hv] at hQ
        exact hQ _ ofr hd2 hp2 hk2
  refine r_aloadR0 dX12_readTerm_0 ?_
  refine q_callV0 zm_RX12_187 dX12_readTerm_1 (shM_k hs) (by decide) rfl (Nat.le_of_ble_eq_true rfl) (Nat.le_of_ble_eq_true rfl) (Nat.le_of_ble_eq_true rfl) (Nat.le_of_ble_eq_true rfl) (Nat.le_of_ble_eq_true rfl) (s_X12_readAtom_3 G hs kw hld htp hps hd16 hlm hla hu h5 h29 h99 hup (fun g1 o1 d1 p1 k1_z => ?_))
  have gp := hgd p ht.1
  exact lp _ g1 n ((atP B n (if lm = 5 then 8 else 6) 3) p) o1 d1 p1 k1_z (fun h_z => ⟨Nat.le_of_lt (gp.1 h_z).1, (gp.1 h_z).2.1, (gp.1 h_z).2.2.1⟩) (fun _ => Nat.le_add_right n _) rfl (Nat.lt_succ_self n)
set_option maxHeartbeats 4000000 in
set_option maxRecDepth 100000 in
theorem s_X12_readSum_3 {g : zGT} {w : zW} {f : Nat → Nat → Int32} {j : Nat → Nat → Int64} {A : Nat} {B : Nat → Nat} {n : Nat} {wa wv : Nat → Nat} {kq : Nat} {p lm la u : Nat} {Q : Option Value → zW → Prop} {QX : String → zW → Prop} (G : zGok g) (hs : shM w A) (kw : kWd g wa wv kq) (hld : kLd g wa) (htp : tpM B n f A) (hps : psM B n f A 0 p) (hd16 : (f A 16).toInt = 3) (hlm : (f A 17).toInt = (lm : Nat)) (hla : (f A 18).toInt = (la : Nat)) (hu : (f (A + 2) lm).toInt = (u : Nat)) (h5 : lm ≤ 5) (h29 : 209 ≤ la) (h99 : la ≤ 2009) (hup : u ≤ p) (hQ : ∀ f2_z, frM A [2] [8, 9, 10, 11, 12, 13, 16] f f2_z → (f2_z A 16).toInt = 3 → psM B n f2_z A (chP B n (chP B n (atP B n (if lm = 5 then 8 else 6) 3) (opT B n)) (opS B n) p).1 (chP B n (chP B n (atP B n (if lm = 5 then 8 else 6) 3) (opT B n)) (opS B n) p).2.1 → ((chP B n (chP B n (atP B n (if lm = 5 then 8 else 6) 3) (opT B n)) (opS B n) p).1 = 0 → okM f f2_z A lm la u (chP B n (chP B n (atP B n (if lm = 5 then 8 else 6) 3) (opT B n)) (opS B n) p).2.2) → Q none (zM w f2_z j)) : zC g 24 yX12_readSum cX12_readSum 2 none [.ref A] (zM w f j) (0, 0) Q QX := by
  refine zC_of G (by decide +kernel) (Nat.le_of_ble_eq_true rfl) ?_
  have ht := hps.2.1 rfl
  have h12 := hps.1
  have h900 := htp.2.1
  have hgd : ∀ s, s ≤ n → gdP n false (if lm = 5 then 8 else 6) (1 + 2 * 3 + 1) s ((chP B n (atP B n (if lm = 5 then 8 else 6) 3) (opT B n)) s) := fun s hs9 => gd_ch (gd_at (by split <;> decide) 3) hop_T hs9
  have lp : ∀ (mz : Nat) (f2_z : Nat → Nat → Int32) (k : Nat) (r : zPR) (v1_ : Option Value), frM A [2] [8, 9, 10, 11, 12, 13, 16] f f2_z → (f2_z A 16).toInt = 3 → psM B n f2_z A r.1 r.2.1 → (r.1 = 0 → okM f f2_z A lm la u r.2.2) → (r.1 = 0 → p ≤ r.2.1 ∧ r.2.1 ≤ n ∧ r.2.2.length + p ≤ r.2.1) → (r.1 = 0 → n ≤ k + r.2.1) → lpP B n (chP B n (atP B n (if lm = 5 then 8 else 6) 3) (opT B n)) (opS B n) k r = chP B n (chP B n (atP B n (if lm = 5 then 8 else 6) 3) (opT B n)) (opS B n) p → k < mz → zR (zV g 24 yX12_readSum 2 none (0, 0) Q QX) cX12_readSum yX12_readSum.cls 4 [some (.ref A), v1_] [] (zM w f2_z j) (0, 0) := by
    intro mz
    induction mz with
    | zero =>
      intro f2_z k r v1_ ofr hd2 hp2 hk2 hg2 hnk hR hmz
      exact absurd hmz (Nat.not_lt_zero _)
    | succ mz ih =>
      intro f2_z k r v1_ ofr hd2 hp2 hk2 hg2 hnk hR hmz
      by_cases hr : r.1 = 0
      · have hk3 := hk2 hr
        obtain ⟨q1_z, q2_z, q3_z⟩ := hg2 hr
        have hnk3 := hnk hr
        have hps2 := hp2
        rw [hr] at hps2
        have ht2 := hps2.2.1 rfl
        have hb2 := hps2.1
        have hte2 := teP_le (B := B) ht2.1
        have htp2 := tpM_of htp (ofr.2.1 5 (by decide) (by decide) (by decide)) (ofr.2.2 7 (by decide))
        have h10 := ht2.2.2.2.1
        have hrk := rk4 (B := B) (n := n) (s := r.2.1) (c := 43) (by decide)
        have hrm := rk4 (B := B) (n := n) (s := r.2.1) (c := 45) (by decide)
        by_cases hc_z : tkP B n r.2.1 = 43
        · have h10b := hrk.mpr hc_z
          have hop : opS B n r.2.1 = 2003 := if_pos hc_z
          have hop0 : opS B n r.2.1 ≠ 0 := by rw [hop]; decide
          have hln := tk_lt (B := B) (n := n) (s := r.2.1) (by rw [hc_z]; decide)
          obtain ⟨k2_z, rfl⟩ : ∃ k2_z, k = k2_z + 1 := ⟨k - 1, by omega⟩
          have hnx := nxP_gt (B := B) hln
          have gq := hgd _ hnx.2
          by_cases hq : ((chP B n (atP B n (if lm = 5 then 8 else 6) 3) (opT B n)) (nxP B n r.2.1)).1 = 0
          · obtain ⟨y1, y2, y3, y4⟩ := gq.1 hq
            refine r_aloadR0 dX12_readSum_4 ?_
            refine n_bipush dX12_readSum_5 (by decide) (fun r5 e5_z => ?_)
            refine q_callV1 zm_RX12_175 dX12_readSum_7 (shM_k hs) (by decide) rfl (Nat.le_of_ble_eq_true rfl) (Nat.le_of_ble_eq_true rfl) (Nat.le_of_ble_eq_true rfl) (Nat.le_of_ble_eq_true rfl) (Nat.le_of_ble_eq_true rfl) (s_X12_isSign G hs (fun r7 e7_z => ?_))
            refine t_ifne (t := 22) dX12_readSum_10 (by decide) (fun h10 => ?_) (fun h10 => False.elim (by omega))
            refine r_aloadR0 dX12_readSum_22 ?_
            refine m_getV (x := (f2_z A 10)) zf_RX12_92 rfl dX12_readSum_23 (shM_k hs) (rfl) ?_
            refine r_istore1 dX12_readSum_26 rfl ?_
            refine r_aloadR0 dX12_readSum_27 ?_
            refine q_callV0 zm_RX12_131 dX12_readSum_28 (shM_k hs) (by decide) rfl (Nat.le_of_ble_eq_true rfl) (Nat.le_of_ble_eq_true rfl) (Nat.le_of_ble_eq_true rfl) (Nat.le_of_ble_eq_true rfl) (Nat.le_of_ble_eq_true rfl) (s_X12_readsOn (p := teP B n r.2.1) G hs htp2 ht2.2.1 hte2 (fun g28 o28 t28 => ?_))
            have htp28 := tpM_of htp2 (o28.2.1 5 (by decide) (by decide) (by decide)) (o28.2.2 7 (by decide))
            have hp28 : psM B n g28 A 0 (nxP B n r.2.1) := ⟨by rw [o28.2.2 12 (by decide)]; exact hb2, fun _ => t28, fun h_z => absurd rfl h_z⟩
            have w28 : g28 (A + 2) = f2_z (A + 2) := o28.2.1 2 (by decide) (by decide) (by decide)
            refine r_aloadR0 dX12_readSum_31 ?_
            refine q_callV0 zm_RX12_184 dX12_readSum_32 (shM_k hs) (by decide) rfl (Nat.le_of_ble_eq_true rfl) (Nat.le_of_ble_eq_true rfl) (Nat.le_of_ble_eq_true rfl) (Nat.le_of_ble_eq_true rfl) (Nat.le_of_ble_eq_true rfl) (s_X12_readTerm_3 (lm := lm) (la := la) (u := u + r.2.2.length) G hs kw hld htp28 hp28 (by rw [o28.2.2 16 (by decide)]; exact hd2) (by rw [o28.2.2 17 (by decide), ofr.2.2 17 (by decide)]; exact hlm) (by rw [o28.2.2 18 (by decide), ofr.2.2 18 (by decide)]; exact hla) (by rw [w28]; exact hk3.1) h5 h29 h99 (by omega) (fun g32 o32 d32 p32 k32 => ?_))
            have of32 : frM A [2] [8, 9, 10, 11, 12, 13, 16] f g32 := frM_tr ofr (frM_tr (frM_su o28 (by decide) (by decide)) o32)
            refine r_aloadR0 dX12_readSum_35 ?_
            refine r_iload1 dX12_readSum_36 ?_
            refine n_bipush dX12_readSum_37 (by decide) (fun r37 e37 => ?_)
            refine t_icne (t := 47) dX12_readSum_39 (by decide) (fun h39 => False.elim (by omega)) (fun h39 => ?_)
            refine n_bipush dX12_readSum_42 (by decide) (fun r42 e42_z => ?_)
            refine r_goto (t := 49) dX12_readSum_44 (by decide) ?_
            refine q_callV1 zm_RX12_162 dX12_readSum_49 (shM_k hs) (by decide) rfl (Nat.le_of_ble_eq_true rfl) (Nat.le_of_ble_eq_true rfl) (Nat.le_of_ble_eq_true rfl) (Nat.le_of_ble_eq_true rfl) (Nat.le_of_ble_eq_true rfl) (s_X12_laysStep (lm := lm) (la := la) (u := u + r.2.2.length + ((chP B n (atP B n (if lm = 5 then 8 else 6) 3) (opT B n)) (nxP B n r.2.1)).2.2.length) G hs (by have := p32.1; rw [hq] at this; exact this) (by rw [of32.2.2 17 (by decide)]; exact hlm) (by rw [of32.2.2 18 (by decide)]; exact hla) (k32 hq).1 h5 h29 (by omega) (fun g49 o49 a49 b49 c49 => ?_))
            refine r_goto (t := 4) dX12_readSum_52 (by decide) ?_
            have hp32 := p32
            rw [hq] at hp32
            refine ih _ k2_z (0, ((chP B n (atP B n (if lm = 5 then 8 else 6) 3) (opT B n)) (nxP B n r.2.1)).2.1, r.2.2 ++ ((chP B n (atP B n (if lm = 5 then 8 else 6) 3) (opT B n)) (nxP B n r.2.1)).2.2 ++ [opS B n r.2.1]) _ (frM_tr of32 (frM_su o49 (by decide) (by decide))) (by rw [o49.2.2 16 (by decide)]; exact d32) (psM_of hp32 (o49.2.2 8 (by decide)) (o49.2.2 9 (by decide)) (o49.2.2 10 (by decide)) (o49.2.2 11 (by decide)) (o49.2.2 12 (by decide)) (o49.2.2 13 (by decide))) (fun _ => okM_ap (by omega) (by rw [List.length_append]; omega) (okM_ap (by omega) (by omega) hk3 (okM_cg (k32 hq) w28 rfl)) ?_) (fun _ => ?_) (fun _ => ?_) ?_ (by omega)
            · rw [List.length_append, ← Nat.add_assoc, hop]
              exact okM_one (by omega) a49 b49 c49 (by rw [e42_z]; rfl)
            · show p ≤ ((chP B n (atP B n (if lm = 5 then 8 else 6) 3) (opT B n)) (nxP B n r.2.1)).2.1 ∧ ((chP B n (atP B n (if lm = 5 then 8 else 6) 3) (opT B n)) (nxP B n r.2.1)).2.1 ≤ n ∧ (r.2.2 ++ ((chP B n (atP B n (if lm = 5 then 8 else 6) 3) (opT B n)) (nxP B n r.2.1)).2.2 ++ [opS B n r.2.1]).length + p ≤ ((chP B n (atP B n (if lm = 5 then 8 else 6) 3) (opT B n)) (nxP B n r.2.1)).2.1
              rw [List.length_append, List.length_append, List.length_singleton]
              omega
            · show n ≤ k2_z + ((chP B n (atP B n (if lm = 5 then 8 else 6) 3) (opT B n)) (nxP B n r.2.1)).2.1
              omega
            · exact (lpP_on hr hop0 hq).symm.trans hR
          · have nb : ∀ g : Nat → Nat → Int32, psM B n g A ((chP B n (atP B n (if lm = 5 then 8 else 6) 3) (opT B n)) (nxP B n r.2.1)).1 ((chP B n (atP B n (if lm = 5 then 8 else 6) 3) (opT B n)) (nxP B n r.2.1)).2.1 → (g A 12).toInt ≠ 0 := fun g h_z => by rw [h_z.1]; omega
            refine r_aloadR0 dX12_readSum_4 ?_
            refine n_bipush dX12_readSum_5 (by decide) (fun r5 e5_z => ?_)
            refine q_callV1 zm_RX12_175 dX12_readSum_7 (shM_k hs) (by decide) rfl (Nat.le_of_ble_eq_true rfl) (Nat.le_of_ble_eq_true rfl) (Nat.le_of_ble_eq_true rfl) (Nat.le_of_ble_eq_true rfl) (Nat.le_of_ble_eq_true rfl) (s_X12_isSign G hs (fun r7 e7_z => ?_))
            refine t_ifne (t := 22) dX12_readSum_10 (by decide) (fun h10 => ?_) (fun h10 => False.elim (by omega))
            refine r_aloadR0 dX12_readSum_22 ?_
            refine m_getV (x := (f2_z A 10)) zf_RX12_92 rfl dX12_readSum_23 (shM_k hs) (rfl) ?_
            refine r_istore1 dX12_readSum_26 rfl ?_
            refine r_aloadR0 dX12_readSum_27 ?_
            refine q_callV0 zm_RX12_131 dX12_readSum_28 (shM_k hs) (by decide) rfl (Nat.le_of_ble_eq_true rfl) (Nat.le_of_ble_eq_true rfl) (Nat.le_of_ble_eq_true rfl) (Nat.le_of_ble_eq_true rfl) (Nat.le_of_ble_eq_true rfl) (s_X12_readsOn (p := teP B n r.2.1) G hs htp2 ht2.2.1 hte2 (fun g28 o28 t28 => ?_))
            have htp28 := tpM_of htp2 (o28.2.1 5 (by decide) (by decide) (by decide)) (o28.2.2 7 (by decide))
            have hp28 : psM B n g28 A 0 (nxP B n r.2.1) := ⟨by rw [o28.2.2 12 (by decide)]; exact hb2, fun _ => t28, fun h_z => absurd rfl h_z⟩
            have w28 : g28 (A + 2) = f2_z (A + 2) := o28.2.1 2 (by decide) (by decide) (by decide)
            refine r_aloadR0 dX12_readSum_31 ?_
            refine q_callV0 zm_RX12_184 dX12_readSum_32 (shM_k hs) (by decide) rfl (Nat.le_of_ble_eq_true rfl) (Nat.le_of_ble_eq_true rfl) (Nat.le_of_ble_eq_true rfl) (Nat.le_of_ble_eq_true rfl) (Nat.le_of_ble_eq_true rfl) (s_X12_readTerm_3 (lm := lm) (la := la) (u := u + r.2.2.length) G hs kw hld htp28 hp28 (by rw [o28.2.2 16 (by decide)]; exact hd2) (by rw [o28.2.2 17 (by decide), ofr.2.2 17 (by decide)]; exact hlm) (by rw [o28.2.2 18 (by decide), ofr.2.2 18 (by decide)]; exact hla) (by rw [w28]; exact hk3.1) h5 h29 h99 (by omega) (fun g32 o32 d32 p32 k32 => ?_))
            have of32 : frM A [2] [8, 9, 10, 11, 12, 13, 16] f g32 := frM_tr ofr (frM_tr (frM_su o28 (by decide) (by decide)) o32)
            refine r_aloadR0 dX12_readSum_35 ?_
            refine r_iload1 dX12_readSum_36 ?_
            refine n_bipush dX12_readSum_37 (by decide) (fun r37 e37 => ?_)
            refine t_icne (t := 47) dX12_readSum_39 (by decide) (fun h39 => False.elim (by omega)) (fun h39 => ?_)
            refine n_bipush dX12_readSum_42 (by decide) (fun r42 e42_z => ?_)
            refine r_goto (t := 49) dX12_readSum_44 (by decide) ?_
            refine q_callV1 zm_RX12_162 dX12_readSum_49 (shM_k hs) (by decide) rfl (Nat.le_of_ble_eq_true rfl) (Nat.le_of_ble_eq_true rfl) (Nat.le_of_ble_eq_true rfl) (Nat.le_of_ble_eq_true rfl) (Nat.le_of_ble_eq_true rfl) (s_X12_laysStep_x G hs (nb _ p32) ?_)
            refine r_goto (t := 4) dX12_readSum_52 (by decide) ?_
            exact ih _ k2_z ((chP B n (atP B n (if lm = 5 then 8 else 6) 3) (opT B n)) (nxP B n r.2.1)) _ of32 d32 p32 (fun h_z => absurd h_z hq) (fun h_z => absurd h_z hq) (fun h_z => absurd h_z hq) ((lpP_bad hq).trans ((lpP_sub hr hop0 hq).symm.trans hR)) (by omega)
        have hcn := hc_z
        have hc43 : rkP B n r.2.1 ≠ 43 := fun h_z => hc_z (hrk.mp h_z)
        clear hc_z
        by_cases hc_z : tkP B n r.2.1 = 45
        · have h10b := hrm.mpr hc_z
          have hop : opS B n r.2.1 = 2004 := (if_neg (by omega)).trans (if_pos hc_z)
          have hop0 : opS B n r.2.1 ≠ 0 := by rw [hop]; decide
          have hln := tk_lt (B := B) (n := n) (s := r.2.1) (by rw [hc_z]; decide)
          obtain ⟨k2_z, rfl⟩ : ∃ k2_z, k = k2_z + 1 := ⟨k - 1, by omega⟩
          have hnx := nxP_gt (B := B) hln
          have gq := hgd _ hnx.2
          by_cases hq : ((chP B n (atP B n (if lm = 5 then 8 else 6) 3) (opT B n)) (nxP B n r.2.1)).1 = 0
          · obtain ⟨y1, y2, y3, y4⟩ := gq.1 hq
            refine r_aloadR0 dX12_readSum_4 ?_
            refine n_bipush dX12_readSum_5 (by decide) (fun r5 e5_z => ?_)
            refine q_callV1 zm_RX12_175 dX12_readSum_7 (shM_k hs) (by decide) rfl (Nat.le_of_ble_eq_true rfl) (Nat.le_of_ble_eq_true rfl) (Nat.le_of_ble_eq_true rfl) (Nat.le_of_ble_eq_true rfl) (Nat.le_of_ble_eq_true rfl) (s_X12_isSign G hs (fun r7 e7_z => ?_))
            refine t_ifne (t := 22) dX12_readSum_10 (by decide) (fun h10 => False.elim (by omega)) (fun h10 => ?_)
            refine r_aloadR0 dX12_readSum_13 ?_
            refine n_bipush dX12_readSum_14 (by decide) (fun r14 e14_z => ?_)
            refine q_callV1 zm_RX12_175 dX12_readSum_16 (shM_k hs) (by decide) rfl (Nat.le_of_ble_eq_true rfl) (Nat.le_of_ble_eq_true rfl) (Nat.le_of_ble_eq_true rfl) (Nat.le_of_ble_eq_true rfl) (Nat.le_of_ble_eq_true rfl) (s_X12_isSign G hs (fun r16 e16_z => ?_))
            refine t_ifeq (t := 55) dX12_readSum_19 (by decide) (fun h19 => False.elim (by omega)) (fun h19 => ?_)
            refine r_aloadR0 dX12_readSum_22 ?_
            refine m_getV (x := (f2_z A 10)) zf_RX12_92 rfl dX12_readSum_23 (shM_k hs) (rfl) ?_
            refine r_istore1 dX12_readSum_26 rfl ?_
            refine r_aloadR0 dX12_readSum_27 ?_
            refine q_callV0 zm_RX12_131 dX12_readSum_28 (shM_k hs) (by decide) rfl (Nat.le_of_ble_eq_true rfl) (Nat.le_of_ble_eq_true rfl) (Nat.le_of_ble_eq_true rfl) (Nat.le_of_ble_eq_true rfl) (Nat.le_of_ble_eq_true rfl) (s_X12_readsOn (p := teP B n r.2.1) G hs htp2 ht2.2.1 hte2 (fun g28 o28 t28 => ?_))
            have htp28 := tpM_of htp2 (o28.2.1 5 (by decide) (by decide) (by decide)) (o28.2.2 7 (by decide))
            have hp28 : psM B n g28 A 0 (nxP B n r.2.1) := ⟨by rw [o28.2.2 12 (by decide)]; exact hb2, fun _ => t28, fun h_z => absurd rfl h_z⟩
            have w28 : g28 (A + 2) = f2_z (A + 2) := o28.2.1 2 (by decide) (by decide) (by decide)
            refine r_aloadR0 dX12_readSum_31 ?_
            refine q_callV0 zm_RX12_184 dX12_readSum_32 (shM_k hs) (by decide) rfl (Nat.le_of_ble_eq_true rfl) (Nat.le_of_ble_eq_true rfl) (Nat.le_of_ble_eq_true rfl) (Nat.le_of_ble_eq_true rfl) (Nat.le_of_ble_eq_true rfl) (s_X12_readTerm_3 (lm := lm) (la := la) (u := u + r.2.2.length) G hs kw hld htp28 hp28 (by rw [o28.2.2 16 (by decide)]; exact hd2) (by rw [o28.2.2 17 (by decide), ofr.2.2 17 (by decide)]; exact hlm) (by rw [o28.2.2 18 (by decide), ofr.2.2 18 (by decide)]; exact hla) (by rw [w28]; exact hk3.1) h5 h29 h99 (by omega) (fun g32 o32 d32 p32 k32 => ?_))
            have of32 : frM A [2] [8, 9, 10, 11, 12, 13, 16] f g32 := frM_tr ofr (frM_tr (frM_su o28 (by decide) (by decide)) o32)
            refine r_aloadR0 dX12_readSum_35 ?_
            refine r_iload1 dX12_readSum_36 ?_
            refine n_bipush dX12_readSum_37 (by decide) (fun r37 e37 => ?_)
            refine t_icne (t := 47) dX12_readSum_39 (by decide) (fun h39 => ?_) (fun h39 => False.elim (by omega))
            refine n_bipush dX12_readSum_47 (by decide) (fun r47 e47 => ?_)
            refine q_callV1 zm_RX12_162 dX12_readSum_49 (shM_k hs) (by decide) rfl (Nat.le_of_ble_eq_true rfl) (Nat.le_of_ble_eq_true rfl) (Nat.le_of_ble_eq_true rfl) (Nat.le_of_ble_eq_true rfl) (Nat.le_of_ble_eq_true rfl) (s_X12_laysStep (lm := lm) (la := la) (u := u + r.2.2.length + ((chP B n (atP B n (if lm = 5 then 8 else 6) 3) (opT B n)) (nxP B n r.2.1)).2.2.length) G hs (by have := p32.1; rw [hq] at this; exact this) (by rw [of32.2.2 17 (by decide)]; exact hlm) (by rw [of32.2.2 18 (by decide)]; exact hla) (k32 hq).1 h5 h29 (by omega) (fun g49 o49 a49 b49 c49 => ?_))
            refine r_goto (t := 4) dX12_readSum_52 (by decide) ?_
            have hp32 := p32
            rw [hq] at hp32
            refine ih _ k2_z (0, ((chP B n (atP B n (if lm = 5 then 8 else 6) 3) (opT B n)) (nxP B n r.2.1)).2.1, r.2.2 ++ ((chP B n (atP B n (if lm = 5 then 8 else 6) 3) (opT B n)) (nxP B n r.2.1)).2.2 ++ [opS B n r.2.1]) _ (frM_tr of32 (frM_su o49 (by decide) (by decide))) (by rw [o49.2.2 16 (by decide)]; exact d32) (psM_of hp32 (o49.2.2 8 (by decide)) (o49.2.2 9 (by decide)) (o49.2.2 10 (by decide)) (o49.2.2 11 (by decide)) (o49.2.2 12 (by decide)) (o49.2.2 13 (by decide))) (fun _ => okM_ap (by omega) (by rw [List.length_append]; omega) (okM_ap (by omega) (by omega) hk3 (okM_cg (k32 hq) w28 rfl)) ?_) (fun _ => ?_) (fun _ => ?_) ?_ (by omega)
            · rw [List.length_append, ← Nat.add_assoc, hop]
              exact okM_one (by omega) a49 b49 c49 (by rw [e47]; rfl)
            · show p ≤ ((chP B n (atP B n (if lm = 5 then 8 else 6) 3) (opT B n)) (nxP B n r.2.1)).2.1 ∧ ((chP B n (atP B n (if lm = 5 then 8 else 6) 3) (opT B n)) (nxP B n r.2.1)).2.1 ≤ n ∧ (r.2.2 ++ ((chP B n (atP B n (if lm = 5 then 8 else 6) 3) (opT B n)) (nxP B n r.2.1)).2.2 ++ [opS B n r.2.1]).length + p ≤ ((chP B n (atP B n (if lm = 5 then 8 else 6) 3) (opT B n)) (nxP B n r.2.1)).2.1
              rw [List.length_append, List.length_append, List.length_singleton]
              omega
            · show n ≤ k2_z + ((chP B n (atP B n (if lm = 5 then 8 else 6) 3) (opT B n)) (nxP B n r.2.1)).2.1
              omega
            · exact (lpP_on hr hop0 hq).symm.trans hR
          · have nb : ∀ g : Nat → Nat → Int32, psM B n g A ((chP B n (atP B n (if lm = 5 then 8 else 6) 3) (opT B n)) (nxP B n r.2.1)).1 ((chP B n (atP B n (if lm = 5 then 8 else 6) 3) (opT B n)) (nxP B n r.2.1)).2.1 → (g A 12).toInt ≠ 0 := fun g h_z => by rw [h_z.1]; omega
            refine r_aloadR0 dX12_readSum_4 ?_
            refine n_bipush dX12_readSum_5 (by decide) (fun r5 e5_z => ?_)
            refine q_callV1 zm_RX12_175 dX12_readSum_7 (shM_k hs) (by decide) rfl (Nat.le_of_ble_eq_true rfl) (Nat.le_of_ble_eq_true rfl) (Nat.le_of_ble_eq_true rfl) (Nat.le_of_ble_eq_true rfl) (Nat.le_of_ble_eq_true rfl) (s_X12_isSign G hs (fun r7 e7_z => ?_))
            refine t_ifne (t := 22) dX12_readSum_10 (by decide) (fun h10 => False.elim (by omega)) (fun h10 => ?_)
            refine r_aloadR0 dX12_readSum_13 ?_
            refine n_bipush dX12_readSum_14 (by decide) (fun r14 e14_z => ?_)
            refine q_callV1 zm_RX12_175 dX12_readSum_16 (shM_k hs) (by decide) rfl (Nat.le_of_ble_eq_true rfl) (Nat.le_of_ble_eq_true rfl) (Nat.le_of_ble_eq_true rfl) (Nat.le_of_ble_eq_true rfl) (Nat.le_of_ble_eq_true rfl) (s_X12_isSign G hs (fun r16 e16_z => ?_))
            refine t_ifeq (t := 55) dX12_readSum_19 (by decide) (fun h19 => False.elim (by omega)) (fun h19 => ?_)
            refine r_aloadR0 dX12_readSum_22 ?_
            refine m_getV (x := (f2_z A 10)) zf_RX12_92 rfl dX12_readSum_23 (shM_k hs) (rfl) ?_
            refine r_istore1 dX12_readSum_26 rfl ?_
            refine r_aloadR0 dX12_readSum_27 ?_
            refine q_callV0 zm_RX12_131 dX12_readSum_28 (shM_k hs) (by decide) rfl (Nat.le_of_ble_eq_true rfl) (Nat.le_of_ble_eq_true rfl) (Nat.le_of_ble_eq_true rfl) (Nat.le_of_ble_eq_true rfl) (Nat.le_of_ble_eq_true rfl) (s_X12_readsOn (p := teP B n r.2.1) G hs htp2 ht2.2.1 hte2 (fun g28 o28 t28 => ?_))
            have htp28 := tpM_of htp2 (o28.2.1 5 (by decide) (by decide) (by decide)) (o28.2.2 7 (by decide))
            have hp28 : psM B n g28 A 0 (nxP B n r.2.1) := ⟨by rw [o28.2.2 12 (by decide)]; exact hb2, fun _ => t28, fun h_z => absurd rfl h_z⟩
            have w28 : g28 (A + 2) = f2_z (A + 2) := o28.2.1 2 (by decide) (by decide) (by decide)
            refine r_aloadR0 dX12_readSum_31 ?_
            refine q_callV0 zm_RX12_184 dX12_readSum_32 (shM_k hs) (by decide) rfl (Nat.le_of_ble_eq_true rfl) (Nat.le_of_ble_eq_true rfl) (Nat.le_of_ble_eq_true rfl) (Nat.le_of_ble_eq_true rfl) (Nat.le_of_ble_eq_true rfl) (s_X12_readTerm_3 (lm := lm) (la := la) (u := u + r.2.2.length) G hs kw hld htp28 hp28 (by rw [o28.2.2 16 (by decide)]; exact hd2) (by rw [o28.2.2 17 (by decide), ofr.2.2 17 (by decide)]; exact hlm) (by rw [o28.2.2 18 (by decide), ofr.2.2 18 (by decide)]; exact hla) (by rw [w28]; exact hk3.1) h5 h29 h99 (by omega) (fun g32 o32 d32 p32 k32 => ?_))
            have of32 : frM A [2] [8, 9, 10, 11, 12, 13, 16] f g32 := frM_tr ofr (frM_tr (frM_su o28 (by decide) (by decide)) o32)
            refine r_aloadR0 dX12_readSum_35 ?_
            refine r_iload1 dX12_readSum_36 ?_
            refine n_bipush dX12_readSum_37 (by decide) (fun r37 e37 => ?_)
            refine t_icne (t := 47) dX12_readSum_39 (by decide) (fun h39 => ?_) (fun h39 => False.elim (by omega))
            refine n_bipush dX12_readSum_47 (by decide) (fun r47 e47 => ?_)
            refine q_callV1 zm_RX12_162 dX12_readSum_49 (shM_k hs) (by decide) rfl (Nat.le_of_ble_eq_true rfl) (Nat.le_of_ble_eq_true rfl) (Nat.le_of_ble_eq_true rfl) (Nat.le_of_ble_eq_true rfl) (Nat.le_of_ble_eq_true rfl) (s_X12_laysStep_x G hs (nb _ p32) ?_)
            refine r_goto (t := 4) dX12_readSum_52 (by decide) ?_
            exact ih _ k2_z ((chP B n (atP B n (if lm = 5 then 8 else 6) 3) (opT B n)) (nxP B n r.2.1)) _ of32 d32 p32 (fun h_z => absurd h_z hq) (fun h_z => absurd h_z hq) (fun h_z => absurd h_z hq) ((lpP_bad hq).trans ((lpP_sub hr hop0 hq).symm.trans hR)) (by omega)
        have hc45 : rkP B n r.2.1 ≠ 45 := fun h_z => hc_z (hrm.mp h_z)
        have hop : opS B n r.2.1 = 0 := (if_neg hcn).trans (if_neg hc_z)
        have hv := (lpP_end (B := B) (n := n) (k := k) (sub := (chP B n (atP B n (if lm = 5 then 8 else 6) 3) (opT B n))) hop).symm.trans hR
        refine r_aloadR0 dX12_readSum_4 ?_
        refine n_bipush dX12_readSum_5 (by decide) (fun r5 e5_z => ?_)
        refine q_callV1 zm_RX12_175 dX12_readSum_7 (shM_k hs) (by decide) rfl (Nat.le_of_ble_eq_true rfl) (Nat.le_of_ble_eq_true rfl) (Nat.le_of_ble_eq_true rfl) (Nat.le_of_ble_eq_true rfl) (Nat.le_of_ble_eq_true rfl) (s_X12_isSign G hs (fun r7 e7_z => ?_))
        refine t_ifne (t := 22) dX12_readSum_10 (by decide) (fun h10 => False.elim (by omega)) (fun h10 => ?_)
        refine r_aloadR0 dX12_readSum_13 ?_
        refine n_bipush dX12_readSum_14 (by decide) (fun r14 e14_z => ?_)
        refine q_callV1 zm_RX12_175 dX12_readSum_16 (shM_k hs) (by decide) rfl (Nat.le_of_ble_eq_true rfl) (Nat.le_of_ble_eq_true rfl) (Nat.le_of_ble_eq_true rfl) (Nat.le_of_ble_eq_true rfl) (Nat.le_of_ble_eq_true rfl) (s_X12_isSign G hs (fun r16 e16_z => ?_))
        refine t_ifeq (t := 55) dX12_readSum_19 (by decide) (fun h19 => ?_) (fun h19 => False.elim (by omega))
        refine r_vret dX12_readSum_55 rfl (Nat.le_of_ble_eq_true rfl) (Nat.le_of_ble_eq_true rfl) ?_
        rw [← hv] at hQ
        exact hQ _ ofr hd2 hp2 hk2
      · have hb2 : (f2_z A 12).toInt ≠ 0 := by rw [hp2.1]; omega
        have hv := (lpP_bad (B := B) (n := n) (k := k) (sub := (chP B n (atP B n (if lm = 5 then 8 else 6) 3) (opT B n))) (op := opS B n) hr).symm.trans hR
        refine r_aloadR0 dX12_readSum_4 ?_
        refine n_bipush dX12_readSum_5 (by decide) (fun r5 e5_z => ?_)
        refine q_callV1 zm_RX12_175 dX12_readSum_7 (shM_k hs) (by decide) rfl (Nat.le_of_ble_eq_true rfl) (Nat.le_of_ble_eq_true rfl) (Nat.le_of_ble_eq_true rfl) (Nat.le_of_ble_eq_true rfl) (Nat.le_of_ble_eq_true rfl) (s_X12_isSign G hs (fun r7 e7_z => ?_))
        refine t_ifne (t := 22) dX12_readSum_10 (by decide) (fun h10 => False.elim (by omega)) (fun h10 => ?_)
        refine r_aloadR0 dX12_readSum_13 ?_
        refine n_bipush dX12_readSum_14 (by decide) (fun r14 e14_z => ?_)
        refine q_callV1 zm_RX12_175 dX12_readSum_16 (shM_k hs) (by decide) rfl (Nat.le_of_ble_eq_true rfl) (Nat.le_of_ble_eq_true rfl) (Nat.le_of_ble_eq_true rfl) (Nat.le_of_ble_eq_true rfl) (Nat.le_of_ble_eq_true rfl) (s_X12_isSign G hs (fun r16 e16_z => ?_))
        refine t_ifeq (t := 55) dX12_readSum_19 (by decide) (fun h19 => ?_) (fun h19 => False.elim (by omega))
        refine r_vret dX12_readSum_55 rfl (Nat.le_of_ble_eq_true rfl) (Nat.le_of_ble_eq_true rfl) ?_
        rw [← hv] at hQ
        exact hQ _ ofr hd2 hp2 hk2
  refine r_aloadR0 dX12_readSum_0 ?_
  refine q_callV0 zm_RX12_184 dX12_readSum_1 (shM_k hs) (by decide) rfl (Nat.le_of_ble_eq_true rfl) (Nat.le_of_ble_eq_true rfl) (Nat.le_of_ble_eq_true rfl) (Nat.le_of_ble_eq_true rfl) (Nat.le_of_ble_eq_true rfl) (s_X12_readTerm_3 G hs kw hld htp hps hd16 hlm hla hu h5 h29 h99 hup (fun g1 o1 d1 p1 k1_z => ?_))
  have gp := hgd p ht.1
  exact lp _ g1 n ((chP B n (atP B n (if lm = 5 then 8 else 6) 3) (opT B n)) p) _ o1 d1 p1 k1_z (fun h_z => ⟨Nat.le_of_lt (gp.1 h_z).1, (gp.1 h_z).2.1, (gp.1 h_z).2.2.1⟩) (fun _ => Nat.le_add_right n _) rfl (Nat.lt_succ_self n)
set_option maxHeartbeats 4000000 in
set_option maxRecDepth 100000 in
theorem s_X12_readAtom_4 {g : zGT} {w : zW} {f : Nat → Nat → Int32} {j : Nat → Nat → Int64} {A : Nat} {B : Nat → Nat} {n : Nat} {wa wv : Nat → Nat} {kq : Nat} {p lm la u : Nat} {Q : Option Value → zW → Prop} {QX : String → zW → Prop} (G : zGok g) (hs : shM w A) (kw : kWd g wa wv kq) (hld : kLd g wa) (htp : tpM B n f A) (hps : psM B n f A 0 p) (hd16 : (f A 16).toInt = 2) (hlm : (f A 17).toInt = (lm : Nat)) (hla : (f A 18).toInt = (la : Nat)) (hu : (f (A + 2) lm).toInt = (u : Nat)) (h5 : lm ≤ 5) (h29 : 209 ≤ la) (h99 : la ≤ 2009) (hup : u ≤ p) (hQ : ∀ f2_z, frM A [2] [8, 9, 10, 11, 12, 13, 16] f f2_z → (f2_z A 16).toInt = 2 → psM B n f2_z A (atP B n (if lm = 5 then 8 else 6) 4 p).1 (atP B n (if lm = 5 then 8 else 6) 4 p).2.1 → ((atP B n (if lm = 5 then 8 else 6) 4 p).1 = 0 → okM f f2_z A lm la u (atP B n (if lm = 5 then 8 else 6) 4 p).2.2) → Q none (zM w f2_z j)) : zC g 26 yX12_readAtom cX12_readAtom 3 none [.ref A] (zM w f j) (0, 0) Q QX := by
  refine zC_of G (by decide +kernel) (Nat.le_of_ble_eq_true rfl) ?_
  have ht := hps.2.1 rfl
  have h12 := hps.1
  have hte := teP_le (B := B) ht.1
  have h900 := htp.2.1
  have h10 := ht.2.2.2.1
  by_cases hf : tkP B n p = 3 ∧ fcP (wdP B n p) < (if lm = 5 then 8 else 6)
  · have hne : tkP B n p ≠ 40 := by rw [hf.1]; decide
    have hv : atP B n (if lm = 5 then 8 else 6) 4 p = (0, nxP B n p, [1000 + fcP (wdP B n p)]) := (if_neg hne).trans (a1_fact hf)
    rw [hv] at hQ
    have hpn := tk_lt (B := B) (n := n) (s := p) (by rw [hf.1]; decide)
    have hf8 : fcP (wdP B n p) < 8 := Nat.lt_of_lt_of_le hf.2 (by split <;> decide)
    refine r_aloadR0 dX12_readAtom_0 ?_
    refine m_getV (x := (f A 12)) zf_RX12_112 rfl dX12_readAtom_1 (shM_k hs) (rfl) ?_
    refine t_ifeq (t := 8) dX12_readAtom_4 (by decide) (fun h4 => ?_) (fun h4 => False.elim (by omega))
    refine r_aloadR0 dX12_readAtom_8 ?_
    refine q_callV0 zm_RX12_206 dX12_readAtom_9 (shM_k hs) (by decide) rfl (Nat.le_of_ble_eq_true rfl) (Nat.le_of_ble_eq_true rfl) (Nat.le_of_ble_eq_true rfl) (Nat.le_of_ble_eq_true rfl) (Nat.le_of_ble_eq_true rfl) (s_X12_lawWord G hs kw hld htp hps hlm (fun r9 g9 o9 a9 b9 => ?_))
    have htp9 := tpM_of htp (o9.2.1 5 (by decide) (by decide) (by decide)) (o9.2.2 7 (by decide))
    have w2 : g9 (A + 2) = f (A + 2) := o9.2.1 2 (by decide) (by decide) (by decide)
    obtain ⟨e9_z, p9⟩ := a9 hf
    have n9 := p9.1
    refine r_istore1 dX12_readAtom_12 rfl ?_
    refine r_iload1 dX12_readAtom_13 ?_
    refine n_iconst dX12_readAtom_14 (by decide) (fun r14 e14_z => ?_)
    refine t_iceq (t := 29) dX12_readAtom_15 (by decide) (fun h15 => False.elim (by omega)) (fun h15 => ?_)
    refine r_aloadR0 dX12_readAtom_18 ?_
    refine n_bipush dX12_readAtom_19 (by decide) (fun r19 e19_z => ?_)
    refine r_iload1 dX12_readAtom_21 ?_
    refine n_iadd dX12_readAtom_22 (by omega) (fun r22 e22_z => ?_)
    refine q_callV1 zm_RX12_162 dX12_readAtom_23 (shM_k hs) (by decide) rfl (Nat.le_of_ble_eq_true rfl) (Nat.le_of_ble_eq_true rfl) (Nat.le_of_ble_eq_true rfl) (Nat.le_of_ble_eq_true rfl) (Nat.le_of_ble_eq_true rfl) (s_X12_laysStep (lm := lm) (la := la) (u := u) G hs p9.1 (by rw [o9.2.2 17 (by decide)]; exact hlm) (by rw [o9.2.2 18 (by decide)]; exact hla) (by rw [w2]; exact hu) h5 h29 (by omega) (fun g23 o23 a23 b23 c23 => ?_))
    refine r_goto (t := 83) dX12_readAtom_26 (by decide) ?_
    refine r_vret dX12_readAtom_83 rfl (Nat.le_of_ble_eq_true rfl) (Nat.le_of_ble_eq_true rfl) ?_
    refine hQ _ (frM_tr (frM_su o9 (by decide) (by decide)) (frM_su o23 (by decide) (by decide))) (by rw [o23.2.2 16 (by decide), o9.2.2 16 (by decide)]; exact hd16) (psM_of p9 (o23.2.2 8 (by decide)) (o23.2.2 9 (by decide)) (o23.2.2 10 (by decide)) (o23.2.2 11 (by decide)) (o23.2.2 12 (by decide)) (o23.2.2 13 (by decide))) (fun _ => okM_cg (okM_one (by omega) a23 b23 c23 ?_) w2 rfl)
    unfold rfO
    rw [if_neg (by omega), if_pos (by omega)]
    omega
  by_cases hp : tkP B n p = 40
  · have hv : atP B n (if lm = 5 then 8 else 6) 4 p = clP B n 41 (suP B n (atP B n (if lm = 5 then 8 else 6) 3) (nxP B n p)) := if_pos hp
    rw [hv] at hQ
    have hrk := (rk4 (B := B) (n := n) (s := p) (c := 40) (by decide)).mpr hp
    have hpn := tk_lt (B := B) (n := n) (s := p) (by rw [hp]; decide)
    have hnx := nxP_gt (B := B) hpn
    by_cases hr : (suP B n (atP B n (if lm = 5 then 8 else 6) 3) (nxP B n p)).1 = 0
    · by_cases h41 : tkP B n (suP B n (atP B n (if lm = 5 then 8 else 6) 3) (nxP B n p)).2.1 = 41
      · have hv2 : clP B n 41 (suP B n (atP B n (if lm = 5 then 8 else 6) 3) (nxP B n p)) = (0, nxP B n (suP B n (atP B n (if lm = 5 then 8 else 6) 3) (nxP B n p)).2.1, (suP B n (atP B n (if lm = 5 then 8 else 6) 3) (nxP B n p)).2.2) := (if_neg (not_not_intro hr)).trans (if_pos h41)
        rw [hv2] at hQ
        refine r_aloadR0 dX12_readAtom_0 ?_
        refine m_getV (x := (f A 12)) zf_RX12_112 rfl dX12_readAtom_1 (shM_k hs) (rfl) ?_
        refine t_ifeq (t := 8) dX12_readAtom_4 (by decide) (fun h4 => ?_) (fun h4 => False.elim (by omega))
        refine r_aloadR0 dX12_readAtom_8 ?_
        refine q_callV0 zm_RX12_206 dX12_readAtom_9 (shM_k hs) (by decide) rfl (Nat.le_of_ble_eq_true rfl) (Nat.le_of_ble_eq_true rfl) (Nat.le_of_ble_eq_true rfl) (Nat.le_of_ble_eq_true rfl) (Nat.le_of_ble_eq_true rfl) (s_X12_lawWord G hs kw hld htp hps hlm (fun r9 g9 o9 a9 b9 => ?_))
        have htp9 := tpM_of htp (o9.2.1 5 (by decide) (by decide) (by decide)) (o9.2.2 7 (by decide))
        have w2 : g9 (A + 2) = f (A + 2) := o9.2.1 2 (by decide) (by decide) (by decide)
        obtain ⟨e9_z, p9⟩ := b9 hf
        have n9 := p9.1
        have t9 := p9.2.1 rfl
        have k9 := t9.2.2.2.1
        have d9 : (g9 A 16).toInt = 2 := by rw [o9.2.2 16 (by decide)]; exact hd16
        refine r_istore1 dX12_readAtom_12 rfl ?_
        refine r_iload1 dX12_readAtom_13 ?_
        refine n_iconst dX12_readAtom_14 (by decide) (fun r14 e14_z => ?_)
        refine t_iceq (t := 29) dX12_readAtom_15 (by decide) (fun h15 => ?_) (fun h15 => False.elim (by omega))
        refine r_aloadR0 dX12_readAtom_29 ?_
        refine n_bipush dX12_readAtom_30 (by decide) (fun r30 e30 => ?_)
        refine q_callV1 zm_RX12_175 dX12_readAtom_32 (shM_k hs) (by decide) rfl (Nat.le_of_ble_eq_true rfl) (Nat.le_of_ble_eq_true rfl) (Nat.le_of_ble_eq_true rfl) (Nat.le_of_ble_eq_true rfl) (Nat.le_of_ble_eq_true rfl) (s_X12_isSign G hs (fun r32 e32 => ?_))
        refine t_ifeq (t := 65) dX12_readAtom_35 (by decide) (fun h35 => False.elim (by omega)) (fun h35 => ?_)
        refine r_aloadR0 dX12_readAtom_38 ?_
        refine q_callV0 zm_RX12_172 dX12_readAtom_39 (shM_k hs) (by decide) rfl (Nat.le_of_ble_eq_true rfl) (Nat.le_of_ble_eq_true rfl) (Nat.le_of_ble_eq_true rfl) (Nat.le_of_ble_eq_true rfl) (Nat.le_of_ble_eq_true rfl) (s_X12_goesIn (d := 2) G hs htp9 p9 d9 (by decide) (by rw [hp]; decide) (fun g39 o39 a39 b39 c39 => ?_))
        have p39 := c39 (by decide)
        have htp39 := tpM_of htp9 (o39.2.1 5 (by decide) (by decide) (by decide)) (o39.2.2 7 (by decide))
        have w39 : g39 (A + 2) = f (A + 2) := (o39.2.1 2 (by decide) (by decide) (by decide)).trans w2
        refine r_aloadR0 dX12_readAtom_42 ?_
        refine q_callV0 zm_RX12_181 dX12_readAtom_43 (shM_k hs) (by decide) rfl (Nat.le_of_ble_eq_true rfl) (Nat.le_of_ble_eq_true rfl) (Nat.le_of_ble_eq_true rfl) (Nat.le_of_ble_eq_true rfl) (Nat.le_of_ble_eq_true rfl) (s_X12_readSum_3 (lm := lm) (la := la) (u := u) G hs kw hld htp39 p39 (by rw [a39]; rfl) (by rw [o39.2.2 17 (by decide), o9.2.2 17 (by decide)]; exact hlm) (by rw [o39.2.2 18 (by decide), o9.2.2 18 (by decide)]; exact hla) (by rw [w39]; exact hu) h5 h29 h99 (by omega) (fun g43 o43 d43 p43 k43 => ?_))
        have p43b : psM B n g43 A (suP B n (atP B n (if lm = 5 then 8 else 6) 3) (nxP B n p)).1 (suP B n (atP B n (if lm = 5 then 8 else 6) 3) (nxP B n p)).2.1 := p43
        have of43 : frM A [2] [8, 9, 10, 11, 12, 13, 16] f g43 := frM_tr (frM_tr (frM_su o9 (by decide) (by decide)) (frM_su o39 (by decide) (by decide))) o43
        have htp43 := tpM_of htp (of43.2.1 5 (by decide) (by decide) (by decide)) (of43.2.2 7 (by decide))
        have p43c := p43b
        rw [hr] at p43c
        refine r_aloadR0 dX12_readAtom_46 ?_
        refine n_bipush dX12_readAtom_47 (by decide) (fun r47 e47 => ?_)
        refine q_callV1 zm_RX12_151 dX12_readAtom_49 (shM_k hs) (by decide) rfl (Nat.le_of_ble_eq_true rfl) (Nat.le_of_ble_eq_true rfl) (Nat.le_of_ble_eq_true rfl) (Nat.le_of_ble_eq_true rfl) (Nat.le_of_ble_eq_true rfl) (s_X12_mustSign (p := (suP B n (atP B n (if lm = 5 then 8 else 6) 3) (nxP B n p)).2.1) (c := 41) G hs htp43 p43c e47 (by decide) (fun g49 o49 a49 b49 => ?_))
        have d49 : (g49 A 16).toInt = 3 := by rw [o49.2.2 16 (by decide)]; exact d43
        refine r_aloadR0 dX12_readAtom_52 ?_
        refine r_dup dX12_readAtom_53 rfl ?_
        refine m_getV (x := (g49 A 16)) zf_RX12_154 rfl dX12_readAtom_54 (shM_k hs) (rfl) ?_
        refine n_iconst dX12_readAtom_57 (by decide) (fun r57 e57 => ?_)
        refine n_isub dX12_readAtom_58 (by omega) (fun r58 e58 => ?_)
        refine m_putI zf_RX12_154 (by intro C T N h_z; cases h_z; rfl) rfl dX12_readAtom_59 (shM_k hs) ?_
        obtain ⟨g59, hg59⟩ : ∃ g9, g9 = zu g49 A 16 r58 := ⟨_, rfl⟩
        rw [← hg59]
        have og59 : frM A [] [16] g49 g59 := by rw [hg59]; exact frM_zk frM_rf (by decide)
        have vg59 : g59 A 16 = r58 := by rw [hg59]; exact zu_at
        have vt59 : (g59 A 16).toInt = r58.toInt := by rw [vg59]
        refine r_goto (t := 83) dX12_readAtom_62 (by decide) ?_
        refine r_vret dX12_readAtom_83 rfl (Nat.le_of_ble_eq_true rfl) (Nat.le_of_ble_eq_true rfl) ?_
        exact hQ _ (frM_tr (frM_tr of43 (frM_su o49 (by decide) (by decide))) (frM_su og59 (by decide) (by decide))) (by rw [vt59]; omega) (psM_of (a49 h41) (og59.2.2 8 (by decide)) (og59.2.2 9 (by decide)) (og59.2.2 10 (by decide)) (og59.2.2 11 (by decide)) (og59.2.2 12 (by decide)) (og59.2.2 13 (by decide))) (fun _ => okM_cg (k43 hr) w39 ((og59.2.1 2 (by decide) (by decide) (by decide)).trans (o49.2.1 2 (by decide) (by decide) (by decide))))
      · have hv2 : clP B n 41 (suP B n (atP B n (if lm = 5 then 8 else 6) 3) (nxP B n p)) = (baP B n (suP B n (atP B n (if lm = 5 then 8 else 6) 3) (nxP B n p)).2.1, (suP B n (atP B n (if lm = 5 then 8 else 6) 3) (nxP B n p)).2.1, []) := (if_neg (not_not_intro hr)).trans (if_neg h41)
        rw [hv2] at hQ
        refine r_aloadR0 dX12_readAtom_0 ?_
        refine m_getV (x := (f A 12)) zf_RX12_112 rfl dX12_readAtom_1 (shM_k hs) (rfl) ?_
        refine t_ifeq (t := 8) dX12_readAtom_4 (by decide) (fun h4 => ?_) (fun h4 => False.elim (by omega))
        refine r_aloadR0 dX12_readAtom_8 ?_
        refine q_callV0 zm_RX12_206 dX12_readAtom_9 (shM_k hs) (by decide) rfl (Nat.le_of_ble_eq_true rfl) (Nat.le_of_ble_eq_true rfl) (Nat.le_of_ble_eq_true rfl) (Nat.le_of_ble_eq_true rfl) (Nat.le_of_ble_eq_true rfl) (s_X12_lawWord G hs kw hld htp hps hlm (fun r9 g9 o9 a9 b9 => ?_))
        have htp9 := tpM_of htp (o9.2.1 5 (by decide) (by decide) (by decide)) (o9.2.2 7 (by decide))
        have w2 : g9 (A + 2) = f (A + 2) := o9.2.1 2 (by decide) (by decide) (by decide)
        obtain ⟨e9_z, p9⟩ := b9 hf
        have n9 := p9.1
        have t9 := p9.2.1 rfl
        have k9 := t9.2.2.2.1
        have d9 : (g9 A 16).toInt = 2 := by rw [o9.2.2 16 (by decide)]; exact hd16
        refine r_istore1 dX12_readAtom_12 rfl ?_
        refine r_iload1 dX12_readAtom_13 ?_
        refine n_iconst dX12_readAtom_14 (by decide) (fun r14 e14_z => ?_)
        refine t_iceq (t := 29) dX12_readAtom_15 (by decide) (fun h15 => ?_) (fun h15 => False.elim (by omega))
        refine r_aloadR0 dX12_readAtom_29 ?_
        refine n_bipush dX12_readAtom_30 (by decide) (fun r30 e30 => ?_)
        refine q_callV1 zm_RX12_175 dX12_readAtom_32 (shM_k hs) (by decide) rfl (Nat.le_of_ble_eq_true rfl) (Nat.le_of_ble_eq_true rfl) (Nat.le_of_ble_eq_true rfl) (Nat.le_of_ble_eq_true rfl) (Nat.le_of_ble_eq_true rfl) (s_X12_isSign G hs (fun r32 e32 => ?_))
        refine t_ifeq (t := 65) dX12_readAtom_35 (by decide) (fun h35 => False.elim (by omega)) (fun h35 => ?_)
        refine r_aloadR0 dX12_readAtom_38 ?_
        refine q_callV0 zm_RX12_172 dX12_readAtom_39 (shM_k hs) (by decide) rfl (Nat.le_of_ble_eq_true rfl) (Nat.le_of_ble_eq_true rfl) (Nat.le_of_ble_eq_true rfl) (Nat.le_of_ble_eq_true rfl) (Nat.le_of_ble_eq_true rfl) (s_X12_goesIn (d := 2) G hs htp9 p9 d9 (by decide) (by rw [hp]; decide) (fun g39 o39 a39 b39 c39 => ?_))
        have p39 := c39 (by decide)
        have htp39 := tpM_of htp9 (o39.2.1 5 (by decide) (by decide) (by decide)) (o39.2.2 7 (by decide))
        have w39 : g39 (A + 2) = f (A + 2) := (o39.2.1 2 (by decide) (by decide) (by decide)).trans w2
        refine r_aloadR0 dX12_readAtom_42 ?_
        refine q_callV0 zm_RX12_181 dX12_readAtom_43 (shM_k hs) (by decide) rfl (Nat.le_of_ble_eq_true rfl) (Nat.le_of_ble_eq_true rfl) (Nat.le_of_ble_eq_true rfl) (Nat.le_of_ble_eq_true rfl) (Nat.le_of_ble_eq_true rfl) (s_X12_readSum_3 (lm := lm) (la := la) (u := u) G hs kw hld htp39 p39 (by rw [a39]; rfl) (by rw [o39.2.2 17 (by decide), o9.2.2 17 (by decide)]; exact hlm) (by rw [o39.2.2 18 (by decide), o9.2.2 18 (by decide)]; exact hla) (by rw [w39]; exact hu) h5 h29 h99 (by omega) (fun g43 o43 d43 p43 k43 => ?_))
        have p43b : psM B n g43 A (suP B n (atP B n (if lm = 5 then 8 else 6) 3) (nxP B n p)).1 (suP B n (atP B n (if lm = 5 then 8 else 6) 3) (nxP B n p)).2.1 := p43
        have of43 : frM A [2] [8, 9, 10, 11, 12, 13, 16] f g43 := frM_tr (frM_tr (frM_su o9 (by decide) (by decide)) (frM_su o39 (by decide) (by decide))) o43
        have htp43 := tpM_of htp (of43.2.1 5 (by decide) (by decide) (by decide)) (of43.2.2 7 (by decide))
        have p43c := p43b
        rw [hr] at p43c
        refine r_aloadR0 dX12_readAtom_46 ?_
        refine n_bipush dX12_readAtom_47 (by decide) (fun r47 e47 => ?_)
        refine q_callV1 zm_RX12_151 dX12_readAtom_49 (shM_k hs) (by decide) rfl (Nat.le_of_ble_eq_true rfl) (Nat.le_of_ble_eq_true rfl) (Nat.le_of_ble_eq_true rfl) (Nat.le_of_ble_eq_true rfl) (Nat.le_of_ble_eq_true rfl) (s_X12_mustSign (p := (suP B n (atP B n (if lm = 5 then 8 else 6) 3) (nxP B n p)).2.1) (c := 41) G hs htp43 p43c e47 (by decide) (fun g49 o49 a49 b49 => ?_))
        have d49 : (g49 A 16).toInt = 3 := by rw [o49.2.2 16 (by decide)]; exact d43
        refine r_aloadR0 dX12_readAtom_52 ?_
        refine r_dup dX12_readAtom_53 rfl ?_
        refine m_getV (x := (g49 A 16)) zf_RX12_154 rfl dX12_readAtom_54 (shM_k hs) (rfl) ?_
        refine n_iconst dX12_readAtom_57 (by decide) (fun r57 e57 => ?_)
        refine n_isub dX12_readAtom_58 (by omega) (fun r58 e58 => ?_)
        refine m_putI zf_RX12_154 (by intro C T N h_z; cases h_z; rfl) rfl dX12_readAtom_59 (shM_k hs) ?_
        obtain ⟨g59, hg59⟩ : ∃ g9, g9 = zu g49 A 16 r58 := ⟨_, rfl⟩
        rw [← hg59]
        have og59 : frM A [] [16] g49 g59 := by rw [hg59]; exact frM_zk frM_rf (by decide)
        have vg59 : g59 A 16 = r58 := by rw [hg59]; exact zu_at
        have vt59 : (g59 A 16).toInt = r58.toInt := by rw [vg59]
        refine r_goto (t := 83) dX12_readAtom_62 (by decide) ?_
        refine r_vret dX12_readAtom_83 rfl (Nat.le_of_ble_eq_true rfl) (Nat.le_of_ble_eq_true rfl) ?_
        exact hQ _ (frM_tr (frM_tr of43 (frM_su o49 (by decide) (by decide))) (frM_su og59 (by decide) (by decide))) (by rw [vt59]; omega) (psM_of (b49 h41) (og59.2.2 8 (by decide)) (og59.2.2 9 (by decide)) (og59.2.2 10 (by decide)) (og59.2.2 11 (by decide)) (og59.2.2 12 (by decide)) (og59.2.2 13 (by decide))) (fun h_z => absurd h_z ba_bd.1)
    · have hv2 : clP B n 41 (suP B n (atP B n (if lm = 5 then 8 else 6) 3) (nxP B n p)) = (suP B n (atP B n (if lm = 5 then 8 else 6) 3) (nxP B n p)) := if_pos hr
      rw [hv2] at hQ
      refine r_aloadR0 dX12_readAtom_0 ?_
      refine m_getV (x := (f A 12)) zf_RX12_112 rfl dX12_readAtom_1 (shM_k hs) (rfl) ?_
      refine t_ifeq (t := 8) dX12_readAtom_4 (by decide) (fun h4 => ?_) (fun h4 => False.elim (by omega))
      refine r_aloadR0 dX12_readAtom_8 ?_
      refine q_callV0 zm_RX12_206 dX12_readAtom_9 (shM_k hs) (by decide) rfl (Nat.le_of_ble_eq_true rfl) (Nat.le_of_ble_eq_true rfl) (Nat.le_of_ble_eq_true rfl) (Nat.le_of_ble_eq_true rfl) (Nat.le_of_ble_eq_true rfl) (s_X12_lawWord G hs kw hld htp hps hlm (fun r9 g9 o9 a9 b9 => ?_))
      have htp9 := tpM_of htp (o9.2.1 5 (by decide) (by decide) (by decide)) (o9.2.2 7 (by decide))
      have w2 : g9 (A + 2) = f (A + 2) := o9.2.1 2 (by decide) (by decide) (by decide)
      obtain ⟨e9_z, p9⟩ := b9 hf
      have n9 := p9.1
      have t9 := p9.2.1 rfl
      have k9 := t9.2.2.2.1
      have d9 : (g9 A 16).toInt = 2 := by rw [o9.2.2 16 (by decide)]; exact hd16
      refine r_istore1 dX12_readAtom_12 rfl ?_
      refine r_iload1 dX12_readAtom_13 ?_
      refine n_iconst dX12_readAtom_14 (by decide) (fun r14 e14_z => ?_)
      refine t_iceq (t := 29) dX12_readAtom_15 (by decide) (fun h15 => ?_) (fun h15 => False.elim (by omega))
      refine r_aloadR0 dX12_readAtom_29 ?_
      refine n_bipush dX12_readAtom_30 (by decide) (fun r30 e30 => ?_)
      refine q_callV1 zm_RX12_175 dX12_readAtom_32 (shM_k hs) (by decide) rfl (Nat.le_of_ble_eq_true rfl) (Nat.le_of_ble_eq_true rfl) (Nat.le_of_ble_eq_true rfl) (Nat.le_of_ble_eq_true rfl) (Nat.le_of_ble_eq_true rfl) (s_X12_isSign G hs (fun r32 e32 => ?_))
      refine t_ifeq (t := 65) dX12_readAtom_35 (by decide) (fun h35 => False.elim (by omega)) (fun h35 => ?_)
      refine r_aloadR0 dX12_readAtom_38 ?_
      refine q_callV0 zm_RX12_172 dX12_readAtom_39 (shM_k hs) (by decide) rfl (Nat.le_of_ble_eq_true rfl) (Nat.le_of_ble_eq_true rfl) (Nat.le_of_ble_eq_true rfl) (Nat.le_of_ble_eq_true rfl) (Nat.le_of_ble_eq_true rfl) (s_X12_goesIn (d := 2) G hs htp9 p9 d9 (by decide) (by rw [hp]; decide) (fun g39 o39 a39 b39 c39 => ?_))
      have p39 := c39 (by decide)
      have htp39 := tpM_of htp9 (o39.2.1 5 (by decide) (by decide) (by decide)) (o39.2.2 7 (by decide))
      have w39 : g39 (A + 2) = f (A + 2) := (o39.2.1 2 (by decide) (by decide) (by decide)).trans w2
      refine r_aloadR0 dX12_readAtom_42 ?_
      refine q_callV0 zm_RX12_181 dX12_readAtom_43 (shM_k hs) (by decide) rfl (Nat.le_of_ble_eq_true rfl) (Nat.le_of_ble_eq_true rfl) (Nat.le_of_ble_eq_true rfl) (Nat.le_of_ble_eq_true rfl) (Nat.le_of_ble_eq_true rfl) (s_X12_readSum_3 (lm := lm) (la := la) (u := u) G hs kw hld htp39 p39 (by rw [a39]; rfl) (by rw [o39.2.2 17 (by decide), o9.2.2 17 (by decide)]; exact hlm) (by rw [o39.2.2 18 (by decide), o9.2.2 18 (by decide)]; exact hla) (by rw [w39]; exact hu) h5 h29 h99 (by omega) (fun g43 o43 d43 p43 k43 => ?_))
      have p43b : psM B n g43 A (suP B n (atP B n (if lm = 5 then 8 else 6) 3) (nxP B n p)).1 (suP B n (atP B n (if lm = 5 then 8 else 6) 3) (nxP B n p)).2.1 := p43
      have of43 : frM A [2] [8, 9, 10, 11, 12, 13, 16] f g43 := frM_tr (frM_tr (frM_su o9 (by decide) (by decide)) (frM_su o39 (by decide) (by decide))) o43
      have htp43 := tpM_of htp (of43.2.1 5 (by decide) (by decide) (by decide)) (of43.2.2 7 (by decide))
      have nb : (g43 A 12).toInt ≠ 0 := by rw [p43b.1]; omega
      have d43b : (g43 A 16).toInt = 3 := d43
      refine r_aloadR0 dX12_readAtom_46 ?_
      refine n_bipush dX12_readAtom_47 (by decide) (fun r47 e47 => ?_)
      refine q_callV1 zm_RX12_151 dX12_readAtom_49 (shM_k hs) (by decide) rfl (Nat.le_of_ble_eq_true rfl) (Nat.le_of_ble_eq_true rfl) (Nat.le_of_ble_eq_true rfl) (Nat.le_of_ble_eq_true rfl) (Nat.le_of_ble_eq_true rfl) (s_X12_mustSign_x G hs nb ?_)
      refine r_aloadR0 dX12_readAtom_52 ?_
      refine r_dup dX12_readAtom_53 rfl ?_
      refine m_getV (x := (g43 A 16)) zf_RX12_154 rfl dX12_readAtom_54 (shM_k hs) (rfl) ?_
      refine n_iconst dX12_readAtom_57 (by decide) (fun r57 e57 => ?_)
      refine n_isub dX12_readAtom_58 (by omega) (fun r58 e58 => ?_)
      refine m_putI zf_RX12_154 (by intro C T N h_z; cases h_z; rfl) rfl dX12_readAtom_59 (shM_k hs) ?_
      obtain ⟨g59, hg59⟩ : ∃ g9, g9 = zu g43 A 16 r58 := ⟨_, rfl⟩
      rw [← hg59]
      have og59 : frM A [] [16] g43 g59 := by rw [hg59]; exact frM_zk frM_rf (by decide)
      have vg59 : g59 A 16 = r58 := by rw [hg59]; exact zu_at
      have vt59 : (g59 A 16).toInt = r58.toInt := by rw [vg59]
      refine r_goto (t := 83) dX12_readAtom_62 (by decide) ?_
      refine r_vret dX12_readAtom_83 rfl (Nat.le_of_ble_eq_true rfl) (Nat.le_of_ble_eq_true rfl) ?_
      exact hQ _ (frM_tr of43 (frM_su og59 (by decide) (by decide))) (by rw [vt59]; omega) (psM_of p43b (og59.2.2 8 (by decide)) (og59.2.2 9 (by decide)) (og59.2.2 10 (by decide)) (og59.2.2 11 (by decide)) (og59.2.2 12 (by decide)) (og59.2.2 13 (by decide))) (fun h_z => absurd h_z hr)
  have hrk : rkP B n p ≠ 40 := fun h_z => hp ((rk4 (B := B) (n := n) (s := p) (c := 40) (by decide)).mp h_z)
  have hv0 : atP B n (if lm = 5 then 8 else 6) 4 p = a1P B n (if lm = 5 then 8 else 6) p := if_neg hp
  by_cases h2 : tkP B n p = 2
  · have hv : atP B n (if lm = 5 then 8 else 6) 4 p = (0, nxP B n p, [nmP B n p]) := hv0.trans (a1_num h2)
    rw [hv] at hQ
    have hpn := (tk2 h2).1
    have hnm := nm_bd h2
    have hnu : nuH B n 999 p = (0, nxP B n p, nmP B n p) := by unfold nuH; rw [if_pos h2, if_neg (by omega)]
    refine r_aloadR0 dX12_readAtom_0 ?_
    refine m_getV (x := (f A 12)) zf_RX12_112 rfl dX12_readAtom_1 (shM_k hs) (rfl) ?_
    refine t_ifeq (t := 8) dX12_readAtom_4 (by decide) (fun h4 => ?_) (fun h4 => False.elim (by omega))
    refine r_aloadR0 dX12_readAtom_8 ?_
    refine q_callV0 zm_RX12_206 dX12_readAtom_9 (shM_k hs) (by decide) rfl (Nat.le_of_ble_eq_true rfl) (Nat.le_of_ble_eq_true rfl) (Nat.le_of_ble_eq_true rfl) (Nat.le_of_ble_eq_true rfl) (Nat.le_of_ble_eq_true rfl) (s_X12_lawWord G hs kw hld htp hps hlm (fun r9 g9 o9 a9 b9 => ?_))
    have htp9 := tpM_of htp (o9.2.1 5 (by decide) (by decide) (by decide)) (o9.2.2 7 (by decide))
    have w2 : g9 (A + 2) = f (A + 2) := o9.2.1 2 (by decide) (by decide) (by decide)
    obtain ⟨e9_z, p9⟩ := b9 hf
    have n9 := p9.1
    have t9 := p9.2.1 rfl
    have k9 := t9.2.2.2.1
    have d9 : (g9 A 16).toInt = 2 := by rw [o9.2.2 16 (by decide)]; exact hd16
    refine r_istore1 dX12_readAtom_12 rfl ?_
    refine r_iload1 dX12_readAtom_13 ?_
    refine n_iconst dX12_readAtom_14 (by decide) (fun r14 e14_z => ?_)
    refine t_iceq (t := 29) dX12_readAtom_15 (by decide) (fun h15 => ?_) (fun h15 => False.elim (by omega))
    refine r_aloadR0 dX12_readAtom_29 ?_
    refine n_bipush dX12_readAtom_30 (by decide) (fun r30 e30 => ?_)
    refine q_callV1 zm_RX12_175 dX12_readAtom_32 (shM_k hs) (by decide) rfl (Nat.le_of_ble_eq_true rfl) (Nat.le_of_ble_eq_true rfl) (Nat.le_of_ble_eq_true rfl) (Nat.le_of_ble_eq_true rfl) (Nat.le_of_ble_eq_true rfl) (s_X12_isSign G hs (fun r32 e32 => ?_))
    refine t_ifeq (t := 65) dX12_readAtom_35 (by decide) (fun h35 => ?_) (fun h35 => False.elim (by omega))
    refine r_aloadR0 dX12_readAtom_65 ?_
    refine n_iconst dX12_readAtom_66 (by decide) (fun r66 e66 => ?_)
    refine n_sipush dX12_readAtom_67 (by decide) (fun r67 e67 => ?_)
    refine q_callV2 zm_RX12_209 dX12_readAtom_70 (shM_k hs) (by decide) rfl (Nat.le_of_ble_eq_true rfl) (Nat.le_of_ble_eq_true rfl) (Nat.le_of_ble_eq_true rfl) (Nat.le_of_ble_eq_true rfl) (Nat.le_of_ble_eq_true rfl) (s_X12_number (p := p) (h_z := 999) G hs htp9 p9 e66 e67 (fun r70 g70 o70 a70 b70 c70 => ?_))
    rw [hnu] at a70 b70
    have e70 : r70.toInt = (nmP B n p : Nat) := b70 rfl
    have w3 : g70 (A + 2) = f (A + 2) := (o70.2.1 2 (by decide) (by decide) (by decide)).trans w2
    refine r_istore2 dX12_readAtom_73 rfl ?_
    refine r_aloadR0 dX12_readAtom_74 ?_
    refine n_sipush dX12_readAtom_75 (by decide) (fun r75 e75 => ?_)
    refine r_iload2 dX12_readAtom_78 ?_
    refine n_iadd dX12_readAtom_79 (by omega) (fun r79 e79 => ?_)
    refine q_callV1 zm_RX12_162 dX12_readAtom_80 (shM_k hs) (by decide) rfl (Nat.le_of_ble_eq_true rfl) (Nat.le_of_ble_eq_true rfl) (Nat.le_of_ble_eq_true rfl) (Nat.le_of_ble_eq_true rfl) (Nat.le_of_ble_eq_true rfl) (s_X12_laysStep (lm := lm) (la := la) (u := u) G hs a70.1 (by rw [o70.2.2 17 (by decide), o9.2.2 17 (by decide)]; exact hlm) (by rw [o70.2.2 18 (by decide), o9.2.2 18 (by decide)]; exact hla) (by rw [w3]; exact hu) h5 h29 (by omega) (fun g80 o80 a80 b80 c80 => ?_))
    refine r_vret dX12_readAtom_83 rfl (Nat.le_of_ble_eq_true rfl) (Nat.le_of_ble_eq_true rfl) ?_
    refine hQ _ (frM_tr (frM_tr (frM_su o9 (by decide) (by decide)) (frM_su o70 (by decide) (by decide))) (frM_su o80 (by decide) (by decide))) (by rw [o80.2.2 16 (by decide), o70.2.2 16 (by decide)]; exact d9) (psM_of a70 (o80.2.2 8 (by decide)) (o80.2.2 9 (by decide)) (o80.2.2 10 (by decide)) (o80.2.2 11 (by decide)) (o80.2.2 12 (by decide)) (o80.2.2 13 (by decide))) (fun _ => okM_cg (okM_one (by omega) a80 b80 c80 ?_) w3 rfl)
    unfold rfO
    rw [if_pos (by omega)]
    omega
  · have hv : atP B n (if lm = 5 then 8 else 6) 4 p = (baP B n p, p, []) := hv0.trans (a1_bad h2 hf)
    rw [hv] at hQ
    have hba := ba_bd (B := B) (n := n) (s := p)
    have hnu : nuH B n 999 p = (baP B n p, p, 0) := by unfold nuH; rw [if_neg h2]
    refine r_aloadR0 dX12_readAtom_0 ?_
    refine m_getV (x := (f A 12)) zf_RX12_112 rfl dX12_readAtom_1 (shM_k hs) (rfl) ?_
    refine t_ifeq (t := 8) dX12_readAtom_4 (by decide) (fun h4 => ?_) (fun h4 => False.elim (by omega))
    refine r_aloadR0 dX12_readAtom_8 ?_
    refine q_callV0 zm_RX12_206 dX12_readAtom_9 (shM_k hs) (by decide) rfl (Nat.le_of_ble_eq_true rfl) (Nat.le_of_ble_eq_true rfl) (Nat.le_of_ble_eq_true rfl) (Nat.le_of_ble_eq_true rfl) (Nat.le_of_ble_eq_true rfl) (s_X12_lawWord G hs kw hld htp hps hlm (fun r9 g9 o9 a9 b9 => ?_))
    have htp9 := tpM_of htp (o9.2.1 5 (by decide) (by decide) (by decide)) (o9.2.2 7 (by decide))
    have w2 : g9 (A + 2) = f (A + 2) := o9.2.1 2 (by decide) (by decide) (by decide)
    obtain ⟨e9_z, p9⟩ := b9 hf
    have n9 := p9.1
    have t9 := p9.2.1 rfl
    have k9 := t9.2.2.2.1
    have d9 : (g9 A 16).toInt = 2 := by rw [o9.2.2 16 (by decide)]; exact hd16
    refine r_istore1 dX12_readAtom_12 rfl ?_
    refine r_iload1 dX12_readAtom_13 ?_
    refine n_iconst dX12_readAtom_14 (by decide) (fun r14 e14_z => ?_)
    refine t_iceq (t := 29) dX12_readAtom_15 (by decide) (fun h15 => ?_) (fun h15 => False.elim (by omega))
    refine r_aloadR0 dX12_readAtom_29 ?_
    refine n_bipush dX12_readAtom_30 (by decide) (fun r30 e30 => ?_)
    refine q_callV1 zm_RX12_175 dX12_readAtom_32 (shM_k hs) (by decide) rfl (Nat.le_of_ble_eq_true rfl) (Nat.le_of_ble_eq_true rfl) (Nat.le_of_ble_eq_true rfl) (Nat.le_of_ble_eq_true rfl) (Nat.le_of_ble_eq_true rfl) (s_X12_isSign G hs (fun r32 e32 => ?_))
    refine t_ifeq (t := 65) dX12_readAtom_35 (by decide) (fun h35 => ?_) (fun h35 => False.elim (by omega))
    refine r_aloadR0 dX12_readAtom_65 ?_
    refine n_iconst dX12_readAtom_66 (by decide) (fun r66 e66 => ?_)
    refine n_sipush dX12_readAtom_67 (by decide) (fun r67 e67 => ?_)
    refine q_callV2 zm_RX12_209 dX12_readAtom_70 (shM_k hs) (by decide) rfl (Nat.le_of_ble_eq_true rfl) (Nat.le_of_ble_eq_true rfl) (Nat.le_of_ble_eq_true rfl) (Nat.le_of_ble_eq_true rfl) (Nat.le_of_ble_eq_true rfl) (s_X12_number (p := p) (h_z := 999) G hs htp9 p9 e66 e67 (fun r70 g70 o70 a70 b70 c70 => ?_))
    rw [hnu] at a70 c70
    have e70 : r70.toInt = 0 := c70 hba.1
    have nb : (g70 A 12).toInt ≠ 0 := by rw [a70.1]; have := hba.1; omega
    refine r_istore2 dX12_readAtom_73 rfl ?_
    refine r_aloadR0 dX12_readAtom_74 ?_
    refine n_sipush dX12_readAtom_75 (by decide) (fun r75 e75 => ?_)
    refine r_iload2 dX12_readAtom_78 ?_
    refine n_iadd dX12_readAtom_79 (by omega) (fun r79 e79 => ?_)
    refine q_callV1 zm_RX12_162 dX12_readAtom_80 (shM_k hs) (by decide) rfl (Nat.le_of_ble_eq_true rfl) (Nat.le_of_ble_eq_true rfl) (Nat.le_of_ble_eq_true rfl) (Nat.le_of_ble_eq_true rfl) (Nat.le_of_ble_eq_true rfl) (s_X12_laysStep_x G hs nb ?_)
    refine r_vret dX12_readAtom_83 rfl (Nat.le_of_ble_eq_true rfl) (Nat.le_of_ble_eq_true rfl) ?_
    exact hQ _ (frM_tr (frM_su o9 (by decide) (by decide)) (frM_su o70 (by decide) (by decide))) (by rw [o70.2.2 16 (by decide)]; exact d9) a70 (fun h_z => absurd h_z hba.1)
set_option maxHeartbeats 4000000 in
set_option maxRecDepth 100000 in
theorem s_X12_readTerm_4 {g : zGT} {w : zW} {f : Nat → Nat → Int32} {j : Nat → Nat → Int64} {A : Nat} {B : Nat → Nat} {n : Nat} {wa wv : Nat → Nat} {kq : Nat} {p lm la u : Nat} {Q : Option Value → zW → Prop} {QX : String → zW → Prop} (G : zGok g) (hs : shM w A) (kw : kWd g wa wv kq) (hld : kLd g wa) (htp : tpM B n f A) (hps : psM B n f A 0 p) (hd16 : (f A 16).toInt = 2) (hlm : (f A 17).toInt = (lm : Nat)) (hla : (f A 18).toInt = (la : Nat)) (hu : (f (A + 2) lm).toInt = (u : Nat)) (h5 : lm ≤ 5) (h29 : 209 ≤ la) (h99 : la ≤ 2009) (hup : u ≤ p) (hQ : ∀ f2_z, frM A [2] [8, 9, 10, 11, 12, 13, 16] f f2_z → (f2_z A 16).toInt = 2 → psM B n f2_z A (chP B n (atP B n (if lm = 5 then 8 else 6) 4) (opT B n) p).1 (chP B n (atP B n (if lm = 5 then 8 else 6) 4) (opT B n) p).2.1 → ((chP B n (atP B n (if lm = 5 then 8 else 6) 4) (opT B n) p).1 = 0 → okM f f2_z A lm la u (chP B n (atP B n (if lm = 5 then 8 else 6) 4) (opT B n) p).2.2) → Q none (zM w f2_z j)) : zC g 27 yX12_readTerm cX12_readTerm 1 none [.ref A] (zM w f j) (0, 0) Q QX := by
  refine zC_of G (by decide +kernel) (Nat.le_of_ble_eq_true rfl) ?_
  have ht := hps.2.1 rfl
  have h12 := hps.1
  have h900 := htp.2.1
  have hgd : ∀ s, s ≤ n → gdP n false (if lm = 5 then 8 else 6) (1 + 2 * 4) s ((atP B n (if lm = 5 then 8 else 6) 4) s) := gd_at (by split <;> decide) 4
  have lp : ∀ (mz : Nat) (f2_z : Nat → Nat → Int32) (k : Nat) (r : zPR), frM A [2] [8, 9, 10, 11, 12, 13, 16] f f2_z → (f2_z A 16).toInt = 2 → psM B n f2_z A r.1 r.2.1 → (r.1 = 0 → okM f f2_z A lm la u r.2.2) → (r.1 = 0 → p ≤ r.2.1 ∧ r.2.1 ≤ n ∧ r.2.2.length + p ≤ r.2.1) → (r.1 = 0 → n ≤ k + r.2.1) → lpP B n (atP B n (if lm = 5 then 8 else 6) 4) (opT B n) k r = chP B n (atP B n (if lm = 5 then 8 else 6) 4) (opT B n) p → k < mz → zR (zV g 27 yX12_readTerm 1 none (0, 0) Q QX) cX12_readTerm yX12_readTerm.cls 4 [some (.ref A)] [] (zM w f2_z j) (0, 0) := by
    intro mz
    induction mz with
    | zero =>
      intro f2_z k r ofr hd2 hp2 hk2 hg2 hnk hR hmz
      exact absurd hmz (Nat.not_lt_zero _)
    | succ mz ih =>
      intro f2_z k r ofr hd2 hp2 hk2 hg2 hnk hR hmz
      by_cases hr : r.1 = 0
      · have hk3 := hk2 hr
        obtain ⟨q1_z, q2_z, q3_z⟩ := hg2 hr
        have hnk3 := hnk hr
        have hps2 := hp2
        rw [hr] at hps2
        have ht2 := hps2.2.1 rfl
        have hb2 := hps2.1
        have hte2 := teP_le (B := B) ht2.1
        have htp2 := tpM_of htp (ofr.2.1 5 (by decide) (by decide) (by decide)) (ofr.2.2 7 (by decide))
        have h10 := ht2.2.2.2.1
        have hrk := rk4 (B := B) (n := n) (s := r.2.1) (c := 42) (by decide)
        by_cases hc_z : tkP B n r.2.1 = 42
        · have h10b := hrk.mpr hc_z
          have hop : opT B n r.2.1 = 2005 := if_pos hc_z
          have hop0 : opT B n r.2.1 ≠ 0 := by rw [hop]; decide
          have hln := tk_lt (B := B) (n := n) (s := r.2.1) (by rw [hc_z]; decide)
          obtain ⟨k2_z, rfl⟩ : ∃ k2_z, k = k2_z + 1 := ⟨k - 1, by omega⟩
          have hnx := nxP_gt (B := B) hln
          have gq := hgd _ hnx.2
          by_cases hq : ((atP B n (if lm = 5 then 8 else 6) 4) (nxP B n r.2.1)).1 = 0
          · obtain ⟨y1, y2, y3, y4⟩ := gq.1 hq
            refine r_aloadR0 dX12_readTerm_4 ?_
            refine n_bipush dX12_readTerm_5 (by decide) (fun r5 e5_z => ?_)
            refine q_callV1 zm_RX12_175 dX12_readTerm_7 (shM_k hs) (by decide) rfl (Nat.le_of_ble_eq_true rfl) (Nat.le_of_ble_eq_true rfl) (Nat.le_of_ble_eq_true rfl) (Nat.le_of_ble_eq_true rfl) (Nat.le_of_ble_eq_true rfl) (s_X12_isSign G hs (fun r7 e7_z => ?_))
            refine t_ifeq (t := 30) dX12_readTerm_10 (by decide) (fun h10 => False.elim (by omega)) (fun h10 => ?_)
            refine r_aloadR0 dX12_readTerm_13 ?_
            refine q_callV0 zm_RX12_131 dX12_readTerm_14 (shM_k hs) (by decide) rfl (Nat.le_of_ble_eq_true rfl) (Nat.le_of_ble_eq_true rfl) (Nat.le_of_ble_eq_true rfl) (Nat.le_of_ble_eq_true rfl) (Nat.le_of_ble_eq_true rfl) (s_X12_readsOn (p := teP B n r.2.1) G hs htp2 ht2.2.1 hte2 (fun g14 o14 t14 => ?_))
            have htp14 := tpM_of htp2 (o14.2.1 5 (by decide) (by decide) (by decide)) (o14.2.2 7 (by decide))
            have hp14 : psM B n g14 A 0 (nxP B n r.2.1) := ⟨by rw [o14.2.2 12 (by decide)]; exact hb2, fun _ => t14, fun h_z => absurd rfl h_z⟩
            have w14 : g14 (A + 2) = f2_z (A + 2) := o14.2.1 2 (by decide) (by decide) (by decide)
            refine r_aloadR0 dX12_readTerm_17 ?_
            refine q_callV0 zm_RX12_187 dX12_readTerm_18 (shM_k hs) (by decide) rfl (Nat.le_of_ble_eq_true rfl) (Nat.le_of_ble_eq_true rfl) (Nat.le_of_ble_eq_true rfl) (Nat.le_of_ble_eq_true rfl) (Nat.le_of_ble_eq_true rfl) (s_X12_readAtom_4 (lm := lm) (la := la) (u := u + r.2.2.length) G hs kw hld htp14 hp14 (by rw [o14.2.2 16 (by decide)]; exact hd2) (by rw [o14.2.2 17 (by decide), ofr.2.2 17 (by decide)]; exact hlm) (by rw [o14.2.2 18 (by decide), ofr.2.2 18 (by decide)]; exact hla) (by rw [w14]; exact hk3.1) h5 h29 h99 (by omega) (fun g18 o18 d18 p18 k18 => ?_))
            have of18 : frM A [2] [8, 9, 10, 11, 12, 13, 16] f g18 := frM_tr ofr (frM_tr (frM_su o14 (by decide) (by decide)) o18)
            refine r_aloadR0 dX12_readTerm_21 ?_
            refine n_bipush dX12_readTerm_22 (by decide) (fun r22 e22_z => ?_)
            refine q_callV1 zm_RX12_162 dX12_readTerm_24 (shM_k hs) (by decide) rfl (Nat.le_of_ble_eq_true rfl) (Nat.le_of_ble_eq_true rfl) (Nat.le_of_ble_eq_true rfl) (Nat.le_of_ble_eq_true rfl) (Nat.le_of_ble_eq_true rfl) (s_X12_laysStep (lm := lm) (la := la) (u := u + r.2.2.length + ((atP B n (if lm = 5 then 8 else 6) 4) (nxP B n r.2.1)).2.2.length) G hs (by have := p18.1; rw [hq] at this; exact this) (by rw [of18.2.2 17 (by decide)]; exact hlm) (by rw [of18.2.2 18 (by decide)]; exact hla) (k18 hq).1 h5 h29 (by omega) (fun g24 o24 a24 b24 c24 => ?_))
            refine r_goto (t := 4) dX12_readTerm_27 (by decide) ?_
            have hp18 := p18
            rw [hq] at hp18
            refine ih _ k2_z (0, ((atP B n (if lm = 5 then 8 else 6) 4) (nxP B n r.2.1)).2.1, r.2.2 ++ ((atP B n (if lm = 5 then 8 else 6) 4) (nxP B n r.2.1)).2.2 ++ [opT B n r.2.1]) (frM_tr of18 (frM_su o24 (by decide) (by decide))) (by rw [o24.2.2 16 (by decide)]; exact d18) (psM_of hp18 (o24.2.2 8 (by decide)) (o24.2.2 9 (by decide)) (o24.2.2 10 (by decide)) (o24.2.2 11 (by decide)) (o24.2.2 12 (by decide)) (o24.2.2 13 (by decide))) (fun _ => okM_ap (by omega) (by rw [List.length_append]; omega) (okM_ap (by omega) (by omega) hk3 (okM_cg (k18 hq) w14 rfl)) ?_) (fun _ => ?_) (fun _ => ?_) ?_ (by omega)
            · rw [List.length_append, ← Nat.add_assoc, hop]
              exact okM_one (by omega) a24 b24 c24 (by rw [e22_z]; rfl)
            · show p ≤ ((atP B n (if lm = 5 then 8 else 6) 4) (nxP B n r.2.1)).2.1 ∧ ((atP B n (if lm = 5 then 8 else 6) 4) (nxP B n r.2.1)).2.1 ≤ n ∧ (r.2.2 ++ ((atP B n (if lm = 5 then 8 else 6) 4) (nxP B n r.2.1)).2.2 ++ [opT B n r.2.1]).length + p ≤ ((atP B n (if lm = 5 then 8 else 6) 4) (nxP B n r.2.1)).2.1
              rw [List.length_append, List.length_append, List.length_singleton]
              omega
            · show n ≤ k2_z + ((atP B n (if lm = 5 then 8 else 6) 4) (nxP B n r.2.1)).2.1
              omega
            · exact (lpP_on hr hop0 hq).symm.trans hR
          · have nb : ∀ g : Nat → Nat → Int32, psM B n g A ((atP B n (if lm = 5 then 8 else 6) 4) (nxP B n r.2.1)).1 ((atP B n (if lm = 5 then 8 else 6) 4) (nxP B n r.2.1)).2.1 → (g A 12).toInt ≠ 0 := fun g h_z => by rw [h_z.1]; omega
            refine r_aloadR0 dX12_readTerm_4 ?_
            refine n_bipush dX12_readTerm_5 (by decide) (fun r5 e5_z => ?_)
            refine q_callV1 zm_RX12_175 dX12_readTerm_7 (shM_k hs) (by decide) rfl (Nat.le_of_ble_eq_true rfl) (Nat.le_of_ble_eq_true rfl) (Nat.le_of_ble_eq_true rfl) (Nat.le_of_ble_eq_true rfl) (Nat.le_of_ble_eq_true rfl) (s_X12_isSign G hs (fun r7 e7_z => ?_))
            refine t_ifeq (t := 30) dX12_readTerm_10 (by decide) (fun h10 => False.elim (by omega)) (fun h10 => ?_)
            refine r_aloadR0 dX12_readTerm_13 ?_
            refine q_callV0 zm_RX12_131 dX12_readTerm_14 (shM_k hs) (by decide) rfl (Nat.le_of_ble_eq_true rfl) (Nat.le_of_ble_eq_true rfl) (Nat.le_of_ble_eq_true rfl) (Nat.le_of_ble_eq_true rfl) (Nat.le_of_ble_eq_true rfl) (s_X12_readsOn (p := teP B n r.2.1) G hs htp2 ht2.2.1 hte2 (fun g14 o14 t14 => ?_))
            have htp14 := tpM_of htp2 (o14.2.1 5 (by decide) (by decide) (by decide)) (o14.2.2 7 (by decide))
            have hp14 : psM B n g14 A 0 (nxP B n r.2.1) := ⟨by rw [o14.2.2 12 (by decide)]; exact hb2, fun _ => t14, fun h_z => absurd rfl h_z⟩
            have w14 : g14 (A + 2) = f2_z (A + 2) := o14.2.1 2 (by decide) (by decide) (by decide)
            refine r_aloadR0 dX12_readTerm_17 ?_
            refine q_callV0 zm_RX12_187 dX12_readTerm_18 (shM_k hs) (by decide) rfl (Nat.le_of_ble_eq_true rfl) (Nat.le_of_ble_eq_true rfl) (Nat.le_of_ble_eq_true rfl) (Nat.le_of_ble_eq_true rfl) (Nat.le_of_ble_eq_true rfl) (s_X12_readAtom_4 (lm := lm) (la := la) (u := u + r.2.2.length) G hs kw hld htp14 hp14 (by rw [o14.2.2 16 (by decide)]; exact hd2) (by rw [o14.2.2 17 (by decide), ofr.2.2 17 (by decide)]; exact hlm) (by rw [o14.2.2 18 (by decide), ofr.2.2 18 (by decide)]; exact hla) (by rw [w14]; exact hk3.1) h5 h29 h99 (by omega) (fun g18 o18 d18 p18 k18 => ?_))
            have of18 : frM A [2] [8, 9, 10, 11, 12, 13, 16] f g18 := frM_tr ofr (frM_tr (frM_su o14 (by decide) (by decide)) o18)
            refine r_aloadR0 dX12_readTerm_21 ?_
            refine n_bipush dX12_readTerm_22 (by decide) (fun r22 e22_z => ?_)
            refine q_callV1 zm_RX12_162 dX12_readTerm_24 (shM_k hs) (by decide) rfl (Nat.le_of_ble_eq_true rfl) (Nat.le_of_ble_eq_true rfl) (Nat.le_of_ble_eq_true rfl) (Nat.le_of_ble_eq_true rfl) (Nat.le_of_ble_eq_true rfl) (s_X12_laysStep_x G hs (nb _ p18) ?_)
            refine r_goto (t := 4) dX12_readTerm_27 (by decide) ?_
            exact ih _ k2_z ((atP B n (if lm = 5 then 8 else 6) 4) (nxP B n r.2.1)) of18 d18 p18 (fun h_z => absurd h_z hq) (fun h_z => absurd h_z hq) (fun h_z => absurd h_z hq) ((lpP_bad hq).trans ((lpP_sub hr hop0 hq).symm.trans hR)) (by omega)
        · have h10b : rkP B n r.2.1 ≠ 42 := fun h_z => hc_z (hrk.mp h_z)
          have hop : opT B n r.2.1 = 0 := if_neg hc_z
          have hv := (lpP_end (B := B) (n := n) (k := k) (sub := (atP B n (if lm = 5 then 8 else 6) 4)) hop).symm.trans hR
          refine r_aloadR0 dX12_readTerm_4 ?_
          refine n_bipush dX12_readTerm_5 (by decide) (fun r5 e5_z => ?_)
          refine q_callV1 zm_RX12_175 dX12_readTerm_7 (shM_k hs) (by decide) rfl (Nat.le_of_ble_eq_true rfl) (Nat.le_of_ble_eq_true rfl) (Nat.le_of_ble_eq_true rfl) (Nat.le_of_ble_eq_true rfl) (Nat.le_of_ble_eq_true rfl) (s_X12_isSign G hs (fun r7 e7_z => ?_))
          refine t_ifeq (t := 30) dX12_readTerm_10 (by decide) (fun h10 => ?_) (fun h10 => False.elim (by omega))
          refine r_vret dX12_readTerm_30 rfl (Nat.le_of_ble_eq_true rfl) (Nat.le_of_ble_eq_true rfl) ?_
          rw [← hv] at hQ
          exact hQ _ ofr hd2 hp2 hk2
      · have hb2 : (f2_z A 12).toInt ≠ 0 := by rw [hp2.1]; omega
        have hv := (lpP_bad (B := B) (n := n) (k := k) (sub := (atP B n (if lm = 5 then 8 else 6) 4)) (op := opT B n) hr).symm.trans hR
        refine r_aloadR0 dX12_readTerm_4 ?_
        refine n_bipush dX12_readTerm_5 (by decide) (fun r5 e5_z => ?_)
        refine q_callV1 zm_RX12_175 dX12_readTerm_7 (shM_k hs) (by decide) rfl (Nat.le_of_ble_eq_true rfl) (Nat.le_of_ble_eq_true rfl) (Nat.le_of_ble_eq_true rfl) (Nat.le_of_ble_eq_true rfl) (Nat.le_of_ble_eq_true rfl) (s_X12_isSign G hs (fun r7 e7_z => ?_))
        refine t_ifeq (t := 30) dX12_readTerm_10 (by decide) (fun h10 => ?_) (fun h10 => False.elim (by omega))
        refine r_vret dX12_readTerm_30 rfl (Nat.le_of_ble_eq_true rfl) (Nat.le_of_ble_eq_true rfl) ?_
        rw [← hv] at hQ
        exact hQ _ ofr hd2 hp2 hk2
  refine r_aloadR0 dX12_readTerm_0 ?_
  refine q_callV0 zm_RX12_187 dX12_readTerm_1 (shM_k hs) (by decide) rfl (Nat.le_of_ble_eq_true rfl) (Nat.le_of_ble_eq_true rfl) (Nat.le_of_ble_eq_true rfl) (Nat.le_of_ble_eq_true rfl) (Nat.le_of_ble_eq_true rfl) (s_X12_readAtom_4 G hs kw hld htp hps hd16 hlm hla hu h5 h29 h99 hup (fun g1 o1 d1 p1 k1_z => ?_))
  have gp := hgd p ht.1
  exact lp _ g1 n ((atP B n (if lm = 5 then 8 else 6) 4) p) o1 d1 p1 k1_z (fun h_z => ⟨Nat.le_of_lt (gp.1 h_z).1, (gp.1 h_z).2.1, (gp.1 h_z).2.2.1⟩) (fun _ => Nat.le_add_right n _) rfl (Nat.lt_succ_self n)
set_option maxHeartbeats 4000000 in
set_option maxRecDepth 100000 in
theorem s_X12_readSum_4 {g : zGT} {w : zW} {f : Nat → Nat → Int32} {j : Nat → Nat → Int64} {A : Nat} {B : Nat → Nat} {n : Nat} {wa wv : Nat → Nat} {kq : Nat} {p lm la u : Nat} {Q : Option Value → zW → Prop} {QX : String → zW → Prop} (G : zGok g) (hs : shM w A) (kw : kWd g wa wv kq) (hld : kLd g wa) (htp : tpM B n f A) (hps : psM B n f A 0 p) (hd16 : (f A 16).toInt = 2) (hlm : (f A 17).toInt = (lm : Nat)) (hla : (f A 18).toInt = (la : Nat)) (hu : (f (A + 2) lm).toInt = (u : Nat)) (h5 : lm ≤ 5) (h29 : 209 ≤ la) (h99 : la ≤ 2009) (hup : u ≤ p) (hQ : ∀ f2_z, frM A [2] [8, 9, 10, 11, 12, 13, 16] f f2_z → (f2_z A 16).toInt = 2 → psM B n f2_z A (chP B n (chP B n (atP B n (if lm = 5 then 8 else 6) 4) (opT B n)) (opS B n) p).1 (chP B n (chP B n (atP B n (if lm = 5 then 8 else 6) 4) (opT B n)) (opS B n) p).2.1 → ((chP B n (chP B n (atP B n (if lm = 5 then 8 else 6) 4) (opT B n)) (opS B n) p).1 = 0 → okM f f2_z A lm la u (chP B n (chP B n (atP B n (if lm = 5 then 8 else 6) 4) (opT B n)) (opS B n) p).2.2) → Q none (zM w f2_z j)) : zC g 28 yX12_readSum cX12_readSum 2 none [.ref A] (zM w f j) (0, 0) Q QX := by
  refine zC_of G (by decide +kernel) (Nat.le_of_ble_eq_true rfl) ?_
  have ht := hps.2.1 rfl
  have h12 := hps.1
  have h900 := htp.2.1
  have hgd : ∀ s, s ≤ n → gdP n false (if lm = 5 then 8 else 6) (1 + 2 * 4 + 1) s ((chP B n (atP B n (if lm = 5 then 8 else 6) 4) (opT B n)) s) := fun s hs9 => gd_ch (gd_at (by split <;> decide) 4) hop_T hs9
  have lp : ∀ (mz : Nat) (f2_z : Nat → Nat → Int32) (k : Nat) (r : zPR) (v1_ : Option Value), frM A [2] [8, 9, 10, 11, 12, 13, 16] f f2_z → (f2_z A 16).toInt = 2 → psM B n f2_z A r.1 r.2.1 → (r.1 = 0 → okM f f2_z A lm la u r.2.2) → (r.1 = 0 → p ≤ r.2.1 ∧ r.2.1 ≤ n ∧ r.2.2.length + p ≤ r.2.1) → (r.1 = 0 → n ≤ k + r.2.1) → lpP B n (chP B n (atP B n (if lm = 5 then 8 else 6) 4) (opT B n)) (opS B n) k r = chP B n (chP B n (atP B n (if lm = 5 then 8 else 6) 4) (opT B n)) (opS B n) p → k < mz → zR (zV g 28 yX12_readSum 2 none (0, 0) Q QX) cX12_readSum yX12_readSum.cls 4 [some (.ref A), v1_] [] (zM w f2_z j) (0, 0) := by
    intro mz
    induction mz with
    | zero =>
      intro f2_z k r v1_ ofr hd2 hp2 hk2 hg2 hnk hR hmz
      exact absurd hmz (Nat.not_lt_zero _)
    | succ mz ih =>
      intro f2_z k r v1_ ofr hd2 hp2 hk2 hg2 hnk hR hmz
      by_cases hr : r.1 = 0
      · have hk3 := hk2 hr
        obtain ⟨q1_z, q2_z, q3_z⟩ := hg2 hr
        have hnk3 := hnk hr
        have hps2 := hp2
        rw [hr] at hps2
        have ht2 := hps2.2.1 rfl
        have hb2 := hps2.1
        have hte2 := teP_le (B := B) ht2.1
        have htp2 := tpM_of htp (ofr.2.1 5 (by decide) (by decide) (by decide)) (ofr.2.2 7 (by decide))
        have h10 := ht2.2.2.2.1
        have hrk := rk4 (B := B) (n := n) (s := r.2.1) (c := 43) (by decide)
        have hrm := rk4 (B := B) (n := n) (s := r.2.1) (c := 45) (by decide)
        by_cases hc_z : tkP B n r.2.1 = 43
        · have h10b := hrk.mpr hc_z
          have hop : opS B n r.2.1 = 2003 := if_pos hc_z
          have hop0 : opS B n r.2.1 ≠ 0 := by rw [hop]; decide
          have hln := tk_lt (B := B) (n := n) (s := r.2.1) (by rw [hc_z]; decide)
          obtain ⟨k2_z, rfl⟩ : ∃ k2_z, k = k2_z + 1 := ⟨k - 1, by omega⟩
          have hnx := nxP_gt (B := B) hln
          have gq := hgd _ hnx.2
          by_cases hq : ((chP B n (atP B n (if lm = 5 then 8 else 6) 4) (opT B n)) (nxP B n r.2.1)).1 = 0
          · obtain ⟨y1, y2, y3, y4⟩ := gq.1 hq
            refine r_aloadR0 dX12_readSum_4 ?_
            refine n_bipush dX12_readSum_5 (by decide) (fun r5 e5_z => ?_)
            refine q_callV1 zm_RX12_175 dX12_readSum_7 (shM_k hs) (by decide) rfl (Nat.le_of_ble_eq_true rfl) (Nat.le_of_ble_eq_true rfl) (Nat.le_of_ble_eq_true rfl) (Nat.le_of_ble_eq_true rfl) (Nat.le_of_ble_eq_true rfl) (s_X12_isSign G hs (fun r7 e7_z => ?_))
            refine t_ifne (t := 22) dX12_readSum_10 (by decide) (fun h10 => ?_) (fun h10 => False.elim (by omega))
            refine r_aloadR0 dX12_readSum_22 ?_
            refine m_getV (x := (f2_z A 10)) zf_RX12_92 rfl dX12_readSum_23 (shM_k hs) (rfl) ?_
            refine r_istore1 dX12_readSum_26 rfl ?_
            refine r_aloadR0 dX12_readSum_27 ?_
            refine q_callV0 zm_RX12_131 dX12_readSum_28 (shM_k hs) (by decide) rfl (Nat.le_of_ble_eq_true rfl) (Nat.le_of_ble_eq_true rfl) (Nat.le_of_ble_eq_true rfl) (Nat.le_of_ble_eq_true rfl) (Nat.le_of_ble_eq_true rfl) (s_X12_readsOn (p := teP B n r.2.1) G hs htp2 ht2.2.1 hte2 (fun g28 o28 t28 => ?_))
            have htp28 := tpM_of htp2 (o28.2.1 5 (by decide) (by decide) (by decide)) (o28.2.2 7 (by decide))
            have hp28 : psM B n g28 A 0 (nxP B n r.2.1) := ⟨by rw [o28.2.2 12 (by decide)]; exact hb2, fun _ => t28, fun h_z => absurd rfl h_z⟩
            have w28 : g28 (A + 2) = f2_z (A + 2) := o28.2.1 2 (by decide) (by decide) (by decide)
            refine r_aloadR0 dX12_readSum_31 ?_
            refine q_callV0 zm_RX12_184 dX12_readSum_32 (shM_k hs) (by decide) rfl (Nat.le_of_ble_eq_true rfl) (Nat.le_of_ble_eq_true rfl) (Nat.le_of_ble_eq_true rfl) (Nat.le_of_ble_eq_true rfl) (Nat.le_of_ble_eq_true rfl) (s_X12_readTerm_4 (lm := lm) (la := la) (u := u + r.2.2.length) G hs kw hld htp28 hp28 (by rw [o28.2.2 16 (by decide)]; exact hd2) (by rw [o28.2.2 17 (by decide), ofr.2.2 17 (by decide)]; exact hlm) (by rw [o28.2.2 18 (by decide), ofr.2.2 18 (by decide)]; exact hla) (by rw [w28]; exact hk3.1) h5 h29 h99 (by omega) (fun g32 o32 d32 p32 k32 => ?_))
            have of32 : frM A [2] [8, 9, 10, 11, 12, 13, 16] f g32 := frM_tr ofr (frM_tr (frM_su o28 (by decide) (by decide)) o32)
            refine r_aloadR0 dX12_readSum_35 ?_
            refine r_iload1 dX12_readSum_36 ?_
            refine n_bipush dX12_readSum_37 (by decide) (fun r37 e37 => ?_)
            refine t_icne (t := 47) dX12_readSum_39 (by decide) (fun h39 => False.elim (by omega)) (fun h39 => ?_)
            refine n_bipush dX12_readSum_42 (by decide) (fun r42 e42_z => ?_)
            refine r_goto (t := 49) dX12_readSum_44 (by decide) ?_
            refine q_callV1 zm_RX12_162 dX12_readSum_49 (shM_k hs) (by decide) rfl (Nat.le_of_ble_eq_true rfl) (Nat.le_of_ble_eq_true rfl) (Nat.le_of_ble_eq_true rfl) (Nat.le_of_ble_eq_true rfl) (Nat.le_of_ble_eq_true rfl) (s_X12_laysStep (lm := lm) (la := la) (u := u + r.2.2.length + ((chP B n (atP B n (if lm = 5 then 8 else 6) 4) (opT B n)) (nxP B n r.2.1)).2.2.length) G hs (by have := p32.1; rw [hq] at this; exact this) (by rw [of32.2.2 17 (by decide)]; exact hlm) (by rw [of32.2.2 18 (by decide)]; exact hla) (k32 hq).1 h5 h29 (by omega) (fun g49 o49 a49 b49 c49 => ?_))
            refine r_goto (t := 4) dX12_readSum_52 (by decide) ?_
            have hp32 := p32
            rw [hq] at hp32
            refine ih _ k2_z (0, ((chP B n (atP B n (if lm = 5 then 8 else 6) 4) (opT B n)) (nxP B n r.2.1)).2.1, r.2.2 ++ ((chP B n (atP B n (if lm = 5 then 8 else 6) 4) (opT B n)) (nxP B n r.2.1)).2.2 ++ [opS B n r.2.1]) _ (frM_tr of32 (frM_su o49 (by decide) (by decide))) (by rw [o49.2.2 16 (by decide)]; exact d32) (psM_of hp32 (o49.2.2 8 (by decide)) (o49.2.2 9 (by decide)) (o49.2.2 10 (by decide)) (o49.2.2 11 (by decide)) (o49.2.2 12 (by decide)) (o49.2.2 13 (by decide))) (fun _ => okM_ap (by omega) (by rw [List.length_append]; omega) (okM_ap (by omega) (by omega) hk3 (okM_cg (k32 hq) w28 rfl)) ?_) (fun _ => ?_) (fun _ => ?_) ?_ (by omega)
            · rw [List.length_append, ← Nat.add_assoc, hop]
              exact okM_one (by omega) a49 b49 c49 (by rw [e42_z]; rfl)
            · show p ≤ ((chP B n (atP B n (if lm = 5 then 8 else 6) 4) (opT B n)) (nxP B n r.2.1)).2.1 ∧ ((chP B n (atP B n (if lm = 5 then 8 else 6) 4) (opT B n)) (nxP B n r.2.1)).2.1 ≤ n ∧ (r.2.2 ++ ((chP B n (atP B n (if lm = 5 then 8 else 6) 4) (opT B n)) (nxP B n r.2.1)).2.2 ++ [opS B n r.2.1]).length + p ≤ ((chP B n (atP B n (if lm = 5 then 8 else 6) 4) (opT B n)) (nxP B n r.2.1)).2.1
              rw [List.length_append, List.length_append, List.length_singleton]
              omega
            · show n ≤ k2_z + ((chP B n (atP B n (if lm = 5 then 8 else 6) 4) (opT B n)) (nxP B n r.2.1)).2.1
              omega
            · exact (lpP_on hr hop0 hq).symm.trans hR
          · have nb : ∀ g : Nat → Nat → Int32, psM B n g A ((chP B n (atP B n (if lm = 5 then 8 else 6) 4) (opT B n)) (nxP B n r.2.1)).1 ((chP B n (atP B n (if lm = 5 then 8 else 6) 4) (opT B n)) (nxP B n r.2.1)).2.1 → (g A 12).toInt ≠ 0 := fun g h_z => by rw [h_z.1]; omega
            refine r_aloadR0 dX12_readSum_4 ?_
            refine n_bipush dX12_readSum_5 (by decide) (fun r5 e5_z => ?_)
            refine q_callV1 zm_RX12_175 dX12_readSum_7 (shM_k hs) (by decide) rfl (Nat.le_of_ble_eq_true rfl) (Nat.le_of_ble_eq_true rfl) (Nat.le_of_ble_eq_true rfl) (Nat.le_of_ble_eq_true rfl) (Nat.le_of_ble_eq_true rfl) (s_X12_isSign G hs (fun r7 e7_z => ?_))
            refine t_ifne (t := 22) dX12_readSum_10 (by decide) (fun h10 => ?_) (fun h10 => False.elim (by omega))
            refine r_aloadR0 dX12_readSum_22 ?_
            refine m_getV (x := (f2_z A 10)) zf_RX12_92 rfl dX12_readSum_23 (shM_k hs) (rfl) ?_
            refine r_istore1 dX12_readSum_26 rfl ?_
            refine r_aloadR0 dX12_readSum_27 ?_
            refine q_callV0 zm_RX12_131 dX12_readSum_28 (shM_k hs) (by decide) rfl (Nat.le_of_ble_eq_true rfl) (Nat.le_of_ble_eq_true rfl) (Nat.le_of_ble_eq_true rfl) (Nat.le_of_ble_eq_true rfl) (Nat.le_of_ble_eq_true rfl) (s_X12_readsOn (p := teP B n r.2.1) G hs htp2 ht2.2.1 hte2 (fun g28 o28 t28 => ?_))
            have htp28 := tpM_of htp2 (o28.2.1 5 (by decide) (by decide) (by decide)) (o28.2.2 7 (by decide))
            have hp28 : psM B n g28 A 0 (nxP B n r.2.1) := ⟨by rw [o28.2.2 12 (by decide)]; exact hb2, fun _ => t28, fun h_z => absurd rfl h_z⟩
            have w28 : g28 (A + 2) = f2_z (A + 2) := o28.2.1 2 (by decide) (by decide) (by decide)
            refine r_aloadR0 dX12_readSum_31 ?_
            refine q_callV0 zm_RX12_184 dX12_readSum_32 (shM_k hs) (by decide) rfl (Nat.le_of_ble_eq_true rfl) (Nat.le_of_ble_eq_true rfl) (Nat.le_of_ble_eq_true rfl) (Nat.le_of_ble_eq_true rfl) (Nat.le_of_ble_eq_true rfl) (s_X12_readTerm_4 (lm := lm) (la := la) (u := u + r.2.2.length) G hs kw hld htp28 hp28 (by rw [o28.2.2 16 (by decide)]; exact hd2) (by rw [o28.2.2 17 (by decide), ofr.2.2 17 (by decide)]; exact hlm) (by rw [o28.2.2 18 (by decide), ofr.2.2 18 (by decide)]; exact hla) (by rw [w28]; exact hk3.1) h5 h29 h99 (by omega) (fun g32 o32 d32 p32 k32 => ?_))
            have of32 : frM A [2] [8, 9, 10, 11, 12, 13, 16] f g32 := frM_tr ofr (frM_tr (frM_su o28 (by decide) (by decide)) o32)
            refine r_aloadR0 dX12_readSum_35 ?_
            refine r_iload1 dX12_readSum_36 ?_
            refine n_bipush dX12_readSum_37 (by decide) (fun r37 e37 => ?_)
            refine t_icne (t := 47) dX12_readSum_39 (by decide) (fun h39 => False.elim (by omega)) (fun h39 => ?_)
            refine n_bipush dX12_readSum_42 (by decide) (fun r42 e42_z => ?_)
            refine r_goto (t := 49) dX12_readSum_44 (by decide) ?_
            refine q_callV1 zm_RX12_162 dX12_readSum_49 (shM_k hs) (by decide) rfl (Nat.le_of_ble_eq_true rfl) (Nat.le_of_ble_eq_true rfl) (Nat.le_of_ble_eq_true rfl) (Nat.le_of_ble_eq_true rfl) (Nat.le_of_ble_eq_true rfl) (s_X12_laysStep_x G hs (nb _ p32) ?_)
            refine r_goto (t := 4) dX12_readSum_52 (by decide) ?_
            exact ih _ k2_z ((chP B n (atP B n (if lm = 5 then 8 else 6) 4) (opT B n)) (nxP B n r.2.1)) _ of32 d32 p32 (fun h_z => absurd h_z hq) (fun h_z => absurd h_z hq) (fun h_z => absurd h_z hq) ((lpP_bad hq).trans ((lpP_sub hr hop0 hq).symm.trans hR)) (by omega)
        have hcn := hc_z
        have hc43 : rkP B n r.2.1 ≠ 43 := fun h_z => hc_z (hrk.mp h_z)
        clear hc_z
        by_cases hc_z : tkP B n r.2.1 = 45
        · have h10b := hrm.mpr hc_z
          have hop : opS B n r.2.1 = 2004 := (if_neg (by omega)).trans (if_pos hc_z)
          have hop0 : opS B n r.2.1 ≠ 0 := by rw [hop]; decide
          have hln := tk_lt (B := B) (n := n) (s := r.2.1) (by rw [hc_z]; decide)
          obtain ⟨k2_z, rfl⟩ : ∃ k2_z, k = k2_z + 1 := ⟨k - 1, by omega⟩
          have hnx := nxP_gt (B := B) hln
          have gq := hgd _ hnx.2
          by_cases hq : ((chP B n (atP B n (if lm = 5 then 8 else 6) 4) (opT B n)) (nxP B n r.2.1)).1 = 0
          · obtain ⟨y1, y2, y3, y4⟩ := gq.1 hq
            refine r_aloadR0 dX12_readSum_4 ?_
            refine n_bipush dX12_readSum_5 (by decide) (fun r5 e5_z => ?_)
            refine q_callV1 zm_RX12_175 dX12_readSum_7 (shM_k hs) (by decide) rfl (Nat.le_of_ble_eq_true rfl) (Nat.le_of_ble_eq_true rfl) (Nat.le_of_ble_eq_true rfl) (Nat.le_of_ble_eq_true rfl) (Nat.le_of_ble_eq_true rfl) (s_X12_isSign G hs (fun r7 e7_z => ?_))
            refine t_ifne (t := 22) dX12_readSum_10 (by decide) (fun h10 => False.elim (by omega)) (fun h10 => ?_)
            refine r_aloadR0 dX12_readSum_13 ?_
            refine n_bipush dX12_readSum_14 (by decide) (fun r14 e14_z => ?_)
            refine q_callV1 zm_RX12_175 dX12_readSum_16 (shM_k hs) (by decide) rfl (Nat.le_of_ble_eq_true rfl) (Nat.le_of_ble_eq_true rfl) (Nat.le_of_ble_eq_true rfl) (Nat.le_of_ble_eq_true rfl) (Nat.le_of_ble_eq_true rfl) (s_X12_isSign G hs (fun r16 e16_z => ?_))
            refine t_ifeq (t := 55) dX12_readSum_19 (by decide) (fun h19 => False.elim (by omega)) (fun h19 => ?_)
            refine r_aloadR0 dX12_readSum_22 ?_
            refine m_getV (x := (f2_z A 10)) zf_RX12_92 rfl dX12_readSum_23 (shM_k hs) (rfl) ?_
            refine r_istore1 dX12_readSum_26 rfl ?_
            refine r_aloadR0 dX12_readSum_27 ?_
            refine q_callV0 zm_RX12_131 dX12_readSum_28 (shM_k hs) (by decide) rfl (Nat.le_of_ble_eq_true rfl) (Nat.le_of_ble_eq_true rfl) (Nat.le_of_ble_eq_true rfl) (Nat.le_of_ble_eq_true rfl) (Nat.le_of_ble_eq_true rfl) (s_X12_readsOn (p := teP B n r.2.1) G hs htp2 ht2.2.1 hte2 (fun g28 o28 t28 => ?_))
            have htp28 := tpM_of htp2 (o28.2.1 5 (by decide) (by decide) (by decide)) (o28.2.2 7 (by decide))
            have hp28 : psM B n g28 A 0 (nxP B n r.2.1) := ⟨by rw [o28.2.2 12 (by decide)]; exact hb2, fun _ => t28, fun h_z => absurd rfl h_z⟩
            have w28 : g28 (A + 2) = f2_z (A + 2) := o28.2.1 2 (by decide) (by decide) (by decide)
            refine r_aloadR0 dX12_readSum_31 ?_
            refine q_callV0 zm_RX12_184 dX12_readSum_32 (shM_k hs) (by decide) rfl (Nat.le_of_ble_eq_true rfl) (Nat.le_of_ble_eq_true rfl) (Nat.le_of_ble_eq_true rfl) (Nat.le_of_ble_eq_true rfl) (Nat.le_of_ble_eq_true rfl) (s_X12_readTerm_4 (lm := lm) (la := la) (u := u + r.2.2.length) G hs kw hld htp28 hp28 (by rw [o28.2.2 16 (by decide)]; exact hd2) (by rw [o28.2.2 17 (by decide), ofr.2.2 17 (by decide)]; exact hlm) (by rw [o28.2.2 18 (by decide), ofr.2.2 18 (by decide)]; exact hla) (by rw [w28]; exact hk3.1) h5 h29 h99 (by omega) (fun g32 o32 d32 p32 k32 => ?_))
            have of32 : frM A [2] [8, 9, 10, 11, 12, 13, 16] f g32 := frM_tr ofr (frM_tr (frM_su o28 (by decide) (by decide)) o32)
            refine r_aloadR0 dX12_readSum_35 ?_
            refine r_iload1 dX12_readSum_36 ?_
            refine n_bipush dX12_readSum_37 (by decide) (fun r37 e37 => ?_)
            refine t_icne (t := 47) dX12_readSum_39 (by decide) (fun h39 => ?_) (fun h39 => False.elim (by omega))
            refine n_bipush dX12_readSum_47 (by decide) (fun r47 e47 => ?_)
            refine q_callV1 zm_RX12_162 dX12_readSum_49 (shM_k hs) (by decide) rfl (Nat.le_of_ble_eq_true rfl) (Nat.le_of_ble_eq_true rfl) (Nat.le_of_ble_eq_true rfl) (Nat.le_of_ble_eq_true rfl) (Nat.le_of_ble_eq_true rfl) (s_X12_laysStep (lm := lm) (la := la) (u := u + r.2.2.length + ((chP B n (atP B n (if lm = 5 then 8 else 6) 4) (opT B n)) (nxP B n r.2.1)).2.2.length) G hs (by have := p32.1; rw [hq] at this; exact this) (by rw [of32.2.2 17 (by decide)]; exact hlm) (by rw [of32.2.2 18 (by decide)]; exact hla) (k32 hq).1 h5 h29 (by omega) (fun g49 o49 a49 b49 c49 => ?_))
            refine r_goto (t := 4) dX12_readSum_52 (by decide) ?_
            have hp32 := p32
            rw [hq] at hp32
            refine ih _ k2_z (0, ((chP B n (atP B n (if lm = 5 then 8 else 6) 4) (opT B n)) (nxP B n r.2.1)).2.1, r.2.2 ++ ((chP B n (atP B n (if lm = 5 then 8 else 6) 4) (opT B n)) (nxP B n r.2.1)).2.2 ++ [opS B n r.2.1]) _ (frM_tr of32 (frM_su o49 (by decide) (by decide))) (by rw [o49.2.2 16 (by decide)]; exact d32) (psM_of hp32 (o49.2.2 8 (by decide)) (o49.2.2 9 (by decide)) (o49.2.2 10 (by decide)) (o49.2.2 11 (by decide)) (o49.2.2 12 (by decide)) (o49.2.2 13 (by decide))) (fun _ => okM_ap (by omega) (by rw [List.length_append]; omega) (okM_ap (by omega) (by omega) hk3 (okM_cg (k32 hq) w28 rfl)) ?_) (fun _ => ?_) (fun _ => ?_) ?_ (by omega)
            · rw [List.length_append, ← Nat.add_assoc, hop]
              exact okM_one (by omega) a49 b49 c49 (by rw [e47]; rfl)
            · show p ≤ ((chP B n (atP B n (if lm = 5 then 8 else 6) 4) (opT B n)) (nxP B n r.2.1)).2.1 ∧ ((chP B n (atP B n (if lm = 5 then 8 else 6) 4) (opT B n)) (nxP B n r.2.1)).2.1 ≤ n ∧ (r.2.2 ++ ((chP B n (atP B n (if lm = 5 then 8 else 6) 4) (opT B n)) (nxP B n r.2.1)).2.2 ++ [opS B n r.2.1]).length + p ≤ ((chP B n (atP B n (if lm = 5 then 8 else 6) 4) (opT B n)) (nxP B n r.2.1)).2.1
              rw [List.length_append, List.length_append, List.length_singleton]
              omega
            · show n ≤ k2_z + ((chP B n (atP B n (if lm = 5 then 8 else 6) 4) (opT B n)) (nxP B n r.2.1)).2.1
              omega
            · exact (lpP_on hr hop0 hq).symm.trans hR
          · have nb : ∀ g : Nat → Nat → Int32, psM B n g A ((chP B n (atP B n (if lm = 5 then 8 else 6) 4) (opT B n)) (nxP B n r.2.1)).1 ((chP B n (atP B n (if lm = 5 then 8 else 6) 4) (opT B n)) (nxP B n r.2.1)).2.1 → (g A 12).toInt ≠ 0 := fun g h_z => by rw [h_z.1]; omega
            refine r_aloadR0 dX12_readSum_4 ?_
            refine n_bipush dX12_readSum_5 (by decide) (fun r5 e5_z => ?_)
            refine q_callV1 zm_RX12_175 dX12_readSum_7 (shM_k hs) (by decide) rfl (Nat.le_of_ble_eq_true rfl) (Nat.le_of_ble_eq_true rfl) (Nat.le_of_ble_eq_true rfl) (Nat.le_of_ble_eq_true rfl) (Nat.le_of_ble_eq_true rfl) (s_X12_isSign G hs (fun r7 e7_z => ?_))
            refine t_ifne (t := 22) dX12_readSum_10 (by decide) (fun h10 => False.elim (by omega)) (fun h10 => ?_)
            refine r_aloadR0 dX12_readSum_13 ?_
            refine n_bipush dX12_readSum_14 (by decide) (fun r14 e14_z => ?_)
            refine q_callV1 zm_RX12_175 dX12_readSum_16 (shM_k hs) (by decide) rfl (Nat.le_of_ble_eq_true rfl) (Nat.le_of_ble_eq_true rfl) (Nat.le_of_ble_eq_true rfl) (Nat.le_of_ble_eq_true rfl) (Nat.le_of_ble_eq_true rfl) (s_X12_isSign G hs (fun r16 e16_z => ?_))
            refine t_ifeq (t := 55) dX12_readSum_19 (by decide) (fun h19 => False.elim (by omega)) (fun h19 => ?_)
            refine r_aloadR0 dX12_readSum_22 ?_
            refine m_getV (x := (f2_z A 10)) zf_RX12_92 rfl dX12_readSum_23 (shM_k hs) (rfl) ?_
            refine r_istore1 dX12_readSum_26 rfl ?_
            refine r_aloadR0 dX12_readSum_27 ?_
            refine q_callV0 zm_RX12_131 dX12_readSum_28 (shM_k hs) (by decide) rfl (Nat.le_of_ble_eq_true rfl) (Nat.le_of_ble_eq_true rfl) (Nat.le_of_ble_eq_true rfl) (Nat.le_of_ble_eq_true rfl) (Nat.le_of_ble_eq_true rfl) (s_X12_readsOn (p := teP B n r.2.1) G hs htp2 ht2.2.1 hte2 (fun g28 o28 t28 => ?_))
            have htp28 := tpM_of htp2 (o28.2.1 5 (by decide) (by decide) (by decide)) (o28.2.2 7 (by decide))
            have hp28 : psM B n g28 A 0 (nxP B n r.2.1) := ⟨by rw [o28.2.2 12 (by decide)]; exact hb2, fun _ => t28, fun h_z => absurd rfl h_z⟩
            have w28 : g28 (A + 2) = f2_z (A + 2) := o28.2.1 2 (by decide) (by decide) (by decide)
            refine r_aloadR0 dX12_readSum_31 ?_
            refine q_callV0 zm_RX12_184 dX12_readSum_32 (shM_k hs) (by decide) rfl (Nat.le_of_ble_eq_true rfl) (Nat.le_of_ble_eq_true rfl) (Nat.le_of_ble_eq_true rfl) (Nat.le_of_ble_eq_true rfl) (Nat.le_of_ble_eq_true rfl) (s_X12_readTerm_4 (lm := lm) (la := la) (u := u + r.2.2.length) G hs kw hld htp28 hp28 (by rw [o28.2.2 16 (by decide)]; exact hd2) (by rw [o28.2.2 17 (by decide), ofr.2.2 17 (by decide)]; exact hlm) (by rw [o28.2.2 18 (by decide), ofr.2.2 18 (by decide)]; exact hla) (by rw [w28]; exact hk3.1) h5 h29 h99 (by omega) (fun g32 o32 d32 p32 k32 => ?_))
            have of32 : frM A [2] [8, 9, 10, 11, 12, 13, 16] f g32 := frM_tr ofr (frM_tr (frM_su o28 (by decide) (by decide)) o32)
            refine r_aloadR0 dX12_readSum_35 ?_
            refine r_iload1 dX12_readSum_36 ?_
            refine n_bipush dX12_readSum_37 (by decide) (fun r37 e37 => ?_)
            refine t_icne (t := 47) dX12_readSum_39 (by decide) (fun h39 => ?_) (fun h39 => False.elim (by omega))
            refine n_bipush dX12_readSum_47 (by decide) (fun r47 e47 => ?_)
            refine q_callV1 zm_RX12_162 dX12_readSum_49 (shM_k hs) (by decide) rfl (Nat.le_of_ble_eq_true rfl) (Nat.le_of_ble_eq_true rfl) (Nat.le_of_ble_eq_true rfl) (Nat.le_of_ble_eq_true rfl) (Nat.le_of_ble_eq_true rfl) (s_X12_laysStep_x G hs (nb _ p32) ?_)
            refine r_goto (t := 4) dX12_readSum_52 (by decide) ?_
            exact ih _ k2_z ((chP B n (atP B n (if lm = 5 then 8 else 6) 4) (opT B n)) (nxP B n r.2.1)) _ of32 d32 p32 (fun h_z => absurd h_z hq) (fun h_z => absurd h_z hq) (fun h_z => absurd h_z hq) ((lpP_bad hq).trans ((lpP_sub hr hop0 hq).symm.trans hR)) (by omega)
        have hc45 : rkP B n r.2.1 ≠ 45 := fun h_z => hc_z (hrm.mp h_z)
        have hop : opS B n r.2.1 = 0 := (if_neg hcn).trans (if_neg hc_z)
        have hv := (lpP_end (B := B) (n := n) (k := k) (sub := (chP B n (atP B n (if lm = 5 then 8 else 6) 4) (opT B n))) hop).symm.trans hR
        refine r_aloadR0 dX12_readSum_4 ?_
        refine n_bipush dX12_readSum_5 (by decide) (fun r5 e5_z => ?_)
        refine q_callV1 zm_RX12_175 dX12_readSum_7 (shM_k hs) (by decide) rfl (Nat.le_of_ble_eq_true rfl) (Nat.le_of_ble_eq_true rfl) (Nat.le_of_ble_eq_true rfl) (Nat.le_of_ble_eq_true rfl) (Nat.le_of_ble_eq_true rfl) (s_X12_isSign G hs (fun r7 e7_z => ?_))
        refine t_ifne (t := 22) dX12_readSum_10 (by decide) (fun h10 => False.elim (by omega)) (fun h10 => ?_)
        refine r_aloadR0 dX12_readSum_13 ?_
        refine n_bipush dX12_readSum_14 (by decide) (fun r14 e14_z => ?_)
        refine q_callV1 zm_RX12_175 dX12_readSum_16 (shM_k hs) (by decide) rfl (Nat.le_of_ble_eq_true rfl) (Nat.le_of_ble_eq_true rfl) (Nat.le_of_ble_eq_true rfl) (Nat.le_of_ble_eq_true rfl) (Nat.le_of_ble_eq_true rfl) (s_X12_isSign G hs (fun r16 e16_z => ?_))
        refine t_ifeq (t := 55) dX12_readSum_19 (by decide) (fun h19 => ?_) (fun h19 => False.elim (by omega))
        refine r_vret dX12_readSum_55 rfl (Nat.le_of_ble_eq_true rfl) (Nat.le_of_ble_eq_true rfl) ?_
        rw [← hv] at hQ
        exact hQ _ ofr hd2 hp2 hk2
      · have hb2 : (f2_z A 12).toInt ≠ 0 := by rw [hp2.1]; omega
        have hv := (lpP_bad (B := B) (n := n) (k := k) (sub := (chP B n (atP B n (if lm = 5 then 8 else 6) 4) (opT B n))) (op := opS B n) hr).symm.trans hR
        refine r_aloadR0 dX12_readSum_4 ?_
        refine n_bipush dX12_readSum_5 (by decide) (fun r5 e5_z => ?_)
        refine q_callV1 zm_RX12_175 dX12_readSum_7 (shM_k hs) (by decide) rfl (Nat.le_of_ble_eq_true rfl) (Nat.le_of_ble_eq_true rfl) (Nat.le_of_ble_eq_true rfl) (Nat.le_of_ble_eq_true rfl) (Nat.le_of_ble_eq_true rfl) (s_X12_isSign G hs (fun r7 e7_z => ?_))
        refine t_ifne (t := 22) dX12_readSum_10 (by decide) (fun h10 => False.elim (by omega)) (fun h10 => ?_)
        refine r_aloadR0 dX12_readSum_13 ?_
        refine n_bipush dX12_readSum_14 (by decide) (fun r14 e14_z => ?_)
        refine q_callV1 zm_RX12_175 dX12_readSum_16 (shM_k hs) (by decide) rfl (Nat.le_of_ble_eq_true rfl) (Nat.le_of_ble_eq_true rfl) (Nat.le_of_ble_eq_true rfl) (Nat.le_of_ble_eq_true rfl) (Nat.le_of_ble_eq_true rfl) (s_X12_isSign G hs (fun r16 e16_z => ?_))
        refine t_ifeq (t := 55) dX12_readSum_19 (by decide) (fun h19 => ?_) (fun h19 => False.elim (by omega))
        refine r_vret dX12_readSum_55 rfl (Nat.le_of_ble_eq_true rfl) (Nat.le_of_ble_eq_true rfl) ?_
        rw [← hv] at hQ
        exact hQ _ ofr hd2 hp2 hk2
  refine r_aloadR0 dX12_readSum_0 ?_
  refine q_callV0 zm_RX12_184 dX12_readSum_1 (shM_k hs) (by decide) rfl (Nat.le_of_ble_eq_true rfl) (Nat.le_of_ble_eq_true rfl) (Nat.le_of_ble_eq_true rfl) (Nat.le_of_ble_eq_true rfl) (Nat.le_of_ble_eq_true rfl) (s_X12_readTerm_4 G hs kw hld htp hps hd16 hlm hla hu h5 h29 h99 hup (fun g1 o1 d1 p1 k1_z => ?_))
  have gp := hgd p ht.1
  exact lp _ g1 n ((chP B n (atP B n (if lm = 5 then 8 else 6) 4) (opT B n)) p) _ o1 d1 p1 k1_z (fun h_z => ⟨Nat.le_of_lt (gp.1 h_z).1, (gp.1 h_z).2.1, (gp.1 h_z).2.2.1⟩) (fun _ => Nat.le_add_right n _) rfl (Nat.lt_succ_self n)
set_option maxHeartbeats 4000000 in
set_option maxRecDepth 100000 in
theorem s_X12_readAtom_5 {g : zGT} {w : zW} {f : Nat → Nat → Int32} {j : Nat → Nat → Int64} {A : Nat} {B : Nat → Nat} {n : Nat} {wa wv : Nat → Nat} {kq : Nat} {p lm la u : Nat} {Q : Option Value → zW → Prop} {QX : String → zW → Prop} (G : zGok g) (hs : shM w A) (kw : kWd g wa wv kq) (hld : kLd g wa) (htp : tpM B n f A) (hps : psM B n f A 0 p) (hd16 : (f A 16).toInt = 1) (hlm : (f A 17).toInt = (lm : Nat)) (hla : (f A 18).toInt = (la : Nat)) (hu : (f (A + 2) lm).toInt = (u : Nat)) (h5 : lm ≤ 5) (h29 : 209 ≤ la) (h99 : la ≤ 2009) (hup : u ≤ p) (hQ : ∀ f2_z, frM A [2] [8, 9, 10, 11, 12, 13, 16] f f2_z → (f2_z A 16).toInt = 1 → psM B n f2_z A (atP B n (if lm = 5 then 8 else 6) 5 p).1 (atP B n (if lm = 5 then 8 else 6) 5 p).2.1 → ((atP B n (if lm = 5 then 8 else 6) 5 p).1 = 0 → okM f f2_z A lm la u (atP B n (if lm = 5 then 8 else 6) 5 p).2.2) → Q none (zM w f2_z j)) : zC g 30 yX12_readAtom cX12_readAtom 3 none [.ref A] (zM w f j) (0, 0) Q QX := by
  refine zC_of G (by decide +kernel) (Nat.le_of_ble_eq_true rfl) ?_
  have ht := hps.2.1 rfl
  have h12 := hps.1
  have hte := teP_le (B := B) ht.1
  have h900 := htp.2.1
  have h10 := ht.2.2.2.1
  by_cases hf : tkP B n p = 3 ∧ fcP (wdP B n p) < (if lm = 5 then 8 else 6)
  · have hne : tkP B n p ≠ 40 := by rw [hf.1]; decide
    have hv : atP B n (if lm = 5 then 8 else 6) 5 p = (0, nxP B n p, [1000 + fcP (wdP B n p)]) := (if_neg hne).trans (a1_fact hf)
    rw [hv] at hQ
    have hpn := tk_lt (B := B) (n := n) (s := p) (by rw [hf.1]; decide)
    have hf8 : fcP (wdP B n p) < 8 := Nat.lt_of_lt_of_le hf.2 (by split <;> decide)
    refine r_aloadR0 dX12_readAtom_0 ?_
    refine m_getV (x := (f A 12)) zf_RX12_112 rfl dX12_readAtom_1 (shM_k hs) (rfl) ?_
    refine t_ifeq (t := 8) dX12_readAtom_4 (by decide) (fun h4 => ?_) (fun h4 => False.elim (by omega))
    refine r_aloadR0 dX12_readAtom_8 ?_
    refine q_callV0 zm_RX12_206 dX12_readAtom_9 (shM_k hs) (by decide) rfl (Nat.le_of_ble_eq_true rfl) (Nat.le_of_ble_eq_true rfl) (Nat.le_of_ble_eq_true rfl) (Nat.le_of_ble_eq_true rfl) (Nat.le_of_ble_eq_true rfl) (s_X12_lawWord G hs kw hld htp hps hlm (fun r9 g9 o9 a9 b9 => ?_))
    have htp9 := tpM_of htp (o9.2.1 5 (by decide) (by decide) (by decide)) (o9.2.2 7 (by decide))
    have w2 : g9 (A + 2) = f (A + 2) := o9.2.1 2 (by decide) (by decide) (by decide)
    obtain ⟨e9_z, p9⟩ := a9 hf
    have n9 := p9.1
    refine r_istore1 dX12_readAtom_12 rfl ?_
    refine r_iload1 dX12_readAtom_13 ?_
    refine n_iconst dX12_readAtom_14 (by decide) (fun r14 e14_z => ?_)
    refine t_iceq (t := 29) dX12_readAtom_15 (by decide) (fun h15 => False.elim (by omega)) (fun h15 => ?_)
    refine r_aloadR0 dX12_readAtom_18 ?_
    refine n_bipush dX12_readAtom_19 (by decide) (fun r19 e19_z => ?_)
    refine r_iload1 dX12_readAtom_21 ?_
    refine n_iadd dX12_readAtom_22 (by omega) (fun r22 e22_z => ?_)
    refine q_callV1 zm_RX12_162 dX12_readAtom_23 (shM_k hs) (by decide) rfl (Nat.le_of_ble_eq_true rfl) (Nat.le_of_ble_eq_true rfl) (Nat.le_of_ble_eq_true rfl) (Nat.le_of_ble_eq_true rfl) (Nat.le_of_ble_eq_true rfl) (s_X12_laysStep (lm := lm) (la := la) (u := u) G hs p9.1 (by rw [o9.2.2 17 (by decide)]; exact hlm) (by rw [o9.2.2 18 (by decide)]; exact hla) (by rw [w2]; exact hu) h5 h29 (by omega) (fun g23 o23 a23 b23 c23 => ?_))
    refine r_goto (t := 83) dX12_readAtom_26 (by decide) ?_
    refine r_vret dX12_readAtom_83 rfl (Nat.le_of_ble_eq_true rfl) (Nat.le_of_ble_eq_true rfl) ?_
    refine hQ _ (frM_tr (frM_su o9 (by decide) (by decide)) (frM_su o23 (by decide) (by decide))) (by rw [o23.2.2 16 (by decide), o9.2.2 16 (by decide)]; exact hd16) (psM_of p9 (o23.2.2 8 (by decide)) (o23.2.2 9 (by decide)) (o23.2.2 10 (by decide)) (o23.2.2 11 (by decide)) (o23.2.2 12 (by decide)) (o23.2.2 13 (by decide))) (fun _ => okM_cg (okM_one (by omega) a23 b23 c23 ?_) w2 rfl)
    unfold rfO
    rw [if_neg (by omega), if_pos (by omega)]
    omega
  by_cases hp : tkP B n p = 40
  · have hv : atP B n (if lm = 5 then 8 else 6) 5 p = clP B n 41 (suP B n (atP B n (if lm = 5 then 8 else 6) 4) (nxP B n p)) := if_pos hp
    rw [hv] at hQ
    have hrk := (rk4 (B := B) (n := n) (s := p) (c := 40) (by decide)).mpr hp
    have hpn := tk_lt (B := B) (n := n) (s := p) (by rw [hp]; decide)
    have hnx := nxP_gt (B := B) hpn
    by_cases hr : (suP B n (atP B n (if lm = 5 then 8 else 6) 4) (nxP B n p)).1 = 0
    · by_cases h41 : tkP B n (suP B n (atP B n (if lm = 5 then 8 else 6) 4) (nxP B n p)).2.1 = 41
      · have hv2 : clP B n 41 (suP B n (atP B n (if lm = 5 then 8 else 6) 4) (nxP B n p)) = (0, nxP B n (suP B n (atP B n (if lm = 5 then 8 else 6) 4) (nxP B n p)).2.1, (suP B n (atP B n (if lm = 5 then 8 else 6) 4) (nxP B n p)).2.2) := (if_neg (not_not_intro hr)).trans (if_pos h41)
        rw [hv2] at hQ
        refine r_aloadR0 dX12_readAtom_0 ?_
        refine m_getV (x := (f A 12)) zf_RX12_112 rfl dX12_readAtom_1 (shM_k hs) (rfl) ?_
        refine t_ifeq (t := 8) dX12_readAtom_4 (by decide) (fun h4 => ?_) (fun h4 => False.elim (by omega))
        refine r_aloadR0 dX12_readAtom_8 ?_
        refine q_callV0 zm_RX12_206 dX12_readAtom_9 (shM_k hs) (by decide) rfl (Nat.le_of_ble_eq_true rfl) (Nat.le_of_ble_eq_true rfl) (Nat.le_of_ble_eq_true rfl) (Nat.le_of_ble_eq_true rfl) (Nat.le_of_ble_eq_true rfl) (s_X12_lawWord G hs kw hld htp hps hlm (fun r9 g9 o9 a9 b9 => ?_))
        have htp9 := tpM_of htp (o9.2.1 5 (by decide) (by decide) (by decide)) (o9.2.2 7 (by decide))
        have w2 : g9 (A + 2) = f (A + 2) := o9.2.1 2 (by decide) (by decide) (by decide)
        obtain ⟨e9_z, p9⟩ := b9 hf
        have n9 := p9.1
        have t9 := p9.2.1 rfl
        have k9 := t9.2.2.2.1
        have d9 : (g9 A 16).toInt = 1 := by rw [o9.2.2 16 (by decide)]; exact hd16
        refine r_istore1 dX12_readAtom_12 rfl ?_
        refine r_iload1 dX12_readAtom_13 ?_
        refine n_iconst dX12_readAtom_14 (by decide) (fun r14 e14_z => ?_)
        refine t_iceq (t := 29) dX12_readAtom_15 (by decide) (fun h15 => ?_) (fun h15 => False.elim (by omega))
        refine r_aloadR0 dX12_readAtom_29 ?_
        refine n_bipush dX12_readAtom_30 (by decide) (fun r30 e30 => ?_)
        refine q_callV1 zm_RX12_175 dX12_readAtom_32 (shM_k hs) (by decide) rfl (Nat.le_of_ble_eq_true rfl) (Nat.le_of_ble_eq_true rfl) (Nat.le_of_ble_eq_true rfl) (Nat.le_of_ble_eq_true rfl) (Nat.le_of_ble_eq_true rfl) (s_X12_isSign G hs (fun r32 e32 => ?_))
        refine t_ifeq (t := 65) dX12_readAtom_35 (by decide) (fun h35 => False.elim (by omega)) (fun h35 => ?_)
        refine r_aloadR0 dX12_readAtom_38 ?_
        refine q_callV0 zm_RX12_172 dX12_readAtom_39 (shM_k hs) (by decide) rfl (Nat.le_of_ble_eq_true rfl) (Nat.le_of_ble_eq_true rfl) (Nat.le_of_ble_eq_true rfl) (Nat.le_of_ble_eq_true rfl) (Nat.le_of_ble_eq_true rfl) (s_X12_goesIn (d := 1) G hs htp9 p9 d9 (by decide) (by rw [hp]; decide) (fun g39 o39 a39 b39 c39 => ?_))
        have p39 := c39 (by decide)
        have htp39 := tpM_of htp9 (o39.2.1 5 (by decide) (by decide) (by decide)) (o39.2.2 7 (by decide))
        have w39 : g39 (A + 2) = f (A + 2) := (o39.2.1 2 (by decide) (by decide) (by decide)).trans w2
        refine r_aloadR0 dX12_readAtom_42 ?_
        refine q_callV0 zm_RX12_181 dX12_readAtom_43 (shM_k hs) (by decide) rfl (Nat.le_of_ble_eq_true rfl) (Nat.le_of_ble_eq_true rfl) (Nat.le_of_ble_eq_true rfl) (Nat.le_of_ble_eq_true rfl) (Nat.le_of_ble_eq_true rfl) (s_X12_readSum_4 (lm := lm) (la := la) (u := u) G hs kw hld htp39 p39 (by rw [a39]; rfl) (by rw [o39.2.2 17 (by decide), o9.2.2 17 (by decide)]; exact hlm) (by rw [o39.2.2 18 (by decide), o9.2.2 18 (by decide)]; exact hla) (by rw [w39]; exact hu) h5 h29 h99 (by omega) (fun g43 o43 d43 p43 k43 => ?_))
        have p43b : psM B n g43 A (suP B n (atP B n (if lm = 5 then 8 else 6) 4) (nxP B n p)).1 (suP B n (atP B n (if lm = 5 then 8 else 6) 4) (nxP B n p)).2.1 := p43
        have of43 : frM A [2] [8, 9, 10, 11, 12, 13, 16] f g43 := frM_tr (frM_tr (frM_su o9 (by decide) (by decide)) (frM_su o39 (by decide) (by decide))) o43
        have htp43 := tpM_of htp (of43.2.1 5 (by decide) (by decide) (by decide)) (of43.2.2 7 (by decide))
        have p43c := p43b
        rw [hr] at p43c
        refine r_aloadR0 dX12_readAtom_46 ?_
        refine n_bipush dX12_readAtom_47 (by decide) (fun r47 e47 => ?_)
        refine q_callV1 zm_RX12_151 dX12_readAtom_49 (shM_k hs) (by decide) rfl (Nat.le_of_ble_eq_true rfl) (Nat.le_of_ble_eq_true rfl) (Nat.le_of_ble_eq_true rfl) (Nat.le_of_ble_eq_true rfl) (Nat.le_of_ble_eq_true rfl) (s_X12_mustSign (p := (suP B n (atP B n (if lm = 5 then 8 else 6) 4) (nxP B n p)).2.1) (c := 41) G hs htp43 p43c e47 (by decide) (fun g49 o49 a49 b49 => ?_))
        have d49 : (g49 A 16).toInt = 2 := by rw [o49.2.2 16 (by decide)]; exact d43
        refine r_aloadR0 dX12_readAtom_52 ?_
        refine r_dup dX12_readAtom_53 rfl ?_
        refine m_getV (x := (g49 A 16)) zf_RX12_154 rfl dX12_readAtom_54 (shM_k hs) (rfl) ?_
        refine n_iconst dX12_readAtom_57 (by decide) (fun r57 e57 => ?_)
        refine n_isub dX12_readAtom_58 (by omega) (fun r58 e58 => ?_)
        refine m_putI zf_RX12_154 (by intro C T N h_z; cases h_z; rfl) rfl dX12_readAtom_59 (shM_k hs) ?_
        obtain ⟨g59, hg59⟩ : ∃ g9, g9 = zu g49 A 16 r58 := ⟨_, rfl⟩
        rw [← hg59]
        have og59 : frM A [] [16] g49 g59 := by rw [hg59]; exact frM_zk frM_rf (by decide)
        have vg59 : g59 A 16 = r58 := by rw [hg59]; exact zu_at
        have vt59 : (g59 A 16).toInt = r58.toInt := by rw [vg59]
        refine r_goto (t := 83) dX12_readAtom_62 (by decide) ?_
        refine r_vret dX12_readAtom_83 rfl (Nat.le_of_ble_eq_true rfl) (Nat.le_of_ble_eq_true rfl) ?_
        exact hQ _ (frM_tr (frM_tr of43 (frM_su o49 (by decide) (by decide))) (frM_su og59 (by decide) (by decide))) (by rw [vt59]; omega) (psM_of (a49 h41) (og59.2.2 8 (by decide)) (og59.2.2 9 (by decide)) (og59.2.2 10 (by decide)) (og59.2.2 11 (by decide)) (og59.2.2 12 (by decide)) (og59.2.2 13 (by decide))) (fun _ => okM_cg (k43 hr) w39 ((og59.2.1 2 (by decide) (by decide) (by decide)).trans (o49.2.1 2 (by decide) (by decide) (by decide))))
      · have hv2 : clP B n 41 (suP B n (atP B n (if lm = 5 then 8 else 6) 4) (nxP B n p)) = (baP B n (suP B n (atP B n (if lm = 5 then 8 else 6) 4) (nxP B n p)).2.1, (suP B n (atP B n (if lm = 5 then 8 else 6) 4) (nxP B n p)).2.1, []) := (if_neg (not_not_intro hr)).trans (if_neg h41)
        rw [hv2] at hQ
        refine r_aloadR0 dX12_readAtom_0 ?_
        refine m_getV (x := (f A 12)) zf_RX12_112 rfl dX12_readAtom_1 (shM_k hs) (rfl) ?_
        refine t_ifeq (t := 8) dX12_readAtom_4 (by decide) (fun h4 => ?_) (fun h4 => False.elim (by omega))
        refine r_aloadR0 dX12_readAtom_8 ?_
        refine q_callV0 zm_RX12_206 dX12_readAtom_9 (shM_k hs) (by decide) rfl (Nat.le_of_ble_eq_true rfl) (Nat.le_of_ble_eq_true rfl) (Nat.le_of_ble_eq_true rfl) (Nat.le_of_ble_eq_true rfl) (Nat.le_of_ble_eq_true rfl) (s_X12_lawWord G hs kw hld htp hps hlm (fun r9 g9 o9 a9 b9 => ?_))
        have htp9 := tpM_of htp (o9.2.1 5 (by decide) (by decide) (by decide)) (o9.2.2 7 (by decide))
        have w2 : g9 (A + 2) = f (A + 2) := o9.2.1 2 (by decide) (by decide) (by decide)
        obtain ⟨e9_z, p9⟩ := b9 hf
        have n9 := p9.1
        have t9 := p9.2.1 rfl
        have k9 := t9.2.2.2.1
        have d9 : (g9 A 16).toInt = 1 := by rw [o9.2.2 16 (by decide)]; exact hd16
        refine r_istore1 dX12_readAtom_12 rfl ?_
        refine r_iload1 dX12_readAtom_13 ?_
        refine n_iconst dX12_readAtom_14 (by decide) (fun r14 e14_z => ?_)
        refine t_iceq (t := 29) dX12_readAtom_15 (by decide) (fun h15 => ?_) (fun h15 => False.elim (by omega))
        refine r_aloadR0 dX12_readAtom_29 ?_
        refine n_bipush dX12_readAtom_30 (by decide) (fun r30 e30 => ?_)
        refine q_callV1 zm_RX12_175 dX12_readAtom_32 (shM_k hs) (by decide) rfl (Nat.le_of_ble_eq_true rfl) (Nat.le_of_ble_eq_true rfl) (Nat.le_of_ble_eq_true rfl) (Nat.le_of_ble_eq_true rfl) (Nat.le_of_ble_eq_true rfl) (s_X12_isSign G hs (fun r32 e32 => ?_))
        refine t_ifeq (t := 65) dX12_readAtom_35 (by decide) (fun h35 => False.elim (by omega)) (fun h35 => ?_)
        refine r_aloadR0 dX12_readAtom_38 ?_
        refine q_callV0 zm_RX12_172 dX12_readAtom_39 (shM_k hs) (by decide) rfl (Nat.le_of_ble_eq_true rfl) (Nat.le_of_ble_eq_true rfl) (Nat.le_of_ble_eq_true rfl) (Nat.le_of_ble_eq_true rfl) (Nat.le_of_ble_eq_true rfl) (s_X12_goesIn (d := 1) G hs htp9 p9 d9 (by decide) (by rw [hp]; decide) (fun g39 o39 a39 b39 c39 => ?_))
        have p39 := c39 (by decide)
        have htp39 := tpM_of htp9 (o39.2.1 5 (by decide) (by decide) (by decide)) (o39.2.2 7 (by decide))
        have w39 : g39 (A + 2) = f (A + 2) := (o39.2.1 2 (by decide) (by decide) (by decide)).trans w2
        refine r_aloadR0 dX12_readAtom_42 ?_
        refine q_callV0 zm_RX12_181 dX12_readAtom_43 (shM_k hs) (by decide) rfl (Nat.le_of_ble_eq_true rfl) (Nat.le_of_ble_eq_true rfl) (Nat.le_of_ble_eq_true rfl) (Nat.le_of_ble_eq_true rfl) (Nat.le_of_ble_eq_true rfl) (s_X12_readSum_4 (lm := lm) (la := la) (u := u) G hs kw hld htp39 p39 (by rw [a39]; rfl) (by rw [o39.2.2 17 (by decide), o9.2.2 17 (by decide)]; exact hlm) (by rw [o39.2.2 18 (by decide), o9.2.2 18 (by decide)]; exact hla) (by rw [w39]; exact hu) h5 h29 h99 (by omega) (fun g43 o43 d43 p43 k43 => ?_))
        have p43b : psM B n g43 A (suP B n (atP B n (if lm = 5 then 8 else 6) 4) (nxP B n p)).1 (suP B n (atP B n (if lm = 5 then 8 else 6) 4) (nxP B n p)).2.1 := p43
        have of43 : frM A [2] [8, 9, 10, 11, 12, 13, 16] f g43 := frM_tr (frM_tr (frM_su o9 (by decide) (by decide)) (frM_su o39 (by decide) (by decide))) o43
        have htp43 := tpM_of htp (of43.2.1 5 (by decide) (by decide) (by decide)) (of43.2.2 7 (by decide))
        have p43c := p43b
        rw [hr] at p43c
        refine r_aloadR0 dX12_readAtom_46 ?_
        refine n_bipush dX12_readAtom_47 (by decide) (fun r47 e47 => ?_)
        refine q_callV1 zm_RX12_151 dX12_readAtom_49 (shM_k hs) (by decide) rfl (Nat.le_of_ble_eq_true rfl) (Nat.le_of_ble_eq_true rfl) (Nat.le_of_ble_eq_true rfl) (Nat.le_of_ble_eq_true rfl) (Nat.le_of_ble_eq_true rfl) (s_X12_mustSign (p := (suP B n (atP B n (if lm = 5 then 8 else 6) 4) (nxP B n p)).2.1) (c := 41) G hs htp43 p43c e47 (by decide) (fun g49 o49 a49 b49 => ?_))
        have d49 : (g49 A 16).toInt = 2 := by rw [o49.2.2 16 (by decide)]; exact d43
        refine r_aloadR0 dX12_readAtom_52 ?_
        refine r_dup dX12_readAtom_53 rfl ?_
        refine m_getV (x := (g49 A 16)) zf_RX12_154 rfl dX12_readAtom_54 (shM_k hs) (rfl) ?_
        refine n_iconst dX12_readAtom_57 (by decide) (fun r57 e57 => ?_)
        refine n_isub dX12_readAtom_58 (by omega) (fun r58 e58 => ?_)
        refine m_putI zf_RX12_154 (by intro C T N h_z; cases h_z; rfl) rfl dX12_readAtom_59 (shM_k hs) ?_
        obtain ⟨g59, hg59⟩ : ∃ g9, g9 = zu g49 A 16 r58 := ⟨_, rfl⟩
        rw [← hg59]
        have og59 : frM A [] [16] g49 g59 := by rw [hg59]; exact frM_zk frM_rf (by decide)
        have vg59 : g59 A 16 = r58 := by rw [hg59]; exact zu_at
        have vt59 : (g59 A 16).toInt = r58.toInt := by rw [vg59]
        refine r_goto (t := 83) dX12_readAtom_62 (by decide) ?_
        refine r_vret dX12_readAtom_83 rfl (Nat.le_of_ble_eq_true rfl) (Nat.le_of_ble_eq_true rfl) ?_
        exact hQ _ (frM_tr (frM_tr of43 (frM_su o49 (by decide) (by decide))) (frM_su og59 (by decide) (by decide))) (by rw [vt59]; omega) (psM_of (b49 h41) (og59.2.2 8 (by decide)) (og59.2.2 9 (by decide)) (og59.2.2 10 (by decide)) (og59.2.2 11 (by decide)) (og59.2.2 12 (by decide)) (og59.2.2 13 (by decide))) (fun h_z => absurd h_z ba_bd.1)
    · have hv2 : clP B n 41 (suP B n (atP B n (if lm = 5 then 8 else 6) 4) (nxP B n p)) = (suP B n (atP B n (if lm = 5 then 8 else 6) 4) (nxP B n p)) := if_pos hr
      rw [hv2] at hQ
      refine r_aloadR0 dX12_readAtom_0 ?_
      refine m_getV (x := (f A 12)) zf_RX12_112 rfl dX12_readAtom_1 (shM_k hs) (rfl) ?_
      refine t_ifeq (t := 8) dX12_readAtom_4 (by decide) (fun h4 => ?_) (fun h4 => False.elim (by omega))
      refine r_aloadR0 dX12_readAtom_8 ?_
      refine q_callV0 zm_RX12_206 dX12_readAtom_9 (shM_k hs) (by decide) rfl (Nat.le_of_ble_eq_true rfl) (Nat.le_of_ble_eq_true rfl) (Nat.le_of_ble_eq_true rfl) (Nat.le_of_ble_eq_true rfl) (Nat.le_of_ble_eq_true rfl) (s_X12_lawWord G hs kw hld htp hps hlm (fun r9 g9 o9 a9 b9 => ?_))
      have htp9 := tpM_of htp (o9.2.1 5 (by decide) (by decide) (by decide)) (o9.2.2 7 (by decide))
      have w2 : g9 (A + 2) = f (A + 2) := o9.2.1 2 (by decide) (by decide) (by decide)
      obtain ⟨e9_z, p9⟩ := b9 hf
      have n9 := p9.1
      have t9 := p9.2.1 rfl
      have k9 := t9.2.2.2.1
      have d9 : (g9 A 16).toInt = 1 := by rw [o9.2.2 16 (by decide)]; exact hd16
      refine r_istore1 dX12_readAtom_12 rfl ?_
      refine r_iload1 dX12_readAtom_13 ?_
      refine n_iconst dX12_readAtom_14 (by decide) (fun r14 e14_z => ?_)
      refine t_iceq (t := 29) dX12_readAtom_15 (by decide) (fun h15 => ?_) (fun h15 => False.elim (by omega))
      refine r_aloadR0 dX12_readAtom_29 ?_
      refine n_bipush dX12_readAtom_30 (by decide) (fun r30 e30 => ?_)
      refine q_callV1 zm_RX12_175 dX12_readAtom_32 (shM_k hs) (by decide) rfl (Nat.le_of_ble_eq_true rfl) (Nat.le_of_ble_eq_true rfl) (Nat.le_of_ble_eq_true rfl) (Nat.le_of_ble_eq_true rfl) (Nat.le_of_ble_eq_true rfl) (s_X12_isSign G hs (fun r32 e32 => ?_))
      refine t_ifeq (t := 65) dX12_readAtom_35 (by decide) (fun h35 => False.elim (by omega)) (fun h35 => ?_)
      refine r_aloadR0 dX12_readAtom_38 ?_
      refine q_callV0 zm_RX12_172 dX12_readAtom_39 (shM_k hs) (by decide) rfl (Nat.le_of_ble_eq_true rfl) (Nat.le_of_ble_eq_true rfl) (Nat.le_of_ble_eq_true rfl) (Nat.le_of_ble_eq_true rfl) (Nat.le_of_ble_eq_true rfl) (s_X12_goesIn (d := 1) G hs htp9 p9 d9 (by decide) (by rw [hp]; decide) (fun g39 o39 a39 b39 c39 => ?_))
      have p39 := c39 (by decide)
      have htp39 := tpM_of htp9 (o39.2.1 5 (by decide) (by decide) (by decide)) (o39.2.2 7 (by decide))
      have w39 : g39 (A + 2) = f (A + 2) := (o39.2.1 2 (by decide) (by decide) (by decide)).trans w2
      refine r_aloadR0 dX12_readAtom_42 ?_
      refine q_callV0 zm_RX12_181 dX12_readAtom_43 (shM_k hs) (by decide) rfl (Nat.le_of_ble_eq_true rfl) (Nat.le_of_ble_eq_true rfl) (Nat.le_of_ble_eq_true rfl) (Nat.le_of_ble_eq_true rfl) (Nat.le_of_ble_eq_true rfl) (s_X12_readSum_4 (lm := lm) (la := la) (u := u) G hs kw hld htp39 p39 (by rw [a39]; rfl) (by rw [o39.2.2 17 (by decide), o9.2.2 17 (by decide)]; exact hlm) (by rw [o39.2.2 18 (by decide), o9.2.2 18 (by decide)]; exact hla) (by rw [w39]; exact hu) h5 h29 h99 (by omega) (fun g43 o43 d43 p43 k43 => ?_))
      have p43b : psM B n g43 A (suP B n (atP B n (if lm = 5 then 8 else 6) 4) (nxP B n p)).1 (suP B n (atP B n (if lm = 5 then 8 else 6) 4) (nxP B n p)).2.1 := p43
      have of43 : frM A [2] [8, 9, 10, 11, 12, 13, 16] f g43 := frM_tr (frM_tr (frM_su o9 (by decide) (by decide)) (frM_su o39 (by decide) (by decide))) o43
      have htp43 := tpM_of htp (of43.2.1 5 (by decide) (by decide) (by decide)) (of43.2.2 7 (by decide))
      have nb : (g43 A 12).toInt ≠ 0 := by rw [p43b.1]; omega
      have d43b : (g43 A 16).toInt = 2 := d43
      refine r_aloadR0 dX12_readAtom_46 ?_
      refine n_bipush dX12_readAtom_47 (by decide) (fun r47 e47 => ?_)
      refine q_callV1 zm_RX12_151 dX12_readAtom_49 (shM_k hs) (by decide) rfl (Nat.le_of_ble_eq_true rfl) (Nat.le_of_ble_eq_true rfl) (Nat.le_of_ble_eq_true rfl) (Nat.le_of_ble_eq_true rfl) (Nat.le_of_ble_eq_true rfl) (s_X12_mustSign_x G hs nb ?_)
      refine r_aloadR0 dX12_readAtom_52 ?_
      refine r_dup dX12_readAtom_53 rfl ?_
      refine m_getV (x := (g43 A 16)) zf_RX12_154 rfl dX12_readAtom_54 (shM_k hs) (rfl) ?_
      refine n_iconst dX12_readAtom_57 (by decide) (fun r57 e57 => ?_)
      refine n_isub dX12_readAtom_58 (by omega) (fun r58 e58 => ?_)
      refine m_putI zf_RX12_154 (by intro C T N h_z; cases h_z; rfl) rfl dX12_readAtom_59 (shM_k hs) ?_
      obtain ⟨g59, hg59⟩ : ∃ g9, g9 = zu g43 A 16 r58 := ⟨_, rfl⟩
      rw [← hg59]
      have og59 : frM A [] [16] g43 g59 := by rw [hg59]; exact frM_zk frM_rf (by decide)
      have vg59 : g59 A 16 = r58 := by rw [hg59]; exact zu_at
      have vt59 : (g59 A 16).toInt = r58.toInt := by rw [vg59]
      refine r_goto (t := 83) dX12_readAtom_62 (by decide) ?_
      refine r_vret dX12_readAtom_83 rfl (Nat.le_of_ble_eq_true rfl) (Nat.le_of_ble_eq_true rfl) ?_
      exact hQ _ (frM_tr of43 (frM_su og59 (by decide) (by decide))) (by rw [vt59]; omega) (psM_of p43b (og59.2.2 8 (by decide)) (og59.2.2 9 (by decide)) (og59.2.2 10 (by decide)) (og59.2.2 11 (by decide)) (og59.2.2 12 (by decide)) (og59.2.2 13 (by decide))) (fun h_z => absurd h_z hr)
  have hrk : rkP B n p ≠ 40 := fun h_z => hp ((rk4 (B := B) (n := n) (s := p) (c := 40) (by decide)).mp h_z)
  have hv0 : atP B n (if lm = 5 then 8 else 6) 5 p = a1P B n (if lm = 5 then 8 else 6) p := if_neg hp
  by_cases h2 : tkP B n p = 2
  · have hv : atP B n (if lm = 5 then 8 else 6) 5 p = (0, nxP B n p, [nmP B n p]) := hv0.trans (a1_num h2)
    rw [hv] at hQ
    have hpn := (tk2 h2).1
    have hnm := nm_bd h2
    have hnu : nuH B n 999 p = (0, nxP B n p, nmP B n p) := by unfold nuH; rw [if_pos h2, if_neg (by omega)]
    refine r_aloadR0 dX12_readAtom_0 ?_
    refine m_getV (x := (f A 12)) zf_RX12_112 rfl dX12_readAtom_1 (shM_k hs) (rfl) ?_
    refine t_ifeq (t := 8) dX12_readAtom_4 (by decide) (fun h4 => ?_) (fun h4 => False.elim (by omega))
    refine r_aloadR0 dX12_readAtom_8 ?_
    refine q_callV0 zm_RX12_206 dX12_readAtom_9 (shM_k hs) (by decide) rfl (Nat.le_of_ble_eq_true rfl) (Nat.le_of_ble_eq_true rfl) (Nat.le_of_ble_eq_true rfl) (Nat.le_of_ble_eq_true rfl) (Nat.le_of_ble_eq_true rfl) (s_X12_lawWord G hs kw hld htp hps hlm (fun r9 g9 o9 a9 b9 => ?_))
    have htp9 := tpM_of htp (o9.2.1 5 (by decide) (by decide) (by decide)) (o9.2.2 7 (by decide))
    have w2 : g9 (A + 2) = f (A + 2) := o9.2.1 2 (by decide) (by decide) (by decide)
    obtain ⟨e9_z, p9⟩ := b9 hf
    have n9 := p9.1
    have t9 := p9.2.1 rfl
    have k9 := t9.2.2.2.1
    have d9 : (g9 A 16).toInt = 1 := by rw [o9.2.2 16 (by decide)]; exact hd16
    refine r_istore1 dX12_readAtom_12 rfl ?_
    refine r_iload1 dX12_readAtom_13 ?_
    refine n_iconst dX12_readAtom_14 (by decide) (fun r14 e14_z => ?_)
    refine t_iceq (t := 29) dX12_readAtom_15 (by decide) (fun h15 => ?_) (fun h15 => False.elim (by omega))
    refine r_aloadR0 dX12_readAtom_29 ?_
    refine n_bipush dX12_readAtom_30 (by decide) (fun r30 e30 => ?_)
    refine q_callV1 zm_RX12_175 dX12_readAtom_32 (shM_k hs) (by decide) rfl (Nat.le_of_ble_eq_true rfl) (Nat.le_of_ble_eq_true rfl) (Nat.le_of_ble_eq_true rfl) (Nat.le_of_ble_eq_true rfl) (Nat.le_of_ble_eq_true rfl) (s_X12_isSign G hs (fun r32 e32 => ?_))
    refine t_ifeq (t := 65) dX12_readAtom_35 (by decide) (fun h35 => ?_) (fun h35 => False.elim (by omega))
    refine r_aloadR0 dX12_readAtom_65 ?_
    refine n_iconst dX12_readAtom_66 (by decide) (fun r66 e66 => ?_)
    refine n_sipush dX12_readAtom_67 (by decide) (fun r67 e67 => ?_)
    refine q_callV2 zm_RX12_209 dX12_readAtom_70 (shM_k hs) (by decide) rfl (Nat.le_of_ble_eq_true rfl) (Nat.le_of_ble_eq_true rfl) (Nat.le_of_ble_eq_true rfl) (Nat.le_of_ble_eq_true rfl) (Nat.le_of_ble_eq_true rfl) (s_X12_number (p := p) (h_z := 999) G hs htp9 p9 e66 e67 (fun r70 g70 o70 a70 b70 c70 => ?_))
    rw [hnu] at a70 b70
    have e70 : r70.toInt = (nmP B n p : Nat) := b70 rfl
    have w3 : g70 (A + 2) = f (A + 2) := (o70.2.1 2 (by decide) (by decide) (by decide)).trans w2
    refine r_istore2 dX12_readAtom_73 rfl ?_
    refine r_aloadR0 dX12_readAtom_74 ?_
    refine n_sipush dX12_readAtom_75 (by decide) (fun r75 e75 => ?_)
    refine r_iload2 dX12_readAtom_78 ?_
    refine n_iadd dX12_readAtom_79 (by omega) (fun r79 e79 => ?_)
    refine q_callV1 zm_RX12_162 dX12_readAtom_80 (shM_k hs) (by decide) rfl (Nat.le_of_ble_eq_true rfl) (Nat.le_of_ble_eq_true rfl) (Nat.le_of_ble_eq_true rfl) (Nat.le_of_ble_eq_true rfl) (Nat.le_of_ble_eq_true rfl) (s_X12_laysStep (lm := lm) (la := la) (u := u) G hs a70.1 (by rw [o70.2.2 17 (by decide), o9.2.2 17 (by decide)]; exact hlm) (by rw [o70.2.2 18 (by decide), o9.2.2 18 (by decide)]; exact hla) (by rw [w3]; exact hu) h5 h29 (by omega) (fun g80 o80 a80 b80 c80 => ?_))
    refine r_vret dX12_readAtom_83 rfl (Nat.le_of_ble_eq_true rfl) (Nat.le_of_ble_eq_true rfl) ?_
    refine hQ _ (frM_tr (frM_tr (frM_su o9 (by decide) (by decide)) (frM_su o70 (by decide) (by decide))) (frM_su o80 (by decide) (by decide))) (by rw [o80.2.2 16 (by decide), o70.2.2 16 (by decide)]; exact d9) (psM_of a70 (o80.2.2 8 (by decide)) (o80.2.2 9 (by decide)) (o80.2.2 10 (by decide)) (o80.2.2 11 (by decide)) (o80.2.2 12 (by decide)) (o80.2.2 13 (by decide))) (fun _ => okM_cg (okM_one (by omega) a80 b80 c80 ?_) w3 rfl)
    unfold rfO
    rw [if_pos (by omega)]
    omega
  · have hv : atP B n (if lm = 5 then 8 else 6) 5 p = (baP B n p, p, []) := hv0.trans (a1_bad h2 hf)
    rw [hv] at hQ
    have hba := ba_bd (B := B) (n := n) (s := p)
    have hnu : nuH B n 999 p = (baP B n p, p, 0) := by unfold nuH; rw [if_neg h2]
    refine r_aloadR0 dX12_readAtom_0 ?_
    refine m_getV (x := (f A 12)) zf_RX12_112 rfl dX12_readAtom_1 (shM_k hs) (rfl) ?_
    refine t_ifeq (t := 8) dX12_readAtom_4 (by decide) (fun h4 => ?_) (fun h4 => False.elim (by omega))
    refine r_aloadR0 dX12_readAtom_8 ?_
    refine q_callV0 zm_RX12_206 dX12_readAtom_9 (shM_k hs) (by decide) rfl (Nat.le_of_ble_eq_true rfl) (Nat.le_of_ble_eq_true rfl) (Nat.le_of_ble_eq_true rfl) (Nat.le_of_ble_eq_true rfl) (Nat.le_of_ble_eq_true rfl) (s_X12_lawWord G hs kw hld htp hps hlm (fun r9 g9 o9 a9 b9 => ?_))
    have htp9 := tpM_of htp (o9.2.1 5 (by decide) (by decide) (by decide)) (o9.2.2 7 (by decide))
    have w2 : g9 (A + 2) = f (A + 2) := o9.2.1 2 (by decide) (by decide) (by decide)
    obtain ⟨e9_z, p9⟩ := b9 hf
    have n9 := p9.1
    have t9 := p9.2.1 rfl
    have k9 := t9.2.2.2.1
    have d9 : (g9 A 16).toInt = 1 := by rw [o9.2.2 16 (by decide)]; exact hd16
    refine r_istore1 dX12_readAtom_12 rfl ?_
    refine r_iload1 dX12_readAtom_13 ?_
    refine n_iconst dX12_readAtom_14 (by decide) (fun r14 e14_z => ?_)
    refine t_iceq (t := 29) dX12_readAtom_15 (by decide) (fun h15 => ?_) (fun h15 => False.elim (by omega))
    refine r_aloadR0 dX12_readAtom_29 ?_
    refine n_bipush dX12_readAtom_30 (by decide) (fun r30 e30 => ?_)
    refine q_callV1 zm_RX12_175 dX12_readAtom_32 (shM_k hs) (by decide) rfl (Nat.le_of_ble_eq_true rfl) (Nat.le_of_ble_eq_true rfl) (Nat.le_of_ble_eq_true rfl) (Nat.le_of_ble_eq_true rfl) (Nat.le_of_ble_eq_true rfl) (s_X12_isSign G hs (fun r32 e32 => ?_))
    refine t_ifeq (t := 65) dX12_readAtom_35 (by decide) (fun h35 => ?_) (fun h35 => False.elim (by omega))
    refine r_aloadR0 dX12_readAtom_65 ?_
    refine n_iconst dX12_readAtom_66 (by decide) (fun r66 e66 => ?_)
    refine n_sipush dX12_readAtom_67 (by decide) (fun r67 e67 => ?_)
    refine q_callV2 zm_RX12_209 dX12_readAtom_70 (shM_k hs) (by decide) rfl (Nat.le_of_ble_eq_true rfl) (Nat.le_of_ble_eq_true rfl) (Nat.le_of_ble_eq_true rfl) (Nat.le_of_ble_eq_true rfl) (Nat.le_of_ble_eq_true rfl) (s_X12_number (p := p) (h_z := 999) G hs htp9 p9 e66 e67 (fun r70 g70 o70 a70 b70 c70 => ?_))
    rw [hnu] at a70 c70
    have e70 : r70.toInt = 0 := c70 hba.1
    have nb : (g70 A 12).toInt ≠ 0 := by rw [a70.1]; have := hba.1; omega
    refine r_istore2 dX12_readAtom_73 rfl ?_
    refine r_aloadR0 dX12_readAtom_74 ?_
    refine n_sipush dX12_readAtom_75 (by decide) (fun r75 e75 => ?_)
    refine r_iload2 dX12_readAtom_78 ?_
    refine n_iadd dX12_readAtom_79 (by omega) (fun r79 e79 => ?_)
    refine q_callV1 zm_RX12_162 dX12_readAtom_80 (shM_k hs) (by decide) rfl (Nat.le_of_ble_eq_true rfl) (Nat.le_of_ble_eq_true rfl) (Nat.le_of_ble_eq_true rfl) (Nat.le_of_ble_eq_true rfl) (Nat.le_of_ble_eq_true rfl) (s_X12_laysStep_x G hs nb ?_)
    refine r_vret dX12_readAtom_83 rfl (Nat.le_of_ble_eq_true rfl) (Nat.le_of_ble_eq_true rfl) ?_
    exact hQ _ (frM_tr (frM_su o9 (by decide) (by decide)) (frM_su o70 (by decide) (by decide))) (by rw [o70.2.2 16 (by decide)]; exact d9) a70 (fun h_z => absurd h_z hba.1)
set_option maxHeartbeats 4000000 in
set_option maxRecDepth 100000 in
theorem s_X12_readTerm_5 {g : zGT} {w : zW} {f : Nat → Nat → Int32} {j : Nat → Nat → Int64} {A : Nat} {B : Nat → Nat} {n : Nat} {wa wv : Nat → Nat} {kq : Nat} {p lm la u : Nat} {Q : Option Value → zW → Prop} {QX : String → zW → Prop} (G : zGok g) (hs : shM w A) (kw : kWd g wa wv kq) (hld : kLd g wa) (htp : tpM B n f A) (hps : psM B n f A 0 p) (hd16 : (f A 16).toInt = 1) (hlm : (f A 17).toInt = (lm : Nat)) (hla : (f A 18).toInt = (la : Nat)) (hu : (f (A + 2) lm).toInt = (u : Nat)) (h5 : lm ≤ 5) (h29 : 209 ≤ la) (h99 : la ≤ 2009) (hup : u ≤ p) (hQ : ∀ f2_z, frM A [2] [8, 9, 10, 11, 12, 13, 16] f f2_z → (f2_z A 16).toInt = 1 → psM B n f2_z A (chP B n (atP B n (if lm = 5 then 8 else 6) 5) (opT B n) p).1 (chP B n (atP B n (if lm = 5 then 8 else 6) 5) (opT B n) p).2.1 → ((chP B n (atP B n (if lm = 5 then 8 else 6) 5) (opT B n) p).1 = 0 → okM f f2_z A lm la u (chP B n (atP B n (if lm = 5 then 8 else 6) 5) (opT B n) p).2.2) → Q none (zM w f2_z j)) : zC g 31 yX12_readTerm cX12_readTerm 1 none [.ref A] (zM w f j) (0, 0) Q QX := by
  refine zC_of G (by decide +kernel) (Nat.le_of_ble_eq_true rfl) ?_
  have ht := hps.2.1 rfl
  have h12 := hps.1
  have h900 := htp.2.1
  have hgd : ∀ s, s ≤ n → gdP n false (if lm = 5 then 8 else 6) (1 + 2 * 5) s ((atP B n (if lm = 5 then 8 else 6) 5) s) := gd_at (by split <;> decide) 5
  have lp : ∀ (mz : Nat) (f2_z : Nat → Nat → Int32) (k : Nat) (r : zPR), frM A [2] [8, 9, 10, 11, 12, 13, 16] f f2_z → (f2_z A 16).toInt = 1 → psM B n f2_z A r.1 r.2.1 → (r.1 = 0 → okM f f2_z A lm la u r.2.2) → (r.1 = 0 → p ≤ r.2.1 ∧ r.2.1 ≤ n ∧ r.2.2.length + p ≤ r.2.1) → (r.1 = 0 → n ≤ k + r.2.1) → lpP B n (atP B n (if lm = 5 then 8 else 6) 5) (opT B n) k r = chP B n (atP B n (if lm = 5 then 8 else 6) 5) (opT B n) p → k < mz → zR (zV g 31 yX12_readTerm 1 none (0, 0) Q QX) cX12_readTerm yX12_readTerm.cls 4 [some (.ref A)] [] (zM w f2_z j) (0, 0) := by
    intro mz
    induction mz with
    | zero =>
      intro f2_z k r ofr hd2 hp2 hk2 hg2 hnk hR hmz
      exact absurd hmz (Nat.not_lt_zero _)
    | succ mz ih =>
      intro f2_z k r ofr hd2 hp2 hk2 hg2 hnk hR hmz
      by_cases hr : r.1 = 0
      · have hk3 := hk2 hr
        obtain ⟨q1_z, q2_z, q3_z⟩ := hg2 hr
        have hnk3 := hnk hr
        have hps2 := hp2
        rw [hr] at hps2
        have ht2 := hps2.2.1 rfl
        have hb2 := hps2.1
        have hte2 := teP_le (B := B) ht2.1
        have htp2 := tpM_of htp (ofr.2.1 5 (by decide) (by decide) (by decide)) (ofr.2.2 7 (by decide))
        have h10 := ht2.2.2.2.1
        have hrk := rk4 (B := B) (n := n) (s := r.2.1) (c := 42) (by decide)
        by_cases hc_z : tkP B n r.2.1 = 42
        · have h10b := hrk.mpr hc_z
          have hop : opT B n r.2.1 = 2005 := if_pos hc_z
          have hop0 : opT B n r.2.1 ≠ 0 := by rw [hop]; decide
          have hln := tk_lt (B := B) (n := n) (s := r.2.1) (by rw [hc_z]; decide)
          obtain ⟨k2_z, rfl⟩ : ∃ k2_z, k = k2_z + 1 := ⟨k - 1, by omega⟩
          have hnx := nxP_gt (B := B) hln
          have gq := hgd _ hnx.2
          by_cases hq : ((atP B n (if lm = 5 then 8 else 6) 5) (nxP B n r.2.1)).1 = 0
          · obtain ⟨y1, y2, y3, y4⟩ := gq.1 hq
            refine r_aloadR0 dX12_readTerm_4 ?_
            refine n_bipush dX12_readTerm_5 (by decide) (fun r5 e5_z => ?_)
            refine q_callV1 zm_RX12_175 dX12_readTerm_7 (shM_k hs) (by decide) rfl (Nat.le_of_ble_eq_true rfl) (Nat.le_of_ble_eq_true rfl) (Nat.le_of_ble_eq_true rfl) (Nat.le_of_ble_eq_true rfl) (Nat.le_of_ble_eq_true rfl) (s_X12_isSign G hs (fun r7 e7_z => ?_))
            refine t_ifeq (t := 30) dX12_readTerm_10 (by decide) (fun h10 => False.elim (by omega)) (fun h10 => ?_)
            refine r_aloadR0 dX12_readTerm_13 ?_
            refine q_callV0 zm_RX12_131 dX12_readTerm_14 (shM_k hs) (by decide) rfl (Nat.le_of_ble_eq_true rfl) (Nat.le_of_ble_eq_true rfl) (Nat.le_of_ble_eq_true rfl) (Nat.le_of_ble_eq_true rfl) (Nat.le_of_ble_eq_true rfl) (s_X12_readsOn (p := teP B n r.2.1) G hs htp2 ht2.2.1 hte2 (fun g14 o14 t14 => ?_))
            have htp14 := tpM_of htp2 (o14.2.1 5 (by decide) (by decide) (by decide)) (o14.2.2 7 (by decide))
            have hp14 : psM B n g14 A 0 (nxP B n r.2.1) := ⟨by rw [o14.2.2 12 (by decide)]; exact hb2, fun _ => t14, fun h_z => absurd rfl h_z⟩
            have w14 : g14 (A + 2) = f2_z (A + 2) := o14.2.1 2 (by decide) (by decide) (by decide)
            refine r_aloadR0 dX12_readTerm_17 ?_
            refine q_callV0 zm_RX12_187 dX12_readTerm_18 (shM_k hs) (by decide) rfl (Nat.le_of_ble_eq_true rfl) (Nat.le_of_ble_eq_true rfl) (Nat.le_of_ble_eq_true rfl) (Nat.le_of_ble_eq_true rfl) (Nat.le_of_ble_eq_true rfl) (s_X12_readAtom_5 (lm := lm) (la := la) (u := u + r.2.2.length) G hs kw hld htp14 hp14 (by rw [o14.2.2 16 (by decide)]; exact hd2) (by rw [o14.2.2 17 (by decide), ofr.2.2 17 (by decide)]; exact hlm) (by rw [o14.2.2 18 (by decide), ofr.2.2 18 (by decide)]; exact hla) (by rw [w14]; exact hk3.1) h5 h29 h99 (by omega) (fun g18 o18 d18 p18 k18 => ?_))
            have of18 : frM A [2] [8, 9, 10, 11, 12, 13, 16] f g18 := frM_tr ofr (frM_tr (frM_su o14 (by decide) (by decide)) o18)
            refine r_aloadR0 dX12_readTerm_21 ?_
            refine n_bipush dX12_readTerm_22 (by decide) (fun r22 e22_z => ?_)
            refine q_callV1 zm_RX12_162 dX12_readTerm_24 (shM_k hs) (by decide) rfl (Nat.le_of_ble_eq_true rfl) (Nat.le_of_ble_eq_true rfl) (Nat.le_of_ble_eq_true rfl) (Nat.le_of_ble_eq_true rfl) (Nat.le_of_ble_eq_true rfl) (s_X12_laysStep (lm := lm) (la := la) (u := u + r.2.2.length + ((atP B n (if lm = 5 then 8 else 6) 5) (nxP B n r.2.1)).2.2.length) G hs (by have := p18.1; rw [hq] at this; exact this) (by rw [of18.2.2 17 (by decide)]; exact hlm) (by rw [of18.2.2 18 (by decide)]; exact hla) (k18 hq).1 h5 h29 (by omega) (fun g24 o24 a24 b24 c24 => ?_))
            refine r_goto (t := 4) dX12_readTerm_27 (by decide) ?_
            have hp18 := p18
            rw [hq] at hp18
            refine ih _ k2_z (0, ((atP B n (if lm = 5 then 8 else 6) 5) (nxP B n r.2.1)).2.1, r.2.2 ++ ((atP B n (if lm = 5 then 8 else 6) 5) (nxP B n r.2.1)).2.2 ++ [opT B n r.2.1]) (frM_tr of18 (frM_su o24 (by decide) (by decide))) (by rw [o24.2.2 16 (by decide)]; exact d18) (psM_of hp18 (o24.2.2 8 (by decide)) (o24.2.2 9 (by decide)) (o24.2.2 10 (by decide)) (o24.2.2 11 (by decide)) (o24.2.2 12 (by decide)) (o24.2.2 13 (by decide))) (fun _ => okM_ap (by omega) (by rw [List.length_append]; omega) (okM_ap (by omega) (by omega) hk3 (okM_cg (k18 hq) w14 rfl)) ?_) (fun _ => ?_) (fun _ => ?_) ?_ (by omega)
            · rw [List.length_append, ← Nat.add_assoc, hop]
              exact okM_one (by omega) a24 b24 c24 (by rw [e22_z]; rfl)
            · show p ≤ ((atP B n (if lm = 5 then 8 else 6) 5) (nxP B n r.2.1)).2.1 ∧ ((atP B n (if lm = 5 then 8 else 6) 5) (nxP B n r.2.1)).2.1 ≤ n ∧ (r.2.2 ++ ((atP B n (if lm = 5 then 8 else 6) 5) (nxP B n r.2.1)).2.2 ++ [opT B n r.2.1]).length + p ≤ ((atP B n (if lm = 5 then 8 else 6) 5) (nxP B n r.2.1)).2.1
              rw [List.length_append, List.length_append, List.length_singleton]
              omega
            · show n ≤ k2_z + ((atP B n (if lm = 5 then 8 else 6) 5) (nxP B n r.2.1)).2.1
              omega
            · exact (lpP_on hr hop0 hq).symm.trans hR
          · have nb : ∀ g : Nat → Nat → Int32, psM B n g A ((atP B n (if lm = 5 then 8 else 6) 5) (nxP B n r.2.1)).1 ((atP B n (if lm = 5 then 8 else 6) 5) (nxP B n r.2.1)).2.1 → (g A 12).toInt ≠ 0 := fun g h_z => by rw [h_z.1]; omega
            refine r_aloadR0 dX12_readTerm_4 ?_
            refine n_bipush dX12_readTerm_5 (by decide) (fun r5 e5_z => ?_)
            refine q_callV1 zm_RX12_175 dX12_readTerm_7 (shM_k hs) (by decide) rfl (Nat.le_of_ble_eq_true rfl) (Nat.le_of_ble_eq_true rfl) (Nat.le_of_ble_eq_true rfl) (Nat.le_of_ble_eq_true rfl) (Nat.le_of_ble_eq_true rfl) (s_X12_isSign G hs (fun r7 e7_z => ?_))
            refine t_ifeq (t := 30) dX12_readTerm_10 (by decide) (fun h10 => False.elim (by omega)) (fun h10 => ?_)
            refine r_aloadR0 dX12_readTerm_13 ?_
            refine q_callV0 zm_RX12_131 dX12_readTerm_14 (shM_k hs) (by decide) rfl (Nat.le_of_ble_eq_true rfl) (Nat.le_of_ble_eq_true rfl) (Nat.le_of_ble_eq_true rfl) (Nat.le_of_ble_eq_true rfl) (Nat.le_of_ble_eq_true rfl) (s_X12_readsOn (p := teP B n r.2.1) G hs htp2 ht2.2.1 hte2 (fun g14 o14 t14 => ?_))
            have htp14 := tpM_of htp2 (o14.2.1 5 (by decide) (by decide) (by decide)) (o14.2.2 7 (by decide))
            have hp14 : psM B n g14 A 0 (nxP B n r.2.1) := ⟨by rw [o14.2.2 12 (by decide)]; exact hb2, fun _ => t14, fun h_z => absurd rfl h_z⟩
            have w14 : g14 (A + 2) = f2_z (A + 2) := o14.2.1 2 (by decide) (by decide) (by decide)
            refine r_aloadR0 dX12_readTerm_17 ?_
            refine q_callV0 zm_RX12_187 dX12_readTerm_18 (shM_k hs) (by decide) rfl (Nat.le_of_ble_eq_true rfl) (Nat.le_of_ble_eq_true rfl) (Nat.le_of_ble_eq_true rfl) (Nat.le_of_ble_eq_true rfl) (Nat.le_of_ble_eq_true rfl) (s_X12_readAtom_5 (lm := lm) (la := la) (u := u + r.2.2.length) G hs kw hld htp14 hp14 (by rw [o14.2.2 16 (by decide)]; exact hd2) (by rw [o14.2.2 17 (by decide), ofr.2.2 17 (by decide)]; exact hlm) (by rw [o14.2.2 18 (by decide), ofr.2.2 18 (by decide)]; exact hla) (by rw [w14]; exact hk3.1) h5 h29 h99 (by omega) (fun g18 o18 d18 p18 k18 => ?_))
            have of18 : frM A [2] [8, 9, 10, 11, 12, 13, 16] f g18 := frM_tr ofr (frM_tr (frM_su o14 (by decide) (by decide)) o18)
            refine r_aloadR0 dX12_readTerm_21 ?_
            refine n_bipush dX12_readTerm_22 (by decide) (fun r22 e22_z => ?_)
            refine q_callV1 zm_RX12_162 dX12_readTerm_24 (shM_k hs) (by decide) rfl (Nat.le_of_ble_eq_true rfl) (Nat.le_of_ble_eq_true rfl) (Nat.le_of_ble_eq_true rfl) (Nat.le_of_ble_eq_true rfl) (Nat.le_of_ble_eq_true rfl) (s_X12_laysStep_x G hs (nb _ p18) ?_)
            refine r_goto (t := 4) dX12_readTerm_27 (by decide) ?_
            exact ih _ k2_z ((atP B n (if lm = 5 then 8 else 6) 5) (nxP B n r.2.1)) of18 d18 p18 (fun h_z => absurd h_z hq) (fun h_z => absurd h_z hq) (fun h_z => absurd h_z hq) ((lpP_bad hq).trans ((lpP_sub hr hop0 hq).symm.trans hR)) (by omega)
        · have h10b : rkP B n r.2.1 ≠ 42 := fun h_z => hc_z (hrk.mp h_z)
          have hop : opT B n r.2.1 = 0 := if_neg hc_z
          have hv := (lpP_end (B := B) (n := n) (k := k) (sub := (atP B n (if lm = 5 then 8 else 6) 5)) hop).symm.trans hR
          refine r_aloadR0 dX12_readTerm_4 ?_
          refine n_bipush dX12_readTerm_5 (by decide) (fun r5 e5_z => ?_)
          refine q_callV1 zm_RX12_175 dX12_readTerm_7 (shM_k hs) (by decide) rfl (Nat.le_of_ble_eq_true rfl) (Nat.le_of_ble_eq_true rfl) (Nat.le_of_ble_eq_true rfl) (Nat.le_of_ble_eq_true rfl) (Nat.le_of_ble_eq_true rfl) (s_X12_isSign G hs (fun r7 e7_z => ?_))
          refine t_ifeq (t := 30) dX12_readTerm_10 (by decide) (fun h10 => ?_) (fun h10 => False.elim (by omega))
          refine r_vret dX12_readTerm_30 rfl (Nat.le_of_ble_eq_true rfl) (Nat.le_of_ble_eq_true rfl) ?_
          rw [← hv] at hQ
          exact hQ _ ofr hd2 hp2 hk2
      · have hb2 : (f2_z A 12).toInt ≠ 0 := by rw [hp2.1]; omega
        have hv := (lpP_bad (B := B) (n := n) (k := k) (sub := (atP B n (if lm = 5 then 8 else 6) 5)) (op := opT B n) hr).symm.trans hR
        refine r_aloadR0 dX12_readTerm_4 ?_
        refine n_bipush dX12_readTerm_5 (by decide) (fun r5 e5_z => ?_)
        refine q_callV1 zm_RX12_175 dX12_readTerm_7 (shM_k hs) (by decide) rfl (Nat.le_of_ble_eq_true rfl) (Nat.le_of_ble_eq_true rfl) (Nat.le_of_ble_eq_true rfl) (Nat.le_of_ble_eq_true rfl) (Nat.le_of_ble_eq_true rfl) (s_X12_isSign G hs (fun r7 e7_z => ?_))
        refine t_ifeq (t := 30) dX12_readTerm_10 (by decide) (fun h10 => ?_) (fun h10 => False.elim (by omega))
        refine r_vret dX12_readTerm_30 rfl (Nat.le_of_ble_eq_true rfl) (Nat.le_of_ble_eq_true rfl) ?_
        rw [← hv] at hQ
        exact hQ _ ofr hd2 hp2 hk2
  refine r_aloadR0 dX12_readTerm_0 ?_
  refine q_callV0 zm_RX12_187 dX12_readTerm_1 (shM_k hs) (by decide) rfl (Nat.le_of_ble_eq_true rfl) (Nat.le_of_ble_eq_true rfl) (Nat.le_of_ble_eq_true rfl) (Nat.le_of_ble_eq_true rfl) (Nat.le_of_ble_eq_true rfl) (s_X12_readAtom_5 G hs kw hld htp hps hd16 hlm hla hu h5 h29 h99 hup (fun g1 o1 d1 p1 k1_z => ?_))
  have gp := hgd p ht.1
  exact lp _ g1 n ((atP B n (if lm = 5 then 8 else 6) 5) p) o1 d1 p1 k1_z (fun h_z => ⟨Nat.le_of_lt (gp.1 h_z).1, (gp.1 h_z).2.1, (gp.1 h_z).2.2.1⟩) (fun _ => Nat.le_add_right n _) rfl (Nat.lt_succ_self n)
set_option maxHeartbeats 4000000 in
set_option maxRecDepth 100000 in
theorem s_X12_readSum_5 {g : zGT} {w : zW} {f : Nat → Nat → Int32} {j : Nat → Nat → Int64} {A : Nat} {B : Nat → Nat} {n : Nat} {wa wv : Nat → Nat} {kq : Nat} {p lm la u : Nat} {Q : Option Value → zW → Prop} {QX : String → zW → Prop} (G : zGok g) (hs : shM w A) (kw : kWd g wa wv kq) (hld : kLd g wa) (htp : tpM B n f A) (hps : psM B n f A 0 p) (hd16 : (f A 16).toInt = 1) (hlm : (f A 17).toInt = (lm : Nat)) (hla : (f A 18).toInt = (la : Nat)) (hu : (f (A + 2) lm).toInt = (u : Nat)) (h5 : lm ≤ 5) (h29 : 209 ≤ la) (h99 : la ≤ 2009) (hup : u ≤ p) (hQ : ∀ f2_z, frM A [2] [8, 9, 10, 11, 12, 13, 16] f f2_z → (f2_z A 16).toInt = 1 → psM B n f2_z A (chP B n (chP B n (atP B n (if lm = 5 then 8 else 6) 5) (opT B n)) (opS B n) p).1 (chP B n (chP B n (atP B n (if lm = 5 then 8 else 6) 5) (opT B n)) (opS B n) p).2.1 → ((chP B n (chP B n (atP B n (if lm = 5 then 8 else 6) 5) (opT B n)) (opS B n) p).1 = 0 → okM f f2_z A lm la u (chP B n (chP B n (atP B n (if lm = 5 then 8 else 6) 5) (opT B n)) (opS B n) p).2.2) → Q none (zM w f2_z j)) : zC g 32 yX12_readSum cX12_readSum 2 none [.ref A] (zM w f j) (0, 0) Q QX := by
  refine zC_of G (by decide +kernel) (Nat.le_of_ble_eq_true rfl) ?_
  have ht := hps.2.1 rfl
  have h12 := hps.1
  have h900 := htp.2.1
  have hgd : ∀ s, s ≤ n → gdP n false (if lm = 5 then 8 else 6) (1 + 2 * 5 + 1) s ((chP B n (atP B n (if lm = 5 then 8 else 6) 5) (opT B n)) s) := fun s hs9 => gd_ch (gd_at (by split <;> decide) 5) hop_T hs9
  have lp : ∀ (mz : Nat) (f2_z : Nat → Nat → Int32) (k : Nat) (r : zPR) (v1_ : Option Value), frM A [2] [8, 9, 10, 11, 12, 13, 16] f f2_z → (f2_z A 16).toInt = 1 → psM B n f2_z A r.1 r.2.1 → (r.1 = 0 → okM f f2_z A lm la u r.2.2) → (r.1 = 0 → p ≤ r.2.1 ∧ r.2.1 ≤ n ∧ r.2.2.length + p ≤ r.2.1) → (r.1 = 0 → n ≤ k + r.2.1) → lpP B n (chP B n (atP B n (if lm = 5 then 8 else 6) 5) (opT B n)) (opS B n) k r = chP B n (chP B n (atP B n (if lm = 5 then 8 else 6) 5) (opT B n)) (opS B n) p → k < mz → zR (zV g 32 yX12_readSum 2 none (0, 0) Q QX) cX12_readSum yX12_readSum.cls 4 [some (.ref A), v1_] [] (zM w f2_z j) (0, 0) := by
    intro mz
    induction mz with
    | zero =>
      intro f2_z k r v1_ ofr hd2 hp2 hk2 hg2 hnk hR hmz
      exact absurd hmz (Nat.not_lt_zero _)
    | succ mz ih =>
      intro f2_z k r v1_ ofr hd2 hp2 hk2 hg2 hnk hR hmz
      by_cases hr : r.1 = 0
      · have hk3 := hk2 hr
        obtain ⟨q1_z, q2_z, q3_z⟩ := hg2 hr
        have hnk3 := hnk hr
        have hps2 := hp2
        rw [hr] at hps2
        have ht2 := hps2.2.1 rfl
        have hb2 := hps2.1
        have hte2 := teP_le (B := B) ht2.1
        have htp2 := tpM_of htp (ofr.2.1 5 (by decide) (by decide) (by decide)) (ofr.2.2 7 (by decide))
        have h10 := ht2.2.2.2.1
        have hrk := rk4 (B := B) (n := n) (s := r.2.1) (c := 43) (by decide)
        have hrm := rk4 (B := B) (n := n) (s := r.2.1) (c := 45) (by decide)
        by_cases hc_z : tkP B n r.2.1 = 43
        · have h10b := hrk.mpr hc_z
          have hop : opS B n r.2.1 = 2003 := if_pos hc_z
          have hop0 : opS B n r.2.1 ≠ 0 := by rw [hop]; decide
          have hln := tk_lt (B := B) (n := n) (s := r.2.1) (by rw [hc_z]; decide)
          obtain ⟨k2_z, rfl⟩ : ∃ k2_z, k = k2_z + 1 := ⟨k - 1, by omega⟩
          have hnx := nxP_gt (B := B) hln
          have gq := hgd _ hnx.2
          by_cases hq : ((chP B n (atP B n (if lm = 5 then 8 else 6) 5) (opT B n)) (nxP B n r.2.1)).1 = 0
          · obtain ⟨y1, y2, y3, y4⟩ := gq.1 hq
            refine r_aloadR0 dX12_readSum_4 ?_
            refine n_bipush dX12_readSum_5 (by decide) (fun r5 e5_z => ?_)
            refine q_callV1 zm_RX12_175 dX12_readSum_7 (shM_k hs) (by decide) rfl (Nat.le_of_ble_eq_true rfl) (Nat.le_of_ble_eq_true rfl) (Nat.le_of_ble_eq_true rfl) (Nat.le_of_ble_eq_true rfl) (Nat.le_of_ble_eq_true rfl) (s_X12_isSign G hs (fun r7 e7_z => ?_))
            refine t_ifne (t := 22) dX12_readSum_10 (by decide) (fun h10 => ?_) (fun h10 => False.elim (by omega))
            refine r_aloadR0 dX12_readSum_22 ?_
            refine m_getV (x := (f2_z A 10)) zf_RX12_92 rfl dX12_readSum_23 (shM_k hs) (rfl) ?_
            refine r_istore1 dX12_readSum_26 rfl ?_
            refine r_aloadR0 dX12_readSum_27 ?_
            refine q_callV0 zm_RX12_131 dX12_readSum_28 (shM_k hs) (by decide) rfl (Nat.le_of_ble_eq_true rfl) (Nat.le_of_ble_eq_true rfl) (Nat.le_of_ble_eq_true rfl) (Nat.le_of_ble_eq_true rfl) (Nat.le_of_ble_eq_true rfl) (s_X12_readsOn (p := teP B n r.2.1) G hs htp2 ht2.2.1 hte2 (fun g28 o28 t28 => ?_))
            have htp28 := tpM_of htp2 (o28.2.1 5 (by decide) (by decide) (by decide)) (o28.2.2 7 (by decide))
            have hp28 : psM B n g28 A 0 (nxP B n r.2.1) := ⟨by rw [o28.2.2 12 (by decide)]; exact hb2, fun _ => t28, fun h_z => absurd rfl h_z⟩
            have w28 : g28 (A + 2) = f2_z (A + 2) := o28.2.1 2 (by decide) (by decide) (by decide)
            refine r_aloadR0 dX12_readSum_31 ?_
            refine q_callV0 zm_RX12_184 dX12_readSum_32 (shM_k hs) (by decide) rfl (Nat.le_of_ble_eq_true rfl) (Nat.le_of_ble_eq_true rfl) (Nat.le_of_ble_eq_true rfl) (Nat.le_of_ble_eq_true rfl) (Nat.le_of_ble_eq_true rfl) (s_X12_readTerm_5 (lm := lm) (la := la) (u := u + r.2.2.length) G hs kw hld htp28 hp28 (by rw [o28.2.2 16 (by decide)]; exact hd2) (by rw [o28.2.2 17 (by decide), ofr.2.2 17 (by decide)]; exact hlm) (by rw [o28.2.2 18 (by decide), ofr.2.2 18 (by decide)]; exact hla) (by rw [w28]; exact hk3.1) h5 h29 h99 (by omega) (fun g32 o32 d32 p32 k32 => ?_))
            have of32 : frM A [2] [8, 9, 10, 11, 12, 13, 16] f g32 := frM_tr ofr (frM_tr (frM_su o28 (by decide) (by decide)) o32)
            refine r_aloadR0 dX12_readSum_35 ?_
            refine r_iload1 dX12_readSum_36 ?_
            refine n_bipush dX12_readSum_37 (by decide) (fun r37 e37 => ?_)
            refine t_icne (t := 47) dX12_readSum_39 (by decide) (fun h39 => False.elim (by omega)) (fun h39 => ?_)
            refine n_bipush dX12_readSum_42 (by decide) (fun r42 e42_z => ?_)
            refine r_goto (t := 49) dX12_readSum_44 (by decide) ?_
            refine q_callV1 zm_RX12_162 dX12_readSum_49 (shM_k hs) (by decide) rfl (Nat.le_of_ble_eq_true rfl) (Nat.le_of_ble_eq_true rfl) (Nat.le_of_ble_eq_true rfl) (Nat.le_of_ble_eq_true rfl) (Nat.le_of_ble_eq_true rfl) (s_X12_laysStep (lm := lm) (la := la) (u := u + r.2.2.length + ((chP B n (atP B n (if lm = 5 then 8 else 6) 5) (opT B n)) (nxP B n r.2.1)).2.2.length) G hs (by have := p32.1; rw [hq] at this; exact this) (by rw [of32.2.2 17 (by decide)]; exact hlm) (by rw [of32.2.2 18 (by decide)]; exact hla) (k32 hq).1 h5 h29 (by omega) (fun g49 o49 a49 b49 c49 => ?_))
            refine r_goto (t := 4) dX12_readSum_52 (by decide) ?_
            have hp32 := p32
            rw [hq] at hp32
            refine ih _ k2_z (0, ((chP B n (atP B n (if lm = 5 then 8 else 6) 5) (opT B n)) (nxP B n r.2.1)).2.1, r.2.2 ++ ((chP B n (atP B n (if lm = 5 then 8 else 6) 5) (opT B n)) (nxP B n r.2.1)).2.2 ++ [opS B n r.2.1]) _ (frM_tr of32 (frM_su o49 (by decide) (by decide))) (by rw [o49.2.2 16 (by decide)]; exact d32) (psM_of hp32 (o49.2.2 8 (by decide)) (o49.2.2 9 (by decide)) (o49.2.2 10 (by decide)) (o49.2.2 11 (by decide)) (o49.2.2 12 (by decide)) (o49.2.2 13 (by decide))) (fun _ => okM_ap (by omega) (by rw [List.length_append]; omega) (okM_ap (by omega) (by omega) hk3 (okM_cg (k32 hq) w28 rfl)) ?_) (fun _ => ?_) (fun _ => ?_) ?_ (by omega)
            · rw [List.length_append, ← Nat.add_assoc, hop]
              exact okM_one (by omega) a49 b49 c49 (by rw [e42_z]; rfl)
            · show p ≤ ((chP B n (atP B n (if lm = 5 then 8 else 6) 5) (opT B n)) (nxP B n r.2.1)).2.1 ∧ ((chP B n (atP B n (if lm = 5 then 8 else 6) 5) (opT B n)) (nxP B n r.2.1)).2.1 ≤ n ∧ (r.2.2 ++ ((chP B n (atP B n (if lm = 5 then 8 else 6) 5) (opT B n)) (nxP B n r.2.1)).2.2 ++ [opS B n r.2.1]).length + p ≤ ((chP B n (atP B n (if lm = 5 then 8 else 6) 5) (opT B n)) (nxP B n r.2.1)).2.1
              rw [List.length_append, List.length_append, List.length_singleton]
              omega
            · show n ≤ k2_z + ((chP B n (atP B n (if lm = 5 then 8 else 6) 5) (opT B n)) (nxP B n r.2.1)).2.1
              omega
            · exact (lpP_on hr hop0 hq).symm.trans hR
          · have nb : ∀ g : Nat → Nat → Int32, psM B n g A ((chP B n (atP B n (if lm = 5 then 8 else 6) 5) (opT B n)) (nxP B n r.2.1)).1 ((chP B n (atP B n (if lm = 5 then 8 else 6) 5) (opT B n)) (nxP B n r.2.1)).2.1 → (g A 12).toInt ≠ 0 := fun g h_z => by rw [h_z.1]; omega
            refine r_aloadR0 dX12_readSum_4 ?_
            refine n_bipush dX12_readSum_5 (by decide) (fun r5 e5_z => ?_)
            refine q_callV1 zm_RX12_175 dX12_readSum_7 (shM_k hs) (by decide) rfl (Nat.le_of_ble_eq_true rfl) (Nat.le_of_ble_eq_true rfl) (Nat.le_of_ble_eq_true rfl) (Nat.le_of_ble_eq_true rfl) (Nat.le_of_ble_eq_true rfl) (s_X12_isSign G hs (fun r7 e7_z => ?_))
            refine t_ifne (t := 22) dX12_readSum_10 (by decide) (fun h10 => ?_) (fun h10 => False.elim (by omega))
            refine r_aloadR0 dX12_readSum_22 ?_
            refine m_getV (x := (f2_z A 10)) zf_RX12_92 rfl dX12_readSum_23 (shM_k hs) (rfl) ?_
            refine r_istore1 dX12_readSum_26 rfl ?_
            refine r_aloadR0 dX12_readSum_27 ?_
            refine q_callV0 zm_RX12_131 dX12_readSum_28 (shM_k hs) (by decide) rfl (Nat.le_of_ble_eq_true rfl) (Nat.le_of_ble_eq_true rfl) (Nat.le_of_ble_eq_true rfl) (Nat.le_of_ble_eq_true rfl) (Nat.le_of_ble_eq_true rfl) (s_X12_readsOn (p := teP B n r.2.1) G hs htp2 ht2.2.1 hte2 (fun g28 o28 t28 => ?_))
            have htp28 := tpM_of htp2 (o28.2.1 5 (by decide) (by decide) (by decide)) (o28.2.2 7 (by decide))
            have hp28 : psM B n g28 A 0 (nxP B n r.2.1) := ⟨by rw [o28.2.2 12 (by decide)]; exact hb2, fun _ => t28, fun h_z => absurd rfl h_z⟩
            have w28 : g28 (A + 2) = f2_z (A + 2) := o28.2.1 2 (by decide) (by decide) (by decide)
            refine r_aloadR0 dX12_readSum_31 ?_
            refine q_callV0 zm_RX12_184 dX12_readSum_32 (shM_k hs) (by decide) rfl (Nat.le_of_ble_eq_true rfl) (Nat.le_of_ble_eq_true rfl) (Nat.le_of_ble_eq_true rfl) (Nat.le_of_ble_eq_true rfl) (Nat.le_of_ble_eq_true rfl) (s_X12_readTerm_5 (lm := lm) (la := la) (u := u + r.2.2.length) G hs kw hld htp28 hp28 (by rw [o28.2.2 16 (by decide)]; exact hd2) (by rw [o28.2.2 17 (by decide), ofr.2.2 17 (by decide)]; exact hlm) (by rw [o28.2.2 18 (by decide), ofr.2.2 18 (by decide)]; exact hla) (by rw [w28]; exact hk3.1) h5 h29 h99 (by omega) (fun g32 o32 d32 p32 k32 => ?_))
            have of32 : frM A [2] [8, 9, 10, 11, 12, 13, 16] f g32 := frM_tr ofr (frM_tr (frM_su o28 (by decide) (by decide)) o32)
            refine r_aloadR0 dX12_readSum_35 ?_
            refine r_iload1 dX12_readSum_36 ?_
            refine n_bipush dX12_readSum_37 (by decide) (fun r37 e37 => ?_)
            refine t_icne (t := 47) dX12_readSum_39 (by decide) (fun h39 => False.elim (by omega)) (fun h39 => ?_)
            refine n_bipush dX12_readSum_42 (by decide) (fun r42 e42_z => ?_)
            refine r_goto (t := 49) dX12_readSum_44 (by decide) ?_
            refine q_callV1 zm_RX12_162 dX12_readSum_49 (shM_k hs) (by decide) rfl (Nat.le_of_ble_eq_true rfl) (Nat.le_of_ble_eq_true rfl) (Nat.le_of_ble_eq_true rfl) (Nat.le_of_ble_eq_true rfl) (Nat.le_of_ble_eq_true rfl) (s_X12_laysStep_x G hs (nb _ p32) ?_)
            refine r_goto (t := 4) dX12_readSum_52 (by decide) ?_
            exact ih _ k2_z ((chP B n (atP B n (if lm = 5 then 8 else 6) 5) (opT B n)) (nxP B n r.2.1)) _ of32 d32 p32 (fun h_z => absurd h_z hq) (fun h_z => absurd h_z hq) (fun h_z => absurd h_z hq) ((lpP_bad hq).trans ((lpP_sub hr hop0 hq).symm.trans hR)) (by omega)
        have hcn := hc_z
        have hc43 : rkP B n r.2.1 ≠ 43 := fun h_z => hc_z (hrk.mp h_z)
        clear hc_z
        by_cases hc_z : tkP B n r.2.1 = 45
        · have h10b := hrm.mpr hc_z
          have hop : opS B n r.2.1 = 2004 := (if_neg (by omega)).trans (if_pos hc_z)
          have hop0 : opS B n r.2.1 ≠ 0 := by rw [hop]; decide
          have hln := tk_lt (B := B) (n := n) (s := r.2.1) (by rw [hc_z]; decide)
          obtain ⟨k2_z, rfl⟩ : ∃ k2_z, k = k2_z + 1 := ⟨k - 1, by omega⟩
          have hnx := nxP_gt (B := B) hln
          have gq := hgd _ hnx.2
          by_cases hq : ((chP B n (atP B n (if lm = 5 then 8 else 6) 5) (opT B n)) (nxP B n r.2.1)).1 = 0
          · obtain ⟨y1, y2, y3, y4⟩ := gq.1 hq
            refine r_aloadR0 dX12_readSum_4 ?_
            refine n_bipush dX12_readSum_5 (by decide) (fun r5 e5_z => ?_)
            refine q_callV1 zm_RX12_175 dX12_readSum_7 (shM_k hs) (by decide) rfl (Nat.le_of_ble_eq_true rfl) (Nat.le_of_ble_eq_true rfl) (Nat.le_of_ble_eq_true rfl) (Nat.le_of_ble_eq_true rfl) (Nat.le_of_ble_eq_true rfl) (s_X12_isSign G hs (fun r7 e7_z => ?_))
            refine t_ifne (t := 22) dX12_readSum_10 (by decide) (fun h10 => False.elim (by omega)) (fun h10 => ?_)
            refine r_aloadR0 dX12_readSum_13 ?_
            refine n_bipush dX12_readSum_14 (by decide) (fun r14 e14_z => ?_)
            refine q_callV1 zm_RX12_175 dX12_readSum_16 (shM_k hs) (by decide) rfl (Nat.le_of_ble_eq_true rfl) (Nat.le_of_ble_eq_true rfl) (Nat.le_of_ble_eq_true rfl) (Nat.le_of_ble_eq_true rfl) (Nat.le_of_ble_eq_true rfl) (s_X12_isSign G hs (fun r16 e16_z => ?_))
            refine t_ifeq (t := 55) dX12_readSum_19 (by decide) (fun h19 => False.elim (by omega)) (fun h19 => ?_)
            refine r_aloadR0 dX12_readSum_22 ?_
            refine m_getV (x := (f2_z A 10)) zf_RX12_92 rfl dX12_readSum_23 (shM_k hs) (rfl) ?_
            refine r_istore1 dX12_readSum_26 rfl ?_
            refine r_aloadR0 dX12_readSum_27 ?_
            refine q_callV0 zm_RX12_131 dX12_readSum_28 (shM_k hs) (by decide) rfl (Nat.le_of_ble_eq_true rfl) (Nat.le_of_ble_eq_true rfl) (Nat.le_of_ble_eq_true rfl) (Nat.le_of_ble_eq_true rfl) (Nat.le_of_ble_eq_true rfl) (s_X12_readsOn (p := teP B n r.2.1) G hs htp2 ht2.2.1 hte2 (fun g28 o28 t28 => ?_))
            have htp28 := tpM_of htp2 (o28.2.1 5 (by decide) (by decide) (by decide)) (o28.2.2 7 (by decide))
            have hp28 : psM B n g28 A 0 (nxP B n r.2.1) := ⟨by rw [o28.2.2 12 (by decide)]; exact hb2, fun _ => t28, fun h_z => absurd rfl h_z⟩
            have w28 : g28 (A + 2) = f2_z (A + 2) := o28.2.1 2 (by decide) (by decide) (by decide)
            refine r_aloadR0 dX12_readSum_31 ?_
            refine q_callV0 zm_RX12_184 dX12_readSum_32 (shM_k hs) (by decide) rfl (Nat.le_of_ble_eq_true rfl) (Nat.le_of_ble_eq_true rfl) (Nat.le_of_ble_eq_true rfl) (Nat.le_of_ble_eq_true rfl) (Nat.le_of_ble_eq_true rfl) (s_X12_readTerm_5 (lm := lm) (la := la) (u := u + r.2.2.length) G hs kw hld htp28 hp28 (by rw [o28.2.2 16 (by decide)]; exact hd2) (by rw [o28.2.2 17 (by decide), ofr.2.2 17 (by decide)]; exact hlm) (by rw [o28.2.2 18 (by decide), ofr.2.2 18 (by decide)]; exact hla) (by rw [w28]; exact hk3.1) h5 h29 h99 (by omega) (fun g32 o32 d32 p32 k32 => ?_))
            have of32 : frM A [2] [8, 9, 10, 11, 12, 13, 16] f g32 := frM_tr ofr (frM_tr (frM_su o28 (by decide) (by decide)) o32)
            refine r_aloadR0 dX12_readSum_35 ?_
            refine r_iload1 dX12_readSum_36 ?_
            refine n_bipush dX12_readSum_37 (by decide) (fun r37 e37 => ?_)
            refine t_icne (t := 47) dX12_readSum_39 (by decide) (fun h39 => ?_) (fun h39 => False.elim (by omega))
            refine n_bipush dX12_readSum_47 (by decide) (fun r47 e47 => ?_)
            refine q_callV1 zm_RX12_162 dX12_readSum_49 (shM_k hs) (by decide) rfl (Nat.le_of_ble_eq_true rfl) (Nat.le_of_ble_eq_true rfl) (Nat.le_of_ble_eq_true rfl) (Nat.le_of_ble_eq_true rfl) (Nat.le_of_ble_eq_true rfl) (s_X12_laysStep (lm := lm) (la := la) (u := u + r.2.2.length + ((chP B n (atP B n (if lm = 5 then 8 else 6) 5) (opT B n)) (nxP B n r.2.1)).2.2.length) G hs (by have := p32.1; rw [hq] at this; exact this) (by rw [of32.2.2 17 (by decide)]; exact hlm) (by rw [of32.2.2 18 (by decide)]; exact hla) (k32 hq).1 h5 h29 (by omega) (fun g49 o49 a49 b49 c49 => ?_))
            refine r_goto (t := 4) dX12_readSum_52 (by decide) ?_
            have hp32 := p32
            rw [hq] at hp32
            refine ih _ k2_z (0, ((chP B n (atP B n (if lm = 5 then 8 else 6) 5) (opT B n)) (nxP B n r.2.1)).2.1, r.2.2 ++ ((chP B n (atP B n (if lm = 5 then 8 else 6) 5) (opT B n)) (nxP B n r.2.1)).2.2 ++ [opS B n r.2.1]) _ (frM_tr of32 (frM_su o49 (by decide) (by decide))) (by rw [o49.2.2 16 (by decide)]; exact d32) (psM_of hp32 (o49.2.2 8 (by decide)) (o49.2.2 9 (by decide)) (o49.2.2 10 (by decide)) (o49.2.2 11 (by decide)) (o49.2.2 12 (by decide)) (o49.2.2 13 (by decide))) (fun _ => okM_ap (by omega) (by rw [List.length_append]; omega) (okM_ap (by omega) (by omega) hk3 (okM_cg (k32 hq) w28 rfl)) ?_) (fun _ => ?_) (fun _ => ?_) ?_ (by omega)
            · rw [List.length_append, ← Nat.add_assoc, hop]
              exact okM_one (by omega) a49 b49 c49 (by rw [e47]; rfl)
            · show p ≤ ((chP B n (atP B n (if lm = 5 then 8 else 6) 5) (opT B n)) (nxP B n r.2.1)).2.1 ∧ ((chP B n (atP B n (if lm = 5 then 8 else 6) 5) (opT B n)) (nxP B n r.2.1)).2.1 ≤ n ∧ (r.2.2 ++ ((chP B n (atP B n (if lm = 5 then 8 else 6) 5) (opT B n)) (nxP B n r.2.1)).2.2 ++ [opS B n r.2.1]).length + p ≤ ((chP B n (atP B n (if lm = 5 then 8 else 6) 5) (opT B n)) (nxP B n r.2.1)).2.1
              rw [List.length_append, List.length_append, List.length_singleton]
              omega
            · show n ≤ k2_z + ((chP B n (atP B n (if lm = 5 then 8 else 6) 5) (opT B n)) (nxP B n r.2.1)).2.1
              omega
            · exact (lpP_on hr hop0 hq).symm.trans hR
          · have nb : ∀ g : Nat → Nat → Int32, psM B n g A ((chP B n (atP B n (if lm = 5 then 8 else 6) 5) (opT B n)) (nxP B n r.2.1)).1 ((chP B n (atP B n (if lm = 5 then 8 else 6) 5) (opT B n)) (nxP B n r.2.1)).2.1 → (g A 12).toInt ≠ 0 := fun g h_z => by rw [h_z.1]; omega
            refine r_aloadR0 dX12_readSum_4 ?_
            refine n_bipush dX12_readSum_5 (by decide) (fun r5 e5_z => ?_)
            refine q_callV1 zm_RX12_175 dX12_readSum_7 (shM_k hs) (by decide) rfl (Nat.le_of_ble_eq_true rfl) (Nat.le_of_ble_eq_true rfl) (Nat.le_of_ble_eq_true rfl) (Nat.le_of_ble_eq_true rfl) (Nat.le_of_ble_eq_true rfl) (s_X12_isSign G hs (fun r7 e7_z => ?_))
            refine t_ifne (t := 22) dX12_readSum_10 (by decide) (fun h10 => False.elim (by omega)) (fun h10 => ?_)
            refine r_aloadR0 dX12_readSum_13 ?_
            refine n_bipush dX12_readSum_14 (by decide) (fun r14 e14_z => ?_)
            refine q_callV1 zm_RX12_175 dX12_readSum_16 (shM_k hs) (by decide) rfl (Nat.le_of_ble_eq_true rfl) (Nat.le_of_ble_eq_true rfl) (Nat.le_of_ble_eq_true rfl) (Nat.le_of_ble_eq_true rfl) (Nat.le_of_ble_eq_true rfl) (s_X12_isSign G hs (fun r16 e16_z => ?_))
            refine t_ifeq (t := 55) dX12_readSum_19 (by decide) (fun h19 => False.elim (by omega)) (fun h19 => ?_)
            refine r_aloadR0 dX12_readSum_22 ?_
            refine m_getV (x := (f2_z A 10)) zf_RX12_92 rfl dX12_readSum_23 (shM_k hs) (rfl) ?_
            refine r_istore1 dX12_readSum_26 rfl ?_
            refine r_aloadR0 dX12_readSum_27 ?_
            refine q_callV0 zm_RX12_131 dX12_readSum_28 (shM_k hs) (by decide) rfl (Nat.le_of_ble_eq_true rfl) (Nat.le_of_ble_eq_true rfl) (Nat.le_of_ble_eq_true rfl) (Nat.le_of_ble_eq_true rfl) (Nat.le_of_ble_eq_true rfl) (s_X12_readsOn (p := teP B n r.2.1) G hs htp2 ht2.2.1 hte2 (fun g28 o28 t28 => ?_))
            have htp28 := tpM_of htp2 (o28.2.1 5 (by decide) (by decide) (by decide)) (o28.2.2 7 (by decide))
            have hp28 : psM B n g28 A 0 (nxP B n r.2.1) := ⟨by rw [o28.2.2 12 (by decide)]; exact hb2, fun _ => t28, fun h_z => absurd rfl h_z⟩
            have w28 : g28 (A + 2) = f2_z (A + 2) := o28.2.1 2 (by decide) (by decide) (by decide)
            refine r_aloadR0 dX12_readSum_31 ?_
            refine q_callV0 zm_RX12_184 dX12_readSum_32 (shM_k hs) (by decide) rfl (Nat.le_of_ble_eq_true rfl) (Nat.le_of_ble_eq_true rfl) (Nat.le_of_ble_eq_true rfl) (Nat.le_of_ble_eq_true rfl) (Nat.le_of_ble_eq_true rfl) (s_X12_readTerm_5 (lm := lm) (la := la) (u := u + r.2.2.length) G hs kw hld htp28 hp28 (by rw [o28.2.2 16 (by decide)]; exact hd2) (by rw [o28.2.2 17 (by decide), ofr.2.2 17 (by decide)]; exact hlm) (by rw [o28.2.2 18 (by decide), ofr.2.2 18 (by decide)]; exact hla) (by rw [w28]; exact hk3.1) h5 h29 h99 (by omega) (fun g32 o32 d32 p32 k32 => ?_))
            have of32 : frM A [2] [8, 9, 10, 11, 12, 13, 16] f g32 := frM_tr ofr (frM_tr (frM_su o28 (by decide) (by decide)) o32)
            refine r_aloadR0 dX12_readSum_35 ?_
            refine r_iload1 dX12_readSum_36 ?_
            refine n_bipush dX12_readSum_37 (by decide) (fun r37 e37 => ?_)
            refine t_icne (t := 47) dX12_readSum_39 (by decide) (fun h39 => ?_) (fun h39 => False.elim (by omega))
            refine n_bipush dX12_readSum_47 (by decide) (fun r47 e47 => ?_)
            refine q_callV1 zm_RX12_162 dX12_readSum_49 (shM_k hs) (by decide) rfl (Nat.le_of_ble_eq_true rfl) (Nat.le_of_ble_eq_true rfl) (Nat.le_of_ble_eq_true rfl) (Nat.le_of_ble_eq_true rfl) (Nat.le_of_ble_eq_true rfl) (s_X12_laysStep_x G hs (nb _ p32) ?_)
            refine r_goto (t := 4) dX12_readSum_52 (by decide) ?_
            exact ih _ k2_z ((chP B n (atP B n (if lm = 5 then 8 else 6) 5) (opT B n)) (nxP B n r.2.1)) _ of32 d32 p32 (fun h_z => absurd h_z hq) (fun h_z => absurd h_z hq) (fun h_z => absurd h_z hq) ((lpP_bad hq).trans ((lpP_sub hr hop0 hq).symm.trans hR)) (by omega)
        have hc45 : rkP B n r.2.1 ≠ 45 := fun h_z => hc_z (hrm.mp h_z)
        have hop : opS B n r.2.1 = 0 := (if_neg hcn).trans (if_neg hc_z)
        have hv := (lpP_end (B := B) (n := n) (k := k) (sub := (chP B n (atP B n (if lm = 5 then 8 else 6) 5) (opT B n))) hop).symm.trans hR
        refine r_aloadR0 dX12_readSum_4 ?_
        refine n_bipush dX12_readSum_5 (by decide) (fun r5 e5_z => ?_)
        refine q_callV1 zm_RX12_175 dX12_readSum_7 (shM_k hs) (by decide) rfl (Nat.le_of_ble_eq_true rfl) (Nat.le_of_ble_eq_true rfl) (Nat.le_of_ble_eq_true rfl) (Nat.le_of_ble_eq_true rfl) (Nat.le_of_ble_eq_true rfl) (s_X12_isSign G hs (fun r7 e7_z => ?_))
        refine t_ifne (t := 22) dX12_readSum_10 (by decide) (fun h10 => False.elim (by omega)) (fun h10 => ?_)
        refine r_aloadR0 dX12_readSum_13 ?_
        refine n_bipush dX12_readSum_14 (by decide) (fun r14 e14_z => ?_)
        refine q_callV1 zm_RX12_175 dX12_readSum_16 (shM_k hs) (by decide) rfl (Nat.le_of_ble_eq_true rfl) (Nat.le_of_ble_eq_true rfl) (Nat.le_of_ble_eq_true rfl) (Nat.le_of_ble_eq_true rfl) (Nat.le_of_ble_eq_true rfl) (s_X12_isSign G hs (fun r16 e16_z => ?_))
        refine t_ifeq (t := 55) dX12_readSum_19 (by decide) (fun h19 => ?_) (fun h19 => False.elim (by omega))
        refine r_vret dX12_readSum_55 rfl (Nat.le_of_ble_eq_true rfl) (Nat.le_of_ble_eq_true rfl) ?_
        rw [← hv] at hQ
        exact hQ _ ofr hd2 hp2 hk2
      · have hb2 : (f2_z A 12).toInt ≠ 0 := by rw [hp2.1]; omega
        have hv := (lpP_bad (B := B) (n := n) (k := k) (sub := (chP B n (atP B n (if lm = 5 then 8 else 6) 5) (opT B n))) (op := opS B n) hr).symm.trans hR
        refine r_aloadR0 dX12_readSum_4 ?_
        refine n_bipush dX12_readSum_5 (by decide) (fun r5 e5_z => ?_)
        refine q_callV1 zm_RX12_175 dX12_readSum_7 (shM_k hs) (by decide) rfl (Nat.le_of_ble_eq_true rfl) (Nat.le_of_ble_eq_true rfl) (Nat.le_of_ble_eq_true rfl) (Nat.le_of_ble_eq_true rfl) (Nat.le_of_ble_eq_true rfl) (s_X12_isSign G hs (fun r7 e7_z => ?_))
        refine t_ifne (t := 22) dX12_readSum_10 (by decide) (fun h10 => False.elim (by omega)) (fun h10 => ?_)
        refine r_aloadR0 dX12_readSum_13 ?_
        refine n_bipush dX12_readSum_14 (by decide) (fun r14 e14_z => ?_)
        refine q_callV1 zm_RX12_175 dX12_readSum_16 (shM_k hs) (by decide) rfl (Nat.le_of_ble_eq_true rfl) (Nat.le_of_ble_eq_true rfl) (Nat.le_of_ble_eq_true rfl) (Nat.le_of_ble_eq_true rfl) (Nat.le_of_ble_eq_true rfl) (s_X12_isSign G hs (fun r16 e16_z => ?_))
        refine t_ifeq (t := 55) dX12_readSum_19 (by decide) (fun h19 => ?_) (fun h19 => False.elim (by omega))
        refine r_vret dX12_readSum_55 rfl (Nat.le_of_ble_eq_true rfl) (Nat.le_of_ble_eq_true rfl) ?_
        rw [← hv] at hQ
        exact hQ _ ofr hd2 hp2 hk2
  refine r_aloadR0 dX12_readSum_0 ?_
  refine q_callV0 zm_RX12_184 dX12_readSum_1 (shM_k hs) (by decide) rfl (Nat.le_of_ble_eq_true rfl) (Nat.le_of_ble_eq_true rfl) (Nat.le_of_ble_eq_true rfl) (Nat.le_of_ble_eq_true rfl) (Nat.le_of_ble_eq_true rfl) (s_X12_readTerm_5 G hs kw hld htp hps hd16 hlm hla hu h5 h29 h99 hup (fun g1 o1 d1 p1 k1_z => ?_))
  have gp := hgd p ht.1
  exact lp _ g1 n ((chP B n (atP B n (if lm = 5 then 8 else 6) 5) (opT B n)) p) _ o1 d1 p1 k1_z (fun h_z => ⟨Nat.le_of_lt (gp.1 h_z).1, (gp.1 h_z).2.1, (gp.1 h_z).2.2.1⟩) (fun _ => Nat.le_add_right n _) rfl (Nat.lt_succ_self n)
set_option maxHeartbeats 4000000 in
set_option maxRecDepth 100000 in
theorem s_X12_readAtom_6 {g : zGT} {w : zW} {f : Nat → Nat → Int32} {j : Nat → Nat → Int64} {A : Nat} {B : Nat → Nat} {n : Nat} {wa wv : Nat → Nat} {kq : Nat} {p lm la u : Nat} {Q : Option Value → zW → Prop} {QX : String → zW → Prop} (G : zGok g) (hs : shM w A) (kw : kWd g wa wv kq) (hld : kLd g wa) (htp : tpM B n f A) (hps : psM B n f A 0 p) (hd16 : (f A 16).toInt = 0) (hlm : (f A 17).toInt = (lm : Nat)) (hla : (f A 18).toInt = (la : Nat)) (hu : (f (A + 2) lm).toInt = (u : Nat)) (h5 : lm ≤ 5) (h29 : 209 ≤ la) (h99 : la ≤ 2009) (hup : u ≤ p) (hQ : ∀ f2_z, frM A [2] [8, 9, 10, 11, 12, 13, 16] f f2_z → (f2_z A 16).toInt = 0 → psM B n f2_z A (atP B n (if lm = 5 then 8 else 6) 6 p).1 (atP B n (if lm = 5 then 8 else 6) 6 p).2.1 → ((atP B n (if lm = 5 then 8 else 6) 6 p).1 = 0 → okM f f2_z A lm la u (atP B n (if lm = 5 then 8 else 6) 6 p).2.2) → Q none (zM w f2_z j)) : zC g 34 yX12_readAtom cX12_readAtom 3 none [.ref A] (zM w f j) (0, 0) Q QX := by
  refine zC_of G (by decide +kernel) (Nat.le_of_ble_eq_true rfl) ?_
  have ht := hps.2.1 rfl
  have h12 := hps.1
  have hte := teP_le (B := B) ht.1
  have h900 := htp.2.1
  have h10 := ht.2.2.2.1
  by_cases hf : tkP B n p = 3 ∧ fcP (wdP B n p) < (if lm = 5 then 8 else 6)
  · have hne : tkP B n p ≠ 40 := by rw [hf.1]; decide
    have hv : atP B n (if lm = 5 then 8 else 6) 6 p = (0, nxP B n p, [1000 + fcP (wdP B n p)]) := (if_neg hne).trans (a1_fact hf)
    rw [hv] at hQ
    have hpn := tk_lt (B := B) (n := n) (s := p) (by rw [hf.1]; decide)
    have hf8 : fcP (wdP B n p) < 8 := Nat.lt_of_lt_of_le hf.2 (by split <;> decide)
    refine r_aloadR0 dX12_readAtom_0 ?_
    refine m_getV (x := (f A 12)) zf_RX12_112 rfl dX12_readAtom_1 (shM_k hs) (rfl) ?_
    refine t_ifeq (t := 8) dX12_readAtom_4 (by decide) (fun h4 => ?_) (fun h4 => False.elim (by omega))
    refine r_aloadR0 dX12_readAtom_8 ?_
    refine q_callV0 zm_RX12_206 dX12_readAtom_9 (shM_k hs) (by decide) rfl (Nat.le_of_ble_eq_true rfl) (Nat.le_of_ble_eq_true rfl) (Nat.le_of_ble_eq_true rfl) (Nat.le_of_ble_eq_true rfl) (Nat.le_of_ble_eq_true rfl) (s_X12_lawWord G hs kw hld htp hps hlm (fun r9 g9 o9 a9 b9 => ?_))
    have htp9 := tpM_of htp (o9.2.1 5 (by decide) (by decide) (by decide)) (o9.2.2 7 (by decide))
    have w2 : g9 (A + 2) = f (A + 2) := o9.2.1 2 (by decide) (by decide) (by decide)
    obtain ⟨e9_z, p9⟩ := a9 hf
    have n9 := p9.1
    refine r_istore1 dX12_readAtom_12 rfl ?_
    refine r_iload1 dX12_readAtom_13 ?_
    refine n_iconst dX12_readAtom_14 (by decide) (fun r14 e14_z => ?_)
    refine t_iceq (t := 29) dX12_readAtom_15 (by decide) (fun h15 => False.elim (by omega)) (fun h15 => ?_)
    refine r_aloadR0 dX12_readAtom_18 ?_
    refine n_bipush dX12_readAtom_19 (by decide) (fun r19 e19_z => ?_)
    refine r_iload1 dX12_readAtom_21 ?_
    refine n_iadd dX12_readAtom_22 (by omega) (fun r22 e22_z => ?_)
    refine q_callV1 zm_RX12_162 dX12_readAtom_23 (shM_k hs) (by decide) rfl (Nat.le_of_ble_eq_true rfl) (Nat.le_of_ble_eq_true rfl) (Nat.le_of_ble_eq_true rfl) (Nat.le_of_ble_eq_true rfl) (Nat.le_of_ble_eq_true rfl) (s_X12_laysStep (lm := lm) (la := la) (u := u) G hs p9.1 (by rw [o9.2.2 17 (by decide)]; exact hlm) (by rw [o9.2.2 18 (by decide)]; exact hla) (by rw [w2]; exact hu) h5 h29 (by omega) (fun g23 o23 a23 b23 c23 => ?_))
    refine r_goto (t := 83) dX12_readAtom_26 (by decide) ?_
    refine r_vret dX12_readAtom_83 rfl (Nat.le_of_ble_eq_true rfl) (Nat.le_of_ble_eq_true rfl) ?_
    refine hQ _ (frM_tr (frM_su o9 (by decide) (by decide)) (frM_su o23 (by decide) (by decide))) (by rw [o23.2.2 16 (by decide), o9.2.2 16 (by decide)]; exact hd16) (psM_of p9 (o23.2.2 8 (by decide)) (o23.2.2 9 (by decide)) (o23.2.2 10 (by decide)) (o23.2.2 11 (by decide)) (o23.2.2 12 (by decide)) (o23.2.2 13 (by decide))) (fun _ => okM_cg (okM_one (by omega) a23 b23 c23 ?_) w2 rfl)
    unfold rfO
    rw [if_neg (by omega), if_pos (by omega)]
    omega
  by_cases hp : tkP B n p = 40
  · have hv : atP B n (if lm = 5 then 8 else 6) 6 p = clP B n 41 (suP B n (atP B n (if lm = 5 then 8 else 6) 5) (nxP B n p)) := if_pos hp
    rw [hv] at hQ
    have hrk := (rk4 (B := B) (n := n) (s := p) (c := 40) (by decide)).mpr hp
    have hpn := tk_lt (B := B) (n := n) (s := p) (by rw [hp]; decide)
    have hnx := nxP_gt (B := B) hpn
    by_cases hr : (suP B n (atP B n (if lm = 5 then 8 else 6) 5) (nxP B n p)).1 = 0
    · by_cases h41 : tkP B n (suP B n (atP B n (if lm = 5 then 8 else 6) 5) (nxP B n p)).2.1 = 41
      · have hv2 : clP B n 41 (suP B n (atP B n (if lm = 5 then 8 else 6) 5) (nxP B n p)) = (0, nxP B n (suP B n (atP B n (if lm = 5 then 8 else 6) 5) (nxP B n p)).2.1, (suP B n (atP B n (if lm = 5 then 8 else 6) 5) (nxP B n p)).2.2) := (if_neg (not_not_intro hr)).trans (if_pos h41)
        rw [hv2] at hQ
        refine r_aloadR0 dX12_readAtom_0 ?_
        refine m_getV (x := (f A 12)) zf_RX12_112 rfl dX12_readAtom_1 (shM_k hs) (rfl) ?_
        refine t_ifeq (t := 8) dX12_readAtom_4 (by decide) (fun h4 => ?_) (fun h4 => False.elim (by omega))
        refine r_aloadR0 dX12_readAtom_8 ?_
        refine q_callV0 zm_RX12_206 dX12_readAtom_9 (shM_k hs) (by decide) rfl (Nat.le_of_ble_eq_true rfl) (Nat.le_of_ble_eq_true rfl) (Nat.le_of_ble_eq_true rfl) (Nat.le_of_ble_eq_true rfl) (Nat.le_of_ble_eq_true rfl) (s_X12_lawWord G hs kw hld htp hps hlm (fun r9 g9 o9 a9 b9 => ?_))
        have htp9 := tpM_of htp (o9.2.1 5 (by decide) (by decide) (by decide)) (o9.2.2 7 (by decide))
        have w2 : g9 (A + 2) = f (A + 2) := o9.2.1 2 (by decide) (by decide) (by decide)
        obtain ⟨e9_z, p9⟩ := b9 hf
        have n9 := p9.1
        have t9 := p9.2.1 rfl
        have k9 := t9.2.2.2.1
        have d9 : (g9 A 16).toInt = 0 := by rw [o9.2.2 16 (by decide)]; exact hd16
        refine r_istore1 dX12_readAtom_12 rfl ?_
        refine r_iload1 dX12_readAtom_13 ?_
        refine n_iconst dX12_readAtom_14 (by decide) (fun r14 e14_z => ?_)
        refine t_iceq (t := 29) dX12_readAtom_15 (by decide) (fun h15 => ?_) (fun h15 => False.elim (by omega))
        refine r_aloadR0 dX12_readAtom_29 ?_
        refine n_bipush dX12_readAtom_30 (by decide) (fun r30 e30 => ?_)
        refine q_callV1 zm_RX12_175 dX12_readAtom_32 (shM_k hs) (by decide) rfl (Nat.le_of_ble_eq_true rfl) (Nat.le_of_ble_eq_true rfl) (Nat.le_of_ble_eq_true rfl) (Nat.le_of_ble_eq_true rfl) (Nat.le_of_ble_eq_true rfl) (s_X12_isSign G hs (fun r32 e32 => ?_))
        refine t_ifeq (t := 65) dX12_readAtom_35 (by decide) (fun h35 => False.elim (by omega)) (fun h35 => ?_)
        refine r_aloadR0 dX12_readAtom_38 ?_
        refine q_callV0 zm_RX12_172 dX12_readAtom_39 (shM_k hs) (by decide) rfl (Nat.le_of_ble_eq_true rfl) (Nat.le_of_ble_eq_true rfl) (Nat.le_of_ble_eq_true rfl) (Nat.le_of_ble_eq_true rfl) (Nat.le_of_ble_eq_true rfl) (s_X12_goesIn (d := 0) G hs htp9 p9 d9 (by decide) (by rw [hp]; decide) (fun g39 o39 a39 b39 c39 => ?_))
        have p39 := c39 (by decide)
        have htp39 := tpM_of htp9 (o39.2.1 5 (by decide) (by decide) (by decide)) (o39.2.2 7 (by decide))
        have w39 : g39 (A + 2) = f (A + 2) := (o39.2.1 2 (by decide) (by decide) (by decide)).trans w2
        refine r_aloadR0 dX12_readAtom_42 ?_
        refine q_callV0 zm_RX12_181 dX12_readAtom_43 (shM_k hs) (by decide) rfl (Nat.le_of_ble_eq_true rfl) (Nat.le_of_ble_eq_true rfl) (Nat.le_of_ble_eq_true rfl) (Nat.le_of_ble_eq_true rfl) (Nat.le_of_ble_eq_true rfl) (s_X12_readSum_5 (lm := lm) (la := la) (u := u) G hs kw hld htp39 p39 (by rw [a39]; rfl) (by rw [o39.2.2 17 (by decide), o9.2.2 17 (by decide)]; exact hlm) (by rw [o39.2.2 18 (by decide), o9.2.2 18 (by decide)]; exact hla) (by rw [w39]; exact hu) h5 h29 h99 (by omega) (fun g43 o43 d43 p43 k43 => ?_))
        have p43b : psM B n g43 A (suP B n (atP B n (if lm = 5 then 8 else 6) 5) (nxP B n p)).1 (suP B n (atP B n (if lm = 5 then 8 else 6) 5) (nxP B n p)).2.1 := p43
        have of43 : frM A [2] [8, 9, 10, 11, 12, 13, 16] f g43 := frM_tr (frM_tr (frM_su o9 (by decide) (by decide)) (frM_su o39 (by decide) (by decide))) o43
        have htp43 := tpM_of htp (of43.2.1 5 (by decide) (by decide) (by decide)) (of43.2.2 7 (by decide))
        have p43c := p43b
        rw [hr] at p43c
        refine r_aloadR0 dX12_readAtom_46 ?_
        refine n_bipush dX12_readAtom_47 (by decide) (fun r47 e47 => ?_)
        refine q_callV1 zm_RX12_151 dX12_readAtom_49 (shM_k hs) (by decide) rfl (Nat.le_of_ble_eq_true rfl) (Nat.le_of_ble_eq_true rfl) (Nat.le_of_ble_eq_true rfl) (Nat.le_of_ble_eq_true rfl) (Nat.le_of_ble_eq_true rfl) (s_X12_mustSign (p := (suP B n (atP B n (if lm = 5 then 8 else 6) 5) (nxP B n p)).2.1) (c := 41) G hs htp43 p43c e47 (by decide) (fun g49 o49 a49 b49 => ?_))
        have d49 : (g49 A 16).toInt = 1 := by rw [o49.2.2 16 (by decide)]; exact d43
        refine r_aloadR0 dX12_readAtom_52 ?_
        refine r_dup dX12_readAtom_53 rfl ?_
        refine m_getV (x := (g49 A 16)) zf_RX12_154 rfl dX12_readAtom_54 (shM_k hs) (rfl) ?_
        refine n_iconst dX12_readAtom_57 (by decide) (fun r57 e57 => ?_)
        refine n_isub dX12_readAtom_58 (by omega) (fun r58 e58 => ?_)
        refine m_putI zf_RX12_154 (by intro C T N h_z; cases h_z; rfl) rfl dX12_readAtom_59 (shM_k hs) ?_
        obtain ⟨g59, hg59⟩ : ∃ g9, g9 = zu g49 A 16 r58 := ⟨_, rfl⟩
        rw [← hg59]
        have og59 : frM A [] [16] g49 g59 := by rw [hg59]; exact frM_zk frM_rf (by decide)
        have vg59 : g59 A 16 = r58 := by rw [hg59]; exact zu_at
        have vt59 : (g59 A 16).toInt = r58.toInt := by rw [vg59]
        refine r_goto (t := 83) dX12_readAtom_62 (by decide) ?_
        refine r_vret dX12_readAtom_83 rfl (Nat.le_of_ble_eq_true rfl) (Nat.le_of_ble_eq_true rfl) ?_
        exact hQ _ (frM_tr (frM_tr of43 (frM_su o49 (by decide) (by decide))) (frM_su og59 (by decide) (by decide))) (by rw [vt59]; omega) (psM_of (a49 h41) (og59.2.2 8 (by decide)) (og59.2.2 9 (by decide)) (og59.2.2 10 (by decide)) (og59.2.2 11 (by decide)) (og59.2.2 12 (by decide)) (og59.2.2 13 (by decide))) (fun _ => okM_cg (k43 hr) w39 ((og59.2.1 2 (by decide) (by decide) (by decide)).trans (o49.2.1 2 (by decide) (by decide) (by decide))))
      · have hv2 : clP B n 41 (suP B n (atP B n (if lm = 5 then 8 else 6) 5) (nxP B n p)) = (baP B n (suP B n (atP B n (if lm = 5 then 8 else 6) 5) (nxP B n p)).2.1, (suP B n (atP B n (if lm = 5 then 8 else 6) 5) (nxP B n p)).2.1, []) := (if_neg (not_not_intro hr)).trans (if_neg h41)
        rw [hv2] at hQ
        refine r_aloadR0 dX12_readAtom_0 ?_
        refine m_getV (x := (f A 12)) zf_RX12_112 rfl dX12_readAtom_1 (shM_k hs) (rfl) ?_
        refine t_ifeq (t := 8) dX12_readAtom_4 (by decide) (fun h4 => ?_) (fun h4 => False.elim (by omega))
        refine r_aloadR0 dX12_readAtom_8 ?_
        refine q_callV0 zm_RX12_206 dX12_readAtom_9 (shM_k hs) (by decide) rfl (Nat.le_of_ble_eq_true rfl) (Nat.le_of_ble_eq_true rfl) (Nat.le_of_ble_eq_true rfl) (Nat.le_of_ble_eq_true rfl) (Nat.le_of_ble_eq_true rfl) (s_X12_lawWord G hs kw hld htp hps hlm (fun r9 g9 o9 a9 b9 => ?_))
        have htp9 := tpM_of htp (o9.2.1 5 (by decide) (by decide) (by decide)) (o9.2.2 7 (by decide))
        have w2 : g9 (A + 2) = f (A + 2) := o9.2.1 2 (by decide) (by decide) (by decide)
        obtain ⟨e9_z, p9⟩ := b9 hf
        have n9 := p9.1
        have t9 := p9.2.1 rfl
        have k9 := t9.2.2.2.1
        have d9 : (g9 A 16).toInt = 0 := by rw [o9.2.2 16 (by decide)]; exact hd16
        refine r_istore1 dX12_readAtom_12 rfl ?_
        refine r_iload1 dX12_readAtom_13 ?_
        refine n_iconst dX12_readAtom_14 (by decide) (fun r14 e14_z => ?_)
        refine t_iceq (t := 29) dX12_readAtom_15 (by decide) (fun h15 => ?_) (fun h15 => False.elim (by omega))
        refine r_aloadR0 dX12_readAtom_29 ?_
        refine n_bipush dX12_readAtom_30 (by decide) (fun r30 e30 => ?_)
        refine q_callV1 zm_RX12_175 dX12_readAtom_32 (shM_k hs) (by decide) rfl (Nat.le_of_ble_eq_true rfl) (Nat.le_of_ble_eq_true rfl) (Nat.le_of_ble_eq_true rfl) (Nat.le_of_ble_eq_true rfl) (Nat.le_of_ble_eq_true rfl) (s_X12_isSign G hs (fun r32 e32 => ?_))
        refine t_ifeq (t := 65) dX12_readAtom_35 (by decide) (fun h35 => False.elim (by omega)) (fun h35 => ?_)
        refine r_aloadR0 dX12_readAtom_38 ?_
        refine q_callV0 zm_RX12_172 dX12_readAtom_39 (shM_k hs) (by decide) rfl (Nat.le_of_ble_eq_true rfl) (Nat.le_of_ble_eq_true rfl) (Nat.le_of_ble_eq_true rfl) (Nat.le_of_ble_eq_true rfl) (Nat.le_of_ble_eq_true rfl) (s_X12_goesIn (d := 0) G hs htp9 p9 d9 (by decide) (by rw [hp]; decide) (fun g39 o39 a39 b39 c39 => ?_))
        have p39 := c39 (by decide)
        have htp39 := tpM_of htp9 (o39.2.1 5 (by decide) (by decide) (by decide)) (o39.2.2 7 (by decide))
        have w39 : g39 (A + 2) = f (A + 2) := (o39.2.1 2 (by decide) (by decide) (by decide)).trans w2
        refine r_aloadR0 dX12_readAtom_42 ?_
        refine q_callV0 zm_RX12_181 dX12_readAtom_43 (shM_k hs) (by decide) rfl (Nat.le_of_ble_eq_true rfl) (Nat.le_of_ble_eq_true rfl) (Nat.le_of_ble_eq_true rfl) (Nat.le_of_ble_eq_true rfl) (Nat.le_of_ble_eq_true rfl) (s_X12_readSum_5 (lm := lm) (la := la) (u := u) G hs kw hld htp39 p39 (by rw [a39]; rfl) (by rw [o39.2.2 17 (by decide), o9.2.2 17 (by decide)]; exact hlm) (by rw [o39.2.2 18 (by decide), o9.2.2 18 (by decide)]; exact hla) (by rw [w39]; exact hu) h5 h29 h99 (by omega) (fun g43 o43 d43 p43 k43 => ?_))
        have p43b : psM B n g43 A (suP B n (atP B n (if lm = 5 then 8 else 6) 5) (nxP B n p)).1 (suP B n (atP B n (if lm = 5 then 8 else 6) 5) (nxP B n p)).2.1 := p43
        have of43 : frM A [2] [8, 9, 10, 11, 12, 13, 16] f g43 := frM_tr (frM_tr (frM_su o9 (by decide) (by decide)) (frM_su o39 (by decide) (by decide))) o43
        have htp43 := tpM_of htp (of43.2.1 5 (by decide) (by decide) (by decide)) (of43.2.2 7 (by decide))
        have p43c := p43b
        rw [hr] at p43c
        refine r_aloadR0 dX12_readAtom_46 ?_
        refine n_bipush dX12_readAtom_47 (by decide) (fun r47 e47 => ?_)
        refine q_callV1 zm_RX12_151 dX12_readAtom_49 (shM_k hs) (by decide) rfl (Nat.le_of_ble_eq_true rfl) (Nat.le_of_ble_eq_true rfl) (Nat.le_of_ble_eq_true rfl) (Nat.le_of_ble_eq_true rfl) (Nat.le_of_ble_eq_true rfl) (s_X12_mustSign (p := (suP B n (atP B n (if lm = 5 then 8 else 6) 5) (nxP B n p)).2.1) (c := 41) G hs htp43 p43c e47 (by decide) (fun g49 o49 a49 b49 => ?_))
        have d49 : (g49 A 16).toInt = 1 := by rw [o49.2.2 16 (by decide)]; exact d43
        refine r_aloadR0 dX12_readAtom_52 ?_
        refine r_dup dX12_readAtom_53 rfl ?_
        refine m_getV (x := (g49 A 16)) zf_RX12_154 rfl dX12_readAtom_54 (shM_k hs) (rfl) ?_
        refine n_iconst dX12_readAtom_57 (by decide) (fun r57 e57 => ?_)
        refine n_isub dX12_readAtom_58 (by omega) (fun r58 e58 => ?_)
        refine m_putI zf_RX12_154 (by intro C T N h_z; cases h_z; rfl) rfl dX12_readAtom_59 (shM_k hs) ?_
        obtain ⟨g59, hg59⟩ : ∃ g9, g9 = zu g49 A 16 r58 := ⟨_, rfl⟩
        rw [← hg59]
        have og59 : frM A [] [16] g49 g59 := by rw [hg59]; exact frM_zk frM_rf (by decide)
        have vg59 : g59 A 16 = r58 := by rw [hg59]; exact zu_at
        have vt59 : (g59 A 16).toInt = r58.toInt := by rw [vg59]
        refine r_goto (t := 83) dX12_readAtom_62 (by decide) ?_
        refine r_vret dX12_readAtom_83 rfl (Nat.le_of_ble_eq_true rfl) (Nat.le_of_ble_eq_true rfl) ?_
        exact hQ _ (frM_tr (frM_tr of43 (frM_su o49 (by decide) (by decide))) (frM_su og59 (by decide) (by decide))) (by rw [vt59]; omega) (psM_of (b49 h41) (og59.2.2 8 (by decide)) (og59.2.2 9 (by decide)) (og59.2.2 10 (by decide)) (og59.2.2 11 (by decide)) (og59.2.2 12 (by decide)) (og59.2.2 13 (by decide))) (fun h_z => absurd h_z ba_bd.1)
    · have hv2 : clP B n 41 (suP B n (atP B n (if lm = 5 then 8 else 6) 5) (nxP B n p)) = (suP B n (atP B n (if lm = 5 then 8 else 6) 5) (nxP B n p)) := if_pos hr
      rw [hv2] at hQ
      refine r_aloadR0 dX12_readAtom_0 ?_
      refine m_getV (x := (f A 12)) zf_RX12_112 rfl dX12_readAtom_1 (shM_k hs) (rfl) ?_
      refine t_ifeq (t := 8) dX12_readAtom_4 (by decide) (fun h4 => ?_) (fun h4 => False.elim (by omega))
      refine r_aloadR0 dX12_readAtom_8 ?_
      refine q_callV0 zm_RX12_206 dX12_readAtom_9 (shM_k hs) (by decide) rfl (Nat.le_of_ble_eq_true rfl) (Nat.le_of_ble_eq_true rfl) (Nat.le_of_ble_eq_true rfl) (Nat.le_of_ble_eq_true rfl) (Nat.le_of_ble_eq_true rfl) (s_X12_lawWord G hs kw hld htp hps hlm (fun r9 g9 o9 a9 b9 => ?_))
      have htp9 := tpM_of htp (o9.2.1 5 (by decide) (by decide) (by decide)) (o9.2.2 7 (by decide))
      have w2 : g9 (A + 2) = f (A + 2) := o9.2.1 2 (by decide) (by decide) (by decide)
      obtain ⟨e9_z, p9⟩ := b9 hf
      have n9 := p9.1
      have t9 := p9.2.1 rfl
      have k9 := t9.2.2.2.1
      have d9 : (g9 A 16).toInt = 0 := by rw [o9.2.2 16 (by decide)]; exact hd16
      refine r_istore1 dX12_readAtom_12 rfl ?_
      refine r_iload1 dX12_readAtom_13 ?_
      refine n_iconst dX12_readAtom_14 (by decide) (fun r14 e14_z => ?_)
      refine t_iceq (t := 29) dX12_readAtom_15 (by decide) (fun h15 => ?_) (fun h15 => False.elim (by omega))
      refine r_aloadR0 dX12_readAtom_29 ?_
      refine n_bipush dX12_readAtom_30 (by decide) (fun r30 e30 => ?_)
      refine q_callV1 zm_RX12_175 dX12_readAtom_32 (shM_k hs) (by decide) rfl (Nat.le_of_ble_eq_true rfl) (Nat.le_of_ble_eq_true rfl) (Nat.le_of_ble_eq_true rfl) (Nat.le_of_ble_eq_true rfl) (Nat.le_of_ble_eq_true rfl) (s_X12_isSign G hs (fun r32 e32 => ?_))
      refine t_ifeq (t := 65) dX12_readAtom_35 (by decide) (fun h35 => False.elim (by omega)) (fun h35 => ?_)
      refine r_aloadR0 dX12_readAtom_38 ?_
      refine q_callV0 zm_RX12_172 dX12_readAtom_39 (shM_k hs) (by decide) rfl (Nat.le_of_ble_eq_true rfl) (Nat.le_of_ble_eq_true rfl) (Nat.le_of_ble_eq_true rfl) (Nat.le_of_ble_eq_true rfl) (Nat.le_of_ble_eq_true rfl) (s_X12_goesIn (d := 0) G hs htp9 p9 d9 (by decide) (by rw [hp]; decide) (fun g39 o39 a39 b39 c39 => ?_))
      have p39 := c39 (by decide)
      have htp39 := tpM_of htp9 (o39.2.1 5 (by decide) (by decide) (by decide)) (o39.2.2 7 (by decide))
      have w39 : g39 (A + 2) = f (A + 2) := (o39.2.1 2 (by decide) (by decide) (by decide)).trans w2
      refine r_aloadR0 dX12_readAtom_42 ?_
      refine q_callV0 zm_RX12_181 dX12_readAtom_43 (shM_k hs) (by decide) rfl (Nat.le_of_ble_eq_true rfl) (Nat.le_of_ble_eq_true rfl) (Nat.le_of_ble_eq_true rfl) (Nat.le_of_ble_eq_true rfl) (Nat.le_of_ble_eq_true rfl) (s_X12_readSum_5 (lm := lm) (la := la) (u := u) G hs kw hld htp39 p39 (by rw [a39]; rfl) (by rw [o39.2.2 17 (by decide), o9.2.2 17 (by decide)]; exact hlm) (by rw [o39.2.2 18 (by decide), o9.2.2 18 (by decide)]; exact hla) (by rw [w39]; exact hu) h5 h29 h99 (by omega) (fun g43 o43 d43 p43 k43 => ?_))
      have p43b : psM B n g43 A (suP B n (atP B n (if lm = 5 then 8 else 6) 5) (nxP B n p)).1 (suP B n (atP B n (if lm = 5 then 8 else 6) 5) (nxP B n p)).2.1 := p43
      have of43 : frM A [2] [8, 9, 10, 11, 12, 13, 16] f g43 := frM_tr (frM_tr (frM_su o9 (by decide) (by decide)) (frM_su o39 (by decide) (by decide))) o43
      have htp43 := tpM_of htp (of43.2.1 5 (by decide) (by decide) (by decide)) (of43.2.2 7 (by decide))
      have nb : (g43 A 12).toInt ≠ 0 := by rw [p43b.1]; omega
      have d43b : (g43 A 16).toInt = 1 := d43
      refine r_aloadR0 dX12_readAtom_46 ?_
      refine n_bipush dX12_readAtom_47 (by decide) (fun r47 e47 => ?_)
      refine q_callV1 zm_RX12_151 dX12_readAtom_49 (shM_k hs) (by decide) rfl (Nat.le_of_ble_eq_true rfl) (Nat.le_of_ble_eq_true rfl) (Nat.le_of_ble_eq_true rfl) (Nat.le_of_ble_eq_true rfl) (Nat.le_of_ble_eq_true rfl) (s_X12_mustSign_x G hs nb ?_)
      refine r_aloadR0 dX12_readAtom_52 ?_
      refine r_dup dX12_readAtom_53 rfl ?_
      refine m_getV (x := (g43 A 16)) zf_RX12_154 rfl dX12_readAtom_54 (shM_k hs) (rfl) ?_
      refine n_iconst dX12_readAtom_57 (by decide) (fun r57 e57 => ?_)
      refine n_isub dX12_readAtom_58 (by omega) (fun r58 e58 => ?_)
      refine m_putI zf_RX12_154 (by intro C T N h_z; cases h_z; rfl) rfl dX12_readAtom_59 (shM_k hs) ?_
      obtain ⟨g59, hg59⟩ : ∃ g9, g9 = zu g43 A 16 r58 := ⟨_, rfl⟩
      rw [← hg59]
      have og59 : frM A [] [16] g43 g59 := by rw [hg59]; exact frM_zk frM_rf (by decide)
      have vg59 : g59 A 16 = r58 := by rw [hg59]; exact zu_at
      have vt59 : (g59 A 16).toInt = r58.toInt := by rw [vg59]
      refine r_goto (t := 83) dX12_readAtom_62 (by decide) ?_
      refine r_vret dX12_readAtom_83 rfl (Nat.le_of_ble_eq_true rfl) (Nat.le_of_ble_eq_true rfl) ?_
      exact hQ _ (frM_tr of43 (frM_su og59 (by decide) (by decide))) (by rw [vt59]; omega) (psM_of p43b (og59.2.2 8 (by decide)) (og59.2.2 9 (by decide)) (og59.2.2 10 (by decide)) (og59.2.2 11 (by decide)) (og59.2.2 12 (by decide)) (og59.2.2 13 (by decide))) (fun h_z => absurd h_z hr)
  have hrk : rkP B n p ≠ 40 := fun h_z => hp ((rk4 (B := B) (n := n) (s := p) (c := 40) (by decide)).mp h_z)
  have hv0 : atP B n (if lm = 5 then 8 else 6) 6 p = a1P B n (if lm = 5 then 8 else 6) p := if_neg hp
  by_cases h2 : tkP B n p = 2
  · have hv : atP B n (if lm = 5 then 8 else 6) 6 p = (0, nxP B n p, [nmP B n p]) := hv0.trans (a1_num h2)
    rw [hv] at hQ
    have hpn := (tk2 h2).1
    have hnm := nm_bd h2
    have hnu : nuH B n 999 p = (0, nxP B n p, nmP B n p) := by unfold nuH; rw [if_pos h2, if_neg (by omega)]
    refine r_aloadR0 dX12_readAtom_0 ?_
    refine m_getV (x := (f A 12)) zf_RX12_112 rfl dX12_readAtom_1 (shM_k hs) (rfl) ?_
    refine t_ifeq (t := 8) dX12_readAtom_4 (by decide) (fun h4 => ?_) (fun h4 => False.elim (by omega))
    refine r_aloadR0 dX12_readAtom_8 ?_
    refine q_callV0 zm_RX12_206 dX12_readAtom_9 (shM_k hs) (by decide) rfl (Nat.le_of_ble_eq_true rfl) (Nat.le_of_ble_eq_true rfl) (Nat.le_of_ble_eq_true rfl) (Nat.le_of_ble_eq_true rfl) (Nat.le_of_ble_eq_true rfl) (s_X12_lawWord G hs kw hld htp hps hlm (fun r9 g9 o9 a9 b9 => ?_))
    have htp9 := tpM_of htp (o9.2.1 5 (by decide) (by decide) (by decide)) (o9.2.2 7 (by decide))
    have w2 : g9 (A + 2) = f (A + 2) := o9.2.1 2 (by decide) (by decide) (by decide)
    obtain ⟨e9_z, p9⟩ := b9 hf
    have n9 := p9.1
    have t9 := p9.2.1 rfl
    have k9 := t9.2.2.2.1
    have d9 : (g9 A 16).toInt = 0 := by rw [o9.2.2 16 (by decide)]; exact hd16
    refine r_istore1 dX12_readAtom_12 rfl ?_
    refine r_iload1 dX12_readAtom_13 ?_
    refine n_iconst dX12_readAtom_14 (by decide) (fun r14 e14_z => ?_)
    refine t_iceq (t := 29) dX12_readAtom_15 (by decide) (fun h15 => ?_) (fun h15 => False.elim (by omega))
    refine r_aloadR0 dX12_readAtom_29 ?_
    refine n_bipush dX12_readAtom_30 (by decide) (fun r30 e30 => ?_)
    refine q_callV1 zm_RX12_175 dX12_readAtom_32 (shM_k hs) (by decide) rfl (Nat.le_of_ble_eq_true rfl) (Nat.le_of_ble_eq_true rfl) (Nat.le_of_ble_eq_true rfl) (Nat.le_of_ble_eq_true rfl) (Nat.le_of_ble_eq_true rfl) (s_X12_isSign G hs (fun r32 e32 => ?_))
    refine t_ifeq (t := 65) dX12_readAtom_35 (by decide) (fun h35 => ?_) (fun h35 => False.elim (by omega))
    refine r_aloadR0 dX12_readAtom_65 ?_
    refine n_iconst dX12_readAtom_66 (by decide) (fun r66 e66 => ?_)
    refine n_sipush dX12_readAtom_67 (by decide) (fun r67 e67 => ?_)
    refine q_callV2 zm_RX12_209 dX12_readAtom_70 (shM_k hs) (by decide) rfl (Nat.le_of_ble_eq_true rfl) (Nat.le_of_ble_eq_true rfl) (Nat.le_of_ble_eq_true rfl) (Nat.le_of_ble_eq_true rfl) (Nat.le_of_ble_eq_true rfl) (s_X12_number (p := p) (h_z := 999) G hs htp9 p9 e66 e67 (fun r70 g70 o70 a70 b70 c70 => ?_))
    rw [hnu] at a70 b70
    have e70 : r70.toInt = (nmP B n p : Nat) := b70 rfl
    have w3 : g70 (A + 2) = f (A + 2) := (o70.2.1 2 (by decide) (by decide) (by decide)).trans w2
    refine r_istore2 dX12_readAtom_73 rfl ?_
    refine r_aloadR0 dX12_readAtom_74 ?_
    refine n_sipush dX12_readAtom_75 (by decide) (fun r75 e75 => ?_)
    refine r_iload2 dX12_readAtom_78 ?_
    refine n_iadd dX12_readAtom_79 (by omega) (fun r79 e79 => ?_)
    refine q_callV1 zm_RX12_162 dX12_readAtom_80 (shM_k hs) (by decide) rfl (Nat.le_of_ble_eq_true rfl) (Nat.le_of_ble_eq_true rfl) (Nat.le_of_ble_eq_true rfl) (Nat.le_of_ble_eq_true rfl) (Nat.le_of_ble_eq_true rfl) (s_X12_laysStep (lm := lm) (la := la) (u := u) G hs a70.1 (by rw [o70.2.2 17 (by decide), o9.2.2 17 (by decide)]; exact hlm) (by rw [o70.2.2 18 (by decide), o9.2.2 18 (by decide)]; exact hla) (by rw [w3]; exact hu) h5 h29 (by omega) (fun g80 o80 a80 b80 c80 => ?_))
    refine r_vret dX12_readAtom_83 rfl (Nat.le_of_ble_eq_true rfl) (Nat.le_of_ble_eq_true rfl) ?_
    refine hQ _ (frM_tr (frM_tr (frM_su o9 (by decide) (by decide)) (frM_su o70 (by decide) (by decide))) (frM_su o80 (by decide) (by decide))) (by rw [o80.2.2 16 (by decide), o70.2.2 16 (by decide)]; exact d9) (psM_of a70 (o80.2.2 8 (by decide)) (o80.2.2 9 (by decide)) (o80.2.2 10 (by decide)) (o80.2.2 11 (by decide)) (o80.2.2 12 (by decide)) (o80.2.2 13 (by decide))) (fun _ => okM_cg (okM_one (by omega) a80 b80 c80 ?_) w3 rfl)
    unfold rfO
    rw [if_pos (by omega)]
    omega
  · have hv : atP B n (if lm = 5 then 8 else 6) 6 p = (baP B n p, p, []) := hv0.trans (a1_bad h2 hf)
    rw [hv] at hQ
    have hba := ba_bd (B := B) (n := n) (s := p)
    have hnu : nuH B n 999 p = (baP B n p, p, 0) := by unfold nuH; rw [if_neg h2]
    refine r_aloadR0 dX12_readAtom_0 ?_
    refine m_getV (x := (f A 12)) zf_RX12_112 rfl dX12_readAtom_1 (shM_k hs) (rfl) ?_
    refine t_ifeq (t := 8) dX12_readAtom_4 (by decide) (fun h4 => ?_) (fun h4 => False.elim (by omega))
    refine r_aloadR0 dX12_readAtom_8 ?_
    refine q_callV0 zm_RX12_206 dX12_readAtom_9 (shM_k hs) (by decide) rfl (Nat.le_of_ble_eq_true rfl) (Nat.le_of_ble_eq_true rfl) (Nat.le_of_ble_eq_true rfl) (Nat.le_of_ble_eq_true rfl) (Nat.le_of_ble_eq_true rfl) (s_X12_lawWord G hs kw hld htp hps hlm (fun r9 g9 o9 a9 b9 => ?_))
    have htp9 := tpM_of htp (o9.2.1 5 (by decide) (by decide) (by decide)) (o9.2.2 7 (by decide))
    have w2 : g9 (A + 2) = f (A + 2) := o9.2.1 2 (by decide) (by decide) (by decide)
    obtain ⟨e9_z, p9⟩ := b9 hf
    have n9 := p9.1
    have t9 := p9.2.1 rfl
    have k9 := t9.2.2.2.1
    have d9 : (g9 A 16).toInt = 0 := by rw [o9.2.2 16 (by decide)]; exact hd16
    refine r_istore1 dX12_readAtom_12 rfl ?_
    refine r_iload1 dX12_readAtom_13 ?_
    refine n_iconst dX12_readAtom_14 (by decide) (fun r14 e14_z => ?_)
    refine t_iceq (t := 29) dX12_readAtom_15 (by decide) (fun h15 => ?_) (fun h15 => False.elim (by omega))
    refine r_aloadR0 dX12_readAtom_29 ?_
    refine n_bipush dX12_readAtom_30 (by decide) (fun r30 e30 => ?_)
    refine q_callV1 zm_RX12_175 dX12_readAtom_32 (shM_k hs) (by decide) rfl (Nat.le_of_ble_eq_true rfl) (Nat.le_of_ble_eq_true rfl) (Nat.le_of_ble_eq_true rfl) (Nat.le_of_ble_eq_true rfl) (Nat.le_of_ble_eq_true rfl) (s_X12_isSign G hs (fun r32 e32 => ?_))
    refine t_ifeq (t := 65) dX12_readAtom_35 (by decide) (fun h35 => ?_) (fun h35 => False.elim (by omega))
    refine r_aloadR0 dX12_readAtom_65 ?_
    refine n_iconst dX12_readAtom_66 (by decide) (fun r66 e66 => ?_)
    refine n_sipush dX12_readAtom_67 (by decide) (fun r67 e67 => ?_)
    refine q_callV2 zm_RX12_209 dX12_readAtom_70 (shM_k hs) (by decide) rfl (Nat.le_of_ble_eq_true rfl) (Nat.le_of_ble_eq_true rfl) (Nat.le_of_ble_eq_true rfl) (Nat.le_of_ble_eq_true rfl) (Nat.le_of_ble_eq_true rfl) (s_X12_number (p := p) (h_z := 999) G hs htp9 p9 e66 e67 (fun r70 g70 o70 a70 b70 c70 => ?_))
    rw [hnu] at a70 c70
    have e70 : r70.toInt = 0 := c70 hba.1
    have nb : (g70 A 12).toInt ≠ 0 := by rw [a70.1]; have := hba.1; omega
    refine r_istore2 dX12_readAtom_73 rfl ?_
    refine r_aloadR0 dX12_readAtom_74 ?_
    refine n_sipush dX12_readAtom_75 (by decide) (fun r75 e75 => ?_)
    refine r_iload2 dX12_readAtom_78 ?_
    refine n_iadd dX12_readAtom_79 (by omega) (fun r79 e79 => ?_)
    refine q_callV1 zm_RX12_162 dX12_readAtom_80 (shM_k hs) (by decide) rfl (Nat.le_of_ble_eq_true rfl) (Nat.le_of_ble_eq_true rfl) (Nat.le_of_ble_eq_true rfl) (Nat.le_of_ble_eq_true rfl) (Nat.le_of_ble_eq_true rfl) (s_X12_laysStep_x G hs nb ?_)
    refine r_vret dX12_readAtom_83 rfl (Nat.le_of_ble_eq_true rfl) (Nat.le_of_ble_eq_true rfl) ?_
    exact hQ _ (frM_tr (frM_su o9 (by decide) (by decide)) (frM_su o70 (by decide) (by decide))) (by rw [o70.2.2 16 (by decide)]; exact d9) a70 (fun h_z => absurd h_z hba.1)
set_option maxHeartbeats 4000000 in
set_option maxRecDepth 100000 in
theorem s_X12_readTerm_6 {g : zGT} {w : zW} {f : Nat → Nat → Int32} {j : Nat → Nat → Int64} {A : Nat} {B : Nat → Nat} {n : Nat} {wa wv : Nat → Nat} {kq : Nat} {p lm la u : Nat} {Q : Option Value → zW → Prop} {QX : String → zW → Prop} (G : zGok g) (hs : shM w A) (kw : kWd g wa wv kq) (hld : kLd g wa) (htp : tpM B n f A) (hps : psM B n f A 0 p) (hd16 : (f A 16).toInt = 0) (hlm : (f A 17).toInt = (lm : Nat)) (hla : (f A 18).toInt = (la : Nat)) (hu : (f (A + 2) lm).toInt = (u : Nat)) (h5 : lm ≤ 5) (h29 : 209 ≤ la) (h99 : la ≤ 2009) (hup : u ≤ p) (hQ : ∀ f2_z, frM A [2] [8, 9, 10, 11, 12, 13, 16] f f2_z → (f2_z A 16).toInt = 0 → psM B n f2_z A (chP B n (atP B n (if lm = 5 then 8 else 6) 6) (opT B n) p).1 (chP B n (atP B n (if lm = 5 then 8 else 6) 6) (opT B n) p).2.1 → ((chP B n (atP B n (if lm = 5 then 8 else 6) 6) (opT B n) p).1 = 0 → okM f f2_z A lm la u (chP B n (atP B n (if lm = 5 then 8 else 6) 6) (opT B n) p).2.2) → Q none (zM w f2_z j)) : zC g 35 yX12_readTerm cX12_readTerm 1 none [.ref A] (zM w f j) (0, 0) Q QX := by
  refine zC_of G (by decide +kernel) (Nat.le_of_ble_eq_true rfl) ?_
  have ht := hps.2.1 rfl
  have h12 := hps.1
  have h900 := htp.2.1
  have hgd : ∀ s, s ≤ n → gdP n false (if lm = 5 then 8 else 6) (1 + 2 * 6) s ((atP B n (if lm = 5 then 8 else 6) 6) s) := gd_at (by split <;> decide) 6
  have lp : ∀ (mz : Nat) (f2_z : Nat → Nat → Int32) (k : Nat) (r : zPR), frM A [2] [8, 9, 10, 11, 12, 13, 16] f f2_z → (f2_z A 16).toInt = 0 → psM B n f2_z A r.1 r.2.1 → (r.1 = 0 → okM f f2_z A lm la u r.2.2) → (r.1 = 0 → p ≤ r.2.1 ∧ r.2.1 ≤ n ∧ r.2.2.length + p ≤ r.2.1) → (r.1 = 0 → n ≤ k + r.2.1) → lpP B n (atP B n (if lm = 5 then 8 else 6) 6) (opT B n) k r = chP B n (atP B n (if lm = 5 then 8 else 6) 6) (opT B n) p → k < mz → zR (zV g 35 yX12_readTerm 1 none (0, 0) Q QX) cX12_readTerm yX12_readTerm.cls 4 [some (.ref A)] [] (zM w f2_z j) (0, 0) := by
    intro mz
    induction mz with
    | zero =>
      intro f2_z k r ofr hd2 hp2 hk2 hg2 hnk hR hmz
      exact absurd hmz (Nat.not_lt_zero _)
    | succ mz ih =>
      intro f2_z k r ofr hd2 hp2 hk2 hg2 hnk hR hmz
      by_cases hr : r.1 = 0
      · have hk3 := hk2 hr
        obtain ⟨q1_z, q2_z, q3_z⟩ := hg2 hr
        have hnk3 := hnk hr
        have hps2 := hp2
        rw [hr] at hps2
        have ht2 := hps2.2.1 rfl
        have hb2 := hps2.1
        have hte2 := teP_le (B := B) ht2.1
        have htp2 := tpM_of htp (ofr.2.1 5 (by decide) (by decide) (by decide)) (ofr.2.2 7 (by decide))
        have h10 := ht2.2.2.2.1
        have hrk := rk4 (B := B) (n := n) (s := r.2.1) (c := 42) (by decide)
        by_cases hc_z : tkP B n r.2.1 = 42
        · have h10b := hrk.mpr hc_z
          have hop : opT B n r.2.1 = 2005 := if_pos hc_z
          have hop0 : opT B n r.2.1 ≠ 0 := by rw [hop]; decide
          have hln := tk_lt (B := B) (n := n) (s := r.2.1) (by rw [hc_z]; decide)
          obtain ⟨k2_z, rfl⟩ : ∃ k2_z, k = k2_z + 1 := ⟨k - 1, by omega⟩
          have hnx := nxP_gt (B := B) hln
          have gq := hgd _ hnx.2
          by_cases hq : ((atP B n (if lm = 5 then 8 else 6) 6) (nxP B n r.2.1)).1 = 0
          · obtain ⟨y1, y2, y3, y4⟩ := gq.1 hq
            refine r_aloadR0 dX12_readTerm_4 ?_
            refine n_bipush dX12_readTerm_5 (by decide) (fun r5 e5_z => ?_)
            refine q_callV1 zm_RX12_175 dX12_readTerm_7 (shM_k hs) (by decide) rfl (Nat.le_of_ble_eq_true rfl) (Nat.le_of_ble_eq_true rfl) (Nat.le_of_ble_eq_true rfl) (Nat.le_of_ble_eq_true rfl) (Nat.le_of_ble_eq_true rfl) (s_X12_isSign G hs (fun r7 e7_z => ?_))
            refine t_ifeq (t := 30) dX12_readTerm_10 (by decide) (fun h10 => False.elim (by omega)) (fun h10 => ?_)
            refine r_aloadR0 dX12_readTerm_13 ?_
            refine q_callV0 zm_RX12_131 dX12_readTerm_14 (shM_k hs) (by decide) rfl (Nat.le_of_ble_eq_true rfl) (Nat.le_of_ble_eq_true rfl) (Nat.le_of_ble_eq_true rfl) (Nat.le_of_ble_eq_true rfl) (Nat.le_of_ble_eq_true rfl) (s_X12_readsOn (p := teP B n r.2.1) G hs htp2 ht2.2.1 hte2 (fun g14 o14 t14 => ?_))
            have htp14 := tpM_of htp2 (o14.2.1 5 (by decide) (by decide) (by decide)) (o14.2.2 7 (by decide))
            have hp14 : psM B n g14 A 0 (nxP B n r.2.1) := ⟨by rw [o14.2.2 12 (by decide)]; exact hb2, fun _ => t14, fun h_z => absurd rfl h_z⟩
            have w14 : g14 (A + 2) = f2_z (A + 2) := o14.2.1 2 (by decide) (by decide) (by decide)
            refine r_aloadR0 dX12_readTerm_17 ?_
            refine q_callV0 zm_RX12_187 dX12_readTerm_18 (shM_k hs) (by decide) rfl (Nat.le_of_ble_eq_true rfl) (Nat.le_of_ble_eq_true rfl) (Nat.le_of_ble_eq_true rfl) (Nat.le_of_ble_eq_true rfl) (Nat.le_of_ble_eq_true rfl) (s_X12_readAtom_6 (lm := lm) (la := la) (u := u + r.2.2.length) G hs kw hld htp14 hp14 (by rw [o14.2.2 16 (by decide)]; exact hd2) (by rw [o14.2.2 17 (by decide), ofr.2.2 17 (by decide)]; exact hlm) (by rw [o14.2.2 18 (by decide), ofr.2.2 18 (by decide)]; exact hla) (by rw [w14]; exact hk3.1) h5 h29 h99 (by omega) (fun g18 o18 d18 p18 k18 => ?_))
            have of18 : frM A [2] [8, 9, 10, 11, 12, 13, 16] f g18 := frM_tr ofr (frM_tr (frM_su o14 (by decide) (by decide)) o18)
            refine r_aloadR0 dX12_readTerm_21 ?_
            refine n_bipush dX12_readTerm_22 (by decide) (fun r22 e22_z => ?_)
            refine q_callV1 zm_RX12_162 dX12_readTerm_24 (shM_k hs) (by decide) rfl (Nat.le_of_ble_eq_true rfl) (Nat.le_of_ble_eq_true rfl) (Nat.le_of_ble_eq_true rfl) (Nat.le_of_ble_eq_true rfl) (Nat.le_of_ble_eq_true rfl) (s_X12_laysStep (lm := lm) (la := la) (u := u + r.2.2.length + ((atP B n (if lm = 5 then 8 else 6) 6) (nxP B n r.2.1)).2.2.length) G hs (by have := p18.1; rw [hq] at this; exact this) (by rw [of18.2.2 17 (by decide)]; exact hlm) (by rw [of18.2.2 18 (by decide)]; exact hla) (k18 hq).1 h5 h29 (by omega) (fun g24 o24 a24 b24 c24 => ?_))
            refine r_goto (t := 4) dX12_readTerm_27 (by decide) ?_
            have hp18 := p18
            rw [hq] at hp18
            refine ih _ k2_z (0, ((atP B n (if lm = 5 then 8 else 6) 6) (nxP B n r.2.1)).2.1, r.2.2 ++ ((atP B n (if lm = 5 then 8 else 6) 6) (nxP B n r.2.1)).2.2 ++ [opT B n r.2.1]) (frM_tr of18 (frM_su o24 (by decide) (by decide))) (by rw [o24.2.2 16 (by decide)]; exact d18) (psM_of hp18 (o24.2.2 8 (by decide)) (o24.2.2 9 (by decide)) (o24.2.2 10 (by decide)) (o24.2.2 11 (by decide)) (o24.2.2 12 (by decide)) (o24.2.2 13 (by decide))) (fun _ => okM_ap (by omega) (by rw [List.length_append]; omega) (okM_ap (by omega) (by omega) hk3 (okM_cg (k18 hq) w14 rfl)) ?_) (fun _ => ?_) (fun _ => ?_) ?_ (by omega)
            · rw [List.length_append, ← Nat.add_assoc, hop]
              exact okM_one (by omega) a24 b24 c24 (by rw [e22_z]; rfl)
            · show p ≤ ((atP B n (if lm = 5 then 8 else 6) 6) (nxP B n r.2.1)).2.1 ∧ ((atP B n (if lm = 5 then 8 else 6) 6) (nxP B n r.2.1)).2.1 ≤ n ∧ (r.2.2 ++ ((atP B n (if lm = 5 then 8 else 6) 6) (nxP B n r.2.1)).2.2 ++ [opT B n r.2.1]).length + p ≤ ((atP B n (if lm = 5 then 8 else 6) 6) (nxP B n r.2.1)).2.1
              rw [List.length_append, List.length_append, List.length_singleton]
              omega
            · show n ≤ k2_z + ((atP B n (if lm = 5 then 8 else 6) 6) (nxP B n r.2.1)).2.1
              omega
            · exact (lpP_on hr hop0 hq).symm.trans hR
          · have nb : ∀ g : Nat → Nat → Int32, psM B n g A ((atP B n (if lm = 5 then 8 else 6) 6) (nxP B n r.2.1)).1 ((atP B n (if lm = 5 then 8 else 6) 6) (nxP B n r.2.1)).2.1 → (g A 12).toInt ≠ 0 := fun g h_z => by rw [h_z.1]; omega
            refine r_aloadR0 dX12_readTerm_4 ?_
            refine n_bipush dX12_readTerm_5 (by decide) (fun r5 e5_z => ?_)
            refine q_callV1 zm_RX12_175 dX12_readTerm_7 (shM_k hs) (by decide) rfl (Nat.le_of_ble_eq_true rfl) (Nat.le_of_ble_eq_true rfl) (Nat.le_of_ble_eq_true rfl) (Nat.le_of_ble_eq_true rfl) (Nat.le_of_ble_eq_true rfl) (s_X12_isSign G hs (fun r7 e7_z => ?_))
            refine t_ifeq (t := 30) dX12_readTerm_10 (by decide) (fun h10 => False.elim (by omega)) (fun h10 => ?_)
            refine r_aloadR0 dX12_readTerm_13 ?_
            refine q_callV0 zm_RX12_131 dX12_readTerm_14 (shM_k hs) (by decide) rfl (Nat.le_of_ble_eq_true rfl) (Nat.le_of_ble_eq_true rfl) (Nat.le_of_ble_eq_true rfl) (Nat.le_of_ble_eq_true rfl) (Nat.le_of_ble_eq_true rfl) (s_X12_readsOn (p := teP B n r.2.1) G hs htp2 ht2.2.1 hte2 (fun g14 o14 t14 => ?_))
            have htp14 := tpM_of htp2 (o14.2.1 5 (by decide) (by decide) (by decide)) (o14.2.2 7 (by decide))
            have hp14 : psM B n g14 A 0 (nxP B n r.2.1) := ⟨by rw [o14.2.2 12 (by decide)]; exact hb2, fun _ => t14, fun h_z => absurd rfl h_z⟩
            have w14 : g14 (A + 2) = f2_z (A + 2) := o14.2.1 2 (by decide) (by decide) (by decide)
            refine r_aloadR0 dX12_readTerm_17 ?_
            refine q_callV0 zm_RX12_187 dX12_readTerm_18 (shM_k hs) (by decide) rfl (Nat.le_of_ble_eq_true rfl) (Nat.le_of_ble_eq_true rfl) (Nat.le_of_ble_eq_true rfl) (Nat.le_of_ble_eq_true rfl) (Nat.le_of_ble_eq_true rfl) (s_X12_readAtom_6 (lm := lm) (la := la) (u := u + r.2.2.length) G hs kw hld htp14 hp14 (by rw [o14.2.2 16 (by decide)]; exact hd2) (by rw [o14.2.2 17 (by decide), ofr.2.2 17 (by decide)]; exact hlm) (by rw [o14.2.2 18 (by decide), ofr.2.2 18 (by decide)]; exact hla) (by rw [w14]; exact hk3.1) h5 h29 h99 (by omega) (fun g18 o18 d18 p18 k18 => ?_))
            have of18 : frM A [2] [8, 9, 10, 11, 12, 13, 16] f g18 := frM_tr ofr (frM_tr (frM_su o14 (by decide) (by decide)) o18)
            refine r_aloadR0 dX12_readTerm_21 ?_
            refine n_bipush dX12_readTerm_22 (by decide) (fun r22 e22_z => ?_)
            refine q_callV1 zm_RX12_162 dX12_readTerm_24 (shM_k hs) (by decide) rfl (Nat.le_of_ble_eq_true rfl) (Nat.le_of_ble_eq_true rfl) (Nat.le_of_ble_eq_true rfl) (Nat.le_of_ble_eq_true rfl) (Nat.le_of_ble_eq_true rfl) (s_X12_laysStep_x G hs (nb _ p18) ?_)
            refine r_goto (t := 4) dX12_readTerm_27 (by decide) ?_
            exact ih _ k2_z ((atP B n (if lm = 5 then 8 else 6) 6) (nxP B n r.2.1)) of18 d18 p18 (fun h_z => absurd h_z hq) (fun h_z => absurd h_z hq) (fun h_z => absurd h_z hq) ((lpP_bad hq).trans ((lpP_sub hr hop0 hq).symm.trans hR)) (by omega)
        · have h10b : rkP B n r.2.1 ≠ 42 := fun h_z => hc_z (hrk.mp h_z)
          have hop : opT B n r.2.1 = 0 := if_neg hc_z
          have hv := (lpP_end (B := B) (n := n) (k := k) (sub := (atP B n (if lm = 5 then 8 else 6) 6)) hop).symm.trans hR
          refine r_aloadR0 dX12_readTerm_4 ?_
          refine n_bipush dX12_readTerm_5 (by decide) (fun r5 e5_z => ?_)
          refine q_callV1 zm_RX12_175 dX12_readTerm_7 (shM_k hs) (by decide) rfl (Nat.le_of_ble_eq_true rfl) (Nat.le_of_ble_eq_true rfl) (Nat.le_of_ble_eq_true rfl) (Nat.le_of_ble_eq_true rfl) (Nat.le_of_ble_eq_true rfl) (s_X12_isSign G hs (fun r7 e7_z => ?_))
          refine t_ifeq (t := 30) dX12_readTerm_10 (by decide) (fun h10 => ?_) (fun h10 => False.elim (by omega))
          refine r_vret dX12_readTerm_30 rfl (Nat.le_of_ble_eq_true rfl) (Nat.le_of_ble_eq_true rfl) ?_
          rw [← hv] at hQ
          exact hQ _ ofr hd2 hp2 hk2
      · have hb2 : (f2_z A 12).toInt ≠ 0 := by rw [hp2.1]; omega
        have hv := (lpP_bad (B := B) (n := n) (k := k) (sub := (atP B n (if lm = 5 then 8 else 6) 6)) (op := opT B n) hr).symm.trans hR
        refine r_aloadR0 dX12_readTerm_4 ?_
        refine n_bipush dX12_readTerm_5 (by decide) (fun r5 e5_z => ?_)
        refine q_callV1 zm_RX12_175 dX12_readTerm_7 (shM_k hs) (by decide) rfl (Nat.le_of_ble_eq_true rfl) (Nat.le_of_ble_eq_true rfl) (Nat.le_of_ble_eq_true rfl) (Nat.le_of_ble_eq_true rfl) (Nat.le_of_ble_eq_true rfl) (s_X12_isSign G hs (fun r7 e7_z => ?_))
        refine t_ifeq (t := 30) dX12_readTerm_10 (by decide) (fun h10 => ?_) (fun h10 => False.elim (by omega))
        refine r_vret dX12_readTerm_30 rfl (Nat.le_of_ble_eq_true rfl) (Nat.le_of_ble_eq_true rfl) ?_
        rw [← hv] at hQ
        exact hQ _ ofr hd2 hp2 hk2
  refine r_aloadR0 dX12_readTerm_0 ?_
  refine q_callV0 zm_RX12_187 dX12_readTerm_1 (shM_k hs) (by decide) rfl (Nat.le_of_ble_eq_true rfl) (Nat.le_of_ble_eq_true rfl) (Nat.le_of_ble_eq_true rfl) (Nat.le_of_ble_eq_true rfl) (Nat.le_of_ble_eq_true rfl) (s_X12_readAtom_6 G hs kw hld htp hps hd16 hlm hla hu h5 h29 h99 hup (fun g1 o1 d1 p1 k1_z => ?_))
  have gp := hgd p ht.1
  exact lp _ g1 n ((atP B n (if lm = 5 then 8 else 6) 6) p) o1 d1 p1 k1_z (fun h_z => ⟨Nat.le_of_lt (gp.1 h_z).1, (gp.1 h_z).2.1, (gp.1 h_z).2.2.1⟩) (fun _ => Nat.le_add_right n _) rfl (Nat.lt_succ_self n)
set_option maxHeartbeats 4000000 in
set_option maxRecDepth 100000 in
theorem s_X12_readSum_6 {g : zGT} {w : zW} {f : Nat → Nat → Int32} {j : Nat → Nat → Int64} {A : Nat} {B : Nat → Nat} {n : Nat} {wa wv : Nat → Nat} {kq : Nat} {p lm la u : Nat} {Q : Option Value → zW → Prop} {QX : String → zW → Prop} (G : zGok g) (hs : shM w A) (kw : kWd g wa wv kq) (hld : kLd g wa) (htp : tpM B n f A) (hps : psM B n f A 0 p) (hd16 : (f A 16).toInt = 0) (hlm : (f A 17).toInt = (lm : Nat)) (hla : (f A 18).toInt = (la : Nat)) (hu : (f (A + 2) lm).toInt = (u : Nat)) (h5 : lm ≤ 5) (h29 : 209 ≤ la) (h99 : la ≤ 2009) (hup : u ≤ p) (hQ : ∀ f2_z, frM A [2] [8, 9, 10, 11, 12, 13, 16] f f2_z → (f2_z A 16).toInt = 0 → psM B n f2_z A (chP B n (chP B n (atP B n (if lm = 5 then 8 else 6) 6) (opT B n)) (opS B n) p).1 (chP B n (chP B n (atP B n (if lm = 5 then 8 else 6) 6) (opT B n)) (opS B n) p).2.1 → ((chP B n (chP B n (atP B n (if lm = 5 then 8 else 6) 6) (opT B n)) (opS B n) p).1 = 0 → okM f f2_z A lm la u (chP B n (chP B n (atP B n (if lm = 5 then 8 else 6) 6) (opT B n)) (opS B n) p).2.2) → Q none (zM w f2_z j)) : zC g 36 yX12_readSum cX12_readSum 2 none [.ref A] (zM w f j) (0, 0) Q QX := by
  refine zC_of G (by decide +kernel) (Nat.le_of_ble_eq_true rfl) ?_
  have ht := hps.2.1 rfl
  have h12 := hps.1
  have h900 := htp.2.1
  have hgd : ∀ s, s ≤ n → gdP n false (if lm = 5 then 8 else 6) (1 + 2 * 6 + 1) s ((chP B n (atP B n (if lm = 5 then 8 else 6) 6) (opT B n)) s) := fun s hs9 => gd_ch (gd_at (by split <;> decide) 6) hop_T hs9
  have lp : ∀ (mz : Nat) (f2_z : Nat → Nat → Int32) (k : Nat) (r : zPR) (v1_ : Option Value), frM A [2] [8, 9, 10, 11, 12, 13, 16] f f2_z → (f2_z A 16).toInt = 0 → psM B n f2_z A r.1 r.2.1 → (r.1 = 0 → okM f f2_z A lm la u r.2.2) → (r.1 = 0 → p ≤ r.2.1 ∧ r.2.1 ≤ n ∧ r.2.2.length + p ≤ r.2.1) → (r.1 = 0 → n ≤ k + r.2.1) → lpP B n (chP B n (atP B n (if lm = 5 then 8 else 6) 6) (opT B n)) (opS B n) k r = chP B n (chP B n (atP B n (if lm = 5 then 8 else 6) 6) (opT B n)) (opS B n) p → k < mz → zR (zV g 36 yX12_readSum 2 none (0, 0) Q QX) cX12_readSum yX12_readSum.cls 4 [some (.ref A), v1_] [] (zM w f2_z j) (0, 0) := by
    intro mz
    induction mz with
    | zero =>
      intro f2_z k r v1_ ofr hd2 hp2 hk2 hg2 hnk hR hmz
      exact absurd hmz (Nat.not_lt_zero _)
    | succ mz ih =>
      intro f2_z k r v1_ ofr hd2 hp2 hk2 hg2 hnk hR hmz
      by_cases hr : r.1 = 0
      · have hk3 := hk2 hr
        obtain ⟨q1_z, q2_z, q3_z⟩ := hg2 hr
        have hnk3 := hnk hr
        have hps2 := hp2
        rw [hr] at hps2
        have ht2 := hps2.2.1 rfl
        have hb2 := hps2.1
        have hte2 := teP_le (B := B) ht2.1
        have htp2 := tpM_of htp (ofr.2.1 5 (by decide) (by decide) (by decide)) (ofr.2.2 7 (by decide))
        have h10 := ht2.2.2.2.1
        have hrk := rk4 (B := B) (n := n) (s := r.2.1) (c := 43) (by decide)
        have hrm := rk4 (B := B) (n := n) (s := r.2.1) (c := 45) (by decide)
        by_cases hc_z : tkP B n r.2.1 = 43
        · have h10b := hrk.mpr hc_z
          have hop : opS B n r.2.1 = 2003 := if_pos hc_z
          have hop0 : opS B n r.2.1 ≠ 0 := by rw [hop]; decide
          have hln := tk_lt (B := B) (n := n) (s := r.2.1) (by rw [hc_z]; decide)
          obtain ⟨k2_z, rfl⟩ : ∃ k2_z, k = k2_z + 1 := ⟨k - 1, by omega⟩
          have hnx := nxP_gt (B := B) hln
          have gq := hgd _ hnx.2
          by_cases hq : ((chP B n (atP B n (if lm = 5 then 8 else 6) 6) (opT B n)) (nxP B n r.2.1)).1 = 0
          · obtain ⟨y1, y2, y3, y4⟩ := gq.1 hq
            refine r_aloadR0 dX12_readSum_4 ?_
            refine n_bipush dX12_readSum_5 (by decide) (fun r5 e5_z => ?_)
            refine q_callV1 zm_RX12_175 dX12_readSum_7 (shM_k hs) (by decide) rfl (Nat.le_of_ble_eq_true rfl) (Nat.le_of_ble_eq_true rfl) (Nat.le_of_ble_eq_true rfl) (Nat.le_of_ble_eq_true rfl) (Nat.le_of_ble_eq_true rfl) (s_X12_isSign G hs (fun r7 e7_z => ?_))
            refine t_ifne (t := 22) dX12_readSum_10 (by decide) (fun h10 => ?_) (fun h10 => False.elim (by omega))
            refine r_aloadR0 dX12_readSum_22 ?_
            refine m_getV (x := (f2_z A 10)) zf_RX12_92 rfl dX12_readSum_23 (shM_k hs) (rfl) ?_
            refine r_istore1 dX12_readSum_26 rfl ?_
            refine r_aloadR0 dX12_readSum_27 ?_
            refine q_callV0 zm_RX12_131 dX12_readSum_28 (shM_k hs) (by decide) rfl (Nat.le_of_ble_eq_true rfl) (Nat.le_of_ble_eq_true rfl) (Nat.le_of_ble_eq_true rfl) (Nat.le_of_ble_eq_true rfl) (Nat.le_of_ble_eq_true rfl) (s_X12_readsOn (p := teP B n r.2.1) G hs htp2 ht2.2.1 hte2 (fun g28 o28 t28 => ?_))
            have htp28 := tpM_of htp2 (o28.2.1 5 (by decide) (by decide) (by decide)) (o28.2.2 7 (by decide))
            have hp28 : psM B n g28 A 0 (nxP B n r.2.1) := ⟨by rw [o28.2.2 12 (by decide)]; exact hb2, fun _ => t28, fun h_z => absurd rfl h_z⟩
            have w28 : g28 (A + 2) = f2_z (A + 2) := o28.2.1 2 (by decide) (by decide) (by decide)
            refine r_aloadR0 dX12_readSum_31 ?_
            refine q_callV0 zm_RX12_184 dX12_readSum_32 (shM_k hs) (by decide) rfl (Nat.le_of_ble_eq_true rfl) (Nat.le_of_ble_eq_true rfl) (Nat.le_of_ble_eq_true rfl) (Nat.le_of_ble_eq_true rfl) (Nat.le_of_ble_eq_true rfl) (s_X12_readTerm_6 (lm := lm) (la := la) (u := u + r.2.2.length) G hs kw hld htp28 hp28 (by rw [o28.2.2 16 (by decide)]; exact hd2) (by rw [o28.2.2 17 (by decide), ofr.2.2 17 (by decide)]; exact hlm) (by rw [o28.2.2 18 (by decide), ofr.2.2 18 (by decide)]; exact hla) (by rw [w28]; exact hk3.1) h5 h29 h99 (by omega) (fun g32 o32 d32 p32 k32 => ?_))
            have of32 : frM A [2] [8, 9, 10, 11, 12, 13, 16] f g32 := frM_tr ofr (frM_tr (frM_su o28 (by decide) (by decide)) o32)
            refine r_aloadR0 dX12_readSum_35 ?_
            refine r_iload1 dX12_readSum_36 ?_
            refine n_bipush dX12_readSum_37 (by decide) (fun r37 e37 => ?_)
            refine t_icne (t := 47) dX12_readSum_39 (by decide) (fun h39 => False.elim (by omega)) (fun h39 => ?_)
            refine n_bipush dX12_readSum_42 (by decide) (fun r42 e42_z => ?_)
            refine r_goto (t := 49) dX12_readSum_44 (by decide) ?_
            refine q_callV1 zm_RX12_162 dX12_readSum_49 (shM_k hs) (by decide) rfl (Nat.le_of_ble_eq_true rfl) (Nat.le_of_ble_eq_true rfl) (Nat.le_of_ble_eq_true rfl) (Nat.le_of_ble_eq_true rfl) (Nat.le_of_ble_eq_true rfl) (s_X12_laysStep (lm := lm) (la := la) (u := u + r.2.2.length + ((chP B n (atP B n (if lm = 5 then 8 else 6) 6) (opT B n)) (nxP B n r.2.1)).2.2.length) G hs (by have := p32.1; rw [hq] at this; exact this) (by rw [of32.2.2 17 (by decide)]; exact hlm) (by rw [of32.2.2 18 (by decide)]; exact hla) (k32 hq).1 h5 h29 (by omega) (fun g49 o49 a49 b49 c49 => ?_))
            refine r_goto (t := 4) dX12_readSum_52 (by decide) ?_
            have hp32 := p32
            rw [hq] at hp32
            refine ih _ k2_z (0, ((chP B n (atP B n (if lm = 5 then 8 else 6) 6) (opT B n)) (nxP B n r.2.1)).2.1, r.2.2 ++ ((chP B n (atP B n (if lm = 5 then 8 else 6) 6) (opT B n)) (nxP B n r.2.1)).2.2 ++ [opS B n r.2.1]) _ (frM_tr of32 (frM_su o49 (by decide) (by decide))) (by rw [o49.2.2 16 (by decide)]; exact d32) (psM_of hp32 (o49.2.2 8 (by decide)) (o49.2.2 9 (by decide)) (o49.2.2 10 (by decide)) (o49.2.2 11 (by decide)) (o49.2.2 12 (by decide)) (o49.2.2 13 (by decide))) (fun _ => okM_ap (by omega) (by rw [List.length_append]; omega) (okM_ap (by omega) (by omega) hk3 (okM_cg (k32 hq) w28 rfl)) ?_) (fun _ => ?_) (fun _ => ?_) ?_ (by omega)
            · rw [List.length_append, ← Nat.add_assoc, hop]
              exact okM_one (by omega) a49 b49 c49 (by rw [e42_z]; rfl)
            · show p ≤ ((chP B n (atP B n (if lm = 5 then 8 else 6) 6) (opT B n)) (nxP B n r.2.1)).2.1 ∧ ((chP B n (atP B n (if lm = 5 then 8 else 6) 6) (opT B n)) (nxP B n r.2.1)).2.1 ≤ n ∧ (r.2.2 ++ ((chP B n (atP B n (if lm = 5 then 8 else 6) 6) (opT B n)) (nxP B n r.2.1)).2.2 ++ [opS B n r.2.1]).length + p ≤ ((chP B n (atP B n (if lm = 5 then 8 else 6) 6) (opT B n)) (nxP B n r.2.1)).2.1
              rw [List.length_append, List.length_append, List.length_singleton]
              omega
            · show n ≤ k2_z + ((chP B n (atP B n (if lm = 5 then 8 else 6) 6) (opT B n)) (nxP B n r.2.1)).2.1
              omega
            · exact (lpP_on hr hop0 hq).symm.trans hR
          · have nb : ∀ g : Nat → Nat → Int32, psM B n g A ((chP B n (atP B n (if lm = 5 then 8 else 6) 6) (opT B n)) (nxP B n r.2.1)).1 ((chP B n (atP B n (if lm = 5 then 8 else 6) 6) (opT B n)) (nxP B n r.2.1)).2.1 → (g A 12).toInt ≠ 0 := fun g h_z => by rw [h_z.1]; omega
            refine r_aloadR0 dX12_readSum_4 ?_
            refine n_bipush dX12_readSum_5 (by decide) (fun r5 e5_z => ?_)
            refine q_callV1 zm_RX12_175 dX12_readSum_7 (shM_k hs) (by decide) rfl (Nat.le_of_ble_eq_true rfl) (Nat.le_of_ble_eq_true rfl) (Nat.le_of_ble_eq_true rfl) (Nat.le_of_ble_eq_true rfl) (Nat.le_of_ble_eq_true rfl) (s_X12_isSign G hs (fun r7 e7_z => ?_))
            refine t_ifne (t := 22) dX12_readSum_10 (by decide) (fun h10 => ?_) (fun h10 => False.elim (by omega))
            refine r_aloadR0 dX12_readSum_22 ?_
            refine m_getV (x := (f2_z A 10)) zf_RX12_92 rfl dX12_readSum_23 (shM_k hs) (rfl) ?_
            refine r_istore1 dX12_readSum_26 rfl ?_
            refine r_aloadR0 dX12_readSum_27 ?_
            refine q_callV0 zm_RX12_131 dX12_readSum_28 (shM_k hs) (by decide) rfl (Nat.le_of_ble_eq_true rfl) (Nat.le_of_ble_eq_true rfl) (Nat.le_of_ble_eq_true rfl) (Nat.le_of_ble_eq_true rfl) (Nat.le_of_ble_eq_true rfl) (s_X12_readsOn (p := teP B n r.2.1) G hs htp2 ht2.2.1 hte2 (fun g28 o28 t28 => ?_))
            have htp28 := tpM_of htp2 (o28.2.1 5 (by decide) (by decide) (by decide)) (o28.2.2 7 (by decide))
            have hp28 : psM B n g28 A 0 (nxP B n r.2.1) := ⟨by rw [o28.2.2 12 (by decide)]; exact hb2, fun _ => t28, fun h_z => absurd rfl h_z⟩
            have w28 : g28 (A + 2) = f2_z (A + 2) := o28.2.1 2 (by decide) (by decide) (by decide)
            refine r_aloadR0 dX12_readSum_31 ?_
            refine q_callV0 zm_RX12_184 dX12_readSum_32 (shM_k hs) (by decide) rfl (Nat.le_of_ble_eq_true rfl) (Nat.le_of_ble_eq_true rfl) (Nat.le_of_ble_eq_true rfl) (Nat.le_of_ble_eq_true rfl) (Nat.le_of_ble_eq_true rfl) (s_X12_readTerm_6 (lm := lm) (la := la) (u := u + r.2.2.length) G hs kw hld htp28 hp28 (by rw [o28.2.2 16 (by decide)]; exact hd2) (by rw [o28.2.2 17 (by decide), ofr.2.2 17 (by decide)]; exact hlm) (by rw [o28.2.2 18 (by decide), ofr.2.2 18 (by decide)]; exact hla) (by rw [w28]; exact hk3.1) h5 h29 h99 (by omega) (fun g32 o32 d32 p32 k32 => ?_))
            have of32 : frM A [2] [8, 9, 10, 11, 12, 13, 16] f g32 := frM_tr ofr (frM_tr (frM_su o28 (by decide) (by decide)) o32)
            refine r_aloadR0 dX12_readSum_35 ?_
            refine r_iload1 dX12_readSum_36 ?_
            refine n_bipush dX12_readSum_37 (by decide) (fun r37 e37 => ?_)
            refine t_icne (t := 47) dX12_readSum_39 (by decide) (fun h39 => False.elim (by omega)) (fun h39 => ?_)
            refine n_bipush dX12_readSum_42 (by decide) (fun r42 e42_z => ?_)
            refine r_goto (t := 49) dX12_readSum_44 (by decide) ?_
            refine q_callV1 zm_RX12_162 dX12_readSum_49 (shM_k hs) (by decide) rfl (Nat.le_of_ble_eq_true rfl) (Nat.le_of_ble_eq_true rfl) (Nat.le_of_ble_eq_true rfl) (Nat.le_of_ble_eq_true rfl) (Nat.le_of_ble_eq_true rfl) (s_X12_laysStep_x G hs (nb _ p32) ?_)
            refine r_goto (t := 4) dX12_readSum_52 (by decide) ?_
            exact ih _ k2_z ((chP B n (atP B n (if lm = 5 then 8 else 6) 6) (opT B n)) (nxP B n r.2.1)) _ of32 d32 p32 (fun h_z => absurd h_z hq) (fun h_z => absurd h_z hq) (fun h_z => absurd h_z hq) ((lpP_bad hq).trans ((lpP_sub hr hop0 hq).symm.trans hR)) (by omega)
        have hcn := hc_z
        have hc43 : rkP B n r.2.1 ≠ 43 := fun h_z => hc_z (hrk.mp h_z)
        clear hc_z
        by_cases hc_z : tkP B n r.2.1 = 45
        · have h10b := hrm.mpr hc_z
          have hop : opS B n r.2.1 = 2004 := (if_neg (by omega)).trans (if_pos hc_z)
          have hop0 : opS B n r.2.1 ≠ 0 := by rw [hop]; decide
          have hln := tk_lt (B := B) (n := n) (s := r.2.1) (by rw [hc_z]; decide)
          obtain ⟨k2_z, rfl⟩ : ∃ k2_z, k = k2_z + 1 := ⟨k - 1, by omega⟩
          have hnx := nxP_gt (B := B) hln
          have gq := hgd _ hnx.2
          by_cases hq : ((chP B n (atP B n (if lm = 5 then 8 else 6) 6) (opT B n)) (nxP B n r.2.1)).1 = 0
          · obtain ⟨y1, y2, y3, y4⟩ := gq.1 hq
            refine r_aloadR0 dX12_readSum_4 ?_
            refine n_bipush dX12_readSum_5 (by decide) (fun r5 e5_z => ?_)
            refine q_callV1 zm_RX12_175 dX12_readSum_7 (shM_k hs) (by decide) rfl (Nat.le_of_ble_eq_true rfl) (Nat.le_of_ble_eq_true rfl) (Nat.le_of_ble_eq_true rfl) (Nat.le_of_ble_eq_true rfl) (Nat.le_of_ble_eq_true rfl) (s_X12_isSign G hs (fun r7 e7_z => ?_))
            refine t_ifne (t := 22) dX12_readSum_10 (by decide) (fun h10 => False.elim (by omega)) (fun h10 => ?_)
            refine r_aloadR0 dX12_readSum_13 ?_
            refine n_bipush dX12_readSum_14 (by decide) (fun r14 e14_z => ?_)
            refine q_callV1 zm_RX12_175 dX12_readSum_16 (shM_k hs) (by decide) rfl (Nat.le_of_ble_eq_true rfl) (Nat.le_of_ble_eq_true rfl) (Nat.le_of_ble_eq_true rfl) (Nat.le_of_ble_eq_true rfl) (Nat.le_of_ble_eq_true rfl) (s_X12_isSign G hs (fun r16 e16_z => ?_))
            refine t_ifeq (t := 55) dX12_readSum_19 (by decide) (fun h19 => False.elim (by omega)) (fun h19 => ?_)
            refine r_aloadR0 dX12_readSum_22 ?_
            refine m_getV (x := (f2_z A 10)) zf_RX12_92 rfl dX12_readSum_23 (shM_k hs) (rfl) ?_
            refine r_istore1 dX12_readSum_26 rfl ?_
            refine r_aloadR0 dX12_readSum_27 ?_
            refine q_callV0 zm_RX12_131 dX12_readSum_28 (shM_k hs) (by decide) rfl (Nat.le_of_ble_eq_true rfl) (Nat.le_of_ble_eq_true rfl) (Nat.le_of_ble_eq_true rfl) (Nat.le_of_ble_eq_true rfl) (Nat.le_of_ble_eq_true rfl) (s_X12_readsOn (p := teP B n r.2.1) G hs htp2 ht2.2.1 hte2 (fun g28 o28 t28 => ?_))
            have htp28 := tpM_of htp2 (o28.2.1 5 (by decide) (by decide) (by decide)) (o28.2.2 7 (by decide))
            have hp28 : psM B n g28 A 0 (nxP B n r.2.1) := ⟨by rw [o28.2.2 12 (by decide)]; exact hb2, fun _ => t28, fun h_z => absurd rfl h_z⟩
            have w28 : g28 (A + 2) = f2_z (A + 2) := o28.2.1 2 (by decide) (by decide) (by decide)
            refine r_aloadR0 dX12_readSum_31 ?_
            refine q_callV0 zm_RX12_184 dX12_readSum_32 (shM_k hs) (by decide) rfl (Nat.le_of_ble_eq_true rfl) (Nat.le_of_ble_eq_true rfl) (Nat.le_of_ble_eq_true rfl) (Nat.le_of_ble_eq_true rfl) (Nat.le_of_ble_eq_true rfl) (s_X12_readTerm_6 (lm := lm) (la := la) (u := u + r.2.2.length) G hs kw hld htp28 hp28 (by rw [o28.2.2 16 (by decide)]; exact hd2) (by rw [o28.2.2 17 (by decide), ofr.2.2 17 (by decide)]; exact hlm) (by rw [o28.2.2 18 (by decide), ofr.2.2 18 (by decide)]; exact hla) (by rw [w28]; exact hk3.1) h5 h29 h99 (by omega) (fun g32 o32 d32 p32 k32 => ?_))
            have of32 : frM A [2] [8, 9, 10, 11, 12, 13, 16] f g32 := frM_tr ofr (frM_tr (frM_su o28 (by decide) (by decide)) o32)
            refine r_aloadR0 dX12_readSum_35 ?_
            refine r_iload1 dX12_readSum_36 ?_
            refine n_bipush dX12_readSum_37 (by decide) (fun r37 e37 => ?_)
            refine t_icne (t := 47) dX12_readSum_39 (by decide) (fun h39 => ?_) (fun h39 => False.elim (by omega))
            refine n_bipush dX12_readSum_47 (by decide) (fun r47 e47 => ?_)
            refine q_callV1 zm_RX12_162 dX12_readSum_49 (shM_k hs) (by decide) rfl (Nat.le_of_ble_eq_true rfl) (Nat.le_of_ble_eq_true rfl) (Nat.le_of_ble_eq_true rfl) (Nat.le_of_ble_eq_true rfl) (Nat.le_of_ble_eq_true rfl) (s_X12_laysStep (lm := lm) (la := la) (u := u + r.2.2.length + ((chP B n (atP B n (if lm = 5 then 8 else 6) 6) (opT B n)) (nxP B n r.2.1)).2.2.length) G hs (by have := p32.1; rw [hq] at this; exact this) (by rw [of32.2.2 17 (by decide)]; exact hlm) (by rw [of32.2.2 18 (by decide)]; exact hla) (k32 hq).1 h5 h29 (by omega) (fun g49 o49 a49 b49 c49 => ?_))
            refine r_goto (t := 4) dX12_readSum_52 (by decide) ?_
            have hp32 := p32
            rw [hq] at hp32
            refine ih _ k2_z (0, ((chP B n (atP B n (if lm = 5 then 8 else 6) 6) (opT B n)) (nxP B n r.2.1)).2.1, r.2.2 ++ ((chP B n (atP B n (if lm = 5 then 8 else 6) 6) (opT B n)) (nxP B n r.2.1)).2.2 ++ [opS B n r.2.1]) _ (frM_tr of32 (frM_su o49 (by decide) (by decide))) (by rw [o49.2.2 16 (by decide)]; exact d32) (psM_of hp32 (o49.2.2 8 (by decide)) (o49.2.2 9 (by decide)) (o49.2.2 10 (by decide)) (o49.2.2 11 (by decide)) (o49.2.2 12 (by decide)) (o49.2.2 13 (by decide))) (fun _ => okM_ap (by omega) (by rw [List.length_append]; omega) (okM_ap (by omega) (by omega) hk3 (okM_cg (k32 hq) w28 rfl)) ?_) (fun _ => ?_) (fun _ => ?_) ?_ (by omega)
            · rw [List.length_append, ← Nat.add_assoc, hop]
              exact okM_one (by omega) a49 b49 c49 (by rw [e47]; rfl)
            · show p ≤ ((chP B n (atP B n (if lm = 5 then 8 else 6) 6) (opT B n)) (nxP B n r.2.1)).2.1 ∧ ((chP B n (atP B n (if lm = 5 then 8 else 6) 6) (opT B n)) (nxP B n r.2.1)).2.1 ≤ n ∧ (r.2.2 ++ ((chP B n (atP B n (if lm = 5 then 8 else 6) 6) (opT B n)) (nxP B n r.2.1)).2.2 ++ [opS B n r.2.1]).length + p ≤ ((chP B n (atP B n (if lm = 5 then 8 else 6) 6) (opT B n)) (nxP B n r.2.1)).2.1
              rw [List.length_append, List.length_append, List.length_singleton]
              omega
            · show n ≤ k2_z + ((chP B n (atP B n (if lm = 5 then 8 else 6) 6) (opT B n)) (nxP B n r.2.1)).2.1
              omega
            · exact (lpP_on hr hop0 hq).symm.trans hR
          · have nb : ∀ g : Nat → Nat → Int32, psM B n g A ((chP B n (atP B n (if lm = 5 then 8 else 6) 6) (opT B n)) (nxP B n r.2.1)).1 ((chP B n (atP B n (if lm = 5 then 8 else 6) 6) (opT B n)) (nxP B n r.2.1)).2.1 → (g A 12).toInt ≠ 0 := fun g h_z => by rw [h_z.1]; omega
            refine r_aloadR0 dX12_readSum_4 ?_
            refine n_bipush dX12_readSum_5 (by decide) (fun r5 e5_z => ?_)
            refine q_callV1 zm_RX12_175 dX12_readSum_7 (shM_k hs) (by decide) rfl (Nat.le_of_ble_eq_true rfl) (Nat.le_of_ble_eq_true rfl) (Nat.le_of_ble_eq_true rfl) (Nat.le_of_ble_eq_true rfl) (Nat.le_of_ble_eq_true rfl) (s_X12_isSign G hs (fun r7 e7_z => ?_))
            refine t_ifne (t := 22) dX12_readSum_10 (by decide) (fun h10 => False.elim (by omega)) (fun h10 => ?_)
            refine r_aloadR0 dX12_readSum_13 ?_
            refine n_bipush dX12_readSum_14 (by decide) (fun r14 e14_z => ?_)
            refine q_callV1 zm_RX12_175 dX12_readSum_16 (shM_k hs) (by decide) rfl (Nat.le_of_ble_eq_true rfl) (Nat.le_of_ble_eq_true rfl) (Nat.le_of_ble_eq_true rfl) (Nat.le_of_ble_eq_true rfl) (Nat.le_of_ble_eq_true rfl) (s_X12_isSign G hs (fun r16 e16_z => ?_))
            refine t_ifeq (t := 55) dX12_readSum_19 (by decide) (fun h19 => False.elim (by omega)) (fun h19 => ?_)
            refine r_aloadR0 dX12_readSum_22 ?_
            refine m_getV (x := (f2_z A 10)) zf_RX12_92 rfl dX12_readSum_23 (shM_k hs) (rfl) ?_
            refine r_istore1 dX12_readSum_26 rfl ?_
            refine r_aloadR0 dX12_readSum_27 ?_
            refine q_callV0 zm_RX12_131 dX12_readSum_28 (shM_k hs) (by decide) rfl (Nat.le_of_ble_eq_true rfl) (Nat.le_of_ble_eq_true rfl) (Nat.le_of_ble_eq_true rfl) (Nat.le_of_ble_eq_true rfl) (Nat.le_of_ble_eq_true rfl) (s_X12_readsOn (p := teP B n r.2.1) G hs htp2 ht2.2.1 hte2 (fun g28 o28 t28 => ?_))
            have htp28 := tpM_of htp2 (o28.2.1 5 (by decide) (by decide) (by decide)) (o28.2.2 7 (by decide))
            have hp28 : psM B n g28 A 0 (nxP B n r.2.1) := ⟨by rw [o28.2.2 12 (by decide)]; exact hb2, fun _ => t28, fun h_z => absurd rfl h_z⟩
            have w28 : g28 (A + 2) = f2_z (A + 2) := o28.2.1 2 (by decide) (by decide) (by decide)
            refine r_aloadR0 dX12_readSum_31 ?_
            refine q_callV0 zm_RX12_184 dX12_readSum_32 (shM_k hs) (by decide) rfl (Nat.le_of_ble_eq_true rfl) (Nat.le_of_ble_eq_true rfl) (Nat.le_of_ble_eq_true rfl) (Nat.le_of_ble_eq_true rfl) (Nat.le_of_ble_eq_true rfl) (s_X12_readTerm_6 (lm := lm) (la := la) (u := u + r.2.2.length) G hs kw hld htp28 hp28 (by rw [o28.2.2 16 (by decide)]; exact hd2) (by rw [o28.2.2 17 (by decide), ofr.2.2 17 (by decide)]; exact hlm) (by rw [o28.2.2 18 (by decide), ofr.2.2 18 (by decide)]; exact hla) (by rw [w28]; exact hk3.1) h5 h29 h99 (by omega) (fun g32 o32 d32 p32 k32 => ?_))
            have of32 : frM A [2] [8, 9, 10, 11, 12, 13, 16] f g32 := frM_tr ofr (frM_tr (frM_su o28 (by decide) (by decide)) o32)
            refine r_aloadR0 dX12_readSum_35 ?_
            refine r_iload1 dX12_readSum_36 ?_
            refine n_bipush dX12_readSum_37 (by decide) (fun r37 e37 => ?_)
            refine t_icne (t := 47) dX12_readSum_39 (by decide) (fun h39 => ?_) (fun h39 => False.elim (by omega))
            refine n_bipush dX12_readSum_47 (by decide) (fun r47 e47 => ?_)
            refine q_callV1 zm_RX12_162 dX12_readSum_49 (shM_k hs) (by decide) rfl (Nat.le_of_ble_eq_true rfl) (Nat.le_of_ble_eq_true rfl) (Nat.le_of_ble_eq_true rfl) (Nat.le_of_ble_eq_true rfl) (Nat.le_of_ble_eq_true rfl) (s_X12_laysStep_x G hs (nb _ p32) ?_)
            refine r_goto (t := 4) dX12_readSum_52 (by decide) ?_
            exact ih _ k2_z ((chP B n (atP B n (if lm = 5 then 8 else 6) 6) (opT B n)) (nxP B n r.2.1)) _ of32 d32 p32 (fun h_z => absurd h_z hq) (fun h_z => absurd h_z hq) (fun h_z => absurd h_z hq) ((lpP_bad hq).trans ((lpP_sub hr hop0 hq).symm.trans hR)) (by omega)
        have hc45 : rkP B n r.2.1 ≠ 45 := fun h_z => hc_z (hrm.mp h_z)
        have hop : opS B n r.2.1 = 0 := (if_neg hcn).trans (if_neg hc_z)
        have hv := (lpP_end (B := B) (n := n) (k := k) (sub := (chP B n (atP B n (if lm = 5 then 8 else 6) 6) (opT B n))) hop).symm.trans hR
        refine r_aloadR0 dX12_readSum_4 ?_
        refine n_bipush dX12_readSum_5 (by decide) (fun r5 e5_z => ?_)
        refine q_callV1 zm_RX12_175 dX12_readSum_7 (shM_k hs) (by decide) rfl (Nat.le_of_ble_eq_true rfl) (Nat.le_of_ble_eq_true rfl) (Nat.le_of_ble_eq_true rfl) (Nat.le_of_ble_eq_true rfl) (Nat.le_of_ble_eq_true rfl) (s_X12_isSign G hs (fun r7 e7_z => ?_))
        refine t_ifne (t := 22) dX12_readSum_10 (by decide) (fun h10 => False.elim (by omega)) (fun h10 => ?_)
        refine r_aloadR0 dX12_readSum_13 ?_
        refine n_bipush dX12_readSum_14 (by decide) (fun r14 e14_z => ?_)
        refine q_callV1 zm_RX12_175 dX12_readSum_16 (shM_k hs) (by decide) rfl (Nat.le_of_ble_eq_true rfl) (Nat.le_of_ble_eq_true rfl) (Nat.le_of_ble_eq_true rfl) (Nat.le_of_ble_eq_true rfl) (Nat.le_of_ble_eq_true rfl) (s_X12_isSign G hs (fun r16 e16_z => ?_))
        refine t_ifeq (t := 55) dX12_readSum_19 (by decide) (fun h19 => ?_) (fun h19 => False.elim (by omega))
        refine r_vret dX12_readSum_55 rfl (Nat.le_of_ble_eq_true rfl) (Nat.le_of_ble_eq_true rfl) ?_
        rw [← hv] at hQ
        exact hQ _ ofr hd2 hp2 hk2
      · have hb2 : (f2_z A 12).toInt ≠ 0 := by rw [hp2.1]; omega
        have hv := (lpP_bad (B := B) (n := n) (k := k) (sub := (chP B n (atP B n (if lm = 5 then 8 else 6) 6) (opT B n))) (op := opS B n) hr).symm.trans hR
        refine r_aloadR0 dX12_readSum_4 ?_
        refine n_bipush dX12_readSum_5 (by decide) (fun r5 e5_z => ?_)
        refine q_callV1 zm_RX12_175 dX12_readSum_7 (shM_k hs) (by decide) rfl (Nat.le_of_ble_eq_true rfl) (Nat.le_of_ble_eq_true rfl) (Nat.le_of_ble_eq_true rfl) (Nat.le_of_ble_eq_true rfl) (Nat.le_of_ble_eq_true rfl) (s_X12_isSign G hs (fun r7 e7_z => ?_))
        refine t_ifne (t := 22) dX12_readSum_10 (by decide) (fun h10 => False.elim (by omega)) (fun h10 => ?_)
        refine r_aloadR0 dX12_readSum_13 ?_
        refine n_bipush dX12_readSum_14 (by decide) (fun r14 e14_z => ?_)
        refine q_callV1 zm_RX12_175 dX12_readSum_16 (shM_k hs) (by decide) rfl (Nat.le_of_ble_eq_true rfl) (Nat.le_of_ble_eq_true rfl) (Nat.le_of_ble_eq_true rfl) (Nat.le_of_ble_eq_true rfl) (Nat.le_of_ble_eq_true rfl) (s_X12_isSign G hs (fun r16 e16_z => ?_))
        refine t_ifeq (t := 55) dX12_readSum_19 (by decide) (fun h19 => ?_) (fun h19 => False.elim (by omega))
        refine r_vret dX12_readSum_55 rfl (Nat.le_of_ble_eq_true rfl) (Nat.le_of_ble_eq_true rfl) ?_
        rw [← hv] at hQ
        exact hQ _ ofr hd2 hp2 hk2
  refine r_aloadR0 dX12_readSum_0 ?_
  refine q_callV0 zm_RX12_184 dX12_readSum_1 (shM_k hs) (by decide) rfl (Nat.le_of_ble_eq_true rfl) (Nat.le_of_ble_eq_true rfl) (Nat.le_of_ble_eq_true rfl) (Nat.le_of_ble_eq_true rfl) (Nat.le_of_ble_eq_true rfl) (s_X12_readTerm_6 G hs kw hld htp hps hd16 hlm hla hu h5 h29 h99 hup (fun g1 o1 d1 p1 k1_z => ?_))
  have gp := hgd p ht.1
  exact lp _ g1 n ((chP B n (atP B n (if lm = 5 then 8 else 6) 6) (opT B n)) p) _ o1 d1 p1 k1_z (fun h_z => ⟨Nat.le_of_lt (gp.1 h_z).1, (gp.1 h_z).2.1, (gp.1 h_z).2.2.1⟩) (fun _ => Nat.le_add_right n _) rfl (Nat.lt_succ_self n)
