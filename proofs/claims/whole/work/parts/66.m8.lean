/-! the reference: deeds -/
theorem ctKn_ex {K K2 : Nat → Int32} {T : zTb} (h_z : ctKn K T) (e : ∀ k, K2 k = K k) : ctKn K2 T := by
  have h9 : K2 = K := funext e
  rw [h9]; exact h_z
theorem wfT_mo {T : zTb} {Mn : zMo} (h_z : wfT T) (hm_z : wfMo (tbC T) Mn) : wfT (T.1, T.2.1, Mn, T.2.2.2) := by
  obtain ⟨h1, h2, h3, h4, h5, h6, h7, h8, h9, h10⟩ := h_z
  exact ⟨h1, h2, h3, h4, h5, h6, h7, hm_z, h9, h10⟩
theorem ctKn_nw {K K2 : Nat → Int32} {T : zTb} {Mn : zMo} (h_z : ctKn K T) (hw : wfT T) (e : ∀ k, (k < 7 ∨ 25 ≤ k) → K2 k = K k) (hm_z : ctMk K2 7 Mn) : ctKn K2 (T.1, T.2.1, Mn, T.2.2.2) := by
  refine ctKn_mo h_z hw (fun k hk => e k (by omega)) (by rw [e 6 (by omega)]; exact h_z.1.2.2.2.2.2.2) hm_z (fun i M hi_z => ?_)
  have hl := (List.getElem?_eq_some_iff.mp hi_z).1
  have h10 := hw.2.2.2.2.2.2.2.2.1
  exact ctMk_mv (h_z.2.2.2.1 i M hi_z) (hw.2.2.2.2.2.2.2.2.2 M (List.mem_of_getElem? hi_z)).2.1 (fun x hx => e _ (by omega))
theorem ctMk_put {K K2 : Nat → Int32} {M : zMo} {at_ v p : Nat} {x : Int32} (h_z : ctMk K 7 M) (h5 : M.2.length ≤ 5) (hat : at_ < 12) (hp : p = if at_ % 2 = 0 then 13 + at_ / 2 else 19 + at_ / 2) (hx : x.toInt = (v : Nat)) (e : ∀ k, K2 k = if k = p then x else K k) : ctMk K2 7 (moPut M at_ v) := by
  obtain ⟨h1, h2, h3⟩ := h_z
  have hp2 : 13 ≤ p ∧ p < 25 := by split at hp <;> omega
  refine ⟨?_, fun i d hi_z => ?_, fun c hc_z => ?_⟩
  · rw [e, if_neg (by omega)]; exact h1
  · have hl := (List.getElem?_eq_some_iff.mp hi_z).1
    have hl2 : i < M.2.length := hl
    rw [e, if_neg (by omega)]; exact h2 i d hi_z
  · have h9 := h3 c hc_z
    rw [e, e]
    show _ = (((if 2 * c = at_ then v else M.1 (2 * c) : Nat)) : Int) ∧ _ = (((if 2 * c + 1 = at_ then v else M.1 (2 * c + 1) : Nat)) : Int)
    split at hp
    · refine ⟨?_, ?_⟩
      · by_cases h8 : 2 * c = at_
        · rw [if_pos (by omega), if_pos h8]; exact hx
        · rw [if_neg (by omega), if_neg h8]; exact h9.1
      · rw [if_neg (by omega), if_neg (by omega)]; exact h9.2
    · refine ⟨?_, ?_⟩
      · rw [if_neg (by omega), if_neg (by omega)]; exact h9.1
      · by_cases h8 : 2 * c + 1 = at_
        · rw [if_pos (by omega), if_pos h8]; exact hx
        · rw [if_neg (by omega), if_neg h8]; exact h9.2
theorem tb_len5 {T : zTb} {d : Nat} (hw : wfT T) (hd_z : okD (tbC T) T.2.2.1 d) (h1 : d < 100) : T.2.2.1.2.length < 5 := by
  have h9 := (wfMo_do hw.2.2.2.2.2.2.2.1 hw.2.1 hd_z).2.1
  have hdo : moDo T.2.2.1 d = (T.2.2.1.1, T.2.2.1.2 ++ [d]) := by unfold moDo; rw [if_neg (by omega), if_neg (by omega), if_neg (by omega), if_neg (by omega)]
  rw [hdo] at h9
  have h8 : (T.2.2.1.2 ++ [d]).length ≤ 5 := h9
  rw [List.length_append, List.length_singleton] at h8
  omega
theorem tbDo_kp {T : zTb} {d : Nat} : ((tbKp T).1, (tbKp T).2.1, moDo (tbKp T).2.2.1 d, (tbKp T).2.2.2) = tbDo T d := rfl
set_option maxHeartbeats 4000000 in
set_option maxRecDepth 100000 in
theorem s_X12_does_no {g : zGT} {w : zW} {f : Nat → Nat → Int32} {j : Nat → Nat → Int64} {A : Nat} {x : Int32} {Q : Option Value → zW → Prop} {QX : String → zW → Prop} (G : zGok g) (hs : shM w A) (hx : x.toInt = -1) (hQ : Q none (zM w f j)) : zC g 2 yX12_does cX12_does 2 none [.ref A, .int x] (zM w f j) (0, 0) Q QX := by
  refine zC_of G (by decide +kernel) (Nat.le_of_ble_eq_true rfl) ?_
  refine r_iload1 dX12_does_0 ?_
  refine n_iconst dX12_does_1 (by decide) (fun r1 e1_z => ?_)
  refine t_icne (t := 6) dX12_does_2 (by decide) (fun h2 => False.elim (by omega)) (fun h2 => ?_)
  refine r_vret dX12_does_5 rfl (Nat.le_of_ble_eq_true rfl) (Nat.le_of_ble_eq_true rfl) ?_
  exact hQ
set_option maxHeartbeats 4000000 in
set_option maxRecDepth 100000 in
theorem s_X12_does_fo {g : zGT} {w : zW} {f : Nat → Nat → Int32} {j : Nat → Nat → Int64} {A : Nat} {T : zTb} {x : Int32} {d : Nat} {Q : Option Value → zW → Prop} {QX : String → zW → Prop} (G : zGok g) (hs : shM w A) (hk : ctKn (f (A + 1)) T) (hw : wfT T) (hd_z : okD (tbC T) T.2.2.1 d) (hx : x.toInt = (d : Nat)) (h1 : d < 100) (hQ : ∀ f2_z, frM A [1] [] f f2_z → (∀ k, (k < 7 ∨ 25 ≤ k) → f2_z (A + 1) k = f (A + 1) k) → ctKn (f2_z (A + 1)) (T.1, T.2.1, moDo T.2.2.1 d, T.2.2.2) → Q none (zM w f2_z j)) : zC g 2 yX12_does cX12_does 2 none [.ref A, .int x] (zM w f j) (0, 0) Q QX := by
  refine zC_of G (by decide +kernel) (Nat.le_of_ble_eq_true rfl) ?_
  have hk9 := hk
  obtain ⟨⟨k0_z, k1_z, k2_z, k3_z, k4_z, k5_z, k6_z⟩, km, kg, kp, kl1, kl2, kl3⟩ := hk9
  have km9 := km
  obtain ⟨m1_z, m2_z, m3_z⟩ := km9
  have hn6 : tbC T ≤ 6 := hw.2.1
  have hg4 : tbG T ≤ 4 := hw.2.2.1
  have hwm := hw.2.2.2.2.2.2.2.1
  have hml : T.2.2.1.2.length ≤ 5 := hwm.2.1
  have hm99 := hwm.2.2
  have hrt := wfT_rch hw
  have hLl : (tbL T).length ≤ 6 := Nat.le_trans (rch_cell hrt).2.2.2.2 hn6
  have hpl : T.2.2.2.length ≤ 10 := hw.2.2.2.2.2.2.2.2.1
  have hl5 := tb_len5 hw hd_z h1
  have hdo : moDo T.2.2.1 d = (T.2.2.1.1, T.2.2.1.2 ++ [d]) := by unfold moDo; rw [if_neg (by omega), if_neg (by omega), if_neg (by omega), if_neg (by omega)]
  refine r_iload1 dX12_does_0 ?_
  refine n_iconst dX12_does_1 (by decide) (fun r1 e1_z => ?_)
  refine t_icne (t := 6) dX12_does_2 (by decide) (fun h2 => ?_) (fun h2 => False.elim (by omega))
  refine r_iload1 dX12_does_6 ?_
  refine n_bipush dX12_does_7 (by decide) (fun r7 e7_z => ?_)
  refine t_icge (t := 20) dX12_does_9 (by decide) (fun h9 => False.elim (by omega)) (fun h9 => ?_)
  refine r_aloadR0 dX12_does_12 ?_
  refine r_iload1 dX12_does_13 ?_
  refine q_callV1 zm_RX12_365 dX12_does_14 (shM_k hs) (by decide) rfl (Nat.le_of_ble_eq_true rfl) (Nat.le_of_ble_eq_true rfl) (Nat.le_of_ble_eq_true rfl) (Nat.le_of_ble_eq_true rfl) (Nat.le_of_ble_eq_true rfl) (s_X12_addsFold (d := d) (M := T.2.2.1) G hs km hl5 hx (fun f2_z a1 a2 a3 => ?_))
  refine r_goto (t := 89) dX12_does_17 (by decide) ?_
  refine r_vret dX12_does_89 rfl (Nat.le_of_ble_eq_true rfl) (Nat.le_of_ble_eq_true rfl) ?_
  refine hQ f2_z ⟨fun q hq => a1 q (by omega), fun r h2 h3 h4 => a1 _ (by intro e9_z; exact h4 (by simp; omega)), fun k _ => by rw [a1 A (by omega)]⟩ (fun k hk => a2 k (by omega)) (ctKn_nw hk hw (fun k hk => a2 k (by omega)) ?_)
  rw [hdo]; exact a3
set_option maxHeartbeats 4000000 in
set_option maxRecDepth 100000 in
theorem s_X12_does_un {g : zGT} {w : zW} {f : Nat → Nat → Int32} {j : Nat → Nat → Int64} {A : Nat} {T : zTb} {x : Int32} {d : Nat} {Q : Option Value → zW → Prop} {QX : String → zW → Prop} (G : zGok g) (hs : shM w A) (hk : ctKn (f (A + 1)) T) (hw : wfT T) (hd_z : okD (tbC T) T.2.2.1 d) (hx : x.toInt = (d : Nat)) (h1 : d = 100) (h2 : 1 ≤ T.2.2.1.2.length) (hQ : ∀ f2_z, frM A [1] [] f f2_z → (∀ k, (k < 7 ∨ 25 ≤ k) → f2_z (A + 1) k = f (A + 1) k) → ctKn (f2_z (A + 1)) (T.1, T.2.1, moDo T.2.2.1 d, T.2.2.2) → Q none (zM w f2_z j)) : zC g 2 yX12_does cX12_does 2 none [.ref A, .int x] (zM w f j) (0, 0) Q QX := by
  refine zC_of G (by decide +kernel) (Nat.le_of_ble_eq_true rfl) ?_
  have hk9 := hk
  obtain ⟨⟨k0_z, k1_z, k2_z, k3_z, k4_z, k5_z, k6_z⟩, km, kg, kp, kl1, kl2, kl3⟩ := hk9
  have km9 := km
  obtain ⟨m1_z, m2_z, m3_z⟩ := km9
  have hn6 : tbC T ≤ 6 := hw.2.1
  have hg4 : tbG T ≤ 4 := hw.2.2.1
  have hwm := hw.2.2.2.2.2.2.2.1
  have hml : T.2.2.1.2.length ≤ 5 := hwm.2.1
  have hm99 := hwm.2.2
  have hrt := wfT_rch hw
  have hLl : (tbL T).length ≤ 6 := Nat.le_trans (rch_cell hrt).2.2.2.2 hn6
  have hpl : T.2.2.2.length ≤ 10 := hw.2.2.2.2.2.2.2.2.1
  have hdo : moDo T.2.2.1 d = (T.2.2.1.1, T.2.2.1.2.dropLast) := by unfold moDo; rw [if_neg (by omega), if_neg (by omega), if_neg (by omega), if_pos (by omega)]
  refine r_iload1 dX12_does_0 ?_
  refine n_iconst dX12_does_1 (by decide) (fun r1 e1_z => ?_)
  refine t_icne (t := 6) dX12_does_2 (by decide) (fun h2 => ?_) (fun h2 => False.elim (by omega))
  refine r_iload1 dX12_does_6 ?_
  refine n_bipush dX12_does_7 (by decide) (fun r7 e7_z => ?_)
  refine t_icge (t := 20) dX12_does_9 (by decide) (fun h9 => ?_) (fun h9 => False.elim (by omega))
  refine r_iload1 dX12_does_20 ?_
  refine n_bipush dX12_does_21 (by decide) (fun r21 e21_z => ?_)
  refine t_icne (t := 40) dX12_does_23 (by decide) (fun h23 => False.elim (by omega)) (fun h23 => ?_)
  refine r_aloadR0 dX12_does_26 ?_
  refine m_getR (q := (A + 1)) zf_RX12_9 rfl dX12_does_27 (shM_k hs) (shM_p1 hs) ?_
  refine n_bipush dX12_does_30 (by decide) (fun r30 e30 => ?_)
  refine r_dup2 dX12_does_32 rfl rfl ?_
  refine m_iald (k := 7) (x := (f (A + 1) 7)) dX12_does_33 (shM_k1 hs) (shM_n1 hs) (by omega) (by omega) (rfl) ?_
  refine n_iconst dX12_does_34 (by decide) (fun r34 e34 => ?_)
  refine n_isub dX12_does_35 (by omega) (fun r35 e35 => ?_)
  refine m_iast (k := 7) dX12_does_36 (shM_k1 hs) (shM_n1 hs) (by omega) (by omega) ?_
  refine r_goto (t := 89) dX12_does_37 (by decide) ?_
  refine r_vret dX12_does_89 rfl (Nat.le_of_ble_eq_true rfl) (Nat.le_of_ble_eq_true rfl) ?_
  refine hQ _ (frM_zr (r := 1) frM_rf (by decide) (by decide) (by decide)) (fun k hk => zu_nn (Or.inr (by omega))) (ctKn_nw hk hw (fun k hk => zu_nn (Or.inr (by omega))) ?_)
  rw [hdo]
  refine ⟨?_, fun i e hi_z => ?_, fun c hc_z => ?_⟩
  · rw [zu_at]; show _ = (T.2.2.1.2.dropLast.length : Int); rw [List.length_dropLast]; omega
  · have hi2 : T.2.2.1.2.dropLast[i]? = some e := hi_z
    rw [List.dropLast_eq_take, List.getElem?_take] at hi2
    split at hi2
    · rw [zu_nn (Or.inr (by omega))]; exact m2_z i e hi2
    · exact absurd hi2 (by simp)
  · rw [zu_nn (Or.inr (by omega)), zu_nn (Or.inr (by omega))]; exact m3_z c hc_z
set_option maxHeartbeats 4000000 in
set_option maxRecDepth 100000 in
theorem s_X12_does_sh {g : zGT} {w : zW} {f : Nat → Nat → Int32} {j : Nat → Nat → Int64} {A : Nat} {T : zTb} {x : Int32} {d : Nat} {Q : Option Value → zW → Prop} {QX : String → zW → Prop} (G : zGok g) (hs : shM w A) (hk : ctKn (f (A + 1)) T) (hw : wfT T) (hd_z : okD (tbC T) T.2.2.1 d) (hx : x.toInt = (d : Nat)) (h1 : d = 200) (hQ : ∀ f2_z, frM A [1] [] f f2_z → (∀ k, (k < 7 ∨ 25 ≤ k) → f2_z (A + 1) k = f (A + 1) k) → ctKn (f2_z (A + 1)) (T.1, T.2.1, moDo T.2.2.1 d, T.2.2.2) → Q none (zM w f2_z j)) : zC g 2 yX12_does cX12_does 2 none [.ref A, .int x] (zM w f j) (0, 0) Q QX := by
  refine zC_of G (by decide +kernel) (Nat.le_of_ble_eq_true rfl) ?_
  have hk9 := hk
  obtain ⟨⟨k0_z, k1_z, k2_z, k3_z, k4_z, k5_z, k6_z⟩, km, kg, kp, kl1, kl2, kl3⟩ := hk9
  have km9 := km
  obtain ⟨m1_z, m2_z, m3_z⟩ := km9
  have hn6 : tbC T ≤ 6 := hw.2.1
  have hg4 : tbG T ≤ 4 := hw.2.2.1
  have hwm := hw.2.2.2.2.2.2.2.1
  have hml : T.2.2.1.2.length ≤ 5 := hwm.2.1
  have hm99 := hwm.2.2
  have hrt := wfT_rch hw
  have hLl : (tbL T).length ≤ 6 := Nat.le_trans (rch_cell hrt).2.2.2.2 hn6
  have hpl : T.2.2.2.length ≤ 10 := hw.2.2.2.2.2.2.2.2.1
  have hdo : moDo T.2.2.1 d = (T.2.2.1.1, []) := by unfold moDo; rw [if_neg (by omega), if_neg (by omega), if_pos (by omega)]
  refine r_iload1 dX12_does_0 ?_
  refine n_iconst dX12_does_1 (by decide) (fun r1 e1_z => ?_)
  refine t_icne (t := 6) dX12_does_2 (by decide) (fun h2 => ?_) (fun h2 => False.elim (by omega))
  refine r_iload1 dX12_does_6 ?_
  refine n_bipush dX12_does_7 (by decide) (fun r7 e7_z => ?_)
  refine t_icge (t := 20) dX12_does_9 (by decide) (fun h9 => ?_) (fun h9 => False.elim (by omega))
  refine r_iload1 dX12_does_20 ?_
  refine n_bipush dX12_does_21 (by decide) (fun r21 e21_z => ?_)
  refine t_icne (t := 40) dX12_does_23 (by decide) (fun h23 => ?_) (fun h23 => False.elim (by omega))
  refine r_iload1 dX12_does_40 ?_
  refine n_sipush dX12_does_41 (by decide) (fun r41 e41_z => ?_)
  refine t_icne (t := 58) dX12_does_44 (by decide) (fun h44 => False.elim (by omega)) (fun h44 => ?_)
  refine r_aloadR0 dX12_does_47 ?_
  refine m_getR (q := (A + 1)) zf_RX12_9 rfl dX12_does_48 (shM_k hs) (shM_p1 hs) ?_
  refine n_bipush dX12_does_51 (by decide) (fun r51 e51 => ?_)
  refine n_iconst dX12_does_53 (by decide) (fun r53 e53 => ?_)
  refine m_iast (k := 7) dX12_does_54 (shM_k1 hs) (shM_n1 hs) (by omega) (by omega) ?_
  refine r_goto (t := 89) dX12_does_55 (by decide) ?_
  refine r_vret dX12_does_89 rfl (Nat.le_of_ble_eq_true rfl) (Nat.le_of_ble_eq_true rfl) ?_
  refine hQ _ (frM_zr (r := 1) frM_rf (by decide) (by decide) (by decide)) (fun k hk => zu_nn (Or.inr (by omega))) (ctKn_nw hk hw (fun k hk => zu_nn (Or.inr (by omega))) ?_)
  rw [hdo]
  refine ⟨?_, fun i e hi_z => ?_, fun c hc_z => ?_⟩
  · rw [zu_at]; show _ = ((0 : Nat) : Int); omega
  · exact absurd hi_z (by simp)
  · rw [zu_nn (Or.inr (by omega)), zu_nn (Or.inr (by omega))]; exact m3_z c hc_z
set_option maxHeartbeats 4000000 in
set_option maxRecDepth 100000 in
theorem s_X12_does_fr {g : zGT} {w : zW} {f : Nat → Nat → Int32} {j : Nat → Nat → Int64} {A : Nat} {T : zTb} {x : Int32} {d : Nat} {Q : Option Value → zW → Prop} {QX : String → zW → Prop} (G : zGok g) (hs : shM w A) (hk : ctKn (f (A + 1)) T) (hw : wfT T) (hd_z : okD (tbC T) T.2.2.1 d) (hx : x.toInt = (d : Nat)) (h1 : 1000 ≤ d) (h2 : d < 1600) (hQ : ∀ f2_z, frM A [1] [] f f2_z → (∀ k, (k < 7 ∨ 25 ≤ k) → f2_z (A + 1) k = f (A + 1) k) → ctKn (f2_z (A + 1)) (T.1, T.2.1, moDo T.2.2.1 d, T.2.2.2) → Q none (zM w f2_z j)) : zC g 2 yX12_does cX12_does 2 none [.ref A, .int x] (zM w f j) (0, 0) Q QX := by
  refine zC_of G (by decide +kernel) (Nat.le_of_ble_eq_true rfl) ?_
  have hk9 := hk
  obtain ⟨⟨k0_z, k1_z, k2_z, k3_z, k4_z, k5_z, k6_z⟩, km, kg, kp, kl1, kl2, kl3⟩ := hk9
  have km9 := km
  obtain ⟨m1_z, m2_z, m3_z⟩ := km9
  have hn6 : tbC T ≤ 6 := hw.2.1
  have hg4 : tbG T ≤ 4 := hw.2.2.1
  have hwm := hw.2.2.2.2.2.2.2.1
  have hml : T.2.2.1.2.length ≤ 5 := hwm.2.1
  have hm99 := hwm.2.2
  have hrt := wfT_rch hw
  have hLl : (tbL T).length ≤ 6 := Nat.le_trans (rch_cell hrt).2.2.2.2 hn6
  have hpl : T.2.2.2.length ≤ 10 := hw.2.2.2.2.2.2.2.2.1
  have hdo : moDo T.2.2.1 d = moPut T.2.2.1 (2 * ((d - 1000) / 100)) ((d - 1000) % 100) := by unfold moDo; rw [if_neg (by omega), if_pos (by omega)]
  refine r_iload1 dX12_does_0 ?_
  refine n_iconst dX12_does_1 (by decide) (fun r1 e1_z => ?_)
  refine t_icne (t := 6) dX12_does_2 (by decide) (fun h2 => ?_) (fun h2 => False.elim (by omega))
  refine r_iload1 dX12_does_6 ?_
  refine n_bipush dX12_does_7 (by decide) (fun r7 e7_z => ?_)
  refine t_icge (t := 20) dX12_does_9 (by decide) (fun h9 => ?_) (fun h9 => False.elim (by omega))
  refine r_iload1 dX12_does_20 ?_
  refine n_bipush dX12_does_21 (by decide) (fun r21 e21_z => ?_)
  refine t_icne (t := 40) dX12_does_23 (by decide) (fun h23 => ?_) (fun h23 => False.elim (by omega))
  refine r_iload1 dX12_does_40 ?_
  refine n_sipush dX12_does_41 (by decide) (fun r41 e41_z => ?_)
  refine t_icne (t := 58) dX12_does_44 (by decide) (fun h44 => ?_) (fun h44 => False.elim (by omega))
  refine r_aloadR0 dX12_does_58 ?_
  refine m_getR (q := (A + 1)) zf_RX12_9 rfl dX12_does_59 (shM_k hs) (shM_p1 hs) ?_
  refine n_bipush dX12_does_62 (by decide) (fun r62 e62 => ?_)
  refine n_bipush dX12_does_64 (by decide) (fun r64 e64 => ?_)
  refine r_iload1 dX12_does_66 ?_
  refine n_sipush dX12_does_67 (by decide) (fun r67 e67 => ?_)
  refine n_idivc (c := 1000) dX12_does_70 e67 (by decide) (by omega) (fun r70 e70 => ?_)
  refine n_iconst dX12_does_71 (by decide) (fun r71 e71_z => ?_)
  refine n_isub dX12_does_72 (by omega) (fun r72 e72_z => ?_)
  refine n_imulc dX12_does_73 e64 (by omega) (fun r73 e73 => ?_)
  refine n_iadd dX12_does_74 (by omega) (fun r74 e74_z => ?_)
  refine r_iload1 dX12_does_75 ?_
  refine n_sipush dX12_does_76 (by decide) (fun r76 e76 => ?_)
  refine n_iremc (c := 1000) dX12_does_79 e76 (by decide) (by omega) (fun r79 e79 => ?_)
  refine n_bipush dX12_does_80 (by decide) (fun r80 e80 => ?_)
  refine n_idivc (c := 100) dX12_does_82 e80 (by decide) (by omega) (fun r82 e82 => ?_)
  refine n_iadd dX12_does_83 (by omega) (fun r83 e83 => ?_)
  refine r_iload1 dX12_does_84 ?_
  refine n_bipush dX12_does_85 (by decide) (fun r85 e85 => ?_)
  refine n_iremc (c := 100) dX12_does_87 e85 (by decide) (by omega) (fun r87 e87 => ?_)
  refine m_iast (k := (13 + (d - 1000) / 100)) dX12_does_88 (shM_k1 hs) (shM_n1 hs) (by omega) (by omega) ?_
  refine r_vret dX12_does_89 rfl (Nat.le_of_ble_eq_true rfl) (Nat.le_of_ble_eq_true rfl) ?_
  refine hQ _ (frM_zr (r := 1) frM_rf (by decide) (by decide) (by decide)) (fun k hk => zu_nn (Or.inr (by omega))) (ctKn_nw hk hw (fun k hk => zu_nn (Or.inr (by omega))) ?_)
  rw [hdo]
  refine ctMk_put (p := (13 + (d - 1000) / 100)) km hml (by omega) ?_ (v := (d - 1000) % 100) (by omega) (fun k => zu_s2)
  split <;> omega
set_option maxHeartbeats 4000000 in
set_option maxRecDepth 100000 in
theorem s_X12_does_ba {g : zGT} {w : zW} {f : Nat → Nat → Int32} {j : Nat → Nat → Int64} {A : Nat} {T : zTb} {x : Int32} {d : Nat} {Q : Option Value → zW → Prop} {QX : String → zW → Prop} (G : zGok g) (hs : shM w A) (hk : ctKn (f (A + 1)) T) (hw : wfT T) (hd_z : okD (tbC T) T.2.2.1 d) (hx : x.toInt = (d : Nat)) (h1 : 2000 ≤ d) (h2 : d < 2600) (hQ : ∀ f2_z, frM A [1] [] f f2_z → (∀ k, (k < 7 ∨ 25 ≤ k) → f2_z (A + 1) k = f (A + 1) k) → ctKn (f2_z (A + 1)) (T.1, T.2.1, moDo T.2.2.1 d, T.2.2.2) → Q none (zM w f2_z j)) : zC g 2 yX12_does cX12_does 2 none [.ref A, .int x] (zM w f j) (0, 0) Q QX := by
  refine zC_of G (by decide +kernel) (Nat.le_of_ble_eq_true rfl) ?_
  have hk9 := hk
  obtain ⟨⟨k0_z, k1_z, k2_z, k3_z, k4_z, k5_z, k6_z⟩, km, kg, kp, kl1, kl2, kl3⟩ := hk9
  have km9 := km
  obtain ⟨m1_z, m2_z, m3_z⟩ := km9
  have hn6 : tbC T ≤ 6 := hw.2.1
  have hg4 : tbG T ≤ 4 := hw.2.2.1
  have hwm := hw.2.2.2.2.2.2.2.1
  have hml : T.2.2.1.2.length ≤ 5 := hwm.2.1
  have hm99 := hwm.2.2
  have hrt := wfT_rch hw
  have hLl : (tbL T).length ≤ 6 := Nat.le_trans (rch_cell hrt).2.2.2.2 hn6
  have hpl : T.2.2.2.length ≤ 10 := hw.2.2.2.2.2.2.2.2.1
  have hdo : moDo T.2.2.1 d = moPut T.2.2.1 (2 * ((d - 2000) / 100) + 1) ((d - 2000) % 100) := by unfold moDo; rw [if_pos (by omega)]
  refine r_iload1 dX12_does_0 ?_
  refine n_iconst dX12_does_1 (by decide) (fun r1 e1_z => ?_)
  refine t_icne (t := 6) dX12_does_2 (by decide) (fun h2 => ?_) (fun h2 => False.elim (by omega))
  refine r_iload1 dX12_does_6 ?_
  refine n_bipush dX12_does_7 (by decide) (fun r7 e7_z => ?_)
  refine t_icge (t := 20) dX12_does_9 (by decide) (fun h9 => ?_) (fun h9 => False.elim (by omega))
  refine r_iload1 dX12_does_20 ?_
  refine n_bipush dX12_does_21 (by decide) (fun r21 e21_z => ?_)
  refine t_icne (t := 40) dX12_does_23 (by decide) (fun h23 => ?_) (fun h23 => False.elim (by omega))
  refine r_iload1 dX12_does_40 ?_
  refine n_sipush dX12_does_41 (by decide) (fun r41 e41_z => ?_)
  refine t_icne (t := 58) dX12_does_44 (by decide) (fun h44 => ?_) (fun h44 => False.elim (by omega))
  refine r_aloadR0 dX12_does_58 ?_
  refine m_getR (q := (A + 1)) zf_RX12_9 rfl dX12_does_59 (shM_k hs) (shM_p1 hs) ?_
  refine n_bipush dX12_does_62 (by decide) (fun r62 e62 => ?_)
  refine n_bipush dX12_does_64 (by decide) (fun r64 e64 => ?_)
  refine r_iload1 dX12_does_66 ?_
  refine n_sipush dX12_does_67 (by decide) (fun r67 e67 => ?_)
  refine n_idivc (c := 1000) dX12_does_70 e67 (by decide) (by omega) (fun r70 e70 => ?_)
  refine n_iconst dX12_does_71 (by decide) (fun r71 e71_z => ?_)
  refine n_isub dX12_does_72 (by omega) (fun r72 e72_z => ?_)
  refine n_imulc dX12_does_73 e64 (by omega) (fun r73 e73 => ?_)
  refine n_iadd dX12_does_74 (by omega) (fun r74 e74_z => ?_)
  refine r_iload1 dX12_does_75 ?_
  refine n_sipush dX12_does_76 (by decide) (fun r76 e76 => ?_)
  refine n_iremc (c := 1000) dX12_does_79 e76 (by decide) (by omega) (fun r79 e79 => ?_)
  refine n_bipush dX12_does_80 (by decide) (fun r80 e80 => ?_)
  refine n_idivc (c := 100) dX12_does_82 e80 (by decide) (by omega) (fun r82 e82 => ?_)
  refine n_iadd dX12_does_83 (by omega) (fun r83 e83 => ?_)
  refine r_iload1 dX12_does_84 ?_
  refine n_bipush dX12_does_85 (by decide) (fun r85 e85 => ?_)
  refine n_iremc (c := 100) dX12_does_87 e85 (by decide) (by omega) (fun r87 e87 => ?_)
  refine m_iast (k := (19 + (d - 2000) / 100)) dX12_does_88 (shM_k1 hs) (shM_n1 hs) (by omega) (by omega) ?_
  refine r_vret dX12_does_89 rfl (Nat.le_of_ble_eq_true rfl) (Nat.le_of_ble_eq_true rfl) ?_
  refine hQ _ (frM_zr (r := 1) frM_rf (by decide) (by decide) (by decide)) (fun k hk => zu_nn (Or.inr (by omega))) (ctKn_nw hk hw (fun k hk => zu_nn (Or.inr (by omega))) ?_)
  rw [hdo]
  refine ctMk_put (p := (19 + (d - 2000) / 100)) km hml (by omega) ?_ (v := (d - 2000) % 100) (by omega) (fun k => zu_s2)
  split <;> omega
theorem s_X12_does {g : zGT} {w : zW} {f : Nat → Nat → Int32} {j : Nat → Nat → Int64} {A : Nat} {T : zTb} {x : Int32} {d : Nat} {Q : Option Value → zW → Prop} {QX : String → zW → Prop} (G : zGok g) (hs : shM w A) (hk : ctKn (f (A + 1)) T) (hw : wfT T) (hd_z : okD (tbC T) T.2.2.1 d) (hx : x.toInt = (d : Nat)) (h2 : d = 100 → 1 ≤ T.2.2.1.2.length) (hQ : ∀ f2_z, frM A [1] [] f f2_z → (∀ k, (k < 7 ∨ 25 ≤ k) → f2_z (A + 1) k = f (A + 1) k) → ctKn (f2_z (A + 1)) (T.1, T.2.1, moDo T.2.2.1 d, T.2.2.2) → Q none (zM w f2_z j)) : zC g 2 yX12_does cX12_does 2 none [.ref A, .int x] (zM w f j) (0, 0) Q QX := by
  have hd9 := hd_z
  rcases hd9 with e | e | e | e | e
  · exact s_X12_does_un G hs hk hw hd_z hx e (h2 e) hQ
  · exact s_X12_does_sh G hs hk hw hd_z hx e hQ
  · exact s_X12_does_fo G hs hk hw hd_z hx e.1 hQ
  · exact s_X12_does_fr G hs hk hw hd_z hx e.1 e.2 hQ
  · exact s_X12_does_ba G hs hk hw hd_z hx e.1 e.2 hQ
