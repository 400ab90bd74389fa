/-! the class: deeds -/
def okP (X q k : Nat) : Prop := q < X + 261 ∧ ¬ (q = X + 21 ∨ q = X + 118 ∨ q = X + 159 ∨ q = X + 200 ∨ (q = X + 11 ∨ q = X + 108 ∨ q = X + 149 ∨ q = X + 190) ∧ k = 0 ∨ q = X + 2 ∧ k ≠ 8)
theorem shMo_P {w : zW} {P2 : Nat → Nat → Option Nat} {a : Nat} (h_z : shMo w a) (e : ∀ k, P2 a k = zP w a k) : shMo (zsP w P2) a := ⟨h_z.1, (e 0).trans h_z.2.1, (e 1).trans h_z.2.2.1, h_z.2.2.2⟩
theorem shTb_P {w : zW} {P2 : Nat → Nat → Option Nat} {a : Nat} (h_z : shTb w a) (e : ∀ q k, (q = a ∧ k ≠ 0 ∨ a + 7 ≤ q ∧ q < a + 41 ∧ q ≠ a + 10) → P2 q k = zP w q k) : shTb (zsP w P2) a := by
  obtain ⟨m1_z, m2_z, m3_z, m4_z, m5_z, m6_z, m7_z⟩ := h_z
  exact ⟨m1_z, (e a 1 (by omega)).trans m2_z, (e a 2 (by omega)).trans m3_z, m4_z, m5_z, shMo_P m6_z (fun k => e _ k (by omega)), fun i hi_z => shMo_P (m7_z i hi_z) (fun k => e _ k (by omega))⟩
theorem shX_P {w : zW} {P2 : Nat → Nat → Option Nat} {X : Nat} (h_z : shX w X) (e : ∀ q k, okP X q k → P2 q k = zP w q k) : shX (zsP w P2) X := by
  obtain ⟨h1, h2, h3, ⟨h4, h5⟩, h6, h7, h8, ⟨b1, b2, b3, b4⟩, ⟨c1_z, c2_z, c3_z, c4_z, c5_z⟩, ⟨d1, d2, d3, d4, d5⟩, ⟨l1, l2, l3, l4, l5⟩, ⟨k1_z, k2_z, k3_z, k4_z, k5_z⟩, h14⟩ := h_z
  have lay : ∀ a, X + 57 ≤ a → a + 4 ≤ X + 101 → shLay w a → shLay (zsP w P2) a := fun a ha_z ha2 hl => ⟨hl.1, (e a 0 (by unfold okP; omega)).trans hl.2.1, (e a 1 (by unfold okP; omega)).trans hl.2.2.1, (e a 2 (by unfold okP; omega)).trans hl.2.2.2.1, hl.2.2.2.2⟩
  refine ⟨h1, fun q hq => (e X q.1 (by unfold okP; omega)).trans (h2 q hq), h3, ⟨h4, (e (X + 2) 8 (by unfold okP; omega)).trans h5⟩, ?_, fun i hi_z => ?_, fun i hi_z => ?_, ?_, ?_, ?_, ?_, ?_, ?_⟩
  · exact shTb_P h6 (fun q k hq => e q k (by unfold okP; omega))
  · exact ⟨shTb_P (h7 i hi_z).1 (fun q k hq => e q k (by unfold okP; omega)), (e (X + 52) i (by unfold okP; omega)).trans (h7 i hi_z).2⟩
  · obtain ⟨⟨t1, t2, t3⟩, t4⟩ := h8 i hi_z
    exact ⟨⟨t1, (e _ 0 (by unfold okP; omega)).trans t2, t3⟩, (e (X + 53) i (by unfold okP; omega)).trans t4⟩
  · exact ⟨b1, (e _ 0 (by unfold okP; omega)).trans b2, (e _ 1 (by unfold okP; omega)).trans b3, b4⟩
  · exact ⟨c1_z, fun k hk => ⟨(e _ k (by unfold okP; omega)).trans (c2_z k hk).1, (c2_z k hk).2⟩, (e _ 9 (by unfold okP; omega)).trans c3_z, (e _ 10 (by unfold okP; omega)).trans c4_z, lay _ (by omega) (by omega) c5_z.1, lay _ (by omega) (by omega) c5_z.2⟩
  · exact ⟨d1, fun k hk => ⟨(e _ k (by unfold okP; omega)).trans (d2 k hk).1, (d2 k hk).2⟩, (e _ 9 (by unfold okP; omega)).trans d3, (e _ 10 (by unfold okP; omega)).trans d4, lay _ (by omega) (by omega) d5.1, lay _ (by omega) (by omega) d5.2⟩
  · exact lay _ (by omega) (by omega) ⟨l1, l2, l3, l4, l5⟩
  · exact lay _ (by omega) (by omega) ⟨k1_z, k2_z, k3_z, k4_z, k5_z⟩
  · exact shMo_P h14 (fun k => e _ k (by unfold okP; omega))
/-- a deed's effect on the table -/
def tbDo (T : zTb) (d : Nat) : zTb := (T.1, T.2.1, moDo T.2.2.1 d, (if T.2.2.2.length = 10 then T.2.2.2.drop 1 else T.2.2.2) ++ [T.2.2.1])
def okD (n : Nat) (M : zMo) (d : Nat) : Prop := d = 100 ∨ d = 200 ∨ (d < 100 ∧ 1 ≤ d / 10 ∧ d / 10 < (layM n M.2).length ∧ d % 10 < 4) ∨ (1000 ≤ d ∧ d < 1600) ∨ (2000 ≤ d ∧ d < 2600)
theorem okF_app {n d : Nat} {l : List Nat} {L : zLy} (h_z : okF n l L) (hd_z : 1 ≤ d / 10 ∧ d / 10 < (l.foldl (fun L d => lyFold L (d / 10) (d % 10)) L).length ∧ d % 10 < 4) : okF n (l ++ [d]) L := by
  induction l generalizing L with
  | nil => exact ⟨hd_z, trivial⟩
  | cons e l ih => exact ⟨h_z.1, ih h_z.2 hd_z⟩
/-- folds make it narrower -/
theorem lay_narrow {n : Nat} {l : List Nat} {L : zLy} (h_z : okF n l L) : (l.foldl (fun L d => lyFold L (d / 10) (d % 10)) L).length + l.length ≤ L.length := by
  induction l generalizing L with
  | nil => exact Nat.le_refl _
  | cons e l ih =>
    have h1 := ih h_z.2
    have h2 := h_z.1
    rw [lyFold_len] at h1
    unfold lySpan at h1
    rw [List.length_cons, List.foldl_cons]
    omega
theorem wfMo_do {n d : Nat} {M : zMo} (h_z : wfMo n M) (hn : n ≤ 6) (hd_z : okD n M d) : wfMo n (moDo M d) := by
  obtain ⟨h1, h2, h3⟩ := h_z
  have put : ∀ i v, v ≤ 99 → wfMo n (moPut M i v) := fun i v hv => ⟨h1, h2, fun k => by show (if k = i then v else M.1 k) ≤ 99; split; exact hv; exact h3 k⟩
  have tak : ∀ k, wfMo n (M.1, M.2.take k) := fun k => ⟨okF_take h1 k, by rw [List.length_take]; omega, h3⟩
  unfold moDo
  split
  · exact put _ _ (by omega)
  split
  · exact put _ _ (by omega)
  split
  · exact ⟨trivial, Nat.zero_le _, h3⟩
  split
  · rw [List.dropLast_eq_take]
    exact tak _
  · rename_i a1 a2 a3 a4
    rcases hd_z with e | e | ⟨e1_z, e2_z, e3_z, e4_z⟩ | e | e
    · exact absurd e a4
    · exact absurd e a3
    · have hnar := lay_narrow h1
      rw [lyFlat_len] at hnar
      refine ⟨okF_app h1 ⟨e2_z, e3_z, e4_z⟩, ?_, h3⟩
      rw [List.length_append, List.length_singleton]
      have e5_z : (layM n M.2).length = (M.2.foldl (fun L d => lyFold L (d / 10) (d % 10)) (lyFlat n)).length := rfl
      omega
    · omega
    · omega
theorem wfT_do {T : zTb} {d : Nat} (h_z : wfT T) (hd_z : okD (tbC T) T.2.2.1 d) : wfT (tbDo T d) := by
  obtain ⟨h1, h2, h3, h4, h5, h6, h7, h8, h9, h10⟩ := h_z
  refine ⟨h1, h2, h3, h4, h5, h6, h7, wfMo_do h8 h2 hd_z, ?_, fun M hM_z => ?_⟩
  · show ((if T.2.2.2.length = 10 then T.2.2.2.drop 1 else T.2.2.2) ++ [T.2.2.1]).length ≤ 10
    rw [List.length_append, List.length_singleton]
    split
    · rw [List.length_drop]; omega
    · omega
  · have hM2 : M ∈ (if T.2.2.2.length = 10 then T.2.2.2.drop 1 else T.2.2.2) ++ [T.2.2.1] := hM_z
    rcases List.mem_append.mp hM2 with hM3 | hM3
    · refine h10 M ?_
      split at hM3
      · exact List.mem_of_mem_drop hM3
      · exact hM3
    · rw [List.mem_singleton.mp hM3]
      exact h8
def frT (X : Nat) (f f2_z : Nat → Nat → Int32) : Prop := ∀ q, ¬ (q = X + 11 ∨ X + 18 ≤ q ∧ q < X + 52) → f2_z q = f q
theorem frT_rf {X : Nat} {f : Nat → Nat → Int32} : frT X f f := fun _ _ => rfl
theorem frT_tr {X : Nat} {f f2_z f3_z : Nat → Nat → Int32} (h_z : frT X f f2_z) (h2 : frT X f2_z f3_z) : frT X f f3_z := fun q hq => (h2 q hq).trans (h_z q hq)
theorem frT_z {X q : Nat} {f f2_z : Nat → Nat → Int32} (h_z : frT X f f2_z) (hq : zoneX X q) : f2_z q = f q := h_z q (by unfold zoneX at hq; omega)
theorem lawAt_P {w : zW} {P2 : Nat → Nat → Option Nat} {f : Nat → Nat → Int32} {X nq k : Nat} {l : List Nat} (h_z : lawAt w f X nq k l) (e : P2 nq = zP w nq) : lawAt (zsP w P2) f X nq k l := by
  obtain ⟨la, h1, h2, h3, h4, h5⟩ := h_z
  exact ⟨la, by show P2 nq k = _; rw [e]; exact h1, h2, h3, h4, h5⟩
theorem naAt_P {w : zW} {P2 : Nat → Nat → Option Nat} {f : Nat → Nat → Int32} {X nq : Nat} {T : zTb} (h_z : naAt w f X nq T) (e : ∀ q, zoneX X q → P2 q = zP w q) : naAt (zsP w P2) f X nq T := by
  obtain ⟨⟨n1, n2, n3, n4⟩, h2, ⟨z1, z2, z3⟩, l1, l2, l3⟩ := h_z
  have e1_z := e nq z1
  exact ⟨⟨n1, by show P2 nq 3 = _; rw [e1_z]; exact n2, by show P2 nq 4 = _; rw [e1_z]; exact n3, n4⟩, h2, ⟨z1, z2, z3⟩, lawAt_P l1 e1_z, lawAt_P l2 e1_z, lawAt_P l3 e1_z⟩
theorem wid_step {n d k : Nat} {l : List Nat} (h_z : l[k]? = some d) : (layM n (l.take (k + 1))).length = max (d / 10) ((layM n (l.take k)).length - d / 10) := by
  rw [layM_succ h_z, lyFold_len]
  rfl
def hinI (n : Nat) (M : zMo) (d : Int) : Int :=
  if d = -1 then 0
  else if d = 100 ∨ d = 200 then (if M.2.length = 0 then 2 else 0)
  else if 0 ≤ d ∧ d < 100 then (if 1 ≤ d / 10 ∧ d / 10 < ((layM n M.2).length : Nat) ∧ d % 10 < 4 then 0 else 1)
  else if 1000 ≤ d ∧ d < 1600 then (if (d - 1000) / 100 < (n : Nat) then 0 else 1)
  else if 2000 ≤ d ∧ d < 2600 then (if (d - 2000) / 100 < (n : Nat) then 0 else 1)
  else 1
set_option maxHeartbeats 4000000 in
set_option maxRecDepth 100000 in
theorem s_X11_columnsOf {g : zGT} {w : zW} {f : Nat → Nat → Int32} {j : Nat → Nat → Int64} {X : Nat} {T : zTb} {m : Nat} {M : zMo} {Q : Option Value → zW → Prop} {QX : String → zW → Prop} (G : zGok g) (hx : shX w X) (ht : tbAt w f X (X + 11) T) (hms : shMo w m) (hmc : ctMo f m M) (hwm2 : wfMo (tbC T) M) (hQ : ∀ r : Int32, r.toInt = ((layM (tbC T) M.2).length : Nat) → Q (some (.int r)) (zM w f j)) : zC g 2 yX11_columnsOf cX11_columnsOf 5 (some .int) [.ref X, .ref m] (zM w f j) (0, 0) Q QX := by
  refine zC_of G (by decide +kernel) (Nat.le_of_ble_eq_true rfl) ?_
  have ht0 := ht
  obtain ⟨nq, pp, g0, p0, hnq, hna0, hpp, hctb, hpast, hwf⟩ := ht0
  have hna1 := hna0
  obtain ⟨hna, hcn, ⟨hz1, hz2, hz3⟩, hl1, hl2, hl3⟩ := hna0
  have hmo := hctb.2.2.1
  have hn6 : tbC T ≤ 6 := hwf.2.1
  have hg4 : tbG T ≤ 4 := hwf.2.2.1
  have hwm := hwf.2.2.2.2.2.2.2.1
  have hrt := wfT_rch hwf
  have hfl : (f (X + 11 + 7) 2).toInt = (T.2.2.1.2.length : Nat) := by rw [hmo.1]; have := hmo.2.1; exact zi_n (by omega)
  have hcells : (f nq 1).toInt = (tbC T : Nat) := by rw [hcn.2.1]; exact zi_n (n := tbC T) (by omega)
  have hgs : (f nq 2).toInt = (tbG T : Nat) := by rw [hcn.2.2.1]; exact zi_n (n := tbG T) (by omega)
  have hml := hmc.2.1
  have hmf : (f m 2).toInt = (M.2.length : Nat) := by rw [hmc.1]; exact zi_n (by omega)
  have lp : ∀ (mz : Nat) (v : Int32) (c : Int32) (v4_z : Option Value) (k : Nat), c.toInt = (k : Nat) → k ≤ M.2.length → v.toInt = ((layM (tbC T) (M.2.take k)).length : Nat) → M.2.length - k < mz → zR (zV g 2 yX11_columnsOf 5 (some .int) (0, 0) Q QX) cX11_columnsOf yX11_columnsOf.cls 13 [some (.ref X), some (.ref m), some (.int v), some (.int c), v4_z] [] (zM w f j) (0, 0) := by
    intro mz
    induction mz with
    | zero =>
      intro v c v4_z k hc_z hk hv hmz
      exact absurd hmz (Nat.not_lt_zero _)
    | succ mz ih =>
      intro v c v4_z k hc_z hk hv hmz
      have hr := layM_rch hn6 hwm2.1 k
      have hcell := rch_cell hr
      rcases Nat.lt_or_ge k M.2.length with hkl | hkl
      · obtain ⟨d, hd_z⟩ : ∃ d, M.2[k]? = some d := ⟨_, List.getElem?_eq_getElem hkl⟩
        obtain ⟨u1, u2, u3⟩ := okF_at hwm2.1 hd_z
        have hws := wid_step (n := tbC T) hd_z
        have u4 : d / 10 < (layM (tbC T) (M.2.take k)).length := u2
        have hmo9 : moFold M.2 c.toInt = nI d := by rw [hc_z]; exact moFold_at hd_z
        refine r_iload3 dX11_columnsOf_13 ?_
        refine r_aloadR1 dX11_columnsOf_14 ?_
        refine m_getV (x := (f m 2)) zf_RX11_225 rfl dX11_columnsOf_15 (shMo_k hms) (rfl) ?_
        refine t_icge (t := 47) dX11_columnsOf_18 (by decide) (fun h18 => False.elim (by omega)) (fun h18 => ?_)
        refine r_aloadR1 dX11_columnsOf_21 ?_
        refine r_iload3 dX11_columnsOf_22 ?_
        refine q_callV1 zm_RX11_195 dX11_columnsOf_23 (shMo_k hms) (by decide) rfl (Nat.le_of_ble_eq_true rfl) (Nat.le_of_ble_eq_true rfl) (Nat.le_of_ble_eq_true rfl) (Nat.le_of_ble_eq_true rfl) (Nat.le_of_ble_eq_true rfl) (s_X3_foldAt (w := zM w f j) G hms hmc ?_)
        rw [hmo9]
        have hdn : (nI d).toInt = (d : Nat) := zi_n (by omega)
        refine n_bipush dX11_columnsOf_26 (by decide) (fun r26 e26_z => ?_)
        refine n_idivc (c := 10) dX11_columnsOf_28 e26_z (by decide) (by omega) (fun r28 e28_z => ?_)
        refine r_istore4 dX11_columnsOf_29 rfl ?_
        refine r_iload4 dX11_columnsOf_31 ?_
        refine r_iload2 dX11_columnsOf_33 ?_
        refine r_iload4 dX11_columnsOf_34 ?_
        refine n_isub dX11_columnsOf_36 (by omega) (fun r36 e36 => ?_)
        refine r_mmax zm_RX11_346 dX11_columnsOf_37 (Nat.le_of_ble_eq_true rfl) (Nat.le_of_ble_eq_true rfl) (Nat.le_of_ble_eq_true rfl) (Nat.le_of_ble_eq_true rfl) (Nat.le_of_ble_eq_true rfl) (fun r37 e37 => ?_)
        refine r_istore2 dX11_columnsOf_40 rfl ?_
        refine n_iinc3 dX11_columnsOf_41 (by decide) rfl (by omega) (fun r41 e41_z => ?_)
        refine r_goto (t := 13) dX11_columnsOf_44 (by decide) ?_
        exact ih _ _ _ (k + 1) (by omega) (by omega) (by omega) (by omega)
      · refine r_iload3 dX11_columnsOf_13 ?_
        refine r_aloadR1 dX11_columnsOf_14 ?_
        refine m_getV (x := (f m 2)) zf_RX11_225 rfl dX11_columnsOf_15 (shMo_k hms) (rfl) ?_
        refine t_icge (t := 47) dX11_columnsOf_18 (by decide) (fun h18 => ?_) (fun h18 => False.elim (by omega))
        refine r_iload2 dX11_columnsOf_47 ?_
        refine r_iret dX11_columnsOf_48 rfl (Nat.le_of_ble_eq_true rfl) (Nat.le_of_ble_eq_true rfl) ?_
        have e : M.2.take k = M.2 := List.take_of_length_le hkl
        rw [e] at hv
        exact hQ _ hv
  refine r_aloadR0 dX11_columnsOf_0 ?_
  refine m_getR (q := (X + 11)) zf_RX11_33 rfl dX11_columnsOf_1 (shX_k hx) (shX_p5 hx) ?_
  refine m_getR (q := nq) zf_RX11_181 rfl dX11_columnsOf_4 (shTb_k (shX_tb hx)) hnq ?_
  refine m_getV (x := (f nq 1)) zf_RX11_185 rfl dX11_columnsOf_7 (shNa_k hna) (rfl) ?_
  refine r_istore2 dX11_columnsOf_10 rfl ?_
  refine n_iconst dX11_columnsOf_11 (by decide) (fun r11 e11_z => ?_)
  refine r_istore3 dX11_columnsOf_12 rfl ?_
  exact lp (M.2.length + 1) _ _ none 0 (by omega) (by omega) (by rw [List.take_zero, show layM (tbC T) [] = lyFlat (tbC T) from rfl, lyFlat_len]; exact hcells) (by omega)
set_option maxHeartbeats 4000000 in
set_option maxRecDepth 100000 in
theorem s_X11_hindrance {g : zGT} {w : zW} {f : Nat → Nat → Int32} {j : Nat → Nat → Int64} {X : Nat} {T : zTb} {m : Nat} {M : zMo} {d : Int64} {Q : Option Value → zW → Prop} {QX : String → zW → Prop} (G : zGok g) (hx : shX w X) (ht : tbAt w f X (X + 11) T) (hms : shMo w m) (hmc : ctMo f m M) (hwm2 : wfMo (tbC T) M) (hQ : ∀ r : Int32, r.toInt = hinI (tbC T) M d.toInt → Q (some (.int r)) (zM w f j)) : zC g 3 yX11_hindrance cX11_hindrance 7 (some .int) [.ref X, .ref m, .long d] (zM w f j) (0, 0) Q QX := by
  refine zC_of G (by decide +kernel) (Nat.le_of_ble_eq_true rfl) ?_
  have ht0 := ht
  obtain ⟨nq, pp, g0, p0, hnq, hna0, hpp, hctb, hpast, hwf⟩ := ht0
  have hna1 := hna0
  obtain ⟨hna, hcn, ⟨hz1, hz2, hz3⟩, hl1, hl2, hl3⟩ := hna0
  have hmo := hctb.2.2.1
  have hn6 : tbC T ≤ 6 := hwf.2.1
  have hg4 : tbG T ≤ 4 := hwf.2.2.1
  have hwm := hwf.2.2.2.2.2.2.2.1
  have hrt := wfT_rch hwf
  have hfl : (f (X + 11 + 7) 2).toInt = (T.2.2.1.2.length : Nat) := by rw [hmo.1]; have := hmo.2.1; exact zi_n (by omega)
  have hcells : (f nq 1).toInt = (tbC T : Nat) := by rw [hcn.2.1]; exact zi_n (n := tbC T) (by omega)
  have hgs : (f nq 2).toInt = (tbG T : Nat) := by rw [hcn.2.2.1]; exact zi_n (n := tbG T) (by omega)
  have hml := hmc.2.1
  have hmf : (f m 2).toInt = (M.2.length : Nat) := by rw [hmc.1]; exact zi_n (by omega)
  have hr9 := layM_rch hn6 hwm2.1 M.2.length
  rw [List.take_of_length_le (Nat.le_refl _)] at hr9
  have hw6 := (rch_cell hr9).2.2.2.2
  unfold hinI at hQ
  refine r_lload2 dX11_hindrance_0 ?_
  refine n_ldc2 (n := -1) zk_RX11_304 dX11_hindrance_1 (by decide) (fun r1 e1_z => ?_)
  refine n_lcmp dX11_hindrance_4 (fun r4 e4_z => ?_)
  unfold zcmp at e4_z
  refine t_ifne (t := 10) dX11_hindrance_5 (by decide) (fun h5 => ?_) (fun h5 => ?_)
  · refine r_lload2 dX11_hindrance_10 ?_
    refine n_ldc2 (n := 100) zk_RX11_330 dX11_hindrance_11 (by decide) (fun r11 e11_z => ?_)
    refine n_lcmp dX11_hindrance_14 (fun r14 e14_z => ?_)
    unfold zcmp at e14_z
    refine t_ifeq (t := 26) dX11_hindrance_15 (by decide) (fun h15 => ?_) (fun h15 => ?_)
    · refine r_aloadR1 dX11_hindrance_26 ?_
      refine m_getV (x := (f m 2)) zf_RX11_225 rfl dX11_hindrance_27 (shMo_k hms) (rfl) ?_
      refine t_ifle (t := 37) dX11_hindrance_30 (by decide) (fun h30 => ?_) (fun h30 => ?_)
      · refine n_iconst dX11_hindrance_37 (by decide) (fun r37 e37 => ?_)
        refine r_iret dX11_hindrance_38 rfl (Nat.le_of_ble_eq_true rfl) (Nat.le_of_ble_eq_true rfl) ?_
        first
          | (refine hQ _ ?_; rw [if_pos (by omega)]; omega)
          | (refine hQ _ ?_; rw [if_neg (by omega), if_pos (by omega), if_pos (by omega)]; omega)
          | (refine hQ _ ?_; rw [if_neg (by omega), if_pos (by omega), if_neg (by omega)]; omega)
          | (refine hQ _ ?_; rw [if_neg (by omega), if_neg (by omega), if_pos (by omega), if_pos (by omega)]; omega)
          | (refine hQ _ ?_; rw [if_neg (by omega), if_neg (by omega), if_pos (by omega), if_neg (by omega)]; omega)
          | (refine hQ _ ?_; rw [if_neg (by omega), if_neg (by omega), if_neg (by omega), if_pos (by omega), if_pos (by omega)]; omega)
          | (refine hQ _ ?_; rw [if_neg (by omega), if_neg (by omega), if_neg (by omega), if_pos (by omega), if_neg (by omega)]; omega)
          | (refine hQ _ ?_; rw [if_neg (by omega), if_neg (by omega), if_neg (by omega), if_neg (by omega), if_pos (by omega), if_pos (by omega)]; omega)
          | (refine hQ _ ?_; rw [if_neg (by omega), if_neg (by omega), if_neg (by omega), if_neg (by omega), if_pos (by omega), if_neg (by omega)]; omega)
          | (refine hQ _ ?_; rw [if_neg (by omega), if_neg (by omega), if_neg (by omega), if_neg (by omega), if_neg (by omega)]; omega)
      · refine n_iconst dX11_hindrance_33 (by decide) (fun r33 e33_z => ?_)
        refine r_goto (t := 38) dX11_hindrance_34 (by decide) ?_
        refine r_iret dX11_hindrance_38 rfl (Nat.le_of_ble_eq_true rfl) (Nat.le_of_ble_eq_true rfl) ?_
        first
          | (refine hQ _ ?_; rw [if_pos (by omega)]; omega)
          | (refine hQ _ ?_; rw [if_neg (by omega), if_pos (by omega), if_pos (by omega)]; omega)
          | (refine hQ _ ?_; rw [if_neg (by omega), if_pos (by omega), if_neg (by omega)]; omega)
          | (refine hQ _ ?_; rw [if_neg (by omega), if_neg (by omega), if_pos (by omega), if_pos (by omega)]; omega)
          | (refine hQ _ ?_; rw [if_neg (by omega), if_neg (by omega), if_pos (by omega), if_neg (by omega)]; omega)
          | (refine hQ _ ?_; rw [if_neg (by omega), if_neg (by omega), if_neg (by omega), if_pos (by omega), if_pos (by omega)]; omega)
          | (refine hQ _ ?_; rw [if_neg (by omega), if_neg (by omega), if_neg (by omega), if_pos (by omega), if_neg (by omega)]; omega)
          | (refine hQ _ ?_; rw [if_neg (by omega), if_neg (by omega), if_neg (by omega), if_neg (by omega), if_pos (by omega), if_pos (by omega)]; omega)
          | (refine hQ _ ?_; rw [if_neg (by omega), if_neg (by omega), if_neg (by omega), if_neg (by omega), if_pos (by omega), if_neg (by omega)]; omega)
          | (refine hQ _ ?_; rw [if_neg (by omega), if_neg (by omega), if_neg (by omega), if_neg (by omega), if_neg (by omega)]; omega)
    · refine r_lload2 dX11_hindrance_18 ?_
      refine n_ldc2 (n := 200) zk_RX11_332 dX11_hindrance_19 (by decide) (fun r19 e19_z => ?_)
      refine n_lcmp dX11_hindrance_22 (fun r22 e22_z => ?_)
      unfold zcmp at e22_z
      refine t_ifne (t := 39) dX11_hindrance_23 (by decide) (fun h23 => ?_) (fun h23 => ?_)
      · refine r_lload2 dX11_hindrance_39 ?_
        refine n_lconst (q := 0) dX11_hindrance_40 rfl (by decide) (fun r40 e40 => ?_)
        refine n_lcmp dX11_hindrance_41 (fun r41 e41_z => ?_)
        unfold zcmp at e41_z
        refine t_iflt (t := 109) dX11_hindrance_42 (by decide) (fun h42 => ?_) (fun h42 => ?_)
        · refine r_lload2 dX11_hindrance_109 ?_
          refine n_ldc2 (n := 1000) zk_RX11_338 dX11_hindrance_110 (by decide) (fun r110 e110 => ?_)
          refine n_lcmp dX11_hindrance_113 (fun r113 e113_z => ?_)
          unfold zcmp at e113_z
          refine t_iflt (t := 147) dX11_hindrance_114 (by decide) (fun h114 => ?_) (fun h114 => ?_)
          · refine r_lload2 dX11_hindrance_147 ?_
            refine n_ldc2 (n := 2000) zk_RX11_342 dX11_hindrance_148 (by decide) (fun r148 e148 => ?_)
            refine n_lcmp dX11_hindrance_151 (fun r151 e151 => ?_)
            unfold zcmp at e151
            refine t_iflt (t := 185) dX11_hindrance_152 (by decide) (fun h152 => ?_) (fun h152 => ?_)
            · refine n_iconst dX11_hindrance_185 (by decide) (fun r185 e185 => ?_)
              refine r_iret dX11_hindrance_186 rfl (Nat.le_of_ble_eq_true rfl) (Nat.le_of_ble_eq_true rfl) ?_
              first
                | (refine hQ _ ?_; rw [if_pos (by omega)]; omega)
                | (refine hQ _ ?_; rw [if_neg (by omega), if_pos (by omega), if_pos (by omega)]; omega)
                | (refine hQ _ ?_; rw [if_neg (by omega), if_pos (by omega), if_neg (by omega)]; omega)
                | (refine hQ _ ?_; rw [if_neg (by omega), if_neg (by omega), if_pos (by omega), if_pos (by omega)]; omega)
                | (refine hQ _ ?_; rw [if_neg (by omega), if_neg (by omega), if_pos (by omega), if_neg (by omega)]; omega)
                | (refine hQ _ ?_; rw [if_neg (by omega), if_neg (by omega), if_neg (by omega), if_pos (by omega), if_pos (by omega)]; omega)
                | (refine hQ _ ?_; rw [if_neg (by omega), if_neg (by omega), if_neg (by omega), if_pos (by omega), if_neg (by omega)]; omega)
                | (refine hQ _ ?_; rw [if_neg (by omega), if_neg (by omega), if_neg (by omega), if_neg (by omega), if_pos (by omega), if_pos (by omega)]; omega)
                | (refine hQ _ ?_; rw [if_neg (by omega), if_neg (by omega), if_neg (by omega), if_neg (by omega), if_pos (by omega), if_neg (by omega)]; omega)
                | (refine hQ _ ?_; rw [if_neg (by omega), if_neg (by omega), if_neg (by omega), if_neg (by omega), if_neg (by omega)]; omega)
            · refine r_lload2 dX11_hindrance_155 ?_
              refine n_ldc2 (n := 2600) zk_RX11_344 dX11_hindrance_156 (by decide) (fun r156 e156 => ?_)
              refine n_lcmp dX11_hindrance_159 (fun r159 e159 => ?_)
              unfold zcmp at e159
              refine t_ifge (t := 185) dX11_hindrance_160 (by decide) (fun h160 => ?_) (fun h160 => ?_)
              · refine n_iconst dX11_hindrance_185 (by decide) (fun r185 e185 => ?_)
                refine r_iret dX11_hindrance_186 rfl (Nat.le_of_ble_eq_true rfl) (Nat.le_of_ble_eq_true rfl) ?_
                first
                  | (refine hQ _ ?_; rw [if_pos (by omega)]; omega)
                  | (refine hQ _ ?_; rw [if_neg (by omega), if_pos (by omega), if_pos (by omega)]; omega)
                  | (refine hQ _ ?_; rw [if_neg (by omega), if_pos (by omega), if_neg (by omega)]; omega)
                  | (refine hQ _ ?_; rw [if_neg (by omega), if_neg (by omega), if_pos (by omega), if_pos (by omega)]; omega)
                  | (refine hQ _ ?_; rw [if_neg (by omega), if_neg (by omega), if_pos (by omega), if_neg (by omega)]; omega)
                  | (refine hQ _ ?_; rw [if_neg (by omega), if_neg (by omega), if_neg (by omega), if_pos (by omega), if_pos (by omega)]; omega)
                  | (refine hQ _ ?_; rw [if_neg (by omega), if_neg (by omega), if_neg (by omega), if_pos (by omega), if_neg (by omega)]; omega)
                  | (refine hQ _ ?_; rw [if_neg (by omega), if_neg (by omega), if_neg (by omega), if_neg (by omega), if_pos (by omega), if_pos (by omega)]; omega)
                  | (refine hQ _ ?_; rw [if_neg (by omega), if_neg (by omega), if_neg (by omega), if_neg (by omega), if_pos (by omega), if_neg (by omega)]; omega)
                  | (refine hQ _ ?_; rw [if_neg (by omega), if_neg (by omega), if_neg (by omega), if_neg (by omega), if_neg (by omega)]; omega)
              · refine r_aloadR0 dX11_hindrance_163 ?_
                refine r_lload2 dX11_hindrance_164 ?_
                refine n_ldc2 (n := 2000) zk_RX11_342 dX11_hindrance_165 (by decide) (fun r165 e165 => ?_)
                refine n_lsub dX11_hindrance_168 (by omega) (fun r168 e168 => ?_)
                refine n_ldc2 (n := 100) zk_RX11_330 dX11_hindrance_169 (by decide) (fun r169 e169 => ?_)
                refine n_ldivc (c := 100) dX11_hindrance_172 e169 (by decide) (by omega) (fun r172 e172 => ?_)
                refine q_callV1 zm_RX11_123 dX11_hindrance_173 (shX_k hx) (by decide) rfl (Nat.le_of_ble_eq_true rfl) (Nat.le_of_ble_eq_true rfl) (Nat.le_of_ble_eq_true rfl) (Nat.le_of_ble_eq_true rfl) (Nat.le_of_ble_eq_true rfl) (s_X11_isCell G hx ht  (fun r173 e173 => ?_))
                refine t_ifeq (t := 183) dX11_hindrance_176 (by decide) (fun h176 => ?_) (fun h176 => ?_)
                · refine n_iconst dX11_hindrance_183 (by decide) (fun r183 e183 => ?_)
                  refine r_iret dX11_hindrance_184 rfl (Nat.le_of_ble_eq_true rfl) (Nat.le_of_ble_eq_true rfl) ?_
                  first
                    | (refine hQ _ ?_; rw [if_pos (by omega)]; omega)
                    | (refine hQ _ ?_; rw [if_neg (by omega), if_pos (by omega), if_pos (by omega)]; omega)
                    | (refine hQ _ ?_; rw [if_neg (by omega), if_pos (by omega), if_neg (by omega)]; omega)
                    | (refine hQ _ ?_; rw [if_neg (by omega), if_neg (by omega), if_pos (by omega), if_pos (by omega)]; omega)
                    | (refine hQ _ ?_; rw [if_neg (by omega), if_neg (by omega), if_pos (by omega), if_neg (by omega)]; omega)
                    | (refine hQ _ ?_; rw [if_neg (by omega), if_neg (by omega), if_neg (by omega), if_pos (by omega), if_pos (by omega)]; omega)
                    | (refine hQ _ ?_; rw [if_neg (by omega), if_neg (by omega), if_neg (by omega), if_pos (by omega), if_neg (by omega)]; omega)
                    | (refine hQ _ ?_; rw [if_neg (by omega), if_neg (by omega), if_neg (by omega), if_neg (by omega), if_pos (by omega), if_pos (by omega)]; omega)
                    | (refine hQ _ ?_; rw [if_neg (by omega), if_neg (by omega), if_neg (by omega), if_neg (by omega), if_pos (by omega), if_neg (by omega)]; omega)
                    | (refine hQ _ ?_; rw [if_neg (by omega), if_neg (by omega), if_neg (by omega), if_neg (by omega), if_neg (by omega)]; omega)
                · refine n_iconst dX11_hindrance_179 (by decide) (fun r179 e179 => ?_)
                  refine r_goto (t := 184) dX11_hindrance_180 (by decide) ?_
                  refine r_iret dX11_hindrance_184 rfl (Nat.le_of_ble_eq_true rfl) (Nat.le_of_ble_eq_true rfl) ?_
                  first
                    | (refine hQ _ ?_; rw [if_pos (by omega)]; omega)
                    | (refine hQ _ ?_; rw [if_neg (by omega), if_pos (by omega), if_pos (by omega)]; omega)
                    | (refine hQ _ ?_; rw [if_neg (by omega), if_pos (by omega), if_neg (by omega)]; omega)
                    | (refine hQ _ ?_; rw [if_neg (by omega), if_neg (by omega), if_pos (by omega), if_pos (by omega)]; omega)
                    | (refine hQ _ ?_; rw [if_neg (by omega), if_neg (by omega), if_pos (by omega), if_neg (by omega)]; omega)
                    | (refine hQ _ ?_; rw [if_neg (by omega), if_neg (by omega), if_neg (by omega), if_pos (by omega), if_pos (by omega)]; omega)
                    | (refine hQ _ ?_; rw [if_neg (by omega), if_neg (by omega), if_neg (by omega), if_pos (by omega), if_neg (by omega)]; omega)
                    | (refine hQ _ ?_; rw [if_neg (by omega), if_neg (by omega), if_neg (by omega), if_neg (by omega), if_pos (by omega), if_pos (by omega)]; omega)
                    | (refine hQ _ ?_; rw [if_neg (by omega), if_neg (by omega), if_neg (by omega), if_neg (by omega), if_pos (by omega), if_neg (by omega)]; omega)
                    | (refine hQ _ ?_; rw [if_neg (by omega), if_neg (by omega), if_neg (by omega), if_neg (by omega), if_neg (by omega)]; omega)
          · refine r_lload2 dX11_hindrance_117 ?_
            refine n_ldc2 (n := 1600) zk_RX11_340 dX11_hindrance_118 (by decide) (fun r118 e118_z => ?_)
            refine n_lcmp dX11_hindrance_121 (fun r121 e121 => ?_)
            unfold zcmp at e121
            refine t_ifge (t := 147) dX11_hindrance_122 (by decide) (fun h122 => ?_) (fun h122 => ?_)
            · refine r_lload2 dX11_hindrance_147 ?_
              refine n_ldc2 (n := 2000) zk_RX11_342 dX11_hindrance_148 (by decide) (fun r148 e148 => ?_)
              refine n_lcmp dX11_hindrance_151 (fun r151 e151 => ?_)
              unfold zcmp at e151
              refine t_iflt (t := 185) dX11_hindrance_152 (by decide) (fun h152 => ?_) (fun h152 => ?_)
              · refine n_iconst dX11_hindrance_185 (by decide) (fun r185 e185 => ?_)
                refine r_iret dX11_hindrance_186 rfl (Nat.le_of_ble_eq_true rfl) (Nat.le_of_ble_eq_true rfl) ?_
                first
                  | (refine hQ _ ?_; rw [if_pos (by omega)]; omega)
                  | (refine hQ _ ?_; rw [if_neg (by omega), if_pos (by omega), if_pos (by omega)]; omega)
                  | (refine hQ _ ?_; rw [if_neg (by omega), if_pos (by omega), if_neg (by omega)]; omega)
                  | (refine hQ _ ?_; rw [if_neg (by omega), if_neg (by omega), if_pos (by omega), if_pos (by omega)]; omega)
                  | (refine hQ _ ?_; rw [if_neg (by omega), if_neg (by omega), if_pos (by omega), if_neg (by omega)]; omega)
                  | (refine hQ _ ?_; rw [if_neg (by omega), if_neg (by omega), if_neg (by omega), if_pos (by omega), if_pos (by omega)]; omega)
                  | (refine hQ _ ?_; rw [if_neg (by omega), if_neg (by omega), if_neg (by omega), if_pos (by omega), if_neg (by omega)]; omega)
                  | (refine hQ _ ?_; rw [if_neg (by omega), if_neg (by omega), if_neg (by omega), if_neg (by omega), if_pos (by omega), if_pos (by omega)]; omega)
                  | (refine hQ _ ?_; rw [if_neg (by omega), if_neg (by omega), if_neg (by omega), if_neg (by omega), if_pos (by omega), if_neg (by omega)]; omega)
                  | (refine hQ _ ?_; rw [if_neg (by omega), if_neg (by omega), if_neg (by omega), if_neg (by omega), if_neg (by omega)]; omega)
              · refine r_lload2 dX11_hindrance_155 ?_
                refine n_ldc2 (n := 2600) zk_RX11_344 dX11_hindrance_156 (by decide) (fun r156 e156 => ?_)
                refine n_lcmp dX11_hindrance_159 (fun r159 e159 => ?_)
                unfold zcmp at e159
                refine t_ifge (t := 185) dX11_hindrance_160 (by decide) (fun h160 => ?_) (fun h160 => ?_)
                · refine n_iconst dX11_hindrance_185 (by decide) (fun r185 e185 => ?_)
                  refine r_iret dX11_hindrance_186 rfl (Nat.le_of_ble_eq_true rfl) (Nat.le_of_ble_eq_true rfl) ?_
                  first
                    | (refine hQ _ ?_; rw [if_pos (by omega)]; omega)
                    | (refine hQ _ ?_; rw [if_neg (by omega), if_pos (by omega), if_pos (by omega)]; omega)
                    | (refine hQ _ ?_; rw [if_neg (by omega), if_pos (by omega), if_neg (by omega)]; omega)
                    | (refine hQ _ ?_; rw [if_neg (by omega), if_neg (by omega), if_pos (by omega), if_pos (by omega)]; omega)
                    | (refine hQ _ ?_; rw [if_neg (by omega), if_neg (by omega), if_pos (by omega), if_neg (by omega)]; omega)
                    | (refine hQ _ ?_; rw [if_neg (by omega), if_neg (by omega), if_neg (by omega), if_pos (by omega), if_pos (by omega)]; omega)
                    | (refine hQ _ ?_; rw [if_neg (by omega), if_neg (by omega), if_neg (by omega), if_pos (by omega), if_neg (by omega)]; omega)
                    | (refine hQ _ ?_; rw [if_neg (by omega), if_neg (by omega), if_neg (by omega), if_neg (by omega), if_pos (by omega), if_pos (by omega)]; omega)
                    | (refine hQ _ ?_; rw [if_neg (by omega), if_neg (by omega), if_neg (by omega), if_neg (by omega), if_pos (by omega), if_neg (by omega)]; omega)
                    | (refine hQ _ ?_; rw [if_neg (by omega), if_neg (by omega), if_neg (by omega), if_neg (by omega), if_neg (by omega)]; omega)
                · refine r_aloadR0 dX11_hindrance_163 ?_
                  refine r_lload2 dX11_hindrance_164 ?_
                  refine n_ldc2 (n := 2000) zk_RX11_342 dX11_hindrance_165 (by decide) (fun r165 e165 => ?_)
                  refine n_lsub dX11_hindrance_168 (by omega) (fun r168 e168 => ?_)
                  refine n_ldc2 (n := 100) zk_RX11_330 dX11_hindrance_169 (by decide) (fun r169 e169 => ?_)
                  refine n_ldivc (c := 100) dX11_hindrance_172 e169 (by decide) (by omega) (fun r172 e172 => ?_)
                  refine q_callV1 zm_RX11_123 dX11_hindrance_173 (shX_k hx) (by decide) rfl (Nat.le_of_ble_eq_true rfl) (Nat.le_of_ble_eq_true rfl) (Nat.le_of_ble_eq_true rfl) (Nat.le_of_ble_eq_true rfl) (Nat.le_of_ble_eq_true rfl) (s_X11_isCell G hx ht  (fun r173 e173 => ?_))
                  refine t_ifeq (t := 183) dX11_hindrance_176 (by decide) (fun h176 => ?_) (fun h176 => ?_)
                  · refine n_iconst dX11_hindrance_183 (by decide) (fun r183 e183 => ?_)
                    refine r_iret dX11_hindrance_184 rfl (Nat.le_of_ble_eq_true rfl) (Nat.le_of_ble_eq_true rfl) ?_
                    first
                      | (refine hQ _ ?_; rw [if_pos (by omega)]; omega)
                      | (refine hQ _ ?_; rw [if_neg (by omega), if_pos (by omega), if_pos (by omega)]; omega)
                      | (refine hQ _ ?_; rw [if_neg (by omega), if_pos (by omega), if_neg (by omega)]; omega)
                      | (refine hQ _ ?_; rw [if_neg (by omega), if_neg (by omega), if_pos (by omega), if_pos (by omega)]; omega)
                      | (refine hQ _ ?_; rw [if_neg (by omega), if_neg (by omega), if_pos (by omega), if_neg (by omega)]; omega)
                      | (refine hQ _ ?_; rw [if_neg (by omega), if_neg (by omega), if_neg (by omega), if_pos (by omega), if_pos (by omega)]; omega)
                      | (refine hQ _ ?_; rw [if_neg (by omega), if_neg (by omega), if_neg (by omega), if_pos (by omega), if_neg (by omega)]; omega)
                      | (refine hQ _ ?_; rw [if_neg (by omega), if_neg (by omega), if_neg (by omega), if_neg (by omega), if_pos (by omega), if_pos (by omega)]; omega)
                      | (refine hQ _ ?_; rw [if_neg (by omega), if_neg (by omega), if_neg (by omega), if_neg (by omega), if_pos (by omega), if_neg (by omega)]; omega)
                      | (refine hQ _ ?_; rw [if_neg (by omega), if_neg (by omega), if_neg (by omega), if_neg (by omega), if_neg (by omega)]; omega)
                  · refine n_iconst dX11_hindrance_179 (by decide) (fun r179 e179 => ?_)
                    refine r_goto (t := 184) dX11_hindrance_180 (by decide) ?_
                    refine r_iret dX11_hindrance_184 rfl (Nat.le_of_ble_eq_true rfl) (Nat.le_of_ble_eq_true rfl) ?_
                    first
                      | (refine hQ _ ?_; rw [if_pos (by omega)]; omega)
                      | (refine hQ _ ?_; rw [if_neg (by omega), if_pos (by omega), if_pos (by omega)]; omega)
                      | (refine hQ _ ?_; rw [if_neg (by omega), if_pos (by omega), if_neg (by omega)]; omega)
                      | (refine hQ _ ?_; rw [if_neg (by omega), if_neg (by omega), if_pos (by omega), if_pos (by omega)]; omega)
                      | (refine hQ _ ?_; rw [if_neg (by omega), if_neg (by omega), if_pos (by omega), if_neg (by omega)]; omega)
                      | (refine hQ _ ?_; rw [if_neg (by omega), if_neg (by omega), if_neg (by omega), if_pos (by omega), if_pos (by omega)]; omega)
                      | (refine hQ _ ?_; rw [if_neg (by omega), if_neg (by omega), if_neg (by omega), if_pos (by omega), if_neg (by omega)]; omega)
                      | (refine hQ _ ?_; rw [if_neg (by omega), if_neg (by omega), if_neg (by omega), if_neg (by omega), if_pos (by omega), if_pos (by omega)]; omega)
                      | (refine hQ _ ?_; rw [if_neg (by omega), if_neg (by omega), if_neg (by omega), if_neg (by omega), if_pos (by omega), if_neg (by omega)]; omega)
                      | (refine hQ _ ?_; rw [if_neg (by omega), if_neg (by omega), if_neg (by omega), if_neg (by omega), if_neg (by omega)]; omega)
            · refine r_aloadR0 dX11_hindrance_125 ?_
              refine r_lload2 dX11_hindrance_126 ?_
              refine n_ldc2 (n := 1000) zk_RX11_338 dX11_hindrance_127 (by decide) (fun r127 e127_z => ?_)
              refine n_lsub dX11_hindrance_130 (by omega) (fun r130 e130 => ?_)
              refine n_ldc2 (n := 100) zk_RX11_330 dX11_hindrance_131 (by decide) (fun r131 e131 => ?_)
              refine n_ldivc (c := 100) dX11_hindrance_134 e131 (by decide) (by omega) (fun r134 e134 => ?_)
              refine q_callV1 zm_RX11_123 dX11_hindrance_135 (shX_k hx) (by decide) rfl (Nat.le_of_ble_eq_true rfl) (Nat.le_of_ble_eq_true rfl) (Nat.le_of_ble_eq_true rfl) (Nat.le_of_ble_eq_true rfl) (Nat.le_of_ble_eq_true rfl) (s_X11_isCell G hx ht  (fun r135 e135 => ?_))
              refine t_ifeq (t := 145) dX11_hindrance_138 (by decide) (fun h138 => ?_) (fun h138 => ?_)
              · refine n_iconst dX11_hindrance_145 (by decide) (fun r145 e145 => ?_)
                refine r_iret dX11_hindrance_146 rfl (Nat.le_of_ble_eq_true rfl) (Nat.le_of_ble_eq_true rfl) ?_
                first
                  | (refine hQ _ ?_; rw [if_pos (by omega)]; omega)
                  | (refine hQ _ ?_; rw [if_neg (by omega), if_pos (by omega), if_pos (by omega)]; omega)
                  | (refine hQ _ ?_; rw [if_neg (by omega), if_pos (by omega), if_neg (by omega)]; omega)
                  | (refine hQ _ ?_; rw [if_neg (by omega), if_neg (by omega), if_pos (by omega), if_pos (by omega)]; omega)
                  | (refine hQ _ ?_; rw [if_neg (by omega), if_neg (by omega), if_pos (by omega), if_neg (by omega)]; omega)
                  | (refine hQ _ ?_; rw [if_neg (by omega), if_neg (by omega), if_neg (by omega), if_pos (by omega), if_pos (by omega)]; omega)
                  | (refine hQ _ ?_; rw [if_neg (by omega), if_neg (by omega), if_neg (by omega), if_pos (by omega), if_neg (by omega)]; omega)
                  | (refine hQ _ ?_; rw [if_neg (by omega), if_neg (by omega), if_neg (by omega), if_neg (by omega), if_pos (by omega), if_pos (by omega)]; omega)
                  | (refine hQ _ ?_; rw [if_neg (by omega), if_neg (by omega), if_neg (by omega), if_neg (by omega), if_pos (by omega), if_neg (by omega)]; omega)
                  | (refine hQ _ ?_; rw [if_neg (by omega), if_neg (by omega), if_neg (by omega), if_neg (by omega), if_neg (by omega)]; omega)
              · refine n_iconst dX11_hindrance_141 (by decide) (fun r141 e141 => ?_)
                refine r_goto (t := 146) dX11_hindrance_142 (by decide) ?_
                refine r_iret dX11_hindrance_146 rfl (Nat.le_of_ble_eq_true rfl) (Nat.le_of_ble_eq_true rfl) ?_
                first
                  | (refine hQ _ ?_; rw [if_pos (by omega)]; omega)
                  | (refine hQ _ ?_; rw [if_neg (by omega), if_pos (by omega), if_pos (by omega)]; omega)
                  | (refine hQ _ ?_; rw [if_neg (by omega), if_pos (by omega), if_neg (by omega)]; omega)
                  | (refine hQ _ ?_; rw [if_neg (by omega), if_neg (by omega), if_pos (by omega), if_pos (by omega)]; omega)
                  | (refine hQ _ ?_; rw [if_neg (by omega), if_neg (by omega), if_pos (by omega), if_neg (by omega)]; omega)
                  | (refine hQ _ ?_; rw [if_neg (by omega), if_neg (by omega), if_neg (by omega), if_pos (by omega), if_pos (by omega)]; omega)
                  | (refine hQ _ ?_; rw [if_neg (by omega), if_neg (by omega), if_neg (by omega), if_pos (by omega), if_neg (by omega)]; omega)
                  | (refine hQ _ ?_; rw [if_neg (by omega), if_neg (by omega), if_neg (by omega), if_neg (by omega), if_pos (by omega), if_pos (by omega)]; omega)
                  | (refine hQ _ ?_; rw [if_neg (by omega), if_neg (by omega), if_neg (by omega), if_neg (by omega), if_pos (by omega), if_neg (by omega)]; omega)
                  | (refine hQ _ ?_; rw [if_neg (by omega), if_neg (by omega), if_neg (by omega), if_neg (by omega), if_neg (by omega)]; omega)
        · refine r_lload2 dX11_hindrance_45 ?_
          refine n_ldc2 (n := 100) zk_RX11_330 dX11_hindrance_46 (by decide) (fun r46 e46 => ?_)
          refine n_lcmp dX11_hindrance_49 (fun r49 e49 => ?_)
          unfold zcmp at e49
          refine t_ifge (t := 109) dX11_hindrance_50 (by decide) (fun h50 => ?_) (fun h50 => ?_)
          · refine r_lload2 dX11_hindrance_109 ?_
            refine n_ldc2 (n := 1000) zk_RX11_338 dX11_hindrance_110 (by decide) (fun r110 e110 => ?_)
            refine n_lcmp dX11_hindrance_113 (fun r113 e113_z => ?_)
            unfold zcmp at e113_z
            refine t_iflt (t := 147) dX11_hindrance_114 (by decide) (fun h114 => ?_) (fun h114 => ?_)
            · refine r_lload2 dX11_hindrance_147 ?_
              refine n_ldc2 (n := 2000) zk_RX11_342 dX11_hindrance_148 (by decide) (fun r148 e148 => ?_)
              refine n_lcmp dX11_hindrance_151 (fun r151 e151 => ?_)
              unfold zcmp at e151
              refine t_iflt (t := 185) dX11_hindrance_152 (by decide) (fun h152 => ?_) (fun h152 => ?_)
              · refine n_iconst dX11_hindrance_185 (by decide) (fun r185 e185 => ?_)
                refine r_iret dX11_hindrance_186 rfl (Nat.le_of_ble_eq_true rfl) (Nat.le_of_ble_eq_true rfl) ?_
                first
                  | (refine hQ _ ?_; rw [if_pos (by omega)]; omega)
                  | (refine hQ _ ?_; rw [if_neg (by omega), if_pos (by omega), if_pos (by omega)]; omega)
                  | (refine hQ _ ?_; rw [if_neg (by omega), if_pos (by omega), if_neg (by omega)]; omega)
                  | (refine hQ _ ?_; rw [if_neg (by omega), if_neg (by omega), if_pos (by omega), if_pos (by omega)]; omega)
                  | (refine hQ _ ?_; rw [if_neg (by omega), if_neg (by omega), if_pos (by omega), if_neg (by omega)]; omega)
                  | (refine hQ _ ?_; rw [if_neg (by omega), if_neg (by omega), if_neg (by omega), if_pos (by omega), if_pos (by omega)]; omega)
                  | (refine hQ _ ?_; rw [if_neg (by omega), if_neg (by omega), if_neg (by omega), if_pos (by omega), if_neg (by omega)]; omega)
                  | (refine hQ _ ?_; rw [if_neg (by omega), if_neg (by omega), if_neg (by omega), if_neg (by omega), if_pos (by omega), if_pos (by omega)]; omega)
                  | (refine hQ _ ?_; rw [if_neg (by omega), if_neg (by omega), if_neg (by omega), if_neg (by omega), if_pos (by omega), if_neg (by omega)]; omega)
                  | (refine hQ _ ?_; rw [if_neg (by omega), if_neg (by omega), if_neg (by omega), if_neg (by omega), if_neg (by omega)]; omega)
              · refine r_lload2 dX11_hindrance_155 ?_
                refine n_ldc2 (n := 2600) zk_RX11_344 dX11_hindrance_156 (by decide) (fun r156 e156 => ?_)
                refine n_lcmp dX11_hindrance_159 (fun r159 e159 => ?_)
                unfold zcmp at e159
                refine t_ifge (t := 185) dX11_hindrance_160 (by decide) (fun h160 => ?_) (fun h160 => ?_)
                · refine n_iconst dX11_hindrance_185 (by decide) (fun r185 e185 => ?_)
                  refine r_iret dX11_hindrance_186 rfl (Nat.le_of_ble_eq_true rfl) (Nat.le_of_ble_eq_true rfl) ?_
                  first
                    | (refine hQ _ ?_; rw [if_pos (by omega)]; omega)
                    | (refine hQ _ ?_; rw [if_neg (by omega), if_pos (by omega), if_pos (by omega)]; omega)
                    | (refine hQ _ ?_; rw [if_neg (by omega), if_pos (by omega), if_neg (by omega)]; omega)
                    | (refine hQ _ ?_; rw [if_neg (by omega), if_neg (by omega), if_pos (by omega), if_pos (by omega)]; omega)
                    | (refine hQ _ ?_; rw [if_neg (by omega), if_neg (by omega), if_pos (by omega), if_neg (by omega)]; omega)
                    | (refine hQ _ ?_; rw [if_neg (by omega), if_neg (by omega), if_neg (by omega), if_pos (by omega), if_pos (by omega)]; omega)
                    | (refine hQ _ ?_; rw [if_neg (by omega), if_neg (by omega), if_neg (by omega), if_pos (by omega), if_neg (by omega)]; omega)
                    | (refine hQ _ ?_; rw [if_neg (by omega), if_neg (by omega), if_neg (by omega), if_neg (by omega), if_pos (by omega), if_pos (by omega)]; omega)
                    | (refine hQ _ ?_; rw [if_neg (by omega), if_neg (by omega), if_neg (by omega), if_neg (by omega), if_pos (by omega), if_neg (by omega)]; omega)
                    | (refine hQ _ ?_; rw [if_neg (by omega), if_neg (by omega), if_neg (by omega), if_neg (by omega), if_neg (by omega)]; omega)
                · refine r_aloadR0 dX11_hindrance_163 ?_
                  refine r_lload2 dX11_hindrance_164 ?_
                  refine n_ldc2 (n := 2000) zk_RX11_342 dX11_hindrance_165 (by decide) (fun r165 e165 => ?_)
                  refine n_lsub dX11_hindrance_168 (by omega) (fun r168 e168 => ?_)
                  refine n_ldc2 (n := 100) zk_RX11_330 dX11_hindrance_169 (by decide) (fun r169 e169 => ?_)
                  refine n_ldivc (c := 100) dX11_hindrance_172 e169 (by decide) (by omega) (fun r172 e172 => ?_)
                  refine q_callV1 zm_RX11_123 dX11_hindrance_173 (shX_k hx) (by decide) rfl (Nat.le_of_ble_eq_true rfl) (Nat.le_of_ble_eq_true rfl) (Nat.le_of_ble_eq_true rfl) (Nat.le_of_ble_eq_true rfl) (Nat.le_of_ble_eq_true rfl) (s_X11_isCell G hx ht  (fun r173 e173 => ?_))
                  refine t_ifeq (t := 183) dX11_hindrance_176 (by decide) (fun h176 => ?_) (fun h176 => ?_)
                  · refine n_iconst dX11_hindrance_183 (by decide) (fun r183 e183 => ?_)
                    refine r_iret dX11_hindrance_184 rfl (Nat.le_of_ble_eq_true rfl) (Nat.le_of_ble_eq_true rfl) ?_
                    first
                      | (refine hQ _ ?_; rw [if_pos (by omega)]; omega)
                      | (refine hQ _ ?_; rw [if_neg (by omega), if_pos (by omega), if_pos (by omega)]; omega)
                      | (refine hQ _ ?_; rw [if_neg (by omega), if_pos (by omega), if_neg (by omega)]; omega)
                      | (refine hQ _ ?_; rw [if_neg (by omega), if_neg (by omega), if_pos (by omega), if_pos (by omega)]; omega)
                      | (refine hQ _ ?_; rw [if_neg (by omega), if_neg (by omega), if_pos (by omega), if_neg (by omega)]; omega)
                      | (refine hQ _ ?_; rw [if_neg (by omega), if_neg (by omega), if_neg (by omega), if_pos (by omega), if_pos (by omega)]; omega)
                      | (refine hQ _ ?_; rw [if_neg (by omega), if_neg (by omega), if_neg (by omega), if_pos (by omega), if_neg (by omega)]; omega)
                      | (refine hQ _ ?_; rw [if_neg (by omega), if_neg (by omega), if_neg (by omega), if_neg (by omega), if_pos (by omega), if_pos (by omega)]; omega)
                      | (refine hQ _ ?_; rw [if_neg (by omega), if_neg (by omega), if_neg (by omega), if_neg (by omega), if_pos (by omega), if_neg (by omega)]; omega)
                      | (refine hQ _ ?_; rw [if_neg (by omega), if_neg (by omega), if_neg (by omega), if_neg (by omega), if_neg (by omega)]; omega)
                  · refine n_iconst dX11_hindrance_179 (by decide) (fun r179 e179 => ?_)
                    refine r_goto (t := 184) dX11_hindrance_180 (by decide) ?_
                    refine r_iret dX11_hindrance_184 rfl (Nat.le_of_ble_eq_true rfl) (Nat.le_of_ble_eq_true rfl) ?_
                    first
                      | (refine hQ _ ?_; rw [if_pos (by omega)]; omega)
                      | (refine hQ _ ?_; rw [if_neg (by omega), if_pos (by omega), if_pos (by omega)]; omega)
                      | (refine hQ _ ?_; rw [if_neg (by omega), if_pos (by omega), if_neg (by omega)]; omega)
                      | (refine hQ _ ?_; rw [if_neg (by omega), if_neg (by omega), if_pos (by omega), if_pos (by omega)]; omega)
                      | (refine hQ _ ?_; rw [if_neg (by omega), if_neg (by omega), if_pos (by omega), if_neg (by omega)]; omega)
                      | (refine hQ _ ?_; rw [if_neg (by omega), if_neg (by omega), if_neg (by omega), if_pos (by omega), if_pos (by omega)]; omega)
                      | (refine hQ _ ?_; rw [if_neg (by omega), if_neg (by omega), if_neg (by omega), if_pos (by omega), if_neg (by omega)]; omega)
                      | (refine hQ _ ?_; rw [if_neg (by omega), if_neg (by omega), if_neg (by omega), if_neg (by omega), if_pos (by omega), if_pos (by omega)]; omega)
                      | (refine hQ _ ?_; rw [if_neg (by omega), if_neg (by omega), if_neg (by omega), if_neg (by omega), if_pos (by omega), if_neg (by omega)]; omega)
                      | (refine hQ _ ?_; rw [if_neg (by omega), if_neg (by omega), if_neg (by omega), if_neg (by omega), if_neg (by omega)]; omega)
            · refine r_lload2 dX11_hindrance_117 ?_
              refine n_ldc2 (n := 1600) zk_RX11_340 dX11_hindrance_118 (by decide) (fun r118 e118_z => ?_)
              refine n_lcmp dX11_hindrance_121 (fun r121 e121 => ?_)
              unfold zcmp at e121
              refine t_ifge (t := 147) dX11_hindrance_122 (by decide) (fun h122 => ?_) (fun h122 => ?_)
              · refine r_lload2 dX11_hindrance_147 ?_
                refine n_ldc2 (n := 2000) zk_RX11_342 dX11_hindrance_148 (by decide) (fun r148 e148 => ?_)
                refine n_lcmp dX11_hindrance_151 (fun r151 e151 => ?_)
                unfold zcmp at e151
                refine t_iflt (t := 185) dX11_hindrance_152 (by decide) (fun h152 => ?_) (fun h152 => ?_)
                · refine n_iconst dX11_hindrance_185 (by decide) (fun r185 e185 => ?_)
                  refine r_iret dX11_hindrance_186 rfl (Nat.le_of_ble_eq_true rfl) (Nat.le_of_ble_eq_true rfl) ?_
                  first
                    | (refine hQ _ ?_; rw [if_pos (by omega)]; omega)
                    | (refine hQ _ ?_; rw [if_neg (by omega), if_pos (by omega), if_pos (by omega)]; omega)
                    | (refine hQ _ ?_; rw [if_neg (by omega), if_pos (by omega), if_neg (by omega)]; omega)
                    | (refine hQ _ ?_; rw [if_neg (by omega), if_neg (by omega), if_pos (by omega), if_pos (by omega)]; omega)
                    | (refine hQ _ ?_; rw [if_neg (by omega), if_neg (by omega), if_pos (by omega), if_neg (by omega)]; omega)
                    | (refine hQ _ ?_; rw [if_neg (by omega), if_neg (by omega), if_neg (by omega), if_pos (by omega), if_pos (by omega)]; omega)
                    | (refine hQ _ ?_; rw [if_neg (by omega), if_neg (by omega), if_neg (by omega), if_pos (by omega), if_neg (by omega)]; omega)
                    | (refine hQ _ ?_; rw [if_neg (by omega), if_neg (by omega), if_neg (by omega), if_neg (by omega), if_pos (by omega), if_pos (by omega)]; omega)
                    | (refine hQ _ ?_; rw [if_neg (by omega), if_neg (by omega), if_neg (by omega), if_neg (by omega), if_pos (by omega), if_neg (by omega)]; omega)
                    | (refine hQ _ ?_; rw [if_neg (by omega), if_neg (by omega), if_neg (by omega), if_neg (by omega), if_neg (by omega)]; omega)
                · refine r_lload2 dX11_hindrance_155 ?_
                  refine n_ldc2 (n := 2600) zk_RX11_344 dX11_hindrance_156 (by decide) (fun r156 e156 => ?_)
                  refine n_lcmp dX11_hindrance_159 (fun r159 e159 => ?_)
                  unfold zcmp at e159
                  refine t_ifge (t := 185) dX11_hindrance_160 (by decide) (fun h160 => ?_) (fun h160 => ?_)
                  · refine n_iconst dX11_hindrance_185 (by decide) (fun r185 e185 => ?_)
                    refine r_iret dX11_hindrance_186 rfl (Nat.le_of_ble_eq_true rfl) (Nat.le_of_ble_eq_true rfl) ?_
                    first
                      | (refine hQ _ ?_; rw [if_pos (by omega)]; omega)
                      | (refine hQ _ ?_; rw [if_neg (by omega), if_pos (by omega), if_pos (by omega)]; omega)
                      | (refine hQ _ ?_; rw [if_neg (by omega), if_pos (by omega), if_neg (by omega)]; omega)
                      | (refine hQ _ ?_; rw [if_neg (by omega), if_neg (by omega), if_pos (by omega), if_pos (by omega)]; omega)
                      | (refine hQ _ ?_; rw [if_neg (by omega), if_neg (by omega), if_pos (by omega), if_neg (by omega)]; omega)
                      | (refine hQ _ ?_; rw [if_neg (by omega), if_neg (by omega), if_neg (by omega), if_pos (by omega), if_pos (by omega)]; omega)
                      | (refine hQ _ ?_; rw [if_neg (by omega), if_neg (by omega), if_neg (by omega), if_pos (by omega), if_neg (by omega)]; omega)
                      | (refine hQ _ ?_; rw [if_neg (by omega), if_neg (by omega), if_neg (by omega), if_neg (by omega), if_pos (by omega), if_pos (by omega)]; omega)
                      | (refine hQ _ ?_; rw [if_neg (by omega), if_neg (by omega), if_neg (by omega), if_neg (by omega), if_pos (by omega), if_neg (by omega)]; omega)
                      | (refine hQ _ ?_; rw [if_neg (by omega), if_neg (by omega), if_neg (by omega), if_neg (by omega), if_neg (by omega)]; omega)
                  · refine r_aloadR0 dX11_hindrance_163 ?_
                    refine r_lload2 dX11_hindrance_164 ?_
                    refine n_ldc2 (n := 2000) zk_RX11_342 dX11_hindrance_165 (by decide) (fun r165 e165 => ?_)
                    refine n_lsub dX11_hindrance_168 (by omega) (fun r168 e168 => ?_)
                    refine n_ldc2 (n := 100) zk_RX11_330 dX11_hindrance_169 (by decide) (fun r169 e169 => ?_)
                    refine n_ldivc (c := 100) dX11_hindrance_172 e169 (by decide) (by omega) (fun r172 e172 => ?_)
                    refine q_callV1 zm_RX11_123 dX11_hindrance_173 (shX_k hx) (by decide) rfl (Nat.le_of_ble_eq_true rfl) (Nat.le_of_ble_eq_true rfl) (Nat.le_of_ble_eq_true rfl) (Nat.le_of_ble_eq_true rfl) (Nat.le_of_ble_eq_true rfl) (s_X11_isCell G hx ht  (fun r173 e173 => ?_))
                    refine t_ifeq (t := 183) dX11_hindrance_176 (by decide) (fun h176 => ?_) (fun h176 => ?_)
                    · refine n_iconst dX11_hindrance_183 (by decide) (fun r183 e183 => ?_)
                      refine r_iret dX11_hindrance_184 rfl (Nat.le_of_ble_eq_true rfl) (Nat.le_of_ble_eq_true rfl) ?_
                      first
                        | (refine hQ _ ?_; rw [if_pos (by omega)]; omega)
                        | (refine hQ _ ?_; rw [if_neg (by omega), if_pos (by omega), if_pos (by omega)]; omega)
                        | (refine hQ _ ?_; rw [if_neg (by omega), if_pos (by omega), if_neg (by omega)]; omega)
                        | (refine hQ _ ?_; rw [if_neg (by omega), if_neg (by omega), if_pos (by omega), if_pos (by omega)]; omega)
                        | (refine hQ _ ?_; rw [if_neg (by omega), if_neg (by omega), if_pos (by omega), if_neg (by omega)]; omega)
                        | (refine hQ _ ?_; rw [if_neg (by omega), if_neg (by omega), if_neg (by omega), if_pos (by omega), if_pos (by omega)]; omega)
                        | (refine hQ _ ?_; rw [if_neg (by omega), if_neg (by omega), if_neg (by omega), if_pos (by omega), if_neg (by omega)]; omega)
                        | (refine hQ _ ?_; rw [if_neg (by omega), if_neg (by omega), if_neg (by omega), if_neg (by omega), if_pos (by omega), if_pos (by omega)]; omega)
                        | (refine hQ _ ?_; rw [if_neg (by omega), if_neg (by omega), if_neg (by omega), if_neg (by omega), if_pos (by omega), if_neg (by omega)]; omega)
                        | (refine hQ _ ?_; rw [if_neg (by omega), if_neg (by omega), if_neg (by omega), if_neg (by omega), if_neg (by omega)]; omega)
                    · refine n_iconst dX11_hindrance_179 (by decide) (fun r179 e179 => ?_)
                      refine r_goto (t := 184) dX11_hindrance_180 (by decide) ?_
                      refine r_iret dX11_hindrance_184 rfl (Nat.le_of_ble_eq_true rfl) (Nat.le_of_ble_eq_true rfl) ?_
                      first
                        | (refine hQ _ ?_; rw [if_pos (by omega)]; omega)
                        | (refine hQ _ ?_; rw [if_neg (by omega), if_pos (by omega), if_pos (by omega)]; omega)
                        | (refine hQ _ ?_; rw [if_neg (by omega), if_pos (by omega), if_neg (by omega)]; omega)
                        | (refine hQ _ ?_; rw [if_neg (by omega), if_neg (by omega), if_pos (by omega), if_pos (by omega)]; omega)
                        | (refine hQ _ ?_; rw [if_neg (by omega), if_neg (by omega), if_pos (by omega), if_neg (by omega)]; omega)
                        | (refine hQ _ ?_; rw [if_neg (by omega), if_neg (by omega), if_neg (by omega), if_pos (by omega), if_pos (by omega)]; omega)
                        | (refine hQ _ ?_; rw [if_neg (by omega), if_neg (by omega), if_neg (by omega), if_pos (by omega), if_neg (by omega)]; omega)
                        | (refine hQ _ ?_; rw [if_neg (by omega), if_neg (by omega), if_neg (by omega), if_neg (by omega), if_pos (by omega), if_pos (by omega)]; omega)
                        | (refine hQ _ ?_; rw [if_neg (by omega), if_neg (by omega), if_neg (by omega), if_neg (by omega), if_pos (by omega), if_neg (by omega)]; omega)
                        | (refine hQ _ ?_; rw [if_neg (by omega), if_neg (by omega), if_neg (by omega), if_neg (by omega), if_neg (by omega)]; omega)
              · refine r_aloadR0 dX11_hindrance_125 ?_
                refine r_lload2 dX11_hindrance_126 ?_
                refine n_ldc2 (n := 1000) zk_RX11_338 dX11_hindrance_127 (by decide) (fun r127 e127_z => ?_)
                refine n_lsub dX11_hindrance_130 (by omega) (fun r130 e130 => ?_)
                refine n_ldc2 (n := 100) zk_RX11_330 dX11_hindrance_131 (by decide) (fun r131 e131 => ?_)
                refine n_ldivc (c := 100) dX11_hindrance_134 e131 (by decide) (by omega) (fun r134 e134 => ?_)
                refine q_callV1 zm_RX11_123 dX11_hindrance_135 (shX_k hx) (by decide) rfl (Nat.le_of_ble_eq_true rfl) (Nat.le_of_ble_eq_true rfl) (Nat.le_of_ble_eq_true rfl) (Nat.le_of_ble_eq_true rfl) (Nat.le_of_ble_eq_true rfl) (s_X11_isCell G hx ht  (fun r135 e135 => ?_))
                refine t_ifeq (t := 145) dX11_hindrance_138 (by decide) (fun h138 => ?_) (fun h138 => ?_)
                · refine n_iconst dX11_hindrance_145 (by decide) (fun r145 e145 => ?_)
                  refine r_iret dX11_hindrance_146 rfl (Nat.le_of_ble_eq_true rfl) (Nat.le_of_ble_eq_true rfl) ?_
                  first
                    | (refine hQ _ ?_; rw [if_pos (by omega)]; omega)
                    | (refine hQ _ ?_; rw [if_neg (by omega), if_pos (by omega), if_pos (by omega)]; omega)
                    | (refine hQ _ ?_; rw [if_neg (by omega), if_pos (by omega), if_neg (by omega)]; omega)
                    | (refine hQ _ ?_; rw [if_neg (by omega), if_neg (by omega), if_pos (by omega), if_pos (by omega)]; omega)
                    | (refine hQ _ ?_; rw [if_neg (by omega), if_neg (by omega), if_pos (by omega), if_neg (by omega)]; omega)
                    | (refine hQ _ ?_; rw [if_neg (by omega), if_neg (by omega), if_neg (by omega), if_pos (by omega), if_pos (by omega)]; omega)
                    | (refine hQ _ ?_; rw [if_neg (by omega), if_neg (by omega), if_neg (by omega), if_pos (by omega), if_neg (by omega)]; omega)
                    | (refine hQ _ ?_; rw [if_neg (by omega), if_neg (by omega), if_neg (by omega), if_neg (by omega), if_pos (by omega), if_pos (by omega)]; omega)
                    | (refine hQ _ ?_; rw [if_neg (by omega), if_neg (by omega), if_neg (by omega), if_neg (by omega), if_pos (by omega), if_neg (by omega)]; omega)
                    | (refine hQ _ ?_; rw [if_neg (by omega), if_neg (by omega), if_neg (by omega), if_neg (by omega), if_neg (by omega)]; omega)
                · refine n_iconst dX11_hindrance_141 (by decide) (fun r141 e141 => ?_)
                  refine r_goto (t := 146) dX11_hindrance_142 (by decide) ?_
                  refine r_iret dX11_hindrance_146 rfl (Nat.le_of_ble_eq_true rfl) (Nat.le_of_ble_eq_true rfl) ?_
                  first
                    | (refine hQ _ ?_; rw [if_pos (by omega)]; omega)
                    | (refine hQ _ ?_; rw [if_neg (by omega), if_pos (by omega), if_pos (by omega)]; omega)
                    | (refine hQ _ ?_; rw [if_neg (by omega), if_pos (by omega), if_neg (by omega)]; omega)
                    | (refine hQ _ ?_; rw [if_neg (by omega), if_neg (by omega), if_pos (by omega), if_pos (by omega)]; omega)
                    | (refine hQ _ ?_; rw [if_neg (by omega), if_neg (by omega), if_pos (by omega), if_neg (by omega)]; omega)
                    | (refine hQ _ ?_; rw [if_neg (by omega), if_neg (by omega), if_neg (by omega), if_pos (by omega), if_pos (by omega)]; omega)
                    | (refine hQ _ ?_; rw [if_neg (by omega), if_neg (by omega), if_neg (by omega), if_pos (by omega), if_neg (by omega)]; omega)
                    | (refine hQ _ ?_; rw [if_neg (by omega), if_neg (by omega), if_neg (by omega), if_neg (by omega), if_pos (by omega), if_pos (by omega)]; omega)
                    | (refine hQ _ ?_; rw [if_neg (by omega), if_neg (by omega), if_neg (by omega), if_neg (by omega), if_pos (by omega), if_neg (by omega)]; omega)
                    | (refine hQ _ ?_; rw [if_neg (by omega), if_neg (by omega), if_neg (by omega), if_neg (by omega), if_neg (by omega)]; omega)
          · refine r_lload2 dX11_hindrance_53 ?_
            refine n_ldc2 (n := 10) zk_RX11_334 dX11_hindrance_54 (by decide) (fun r54 e54 => ?_)
            refine n_ldivc (c := 10) dX11_hindrance_57 e54 (by decide) (by omega) (fun r57 e57 => ?_)
            refine r_lstore4 dX11_hindrance_58 rfl ?_
            refine r_lload4 dX11_hindrance_60 ?_
            refine n_lconst (q := 1) dX11_hindrance_62 rfl (by decide) (fun r62 e62 => ?_)
            refine n_lcmp dX11_hindrance_63 (fun r63 e63 => ?_)
            unfold zcmp at e63
            refine t_iflt (t := 95) dX11_hindrance_64 (by decide) (fun h64 => ?_) (fun h64 => ?_)
            · refine n_iconst dX11_hindrance_95 (by decide) (fun r95 e95_z => ?_)
              refine r_istore6 dX11_hindrance_96 rfl ?_
              refine r_iload6 dX11_hindrance_98 ?_
              refine t_ifeq (t := 107) dX11_hindrance_100 (by decide) (fun h100 => ?_) (fun h100 => ?_)
              · refine n_iconst dX11_hindrance_107 (by decide) (fun r107 e107_z => ?_)
                refine r_iret dX11_hindrance_108 rfl (Nat.le_of_ble_eq_true rfl) (Nat.le_of_ble_eq_true rfl) ?_
                first
                  | (refine hQ _ ?_; rw [if_pos (by omega)]; omega)
                  | (refine hQ _ ?_; rw [if_neg (by omega), if_pos (by omega), if_pos (by omega)]; omega)
                  | (refine hQ _ ?_; rw [if_neg (by omega), if_pos (by omega), if_neg (by omega)]; omega)
                  | (refine hQ _ ?_; rw [if_neg (by omega), if_neg (by omega), if_pos (by omega), if_pos (by omega)]; omega)
                  | (refine hQ _ ?_; rw [if_neg (by omega), if_neg (by omega), if_pos (by omega), if_neg (by omega)]; omega)
                  | (refine hQ _ ?_; rw [if_neg (by omega), if_neg (by omega), if_neg (by omega), if_pos (by omega), if_pos (by omega)]; omega)
                  | (refine hQ _ ?_; rw [if_neg (by omega), if_neg (by omega), if_neg (by omega), if_pos (by omega), if_neg (by omega)]; omega)
                  | (refine hQ _ ?_; rw [if_neg (by omega), if_neg (by omega), if_neg (by omega), if_neg (by omega), if_pos (by omega), if_pos (by omega)]; omega)
                  | (refine hQ _ ?_; rw [if_neg (by omega), if_neg (by omega), if_neg (by omega), if_neg (by omega), if_pos (by omega), if_neg (by omega)]; omega)
                  | (refine hQ _ ?_; rw [if_neg (by omega), if_neg (by omega), if_neg (by omega), if_neg (by omega), if_neg (by omega)]; omega)
              · refine n_iconst dX11_hindrance_103 (by decide) (fun r103 e103_z => ?_)
                refine r_goto (t := 108) dX11_hindrance_104 (by decide) ?_
                refine r_iret dX11_hindrance_108 rfl (Nat.le_of_ble_eq_true rfl) (Nat.le_of_ble_eq_true rfl) ?_
                first
                  | (refine hQ _ ?_; rw [if_pos (by omega)]; omega)
                  | (refine hQ _ ?_; rw [if_neg (by omega), if_pos (by omega), if_pos (by omega)]; omega)
                  | (refine hQ _ ?_; rw [if_neg (by omega), if_pos (by omega), if_neg (by omega)]; omega)
                  | (refine hQ _ ?_; rw [if_neg (by omega), if_neg (by omega), if_pos (by omega), if_pos (by omega)]; omega)
                  | (refine hQ _ ?_; rw [if_neg (by omega), if_neg (by omega), if_pos (by omega), if_neg (by omega)]; omega)
                  | (refine hQ _ ?_; rw [if_neg (by omega), if_neg (by omega), if_neg (by omega), if_pos (by omega), if_pos (by omega)]; omega)
                  | (refine hQ _ ?_; rw [if_neg (by omega), if_neg (by omega), if_neg (by omega), if_pos (by omega), if_neg (by omega)]; omega)
                  | (refine hQ _ ?_; rw [if_neg (by omega), if_neg (by omega), if_neg (by omega), if_neg (by omega), if_pos (by omega), if_pos (by omega)]; omega)
                  | (refine hQ _ ?_; rw [if_neg (by omega), if_neg (by omega), if_neg (by omega), if_neg (by omega), if_pos (by omega), if_neg (by omega)]; omega)
                  | (refine hQ _ ?_; rw [if_neg (by omega), if_neg (by omega), if_neg (by omega), if_neg (by omega), if_neg (by omega)]; omega)
            · refine r_lload4 dX11_hindrance_67 ?_
              refine r_aloadR0 dX11_hindrance_69 ?_
              refine r_aloadR1 dX11_hindrance_70 ?_
              refine q_callV1 zm_RX11_260 dX11_hindrance_71 (shX_k hx) (by decide) rfl (Nat.le_of_ble_eq_true rfl) (Nat.le_of_ble_eq_true rfl) (Nat.le_of_ble_eq_true rfl) (Nat.le_of_ble_eq_true rfl) (Nat.le_of_ble_eq_true rfl) (s_X11_columnsOf G hx ht hms hmc hwm2  (fun r71 e71_z => ?_))
              refine n_i2l dX11_hindrance_74 (fun r74 e74_z => ?_)
              refine n_lcmp dX11_hindrance_75 (fun r75 e75 => ?_)
              unfold zcmp at e75
              refine t_ifge (t := 95) dX11_hindrance_76 (by decide) (fun h76 => ?_) (fun h76 => ?_)
              · refine n_iconst dX11_hindrance_95 (by decide) (fun r95 e95_z => ?_)
                refine r_istore6 dX11_hindrance_96 rfl ?_
                refine r_iload6 dX11_hindrance_98 ?_
                refine t_ifeq (t := 107) dX11_hindrance_100 (by decide) (fun h100 => ?_) (fun h100 => ?_)
                · refine n_iconst dX11_hindrance_107 (by decide) (fun r107 e107_z => ?_)
                  refine r_iret dX11_hindrance_108 rfl (Nat.le_of_ble_eq_true rfl) (Nat.le_of_ble_eq_true rfl) ?_
                  first
                    | (refine hQ _ ?_; rw [if_pos (by omega)]; omega)
                    | (refine hQ _ ?_; rw [if_neg (by omega), if_pos (by omega), if_pos (by omega)]; omega)
                    | (refine hQ _ ?_; rw [if_neg (by omega), if_pos (by omega), if_neg (by omega)]; omega)
                    | (refine hQ _ ?_; rw [if_neg (by omega), if_neg (by omega), if_pos (by omega), if_pos (by omega)]; omega)
                    | (refine hQ _ ?_; rw [if_neg (by omega), if_neg (by omega), if_pos (by omega), if_neg (by omega)]; omega)
                    | (refine hQ _ ?_; rw [if_neg (by omega), if_neg (by omega), if_neg (by omega), if_pos (by omega), if_pos (by omega)]; omega)
                    | (refine hQ _ ?_; rw [if_neg (by omega), if_neg (by omega), if_neg (by omega), if_pos (by omega), if_neg (by omega)]; omega)
                    | (refine hQ _ ?_; rw [if_neg (by omega), if_neg (by omega), if_neg (by omega), if_neg (by omega), if_pos (by omega), if_pos (by omega)]; omega)
                    | (refine hQ _ ?_; rw [if_neg (by omega), if_neg (by omega), if_neg (by omega), if_neg (by omega), if_pos (by omega), if_neg (by omega)]; omega)
                    | (refine hQ _ ?_; rw [if_neg (by omega), if_neg (by omega), if_neg (by omega), if_neg (by omega), if_neg (by omega)]; omega)
                · refine n_iconst dX11_hindrance_103 (by decide) (fun r103 e103_z => ?_)
                  refine r_goto (t := 108) dX11_hindrance_104 (by decide) ?_
                  refine r_iret dX11_hindrance_108 rfl (Nat.le_of_ble_eq_true rfl) (Nat.le_of_ble_eq_true rfl) ?_
                  first
                    | (refine hQ _ ?_; rw [if_pos (by omega)]; omega)
                    | (refine hQ _ ?_; rw [if_neg (by omega), if_pos (by omega), if_pos (by omega)]; omega)
                    | (refine hQ _ ?_; rw [if_neg (by omega), if_pos (by omega), if_neg (by omega)]; omega)
                    | (refine hQ _ ?_; rw [if_neg (by omega), if_neg (by omega), if_pos (by omega), if_pos (by omega)]; omega)
                    | (refine hQ _ ?_; rw [if_neg (by omega), if_neg (by omega), if_pos (by omega), if_neg (by omega)]; omega)
                    | (refine hQ _ ?_; rw [if_neg (by omega), if_neg (by omega), if_neg (by omega), if_pos (by omega), if_pos (by omega)]; omega)
                    | (refine hQ _ ?_; rw [if_neg (by omega), if_neg (by omega), if_neg (by omega), if_pos (by omega), if_neg (by omega)]; omega)
                    | (refine hQ _ ?_; rw [if_neg (by omega), if_neg (by omega), if_neg (by omega), if_neg (by omega), if_pos (by omega), if_pos (by omega)]; omega)
                    | (refine hQ _ ?_; rw [if_neg (by omega), if_neg (by omega), if_neg (by omega), if_neg (by omega), if_pos (by omega), if_neg (by omega)]; omega)
                    | (refine hQ _ ?_; rw [if_neg (by omega), if_neg (by omega), if_neg (by omega), if_neg (by omega), if_neg (by omega)]; omega)
              · refine r_lload2 dX11_hindrance_79 ?_
                refine n_ldc2 (n := 10) zk_RX11_334 dX11_hindrance_80 (by decide) (fun r80 e80 => ?_)
                refine n_lremc (c := 10) dX11_hindrance_83 e80 (by decide) (by omega) (fun r83 e83 => ?_)
                refine n_ldc2 (n := 4) zk_RX11_336 dX11_hindrance_84 (by decide) (fun r84 e84 => ?_)
                refine n_lcmp dX11_hindrance_87 (fun r87 e87 => ?_)
                unfold zcmp at e87
                refine t_ifge (t := 95) dX11_hindrance_88 (by decide) (fun h88 => ?_) (fun h88 => ?_)
                · refine n_iconst dX11_hindrance_95 (by decide) (fun r95 e95_z => ?_)
                  refine r_istore6 dX11_hindrance_96 rfl ?_
                  refine r_iload6 dX11_hindrance_98 ?_
                  refine t_ifeq (t := 107) dX11_hindrance_100 (by decide) (fun h100 => ?_) (fun h100 => ?_)
                  · refine n_iconst dX11_hindrance_107 (by decide) (fun r107 e107_z => ?_)
                    refine r_iret dX11_hindrance_108 rfl (Nat.le_of_ble_eq_true rfl) (Nat.le_of_ble_eq_true rfl) ?_
                    first
                      | (refine hQ _ ?_; rw [if_pos (by omega)]; omega)
                      | (refine hQ _ ?_; rw [if_neg (by omega), if_pos (by omega), if_pos (by omega)]; omega)
                      | (refine hQ _ ?_; rw [if_neg (by omega), if_pos (by omega), if_neg (by omega)]; omega)
                      | (refine hQ _ ?_; rw [if_neg (by omega), if_neg (by omega), if_pos (by omega), if_pos (by omega)]; omega)
                      | (refine hQ _ ?_; rw [if_neg (by omega), if_neg (by omega), if_pos (by omega), if_neg (by omega)]; omega)
                      | (refine hQ _ ?_; rw [if_neg (by omega), if_neg (by omega), if_neg (by omega), if_pos (by omega), if_pos (by omega)]; omega)
                      | (refine hQ _ ?_; rw [if_neg (by omega), if_neg (by omega), if_neg (by omega), if_pos (by omega), if_neg (by omega)]; omega)
                      | (refine hQ _ ?_; rw [if_neg (by omega), if_neg (by omega), if_neg (by omega), if_neg (by omega), if_pos (by omega), if_pos (by omega)]; omega)
                      | (refine hQ _ ?_; rw [if_neg (by omega), if_neg (by omega), if_neg (by omega), if_neg (by omega), if_pos (by omega), if_neg (by omega)]; omega)
                      | (refine hQ _ ?_; rw [if_neg (by omega), if_neg (by omega), if_neg (by omega), if_neg (by omega), if_neg (by omega)]; omega)
                  · refine n_iconst dX11_hindrance_103 (by decide) (fun r103 e103_z => ?_)
                    refine r_goto (t := 108) dX11_hindrance_104 (by decide) ?_
                    refine r_iret dX11_hindrance_108 rfl (Nat.le_of_ble_eq_true rfl) (Nat.le_of_ble_eq_true rfl) ?_
                    first
                      | (refine hQ _ ?_; rw [if_pos (by omega)]; omega)
                      | (refine hQ _ ?_; rw [if_neg (by omega), if_pos (by omega), if_pos (by omega)]; omega)
                      | (refine hQ _ ?_; rw [if_neg (by omega), if_pos (by omega), if_neg (by omega)]; omega)
                      | (refine hQ _ ?_; rw [if_neg (by omega), if_neg (by omega), if_pos (by omega), if_pos (by omega)]; omega)
                      | (refine hQ _ ?_; rw [if_neg (by omega), if_neg (by omega), if_pos (by omega), if_neg (by omega)]; omega)
                      | (refine hQ _ ?_; rw [if_neg (by omega), if_neg (by omega), if_neg (by omega), if_pos (by omega), if_pos (by omega)]; omega)
                      | (refine hQ _ ?_; rw [if_neg (by omega), if_neg (by omega), if_neg (by omega), if_pos (by omega), if_neg (by omega)]; omega)
                      | (refine hQ _ ?_; rw [if_neg (by omega), if_neg (by omega), if_neg (by omega), if_neg (by omega), if_pos (by omega), if_pos (by omega)]; omega)
                      | (refine hQ _ ?_; rw [if_neg (by omega), if_neg (by omega), if_neg (by omega), if_neg (by omega), if_pos (by omega), if_neg (by omega)]; omega)
                      | (refine hQ _ ?_; rw [if_neg (by omega), if_neg (by omega), if_neg (by omega), if_neg (by omega), if_neg (by omega)]; omega)
                · refine n_iconst dX11_hindrance_91 (by decide) (fun r91 e91 => ?_)
                  refine r_goto (t := 96) dX11_hindrance_92 (by decide) ?_
                  refine r_istore6 dX11_hindrance_96 rfl ?_
                  refine r_iload6 dX11_hindrance_98 ?_
                  refine t_ifeq (t := 107) dX11_hindrance_100 (by decide) (fun h100 => ?_) (fun h100 => ?_)
                  · refine n_iconst dX11_hindrance_107 (by decide) (fun r107 e107_z => ?_)
                    refine r_iret dX11_hindrance_108 rfl (Nat.le_of_ble_eq_true rfl) (Nat.le_of_ble_eq_true rfl) ?_
                    first
                      | (refine hQ _ ?_; rw [if_pos (by omega)]; omega)
                      | (refine hQ _ ?_; rw [if_neg (by omega), if_pos (by omega), if_pos (by omega)]; omega)
                      | (refine hQ _ ?_; rw [if_neg (by omega), if_pos (by omega), if_neg (by omega)]; omega)
                      | (refine hQ _ ?_; rw [if_neg (by omega), if_neg (by omega), if_pos (by omega), if_pos (by omega)]; omega)
                      | (refine hQ _ ?_; rw [if_neg (by omega), if_neg (by omega), if_pos (by omega), if_neg (by omega)]; omega)
                      | (refine hQ _ ?_; rw [if_neg (by omega), if_neg (by omega), if_neg (by omega), if_pos (by omega), if_pos (by omega)]; omega)
                      | (refine hQ _ ?_; rw [if_neg (by omega), if_neg (by omega), if_neg (by omega), if_pos (by omega), if_neg (by omega)]; omega)
                      | (refine hQ _ ?_; rw [if_neg (by omega), if_neg (by omega), if_neg (by omega), if_neg (by omega), if_pos (by omega), if_pos (by omega)]; omega)
                      | (refine hQ _ ?_; rw [if_neg (by omega), if_neg (by omega), if_neg (by omega), if_neg (by omega), if_pos (by omega), if_neg (by omega)]; omega)
                      | (refine hQ _ ?_; rw [if_neg (by omega), if_neg (by omega), if_neg (by omega), if_neg (by omega), if_neg (by omega)]; omega)
                  · refine n_iconst dX11_hindrance_103 (by decide) (fun r103 e103_z => ?_)
                    refine r_goto (t := 108) dX11_hindrance_104 (by decide) ?_
                    refine r_iret dX11_hindrance_108 rfl (Nat.le_of_ble_eq_true rfl) (Nat.le_of_ble_eq_true rfl) ?_
                    first
                      | (refine hQ _ ?_; rw [if_pos (by omega)]; omega)
                      | (refine hQ _ ?_; rw [if_neg (by omega), if_pos (by omega), if_pos (by omega)]; omega)
                      | (refine hQ _ ?_; rw [if_neg (by omega), if_pos (by omega), if_neg (by omega)]; omega)
                      | (refine hQ _ ?_; rw [if_neg (by omega), if_neg (by omega), if_pos (by omega), if_pos (by omega)]; omega)
                      | (refine hQ _ ?_; rw [if_neg (by omega), if_neg (by omega), if_pos (by omega), if_neg (by omega)]; omega)
                      | (refine hQ _ ?_; rw [if_neg (by omega), if_neg (by omega), if_neg (by omega), if_pos (by omega), if_pos (by omega)]; omega)
                      | (refine hQ _ ?_; rw [if_neg (by omega), if_neg (by omega), if_neg (by omega), if_pos (by omega), if_neg (by omega)]; omega)
                      | (refine hQ _ ?_; rw [if_neg (by omega), if_neg (by omega), if_neg (by omega), if_neg (by omega), if_pos (by omega), if_pos (by omega)]; omega)
                      | (refine hQ _ ?_; rw [if_neg (by omega), if_neg (by omega), if_neg (by omega), if_neg (by omega), if_pos (by omega), if_neg (by omega)]; omega)
                      | (refine hQ _ ?_; rw [if_neg (by omega), if_neg (by omega), if_neg (by omega), if_neg (by omega), if_neg (by omega)]; omega)
      · refine r_aloadR1 dX11_hindrance_26 ?_
        refine m_getV (x := (f m 2)) zf_RX11_225 rfl dX11_hindrance_27 (shMo_k hms) (rfl) ?_
        refine t_ifle (t := 37) dX11_hindrance_30 (by decide) (fun h30 => ?_) (fun h30 => ?_)
        · refine n_iconst dX11_hindrance_37 (by decide) (fun r37 e37 => ?_)
          refine r_iret dX11_hindrance_38 rfl (Nat.le_of_ble_eq_true rfl) (Nat.le_of_ble_eq_true rfl) ?_
          first
            | (refine hQ _ ?_; rw [if_pos (by omega)]; omega)
            | (refine hQ _ ?_; rw [if_neg (by omega), if_pos (by omega), if_pos (by omega)]; omega)
            | (refine hQ _ ?_; rw [if_neg (by omega), if_pos (by omega), if_neg (by omega)]; omega)
            | (refine hQ _ ?_; rw [if_neg (by omega), if_neg (by omega), if_pos (by omega), if_pos (by omega)]; omega)
            | (refine hQ _ ?_; rw [if_neg (by omega), if_neg (by omega), if_pos (by omega), if_neg (by omega)]; omega)
            | (refine hQ _ ?_; rw [if_neg (by omega), if_neg (by omega), if_neg (by omega), if_pos (by omega), if_pos (by omega)]; omega)
            | (refine hQ _ ?_; rw [if_neg (by omega), if_neg (by omega), if_neg (by omega), if_pos (by omega), if_neg (by omega)]; omega)
            | (refine hQ _ ?_; rw [if_neg (by omega), if_neg (by omega), if_neg (by omega), if_neg (by omega), if_pos (by omega), if_pos (by omega)]; omega)
            | (refine hQ _ ?_; rw [if_neg (by omega), if_neg (by omega), if_neg (by omega), if_neg (by omega), if_pos (by omega), if_neg (by omega)]; omega)
            | (refine hQ _ ?_; rw [if_neg (by omega), if_neg (by omega), if_neg (by omega), if_neg (by omega), if_neg (by omega)]; omega)
        · refine n_iconst dX11_hindrance_33 (by decide) (fun r33 e33_z => ?_)
          refine r_goto (t := 38) dX11_hindrance_34 (by decide) ?_
          refine r_iret dX11_hindrance_38 rfl (Nat.le_of_ble_eq_true rfl) (Nat.le_of_ble_eq_true rfl) ?_
          first
            | (refine hQ _ ?_; rw [if_pos (by omega)]; omega)
            | (refine hQ _ ?_; rw [if_neg (by omega), if_pos (by omega), if_pos (by omega)]; omega)
            | (refine hQ _ ?_; rw [if_neg (by omega), if_pos (by omega), if_neg (by omega)]; omega)
            | (refine hQ _ ?_; rw [if_neg (by omega), if_neg (by omega), if_pos (by omega), if_pos (by omega)]; omega)
            | (refine hQ _ ?_; rw [if_neg (by omega), if_neg (by omega), if_pos (by omega), if_neg (by omega)]; omega)
            | (refine hQ _ ?_; rw [if_neg (by omega), if_neg (by omega), if_neg (by omega), if_pos (by omega), if_pos (by omega)]; omega)
            | (refine hQ _ ?_; rw [if_neg (by omega), if_neg (by omega), if_neg (by omega), if_pos (by omega), if_neg (by omega)]; omega)
            | (refine hQ _ ?_; rw [if_neg (by omega), if_neg (by omega), if_neg (by omega), if_neg (by omega), if_pos (by omega), if_pos (by omega)]; omega)
            | (refine hQ _ ?_; rw [if_neg (by omega), if_neg (by omega), if_neg (by omega), if_neg (by omega), if_pos (by omega), if_neg (by omega)]; omega)
            | (refine hQ _ ?_; rw [if_neg (by omega), if_neg (by omega), if_neg (by omega), if_neg (by omega), if_neg (by omega)]; omega)
  · refine n_iconst dX11_hindrance_8 (by decide) (fun r8 e8 => ?_)
    refine r_iret dX11_hindrance_9 rfl (Nat.le_of_ble_eq_true rfl) (Nat.le_of_ble_eq_true rfl) ?_
    first
      | (refine hQ _ ?_; rw [if_pos (by omega)]; omega)
      | (refine hQ _ ?_; rw [if_neg (by omega), if_pos (by omega), if_pos (by omega)]; omega)
      | (refine hQ _ ?_; rw [if_neg (by omega), if_pos (by omega), if_neg (by omega)]; omega)
      | (refine hQ _ ?_; rw [if_neg (by omega), if_neg (by omega), if_pos (by omega), if_pos (by omega)]; omega)
      | (refine hQ _ ?_; rw [if_neg (by omega), if_neg (by omega), if_pos (by omega), if_neg (by omega)]; omega)
      | (refine hQ _ ?_; rw [if_neg (by omega), if_neg (by omega), if_neg (by omega), if_pos (by omega), if_pos (by omega)]; omega)
      | (refine hQ _ ?_; rw [if_neg (by omega), if_neg (by omega), if_neg (by omega), if_pos (by omega), if_neg (by omega)]; omega)
      | (refine hQ _ ?_; rw [if_neg (by omega), if_neg (by omega), if_neg (by omega), if_neg (by omega), if_pos (by omega), if_pos (by omega)]; omega)
      | (refine hQ _ ?_; rw [if_neg (by omega), if_neg (by omega), if_neg (by omega), if_neg (by omega), if_pos (by omega), if_neg (by omega)]; omega)
      | (refine hQ _ ?_; rw [if_neg (by omega), if_neg (by omega), if_neg (by omega), if_neg (by omega), if_neg (by omega)]; omega)
