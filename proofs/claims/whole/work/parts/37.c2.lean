/-! the class: how it lies now, what is in view, what laws say of it -/
def frS (X : Nat) (f f2_z : Nat → Nat → Int32) : Prop := ∀ q, (q < X + 54 ∨ X + 57 ≤ q ∧ q < X + 93 ∨ X + 108 ≤ q) → f2_z q = f q
theorem frS_rf {X : Nat} {f : Nat → Nat → Int32} : frS X f f := fun _ _ => rfl
theorem frS_tr {X : Nat} {f f2_z f3_z : Nat → Nat → Int32} (h_z : frS X f f2_z) (h2 : frS X f2_z f3_z) : frS X f f3_z := fun q hq => (h2 q hq).trans (h_z q hq)
theorem frS_Q {X : Nat} {f f2_z : Nat → Nat → Int32} (h_z : frS X f f2_z) : frQ X f f2_z := fun q hq => h_z q (by omega)
theorem frS_R {X a n : Nat} {f f2_z : Nat → Nat → Int32} (h_z : ofR f f2_z a n) (ha_z : X + 54 ≤ a ∧ a + n ≤ X + 57 ∨ X + 93 ≤ a ∧ a + n ≤ X + 108) : frS X f f2_z := fun q hq => h_z q (by omega)
theorem wyI_e {f f2_z : Nat → Nat → Int32} {a : Nat} (h_z : wyI f a) (e : ∀ r, r ≤ 9 → r ≠ 8 → f2_z (a + r) = f (a + r)) : wyI f2_z a := by
  rcases h_z with h_z | ⟨n, L, h1, h2⟩
  · exact Or.inl (by rw [show f2_z a = f a from e 0 (by decide) (by decide)]; exact h_z)
  · exact Or.inr ⟨n, L, h1, ctWy_rest h2 e⟩
theorem moRow {f : Nat → Nat → Int32} {a : Nat} {M : zMo} (h_z : ctMo f a M) (h9 : ∀ i, M.1 i ≤ 99) : ∀ i, i < 12 → (f (a + 1) i).toInt = (M.1 i : Nat) := fun i hi_z => by
  rw [h_z.2.2.1 i hi_z]
  have := h9 i
  exact zi_n (by omega)
theorem lwRun_bd {F : Nat → Int} {l : List Nat} {s t : List Int} (hF : bdF F) (hs : ∀ v ∈ s, bdI v) (hl : s.length ≤ 64) (h_z : lwRun F l s = some t) : ∀ v ∈ t, bdI v := by
  induction l generalizing s with
  | nil =>
    have e : s = t := Option.some.inj h_z
    rw [← e]
    exact hs
  | cons o l ih =>
    obtain ⟨u, h1, h2⟩ := lwRun_cons h_z
    have h3 := lwStep_bd hF hs hl h1
    exact ih h3.1 h3.2 h2
theorem lwVal_run {F : Nat → Int} {l : List Nat} {m : Nat} (h_z : lawOk m l) (hF : bdF F) : l = [] ∧ lwVal F l = 0 ∨ l ≠ [] ∧ lwRun F l [] = some [lwVal F l] := by
  by_cases e : l = []
  · exact Or.inl ⟨e, by rw [e]; rfl⟩
  · exact Or.inr ⟨e, lawOk_run h_z hF e⟩
theorem lwVal_run01 {F : Nat → Int} {l : List Nat} {m : Nat} (h_z : lawOk01 m l) (hF : bdF F) : l = [] ∧ lwVal F l = 0 ∨ l ≠ [] ∧ lwRun F l [] = some [lwVal F l] := by
  by_cases e : l = []
  · exact Or.inl ⟨e, by rw [e]; rfl⟩
  · exact Or.inr ⟨e, (lawOk01_run h_z hF e).1⟩
theorem lwVal_bd {F : Nat → Int} {l : List Nat} {m : Nat} (h_z : lawOk m l) (hF : bdF F) : bdI (lwVal F l) := by
  rcases lwVal_run h_z hF with ⟨-, e⟩ | ⟨-, e⟩
  · rw [e]; unfold bdI; omega
  · exact lwRun_bd hF (fun v hv => absurd hv List.not_mem_nil) (by decide) e _ List.mem_cons_self
def worV (T : zTb) (L : zLy) (d : Nat) : Int := lwVal (fctN T.2.2.1.1 (tbC T) L d 0 0) T.2.1.1
def holV (T : zTb) (L : zLy) (d : Nat) : Int := lwVal (fctN T.2.2.1.1 (tbC T) L d 0 0) T.2.1.2.1
def likV (T : zTb) (L : zLy) (d gu : Nat) : Int := lwVal (fctN T.2.2.1.1 (tbC T) L d gu (T.1.2.2.getD gu 0)) T.2.1.2.2
def leaV (T : zTb) (L : zLy) (d : Nat) : Nat → Int
  | 0 => 0
  | k + 1 => if k = 0 then likV T L d 0 else min (leaV T L d k) (likV T L d k)
theorem wf_fct {T : zTb} {L : zLy} {d g v : Nat} (h_z : wfT T) (hr : rch (tbC T) L) (hd_z : d < 100) (hg : g ≤ 1000) (hv : v ≤ 1000) : bdF (fctN T.2.2.1.1 (tbC T) L d g v) := fctN_bd h_z.2.2.2.2.2.2.2.1.2.2 hr hd_z hg hv
theorem want_le {T : zTb} {gu : Nat} (h_z : wfT T) : T.1.2.2.getD gu 0 ≤ 99 := by
  rw [List.getD_eq_getElem?_getD]
  cases e : T.1.2.2[gu]? with
  | none => exact Nat.zero_le _
  | some v => exact h_z.2.2.2.1 v (List.mem_of_getElem? e)
theorem worV_bd {T : zTb} {L : zLy} {d : Nat} (h_z : wfT T) (hr : rch (tbC T) L) (hd_z : d < 100) : bdI (worV T L d) := lwVal_bd h_z.2.2.2.2.1 (wf_fct h_z hr hd_z (by omega) (by omega))
theorem likV_bd {T : zTb} {L : zLy} {d gu : Nat} (h_z : wfT T) (hr : rch (tbC T) L) (hd_z : d < 100) (hg : gu ≤ 1000) : bdI (likV T L d gu) := lwVal_bd h_z.2.2.2.2.2.2.1 (wf_fct h_z hr hd_z hg (by have := want_le (gu := gu) h_z; omega))
theorem leaV_bd {T : zTb} {L : zLy} {d k : Nat} (h_z : wfT T) (hr : rch (tbC T) L) (hd_z : d < 100) (hk : k ≤ 100) : bdI (leaV T L d k) := by
  induction k with
  | zero => unfold leaV bdI; omega
  | succ k ih =>
    unfold leaV
    have h1 := likV_bd (gu := k) h_z hr hd_z (by omega)
    have h0 := likV_bd (gu := 0) h_z hr hd_z (by omega)
    have h2 := ih (by omega)
    unfold bdI at *
    split
    · exact h0
    · omega
set_option maxHeartbeats 4000000 in
set_option maxRecDepth 100000 in
theorem s_X11_layNow {g : zGT} {w : zW} {f : Nat → Nat → Int32} {j : Nat → Nat → Int64} {X : Nat} {T : zTb} {Q : Option Value → zW → Prop} {QX : String → zW → Prop} (G : zGok g) (hx : shX w X) (ht : tbAt w f X (X + 11) T) (hQ : ∀ f2_z, ofR f f2_z (X + 93) 8 → ctLay f2_z (X + 93) (tbL T) [] → Q (some (.ref (X + 93))) (zM w f2_z j)) : zC g 5 yX11_layNow cX11_layNow 3 (some (.object "NapkinDeeds$Lay")) [.ref X] (zM w f j) (0, 0) Q QX := by
  refine zC_of G (by decide +kernel) (Nat.le_of_ble_eq_true rfl) ?_
  have ht0 := ht
  obtain ⟨nq, pp, g0, p0, hnq, hna0, hpp, hctb, hpast, hwf⟩ := ht0
  have hna1 := hna0
  obtain ⟨hna, hcn, ⟨hz1, hz2, hz3⟩, hl1, hl2, hl3⟩ := hna0
  have hmo := hctb.2.2.1
  have hn6 : tbC T ≤ 6 := hwf.2.1
  have hg4 : tbG T ≤ 4 := hwf.2.2.1
  have hwm := hwf.2.2.2.2.2.2.2.1
  have hrt := wfT_rch hwf
  have hfl : (f (X + 11 + 7) 2).toInt = (T.2.2.1.2.length : Nat) := by rw [hmo.1]; have := hmo.2.1; exact zi_n (by omega)
  have hcells : (f nq 1).toInt = (tbC T : Nat) := by rw [hcn.2.1]; exact zi_n (n := tbC T) (by omega)
  have hgs : (f nq 2).toInt = (tbG T : Nat) := by rw [hcn.2.2.1]; exact zi_n (n := tbG T) (by omega)
  have hzl : ∀ f2_z, ofR f f2_z (X + 93) 8 → ∀ q, zoneX X q → f2_z q = f q := fun f2_z ho q hq => ho q (by have := hq; unfold zoneX at this; omega)
  have lp : ∀ (mz : Nat) (c : Int32) (v2 : Option Value) (k : Nat) (f2_z : Nat → Nat → Int32), c.toInt = (k : Nat) → k ≤ T.2.2.1.2.length → ofR f f2_z (X + 93) 8 → ctLay f2_z (X + 93) (layM (tbC T) (T.2.2.1.2.take k)) [] → T.2.2.1.2.length - k < mz → zR (zV g 5 yX11_layNow 3 (some (.object "NapkinDeeds$Lay")) (0, 0) Q QX) cX11_layNow yX11_layNow.cls 19 [some (.ref X), some (.int c), v2] [] (zM w f2_z j) (0, 0) := by
    intro mz
    induction mz with
    | zero =>
      intro c v2 k f2_z hc_z hk ho hla hmz
      exact absurd hmz (Nat.not_lt_zero _)
    | succ mz ih =>
      intro c v2 k f2_z hc_z hk ho hla hmz
      have hmo2 : ctMo f2_z (X + 11 + 7) T.2.2.1 := ctMo_R hmo ho (by omega)
      have hfl2 : (f2_z (X + 11 + 7) 2).toInt = (T.2.2.1.2.length : Nat) := by rw [ho _ (by omega)]; exact hfl
      have hl5 := hmo.2.1
      rcases Nat.lt_or_ge k T.2.2.1.2.length with hkl | hkl
      · obtain ⟨d, hd_z⟩ : ∃ d, T.2.2.1.2[k]? = some d := ⟨_, List.getElem?_eq_getElem hkl⟩
        obtain ⟨u1, u2, u3⟩ := okF_at hwm.1 hd_z
        have hr := layM_rch hn6 hwm.1 k
        have hcell := rch_cell hr
        have hmf : moFold T.2.2.1.2 c.toInt = nI d := by rw [hc_z]; exact moFold_at hd_z
        have hd99 : d / 10 < 10 := by have : (layM (tbC T) (T.2.2.1.2.take k)).length ≤ tbC T := hcell.2.2.2.2; unfold layM at this; omega
        refine r_iload1 dX11_layNow_19 ?_
        refine r_aloadR0 dX11_layNow_20 ?_
        refine m_getR (q := (X + 11)) zf_RX11_33 rfl dX11_layNow_21 (shX_k hx) (shX_p5 hx) ?_
        refine m_getR (q := ((X + 11) + 7)) zf_RX11_138 rfl dX11_layNow_24 (shTb_k (shX_tb hx)) (shTb_p1 (shX_tb hx)) ?_
        refine m_getV (x := (f2_z ((X + 11) + 7) 2)) zf_RX11_225 rfl dX11_layNow_27 (shMo_k (shTb_mo (shX_tb hx))) (rfl) ?_
        refine t_icge (t := 81) dX11_layNow_30 (by decide) (fun h30 => False.elim (by omega)) (fun h30 => ?_)
        refine r_aloadR0 dX11_layNow_33 ?_
        refine m_getR (q := (X + 11)) zf_RX11_33 rfl dX11_layNow_34 (shX_k hx) (shX_p5 hx) ?_
        refine m_getR (q := ((X + 11) + 7)) zf_RX11_138 rfl dX11_layNow_37 (shTb_k (shX_tb hx)) (shTb_p1 (shX_tb hx)) ?_
        refine r_iload1 dX11_layNow_40 ?_
        refine q_callV1 zm_RX11_195 dX11_layNow_41 (shMo_k (shTb_mo (shX_tb hx))) (by decide) rfl (Nat.le_of_ble_eq_true rfl) (Nat.le_of_ble_eq_true rfl) (Nat.le_of_ble_eq_true rfl) (Nat.le_of_ble_eq_true rfl) (Nat.le_of_ble_eq_true rfl) (s_X3_foldAt (w := zM w f2_z j) G (shTb_mo (shX_tb hx)) hmo2 ?_)
        rw [hmf]
        have hdn : (nI d).toInt = (d : Nat) := zi_n (by omega)
        refine r_istore2 dX11_layNow_44 rfl ?_
        refine r_aloadR0 dX11_layNow_45 ?_
        refine m_getR (q := (X + 97)) zf_RX11_71 rfl dX11_layNow_46 (shX_k hx) (shX_p13 hx) ?_
        refine r_aloadR0 dX11_layNow_49 ?_
        refine m_getR (q := (X + 93)) zf_RX11_67 rfl dX11_layNow_50 (shX_k hx) (shX_p12 hx) ?_
        refine q_callV1 zm_RX11_228 dX11_layNow_53 (shLay_k (shX_fo hx)) (by decide) rfl (Nat.le_of_ble_eq_true rfl) (Nat.le_of_ble_eq_true rfl) (Nat.le_of_ble_eq_true rfl) (Nat.le_of_ble_eq_true rfl) (Nat.le_of_ble_eq_true rfl) (s_X2_take (w := zM w f2_z j) (L := layM (tbC T) (T.2.2.1.2.take k)) G (shX_fo hx) (shX_ly hx) (by omega) hla (fun f3_z ho3 hc3 => ?_))
        show zR _ _ _ _ _ _ (zM w f3_z j) _
        refine r_aloadR0 dX11_layNow_56 ?_
        refine m_getR (q := (X + 93)) zf_RX11_67 rfl dX11_layNow_57 (shX_k hx) (shX_p12 hx) ?_
        refine r_aloadR0 dX11_layNow_60 ?_
        refine m_getR (q := (X + 97)) zf_RX11_71 rfl dX11_layNow_61 (shX_k hx) (shX_p13 hx) ?_
        refine r_iload2 dX11_layNow_64 ?_
        refine n_bipush dX11_layNow_65 (by decide) (fun r65 e65 => ?_)
        refine n_idivc (c := 10) dX11_layNow_67 e65 (by decide) (by omega) (fun r67 e67 => ?_)
        refine r_iload2 dX11_layNow_68 ?_
        refine n_bipush dX11_layNow_69 (by decide) (fun r69 e69 => ?_)
        refine n_iremc (c := 10) dX11_layNow_71 e69 (by decide) (by omega) (fun r71 e71_z => ?_)
        refine q_callV3 zm_RX11_232 dX11_layNow_72 (shLay_k (shX_ly hx)) (by decide) rfl (Nat.le_of_ble_eq_true rfl) (Nat.le_of_ble_eq_true rfl) (Nat.le_of_ble_eq_true rfl) (Nat.le_of_ble_eq_true rfl) (Nat.le_of_ble_eq_true rfl) (s_X2_foldFrom (w := zM w f3_z j) (L := layM (tbC T) (T.2.2.1.2.take k)) (line := d / 10) (way := d % 10) G (shX_ly hx) (shX_fo hx) (by omega) hc3 ⟨u1, u2⟩ u3 (zi_of (by omega) (by omega)) (zi_of (by omega) (by omega)) (fun f4_z ho4 hc4 => ?_))
        show zR _ _ _ _ _ _ (zM w f4_z j) _
        refine n_iinc1 dX11_layNow_75 (by decide) rfl (by omega) (fun r75 e75 => ?_)
        refine r_goto (t := 19) dX11_layNow_78 (by decide) ?_
        exact ih _ _ (k + 1) f4_z (by omega) (by omega) (ofR_tr ho (ofR_tr (ofR_wid (ofLay_R ho3) (by omega)) (ofR_wid (ofLay_R ho4) (by omega)))) (by rw [layM_succ hd_z]; exact hc4) (by omega)
      · refine r_iload1 dX11_layNow_19 ?_
        refine r_aloadR0 dX11_layNow_20 ?_
        refine m_getR (q := (X + 11)) zf_RX11_33 rfl dX11_layNow_21 (shX_k hx) (shX_p5 hx) ?_
        refine m_getR (q := ((X + 11) + 7)) zf_RX11_138 rfl dX11_layNow_24 (shTb_k (shX_tb hx)) (shTb_p1 (shX_tb hx)) ?_
        refine m_getV (x := (f2_z ((X + 11) + 7) 2)) zf_RX11_225 rfl dX11_layNow_27 (shMo_k (shTb_mo (shX_tb hx))) (rfl) ?_
        refine t_icge (t := 81) dX11_layNow_30 (by decide) (fun h30 => ?_) (fun h30 => False.elim (by omega))
        refine r_aloadR0 dX11_layNow_81 ?_
        refine m_getR (q := (X + 93)) zf_RX11_67 rfl dX11_layNow_82 (shX_k hx) (shX_p12 hx) ?_
        refine r_aret dX11_layNow_85 rfl (by first | exact Or.inl ⟨_, rfl⟩ | exact Or.inr ⟨_, rfl⟩) (by first | exact zrf_r | exact zrf_o | exact zrf_n) (Nat.le_of_ble_eq_true rfl) (Nat.le_of_ble_eq_true rfl) ?_
        have e : T.2.2.1.2.take k = T.2.2.1.2 := List.take_of_length_le hkl
        rw [e] at hla
        exact hQ f2_z ho hla
  refine r_aloadR0 dX11_layNow_0 ?_
  refine m_getR (q := (X + 93)) zf_RX11_67 rfl dX11_layNow_1 (shX_k hx) (shX_p12 hx) ?_
  refine r_aloadR0 dX11_layNow_4 ?_
  refine m_getR (q := (X + 11)) zf_RX11_33 rfl dX11_layNow_5 (shX_k hx) (shX_p5 hx) ?_
  refine m_getR (q := nq) zf_RX11_181 rfl dX11_layNow_8 (shTb_k (shX_tb hx)) hnq ?_
  refine m_getV (x := (f nq 1)) zf_RX11_185 rfl dX11_layNow_11 (shNa_k hna) (rfl) ?_
  refine q_callV1 zm_RX11_222 dX11_layNow_14 (shLay_k (shX_ly hx)) (by decide) rfl (Nat.le_of_ble_eq_true rfl) (Nat.le_of_ble_eq_true rfl) (Nat.le_of_ble_eq_true rfl) (Nat.le_of_ble_eq_true rfl) (Nat.le_of_ble_eq_true rfl) (s_X2_flatten (w := zM w f j) (n := tbC T) G (shX_ly hx) hn6 (zi_of hcells (by omega)) (fun f1_z ho1 hc1 => ?_))
  show zR _ _ _ _ _ _ (zM w f1_z j) _
  refine n_iconst dX11_layNow_17 (by decide) (fun r17 e17_z => ?_)
  refine r_istore1 dX11_layNow_18 rfl ?_
  exact lp (T.2.2.1.2.length + 1) _ none 0 f1_z (by omega) (by omega) (ofR_wid (ofLay_R ho1) (by omega)) hc1 (by omega)
set_option maxHeartbeats 4000000 in
set_option maxRecDepth 100000 in
theorem s_X11_viewNow {g : zGT} {w : zW} {f : Nat → Nat → Int32} {j : Nat → Nat → Int64} {X : Nat} {T : zTb} {Q : Option Value → zW → Prop} {QX : String → zW → Prop} (G : zGok g) (hx : shX w X) (ht : tbAt w f X (X + 11) T) (hQ : ∀ f2_z, frS X f f2_z → (∀ k, k < 6 → (f2_z (X + 54 + 1) k).toInt = fctN T.2.2.1.1 (tbC T) (tbL T) T.2.2.1.2.length 0 0 k) → Q none (zM w f2_z j)) : zC g 6 yX11_viewNow cX11_viewNow 1 none [.ref X] (zM w f j) (0, 0) Q QX := by
  refine zC_of G (by decide +kernel) (Nat.le_of_ble_eq_true rfl) ?_
  have ht0 := ht
  obtain ⟨nq, pp, g0, p0, hnq, hna0, hpp, hctb, hpast, hwf⟩ := ht0
  have hna1 := hna0
  obtain ⟨hna, hcn, ⟨hz1, hz2, hz3⟩, hl1, hl2, hl3⟩ := hna0
  have hmo := hctb.2.2.1
  have hn6 : tbC T ≤ 6 := hwf.2.1
  have hg4 : tbG T ≤ 4 := hwf.2.2.1
  have hwm := hwf.2.2.2.2.2.2.2.1
  have hrt := wfT_rch hwf
  have hfl : (f (X + 11 + 7) 2).toInt = (T.2.2.1.2.length : Nat) := by rw [hmo.1]; have := hmo.2.1; exact zi_n (by omega)
  have hcells : (f nq 1).toInt = (tbC T : Nat) := by rw [hcn.2.1]; exact zi_n (n := tbC T) (by omega)
  have hgs : (f nq 2).toInt = (tbG T : Nat) := by rw [hcn.2.2.1]; exact zi_n (n := tbG T) (by omega)
  refine r_aloadR0 dX11_viewNow_0 ?_
  refine m_getR (q := (X + 54)) zf_RX11_50 rfl dX11_viewNow_1 (shX_k hx) (shX_p9 hx) ?_
  refine r_aloadR0 dX11_viewNow_4 ?_
  refine q_callV0 zm_RX11_134 dX11_viewNow_5 (shX_k hx) (by decide) rfl (Nat.le_of_ble_eq_true rfl) (Nat.le_of_ble_eq_true rfl) (Nat.le_of_ble_eq_true rfl) (Nat.le_of_ble_eq_true rfl) (Nat.le_of_ble_eq_true rfl) (s_X11_layNow G hx ht (fun f1_z ho1 hla => ?_))
  have hmo1 : ctMo f1_z (X + 11 + 7) T.2.2.1 := ctMo_R hmo ho1 (by omega)
  have hfl1 : (f1_z (X + 11 + 7) 2).toInt = (T.2.2.1.2.length : Nat) := by rw [ho1 _ (by omega)]; exact hfl
  have hl5 := hmo.2.1
  refine r_aloadR0 dX11_viewNow_8 ?_
  refine m_getR (q := (X + 11)) zf_RX11_33 rfl dX11_viewNow_9 (shX_k hx) (shX_p5 hx) ?_
  refine m_getR (q := ((X + 11) + 7)) zf_RX11_138 rfl dX11_viewNow_12 (shTb_k (shX_tb hx)) (shTb_p1 (shX_tb hx)) ?_
  refine m_getR (q := (((X + 11) + 7) + 1)) zf_RX11_171 rfl dX11_viewNow_15 (shMo_k (shTb_mo (shX_tb hx))) (shMo_p0 (shTb_mo (shX_tb hx))) ?_
  refine r_aloadR0 dX11_viewNow_18 ?_
  refine m_getR (q := (X + 11)) zf_RX11_33 rfl dX11_viewNow_19 (shX_k hx) (shX_p5 hx) ?_
  refine m_getR (q := ((X + 11) + 7)) zf_RX11_138 rfl dX11_viewNow_22 (shTb_k (shX_tb hx)) (shTb_p1 (shX_tb hx)) ?_
  refine m_getV (x := (f1_z ((X + 11) + 7) 2)) zf_RX11_225 rfl dX11_viewNow_25 (shMo_k (shTb_mo (shX_tb hx))) (rfl) ?_
  refine q_callV3 zm_RX11_236 dX11_viewNow_28 (shSc_k (shX_sc hx)) (by decide) rfl (Nat.le_of_ble_eq_true rfl) (Nat.le_of_ble_eq_true rfl) (Nat.le_of_ble_eq_true rfl) (Nat.le_of_ble_eq_true rfl) (Nat.le_of_ble_eq_true rfl) (s_X6_view (mk := T.2.2.1.1) (L := tbL T) (n := tbC T) (fo := T.2.2.1.2.length) G (shX_sc hx) (shX_ly hx) hla (by omega) (shMo_k1 (shTb_mo (shX_tb hx))) (shMo_n1 (shTb_mo (shX_tb hx))) (by omega) (moRow hmo1 hwm.2.2) hwm.2.2 hrt hfl1 (by omega) (fun f2_z ho2 hv2 => ?_))
  refine r_vret dX11_viewNow_31 rfl (Nat.le_of_ble_eq_true rfl) (Nat.le_of_ble_eq_true rfl) ?_
  exact hQ f2_z (frS_tr (frS_R ho1 (by omega)) (frS_R ho2 (by omega))) hv2
set_option maxHeartbeats 4000000 in
set_option maxRecDepth 100000 in
theorem s_X11_viewFlat {g : zGT} {w : zW} {f : Nat → Nat → Int32} {j : Nat → Nat → Int64} {X : Nat} {T : zTb} {Q : Option Value → zW → Prop} {QX : String → zW → Prop} (G : zGok g) (hx : shX w X) (ht : tbAt w f X (X + 11) T) (hQ : ∀ f2_z, frS X f f2_z → (∀ k, k < 6 → (f2_z (X + 54 + 1) k).toInt = fctN T.2.2.1.1 (tbC T) (lyFlat (tbC T)) 0 0 0 k) → Q none (zM w f2_z j)) : zC g 6 yX11_viewFlat cX11_viewFlat 1 none [.ref X] (zM w f j) (0, 0) Q QX := by
  refine zC_of G (by decide +kernel) (Nat.le_of_ble_eq_true rfl) ?_
  have ht0 := ht
  obtain ⟨nq, pp, g0, p0, hnq, hna0, hpp, hctb, hpast, hwf⟩ := ht0
  have hna1 := hna0
  obtain ⟨hna, hcn, ⟨hz1, hz2, hz3⟩, hl1, hl2, hl3⟩ := hna0
  have hmo := hctb.2.2.1
  have hn6 : tbC T ≤ 6 := hwf.2.1
  have hg4 : tbG T ≤ 4 := hwf.2.2.1
  have hwm := hwf.2.2.2.2.2.2.2.1
  have hrt := wfT_rch hwf
  have hfl : (f (X + 11 + 7) 2).toInt = (T.2.2.1.2.length : Nat) := by rw [hmo.1]; have := hmo.2.1; exact zi_n (by omega)
  have hcells : (f nq 1).toInt = (tbC T : Nat) := by rw [hcn.2.1]; exact zi_n (n := tbC T) (by omega)
  have hgs : (f nq 2).toInt = (tbG T : Nat) := by rw [hcn.2.2.1]; exact zi_n (n := tbG T) (by omega)
  refine r_aloadR0 dX11_viewFlat_0 ?_
  refine m_getR (q := (X + 93)) zf_RX11_67 rfl dX11_viewFlat_1 (shX_k hx) (shX_p12 hx) ?_
  refine r_aloadR0 dX11_viewFlat_4 ?_
  refine m_getR (q := (X + 11)) zf_RX11_33 rfl dX11_viewFlat_5 (shX_k hx) (shX_p5 hx) ?_
  refine m_getR (q := nq) zf_RX11_181 rfl dX11_viewFlat_8 (shTb_k (shX_tb hx)) hnq ?_
  refine m_getV (x := (f nq 1)) zf_RX11_185 rfl dX11_viewFlat_11 (shNa_k hna) (rfl) ?_
  refine q_callV1 zm_RX11_222 dX11_viewFlat_14 (shLay_k (shX_ly hx)) (by decide) rfl (Nat.le_of_ble_eq_true rfl) (Nat.le_of_ble_eq_true rfl) (Nat.le_of_ble_eq_true rfl) (Nat.le_of_ble_eq_true rfl) (Nat.le_of_ble_eq_true rfl) (s_X2_flatten (w := zM w f j) (n := tbC T) G (shX_ly hx) hn6 (zi_of hcells (by omega)) (fun f1_z ho1 hla => ?_))
  show zR _ _ _ _ _ _ (zM w f1_z j) _
  have hmo1 : ctMo f1_z (X + 11 + 7) T.2.2.1 := ctMo_R hmo (ofLay_R ho1) (by omega)
  refine r_aloadR0 dX11_viewFlat_17 ?_
  refine m_getR (q := (X + 54)) zf_RX11_50 rfl dX11_viewFlat_18 (shX_k hx) (shX_p9 hx) ?_
  refine r_aloadR0 dX11_viewFlat_21 ?_
  refine m_getR (q := (X + 93)) zf_RX11_67 rfl dX11_viewFlat_22 (shX_k hx) (shX_p12 hx) ?_
  refine r_aloadR0 dX11_viewFlat_25 ?_
  refine m_getR (q := (X + 11)) zf_RX11_33 rfl dX11_viewFlat_26 (shX_k hx) (shX_p5 hx) ?_
  refine m_getR (q := ((X + 11) + 7)) zf_RX11_138 rfl dX11_viewFlat_29 (shTb_k (shX_tb hx)) (shTb_p1 (shX_tb hx)) ?_
  refine m_getR (q := (((X + 11) + 7) + 1)) zf_RX11_171 rfl dX11_viewFlat_32 (shMo_k (shTb_mo (shX_tb hx))) (shMo_p0 (shTb_mo (shX_tb hx))) ?_
  refine n_iconst dX11_viewFlat_35 (by decide) (fun r35 e35 => ?_)
  refine q_callV3 zm_RX11_236 dX11_viewFlat_36 (shSc_k (shX_sc hx)) (by decide) rfl (Nat.le_of_ble_eq_true rfl) (Nat.le_of_ble_eq_true rfl) (Nat.le_of_ble_eq_true rfl) (Nat.le_of_ble_eq_true rfl) (Nat.le_of_ble_eq_true rfl) (s_X6_view (mk := T.2.2.1.1) (L := lyFlat (tbC T)) (n := tbC T) (fo := 0) G (shX_sc hx) (shX_ly hx) hla (by omega) (shMo_k1 (shTb_mo (shX_tb hx))) (shMo_n1 (shTb_mo (shX_tb hx))) (by omega) (moRow hmo1 hwm.2.2) hwm.2.2 (rch_flat hn6) (by omega) (by omega) (fun f2_z ho2 hv2 => ?_))
  refine r_vret dX11_viewFlat_39 rfl (Nat.le_of_ble_eq_true rfl) (Nat.le_of_ble_eq_true rfl) ?_
  exact hQ f2_z (frS_tr (frS_R (ofLay_R ho1) (by omega)) (frS_R ho2 (by omega))) hv2
set_option maxHeartbeats 4000000 in
set_option maxRecDepth 100000 in
theorem s_X11_worthInView {g : zGT} {w : zW} {f : Nat → Nat → Int32} {j : Nat → Nat → Int64} {X : Nat} {T : zTb} {L : zLy} {d : Nat} {Q : Option Value → zW → Prop} {QX : String → zW → Prop} (G : zGok g) (hx : shX w X) (ht : tbAt w f X (X + 11) T) (hv : (∀ k, k < 6 → (f (X + 54 + 1) k).toInt = fctN T.2.2.1.1 (tbC T) L d 0 0 k)) (hr : rch (tbC T) L) (hd_z : d < 100) (hQ : ∀ (r : Int32) f2_z, r.toInt = worV T L d → ofR f f2_z (X + 54 + 2) 1 → Q (some (.int r)) (zM w f2_z j)) : zC g 3 yX11_worthInView cX11_worthInView 1 (some .int) [.ref X] (zM w f j) (0, 0) Q QX := by
  refine zC_of G (by decide +kernel) (Nat.le_of_ble_eq_true rfl) ?_
  have ht0 := ht
  obtain ⟨nq, pp, g0, p0, hnq, hna0, hpp, hctb, hpast, hwf⟩ := ht0
  have hna1 := hna0
  obtain ⟨hna, hcn, ⟨hz1, hz2, hz3⟩, hl1, hl2, hl3⟩ := hna0
  have hmo := hctb.2.2.1
  have hn6 : tbC T ≤ 6 := hwf.2.1
  have hg4 : tbG T ≤ 4 := hwf.2.2.1
  have hwm := hwf.2.2.2.2.2.2.2.1
  have hrt := wfT_rch hwf
  have hfl : (f (X + 11 + 7) 2).toInt = (T.2.2.1.2.length : Nat) := by rw [hmo.1]; have := hmo.2.1; exact zi_n (by omega)
  have hcells : (f nq 1).toInt = (tbC T : Nat) := by rw [hcn.2.1]; exact zi_n (n := tbC T) (by omega)
  have hgs : (f nq 2).toInt = (tbG T : Nat) := by rw [hcn.2.2.1]; exact zi_n (n := tbG T) (by omega)
  obtain ⟨la, hlp, hlk, hln, hlz, hlv⟩ := hl1
  have hF := wf_fct (g := 0) (v := 0) hwf hr hd_z (by omega) (by omega)
  have hok := hwf.2.2.2.2.1
  have hz := zone_q hlz
  refine r_aloadR0 dX11_worthInView_0 ?_
  refine m_getR (q := (X + 54)) zf_RX11_50 rfl dX11_worthInView_1 (shX_k hx) (shX_p9 hx) ?_
  refine r_aloadR0 dX11_worthInView_4 ?_
  refine m_getR (q := (X + 11)) zf_RX11_33 rfl dX11_worthInView_5 (shX_k hx) (shX_p5 hx) ?_
  refine m_getR (q := nq) zf_RX11_181 rfl dX11_worthInView_8 (shTb_k (shX_tb hx)) hnq ?_
  refine m_getR (q := la) zf_RX11_247 rfl dX11_worthInView_11 (shNa_k hna) (hlp) ?_
  refine q_callV1 zm_RX11_243 dX11_worthInView_14 (shSc_k (shX_sc hx)) (by decide) rfl (Nat.le_of_ble_eq_true rfl) (Nat.le_of_ble_eq_true rfl) (Nat.le_of_ble_eq_true rfl) (Nat.le_of_ble_eq_true rfl) (Nat.le_of_ble_eq_true rfl) (s_X6_weigh (F := fctN T.2.2.1.1 (tbC T) L d 0 0) (v := worV T L d) G (shX_sc hx) hlk hln (by omega) hok.1 hlv hF (fun k hk hkl => hv k (by have := hok.2.1 _ hkl (by omega) (by omega); omega)) (lwVal_run hok hF) (fun r14 f2_z e14_z ho2 => ?_))
  refine r_iret dX11_worthInView_17 rfl (Nat.le_of_ble_eq_true rfl) (Nat.le_of_ble_eq_true rfl) ?_
  exact hQ _ f2_z e14_z ho2
set_option maxHeartbeats 4000000 in
set_option maxRecDepth 100000 in
theorem s_X11_holdsInView {g : zGT} {w : zW} {f : Nat → Nat → Int32} {j : Nat → Nat → Int64} {X : Nat} {T : zTb} {L : zLy} {d : Nat} {Q : Option Value → zW → Prop} {QX : String → zW → Prop} (G : zGok g) (hx : shX w X) (ht : tbAt w f X (X + 11) T) (hv : (∀ k, k < 6 → (f (X + 54 + 1) k).toInt = fctN T.2.2.1.1 (tbC T) L d 0 0 k)) (hr : rch (tbC T) L) (hd_z : d < 100) (hQ : ∀ (r : Int32) f2_z, (r.toInt = 1 ∧ holV T L d ≠ 0 ∨ r.toInt = 0 ∧ holV T L d = 0) → ofR f f2_z (X + 54 + 2) 1 → Q (some (.int r)) (zM w f2_z j)) : zC g 3 yX11_holdsInView cX11_holdsInView 1 (some .boolean) [.ref X] (zM w f j) (0, 0) Q QX := by
  refine zC_of G (by decide +kernel) (Nat.le_of_ble_eq_true rfl) ?_
  have ht0 := ht
  obtain ⟨nq, pp, g0, p0, hnq, hna0, hpp, hctb, hpast, hwf⟩ := ht0
  have hna1 := hna0
  obtain ⟨hna, hcn, ⟨hz1, hz2, hz3⟩, hl1, hl2, hl3⟩ := hna0
  have hmo := hctb.2.2.1
  have hn6 : tbC T ≤ 6 := hwf.2.1
  have hg4 : tbG T ≤ 4 := hwf.2.2.1
  have hwm := hwf.2.2.2.2.2.2.2.1
  have hrt := wfT_rch hwf
  have hfl : (f (X + 11 + 7) 2).toInt = (T.2.2.1.2.length : Nat) := by rw [hmo.1]; have := hmo.2.1; exact zi_n (by omega)
  have hcells : (f nq 1).toInt = (tbC T : Nat) := by rw [hcn.2.1]; exact zi_n (n := tbC T) (by omega)
  have hgs : (f nq 2).toInt = (tbG T : Nat) := by rw [hcn.2.2.1]; exact zi_n (n := tbG T) (by omega)
  obtain ⟨la, hlp, hlk, hln, hlz, hlv⟩ := hl2
  have hF := wf_fct (g := 0) (v := 0) hwf hr hd_z (by omega) (by omega)
  have hok := hwf.2.2.2.2.2.1
  have hz := zone_q hlz
  refine r_aloadR0 dX11_holdsInView_0 ?_
  refine m_getR (q := (X + 54)) zf_RX11_50 rfl dX11_holdsInView_1 (shX_k hx) (shX_p9 hx) ?_
  refine r_aloadR0 dX11_holdsInView_4 ?_
  refine m_getR (q := (X + 11)) zf_RX11_33 rfl dX11_holdsInView_5 (shX_k hx) (shX_p5 hx) ?_
  refine m_getR (q := nq) zf_RX11_181 rfl dX11_holdsInView_8 (shTb_k (shX_tb hx)) hnq ?_
  refine m_getR (q := la) zf_RX11_240 rfl dX11_holdsInView_11 (shNa_k hna) (hlp) ?_
  refine q_callV1 zm_RX11_243 dX11_holdsInView_14 (shSc_k (shX_sc hx)) (by decide) rfl (Nat.le_of_ble_eq_true rfl) (Nat.le_of_ble_eq_true rfl) (Nat.le_of_ble_eq_true rfl) (Nat.le_of_ble_eq_true rfl) (Nat.le_of_ble_eq_true rfl) (s_X6_weigh (F := fctN T.2.2.1.1 (tbC T) L d 0 0) (v := holV T L d) G (shX_sc hx) hlk hln (by omega) hok.1 hlv hF (fun k hk hkl => hv k (by have := hok.2.1 _ hkl (by omega) (by omega); omega)) (lwVal_run01 hok hF) (fun r14 f2_z e14_z ho2 => ?_))
  refine t_ifeq (t := 24) dX11_holdsInView_17 (by decide) (fun h17 => ?_) (fun h17 => ?_)
  · refine n_iconst dX11_holdsInView_24 (by decide) (fun r24 e24_z => ?_)
    refine m_zret dX11_holdsInView_25 rfl (by omega) (Nat.le_of_ble_eq_true rfl) (Nat.le_of_ble_eq_true rfl) ?_
    exact hQ _ f2_z (by omega) ho2
  · refine n_iconst dX11_holdsInView_20 (by decide) (fun r20 e20 => ?_)
    refine r_goto (t := 25) dX11_holdsInView_21 (by decide) ?_
    refine m_zret dX11_holdsInView_25 rfl (by omega) (Nat.le_of_ble_eq_true rfl) (Nat.le_of_ble_eq_true rfl) ?_
    exact hQ _ f2_z (by omega) ho2
set_option maxHeartbeats 4000000 in
set_option maxRecDepth 100000 in
theorem s_X11_likingInView {g : zGT} {w : zW} {f : Nat → Nat → Int32} {j : Nat → Nat → Int64} {X : Nat} {T : zTb} {L : zLy} {d : Nat} {gu : Nat} {x : Int32} {Q : Option Value → zW → Prop} {QX : String → zW → Prop} (G : zGok g) (hx : shX w X) (ht : tbAt w f X (X + 11) T) (hv : (∀ k, k < 6 → (f (X + 54 + 1) k).toInt = fctN T.2.2.1.1 (tbC T) L d 0 0 k)) (hr : rch (tbC T) L) (hd_z : d < 100) (hx2 : x.toInt = (gu : Nat)) (hgu : gu < tbG T) (hQ : ∀ (r : Int32) f2_z, r.toInt = likV T L d gu → ofR f f2_z (X + 54 + 1) 2 → (∀ k, k < 6 → f2_z (X + 54 + 1) k = f (X + 54 + 1) k) → Q (some (.int r)) (zM w f2_z j)) : zC g 3 yX11_likingInView cX11_likingInView 2 (some .int) [.ref X, .int x] (zM w f j) (0, 0) Q QX := by
  refine zC_of G (by decide +kernel) (Nat.le_of_ble_eq_true rfl) ?_
  have ht0 := ht
  obtain ⟨nq, pp, g0, p0, hnq, hna0, hpp, hctb, hpast, hwf⟩ := ht0
  have hna1 := hna0
  obtain ⟨hna, hcn, ⟨hz1, hz2, hz3⟩, hl1, hl2, hl3⟩ := hna0
  have hmo := hctb.2.2.1
  have hn6 : tbC T ≤ 6 := hwf.2.1
  have hg4 : tbG T ≤ 4 := hwf.2.2.1
  have hwm := hwf.2.2.2.2.2.2.2.1
  have hrt := wfT_rch hwf
  have hfl : (f (X + 11 + 7) 2).toInt = (T.2.2.1.2.length : Nat) := by rw [hmo.1]; have := hmo.2.1; exact zi_n (by omega)
  have hcells : (f nq 1).toInt = (tbC T : Nat) := by rw [hcn.2.1]; exact zi_n (n := tbC T) (by omega)
  have hgs : (f nq 2).toInt = (tbG T : Nat) := by rw [hcn.2.2.1]; exact zi_n (n := tbG T) (by omega)
  obtain ⟨la, hlp, hlk, hln, hlz, hlv⟩ := hl3
  have hw9 := want_le (gu := gu) hwf
  have hF := wf_fct (g := gu) (v := T.1.2.2.getD gu 0) hwf hr hd_z (by omega) (by omega)
  have hok := hwf.2.2.2.2.2.2.1
  have hz := zone_q hlz
  obtain ⟨v, hv9⟩ : ∃ v, T.1.2.2[gu]? = some v := ⟨_, List.getElem?_eq_getElem hgu⟩
  have hvd : T.1.2.2.getD gu 0 = v := by rw [List.getD_eq_getElem?_getD, hv9]; rfl
  refine r_aloadR0 dX11_likingInView_0 ?_
  refine m_getR (q := (X + 54)) zf_RX11_50 rfl dX11_likingInView_1 (shX_k hx) (shX_p9 hx) ?_
  refine r_iload1 dX11_likingInView_4 ?_
  refine r_aloadR0 dX11_likingInView_5 ?_
  refine m_getR (q := (X + 11)) zf_RX11_33 rfl dX11_likingInView_6 (shX_k hx) (shX_p5 hx) ?_
  refine m_getR (q := nq) zf_RX11_181 rfl dX11_likingInView_9 (shTb_k (shX_tb hx)) hnq ?_
  refine r_iload1 dX11_likingInView_12 ?_
  refine q_callV1 zm_RX11_250 dX11_likingInView_13 (shNa_k hna) (by decide) rfl (Nat.le_of_ble_eq_true rfl) (Nat.le_of_ble_eq_true rfl) (Nat.le_of_ble_eq_true rfl) (Nat.le_of_ble_eq_true rfl) (Nat.le_of_ble_eq_true rfl) (s_X4_wantOf (w := zM w f j) (N := T.1) (g2 := gu) (v := v) G hna hcn hv9 (zi_of hx2 (by omega)) ?_)
  have hvn : (nI v).toInt = (v : Nat) := zi_n (by omega)
  refine q_callV2 zm_RX11_253 dX11_likingInView_16 (shSc_k (shX_sc hx)) (by decide) rfl (Nat.le_of_ble_eq_true rfl) (Nat.le_of_ble_eq_true rfl) (Nat.le_of_ble_eq_true rfl) (Nat.le_of_ble_eq_true rfl) (Nat.le_of_ble_eq_true rfl) (s_X6_serve (gu := gu) (v := v) G (shX_sc hx) hx2 hvn (fun f1_z ho1 h61 h71 hk1 => ?_))
  have hlv1 : ∀ i o, T.2.1.2.2[i]? = some o → (f1_z la i).toInt = (o : Nat) := by rw [ho1 la (by omega)]; exact hlv
  have hask : ∀ k, k < 8 → (f1_z (X + 54 + 1) k).toInt = fctN T.2.2.1.1 (tbC T) L d gu (T.1.2.2.getD gu 0) k := by
    intro k hk
    rcases (show k < 6 ∨ k = 6 ∨ k = 7 by omega) with h6 | rfl | rfl
    · rw [hk1 k h6, hv k h6]
      rcases (show k = 0 ∨ k = 1 ∨ k = 2 ∨ k = 3 ∨ k = 4 ∨ k = 5 by omega) with rfl | rfl | rfl | rfl | rfl | rfl <;> rfl
    · exact h61
    · rw [hvd]; exact h71
  refine r_aloadR0 dX11_likingInView_19 ?_
  refine m_getR (q := (X + 54)) zf_RX11_50 rfl dX11_likingInView_20 (shX_k hx) (shX_p9 hx) ?_
  refine r_aloadR0 dX11_likingInView_23 ?_
  refine m_getR (q := (X + 11)) zf_RX11_33 rfl dX11_likingInView_24 (shX_k hx) (shX_p5 hx) ?_
  refine m_getR (q := nq) zf_RX11_181 rfl dX11_likingInView_27 (shTb_k (shX_tb hx)) hnq ?_
  refine m_getR (q := la) zf_RX11_257 rfl dX11_likingInView_30 (shNa_k hna) (hlp) ?_
  refine q_callV1 zm_RX11_243 dX11_likingInView_33 (shSc_k (shX_sc hx)) (by decide) rfl (Nat.le_of_ble_eq_true rfl) (Nat.le_of_ble_eq_true rfl) (Nat.le_of_ble_eq_true rfl) (Nat.le_of_ble_eq_true rfl) (Nat.le_of_ble_eq_true rfl) (s_X6_weigh (F := fctN T.2.2.1.1 (tbC T) L d gu (T.1.2.2.getD gu 0)) (v := likV T L d gu) G (shX_sc hx) hlk hln (by omega) hok.1 hlv1 hF (fun k hk _ => hask k hk) (lwVal_run hok hF) (fun r33 f2_z e33_z ho2 => ?_))
  refine r_iret dX11_likingInView_36 rfl (Nat.le_of_ble_eq_true rfl) (Nat.le_of_ble_eq_true rfl) ?_
  exact hQ _ f2_z e33_z (ofR_tr (ofR_wid ho1 (by omega)) (ofR_wid ho2 (by omega))) (fun k hk => by rw [ho2 (X + 54 + 1) (by omega)]; exact hk1 k hk)
set_option maxHeartbeats 4000000 in
set_option maxRecDepth 100000 in
theorem s_X11_leastLikingInView {g : zGT} {w : zW} {f : Nat → Nat → Int32} {j : Nat → Nat → Int64} {X : Nat} {T : zTb} {L : zLy} {d : Nat} {Q : Option Value → zW → Prop} {QX : String → zW → Prop} (G : zGok g) (hx : shX w X) (ht : tbAt w f X (X + 11) T) (hv : (∀ k, k < 6 → (f (X + 54 + 1) k).toInt = fctN T.2.2.1.1 (tbC T) L d 0 0 k)) (hr : rch (tbC T) L) (hd_z : d < 100) (hQ : ∀ (r : Int32) f2_z, r.toInt = leaV T L d (tbG T) → ofR f f2_z (X + 54 + 1) 2 → (∀ k, k < 6 → f2_z (X + 54 + 1) k = f (X + 54 + 1) k) → Q (some (.int r)) (zM w f2_z j)) : zC g 4 yX11_leastLikingInView cX11_leastLikingInView 4 (some .int) [.ref X] (zM w f j) (0, 0) Q QX := by
  refine zC_of G (by decide +kernel) (Nat.le_of_ble_eq_true rfl) ?_
  have ht0 := ht
  obtain ⟨nq, pp, g0, p0, hnq, hna0, hpp, hctb, hpast, hwf⟩ := ht0
  have hna1 := hna0
  obtain ⟨hna, hcn, ⟨hz1, hz2, hz3⟩, hl1, hl2, hl3⟩ := hna0
  have hmo := hctb.2.2.1
  have hn6 : tbC T ≤ 6 := hwf.2.1
  have hg4 : tbG T ≤ 4 := hwf.2.2.1
  have hwm := hwf.2.2.2.2.2.2.2.1
  have hrt := wfT_rch hwf
  have hfl : (f (X + 11 + 7) 2).toInt = (T.2.2.1.2.length : Nat) := by rw [hmo.1]; have := hmo.2.1; exact zi_n (by omega)
  have hcells : (f nq 1).toInt = (tbC T : Nat) := by rw [hcn.2.1]; exact zi_n (n := tbC T) (by omega)
  have hgs : (f nq 2).toInt = (tbG T : Nat) := by rw [hcn.2.2.1]; exact zi_n (n := tbG T) (by omega)
  have lp : ∀ (mz : Nat) (v : Int32) (c : Int32) (v3 : Option Value) (k : Nat) (f2_z : Nat → Nat → Int32), c.toInt = (k : Nat) → k ≤ tbG T → v.toInt = leaV T L d k → ofR f f2_z (X + 54 + 1) 2 → (∀ k, k < 6 → f2_z (X + 54 + 1) k = f (X + 54 + 1) k) → tbG T - k < mz → zR (zV g 4 yX11_leastLikingInView 4 (some .int) (0, 0) Q QX) cX11_leastLikingInView yX11_leastLikingInView.cls 4 [some (.ref X), some (.int v), some (.int c), v3] [] (zM w f2_z j) (0, 0) := by
    intro mz
    induction mz with
    | zero =>
      intro v c v3 k f2_z hc_z hk hle ho hk6 hmz
      exact absurd hmz (Nat.not_lt_zero _)
    | succ mz ih =>
      intro v c v3 k f2_z hc_z hk hle ho hk6 hmz
      have hzo : ∀ q, zoneX X q → f2_z q = f q := fun q hq => ho q (by have := hq; unfold zoneX at this; omega)
      have hna2 := naAt_q hna1 hzo
      have hcn2 := hna2.2.1
      have hgs2 : (f2_z nq 2).toInt = (tbG T : Nat) := by rw [hzo nq hz1]; exact hgs
      have ht2 : tbAt w f2_z X (X + 11) T := tbAt_Q ht (frQ_R ho (by omega))
      have hv2 : (∀ k, k < 6 → (f2_z (X + 54 + 1) k).toInt = fctN T.2.2.1.1 (tbC T) L d 0 0 k) := fun k hk => by rw [hk6 k hk]; exact hv k hk
      rcases Nat.lt_or_ge k (tbG T) with hkl | hkl
      · have hlb := likV_bd (gu := k) hwf hr hd_z (by omega)
        have hs9 : leaV T L d (k + 1) = if k = 0 then likV T L d 0 else min (leaV T L d k) (likV T L d k) := rfl
        refine r_iload2 dX11_leastLikingInView_4 ?_
        refine r_aloadR0 dX11_leastLikingInView_5 ?_
        refine m_getR (q := (X + 11)) zf_RX11_33 rfl dX11_leastLikingInView_6 (shX_k hx) (shX_p5 hx) ?_
        refine m_getR (q := nq) zf_RX11_181 rfl dX11_leastLikingInView_9 (shTb_k (shX_tb hx)) hnq ?_
        refine m_getV (x := (f2_z nq 2)) zf_RX11_209 rfl dX11_leastLikingInView_12 (shNa_k hna) (rfl) ?_
        refine t_icge (t := 41) dX11_leastLikingInView_15 (by decide) (fun h15 => False.elim (by omega)) (fun h15 => ?_)
        refine r_aloadR0 dX11_leastLikingInView_18 ?_
        refine r_iload2 dX11_leastLikingInView_19 ?_
        refine q_callV1 zm_RX11_214 dX11_leastLikingInView_20 (shX_k hx) (by decide) rfl (Nat.le_of_ble_eq_true rfl) (Nat.le_of_ble_eq_true rfl) (Nat.le_of_ble_eq_true rfl) (Nat.le_of_ble_eq_true rfl) (Nat.le_of_ble_eq_true rfl) (s_X11_likingInView (L := L) (d := d) (gu := k) G hx ht2 hv2 hr hd_z hc_z hkl (fun r20 f3_z e20 ho3 hk3 => ?_))
        refine r_istore3 dX11_leastLikingInView_23 rfl ?_
        refine r_iload2 dX11_leastLikingInView_24 ?_
        refine t_ifeq (t := 33) dX11_leastLikingInView_25 (by decide) (fun h25 => ?_) (fun h25 => ?_)
        · refine r_iload3 dX11_leastLikingInView_33 ?_
          refine r_istore1 dX11_leastLikingInView_34 rfl ?_
          refine n_iinc2 dX11_leastLikingInView_35 (by decide) rfl (by omega) (fun r35 e35 => ?_)
          refine r_goto (t := 4) dX11_leastLikingInView_38 (by decide) ?_
          refine ih _ _ _ (k + 1) f3_z (by omega) (by omega) ?_ (ofR_tr ho ho3) (fun i hi_z => (hk3 i hi_z).trans (hk6 i hi_z)) (by omega)
          rw [hs9]
          by_cases hk0 : k = 0
          · rw [if_pos hk0]; subst hk0; omega
          · rw [if_neg hk0]; omega
        · refine r_iload3 dX11_leastLikingInView_28 ?_
          refine r_iload1 dX11_leastLikingInView_29 ?_
          refine t_icge (t := 35) dX11_leastLikingInView_30 (by decide) (fun h30 => ?_) (fun h30 => ?_)
          · refine n_iinc2 dX11_leastLikingInView_35 (by decide) rfl (by omega) (fun r35 e35 => ?_)
            refine r_goto (t := 4) dX11_leastLikingInView_38 (by decide) ?_
            refine ih _ _ _ (k + 1) f3_z (by omega) (by omega) ?_ (ofR_tr ho ho3) (fun i hi_z => (hk3 i hi_z).trans (hk6 i hi_z)) (by omega)
            rw [hs9]
            by_cases hk0 : k = 0
            · rw [if_pos hk0]; subst hk0; omega
            · rw [if_neg hk0]; omega
          · refine r_iload3 dX11_leastLikingInView_33 ?_
            refine r_istore1 dX11_leastLikingInView_34 rfl ?_
            refine n_iinc2 dX11_leastLikingInView_35 (by decide) rfl (by omega) (fun r35 e35 => ?_)
            refine r_goto (t := 4) dX11_leastLikingInView_38 (by decide) ?_
            refine ih _ _ _ (k + 1) f3_z (by omega) (by omega) ?_ (ofR_tr ho ho3) (fun i hi_z => (hk3 i hi_z).trans (hk6 i hi_z)) (by omega)
            rw [hs9]
            by_cases hk0 : k = 0
            · rw [if_pos hk0]; subst hk0; omega
            · rw [if_neg hk0]; omega
      · refine r_iload2 dX11_leastLikingInView_4 ?_
        refine r_aloadR0 dX11_leastLikingInView_5 ?_
        refine m_getR (q := (X + 11)) zf_RX11_33 rfl dX11_leastLikingInView_6 (shX_k hx) (shX_p5 hx) ?_
        refine m_getR (q := nq) zf_RX11_181 rfl dX11_leastLikingInView_9 (shTb_k (shX_tb hx)) hnq ?_
        refine m_getV (x := (f2_z nq 2)) zf_RX11_209 rfl dX11_leastLikingInView_12 (shNa_k hna) (rfl) ?_
        refine t_icge (t := 41) dX11_leastLikingInView_15 (by decide) (fun h15 => ?_) (fun h15 => False.elim (by omega))
        refine r_iload1 dX11_leastLikingInView_41 ?_
        refine r_iret dX11_leastLikingInView_42 rfl (Nat.le_of_ble_eq_true rfl) (Nat.le_of_ble_eq_true rfl) ?_
        have e : k = tbG T := by omega
        subst e
        exact hQ _ f2_z hle ho hk6
  refine n_iconst dX11_leastLikingInView_0 (by decide) (fun r0 e0_z => ?_)
  refine r_istore1 dX11_leastLikingInView_1 rfl ?_
  refine n_iconst dX11_leastLikingInView_2 (by decide) (fun r2 e2_z => ?_)
  refine r_istore2 dX11_leastLikingInView_3 rfl ?_
  exact lp (tbG T + 1) _ _ none 0 f (by omega) (by omega) e0_z ofR_rf (fun _ _ => rfl) (by omega)
