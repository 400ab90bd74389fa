/-! the law: the cases, ninth part: fold -/
set_option maxHeartbeats 4000000 in
set_option maxRecDepth 100000 in
theorem lc_13 {g : zGT} {Rm : Room} {QQ : List Frame → Array Value → State → State → Prop} {hh : List (Nat × Nat × Nat × Nat)} {nm : String} {w : zW} {f : Nat → Nat → Int32} {j : Nat → Nat → Int64} {s X L i N : Nat} {xs : Nat → Int32} {T : zTb} {ty : Nat → zTy} {im : Nat → Option zTb} {p : Nat} {B : Nat → Nat} {th pl : Int} {iv : Int32} {u5 u6 u7 : Option Value} {b : Nat × Nat} (G : zGok g) (hfr : 2048 ≤ Rm.frames) (hlo : 84000 ≤ Rm.locals) (hb1 : b.1 + 951 ≤ Rm.cells) (hb2 : b.2 + 1006 ≤ Rm.slots) (hT_z : ∀ U, g.2.2.2 U → va_T .int s L (fun k => .int (xs k)) (zA g.2.2.1) U U.heap) (hi_z : iv.toInt = (i : Nat)) (hiL : i + 6 ≤ L) (hL : L ≤ 3072) (h_z : lwI w f j X T ty im p B th pl N) (hN_z : N < 1900000000) (kk : ∀ (T9 : zTb) (u5 u6 u7 : Option Value) w2 f2_z j2 b2, b2.1 ≤ b.1 + 951 → b2.2 ≤ b.2 + 1006 → lwI w2 f2_z j2 X T9 ty im p B th pl (N + 1) → zR (zVg g Rm QQ hh nm 8 (some .boolean)) cL_law RL 2729 [some (.ref s), some (.ref X), some (.ref (X + 239)), some (.ref (X + 260)), some (.int iv), u5, u6, u7] [] (zM w2 f2_z j2) b2) : zR (zVg g Rm QQ hh nm 8 (some .boolean)) cL_law RL 900 [some (.ref s), some (.ref X), some (.ref (X + 239)), some (.ref (X + 260)), some (.int iv), u5, u6, u7] [] (zM w f j) b := by
  have hx := h_z.1.1
  have hX := shX_k hx
  have hO := h_z.1.2.2.2.1
  have hs := h_z.1.2.2.2.2.1
  have ht := h_z.1.2.2.2.2.2.1
  have hw := tb_wf ht
  have hS2 := h_z.1.2.1
  have hz := h_z.1.2.2.1
  refine r_aloadR1 dL_law_900 ?_
  refine r_aloadR0 dL_law_901 ?_
  refine r_iload4 dL_law_902 ?_
  refine n_iconst dL_law_904 (by decide) (fun r904 e904 => ?_)
  refine n_iadd dL_law_905 (by omega) (fun r905 e905 => ?_)
  refine k_iald (k := i + 1) (v := .int (xs (i + 1))) hT_z (by omega) (by omega) (by omega) rfl dL_law_906 ?_
  refine r_aloadR0 dL_law_907 ?_
  refine r_iload4 dL_law_908 ?_
  refine n_iconst dL_law_910 (by decide) (fun r910 e910 => ?_)
  refine n_iadd dL_law_911 (by omega) (fun r911 e911 => ?_)
  refine k_iald (k := i + 2) (v := .int (xs (i + 2))) hT_z (by omega) (by omega) (by omega) rfl dL_law_912 ?_
  refine q_callV2 zm_RL_192 dL_law_913 hX (by decide) rfl (by first | exact Nat.le_of_ble_eq_true rfl | omega | (dsimp only; omega)) (by first | exact Nat.le_of_ble_eq_true rfl | omega | (dsimp only; omega)) (by first | exact Nat.le_of_ble_eq_true rfl | omega | (dsimp only; omega)) (by first | exact Nat.le_of_ble_eq_true rfl | omega | (dsimp only; omega)) (by first | exact Nat.le_of_ble_eq_true rfl | omega | (dsimp only; omega)) (s_X11_fold G hx ht (fun hc_z rc ec => ?_) (fun hc_z rc P2 f1_z ec hq => ?_))
  · have hM2 := h_z.2
    refine r_aloadR2 dL_law_916 ?_
    refine r_aloadR0 dL_law_917 ?_
    refine r_iload4 dL_law_918 ?_
    refine n_iconst dL_law_920 (by decide) (fun r920 e920 => ?_)
    refine n_iadd dL_law_921 (by omega) (fun r921 e921 => ?_)
    refine k_iald (k := i + 1) (v := .int (xs (i + 1))) hT_z (by omega) (by omega) (by omega) rfl dL_law_922 ?_
    refine r_aloadR0 dL_law_923 ?_
    refine r_iload4 dL_law_924 ?_
    refine n_iconst dL_law_926 (by decide) (fun r926 e926 => ?_)
    refine n_iadd dL_law_927 (by omega) (fun r927 e927 => ?_)
    refine k_iald (k := i + 2) (v := .int (xs (i + 2))) hT_z (by omega) (by omega) (by omega) rfl dL_law_928 ?_
    refine q_callV2 zm_RL_195 dL_law_929 (shM_k hs) (by decide) rfl (by first | exact Nat.le_of_ble_eq_true rfl | omega | (dsimp only; omega)) (by first | exact Nat.le_of_ble_eq_true rfl | omega | (dsimp only; omega)) (by first | exact Nat.le_of_ble_eq_true rfl | omega | (dsimp only; omega)) (by first | exact Nat.le_of_ble_eq_true rfl | omega | (dsimp only; omega)) (by first | exact Nat.le_of_ble_eq_true rfl | omega | (dsimp only; omega)) (s_X12_fold G hs hM2.1 hw (fun hy r6 f2_z e6_z o6 t6 => ?_) (fun hy r6 f2_z e6_z o6 t6 k6_z => ?_))
    · have hI2 := lwI_mf h_z (frM_su o6 (by decide) (by decide))
      have he9 : rc.toInt = r6.toInt := by rw [ec, e6_z]
      refine t_iceq (t := 2729) dL_law_932 (by decide) (fun h932 => ?_) (fun h932 => False.elim (by omega))
      refine kk _ _ _ _ _ _ _ _ ?_ ?_ (lwI_m hI2 (by omega))
      · first | omega | (dsimp only; omega)
      · first | omega | (dsimp only; omega)
    · exact False.elim (by omega)
  · have hC2 := lwC_st h_z.1 hq
    have hM2 := lwM_e (f2_z := f1_z) (j2 := j) h_z.2 (fun q h1 h2 => hq.2.1 q (by omega)) (fun _ _ _ => rfl)
    have hs := hC2.2.2.2.2.1
    refine r_aloadR2 dL_law_916 ?_
    refine r_aloadR0 dL_law_917 ?_
    refine r_iload4 dL_law_918 ?_
    refine n_iconst dL_law_920 (by decide) (fun r920 e920 => ?_)
    refine n_iadd dL_law_921 (by omega) (fun r921 e921 => ?_)
    refine k_iald (k := i + 1) (v := .int (xs (i + 1))) hT_z (by omega) (by omega) (by omega) rfl dL_law_922 ?_
    refine r_aloadR0 dL_law_923 ?_
    refine r_iload4 dL_law_924 ?_
    refine n_iconst dL_law_926 (by decide) (fun r926 e926 => ?_)
    refine n_iadd dL_law_927 (by omega) (fun r927 e927 => ?_)
    refine k_iald (k := i + 2) (v := .int (xs (i + 2))) hT_z (by omega) (by omega) (by omega) rfl dL_law_928 ?_
    refine q_callV2 zm_RL_195 dL_law_929 (shM_k hs) (by decide) rfl (by first | exact Nat.le_of_ble_eq_true rfl | omega | (dsimp only; omega)) (by first | exact Nat.le_of_ble_eq_true rfl | omega | (dsimp only; omega)) (by first | exact Nat.le_of_ble_eq_true rfl | omega | (dsimp only; omega)) (by first | exact Nat.le_of_ble_eq_true rfl | omega | (dsimp only; omega)) (by first | exact Nat.le_of_ble_eq_true rfl | omega | (dsimp only; omega)) (s_X12_fold G hs hM2.1 hw (fun hy r6 f2_z e6_z o6 t6 => ?_) (fun hy r6 f2_z e6_z o6 t6 k6_z => ?_))
    · exact False.elim (by omega)
    · have hI2 : lwI (zsP w P2) f2_z j X _ ty im p B th pl N := ⟨lwC_f hC2 (fun q hq => o6.1 q (by omega)) (fun e => wyI_e e (fun r h1 h2 => o6.1 _ (by omega))) (fun e => wyI_e e (fun r h1 h2 => o6.1 _ (by omega))) (fun _ _ => rfl), lwM_kn hM2 (frM_su o6 (by decide) (by decide)) k6_z⟩
      have he9 : rc.toInt = r6.toInt := by rw [ec, e6_z]
      refine t_iceq (t := 2729) dL_law_932 (by decide) (fun h932 => ?_) (fun h932 => False.elim (by omega))
      refine kk _ _ _ _ _ _ _ _ ?_ ?_ (lwI_m hI2 (by omega))
      · first | omega | (dsimp only; omega)
      · first | omega | (dsimp only; omega)
