/-! the reference: told deeds, evenings -/
def ctTm (f : Nat → Nat → Int32) (j : Nat → Nat → Int64) (A t : Nat) : zTy → Prop
  | none => (f (A + 18) t).toInt = -1
  | some (s, l) => (f (A + 18) t).toInt = (s : Nat) ∧ s ≤ 3 ∧ (f (A + 19) t).toInt = (l.length : Nat) ∧ l.length ≤ 30 ∧ ∀ (i : Nat) (v : Int), l[i]? = some v → (j (A + 20) (30 * t + i)).toInt = v
theorem ctTm_of {f f2_z : Nat → Nat → Int32} {j j2 : Nat → Nat → Int64} {A t : Nat} {ty : zTy} (h_z : ctTm f j A t ty) (e1_z : f2_z (A + 18) t = f (A + 18) t) (e2_z : f2_z (A + 19) t = f (A + 19) t) (e3_z : ∀ i, i < 30 → j2 (A + 20) (30 * t + i) = j (A + 20) (30 * t + i)) : ctTm f2_z j2 A t ty := by
  cases ty with
  | none => unfold ctTm at h_z ⊢; rw [e1_z]; exact h_z
  | some q =>
    obtain ⟨a1, a2, a3, a4, a5⟩ := h_z
    refine ⟨by rw [e1_z]; exact a1, a2, by rw [e2_z]; exact a3, a4, fun i v hi_z => ?_⟩
    have hl := (List.getElem?_eq_some_iff.mp hi_z).1
    rw [e3_z i (by omega)]
    exact a5 i v hi_z
theorem hinI_un {n : Nat} {M : zMo} {d : Int} (h_z : hinI n M d = 0) (hd_z : d = 100) : 1 ≤ M.2.length := by
  unfold hinI at h_z
  rw [if_neg (by omega), if_pos (by omega)] at h_z
  split at h_z <;> omega
theorem hinI_bd {n : Nat} {M : zMo} {d : Int} (h_z : hinI n M d = 0) : -1 ≤ d ∧ d < 2600 := by
  unfold hinI at h_z
  repeat' split at h_z
  all_goals omega
set_option maxHeartbeats 4000000 in
set_option maxRecDepth 100000 in
theorem s_X12_judge {g : zGT} {w : zW} {f : Nat → Nat → Int32} {j : Nat → Nat → Int64} {A : Nat} {T : zTb} {x y : Int32} {ty : Nat → zTy} {Q : Option Value → zW → Prop} {QX : String → zW → Prop} (G : zGok g) (hs : shM w A) (hk : ctKn (f (A + 1)) T) (hw : wfT T) (hty : ∀ t, t < 4 → ctTm f j A t (ty t)) (hT1 : ¬ (0 ≤ x.toInt ∧ x.toInt < 4) → ∀ (r : Int32) f2_z, frM A [] [4] f f2_z → (f2_z A 4).toInt = 1 → Q (some (.int r)) (zM w f2_z j)) (hT2 : (0 ≤ x.toInt ∧ x.toInt < 4) → ty x.toInt.toNat = none → ∀ (r : Int32) f2_z, frM A [] [4] f f2_z → (f2_z A 4).toInt = 2 → Q (some (.int r)) (zM w f2_z j)) (hT3 : (0 ≤ x.toInt ∧ x.toInt < 4) → ty x.toInt.toNat ≠ none → ¬ (0 ≤ y.toInt ∧ y.toInt ≤ 3) → ∀ (r : Int32) f2_z, frM A [] [4] f f2_z → (f2_z A 4).toInt = 3 → Q (some (.int r)) (zM w f2_z j)) (hQ : (0 ≤ x.toInt ∧ x.toInt < 4) → ∀ s l, ty x.toInt.toNat = some (s, l) → (0 ≤ y.toInt ∧ y.toInt ≤ 3) → ∀ (r : Int32) f2_z, r.toInt = judR (judW (tbC T) T.2.2.1 l 0) (tbC T) y.toInt → frM A [6, 10] [4] f f2_z → (f2_z A 4).toInt = 0 → Q (some (.int r)) (zM w f2_z j)) : zC g 6 yX12_judge cX12_judge 7 (some .int) [.ref A, .int x, .int y] (zM w f j) (0, 0) Q QX := by
  refine zC_of G (by decide +kernel) (Nat.le_of_ble_eq_true rfl) ?_
  have hk9 := hk
  obtain ⟨⟨k0_z, k1_z, k2_z, k3_z, k4_z, k5_z, k6_z⟩, km, kg, kp, kl1, kl2, kl3⟩ := hk9
  have km9 := km
  obtain ⟨m1_z, m2_z, m3_z⟩ := km9
  have hn6 : tbC T ≤ 6 := hw.2.1
  have hg4 : tbG T ≤ 4 := hw.2.2.1
  have hwm := hw.2.2.2.2.2.2.2.1
  have hml : T.2.2.1.2.length ≤ 5 := hwm.2.1
  have hm99 := hwm.2.2
  have hrt := wfT_rch hw
  have hLl : (tbL T).length ≤ 6 := Nat.le_trans (rch_cell hrt).2.2.2.2 hn6
  have hpl : T.2.2.2.length ≤ 10 := hw.2.2.2.2.2.2.2.2.1
  rcases Classical.em (0 ≤ x.toInt ∧ x.toInt < 4) with hok | hok
  · have hct := hty _ (show x.toInt.toNat < 4 by omega)
    cases hcs : ty x.toInt.toNat with
    | none =>
      rw [hcs] at hct
      have hno : (f (A + 18) x.toInt.toNat).toInt = -1 := hct
      refine r_aloadR0 dX12_judge_0 ?_
      refine r_aloadR0 dX12_judge_1 ?_
      refine r_iload1 dX12_judge_2 ?_
      refine q_callV1 zm_RX12_389 dX12_judge_3 (shM_k hs) (by decide) rfl (Nat.le_of_ble_eq_true rfl) (Nat.le_of_ble_eq_true rfl) (Nat.le_of_ble_eq_true rfl) (Nat.le_of_ble_eq_true rfl) (Nat.le_of_ble_eq_true rfl) (s_X12_trayFault G hs (fun r3 e3_z => ?_))
      rw [if_pos (by omega), if_pos hno] at e3_z
      refine m_putI zf_RX12_77 (by intro C T N h_z; cases h_z; rfl) rfl dX12_judge_6 (shM_k hs) ?_
      obtain ⟨g6, hg6⟩ : ∃ g9, g9 = zu f A 4 r3 := ⟨_, rfl⟩
      rw [← hg6]
      have og6 : frM A [] [4] f g6 := by rw [hg6]; exact frM_zk frM_rf (by decide)
      have vg6 : g6 A 4 = r3 := by rw [hg6]; exact zu_at
      have vt6 : (g6 A 4).toInt = r3.toInt := by rw [vg6]
      have hk6 : ctKn (g6 (A + 1)) T := by rw [og6.2.1 1 (by decide) (by decide) (by decide)]; exact hk
      refine r_aloadR0 dX12_judge_9 ?_
      refine m_getV (x := (g6 A 4)) zf_RX12_77 rfl dX12_judge_10 (shM_k hs) (rfl) ?_
      refine t_ifne (t := 33) dX12_judge_13 (by decide) (fun h13 => ?_) (fun h13 => False.elim (by omega))
      refine r_aloadR0 dX12_judge_33 ?_
      refine m_getV (x := (g6 A 4)) zf_RX12_77 rfl dX12_judge_34 (shM_k hs) (rfl) ?_
      refine t_ifle (t := 42) dX12_judge_37 (by decide) (fun h37 => False.elim (by omega)) (fun h37 => ?_)
      refine n_iconst dX12_judge_40 (by decide) (fun r40 e40 => ?_)
      refine r_iret dX12_judge_41 rfl (Nat.le_of_ble_eq_true rfl) (Nat.le_of_ble_eq_true rfl) ?_
      exact hT2 hok hcs _ g6 (frM_su og6 (by decide) (by decide)) (by omega)
    | some q =>
      obtain ⟨s, l⟩ := q
      rw [hcs] at hct
      obtain ⟨t1, t2, t3, t4, t5⟩ := hct
      rcases Classical.em (0 ≤ y.toInt ∧ y.toInt ≤ 3) with hy3 | hy3
      · refine r_aloadR0 dX12_judge_0 ?_
        refine r_aloadR0 dX12_judge_1 ?_
        refine r_iload1 dX12_judge_2 ?_
        refine q_callV1 zm_RX12_389 dX12_judge_3 (shM_k hs) (by decide) rfl (Nat.le_of_ble_eq_true rfl) (Nat.le_of_ble_eq_true rfl) (Nat.le_of_ble_eq_true rfl) (Nat.le_of_ble_eq_true rfl) (Nat.le_of_ble_eq_true rfl) (s_X12_trayFault G hs (fun r3 e3_z => ?_))
        rw [if_pos (by omega), if_neg (by omega)] at e3_z
        refine m_putI zf_RX12_77 (by intro C T N h_z; cases h_z; rfl) rfl dX12_judge_6 (shM_k hs) ?_
        obtain ⟨g6, hg6⟩ : ∃ g9, g9 = zu f A 4 r3 := ⟨_, rfl⟩
        rw [← hg6]
        have og6 : frM A [] [4] f g6 := by rw [hg6]; exact frM_zk frM_rf (by decide)
        have vg6 : g6 A 4 = r3 := by rw [hg6]; exact zu_at
        have vt6 : (g6 A 4).toInt = r3.toInt := by rw [vg6]
        have hk6 : ctKn (g6 (A + 1)) T := by rw [og6.2.1 1 (by decide) (by decide) (by decide)]; exact hk
        refine r_aloadR0 dX12_judge_9 ?_
        refine m_getV (x := (g6 A 4)) zf_RX12_77 rfl dX12_judge_10 (shM_k hs) (rfl) ?_
        refine t_ifne (t := 33) dX12_judge_13 (by decide) (fun h13 => False.elim (by omega)) (fun h13 => ?_)
        refine r_iload2 dX12_judge_16 ?_
        refine n_i2l dX12_judge_17 (fun r17 e17_z => ?_)
        refine n_lconst (q := 0) dX12_judge_18 rfl (by decide) (fun r18 e18_z => ?_)
        refine n_ldc2 (n := 3) zk_RX12_259 dX12_judge_19 (by decide) (fun r19 e19_z => ?_)
        refine q_callS3 zm_RX12_138 dX12_judge_22 (Nat.le_of_ble_eq_true rfl) (Nat.le_of_ble_eq_true rfl) (Nat.le_of_ble_eq_true rfl) (Nat.le_of_ble_eq_true rfl) (Nat.le_of_ble_eq_true rfl) (s_X12_within G  (fun r22 e22_z => ?_))
        refine t_ifne (t := 33) dX12_judge_25 (by decide) (fun h25 => ?_) (fun h25 => False.elim (by omega))
        refine r_aloadR0 dX12_judge_33 ?_
        refine m_getV (x := (g6 A 4)) zf_RX12_77 rfl dX12_judge_34 (shM_k hs) (rfl) ?_
        refine t_ifle (t := 42) dX12_judge_37 (by decide) (fun h37 => ?_) (fun h37 => False.elim (by omega))
        refine r_aloadR0 dX12_judge_42 ?_
        refine q_callV0 zm_RX12_392 dX12_judge_43 (shM_k hs) (by decide) rfl (Nat.le_of_ble_eq_true rfl) (Nat.le_of_ble_eq_true rfl) (Nat.le_of_ble_eq_true rfl) (Nat.le_of_ble_eq_true rfl) (Nat.le_of_ble_eq_true rfl) (s_X12_putsAside G hs (fun g43 a1 a2 a3 => ?_))
        have o43 : frM A [10] [] g6 g43 := ⟨fun q hq => a1 q (by omega), fun r h2 h3 h4 => a1 _ (by intro e9_z; exact h4 (by simp; omega)), fun k _ => by rw [a1 A (by omega)]⟩
        have hk43 : ctKn (g43 (A + 1)) T := by rw [o43.2.1 1 (by decide) (by decide) (by decide)]; exact hk6
        have lp : ∀ (mz : Nat) (v : Int32) (u : Int32) (c : Int32) (k : Nat) (f2_z : Nat → Nat → Int32) (Mt : zMo) (v6_ : Option Value), c.toInt = (k : Nat) → k ≤ l.length → frM A [1, 6] [] g43 f2_z → (∀ k, (k < 7 ∨ 25 ≤ k) → f2_z (A + 1) k = g43 (A + 1) k) → ctKn (f2_z (A + 1)) (T.1, T.2.1, Mt, T.2.2.2) → wfMo (tbC T) Mt → (v.toInt = -1 ∧ u.toInt = 0 ∧ judW (tbC T) T.2.2.1 l 0 = judW (tbC T) Mt (l.drop k) k ∨ 0 ≤ v.toInt ∧ u.toInt ≠ 0 ∧ judW (tbC T) T.2.2.1 l 0 = (u.toInt, v.toInt.toNat + 1, Mt)) → l.length - k < mz → zR (zV g 6 yX12_judge 7 (some .int) (0, 0) Q QX) cX12_judge yX12_judge.cls 54 [some (.ref A), some (.int x), some (.int y), some (.int v), some (.int u), some (.int c), v6_] [] (zM w f2_z j) (0, 0) := by
          intro mz
          induction mz with
          | zero =>
            intro v u c k f2_z Mt v6_ hck hk30 ho hrs hk2 hwt hj hmz
            exact absurd hmz (Nat.not_lt_zero _)
          | succ mz ih =>
            intro v u c k f2_z Mt v6_ hck hk30 ho hrs hk2 hwt hj hmz
            have hw2 : wfT (T.1, T.2.1, Mt, T.2.2.2) := wfT_mo hw hwt
            have hmany : (f2_z (A + 19) x.toInt.toNat).toInt = (l.length : Nat) := by rw [ho.2.1 19 (by decide) (by decide) (by decide), o43.2.1 19 (by decide) (by decide) (by decide), og6.2.1 19 (by decide) (by decide) (by decide)]; exact t3
            rcases hj with ⟨hv1, hu0, hjw⟩ | ⟨hv1, hu0, hjw⟩
            · rcases Nat.lt_or_ge k l.length with hkl | hkl
              · obtain ⟨dd, hdd⟩ : ∃ dd, l[k]? = some dd := ⟨_, List.getElem?_eq_getElem hkl⟩
                rw [drop_cons9 hdd] at hjw
                have hnum := t5 k dd hdd
                by_cases hh : hinI (tbC T) Mt dd = 0
                · have hdb := hinI_bd hh
                  have hjs : judW (tbC T) Mt (dd :: l.drop (k + 1)) k = judW (tbC T) (if dd = -1 then Mt else moDo Mt dd.toNat) (l.drop (k + 1)) (k + 1) := by
                    show (if hinI (tbC T) Mt dd = 0 then _ else _) = _
                    rw [if_pos hh]
                  by_cases hd1 : dd = -1
                  · rw [if_pos hd1] at hjs
                    refine r_iload5 dX12_judge_54 ?_
                    refine r_aloadR0 dX12_judge_56 ?_
                    refine m_getR (q := (A + 19)) zf_RX12_71 rfl dX12_judge_57 (shM_k hs) (shM_p19 hs) ?_
                    refine r_iload1 dX12_judge_60 ?_
                    refine m_iald (k := x.toInt.toNat) (x := (f2_z (A + 19) x.toInt.toNat)) dX12_judge_61 (shM_k19 hs) (shM_n19 hs) (by omega) (by omega) (rfl) ?_
                    refine t_icge (t := 122) dX12_judge_62 (by decide) (fun h62 => False.elim (by omega)) (fun h62 => ?_)
                    refine r_iload3 dX12_judge_65 ?_
                    refine n_iconst dX12_judge_66 (by decide) (fun r66 e66 => ?_)
                    refine t_icne (t := 122) dX12_judge_67 (by decide) (fun h67 => False.elim (by omega)) (fun h67 => ?_)
                    refine r_aloadR0 dX12_judge_70 ?_
                    refine r_aloadR0 dX12_judge_71 ?_
                    refine m_getR (q := (A + 20)) zf_RX12_74 rfl dX12_judge_72 (shM_k hs) (shM_p20 hs) ?_
                    refine n_bipush dX12_judge_75 (by decide) (fun r75 e75 => ?_)
                    refine r_iload1 dX12_judge_77 ?_
                    refine n_imulc dX12_judge_78 e75 (by omega) (fun r78 e78 => ?_)
                    refine r_iload5 dX12_judge_79 ?_
                    refine n_iadd dX12_judge_81 (by omega) (fun r81 e81 => ?_)
                    refine m_lald (k := (30 * x.toInt.toNat + k)) (x := (j (A + 20) ((30 * x.toInt.toNat + k)))) dX12_judge_82 (shM_k20 hs) (shM_n20 hs) (by omega) (by omega) (rfl) ?_
                    refine q_callV1 zm_RX12_395 dX12_judge_83 (shM_k hs) (by decide) rfl (Nat.le_of_ble_eq_true rfl) (Nat.le_of_ble_eq_true rfl) (Nat.le_of_ble_eq_true rfl) (Nat.le_of_ble_eq_true rfl) (Nat.le_of_ble_eq_true rfl) (s_X12_whyTold (T := (T.1, T.2.1, Mt, T.2.2.2)) G hs hk2 hw2 (fun r83 f3_z e83 o83 => ?_))
                    have e83b : r83.toInt = hinI (tbC T) Mt dd := by rw [← hnum]; exact e83
                    have hk3 : ctKn (f3_z (A + 1)) (T.1, T.2.1, Mt, T.2.2.2) := by rw [o83.2.1 1 (by decide) (by decide) (by decide)]; exact hk2
                    refine r_istore4 dX12_judge_86 rfl ?_
                    refine r_iload4 dX12_judge_88 ?_
                    refine t_ifne (t := 113) dX12_judge_90 (by decide) (fun h90 => False.elim (by omega)) (fun h90 => ?_)
                    refine r_aloadR0 dX12_judge_93 ?_
                    refine r_aloadR0 dX12_judge_94 ?_
                    refine m_getR (q := (A + 20)) zf_RX12_74 rfl dX12_judge_95 (shM_k hs) (shM_p20 hs) ?_
                    refine n_bipush dX12_judge_98 (by decide) (fun r98 e98_z => ?_)
                    refine r_iload1 dX12_judge_100 ?_
                    refine n_imulc dX12_judge_101 e98_z (by omega) (fun r101 e101 => ?_)
                    refine r_iload5 dX12_judge_102 ?_
                    refine n_iadd dX12_judge_104 (by omega) (fun r104 e104_z => ?_)
                    refine m_lald (k := (30 * x.toInt.toNat + k)) (x := (j (A + 20) ((30 * x.toInt.toNat + k)))) dX12_judge_105 (shM_k20 hs) (shM_n20 hs) (by omega) (by omega) (rfl) ?_
                    refine n_l2i dX12_judge_106 (by omega) (fun r106 e106 => ?_)
                    refine q_callV1 zm_RX12_398 dX12_judge_107 (shM_k hs) (by decide) rfl (Nat.le_of_ble_eq_true rfl) (Nat.le_of_ble_eq_true rfl) (Nat.le_of_ble_eq_true rfl) (Nat.le_of_ble_eq_true rfl) (Nat.le_of_ble_eq_true rfl) (s_X12_does_no G hs (by omega) ?_)
                    refine r_goto (t := 116) dX12_judge_110 (by decide) ?_
                    refine n_iinc5 dX12_judge_116 (by decide) rfl (by omega) (fun r116 e116 => ?_)
                    refine r_goto (t := 54) dX12_judge_119 (by decide) ?_
                    exact ih _ _ _ (k + 1) f3_z Mt _ (by omega) (by omega) (frM_tr ho (frM_su o83 (by decide) (by decide))) (fun k9 hk9 => by rw [o83.2.1 1 (by decide) (by decide) (by decide)]; exact hrs k9 hk9) hk3 hwt (Or.inl ⟨by omega, by omega, hjw.trans hjs⟩) (by omega)
                  · rw [if_neg hd1] at hjs
                    have hok2 := hinI_ok hh hd1 hn6
                    refine r_iload5 dX12_judge_54 ?_
                    refine r_aloadR0 dX12_judge_56 ?_
                    refine m_getR (q := (A + 19)) zf_RX12_71 rfl dX12_judge_57 (shM_k hs) (shM_p19 hs) ?_
                    refine r_iload1 dX12_judge_60 ?_
                    refine m_iald (k := x.toInt.toNat) (x := (f2_z (A + 19) x.toInt.toNat)) dX12_judge_61 (shM_k19 hs) (shM_n19 hs) (by omega) (by omega) (rfl) ?_
                    refine t_icge (t := 122) dX12_judge_62 (by decide) (fun h62 => False.elim (by omega)) (fun h62 => ?_)
                    refine r_iload3 dX12_judge_65 ?_
                    refine n_iconst dX12_judge_66 (by decide) (fun r66 e66 => ?_)
                    refine t_icne (t := 122) dX12_judge_67 (by decide) (fun h67 => False.elim (by omega)) (fun h67 => ?_)
                    refine r_aloadR0 dX12_judge_70 ?_
                    refine r_aloadR0 dX12_judge_71 ?_
                    refine m_getR (q := (A + 20)) zf_RX12_74 rfl dX12_judge_72 (shM_k hs) (shM_p20 hs) ?_
                    refine n_bipush dX12_judge_75 (by decide) (fun r75 e75 => ?_)
                    refine r_iload1 dX12_judge_77 ?_
                    refine n_imulc dX12_judge_78 e75 (by omega) (fun r78 e78 => ?_)
                    refine r_iload5 dX12_judge_79 ?_
                    refine n_iadd dX12_judge_81 (by omega) (fun r81 e81 => ?_)
                    refine m_lald (k := (30 * x.toInt.toNat + k)) (x := (j (A + 20) ((30 * x.toInt.toNat + k)))) dX12_judge_82 (shM_k20 hs) (shM_n20 hs) (by omega) (by omega) (rfl) ?_
                    refine q_callV1 zm_RX12_395 dX12_judge_83 (shM_k hs) (by decide) rfl (Nat.le_of_ble_eq_true rfl) (Nat.le_of_ble_eq_true rfl) (Nat.le_of_ble_eq_true rfl) (Nat.le_of_ble_eq_true rfl) (Nat.le_of_ble_eq_true rfl) (s_X12_whyTold (T := (T.1, T.2.1, Mt, T.2.2.2)) G hs hk2 hw2 (fun r83 f3_z e83 o83 => ?_))
                    have e83b : r83.toInt = hinI (tbC T) Mt dd := by rw [← hnum]; exact e83
                    have hk3 : ctKn (f3_z (A + 1)) (T.1, T.2.1, Mt, T.2.2.2) := by rw [o83.2.1 1 (by decide) (by decide) (by decide)]; exact hk2
                    refine r_istore4 dX12_judge_86 rfl ?_
                    refine r_iload4 dX12_judge_88 ?_
                    refine t_ifne (t := 113) dX12_judge_90 (by decide) (fun h90 => False.elim (by omega)) (fun h90 => ?_)
                    refine r_aloadR0 dX12_judge_93 ?_
                    refine r_aloadR0 dX12_judge_94 ?_
                    refine m_getR (q := (A + 20)) zf_RX12_74 rfl dX12_judge_95 (shM_k hs) (shM_p20 hs) ?_
                    refine n_bipush dX12_judge_98 (by decide) (fun r98 e98_z => ?_)
                    refine r_iload1 dX12_judge_100 ?_
                    refine n_imulc dX12_judge_101 e98_z (by omega) (fun r101 e101 => ?_)
                    refine r_iload5 dX12_judge_102 ?_
                    refine n_iadd dX12_judge_104 (by omega) (fun r104 e104_z => ?_)
                    refine m_lald (k := (30 * x.toInt.toNat + k)) (x := (j (A + 20) ((30 * x.toInt.toNat + k)))) dX12_judge_105 (shM_k20 hs) (shM_n20 hs) (by omega) (by omega) (rfl) ?_
                    refine n_l2i dX12_judge_106 (by omega) (fun r106 e106 => ?_)
                    refine q_callV1 zm_RX12_398 dX12_judge_107 (shM_k hs) (by decide) rfl (Nat.le_of_ble_eq_true rfl) (Nat.le_of_ble_eq_true rfl) (Nat.le_of_ble_eq_true rfl) (Nat.le_of_ble_eq_true rfl) (Nat.le_of_ble_eq_true rfl) (s_X12_does (d := dd.toNat) G hs hk3 hw2 hok2.2 (by omega) (fun h9 => hinI_un hh (by omega)) (fun f4_z o107 q107 c107 => ?_))
                    refine r_goto (t := 116) dX12_judge_110 (by decide) ?_
                    refine n_iinc5 dX12_judge_116 (by decide) rfl (by omega) (fun r116 e116 => ?_)
                    refine r_goto (t := 54) dX12_judge_119 (by decide) ?_
                    exact ih _ _ _ (k + 1) f4_z _ _ (by omega) (by omega) (frM_tr ho (frM_tr (frM_su o83 (by decide) (by decide)) (frM_su o107 (by decide) (by decide)))) (fun k9 hk9 => by rw [q107 k9 hk9, o83.2.1 1 (by decide) (by decide) (by decide)]; exact hrs k9 hk9) c107 (wfMo_do hwt hn6 hok2.2) (Or.inl ⟨by omega, by omega, hjw.trans hjs⟩) (by omega)
                · have hjs : judW (tbC T) Mt (dd :: l.drop (k + 1)) k = (hinI (tbC T) Mt dd, k + 1, Mt) := by
                    show (if hinI (tbC T) Mt dd = 0 then _ else _) = _
                    rw [if_neg hh]
                  have hjs2 := hjw.trans hjs
                  refine r_iload5 dX12_judge_54 ?_
                  refine r_aloadR0 dX12_judge_56 ?_
                  refine m_getR (q := (A + 19)) zf_RX12_71 rfl dX12_judge_57 (shM_k hs) (shM_p19 hs) ?_
                  refine r_iload1 dX12_judge_60 ?_
                  refine m_iald (k := x.toInt.toNat) (x := (f2_z (A + 19) x.toInt.toNat)) dX12_judge_61 (shM_k19 hs) (shM_n19 hs) (by omega) (by omega) (rfl) ?_
                  refine t_icge (t := 122) dX12_judge_62 (by decide) (fun h62 => False.elim (by omega)) (fun h62 => ?_)
                  refine r_iload3 dX12_judge_65 ?_
                  refine n_iconst dX12_judge_66 (by decide) (fun r66 e66 => ?_)
                  refine t_icne (t := 122) dX12_judge_67 (by decide) (fun h67 => False.elim (by omega)) (fun h67 => ?_)
                  refine r_aloadR0 dX12_judge_70 ?_
                  refine r_aloadR0 dX12_judge_71 ?_
                  refine m_getR (q := (A + 20)) zf_RX12_74 rfl dX12_judge_72 (shM_k hs) (shM_p20 hs) ?_
                  refine n_bipush dX12_judge_75 (by decide) (fun r75 e75 => ?_)
                  refine r_iload1 dX12_judge_77 ?_
                  refine n_imulc dX12_judge_78 e75 (by omega) (fun r78 e78 => ?_)
                  refine r_iload5 dX12_judge_79 ?_
                  refine n_iadd dX12_judge_81 (by omega) (fun r81 e81 => ?_)
                  refine m_lald (k := (30 * x.toInt.toNat + k)) (x := (j (A + 20) ((30 * x.toInt.toNat + k)))) dX12_judge_82 (shM_k20 hs) (shM_n20 hs) (by omega) (by omega) (rfl) ?_
                  refine q_callV1 zm_RX12_395 dX12_judge_83 (shM_k hs) (by decide) rfl (Nat.le_of_ble_eq_true rfl) (Nat.le_of_ble_eq_true rfl) (Nat.le_of_ble_eq_true rfl) (Nat.le_of_ble_eq_true rfl) (Nat.le_of_ble_eq_true rfl) (s_X12_whyTold (T := (T.1, T.2.1, Mt, T.2.2.2)) G hs hk2 hw2 (fun r83 f3_z e83 o83 => ?_))
                  have e83b : r83.toInt = hinI (tbC T) Mt dd := by rw [← hnum]; exact e83
                  have hk3 : ctKn (f3_z (A + 1)) (T.1, T.2.1, Mt, T.2.2.2) := by rw [o83.2.1 1 (by decide) (by decide) (by decide)]; exact hk2
                  refine r_istore4 dX12_judge_86 rfl ?_
                  refine r_iload4 dX12_judge_88 ?_
                  refine t_ifne (t := 113) dX12_judge_90 (by decide) (fun h90 => ?_) (fun h90 => False.elim (by omega))
                  refine r_iload5 dX12_judge_113 ?_
                  refine r_istore3 dX12_judge_115 rfl ?_
                  refine n_iinc5 dX12_judge_116 (by decide) rfl (by omega) (fun r116 e116 => ?_)
                  refine r_goto (t := 54) dX12_judge_119 (by decide) ?_
                  rw [← e83b] at hjs2
                  exact ih _ _ _ (k + 1) f3_z Mt _ (by omega) (by omega) (frM_tr ho (frM_su o83 (by decide) (by decide))) (fun k9 hk9 => by rw [o83.2.1 1 (by decide) (by decide) (by decide)]; exact hrs k9 hk9) hk3 hwt (Or.inr ⟨by omega, by omega, by rw [show c.toInt.toNat + 1 = k + 1 by omega]; exact hjs2⟩) (by omega)
              · have hfin : judW (tbC T) T.2.2.1 l 0 = (u.toInt, k, Mt) := by
                  rw [hjw, List.drop_eq_nil_of_le (by omega), hu0]
                  rfl
                refine r_iload5 dX12_judge_54 ?_
                refine r_aloadR0 dX12_judge_56 ?_
                refine m_getR (q := (A + 19)) zf_RX12_71 rfl dX12_judge_57 (shM_k hs) (shM_p19 hs) ?_
                refine r_iload1 dX12_judge_60 ?_
                refine m_iald (k := x.toInt.toNat) (x := (f2_z (A + 19) x.toInt.toNat)) dX12_judge_61 (shM_k19 hs) (shM_n19 hs) (by omega) (by omega) (rfl) ?_
                refine t_icge (t := 122) dX12_judge_62 (by decide) (fun h62 => ?_) (fun h62 => False.elim (by omega))
                refine r_aloadR0 dX12_judge_122 ?_
                refine r_aloadR0 dX12_judge_123 ?_
                refine q_callV0 zm_RX12_343 dX12_judge_124 (shM_k hs) (by decide) rfl (Nat.le_of_ble_eq_true rfl) (Nat.le_of_ble_eq_true rfl) (Nat.le_of_ble_eq_true rfl) (Nat.le_of_ble_eq_true rfl) (Nat.le_of_ble_eq_true rfl) (s_X12_now (T := (T.1, T.2.1, Mt, T.2.2.2)) G hs hk2 hw2 (fun r124 g124 e124 o124 c124 => ?_))
                have hLm : (layM (tbC T) Mt.2).length ≤ 6 := Nat.le_trans (rch_cell (wfT_rch hw2)).2.2.2.2 hn6
                have hml2 : Mt.2.length ≤ 5 := hwt.2.1
                have e124b : r124.toInt = (Mt.2.length : Nat) := e124
                have hk7 : (g124 (A + 1) 7).toInt = (Mt.2.length : Nat) := by rw [o124.2.1 1 (by decide) (by decide) (by decide)]; exact hk2.2.1.1
                refine q_callV1 zm_RX12_256 dX12_judge_127 (shM_k hs) (by decide) rfl (Nat.le_of_ble_eq_true rfl) (Nat.le_of_ble_eq_true rfl) (Nat.le_of_ble_eq_true rfl) (Nat.le_of_ble_eq_true rfl) (Nat.le_of_ble_eq_true rfl) (s_X12_columnsAt (d := Mt.2.length) (v := (layM (tbC T) Mt.2).length) G hs e124b (by omega) c124.1 (fun r127 e127_z => ?_))
                refine r_istore5 dX12_judge_130 rfl ?_
                refine r_aloadR0 dX12_judge_132 ?_
                refine m_getR (q := (A + 1)) zf_RX12_9 rfl dX12_judge_133 (shM_k hs) (shM_p1 hs) ?_
                refine n_bipush dX12_judge_136 (by decide) (fun r136 e136 => ?_)
                refine m_iald (k := 7) (x := (g124 (A + 1) 7)) dX12_judge_138 (shM_k1 hs) (shM_n1 hs) (by omega) (by omega) (rfl) ?_
                refine r_istore6 dX12_judge_139 rfl ?_
                refine r_aloadR0 dX12_judge_141 ?_
                refine q_callV0 zm_RX12_401 dX12_judge_142 (shM_k hs) (by decide) rfl (Nat.le_of_ble_eq_true rfl) (Nat.le_of_ble_eq_true rfl) (Nat.le_of_ble_eq_true rfl) (Nat.le_of_ble_eq_true rfl) (Nat.le_of_ble_eq_true rfl) (s_X12_putsBack G hs (fun g142 b1 b2 b3 => ?_))
                have o2x : frM A [1, 6] [] g43 g124 := frM_tr (frM_su ho (by decide) (by decide)) (frM_su o124 (by decide) (by decide))
                have hrow1 : g142 (A + 1) = f (A + 1) := by
                  refine funext (fun k9 => ?_)
                  have hrf : g43 (A + 1) = f (A + 1) := (o43.2.1 1 (by decide) (by decide) (by decide)).trans (og6.2.1 1 (by decide) (by decide) (by decide))
                  rcases (show (7 ≤ k9 ∧ k9 < 25) ∨ (k9 < 7 ∨ 25 ≤ k9) by omega) with h9 | h9
                  · have h8 := b2 (k9 - 7) (by omega)
                    rw [show 7 + (k9 - 7) = k9 by omega] at h8
                    rw [h8, o2x.2.1 10 (by decide) (by decide) (by decide), a2 _ (by omega), show 7 + (k9 - 7) = k9 by omega, og6.2.1 1 (by decide) (by decide) (by decide)]
                  · rw [b3 k9 h9, o124.2.1 1 (by decide) (by decide) (by decide), hrs k9 h9, hrf]
                have hfm : frM A [6, 10] [4] f g142 := by
                  refine ⟨fun q hq => ?_, fun r h2 h3 h4 => ?_, fun k9 hk9 => ?_⟩
                  · rw [b1 q (by omega), o2x.1 q hq, o43.1 q hq, og6.1 q hq]
                  · by_cases h5 : r = 1
                    · rw [h5]; exact hrow1
                    · have h6 : r ≠ 6 ∧ r ≠ 10 := ⟨fun e9_z => h4 (by simp [e9_z]), fun e9_z => h4 (by simp [e9_z])⟩
                      rw [b1 _ (by omega), o2x.2.1 r h2 h3 (by simp; omega), o43.2.1 r h2 h3 (by simp; omega), og6.2.1 r h2 h3 (by simp)]
                  · rw [b1 A (by omega), o2x.2.2 k9 (by simp), o43.2.2 k9 (by simp)]; exact og6.2.2 k9 hk9
                have hth : (g142 A 4).toInt = 0 := by rw [b1 A (by omega), o2x.2.2 4 (by decide), o43.2.2 4 (by decide)]; omega
                refine r_iload2 dX12_judge_145 ?_
                refine t_ifne (t := 153) dX12_judge_146 (by decide) (fun h146 => ?_) (fun h146 => ?_)
                · refine r_iload2 dX12_judge_153 ?_
                  refine n_iconst dX12_judge_154 (by decide) (fun r154 e154 => ?_)
                  refine t_icne (t := 163) dX12_judge_155 (by decide) (fun h155 => ?_) (fun h155 => ?_)
                  · refine r_iload2 dX12_judge_163 ?_
                    refine n_iconst dX12_judge_164 (by decide) (fun r164 e164 => ?_)
                    refine t_icne (t := 173) dX12_judge_165 (by decide) (fun h165 => ?_) (fun h165 => ?_)
                    · refine r_iload6 dX12_judge_173 ?_
                      refine r_iret dX12_judge_175 rfl (Nat.le_of_ble_eq_true rfl) (Nat.le_of_ble_eq_true rfl) ?_
                      refine hQ hok s l hcs (by omega) _ g142 ?_ hfm hth
                      rw [hfin, judR_mk]
                      repeat' split
                      all_goals omega
                    · refine r_iload5 dX12_judge_168 ?_
                      refine r_goto (t := 175) dX12_judge_170 (by decide) ?_
                      refine r_iret dX12_judge_175 rfl (Nat.le_of_ble_eq_true rfl) (Nat.le_of_ble_eq_true rfl) ?_
                      refine hQ hok s l hcs (by omega) _ g142 ?_ hfm hth
                      rw [hfin, judR_mk]
                      repeat' split
                      all_goals omega
                  · refine r_iload4 dX12_judge_158 ?_
                    refine r_goto (t := 175) dX12_judge_160 (by decide) ?_
                    refine r_iret dX12_judge_175 rfl (Nat.le_of_ble_eq_true rfl) (Nat.le_of_ble_eq_true rfl) ?_
                    refine hQ hok s l hcs (by omega) _ g142 ?_ hfm hth
                    rw [hfin, judR_mk]
                    repeat' split
                    all_goals omega
                · refine r_iload3 dX12_judge_149 ?_
                  refine r_goto (t := 175) dX12_judge_150 (by decide) ?_
                  refine r_iret dX12_judge_175 rfl (Nat.le_of_ble_eq_true rfl) (Nat.le_of_ble_eq_true rfl) ?_
                  refine hQ hok s l hcs (by omega) _ g142 ?_ hfm hth
                  rw [hfin, judR_mk]
                  repeat' split
                  all_goals omega
            · have hfin : judW (tbC T) T.2.2.1 l 0 = (u.toInt, v.toInt.toNat + 1, Mt) := hjw
              rcases Nat.lt_or_ge k l.length with hkl | hkl
              · refine r_iload5 dX12_judge_54 ?_
                refine r_aloadR0 dX12_judge_56 ?_
                refine m_getR (q := (A + 19)) zf_RX12_71 rfl dX12_judge_57 (shM_k hs) (shM_p19 hs) ?_
                refine r_iload1 dX12_judge_60 ?_
                refine m_iald (k := x.toInt.toNat) (x := (f2_z (A + 19) x.toInt.toNat)) dX12_judge_61 (shM_k19 hs) (shM_n19 hs) (by omega) (by omega) (rfl) ?_
                refine t_icge (t := 122) dX12_judge_62 (by decide) (fun h62 => False.elim (by omega)) (fun h62 => ?_)
                refine r_iload3 dX12_judge_65 ?_
                refine n_iconst dX12_judge_66 (by decide) (fun r66 e66 => ?_)
                refine t_icne (t := 122) dX12_judge_67 (by decide) (fun h67 => ?_) (fun h67 => False.elim (by omega))
                refine r_aloadR0 dX12_judge_122 ?_
                refine r_aloadR0 dX12_judge_123 ?_
                refine q_callV0 zm_RX12_343 dX12_judge_124 (shM_k hs) (by decide) rfl (Nat.le_of_ble_eq_true rfl) (Nat.le_of_ble_eq_true rfl) (Nat.le_of_ble_eq_true rfl) (Nat.le_of_ble_eq_true rfl) (Nat.le_of_ble_eq_true rfl) (s_X12_now (T := (T.1, T.2.1, Mt, T.2.2.2)) G hs hk2 hw2 (fun r124 g124 e124 o124 c124 => ?_))
                have hLm : (layM (tbC T) Mt.2).length ≤ 6 := Nat.le_trans (rch_cell (wfT_rch hw2)).2.2.2.2 hn6
                have hml2 : Mt.2.length ≤ 5 := hwt.2.1
                have e124b : r124.toInt = (Mt.2.length : Nat) := e124
                have hk7 : (g124 (A + 1) 7).toInt = (Mt.2.length : Nat) := by rw [o124.2.1 1 (by decide) (by decide) (by decide)]; exact hk2.2.1.1
                refine q_callV1 zm_RX12_256 dX12_judge_127 (shM_k hs) (by decide) rfl (Nat.le_of_ble_eq_true rfl) (Nat.le_of_ble_eq_true rfl) (Nat.le_of_ble_eq_true rfl) (Nat.le_of_ble_eq_true rfl) (Nat.le_of_ble_eq_true rfl) (s_X12_columnsAt (d := Mt.2.length) (v := (layM (tbC T) Mt.2).length) G hs e124b (by omega) c124.1 (fun r127 e127_z => ?_))
                refine r_istore5 dX12_judge_130 rfl ?_
                refine r_aloadR0 dX12_judge_132 ?_
                refine m_getR (q := (A + 1)) zf_RX12_9 rfl dX12_judge_133 (shM_k hs) (shM_p1 hs) ?_
                refine n_bipush dX12_judge_136 (by decide) (fun r136 e136 => ?_)
                refine m_iald (k := 7) (x := (g124 (A + 1) 7)) dX12_judge_138 (shM_k1 hs) (shM_n1 hs) (by omega) (by omega) (rfl) ?_
                refine r_istore6 dX12_judge_139 rfl ?_
                refine r_aloadR0 dX12_judge_141 ?_
                refine q_callV0 zm_RX12_401 dX12_judge_142 (shM_k hs) (by decide) rfl (Nat.le_of_ble_eq_true rfl) (Nat.le_of_ble_eq_true rfl) (Nat.le_of_ble_eq_true rfl) (Nat.le_of_ble_eq_true rfl) (Nat.le_of_ble_eq_true rfl) (s_X12_putsBack G hs (fun g142 b1 b2 b3 => ?_))
                have o2x : frM A [1, 6] [] g43 g124 := frM_tr (frM_su ho (by decide) (by decide)) (frM_su o124 (by decide) (by decide))
                have hrow1 : g142 (A + 1) = f (A + 1) := by
                  refine funext (fun k9 => ?_)
                  have hrf : g43 (A + 1) = f (A + 1) := (o43.2.1 1 (by decide) (by decide) (by decide)).trans (og6.2.1 1 (by decide) (by decide) (by decide))
                  rcases (show (7 ≤ k9 ∧ k9 < 25) ∨ (k9 < 7 ∨ 25 ≤ k9) by omega) with h9 | h9
                  · have h8 := b2 (k9 - 7) (by omega)
                    rw [show 7 + (k9 - 7) = k9 by omega] at h8
                    rw [h8, o2x.2.1 10 (by decide) (by decide) (by decide), a2 _ (by omega), show 7 + (k9 - 7) = k9 by omega, og6.2.1 1 (by decide) (by decide) (by decide)]
                  · rw [b3 k9 h9, o124.2.1 1 (by decide) (by decide) (by decide), hrs k9 h9, hrf]
                have hfm : frM A [6, 10] [4] f g142 := by
                  refine ⟨fun q hq => ?_, fun r h2 h3 h4 => ?_, fun k9 hk9 => ?_⟩
                  · rw [b1 q (by omega), o2x.1 q hq, o43.1 q hq, og6.1 q hq]
                  · by_cases h5 : r = 1
                    · rw [h5]; exact hrow1
                    · have h6 : r ≠ 6 ∧ r ≠ 10 := ⟨fun e9_z => h4 (by simp [e9_z]), fun e9_z => h4 (by simp [e9_z])⟩
                      rw [b1 _ (by omega), o2x.2.1 r h2 h3 (by simp; omega), o43.2.1 r h2 h3 (by simp; omega), og6.2.1 r h2 h3 (by simp)]
                  · rw [b1 A (by omega), o2x.2.2 k9 (by simp), o43.2.2 k9 (by simp)]; exact og6.2.2 k9 hk9
                have hth : (g142 A 4).toInt = 0 := by rw [b1 A (by omega), o2x.2.2 4 (by decide), o43.2.2 4 (by decide)]; omega
                refine r_iload2 dX12_judge_145 ?_
                refine t_ifne (t := 153) dX12_judge_146 (by decide) (fun h146 => ?_) (fun h146 => ?_)
                · refine r_iload2 dX12_judge_153 ?_
                  refine n_iconst dX12_judge_154 (by decide) (fun r154 e154 => ?_)
                  refine t_icne (t := 163) dX12_judge_155 (by decide) (fun h155 => ?_) (fun h155 => ?_)
                  · refine r_iload2 dX12_judge_163 ?_
                    refine n_iconst dX12_judge_164 (by decide) (fun r164 e164 => ?_)
                    refine t_icne (t := 173) dX12_judge_165 (by decide) (fun h165 => ?_) (fun h165 => ?_)
                    · refine r_iload6 dX12_judge_173 ?_
                      refine r_iret dX12_judge_175 rfl (Nat.le_of_ble_eq_true rfl) (Nat.le_of_ble_eq_true rfl) ?_
                      refine hQ hok s l hcs (by omega) _ g142 ?_ hfm hth
                      rw [hfin, judR_mk]
                      repeat' split
                      all_goals omega
                    · refine r_iload5 dX12_judge_168 ?_
                      refine r_goto (t := 175) dX12_judge_170 (by decide) ?_
                      refine r_iret dX12_judge_175 rfl (Nat.le_of_ble_eq_true rfl) (Nat.le_of_ble_eq_true rfl) ?_
                      refine hQ hok s l hcs (by omega) _ g142 ?_ hfm hth
                      rw [hfin, judR_mk]
                      repeat' split
                      all_goals omega
                  · refine r_iload4 dX12_judge_158 ?_
                    refine r_goto (t := 175) dX12_judge_160 (by decide) ?_
                    refine r_iret dX12_judge_175 rfl (Nat.le_of_ble_eq_true rfl) (Nat.le_of_ble_eq_true rfl) ?_
                    refine hQ hok s l hcs (by omega) _ g142 ?_ hfm hth
                    rw [hfin, judR_mk]
                    repeat' split
                    all_goals omega
                · refine r_iload3 dX12_judge_149 ?_
                  refine r_goto (t := 175) dX12_judge_150 (by decide) ?_
                  refine r_iret dX12_judge_175 rfl (Nat.le_of_ble_eq_true rfl) (Nat.le_of_ble_eq_true rfl) ?_
                  refine hQ hok s l hcs (by omega) _ g142 ?_ hfm hth
                  rw [hfin, judR_mk]
                  repeat' split
                  all_goals omega
              · refine r_iload5 dX12_judge_54 ?_
                refine r_aloadR0 dX12_judge_56 ?_
                refine m_getR (q := (A + 19)) zf_RX12_71 rfl dX12_judge_57 (shM_k hs) (shM_p19 hs) ?_
                refine r_iload1 dX12_judge_60 ?_
                refine m_iald (k := x.toInt.toNat) (x := (f2_z (A + 19) x.toInt.toNat)) dX12_judge_61 (shM_k19 hs) (shM_n19 hs) (by omega) (by omega) (rfl) ?_
                refine t_icge (t := 122) dX12_judge_62 (by decide) (fun h62 => ?_) (fun h62 => False.elim (by omega))
                refine r_aloadR0 dX12_judge_122 ?_
                refine r_aloadR0 dX12_judge_123 ?_
                refine q_callV0 zm_RX12_343 dX12_judge_124 (shM_k hs) (by decide) rfl (Nat.le_of_ble_eq_true rfl) (Nat.le_of_ble_eq_true rfl) (Nat.le_of_ble_eq_true rfl) (Nat.le_of_ble_eq_true rfl) (Nat.le_of_ble_eq_true rfl) (s_X12_now (T := (T.1, T.2.1, Mt, T.2.2.2)) G hs hk2 hw2 (fun r124 g124 e124 o124 c124 => ?_))
                have hLm : (layM (tbC T) Mt.2).length ≤ 6 := Nat.le_trans (rch_cell (wfT_rch hw2)).2.2.2.2 hn6
                have hml2 : Mt.2.length ≤ 5 := hwt.2.1
                have e124b : r124.toInt = (Mt.2.length : Nat) := e124
                have hk7 : (g124 (A + 1) 7).toInt = (Mt.2.length : Nat) := by rw [o124.2.1 1 (by decide) (by decide) (by decide)]; exact hk2.2.1.1
                refine q_callV1 zm_RX12_256 dX12_judge_127 (shM_k hs) (by decide) rfl (Nat.le_of_ble_eq_true rfl) (Nat.le_of_ble_eq_true rfl) (Nat.le_of_ble_eq_true rfl) (Nat.le_of_ble_eq_true rfl) (Nat.le_of_ble_eq_true rfl) (s_X12_columnsAt (d := Mt.2.length) (v := (layM (tbC T) Mt.2).length) G hs e124b (by omega) c124.1 (fun r127 e127_z => ?_))
                refine r_istore5 dX12_judge_130 rfl ?_
                refine r_aloadR0 dX12_judge_132 ?_
                refine m_getR (q := (A + 1)) zf_RX12_9 rfl dX12_judge_133 (shM_k hs) (shM_p1 hs) ?_
                refine n_bipush dX12_judge_136 (by decide) (fun r136 e136 => ?_)
                refine m_iald (k := 7) (x := (g124 (A + 1) 7)) dX12_judge_138 (shM_k1 hs) (shM_n1 hs) (by omega) (by omega) (rfl) ?_
                refine r_istore6 dX12_judge_139 rfl ?_
                refine r_aloadR0 dX12_judge_141 ?_
                refine q_callV0 zm_RX12_401 dX12_judge_142 (shM_k hs) (by decide) rfl (Nat.le_of_ble_eq_true rfl) (Nat.le_of_ble_eq_true rfl) (Nat.le_of_ble_eq_true rfl) (Nat.le_of_ble_eq_true rfl) (Nat.le_of_ble_eq_true rfl) (s_X12_putsBack G hs (fun g142 b1 b2 b3 => ?_))
                have o2x : frM A [1, 6] [] g43 g124 := frM_tr (frM_su ho (by decide) (by decide)) (frM_su o124 (by decide) (by decide))
                have hrow1 : g142 (A + 1) = f (A + 1) := by
                  refine funext (fun k9 => ?_)
                  have hrf : g43 (A + 1) = f (A + 1) := (o43.2.1 1 (by decide) (by decide) (by decide)).trans (og6.2.1 1 (by decide) (by decide) (by decide))
                  rcases (show (7 ≤ k9 ∧ k9 < 25) ∨ (k9 < 7 ∨ 25 ≤ k9) by omega) with h9 | h9
                  · have h8 := b2 (k9 - 7) (by omega)
                    rw [show 7 + (k9 - 7) = k9 by omega] at h8
                    rw [h8, o2x.2.1 10 (by decide) (by decide) (by decide), a2 _ (by omega), show 7 + (k9 - 7) = k9 by omega, og6.2.1 1 (by decide) (by decide) (by decide)]
                  · rw [b3 k9 h9, o124.2.1 1 (by decide) (by decide) (by decide), hrs k9 h9, hrf]
                have hfm : frM A [6, 10] [4] f g142 := by
                  refine ⟨fun q hq => ?_, fun r h2 h3 h4 => ?_, fun k9 hk9 => ?_⟩
                  · rw [b1 q (by omega), o2x.1 q hq, o43.1 q hq, og6.1 q hq]
                  · by_cases h5 : r = 1
                    · rw [h5]; exact hrow1
                    · have h6 : r ≠ 6 ∧ r ≠ 10 := ⟨fun e9_z => h4 (by simp [e9_z]), fun e9_z => h4 (by simp [e9_z])⟩
                      rw [b1 _ (by omega), o2x.2.1 r h2 h3 (by simp; omega), o43.2.1 r h2 h3 (by simp; omega), og6.2.1 r h2 h3 (by simp)]
                  · rw [b1 A (by omega), o2x.2.2 k9 (by simp), o43.2.2 k9 (by simp)]; exact og6.2.2 k9 hk9
                have hth : (g142 A 4).toInt = 0 := by rw [b1 A (by omega), o2x.2.2 4 (by decide), o43.2.2 4 (by decide)]; omega
                refine r_iload2 dX12_judge_145 ?_
                refine t_ifne (t := 153) dX12_judge_146 (by decide) (fun h146 => ?_) (fun h146 => ?_)
                · refine r_iload2 dX12_judge_153 ?_
                  refine n_iconst dX12_judge_154 (by decide) (fun r154 e154 => ?_)
                  refine t_icne (t := 163) dX12_judge_155 (by decide) (fun h155 => ?_) (fun h155 => ?_)
                  · refine r_iload2 dX12_judge_163 ?_
                    refine n_iconst dX12_judge_164 (by decide) (fun r164 e164 => ?_)
                    refine t_icne (t := 173) dX12_judge_165 (by decide) (fun h165 => ?_) (fun h165 => ?_)
                    · refine r_iload6 dX12_judge_173 ?_
                      refine r_iret dX12_judge_175 rfl (Nat.le_of_ble_eq_true rfl) (Nat.le_of_ble_eq_true rfl) ?_
                      refine hQ hok s l hcs (by omega) _ g142 ?_ hfm hth
                      rw [hfin, judR_mk]
                      repeat' split
                      all_goals omega
                    · refine r_iload5 dX12_judge_168 ?_
                      refine r_goto (t := 175) dX12_judge_170 (by decide) ?_
                      refine r_iret dX12_judge_175 rfl (Nat.le_of_ble_eq_true rfl) (Nat.le_of_ble_eq_true rfl) ?_
                      refine hQ hok s l hcs (by omega) _ g142 ?_ hfm hth
                      rw [hfin, judR_mk]
                      repeat' split
                      all_goals omega
                  · refine r_iload4 dX12_judge_158 ?_
                    refine r_goto (t := 175) dX12_judge_160 (by decide) ?_
                    refine r_iret dX12_judge_175 rfl (Nat.le_of_ble_eq_true rfl) (Nat.le_of_ble_eq_true rfl) ?_
                    refine hQ hok s l hcs (by omega) _ g142 ?_ hfm hth
                    rw [hfin, judR_mk]
                    repeat' split
                    all_goals omega
                · refine r_iload3 dX12_judge_149 ?_
                  refine r_goto (t := 175) dX12_judge_150 (by decide) ?_
                  refine r_iret dX12_judge_175 rfl (Nat.le_of_ble_eq_true rfl) (Nat.le_of_ble_eq_true rfl) ?_
                  refine hQ hok s l hcs (by omega) _ g142 ?_ hfm hth
                  rw [hfin, judR_mk]
                  repeat' split
                  all_goals omega
        refine n_iconst dX12_judge_46 (by decide) (fun r46 e46 => ?_)
        refine r_istore3 dX12_judge_47 rfl ?_
        refine n_iconst dX12_judge_48 (by decide) (fun r48 e48 => ?_)
        refine r_istore4 dX12_judge_49 rfl ?_
        refine n_iconst dX12_judge_51 (by decide) (fun r51 e51 => ?_)
        refine r_istore5 dX12_judge_52 rfl ?_
        exact lp 31 _ _ _ 0 g43 T.2.2.1 _ (by omega) (by omega) frM_rf (fun _ _ => rfl) hk43 hwm (Or.inl ⟨by omega, by omega, rfl⟩) (by omega)
      · refine r_aloadR0 dX12_judge_0 ?_
        refine r_aloadR0 dX12_judge_1 ?_
        refine r_iload1 dX12_judge_2 ?_
        refine q_callV1 zm_RX12_389 dX12_judge_3 (shM_k hs) (by decide) rfl (Nat.le_of_ble_eq_true rfl) (Nat.le_of_ble_eq_true rfl) (Nat.le_of_ble_eq_true rfl) (Nat.le_of_ble_eq_true rfl) (Nat.le_of_ble_eq_true rfl) (s_X12_trayFault G hs (fun r3 e3_z => ?_))
        rw [if_pos (by omega), if_neg (by omega)] at e3_z
        refine m_putI zf_RX12_77 (by intro C T N h_z; cases h_z; rfl) rfl dX12_judge_6 (shM_k hs) ?_
        obtain ⟨g6, hg6⟩ : ∃ g9, g9 = zu f A 4 r3 := ⟨_, rfl⟩
        rw [← hg6]
        have og6 : frM A [] [4] f g6 := by rw [hg6]; exact frM_zk frM_rf (by decide)
        have vg6 : g6 A 4 = r3 := by rw [hg6]; exact zu_at
        have vt6 : (g6 A 4).toInt = r3.toInt := by rw [vg6]
        have hk6 : ctKn (g6 (A + 1)) T := by rw [og6.2.1 1 (by decide) (by decide) (by decide)]; exact hk
        refine r_aloadR0 dX12_judge_9 ?_
        refine m_getV (x := (g6 A 4)) zf_RX12_77 rfl dX12_judge_10 (shM_k hs) (rfl) ?_
        refine t_ifne (t := 33) dX12_judge_13 (by decide) (fun h13 => False.elim (by omega)) (fun h13 => ?_)
        refine r_iload2 dX12_judge_16 ?_
        refine n_i2l dX12_judge_17 (fun r17 e17_z => ?_)
        refine n_lconst (q := 0) dX12_judge_18 rfl (by decide) (fun r18 e18_z => ?_)
        refine n_ldc2 (n := 3) zk_RX12_259 dX12_judge_19 (by decide) (fun r19 e19_z => ?_)
        refine q_callS3 zm_RX12_138 dX12_judge_22 (Nat.le_of_ble_eq_true rfl) (Nat.le_of_ble_eq_true rfl) (Nat.le_of_ble_eq_true rfl) (Nat.le_of_ble_eq_true rfl) (Nat.le_of_ble_eq_true rfl) (s_X12_within G  (fun r22 e22_z => ?_))
        refine t_ifne (t := 33) dX12_judge_25 (by decide) (fun h25 => False.elim (by omega)) (fun h25 => ?_)
        refine r_aloadR0 dX12_judge_28 ?_
        refine n_iconst dX12_judge_29 (by decide) (fun r29 e29 => ?_)
        refine m_putI zf_RX12_77 (by intro C T N h_z; cases h_z; rfl) rfl dX12_judge_30 (shM_k hs) ?_
        obtain ⟨g30, hg30⟩ : ∃ g9, g9 = zu g6 A 4 r29 := ⟨_, rfl⟩
        rw [← hg30]
        have og30 : frM A [] [4] g6 g30 := by rw [hg30]; exact frM_zk frM_rf (by decide)
        have vg30 : g30 A 4 = r29 := by rw [hg30]; exact zu_at
        have vt30 : (g30 A 4).toInt = r29.toInt := by rw [vg30]
        have hk30 : ctKn (g30 (A + 1)) T := by rw [og30.2.1 1 (by decide) (by decide) (by decide)]; exact hk6
        refine r_aloadR0 dX12_judge_33 ?_
        refine m_getV (x := (g30 A 4)) zf_RX12_77 rfl dX12_judge_34 (shM_k hs) (rfl) ?_
        refine t_ifle (t := 42) dX12_judge_37 (by decide) (fun h37 => False.elim (by omega)) (fun h37 => ?_)
        refine n_iconst dX12_judge_40 (by decide) (fun r40 e40 => ?_)
        refine r_iret dX12_judge_41 rfl (Nat.le_of_ble_eq_true rfl) (Nat.le_of_ble_eq_true rfl) ?_
        exact hT3 hok (by rw [hcs]; exact fun h9 => by cases h9) hy3 _ g30 (frM_tr (frM_su og6 (by decide) (by decide)) (frM_su og30 (by decide) (by decide))) (by omega)
  · refine r_aloadR0 dX12_judge_0 ?_
    refine r_aloadR0 dX12_judge_1 ?_
    refine r_iload1 dX12_judge_2 ?_
    refine q_callV1 zm_RX12_389 dX12_judge_3 (shM_k hs) (by decide) rfl (Nat.le_of_ble_eq_true rfl) (Nat.le_of_ble_eq_true rfl) (Nat.le_of_ble_eq_true rfl) (Nat.le_of_ble_eq_true rfl) (Nat.le_of_ble_eq_true rfl) (s_X12_trayFault G hs (fun r3 e3_z => ?_))
    rw [if_neg (by omega)] at e3_z
    refine m_putI zf_RX12_77 (by intro C T N h_z; cases h_z; rfl) rfl dX12_judge_6 (shM_k hs) ?_
    obtain ⟨g6, hg6⟩ : ∃ g9, g9 = zu f A 4 r3 := ⟨_, rfl⟩
    rw [← hg6]
    have og6 : frM A [] [4] f g6 := by rw [hg6]; exact frM_zk frM_rf (by decide)
    have vg6 : g6 A 4 = r3 := by rw [hg6]; exact zu_at
    have vt6 : (g6 A 4).toInt = r3.toInt := by rw [vg6]
    have hk6 : ctKn (g6 (A + 1)) T := by rw [og6.2.1 1 (by decide) (by decide) (by decide)]; exact hk
    refine r_aloadR0 dX12_judge_9 ?_
    refine m_getV (x := (g6 A 4)) zf_RX12_77 rfl dX12_judge_10 (shM_k hs) (rfl) ?_
    refine t_ifne (t := 33) dX12_judge_13 (by decide) (fun h13 => ?_) (fun h13 => False.elim (by omega))
    refine r_aloadR0 dX12_judge_33 ?_
    refine m_getV (x := (g6 A 4)) zf_RX12_77 rfl dX12_judge_34 (shM_k hs) (rfl) ?_
    refine t_ifle (t := 42) dX12_judge_37 (by decide) (fun h37 => False.elim (by omega)) (fun h37 => ?_)
    refine n_iconst dX12_judge_40 (by decide) (fun r40 e40 => ?_)
    refine r_iret dX12_judge_41 rfl (Nat.le_of_ble_eq_true rfl) (Nat.le_of_ble_eq_true rfl) ?_
    exact hT1 hok _ g6 (frM_su og6 (by decide) (by decide)) (by omega)
set_option maxHeartbeats 4000000 in
set_option maxRecDepth 100000 in
theorem s_X12_perform {g : zGT} {w : zW} {f : Nat → Nat → Int32} {j : Nat → Nat → Int64} {A : Nat} {T : zTb} {x : Int32} {ty : Nat → zTy} {Q : Option Value → zW → Prop} {QX : String → zW → Prop} (G : zGok g) (hs : shM w A) (hk : ctKn (f (A + 1)) T) (hw : wfT T) (hty : ∀ t, t < 4 → ctTm f j A t (ty t)) (hT1 : ¬ (0 ≤ x.toInt ∧ x.toInt < 4) → ∀ (r : Int32) f2_z, frM A [] [4] f f2_z → (f2_z A 4).toInt = 1 → Q (some (.int r)) (zM w f2_z j)) (hT2 : (0 ≤ x.toInt ∧ x.toInt < 4) → ty x.toInt.toNat = none → ∀ (r : Int32) f2_z, frM A [] [4] f f2_z → (f2_z A 4).toInt = 2 → Q (some (.int r)) (zM w f2_z j)) (hQ : (0 ≤ x.toInt ∧ x.toInt < 4) → ∀ s l, ty x.toInt.toNat = some (s, l) → ∀ (r : Int32) f2_z, r.toInt = ((perW T l 0).1 : Nat) → frM A [1, 6] [4] f f2_z → (f2_z A 4).toInt = 0 → ctKn (f2_z (A + 1)) (perW T l 0).2 → Q (some (.int r)) (zM w f2_z j)) : zC g 6 yX12_perform cX12_perform 3 (some .int) [.ref A, .int x] (zM w f j) (0, 0) Q QX := by
  refine zC_of G (by decide +kernel) (Nat.le_of_ble_eq_true rfl) ?_
  have hk9 := hk
  obtain ⟨⟨k0_z, k1_z, k2_z, k3_z, k4_z, k5_z, k6_z⟩, km, kg, kp, kl1, kl2, kl3⟩ := hk9
  have km9 := km
  obtain ⟨m1_z, m2_z, m3_z⟩ := km9
  have hn6 : tbC T ≤ 6 := hw.2.1
  have hg4 : tbG T ≤ 4 := hw.2.2.1
  have hwm := hw.2.2.2.2.2.2.2.1
  have hml : T.2.2.1.2.length ≤ 5 := hwm.2.1
  have hm99 := hwm.2.2
  have hrt := wfT_rch hw
  have hLl : (tbL T).length ≤ 6 := Nat.le_trans (rch_cell hrt).2.2.2.2 hn6
  have hpl : T.2.2.2.length ≤ 10 := hw.2.2.2.2.2.2.2.2.1
  rcases Classical.em (0 ≤ x.toInt ∧ x.toInt < 4) with hok | hok
  · have hct := hty _ (show x.toInt.toNat < 4 by omega)
    cases hcs : ty x.toInt.toNat with
    | none =>
      rw [hcs] at hct
      have hno : (f (A + 18) x.toInt.toNat).toInt = -1 := hct
      refine r_aloadR0 dX12_perform_0 ?_
      refine r_aloadR0 dX12_perform_1 ?_
      refine r_iload1 dX12_perform_2 ?_
      refine q_callV1 zm_RX12_389 dX12_perform_3 (shM_k hs) (by decide) rfl (Nat.le_of_ble_eq_true rfl) (Nat.le_of_ble_eq_true rfl) (Nat.le_of_ble_eq_true rfl) (Nat.le_of_ble_eq_true rfl) (Nat.le_of_ble_eq_true rfl) (s_X12_trayFault G hs (fun r3 e3_z => ?_))
      rw [if_pos (by omega), if_pos hno] at e3_z
      refine m_putI zf_RX12_77 (by intro C T N h_z; cases h_z; rfl) rfl dX12_perform_6 (shM_k hs) ?_
      obtain ⟨g6, hg6⟩ : ∃ g9, g9 = zu f A 4 r3 := ⟨_, rfl⟩
      rw [← hg6]
      have og6 : frM A [] [4] f g6 := by rw [hg6]; exact frM_zk frM_rf (by decide)
      have vg6 : g6 A 4 = r3 := by rw [hg6]; exact zu_at
      have vt6 : (g6 A 4).toInt = r3.toInt := by rw [vg6]
      have hk6 : ctKn (g6 (A + 1)) T := by rw [og6.2.1 1 (by decide) (by decide) (by decide)]; exact hk
      refine r_aloadR0 dX12_perform_9 ?_
      refine m_getV (x := (g6 A 4)) zf_RX12_77 rfl dX12_perform_10 (shM_k hs) (rfl) ?_
      refine t_ifle (t := 18) dX12_perform_13 (by decide) (fun h13 => False.elim (by omega)) (fun h13 => ?_)
      refine n_iconst dX12_perform_16 (by decide) (fun r16 e16_z => ?_)
      refine r_iret dX12_perform_17 rfl (Nat.le_of_ble_eq_true rfl) (Nat.le_of_ble_eq_true rfl) ?_
      exact hT2 hok hcs _ g6 (frM_su og6 (by decide) (by decide)) (by omega)
    | some q =>
      obtain ⟨s, l⟩ := q
      rw [hcs] at hct
      obtain ⟨t1, t2, t3, t4, t5⟩ := hct
      refine r_aloadR0 dX12_perform_0 ?_
      refine r_aloadR0 dX12_perform_1 ?_
      refine r_iload1 dX12_perform_2 ?_
      refine q_callV1 zm_RX12_389 dX12_perform_3 (shM_k hs) (by decide) rfl (Nat.le_of_ble_eq_true rfl) (Nat.le_of_ble_eq_true rfl) (Nat.le_of_ble_eq_true rfl) (Nat.le_of_ble_eq_true rfl) (Nat.le_of_ble_eq_true rfl) (s_X12_trayFault G hs (fun r3 e3_z => ?_))
      rw [if_pos (by omega), if_neg (by omega)] at e3_z
      refine m_putI zf_RX12_77 (by intro C T N h_z; cases h_z; rfl) rfl dX12_perform_6 (shM_k hs) ?_
      obtain ⟨g6, hg6⟩ : ∃ g9, g9 = zu f A 4 r3 := ⟨_, rfl⟩
      rw [← hg6]
      have og6 : frM A [] [4] f g6 := by rw [hg6]; exact frM_zk frM_rf (by decide)
      have vg6 : g6 A 4 = r3 := by rw [hg6]; exact zu_at
      have vt6 : (g6 A 4).toInt = r3.toInt := by rw [vg6]
      have hk6 : ctKn (g6 (A + 1)) T := by rw [og6.2.1 1 (by decide) (by decide) (by decide)]; exact hk
      have lp : ∀ (mz : Nat) (c : Int32) (k : Nat) (f2_z : Nat → Nat → Int32) (T2 : zTb), c.toInt = (k : Nat) → k ≤ l.length → frM A [1, 6] [] g6 f2_z → ctKn (f2_z (A + 1)) T2 → wfT T2 → perW T l 0 = perW T2 (l.drop k) k → l.length - k < mz → zR (zV g 6 yX12_perform 3 (some .int) (0, 0) Q QX) cX12_perform yX12_perform.cls 20 [some (.ref A), some (.int x), some (.int c)] [] (zM w f2_z j) (0, 0) := by
        intro mz
        induction mz with
        | zero =>
          intro c k f2_z T2 hck hk30 ho hk2 hw2 hj hmz
          exact absurd hmz (Nat.not_lt_zero _)
        | succ mz ih =>
          intro c k f2_z T2 hck hk30 ho hk2 hw2 hj hmz
          have hmany : (f2_z (A + 19) x.toInt.toNat).toInt = (l.length : Nat) := by rw [ho.2.1 19 (by decide) (by decide) (by decide), og6.2.1 19 (by decide) (by decide) (by decide)]; exact t3
          have hn62 : tbC T2 ≤ 6 := hw2.2.1
          have hth : (f2_z A 4).toInt = 0 := by rw [ho.2.2 4 (by decide)]; omega
          have hfm : frM A [1, 6] [4] f f2_z := frM_tr (frM_su og6 (by decide) (by decide)) (frM_su ho (by decide) (by decide))
          rcases Nat.lt_or_ge k l.length with hkl | hkl
          · obtain ⟨dd, hdd⟩ : ∃ dd, l[k]? = some dd := ⟨_, List.getElem?_eq_getElem hkl⟩
            rw [drop_cons9 hdd, perW_s] at hj
            have hnum := t5 k dd hdd
            by_cases hh : hinI (tbC T2) T2.2.2.1 dd = 0
            · have hdb := hinI_bd hh
              rw [if_pos hh] at hj
              by_cases hd1 : dd = -1
              · rw [if_pos hd1] at hj
                refine r_iload2 dX12_perform_20 ?_
                refine r_aloadR0 dX12_perform_21 ?_
                refine m_getR (q := (A + 19)) zf_RX12_71 rfl dX12_perform_22 (shM_k hs) (shM_p19 hs) ?_
                refine r_iload1 dX12_perform_25 ?_
                refine m_iald (k := x.toInt.toNat) (x := (f2_z (A + 19) x.toInt.toNat)) dX12_perform_26 (shM_k19 hs) (shM_n19 hs) (by omega) (by omega) (rfl) ?_
                refine t_icge (t := 92) dX12_perform_27 (by decide) (fun h27 => False.elim (by omega)) (fun h27 => ?_)
                refine r_aloadR0 dX12_perform_30 ?_
                refine r_aloadR0 dX12_perform_31 ?_
                refine m_getR (q := (A + 20)) zf_RX12_74 rfl dX12_perform_32 (shM_k hs) (shM_p20 hs) ?_
                refine n_bipush dX12_perform_35 (by decide) (fun r35 e35 => ?_)
                refine r_iload1 dX12_perform_37 ?_
                refine n_imulc dX12_perform_38 e35 (by omega) (fun r38 e38 => ?_)
                refine r_iload2 dX12_perform_39 ?_
                refine n_iadd dX12_perform_40 (by omega) (fun r40 e40 => ?_)
                refine m_lald (k := (30 * x.toInt.toNat + k)) (x := (j (A + 20) ((30 * x.toInt.toNat + k)))) dX12_perform_41 (shM_k20 hs) (shM_n20 hs) (by omega) (by omega) (rfl) ?_
                refine q_callV1 zm_RX12_395 dX12_perform_42 (shM_k hs) (by decide) rfl (Nat.le_of_ble_eq_true rfl) (Nat.le_of_ble_eq_true rfl) (Nat.le_of_ble_eq_true rfl) (Nat.le_of_ble_eq_true rfl) (Nat.le_of_ble_eq_true rfl) (s_X12_whyTold (T := T2) G hs hk2 hw2 (fun r42 f3_z e42_z o42 => ?_))
                rw [hnum] at e42_z
                have hk3 : ctKn (f3_z (A + 1)) T2 := by rw [o42.2.1 1 (by decide) (by decide) (by decide)]; exact hk2
                refine t_ifne (t := 92) dX12_perform_45 (by decide) (fun h45 => False.elim (by omega)) (fun h45 => ?_)
                refine r_aloadR0 dX12_perform_48 ?_
                refine m_getR (q := (A + 20)) zf_RX12_74 rfl dX12_perform_49 (shM_k hs) (shM_p20 hs) ?_
                refine n_bipush dX12_perform_52 (by decide) (fun r52 e52 => ?_)
                refine r_iload1 dX12_perform_54 ?_
                refine n_imulc dX12_perform_55 e52 (by omega) (fun r55 e55 => ?_)
                refine r_iload2 dX12_perform_56 ?_
                refine n_iadd dX12_perform_57 (by omega) (fun r57 e57 => ?_)
                refine m_lald (k := (30 * x.toInt.toNat + k)) (x := (j (A + 20) ((30 * x.toInt.toNat + k)))) dX12_perform_58 (shM_k20 hs) (shM_n20 hs) (by omega) (by omega) (rfl) ?_
                refine n_ldc2 (n := -1) zk_RX12_375 dX12_perform_59 (by decide) (fun r59 e59 => ?_)
                refine n_lcmp dX12_perform_62 (fun r62 e62 => ?_)
                unfold zcmp at e62
                refine t_ifeq (t := 70) dX12_perform_63 (by decide) (fun h63 => ?_) (fun h63 => False.elim (by omega))
                refine r_aloadR0 dX12_perform_70 ?_
                refine r_aloadR0 dX12_perform_71 ?_
                refine m_getR (q := (A + 20)) zf_RX12_74 rfl dX12_perform_72 (shM_k hs) (shM_p20 hs) ?_
                refine n_bipush dX12_perform_75 (by decide) (fun r75 e75 => ?_)
                refine r_iload1 dX12_perform_77 ?_
                refine n_imulc dX12_perform_78 e75 (by omega) (fun r78 e78 => ?_)
                refine r_iload2 dX12_perform_79 ?_
                refine n_iadd dX12_perform_80 (by omega) (fun r80 e80 => ?_)
                refine m_lald (k := (30 * x.toInt.toNat + k)) (x := (j (A + 20) ((30 * x.toInt.toNat + k)))) dX12_perform_81 (shM_k20 hs) (shM_n20 hs) (by omega) (by omega) (rfl) ?_
                refine n_l2i dX12_perform_82 (by omega) (fun r82 e82 => ?_)
                refine q_callV1 zm_RX12_398 dX12_perform_83 (shM_k hs) (by decide) rfl (Nat.le_of_ble_eq_true rfl) (Nat.le_of_ble_eq_true rfl) (Nat.le_of_ble_eq_true rfl) (Nat.le_of_ble_eq_true rfl) (Nat.le_of_ble_eq_true rfl) (s_X12_does_no G hs (by omega) ?_)
                refine n_iinc2 dX12_perform_86 (by decide) rfl (by omega) (fun r86 e86 => ?_)
                refine r_goto (t := 20) dX12_perform_89 (by decide) ?_
                exact ih _ (k + 1) f3_z T2 (by omega) (by omega) (frM_tr ho (frM_su o42 (by decide) (by decide))) hk3 hw2 hj (by omega)
              · rw [if_neg hd1] at hj
                have hok2 := hinI_ok hh hd1 hn62
                refine r_iload2 dX12_perform_20 ?_
                refine r_aloadR0 dX12_perform_21 ?_
                refine m_getR (q := (A + 19)) zf_RX12_71 rfl dX12_perform_22 (shM_k hs) (shM_p19 hs) ?_
                refine r_iload1 dX12_perform_25 ?_
                refine m_iald (k := x.toInt.toNat) (x := (f2_z (A + 19) x.toInt.toNat)) dX12_perform_26 (shM_k19 hs) (shM_n19 hs) (by omega) (by omega) (rfl) ?_
                refine t_icge (t := 92) dX12_perform_27 (by decide) (fun h27 => False.elim (by omega)) (fun h27 => ?_)
                refine r_aloadR0 dX12_perform_30 ?_
                refine r_aloadR0 dX12_perform_31 ?_
                refine m_getR (q := (A + 20)) zf_RX12_74 rfl dX12_perform_32 (shM_k hs) (shM_p20 hs) ?_
                refine n_bipush dX12_perform_35 (by decide) (fun r35 e35 => ?_)
                refine r_iload1 dX12_perform_37 ?_
                refine n_imulc dX12_perform_38 e35 (by omega) (fun r38 e38 => ?_)
                refine r_iload2 dX12_perform_39 ?_
                refine n_iadd dX12_perform_40 (by omega) (fun r40 e40 => ?_)
                refine m_lald (k := (30 * x.toInt.toNat + k)) (x := (j (A + 20) ((30 * x.toInt.toNat + k)))) dX12_perform_41 (shM_k20 hs) (shM_n20 hs) (by omega) (by omega) (rfl) ?_
                refine q_callV1 zm_RX12_395 dX12_perform_42 (shM_k hs) (by decide) rfl (Nat.le_of_ble_eq_true rfl) (Nat.le_of_ble_eq_true rfl) (Nat.le_of_ble_eq_true rfl) (Nat.le_of_ble_eq_true rfl) (Nat.le_of_ble_eq_true rfl) (s_X12_whyTold (T := T2) G hs hk2 hw2 (fun r42 f3_z e42_z o42 => ?_))
                rw [hnum] at e42_z
                have hk3 : ctKn (f3_z (A + 1)) T2 := by rw [o42.2.1 1 (by decide) (by decide) (by decide)]; exact hk2
                refine t_ifne (t := 92) dX12_perform_45 (by decide) (fun h45 => False.elim (by omega)) (fun h45 => ?_)
                refine r_aloadR0 dX12_perform_48 ?_
                refine m_getR (q := (A + 20)) zf_RX12_74 rfl dX12_perform_49 (shM_k hs) (shM_p20 hs) ?_
                refine n_bipush dX12_perform_52 (by decide) (fun r52 e52 => ?_)
                refine r_iload1 dX12_perform_54 ?_
                refine n_imulc dX12_perform_55 e52 (by omega) (fun r55 e55 => ?_)
                refine r_iload2 dX12_perform_56 ?_
                refine n_iadd dX12_perform_57 (by omega) (fun r57 e57 => ?_)
                refine m_lald (k := (30 * x.toInt.toNat + k)) (x := (j (A + 20) ((30 * x.toInt.toNat + k)))) dX12_perform_58 (shM_k20 hs) (shM_n20 hs) (by omega) (by omega) (rfl) ?_
                refine n_ldc2 (n := -1) zk_RX12_375 dX12_perform_59 (by decide) (fun r59 e59 => ?_)
                refine n_lcmp dX12_perform_62 (fun r62 e62 => ?_)
                unfold zcmp at e62
                refine t_ifeq (t := 70) dX12_perform_63 (by decide) (fun h63 => False.elim (by omega)) (fun h63 => ?_)
                refine r_aloadR0 dX12_perform_66 ?_
                refine q_callV0 zm_RX12_362 dX12_perform_67 (shM_k hs) (by decide) rfl (Nat.le_of_ble_eq_true rfl) (Nat.le_of_ble_eq_true rfl) (Nat.le_of_ble_eq_true rfl) (Nat.le_of_ble_eq_true rfl) (Nat.le_of_ble_eq_true rfl) (s_X12_keeps (T := T2) G hs hk3 hw2 (fun f4_z o67 c67 => ?_))
                refine r_aloadR0 dX12_perform_70 ?_
                refine r_aloadR0 dX12_perform_71 ?_
                refine m_getR (q := (A + 20)) zf_RX12_74 rfl dX12_perform_72 (shM_k hs) (shM_p20 hs) ?_
                refine n_bipush dX12_perform_75 (by decide) (fun r75 e75 => ?_)
                refine r_iload1 dX12_perform_77 ?_
                refine n_imulc dX12_perform_78 e75 (by omega) (fun r78 e78 => ?_)
                refine r_iload2 dX12_perform_79 ?_
                refine n_iadd dX12_perform_80 (by omega) (fun r80 e80 => ?_)
                refine m_lald (k := (30 * x.toInt.toNat + k)) (x := (j (A + 20) ((30 * x.toInt.toNat + k)))) dX12_perform_81 (shM_k20 hs) (shM_n20 hs) (by omega) (by omega) (rfl) ?_
                refine n_l2i dX12_perform_82 (by omega) (fun r82 e82 => ?_)
                refine q_callV1 zm_RX12_398 dX12_perform_83 (shM_k hs) (by decide) rfl (Nat.le_of_ble_eq_true rfl) (Nat.le_of_ble_eq_true rfl) (Nat.le_of_ble_eq_true rfl) (Nat.le_of_ble_eq_true rfl) (Nat.le_of_ble_eq_true rfl) (s_X12_does (T := tbKp T2) (d := dd.toNat) G hs c67 (wfT_kp hw2) hok2.2 (by omega) (fun h9 => hinI_un hh (by omega)) (fun f5_z o83 q83 c83 => ?_))
                refine n_iinc2 dX12_perform_86 (by decide) rfl (by omega) (fun r86 e86 => ?_)
                refine r_goto (t := 20) dX12_perform_89 (by decide) ?_
                exact ih _ (k + 1) f5_z (tbDo T2 dd.toNat) (by omega) (by omega) (frM_tr ho (frM_tr (frM_su o42 (by decide) (by decide)) (frM_tr (frM_su o67 (by decide) (by decide)) (frM_su o83 (by decide) (by decide))))) c83 (wfT_do hw2 hok2.2) hj (by omega)
            · rw [if_neg hh] at hj
              have hh2 : ∀ r : Int32, r.toInt = hinI (tbC T2) T2.2.2.1 dd → r.toInt ≠ 0 := fun r e9_z => by rw [e9_z]; exact hh
              refine r_iload2 dX12_perform_20 ?_
              refine r_aloadR0 dX12_perform_21 ?_
              refine m_getR (q := (A + 19)) zf_RX12_71 rfl dX12_perform_22 (shM_k hs) (shM_p19 hs) ?_
              refine r_iload1 dX12_perform_25 ?_
              refine m_iald (k := x.toInt.toNat) (x := (f2_z (A + 19) x.toInt.toNat)) dX12_perform_26 (shM_k19 hs) (shM_n19 hs) (by omega) (by omega) (rfl) ?_
              refine t_icge (t := 92) dX12_perform_27 (by decide) (fun h27 => False.elim (by omega)) (fun h27 => ?_)
              refine r_aloadR0 dX12_perform_30 ?_
              refine r_aloadR0 dX12_perform_31 ?_
              refine m_getR (q := (A + 20)) zf_RX12_74 rfl dX12_perform_32 (shM_k hs) (shM_p20 hs) ?_
              refine n_bipush dX12_perform_35 (by decide) (fun r35 e35 => ?_)
              refine r_iload1 dX12_perform_37 ?_
              refine n_imulc dX12_perform_38 e35 (by omega) (fun r38 e38 => ?_)
              refine r_iload2 dX12_perform_39 ?_
              refine n_iadd dX12_perform_40 (by omega) (fun r40 e40 => ?_)
              refine m_lald (k := (30 * x.toInt.toNat + k)) (x := (j (A + 20) ((30 * x.toInt.toNat + k)))) dX12_perform_41 (shM_k20 hs) (shM_n20 hs) (by omega) (by omega) (rfl) ?_
              refine q_callV1 zm_RX12_395 dX12_perform_42 (shM_k hs) (by decide) rfl (Nat.le_of_ble_eq_true rfl) (Nat.le_of_ble_eq_true rfl) (Nat.le_of_ble_eq_true rfl) (Nat.le_of_ble_eq_true rfl) (Nat.le_of_ble_eq_true rfl) (s_X12_whyTold (T := T2) G hs hk2 hw2 (fun r42 f3_z e42_z o42 => ?_))
              rw [hnum] at e42_z
              have hk3 : ctKn (f3_z (A + 1)) T2 := by rw [o42.2.1 1 (by decide) (by decide) (by decide)]; exact hk2
              refine t_ifne (t := 92) dX12_perform_45 (by decide) (fun h45 => ?_) (fun h45 => False.elim (hh2 _ e42_z (by omega)))
              refine r_iload2 dX12_perform_92 ?_
              refine r_iret dX12_perform_93 rfl (Nat.le_of_ble_eq_true rfl) (Nat.le_of_ble_eq_true rfl) ?_
              refine hQ hok s l hcs _ f3_z ?_ (frM_tr hfm (frM_su o42 (by decide) (by decide))) (by rw [o42.2.2 4 (by decide)]; exact hth) ?_
              · rw [hj]; exact hck
              · rw [hj]; exact hk3
          · rw [List.drop_eq_nil_of_le (by omega)] at hj
            have hj2 : perW T l 0 = (k, T2) := hj
            refine r_iload2 dX12_perform_20 ?_
            refine r_aloadR0 dX12_perform_21 ?_
            refine m_getR (q := (A + 19)) zf_RX12_71 rfl dX12_perform_22 (shM_k hs) (shM_p19 hs) ?_
            refine r_iload1 dX12_perform_25 ?_
            refine m_iald (k := x.toInt.toNat) (x := (f2_z (A + 19) x.toInt.toNat)) dX12_perform_26 (shM_k19 hs) (shM_n19 hs) (by omega) (by omega) (rfl) ?_
            refine t_icge (t := 92) dX12_perform_27 (by decide) (fun h27 => ?_) (fun h27 => False.elim (by omega))
            refine r_iload2 dX12_perform_92 ?_
            refine r_iret dX12_perform_93 rfl (Nat.le_of_ble_eq_true rfl) (Nat.le_of_ble_eq_true rfl) ?_
            refine hQ hok s l hcs _ f2_z ?_ hfm hth ?_
            · rw [hj2]; exact hck
            · rw [hj2]; exact hk2
      refine r_aloadR0 dX12_perform_9 ?_
      refine m_getV (x := (g6 A 4)) zf_RX12_77 rfl dX12_perform_10 (shM_k hs) (rfl) ?_
      refine t_ifle (t := 18) dX12_perform_13 (by decide) (fun h13 => ?_) (fun h13 => False.elim (by omega))
      refine n_iconst dX12_perform_18 (by decide) (fun r18 e18_z => ?_)
      refine r_istore2 dX12_perform_19 rfl ?_
      exact lp 31 _ 0 g6 T (by omega) (by omega) frM_rf hk6 hw rfl (by omega)
  · refine r_aloadR0 dX12_perform_0 ?_
    refine r_aloadR0 dX12_perform_1 ?_
    refine r_iload1 dX12_perform_2 ?_
    refine q_callV1 zm_RX12_389 dX12_perform_3 (shM_k hs) (by decide) rfl (Nat.le_of_ble_eq_true rfl) (Nat.le_of_ble_eq_true rfl) (Nat.le_of_ble_eq_true rfl) (Nat.le_of_ble_eq_true rfl) (Nat.le_of_ble_eq_true rfl) (s_X12_trayFault G hs (fun r3 e3_z => ?_))
    rw [if_neg (by omega)] at e3_z
    refine m_putI zf_RX12_77 (by intro C T N h_z; cases h_z; rfl) rfl dX12_perform_6 (shM_k hs) ?_
    obtain ⟨g6, hg6⟩ : ∃ g9, g9 = zu f A 4 r3 := ⟨_, rfl⟩
    rw [← hg6]
    have og6 : frM A [] [4] f g6 := by rw [hg6]; exact frM_zk frM_rf (by decide)
    have vg6 : g6 A 4 = r3 := by rw [hg6]; exact zu_at
    have vt6 : (g6 A 4).toInt = r3.toInt := by rw [vg6]
    have hk6 : ctKn (g6 (A + 1)) T := by rw [og6.2.1 1 (by decide) (by decide) (by decide)]; exact hk
    refine r_aloadR0 dX12_perform_9 ?_
    refine m_getV (x := (g6 A 4)) zf_RX12_77 rfl dX12_perform_10 (shM_k hs) (rfl) ?_
    refine t_ifle (t := 18) dX12_perform_13 (by decide) (fun h13 => False.elim (by omega)) (fun h13 => ?_)
    refine n_iconst dX12_perform_16 (by decide) (fun r16 e16_z => ?_)
    refine r_iret dX12_perform_17 rfl (Nat.le_of_ble_eq_true rfl) (Nat.le_of_ble_eq_true rfl) ?_
    exact hT1 hok _ g6 (frM_su og6 (by decide) (by decide)) (by omega)
set_option maxHeartbeats 4000000 in
set_option maxRecDepth 100000 in
theorem s_X12_draw {g : zGT} {w : zW} {f : Nat → Nat → Int32} {j : Nat → Nat → Int64} {A : Nat} {m : Int32} {mm : Nat} {Q : Option Value → zW → Prop} {QX : String → zW → Prop} (G : zGok g) (hs : shM w A) (hm_z : m.toInt = (mm : Nat)) (hm0 : 0 < mm) (hQ : ∀ (r : Int32) f2_z, r.toInt = ((dvl (f A 24) % mm : Nat) : Int) → f2_z A 24 = dnx (f A 24) → frM A [] [24] f f2_z → Q (some (.int r)) (zM w f2_z j)) : zC g 1 yX12_draw cX12_draw 2 (some .int) [.ref A, .int m] (zM w f j) (0, 0) Q QX := by
  refine zC_of G (by decide +kernel) (Nat.le_of_ble_eq_true rfl) ?_
  refine r_aloadR0 dX12_draw_0 ?_
  refine n_ldcw (n := 1103515245) zk_RX12_404 dX12_draw_1 (by decide) (fun r1 e1_z => ?_)
  refine r_aloadR0 dX12_draw_4 ?_
  refine m_getV (x := (f A 24)) zf_RX12_405 rfl dX12_draw_5 (shM_k hs) (rfl) ?_
  refine r_imul dX12_draw_8 ?_
  refine n_name (fun r8 e8 => ?_)
  refine n_sipush dX12_draw_9 (by decide) (fun r9 e9_z => ?_)
  refine r_iadd dX12_draw_12 ?_
  refine n_name (fun r12 e12_z => ?_)
  refine m_putI zf_RX12_405 (by intro C T N h_z; cases h_z; rfl) rfl dX12_draw_13 (shM_k hs) ?_
  have h12 : r12 = dnx (f A 24) := by rw [e12_z, e8, show r1 = 1103515245 from zi_eq.mpr (e1_z.trans (by decide)), show r9 = 12345 from zi_eq.mpr (e9_z.trans (by decide))]; rfl
  refine r_aloadR0 dX12_draw_16 ?_
  refine m_getV (x := r12) zf_RX12_405 rfl dX12_draw_17 (shM_k hs) (zu_at) ?_
  refine n_bipush dX12_draw_20 (by decide) (fun r20 e20 => ?_)
  refine r_iushr dX12_draw_22 ?_
  refine n_name (fun r22 e22_z => ?_)
  have h22 : r22 = dvv (f A 24) := by rw [e22_z, h12, show r20 = 16 from zi_eq.mpr (e20.trans (by decide))]; rfl
  have hv := dvl_v (f A 24)
  rw [← h22] at hv
  refine r_iload1 dX12_draw_23 ?_
  refine n_irem dX12_draw_24 hv.1 hm_z hm0 (fun r24 e24_z => ?_)
  refine r_iret dX12_draw_25 rfl (Nat.le_of_ble_eq_true rfl) (Nat.le_of_ble_eq_true rfl) ?_
  exact hQ _ _ e24_z (by rw [zu_at]; exact h12) (frM_zk frM_rf (by decide))
set_option maxHeartbeats 4000000 in
set_option maxRecDepth 100000 in
theorem s_X12_drawn {g : zGT} {w : zW} {f : Nat → Nat → Int32} {j : Nat → Nat → Int64} {A : Nat} {x s : Int32} {Q : Option Value → zW → Prop} {QX : String → zW → Prop} (G : zGok g) (hs : shM w A) (h24 : f A 24 = dnx s) (hx : x.toInt = ((dvl s % 4 : Nat) : Int)) (hQ : ∀ (r : Int32) f2_z, r.toInt = ((drwD s).1 : Nat) → f2_z A 24 = (drwD s).2 → frM A [] [24] f f2_z → Q (some (.int r)) (zM w f2_z j)) : zC g 2 yX12_drawn cX12_drawn 3 (some .int) [.ref A, .int x] (zM w f j) (0, 0) Q QX := by
  refine zC_of G (by decide +kernel) (Nat.le_of_ble_eq_true rfl) ?_
  rcases (show dvl s % 4 = 2 ∨ dvl s % 4 = 3 ∨ (dvl s % 4 ≠ 2 ∧ dvl s % 4 ≠ 3) by omega) with hq | hq | hq
  · refine r_iload1 dX12_drawn_0 ?_
    refine n_iconst dX12_drawn_1 (by decide) (fun r1 e1_z => ?_)
    refine t_icne (t := 8) dX12_drawn_2 (by decide) (fun h2 => False.elim (by omega)) (fun h2 => ?_)
    refine n_bipush dX12_drawn_5 (by decide) (fun r5 e5_z => ?_)
    refine r_iret dX12_drawn_7 rfl (Nat.le_of_ble_eq_true rfl) (Nat.le_of_ble_eq_true rfl) ?_
    have hdw : drwD s = (100, dnx s) := if_pos hq
    refine hQ _ f ?_ ?_ frM_rf
    · rw [hdw]; show _ = ((100 : Nat) : Int); omega
    · rw [hdw]; exact h24
  · refine r_iload1 dX12_drawn_0 ?_
    refine n_iconst dX12_drawn_1 (by decide) (fun r1 e1_z => ?_)
    refine t_icne (t := 8) dX12_drawn_2 (by decide) (fun h2 => ?_) (fun h2 => False.elim (by omega))
    refine r_aloadR0 dX12_drawn_8 ?_
    refine r_iload1 dX12_drawn_9 ?_
    refine n_iconst dX12_drawn_10 (by decide) (fun r10 e10_z => ?_)
    refine t_icne (t := 19) dX12_drawn_11 (by decide) (fun h11 => False.elim (by omega)) (fun h11 => ?_)
    refine n_bipush dX12_drawn_14 (by decide) (fun r14 e14_z => ?_)
    refine r_goto (t := 20) dX12_drawn_16 (by decide) ?_
    refine q_callV1 zm_RX12_410 dX12_drawn_20 (shM_k hs) (by decide) rfl (Nat.le_of_ble_eq_true rfl) (Nat.le_of_ble_eq_true rfl) (Nat.le_of_ble_eq_true rfl) (Nat.le_of_ble_eq_true rfl) (Nat.le_of_ble_eq_true rfl) (s_X12_draw (mm := 6) G hs e14_z (by decide) (fun r20 g20 e20 q20 o20 => ?_))
    rw [h24] at e20 q20
    refine r_istore2 dX12_drawn_23 rfl ?_
    refine r_iload1 dX12_drawn_24 ?_
    refine n_iconst dX12_drawn_25 (by decide) (fun r25 e25_z => ?_)
    refine t_icne (t := 47) dX12_drawn_26 (by decide) (fun h26 => False.elim (by omega)) (fun h26 => ?_)
    refine n_sipush dX12_drawn_29 (by decide) (fun r29 e29 => ?_)
    refine n_bipush dX12_drawn_32 (by decide) (fun r32 e32 => ?_)
    refine r_iload2 dX12_drawn_34 ?_
    refine n_imulc dX12_drawn_35 e32 (by omega) (fun r35 e35 => ?_)
    refine n_iadd dX12_drawn_36 (by omega) (fun r36 e36 => ?_)
    refine r_aloadR0 dX12_drawn_37 ?_
    refine n_bipush dX12_drawn_38 (by decide) (fun r38 e38 => ?_)
    refine q_callV1 zm_RX12_410 dX12_drawn_40 (shM_k hs) (by decide) rfl (Nat.le_of_ble_eq_true rfl) (Nat.le_of_ble_eq_true rfl) (Nat.le_of_ble_eq_true rfl) (Nat.le_of_ble_eq_true rfl) (Nat.le_of_ble_eq_true rfl) (s_X12_draw (mm := 100) G hs e38 (by decide) (fun r40 g40 e40 q40 o40 => ?_))
    rw [q20] at e40 q40
    refine n_iadd dX12_drawn_43 (by omega) (fun r43 e43 => ?_)
    refine r_goto (t := 59) dX12_drawn_44 (by decide) ?_
    refine r_iret dX12_drawn_59 rfl (Nat.le_of_ble_eq_true rfl) (Nat.le_of_ble_eq_true rfl) ?_
    have hdw : drwD s = (1000 + 100 * (dvl (dnx s) % 6) + dvl (dnx (dnx s)) % 100, dnx (dnx (dnx s))) := by unfold drwD; rw [if_neg (by omega), if_pos (by omega)]
    refine hQ _ g40 ?_ ?_ (frM_tr o20 o40)
    · rw [hdw]; show _ = ((1000 + 100 * (dvl (dnx s) % 6) + dvl (dnx (dnx s)) % 100 : Nat) : Int); omega
    · rw [hdw]; exact q40
  · refine r_iload1 dX12_drawn_0 ?_
    refine n_iconst dX12_drawn_1 (by decide) (fun r1 e1_z => ?_)
    refine t_icne (t := 8) dX12_drawn_2 (by decide) (fun h2 => ?_) (fun h2 => False.elim (by omega))
    refine r_aloadR0 dX12_drawn_8 ?_
    refine r_iload1 dX12_drawn_9 ?_
    refine n_iconst dX12_drawn_10 (by decide) (fun r10 e10_z => ?_)
    refine t_icne (t := 19) dX12_drawn_11 (by decide) (fun h11 => ?_) (fun h11 => False.elim (by omega))
    refine n_iconst dX12_drawn_19 (by decide) (fun r19 e19_z => ?_)
    refine q_callV1 zm_RX12_410 dX12_drawn_20 (shM_k hs) (by decide) rfl (Nat.le_of_ble_eq_true rfl) (Nat.le_of_ble_eq_true rfl) (Nat.le_of_ble_eq_true rfl) (Nat.le_of_ble_eq_true rfl) (Nat.le_of_ble_eq_true rfl) (s_X12_draw (mm := 5) G hs e19_z (by decide) (fun r20 g20 e20 q20 o20 => ?_))
    rw [h24] at e20 q20
    refine r_istore2 dX12_drawn_23 rfl ?_
    refine r_iload1 dX12_drawn_24 ?_
    refine n_iconst dX12_drawn_25 (by decide) (fun r25 e25_z => ?_)
    refine t_icne (t := 47) dX12_drawn_26 (by decide) (fun h26 => ?_) (fun h26 => False.elim (by omega))
    refine n_bipush dX12_drawn_47 (by decide) (fun r47 e47 => ?_)
    refine n_iconst dX12_drawn_49 (by decide) (fun r49 e49 => ?_)
    refine r_iload2 dX12_drawn_50 ?_
    refine n_iadd dX12_drawn_51 (by omega) (fun r51 e51 => ?_)
    refine n_imulc dX12_drawn_52 e47 (by omega) (fun r52 e52 => ?_)
    refine r_aloadR0 dX12_drawn_53 ?_
    refine n_iconst dX12_drawn_54 (by decide) (fun r54 e54 => ?_)
    refine q_callV1 zm_RX12_410 dX12_drawn_55 (shM_k hs) (by decide) rfl (Nat.le_of_ble_eq_true rfl) (Nat.le_of_ble_eq_true rfl) (Nat.le_of_ble_eq_true rfl) (Nat.le_of_ble_eq_true rfl) (Nat.le_of_ble_eq_true rfl) (s_X12_draw (mm := 4) G hs e54 (by decide) (fun r55 g55 e55 q55 o55 => ?_))
    rw [q20] at e55 q55
    refine n_iadd dX12_drawn_58 (by omega) (fun r58 e58 => ?_)
    refine r_iret dX12_drawn_59 rfl (Nat.le_of_ble_eq_true rfl) (Nat.le_of_ble_eq_true rfl) ?_
    have hdw : drwD s = (10 * (1 + dvl (dnx s) % 5) + dvl (dnx (dnx s)) % 4, dnx (dnx (dnx s))) := by unfold drwD; rw [if_neg (by omega), if_neg (by omega)]
    refine hQ _ g55 ?_ ?_ (frM_tr o20 o55)
    · rw [hdw]; show _ = ((10 * (1 + dvl (dnx s) % 5) + dvl (dnx (dnx s)) % 4 : Nat) : Int); omega
    · rw [hdw]; exact q55
/-- an evening: how many could be, the table behind it -/
def eveW : Nat → Int32 → zTb → Nat → Nat × zTb
  | 0, _, T, n => (n, T)
  | k + 1, s, T, n => if hinI (tbC T) T.2.2.1 ((drwD s).1 : Nat) = 0 then eveW k (drwD s).2 (tbDo T (drwD s).1) (n + 1) else eveW k (drwD s).2 T n
theorem eveW_s {k : Nat} {s : Int32} {T : zTb} {n : Nat} : eveW (k + 1) s T n = if hinI (tbC T) T.2.2.1 ((drwD s).1 : Nat) = 0 then eveW k (drwD s).2 (tbDo T (drwD s).1) (n + 1) else eveW k (drwD s).2 T n := rfl
theorem drwD_bd {s : Int32} : (drwD s).1 < 2600 := by
  unfold drwD
  split
  · show 100 < 2600; omega
  split
  · show 1000 + 100 * (dvl (dnx s) % 6) + dvl (dnx (dnx s)) % 100 < 2600; omega
  · show 10 * (1 + dvl (dnx s) % 5) + dvl (dnx (dnx s)) % 4 < 2600; omega
set_option maxHeartbeats 4000000 in
set_option maxRecDepth 100000 in
theorem s_X12_evening {g : zGT} {w : zW} {f : Nat → Nat → Int32} {j : Nat → Nat → Int64} {A : Nat} {T : zTb} {x y : Int32} {Q : Option Value → zW → Prop} {QX : String → zW → Prop} (G : zGok g) (hs : shM w A) (hk : ctKn (f (A + 1)) T) (hw : wfT T) (hT1 : ¬ (1 ≤ y.toInt ∧ y.toInt ≤ 30) → ∀ (r : Int32) f2_z, frM A [] [4] f f2_z → (f2_z A 4).toInt = 1 → Q (some (.int r)) (zM w f2_z j)) (hQ : (1 ≤ y.toInt ∧ y.toInt ≤ 30) → ∀ (r : Int32) f2_z, r.toInt = ((eveW y.toInt.toNat x T 0).1 : Nat) → frM A [1, 6] [4, 24] f f2_z → (f2_z A 4).toInt = 0 → ctKn (f2_z (A + 1)) (eveW y.toInt.toNat x T 0).2 → Q (some (.int r)) (zM w f2_z j)) : zC g 6 yX12_evening cX12_evening 6 (some .int) [.ref A, .int x, .int y] (zM w f j) (0, 0) Q QX := by
  refine zC_of G (by decide +kernel) (Nat.le_of_ble_eq_true rfl) ?_
  have hk9 := hk
  obtain ⟨⟨k0_z, k1_z, k2_z, k3_z, k4_z, k5_z, k6_z⟩, km, kg, kp, kl1, kl2, kl3⟩ := hk9
  have km9 := km
  obtain ⟨m1_z, m2_z, m3_z⟩ := km9
  have hn6 : tbC T ≤ 6 := hw.2.1
  have hg4 : tbG T ≤ 4 := hw.2.2.1
  have hwm := hw.2.2.2.2.2.2.2.1
  have hml : T.2.2.1.2.length ≤ 5 := hwm.2.1
  have hm99 := hwm.2.2
  have hrt := wfT_rch hw
  have hLl : (tbL T).length ≤ 6 := Nat.le_trans (rch_cell hrt).2.2.2.2 hn6
  have hpl : T.2.2.2.length ≤ 10 := hw.2.2.2.2.2.2.2.2.1
  rcases Classical.em (1 ≤ y.toInt ∧ y.toInt ≤ 30) with hy | hy
  · refine r_aloadR0 dX12_evening_0 ?_
    refine n_iconst dX12_evening_1 (by decide) (fun r1 e1_z => ?_)
    refine m_putI zf_RX12_77 (by intro C T N h_z; cases h_z; rfl) rfl dX12_evening_2 (shM_k hs) ?_
    obtain ⟨g2, hg2⟩ : ∃ g9, g9 = zu f A 4 r1 := ⟨_, rfl⟩
    rw [← hg2]
    have og2 : frM A [] [4] f g2 := by rw [hg2]; exact frM_zk frM_rf (by decide)
    have vg2 : g2 A 4 = r1 := by rw [hg2]; exact zu_at
    have vt2 : (g2 A 4).toInt = r1.toInt := by rw [vg2]
    have hk2 : ctKn (g2 (A + 1)) T := by rw [og2.2.1 1 (by decide) (by decide) (by decide)]; exact hk
    refine r_iload2 dX12_evening_5 ?_
    refine n_i2l dX12_evening_6 (fun r6 e6_z => ?_)
    refine n_lconst (q := 1) dX12_evening_7 rfl (by decide) (fun r7 e7_z => ?_)
    refine n_ldc2 (n := 30) zk_RX12_408 dX12_evening_8 (by decide) (fun r8 e8 => ?_)
    refine q_callS3 zm_RX12_138 dX12_evening_11 (Nat.le_of_ble_eq_true rfl) (Nat.le_of_ble_eq_true rfl) (Nat.le_of_ble_eq_true rfl) (Nat.le_of_ble_eq_true rfl) (Nat.le_of_ble_eq_true rfl) (s_X12_within G  (fun r11 e11_z => ?_))
    refine t_ifne (t := 23) dX12_evening_14 (by decide) (fun h14 => ?_) (fun h14 => False.elim (by omega))
    refine r_aloadR0 dX12_evening_23 ?_
    refine r_iload1 dX12_evening_24 ?_
    refine m_putI zf_RX12_405 (by intro C T N h_z; cases h_z; rfl) rfl dX12_evening_25 (shM_k hs) ?_
    obtain ⟨g25, hg25⟩ : ∃ g9, g9 = zu g2 A 24 x := ⟨_, rfl⟩
    rw [← hg25]
    have og25 : frM A [] [24] g2 g25 := by rw [hg25]; exact frM_zk frM_rf (by decide)
    have vg25 : g25 A 24 = x := by rw [hg25]; exact zu_at
    have vt25 : (g25 A 24).toInt = x.toInt := by rw [vg25]
    have hk25 : ctKn (g25 (A + 1)) T := by rw [og25.2.1 1 (by decide) (by decide) (by decide)]; exact hk2
    have hth25 : (g25 A 4).toInt = 0 := by rw [og25.2.2 4 (by decide), vg2]; exact e1_z
    have lp : ∀ (mz : Nat) (v : Int32) (c : Int32) (k : Nat) (n : Nat) (f2_z : Nat → Nat → Int32) (s : Int32) (T2 : zTb) (v5_ : Option Value), c.toInt = (k : Nat) → k ≤ y.toInt.toNat → v.toInt = (n : Nat) ∧ n ≤ k → f2_z A 24 = s → frM A [1, 6] [24] g25 f2_z → ctKn (f2_z (A + 1)) T2 → wfT T2 → (eveW y.toInt.toNat x T 0) = eveW (y.toInt.toNat - k) s T2 n → y.toInt.toNat - k < mz → zR (zV g 6 yX12_evening 6 (some .int) (0, 0) Q QX) cX12_evening yX12_evening.cls 33 [some (.ref A), some (.int x), some (.int y), some (.int v), some (.int c), v5_] [] (zM w f2_z j) (0, 0) := by
      intro mz
      induction mz with
      | zero =>
        intro v c k n f2_z s T2 v5_ hck hk30 hnk h24 ho hk2 hw2 hj hmz
        exact absurd hmz (Nat.not_lt_zero _)
      | succ mz ih =>
        intro v c k n f2_z s T2 v5_ hck hk30 hnk h24 ho hk2 hw2 hj hmz
        have hn30 : n ≤ n := Nat.le_refl _
        have hn62 : tbC T2 ≤ 6 := hw2.2.1
        rcases Nat.lt_or_ge k y.toInt.toNat with hkl | hkl
        · have hev : eveW (y.toInt.toNat - k) s T2 n = if hinI (tbC T2) T2.2.2.1 ((drwD s).1 : Nat) = 0 then eveW (y.toInt.toNat - (k + 1)) (drwD s).2 (tbDo T2 (drwD s).1) (n + 1) else eveW (y.toInt.toNat - (k + 1)) (drwD s).2 T2 n := by
            rw [show y.toInt.toNat - k = (y.toInt.toNat - (k + 1)) + 1 by omega]; rfl
          by_cases hh : hinI (tbC T2) T2.2.2.1 ((drwD s).1 : Nat) = 0
          · rw [if_pos hh] at hev
            have hok2 := hinI_ok hh (by omega) hn62
            rw [Int.toNat_natCast] at hok2
            refine r_iload4 dX12_evening_33 ?_
            refine r_iload2 dX12_evening_35 ?_
            refine t_icge (t := 82) dX12_evening_36 (by decide) (fun h36 => False.elim (by omega)) (fun h36 => ?_)
            refine r_aloadR0 dX12_evening_39 ?_
            refine r_aloadR0 dX12_evening_40 ?_
            refine n_iconst dX12_evening_41 (by decide) (fun r41 e41_z => ?_)
            refine q_callV1 zm_RX12_410 dX12_evening_42 (shM_k hs) (by decide) rfl (Nat.le_of_ble_eq_true rfl) (Nat.le_of_ble_eq_true rfl) (Nat.le_of_ble_eq_true rfl) (Nat.le_of_ble_eq_true rfl) (Nat.le_of_ble_eq_true rfl) (s_X12_draw (mm := 4) G hs e41_z (by decide) (fun r42 g42 e42_z q42 o42 => ?_))
            rw [h24] at e42_z q42
            refine q_callV1 zm_RX12_413 dX12_evening_45 (shM_k hs) (by decide) rfl (Nat.le_of_ble_eq_true rfl) (Nat.le_of_ble_eq_true rfl) (Nat.le_of_ble_eq_true rfl) (Nat.le_of_ble_eq_true rfl) (Nat.le_of_ble_eq_true rfl) (s_X12_drawn (s := s) G hs q42 e42_z (fun r45 g45 e45 q45 o45 => ?_))
            have hb45 := drwD_bd (s := s)
            have hk45 : ctKn (g45 (A + 1)) T2 := by rw [o45.2.1 1 (by decide) (by decide) (by decide), o42.2.1 1 (by decide) (by decide) (by decide)]; exact hk2
            refine r_istore5 dX12_evening_48 rfl ?_
            refine r_aloadR0 dX12_evening_50 ?_
            refine r_iload5 dX12_evening_51 ?_
            refine n_i2l dX12_evening_53 (fun r53 e53 => ?_)
            refine q_callV1 zm_RX12_395 dX12_evening_54 (shM_k hs) (by decide) rfl (Nat.le_of_ble_eq_true rfl) (Nat.le_of_ble_eq_true rfl) (Nat.le_of_ble_eq_true rfl) (Nat.le_of_ble_eq_true rfl) (Nat.le_of_ble_eq_true rfl) (s_X12_whyTold (T := T2) G hs hk45 hw2 (fun r54 g54 e54 o54 => ?_))
            rw [show r53.toInt = ((drwD s).1 : Nat) by omega] at e54
            have hk54 : ctKn (g54 (A + 1)) T2 := by rw [o54.2.1 1 (by decide) (by decide) (by decide)]; exact hk45
            have o5x : frM A [1, 6] [24] f2_z g54 := frM_tr (frM_su o42 (by decide) (by decide)) (frM_tr (frM_su o45 (by decide) (by decide)) (frM_su o54 (by decide) (by decide)))
            have q54 : g54 A 24 = (drwD s).2 := by rw [o54.2.2 24 (by decide)]; exact q45
            refine t_ifeq (t := 63) dX12_evening_57 (by decide) (fun h57 => ?_) (fun h57 => False.elim (by omega))
            refine r_aloadR0 dX12_evening_63 ?_
            refine q_callV0 zm_RX12_362 dX12_evening_64 (shM_k hs) (by decide) rfl (Nat.le_of_ble_eq_true rfl) (Nat.le_of_ble_eq_true rfl) (Nat.le_of_ble_eq_true rfl) (Nat.le_of_ble_eq_true rfl) (Nat.le_of_ble_eq_true rfl) (s_X12_keeps (T := T2) G hs hk54 hw2 (fun g64 o64 c64 => ?_))
            refine r_aloadR0 dX12_evening_67 ?_
            refine r_iload5 dX12_evening_68 ?_
            refine q_callV1 zm_RX12_398 dX12_evening_70 (shM_k hs) (by decide) rfl (Nat.le_of_ble_eq_true rfl) (Nat.le_of_ble_eq_true rfl) (Nat.le_of_ble_eq_true rfl) (Nat.le_of_ble_eq_true rfl) (Nat.le_of_ble_eq_true rfl) (s_X12_does (T := tbKp T2) (d := (drwD s).1) G hs c64 (wfT_kp hw2) hok2.2 e45 (fun h9 => hinI_un hh (by omega)) (fun g70 o70 p70 c70 => ?_))
            refine n_iinc3 dX12_evening_73 (by decide) rfl (by omega) (fun r73 e73 => ?_)
            refine n_iinc4 dX12_evening_76 (by decide) rfl (by omega) (fun r76 e76 => ?_)
            refine r_goto (t := 33) dX12_evening_79 (by decide) ?_
            exact ih _ _ (k + 1) (n + 1) g70 _ (tbDo T2 (drwD s).1) _ (by omega) (by omega) (by omega) (by rw [o70.2.2 24 (by decide), o64.2.2 24 (by decide)]; exact q54) (frM_tr ho (frM_tr o5x (frM_tr (frM_su o64 (by decide) (by decide)) (frM_su o70 (by decide) (by decide))))) c70 (wfT_do hw2 hok2.2) (hj.trans hev) (by omega)
          · rw [if_neg hh] at hev
            have hh2 : ∀ r : Int32, r.toInt = hinI (tbC T2) T2.2.2.1 ((drwD s).1 : Nat) → r.toInt ≠ 0 := fun r e9_z => by rw [e9_z]; exact hh
            refine r_iload4 dX12_evening_33 ?_
            refine r_iload2 dX12_evening_35 ?_
            refine t_icge (t := 82) dX12_evening_36 (by decide) (fun h36 => False.elim (by omega)) (fun h36 => ?_)
            refine r_aloadR0 dX12_evening_39 ?_
            refine r_aloadR0 dX12_evening_40 ?_
            refine n_iconst dX12_evening_41 (by decide) (fun r41 e41_z => ?_)
            refine q_callV1 zm_RX12_410 dX12_evening_42 (shM_k hs) (by decide) rfl (Nat.le_of_ble_eq_true rfl) (Nat.le_of_ble_eq_true rfl) (Nat.le_of_ble_eq_true rfl) (Nat.le_of_ble_eq_true rfl) (Nat.le_of_ble_eq_true rfl) (s_X12_draw (mm := 4) G hs e41_z (by decide) (fun r42 g42 e42_z q42 o42 => ?_))
            rw [h24] at e42_z q42
            refine q_callV1 zm_RX12_413 dX12_evening_45 (shM_k hs) (by decide) rfl (Nat.le_of_ble_eq_true rfl) (Nat.le_of_ble_eq_true rfl) (Nat.le_of_ble_eq_true rfl) (Nat.le_of_ble_eq_true rfl) (Nat.le_of_ble_eq_true rfl) (s_X12_drawn (s := s) G hs q42 e42_z (fun r45 g45 e45 q45 o45 => ?_))
            have hb45 := drwD_bd (s := s)
            have hk45 : ctKn (g45 (A + 1)) T2 := by rw [o45.2.1 1 (by decide) (by decide) (by decide), o42.2.1 1 (by decide) (by decide) (by decide)]; exact hk2
            refine r_istore5 dX12_evening_48 rfl ?_
            refine r_aloadR0 dX12_evening_50 ?_
            refine r_iload5 dX12_evening_51 ?_
            refine n_i2l dX12_evening_53 (fun r53 e53 => ?_)
            refine q_callV1 zm_RX12_395 dX12_evening_54 (shM_k hs) (by decide) rfl (Nat.le_of_ble_eq_true rfl) (Nat.le_of_ble_eq_true rfl) (Nat.le_of_ble_eq_true rfl) (Nat.le_of_ble_eq_true rfl) (Nat.le_of_ble_eq_true rfl) (s_X12_whyTold (T := T2) G hs hk45 hw2 (fun r54 g54 e54 o54 => ?_))
            rw [show r53.toInt = ((drwD s).1 : Nat) by omega] at e54
            have hk54 : ctKn (g54 (A + 1)) T2 := by rw [o54.2.1 1 (by decide) (by decide) (by decide)]; exact hk45
            have o5x : frM A [1, 6] [24] f2_z g54 := frM_tr (frM_su o42 (by decide) (by decide)) (frM_tr (frM_su o45 (by decide) (by decide)) (frM_su o54 (by decide) (by decide)))
            have q54 : g54 A 24 = (drwD s).2 := by rw [o54.2.2 24 (by decide)]; exact q45
            refine t_ifeq (t := 63) dX12_evening_57 (by decide) (fun h57 => False.elim (hh2 _ e54 (by omega))) (fun h57 => ?_)
            refine r_goto (t := 76) dX12_evening_60 (by decide) ?_
            refine n_iinc4 dX12_evening_76 (by decide) rfl (by omega) (fun r76 e76 => ?_)
            refine r_goto (t := 33) dX12_evening_79 (by decide) ?_
            exact ih _ _ (k + 1) n g54 _ T2 _ (by omega) (by omega) (by omega) q54 (frM_tr ho o5x) hk54 hw2 (hj.trans hev) (by omega)
        · rw [show y.toInt.toNat - k = 0 by omega] at hj
          have hj2 : (eveW y.toInt.toNat x T 0) = (n, T2) := hj
          refine r_iload4 dX12_evening_33 ?_
          refine r_iload2 dX12_evening_35 ?_
          refine t_icge (t := 82) dX12_evening_36 (by decide) (fun h36 => ?_) (fun h36 => False.elim (by omega))
          refine r_iload3 dX12_evening_82 ?_
          refine r_iret dX12_evening_83 rfl (Nat.le_of_ble_eq_true rfl) (Nat.le_of_ble_eq_true rfl) ?_
          refine hQ hy _ f2_z (by rw [hj2]; exact hnk.1) (frM_tr (frM_su og2 (by decide) (by decide)) (frM_tr (frM_su og25 (by decide) (by decide)) (frM_su ho (by decide) (by decide)))) (by rw [ho.2.2 4 (by decide)]; exact hth25) ?_
          rw [hj2]; exact hk2
    refine n_iconst dX12_evening_28 (by decide) (fun r28 e28_z => ?_)
    refine r_istore3 dX12_evening_29 rfl ?_
    refine n_iconst dX12_evening_30 (by decide) (fun r30 e30 => ?_)
    refine r_istore4 dX12_evening_31 rfl ?_
    exact lp 31 _ _ 0 0 g25 x T _ (by omega) (by omega) (by omega) vg25 frM_rf hk25 hw (by rfl) (by omega)
  · refine r_aloadR0 dX12_evening_0 ?_
    refine n_iconst dX12_evening_1 (by decide) (fun r1 e1_z => ?_)
    refine m_putI zf_RX12_77 (by intro C T N h_z; cases h_z; rfl) rfl dX12_evening_2 (shM_k hs) ?_
    obtain ⟨g2, hg2⟩ : ∃ g9, g9 = zu f A 4 r1 := ⟨_, rfl⟩
    rw [← hg2]
    have og2 : frM A [] [4] f g2 := by rw [hg2]; exact frM_zk frM_rf (by decide)
    have vg2 : g2 A 4 = r1 := by rw [hg2]; exact zu_at
    have vt2 : (g2 A 4).toInt = r1.toInt := by rw [vg2]
    have hk2 : ctKn (g2 (A + 1)) T := by rw [og2.2.1 1 (by decide) (by decide) (by decide)]; exact hk
    refine r_iload2 dX12_evening_5 ?_
    refine n_i2l dX12_evening_6 (fun r6 e6_z => ?_)
    refine n_lconst (q := 1) dX12_evening_7 rfl (by decide) (fun r7 e7_z => ?_)
    refine n_ldc2 (n := 30) zk_RX12_408 dX12_evening_8 (by decide) (fun r8 e8 => ?_)
    refine q_callS3 zm_RX12_138 dX12_evening_11 (Nat.le_of_ble_eq_true rfl) (Nat.le_of_ble_eq_true rfl) (Nat.le_of_ble_eq_true rfl) (Nat.le_of_ble_eq_true rfl) (Nat.le_of_ble_eq_true rfl) (s_X12_within G  (fun r11 e11_z => ?_))
    refine t_ifne (t := 23) dX12_evening_14 (by decide) (fun h14 => False.elim (by omega)) (fun h14 => ?_)
    refine r_aloadR0 dX12_evening_17 ?_
    refine n_iconst dX12_evening_18 (by decide) (fun r18 e18_z => ?_)
    refine q_callV1 zm_RX12_244 dX12_evening_19 (shM_k hs) (by decide) rfl (Nat.le_of_ble_eq_true rfl) (Nat.le_of_ble_eq_true rfl) (Nat.le_of_ble_eq_true rfl) (Nat.le_of_ble_eq_true rfl) (Nat.le_of_ble_eq_true rfl) (s_X12_fails G hs (fun r19 g19 e19_z o19 v19 => ?_))
    refine r_iret dX12_evening_22 rfl (Nat.le_of_ble_eq_true rfl) (Nat.le_of_ble_eq_true rfl) ?_
    exact hT1 hy _ g19 (frM_tr (frM_su og2 (by decide) (by decide)) (frM_su o19 (by decide) (by decide))) (by rw [v19]; exact e18_z)
