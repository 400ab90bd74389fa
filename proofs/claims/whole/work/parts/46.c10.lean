/-! the class: judge, perform -/
theorem tb_wf {w : zW} {f : Nat → Nat → Int32} {X a : Nat} {T : zTb} (h_z : tbAt w f X a T) : wfT T := by
  obtain ⟨nq, pp, g0, p0, hnq, hna0, hpp, hctb, hpast, hwf⟩ := h_z
  exact hwf
theorem judR_mk {v : Int} {k n : Nat} {M : zMo} {y : Int} : judR (v, k, M) n y = if y = 0 then (if v = 0 then -1 else ((k : Nat) : Int) - 1) else if y = 1 then v else if y = 2 then ((layM n M.2).length : Nat) else (M.2.length : Nat) := rfl
set_option maxHeartbeats 4000000 in
set_option maxRecDepth 100000 in
theorem s_X11_judge {g : zGT} {w : zW} {f : Nat → Nat → Int32} {j : Nat → Nat → Int64} {X : Nat} {T : zTb} {x y : Int32} {ty : Nat → zTy} {Q : Option Value → zW → Prop} {QX : String → zW → Prop} (G : zGok g) (hx : shX w X) (ht : tbAt w f X (X + 11) T) (hty : ∀ i, i < 4 → ctTr f j (X + 231 + 2 * i) (ty i)) (hXNE : ¬ (0 ≤ x.toInt ∧ x.toInt < 4) → ∀ n, zS w ≤ n → QX "java/util/NoSuchElementException" (zsS (zM w f j) n)) (hXIS : (0 ≤ x.toInt ∧ x.toInt < 4) → ty x.toInt.toNat = none → ∀ n, zS w ≤ n → QX "java/lang/IllegalStateException" (zsS (zM w f j) n)) (hXIA : (0 ≤ x.toInt ∧ x.toInt < 4) → ty x.toInt.toNat ≠ none → ¬ (0 ≤ y.toInt ∧ y.toInt ≤ 3) → ∀ n, zS w ≤ n → QX "java/lang/IllegalArgumentException" (zsS (zM w f j) n)) (hQ : (0 ≤ x.toInt ∧ x.toInt < 4) → ∀ s l, ty x.toInt.toNat = some (s, l) → (0 ≤ y.toInt ∧ y.toInt ≤ 3) → ∀ (r : Int32) f2_z, r.toInt = judR (judW (tbC T) T.2.2.1 l 0) (tbC T) y.toInt → qX X f f2_z → Q (some (.int r)) (zM w f2_z j)) : zC g 8 yX11_judge cX11_judge 6 (some .int) [.ref X, .int x, .int y] (zM w f j) (3, 18) Q QX := by
  refine zC_of G (by decide +kernel) (Nat.le_of_ble_eq_true rfl) ?_
  have ht0 := ht
  obtain ⟨nq, pp, g0, p0, hnq, hna0, hpp, hctb, hpast, hwf⟩ := ht0
  have hna1 := hna0
  obtain ⟨hna, hcn, ⟨hz1, hz2, hz3⟩, hl1, hl2, hl3⟩ := hna0
  have hmo := hctb.2.2.1
  have hn6 : tbC T ≤ 6 := hwf.2.1
  have hg4 : tbG T ≤ 4 := hwf.2.2.1
  have hwm := hwf.2.2.2.2.2.2.2.1
  have hrt := wfT_rch hwf
  have hfl : (f (X + 11 + 7) 2).toInt = (T.2.2.1.2.length : Nat) := by rw [hmo.1]; have := hmo.2.1; exact zi_n (by omega)
  have hcells : (f nq 1).toInt = (tbC T : Nat) := by rw [hcn.2.1]; exact zi_n (n := tbC T) (by omega)
  have hgs : (f nq 2).toInt = (tbG T : Nat) := by rw [hcn.2.2.1]; exact zi_n (n := tbG T) (by omega)
  refine r_aloadR0 dX11_judge_0 ?_
  refine r_iload1 dX11_judge_1 ?_
  refine q_callV1 zm_RX11_280 dX11_judge_2 (shX_k (w := w) hx) (by decide) rfl (Nat.le_of_ble_eq_true rfl) (Nat.le_of_ble_eq_true rfl) (Nat.le_of_ble_eq_true rfl) (Nat.le_of_ble_eq_true rfl) (Nat.le_of_ble_eq_true rfl) (s_X11_trayThere G hx hty (fun hxx n hn => x_out (hXNE hxx n hn) (Nat.le_of_ble_eq_true rfl) (Nat.le_of_ble_eq_true rfl)) (fun hxx hyy n hn => x_out (hXIS hxx hyy n hn) (Nat.le_of_ble_eq_true rfl) (Nat.le_of_ble_eq_true rfl)) (fun hok s l hcs => ?_))
  have hxk : x.toInt.toNat < 4 := by omega
  have hct := hty _ hxk
  rw [hcs] at hct
  have lp : ∀ (mz : Nat) (v : Int32) (c : Int32) (k : Nat) (f2_z : Nat → Nat → Int32) (Mt : zMo), c.toInt = (k : Nat) → k ≤ l.length → (0 ≤ y.toInt ∧ y.toInt ≤ 3) → ofR f f2_z (X + 101) 3 → ctMo f2_z (X + 101) Mt → wfMo (tbC T) Mt → (v.toInt = 0 ∧ judW (tbC T) T.2.2.1 l 0 = judW (tbC T) Mt (l.drop k) k ∨ v.toInt ≠ 0 ∧ judW (tbC T) T.2.2.1 l 0 = (v.toInt, k, Mt)) → l.length - k < mz → zR (zV g 8 yX11_judge 6 (some .int) (3, 18) Q QX) cX11_judge yX11_judge.cls 46 [some (.ref X), some (.int x), some (.int y), some (.ref (X + 231 + 2 * x.toInt.toNat)), some (.int v), some (.int c)] [] (zM w f2_z j) (2, 12) := by
    intro mz
    induction mz with
    | zero =>
      intro v c k f2_z Mt hck hk hy3 ho hmt hwt hj hmz
      exact absurd hmz (Nat.not_lt_zero _)
    | succ mz ih =>
      intro v c k f2_z Mt hck hk hy3 ho hmt hwt hj hmz
      have hq2 : qX X f f2_z := qX_S (frS_R ho (by omega))
      have ht2 : tbAt w f2_z X (X + 11) T := tbAt_Q ht hq2.1
      have hct2 : ctTr f2_z j (X + 231 + 2 * x.toInt.toNat) (some (s, l)) := ctTr_of hct (ho _ (by omega)) rfl
      have hmany : (f2_z (X + 231 + 2 * x.toInt.toNat) 2).toInt = (l.length : Nat) := hct2.2.2.2.1
      have hl30 : l.length ≤ 30 := hct2.2.2.2.2.1
      have hfd : (f2_z (X + 101) 2).toInt = (Mt.2.length : Nat) := by rw [hmt.1]; exact zi_n (by have := hmt.2.1; omega)
      by_cases hv0 : v.toInt = 0
      · have hjw : judW (tbC T) T.2.2.1 l 0 = judW (tbC T) Mt (l.drop k) k := by
          rcases hj with ⟨_, h9⟩ | ⟨h9, _⟩
          · exact h9
          · exact absurd hv0 h9
        rcases Nat.lt_or_ge k l.length with hkl | hkl
        · obtain ⟨dd, hdd⟩ : ∃ dd, l[k]? = some dd := ⟨_, List.getElem?_eq_getElem hkl⟩
          rw [drop_cons9 hdd] at hjw
          refine r_iload5 dX11_judge_46 ?_
          refine r_aloadR3 dX11_judge_48 ?_
          refine m_getV (x := (f2_z (X + 231 + 2 * x.toInt.toNat) 2)) zf_RX11_289 rfl dX11_judge_49 (shTr_k (w := w) (shX_ty hx hxk).1) (rfl) ?_
          refine t_icge (t := 78) dX11_judge_52 (by decide) (fun h52 => False.elim (by omega)) (fun h52 => ?_)
          refine r_iload4 dX11_judge_55 ?_
          refine t_ifne (t := 78) dX11_judge_57 (by decide) (fun h57 => False.elim (by omega)) (fun h57 => ?_)
          refine r_aloadR0 dX11_judge_60 ?_
          refine r_aloadR3 dX11_judge_61 ?_
          refine r_iload5 dX11_judge_62 ?_
          refine q_callV1 zm_RX11_292 dX11_judge_64 (shTr_k (w := w) (shX_ty hx hxk).1) (by decide) rfl (Nat.le_of_ble_eq_true rfl) (Nat.le_of_ble_eq_true rfl) (Nat.le_of_ble_eq_true rfl) (Nat.le_of_ble_eq_true rfl) (Nat.le_of_ble_eq_true rfl) (s_X8_numberAt (k := k) (v := dd) G (shX_ty hx hxk).1 hct2 hck hdd (fun r64 e64 => ?_))
          refine q_callV1 zm_RX11_296 dX11_judge_67 (shX_k (w := w) hx) (by decide) rfl (Nat.le_of_ble_eq_true rfl) (Nat.le_of_ble_eq_true rfl) (Nat.le_of_ble_eq_true rfl) (Nat.le_of_ble_eq_true rfl) (Nat.le_of_ble_eq_true rfl) (s_X11_tryDeed (M := Mt) G hx ht2 hmt hwt (fun r67 f3_z e67 ho3 hm3 => ?_))
          refine r_istore4 dX11_judge_70 rfl ?_
          refine n_iinc5 dX11_judge_72 (by decide) rfl (by omega) (fun r72 e72_z => ?_)
          refine r_goto (t := 46) dX11_judge_75 (by decide) ?_
          rw [e64] at e67 hm3
          by_cases hh : hinI (tbC T) Mt dd = 0
          · have hjs : judW (tbC T) Mt (dd :: l.drop (k + 1)) k = judW (tbC T) (if dd = -1 then Mt else moDo Mt dd.toNat) (l.drop (k + 1)) (k + 1) := by
              show (if hinI (tbC T) Mt dd = 0 then _ else _) = _
              rw [if_pos hh]
            by_cases hd1 : dd = -1
            · rw [if_neg (fun h9 => h9.2 hd1)] at hm3
              rw [if_pos hd1] at hjs
              exact ih _ _ (k + 1) f3_z Mt (by omega) (by omega) hy3 (ofR_tr ho ho3) hm3 hwt (Or.inl ⟨by omega, hjw.trans hjs⟩) (by omega)
            · rw [if_pos ⟨hh, hd1⟩] at hm3
              rw [if_neg hd1] at hjs
              have hok := hinI_ok hh hd1 hn6
              exact ih _ _ (k + 1) f3_z _ (by omega) (by omega) hy3 (ofR_tr ho ho3) hm3 (wfMo_do hwt hn6 hok.2) (Or.inl ⟨by omega, hjw.trans hjs⟩) (by omega)
          · have hjs : judW (tbC T) Mt (dd :: l.drop (k + 1)) k = (hinI (tbC T) Mt dd, k + 1, Mt) := by
              show (if hinI (tbC T) Mt dd = 0 then _ else _) = _
              rw [if_neg hh]
            rw [if_neg (fun h9 => hh h9.1)] at hm3
            rw [← e67] at hjs
            exact ih _ _ (k + 1) f3_z Mt (by omega) (by omega) hy3 (ofR_tr ho ho3) hm3 hwt (Or.inr ⟨by omega, hjw.trans hjs⟩) (by omega)
        · have hfin : judW (tbC T) T.2.2.1 l 0 = (v.toInt, k, Mt) := by
            rw [hjw, List.drop_eq_nil_of_le (by omega), hv0]
            rfl
          refine r_iload5 dX11_judge_46 ?_
          refine r_aloadR3 dX11_judge_48 ?_
          refine m_getV (x := (f2_z (X + 231 + 2 * x.toInt.toNat) 2)) zf_RX11_289 rfl dX11_judge_49 (shTr_k (w := w) (shX_ty hx hxk).1) (rfl) ?_
          refine t_icge (t := 78) dX11_judge_52 (by decide) (fun h52 => ?_) (fun h52 => False.elim (by omega))
          refine r_iload2 dX11_judge_78 ?_
          refine n_tabC (k := 0) (t := 104) dX11_judge_79 (by decide) rfl (by decide) (fun h79_0 => ?_) (fun h79_0 => ?_)
          · refine r_iload4 dX11_judge_104 ?_
            refine t_ifne (t := 113) dX11_judge_106 (by decide) (fun h106 => ?_) (fun h106 => ?_)
            · refine r_iload5 dX11_judge_113 ?_
              refine n_iconst dX11_judge_115 (by decide) (fun r115 e115_z => ?_)
              refine n_isub dX11_judge_116 (by omega) (fun r116 e116 => ?_)
              refine r_iret dX11_judge_117 rfl (Nat.le_of_ble_eq_true rfl) (Nat.le_of_ble_eq_true rfl) ?_
              refine hQ hok s l hcs (by omega) _ f2_z ?_ hq2
              rw [hfin, judR_mk]
              first
                | (rw [if_pos (by omega), if_pos (by omega)]; first | done | omega)
                | (rw [if_pos (by omega), if_neg (by omega)]; first | done | omega)
                | (rw [if_neg (by omega), if_pos (by omega)]; first | done | omega)
                | (rw [if_neg (by omega), if_neg (by omega), if_pos (by omega)]; first | done | omega)
                | (rw [if_neg (by omega), if_neg (by omega), if_neg (by omega)]; first | done | omega)
            · refine n_iconst dX11_judge_109 (by decide) (fun r109 e109_z => ?_)
              refine r_goto (t := 117) dX11_judge_110 (by decide) ?_
              refine r_iret dX11_judge_117 rfl (Nat.le_of_ble_eq_true rfl) (Nat.le_of_ble_eq_true rfl) ?_
              refine hQ hok s l hcs (by omega) _ f2_z ?_ hq2
              rw [hfin, judR_mk]
              first
                | (rw [if_pos (by omega), if_pos (by omega)]; first | done | omega)
                | (rw [if_pos (by omega), if_neg (by omega)]; first | done | omega)
                | (rw [if_neg (by omega), if_pos (by omega)]; first | done | omega)
                | (rw [if_neg (by omega), if_neg (by omega), if_pos (by omega)]; first | done | omega)
                | (rw [if_neg (by omega), if_neg (by omega), if_neg (by omega)]; first | done | omega)
          refine n_tabC (k := 1) (t := 118) dX11_judge_79 (by decide) rfl (by decide) (fun h79_1 => ?_) (fun h79_1 => ?_)
          · refine r_iload4 dX11_judge_118 ?_
            refine r_iret dX11_judge_120 rfl (Nat.le_of_ble_eq_true rfl) (Nat.le_of_ble_eq_true rfl) ?_
            refine hQ hok s l hcs (by omega) _ f2_z ?_ hq2
            rw [hfin, judR_mk]
            first
              | (rw [if_pos (by omega), if_pos (by omega)]; first | done | omega)
              | (rw [if_pos (by omega), if_neg (by omega)]; first | done | omega)
              | (rw [if_neg (by omega), if_pos (by omega)]; first | done | omega)
              | (rw [if_neg (by omega), if_neg (by omega), if_pos (by omega)]; first | done | omega)
              | (rw [if_neg (by omega), if_neg (by omega), if_neg (by omega)]; first | done | omega)
          refine n_tabC (k := 2) (t := 121) dX11_judge_79 (by decide) rfl (by decide) (fun h79_2 => ?_) (fun h79_2 => ?_)
          · refine r_aloadR0 dX11_judge_121 ?_
            refine r_aloadR0 dX11_judge_122 ?_
            refine m_getR (q := (X + 101)) zf_RX11_77 rfl dX11_judge_123 (shX_k (w := w) hx) (shX_p14 hx) ?_
            refine q_callV1 zm_RX11_260 dX11_judge_126 (shX_k (w := w) hx) (by decide) rfl (Nat.le_of_ble_eq_true rfl) (Nat.le_of_ble_eq_true rfl) (Nat.le_of_ble_eq_true rfl) (Nat.le_of_ble_eq_true rfl) (Nat.le_of_ble_eq_true rfl) (s_X11_columnsOf (M := Mt) G hx ht2 (shX_tr hx) hmt hwt (fun r126 e126 => ?_))
            refine r_iret dX11_judge_129 rfl (Nat.le_of_ble_eq_true rfl) (Nat.le_of_ble_eq_true rfl) ?_
            refine hQ hok s l hcs (by omega) _ f2_z ?_ hq2
            rw [hfin, judR_mk]
            first
              | (rw [if_pos (by omega), if_pos (by omega)]; first | done | omega)
              | (rw [if_pos (by omega), if_neg (by omega)]; first | done | omega)
              | (rw [if_neg (by omega), if_pos (by omega)]; first | done | omega)
              | (rw [if_neg (by omega), if_neg (by omega), if_pos (by omega)]; first | done | omega)
              | (rw [if_neg (by omega), if_neg (by omega), if_neg (by omega)]; first | done | omega)
          refine n_tabD (t := 130) dX11_judge_79 (by decide) (by omega) ?_
          refine r_aloadR0 dX11_judge_130 ?_
          refine m_getR (q := (X + 101)) zf_RX11_77 rfl dX11_judge_131 (shX_k (w := w) hx) (shX_p14 hx) ?_
          refine m_getV (x := (f2_z (X + 101) 2)) zf_RX11_225 rfl dX11_judge_134 (shMo_k (shX_tr hx)) (rfl) ?_
          refine r_iret dX11_judge_137 rfl (Nat.le_of_ble_eq_true rfl) (Nat.le_of_ble_eq_true rfl) ?_
          refine hQ hok s l hcs (by omega) _ f2_z ?_ hq2
          rw [hfin, judR_mk]
          first
            | (rw [if_pos (by omega), if_pos (by omega)]; first | done | omega)
            | (rw [if_pos (by omega), if_neg (by omega)]; first | done | omega)
            | (rw [if_neg (by omega), if_pos (by omega)]; first | done | omega)
            | (rw [if_neg (by omega), if_neg (by omega), if_pos (by omega)]; first | done | omega)
            | (rw [if_neg (by omega), if_neg (by omega), if_neg (by omega)]; first | done | omega)
      · have hfin : judW (tbC T) T.2.2.1 l 0 = (v.toInt, k, Mt) := by
          rcases hj with ⟨h9, _⟩ | ⟨_, h9⟩
          · exact absurd h9 hv0
          · exact h9
        rcases Nat.lt_or_ge k l.length with hkl | hkl
        · refine r_iload5 dX11_judge_46 ?_
          refine r_aloadR3 dX11_judge_48 ?_
          refine m_getV (x := (f2_z (X + 231 + 2 * x.toInt.toNat) 2)) zf_RX11_289 rfl dX11_judge_49 (shTr_k (w := w) (shX_ty hx hxk).1) (rfl) ?_
          refine t_icge (t := 78) dX11_judge_52 (by decide) (fun h52 => False.elim (by omega)) (fun h52 => ?_)
          refine r_iload4 dX11_judge_55 ?_
          refine t_ifne (t := 78) dX11_judge_57 (by decide) (fun h57 => ?_) (fun h57 => False.elim (by omega))
          refine r_iload2 dX11_judge_78 ?_
          refine n_tabC (k := 0) (t := 104) dX11_judge_79 (by decide) rfl (by decide) (fun h79_0 => ?_) (fun h79_0 => ?_)
          · refine r_iload4 dX11_judge_104 ?_
            refine t_ifne (t := 113) dX11_judge_106 (by decide) (fun h106 => ?_) (fun h106 => ?_)
            · refine r_iload5 dX11_judge_113 ?_
              refine n_iconst dX11_judge_115 (by decide) (fun r115 e115_z => ?_)
              refine n_isub dX11_judge_116 (by omega) (fun r116 e116 => ?_)
              refine r_iret dX11_judge_117 rfl (Nat.le_of_ble_eq_true rfl) (Nat.le_of_ble_eq_true rfl) ?_
              refine hQ hok s l hcs (by omega) _ f2_z ?_ hq2
              rw [hfin, judR_mk]
              first
                | (rw [if_pos (by omega), if_pos (by omega)]; first | done | omega)
                | (rw [if_pos (by omega), if_neg (by omega)]; first | done | omega)
                | (rw [if_neg (by omega), if_pos (by omega)]; first | done | omega)
                | (rw [if_neg (by omega), if_neg (by omega), if_pos (by omega)]; first | done | omega)
                | (rw [if_neg (by omega), if_neg (by omega), if_neg (by omega)]; first | done | omega)
            · refine n_iconst dX11_judge_109 (by decide) (fun r109 e109_z => ?_)
              refine r_goto (t := 117) dX11_judge_110 (by decide) ?_
              refine r_iret dX11_judge_117 rfl (Nat.le_of_ble_eq_true rfl) (Nat.le_of_ble_eq_true rfl) ?_
              refine hQ hok s l hcs (by omega) _ f2_z ?_ hq2
              rw [hfin, judR_mk]
              first
                | (rw [if_pos (by omega), if_pos (by omega)]; first | done | omega)
                | (rw [if_pos (by omega), if_neg (by omega)]; first | done | omega)
                | (rw [if_neg (by omega), if_pos (by omega)]; first | done | omega)
                | (rw [if_neg (by omega), if_neg (by omega), if_pos (by omega)]; first | done | omega)
                | (rw [if_neg (by omega), if_neg (by omega), if_neg (by omega)]; first | done | omega)
          refine n_tabC (k := 1) (t := 118) dX11_judge_79 (by decide) rfl (by decide) (fun h79_1 => ?_) (fun h79_1 => ?_)
          · refine r_iload4 dX11_judge_118 ?_
            refine r_iret dX11_judge_120 rfl (Nat.le_of_ble_eq_true rfl) (Nat.le_of_ble_eq_true rfl) ?_
            refine hQ hok s l hcs (by omega) _ f2_z ?_ hq2
            rw [hfin, judR_mk]
            first
              | (rw [if_pos (by omega), if_pos (by omega)]; first | done | omega)
              | (rw [if_pos (by omega), if_neg (by omega)]; first | done | omega)
              | (rw [if_neg (by omega), if_pos (by omega)]; first | done | omega)
              | (rw [if_neg (by omega), if_neg (by omega), if_pos (by omega)]; first | done | omega)
              | (rw [if_neg (by omega), if_neg (by omega), if_neg (by omega)]; first | done | omega)
          refine n_tabC (k := 2) (t := 121) dX11_judge_79 (by decide) rfl (by decide) (fun h79_2 => ?_) (fun h79_2 => ?_)
          · refine r_aloadR0 dX11_judge_121 ?_
            refine r_aloadR0 dX11_judge_122 ?_
            refine m_getR (q := (X + 101)) zf_RX11_77 rfl dX11_judge_123 (shX_k (w := w) hx) (shX_p14 hx) ?_
            refine q_callV1 zm_RX11_260 dX11_judge_126 (shX_k (w := w) hx) (by decide) rfl (Nat.le_of_ble_eq_true rfl) (Nat.le_of_ble_eq_true rfl) (Nat.le_of_ble_eq_true rfl) (Nat.le_of_ble_eq_true rfl) (Nat.le_of_ble_eq_true rfl) (s_X11_columnsOf (M := Mt) G hx ht2 (shX_tr hx) hmt hwt (fun r126 e126 => ?_))
            refine r_iret dX11_judge_129 rfl (Nat.le_of_ble_eq_true rfl) (Nat.le_of_ble_eq_true rfl) ?_
            refine hQ hok s l hcs (by omega) _ f2_z ?_ hq2
            rw [hfin, judR_mk]
            first
              | (rw [if_pos (by omega), if_pos (by omega)]; first | done | omega)
              | (rw [if_pos (by omega), if_neg (by omega)]; first | done | omega)
              | (rw [if_neg (by omega), if_pos (by omega)]; first | done | omega)
              | (rw [if_neg (by omega), if_neg (by omega), if_pos (by omega)]; first | done | omega)
              | (rw [if_neg (by omega), if_neg (by omega), if_neg (by omega)]; first | done | omega)
          refine n_tabD (t := 130) dX11_judge_79 (by decide) (by omega) ?_
          refine r_aloadR0 dX11_judge_130 ?_
          refine m_getR (q := (X + 101)) zf_RX11_77 rfl dX11_judge_131 (shX_k (w := w) hx) (shX_p14 hx) ?_
          refine m_getV (x := (f2_z (X + 101) 2)) zf_RX11_225 rfl dX11_judge_134 (shMo_k (shX_tr hx)) (rfl) ?_
          refine r_iret dX11_judge_137 rfl (Nat.le_of_ble_eq_true rfl) (Nat.le_of_ble_eq_true rfl) ?_
          refine hQ hok s l hcs (by omega) _ f2_z ?_ hq2
          rw [hfin, judR_mk]
          first
            | (rw [if_pos (by omega), if_pos (by omega)]; first | done | omega)
            | (rw [if_pos (by omega), if_neg (by omega)]; first | done | omega)
            | (rw [if_neg (by omega), if_pos (by omega)]; first | done | omega)
            | (rw [if_neg (by omega), if_neg (by omega), if_pos (by omega)]; first | done | omega)
            | (rw [if_neg (by omega), if_neg (by omega), if_neg (by omega)]; first | done | omega)
        · refine r_iload5 dX11_judge_46 ?_
          refine r_aloadR3 dX11_judge_48 ?_
          refine m_getV (x := (f2_z (X + 231 + 2 * x.toInt.toNat) 2)) zf_RX11_289 rfl dX11_judge_49 (shTr_k (w := w) (shX_ty hx hxk).1) (rfl) ?_
          refine t_icge (t := 78) dX11_judge_52 (by decide) (fun h52 => ?_) (fun h52 => False.elim (by omega))
          refine r_iload2 dX11_judge_78 ?_
          refine n_tabC (k := 0) (t := 104) dX11_judge_79 (by decide) rfl (by decide) (fun h79_0 => ?_) (fun h79_0 => ?_)
          · refine r_iload4 dX11_judge_104 ?_
            refine t_ifne (t := 113) dX11_judge_106 (by decide) (fun h106 => ?_) (fun h106 => ?_)
            · refine r_iload5 dX11_judge_113 ?_
              refine n_iconst dX11_judge_115 (by decide) (fun r115 e115_z => ?_)
              refine n_isub dX11_judge_116 (by omega) (fun r116 e116 => ?_)
              refine r_iret dX11_judge_117 rfl (Nat.le_of_ble_eq_true rfl) (Nat.le_of_ble_eq_true rfl) ?_
              refine hQ hok s l hcs (by omega) _ f2_z ?_ hq2
              rw [hfin, judR_mk]
              first
                | (rw [if_pos (by omega), if_pos (by omega)]; first | done | omega)
                | (rw [if_pos (by omega), if_neg (by omega)]; first | done | omega)
                | (rw [if_neg (by omega), if_pos (by omega)]; first | done | omega)
                | (rw [if_neg (by omega), if_neg (by omega), if_pos (by omega)]; first | done | omega)
                | (rw [if_neg (by omega), if_neg (by omega), if_neg (by omega)]; first | done | omega)
            · refine n_iconst dX11_judge_109 (by decide) (fun r109 e109_z => ?_)
              refine r_goto (t := 117) dX11_judge_110 (by decide) ?_
              refine r_iret dX11_judge_117 rfl (Nat.le_of_ble_eq_true rfl) (Nat.le_of_ble_eq_true rfl) ?_
              refine hQ hok s l hcs (by omega) _ f2_z ?_ hq2
              rw [hfin, judR_mk]
              first
                | (rw [if_pos (by omega), if_pos (by omega)]; first | done | omega)
                | (rw [if_pos (by omega), if_neg (by omega)]; first | done | omega)
                | (rw [if_neg (by omega), if_pos (by omega)]; first | done | omega)
                | (rw [if_neg (by omega), if_neg (by omega), if_pos (by omega)]; first | done | omega)
                | (rw [if_neg (by omega), if_neg (by omega), if_neg (by omega)]; first | done | omega)
          refine n_tabC (k := 1) (t := 118) dX11_judge_79 (by decide) rfl (by decide) (fun h79_1 => ?_) (fun h79_1 => ?_)
          · refine r_iload4 dX11_judge_118 ?_
            refine r_iret dX11_judge_120 rfl (Nat.le_of_ble_eq_true rfl) (Nat.le_of_ble_eq_true rfl) ?_
            refine hQ hok s l hcs (by omega) _ f2_z ?_ hq2
            rw [hfin, judR_mk]
            first
              | (rw [if_pos (by omega), if_pos (by omega)]; first | done | omega)
              | (rw [if_pos (by omega), if_neg (by omega)]; first | done | omega)
              | (rw [if_neg (by omega), if_pos (by omega)]; first | done | omega)
              | (rw [if_neg (by omega), if_neg (by omega), if_pos (by omega)]; first | done | omega)
              | (rw [if_neg (by omega), if_neg (by omega), if_neg (by omega)]; first | done | omega)
          refine n_tabC (k := 2) (t := 121) dX11_judge_79 (by decide) rfl (by decide) (fun h79_2 => ?_) (fun h79_2 => ?_)
          · refine r_aloadR0 dX11_judge_121 ?_
            refine r_aloadR0 dX11_judge_122 ?_
            refine m_getR (q := (X + 101)) zf_RX11_77 rfl dX11_judge_123 (shX_k (w := w) hx) (shX_p14 hx) ?_
            refine q_callV1 zm_RX11_260 dX11_judge_126 (shX_k (w := w) hx) (by decide) rfl (Nat.le_of_ble_eq_true rfl) (Nat.le_of_ble_eq_true rfl) (Nat.le_of_ble_eq_true rfl) (Nat.le_of_ble_eq_true rfl) (Nat.le_of_ble_eq_true rfl) (s_X11_columnsOf (M := Mt) G hx ht2 (shX_tr hx) hmt hwt (fun r126 e126 => ?_))
            refine r_iret dX11_judge_129 rfl (Nat.le_of_ble_eq_true rfl) (Nat.le_of_ble_eq_true rfl) ?_
            refine hQ hok s l hcs (by omega) _ f2_z ?_ hq2
            rw [hfin, judR_mk]
            first
              | (rw [if_pos (by omega), if_pos (by omega)]; first | done | omega)
              | (rw [if_pos (by omega), if_neg (by omega)]; first | done | omega)
              | (rw [if_neg (by omega), if_pos (by omega)]; first | done | omega)
              | (rw [if_neg (by omega), if_neg (by omega), if_pos (by omega)]; first | done | omega)
              | (rw [if_neg (by omega), if_neg (by omega), if_neg (by omega)]; first | done | omega)
          refine n_tabD (t := 130) dX11_judge_79 (by decide) (by omega) ?_
          refine r_aloadR0 dX11_judge_130 ?_
          refine m_getR (q := (X + 101)) zf_RX11_77 rfl dX11_judge_131 (shX_k (w := w) hx) (shX_p14 hx) ?_
          refine m_getV (x := (f2_z (X + 101) 2)) zf_RX11_225 rfl dX11_judge_134 (shMo_k (shX_tr hx)) (rfl) ?_
          refine r_iret dX11_judge_137 rfl (Nat.le_of_ble_eq_true rfl) (Nat.le_of_ble_eq_true rfl) ?_
          refine hQ hok s l hcs (by omega) _ f2_z ?_ hq2
          rw [hfin, judR_mk]
          first
            | (rw [if_pos (by omega), if_pos (by omega)]; first | done | omega)
            | (rw [if_pos (by omega), if_neg (by omega)]; first | done | omega)
            | (rw [if_neg (by omega), if_pos (by omega)]; first | done | omega)
            | (rw [if_neg (by omega), if_neg (by omega), if_pos (by omega)]; first | done | omega)
            | (rw [if_neg (by omega), if_neg (by omega), if_neg (by omega)]; first | done | omega)
  refine r_astore3 dX11_judge_5 rfl ?_
  refine r_iload2 dX11_judge_6 ?_
  refine t_iflt (t := 15) dX11_judge_7 (by decide) (fun h7 => ?_) (fun h7 => ?_)
  · refine r_throwW zth_IA (List.mem_of_getElem? (i := 14) rfl) dX11_judge_15 dX11_judge_18 dX11_judge_19 dX11_judge_22 dX11_judge_25 (Nat.le_of_ble_eq_true rfl) (Nat.le_of_ble_eq_true rfl) (Nat.le_of_ble_eq_true rfl) (Nat.le_of_ble_eq_true rfl) ?_
    exact hXIA hok (by rw [hcs]; exact fun h9 => by cases h9) (by omega)
  · refine r_iload2 dX11_judge_10 ?_
    refine n_iconst dX11_judge_11 (by decide) (fun r11 e11_z => ?_)
    refine t_icle (t := 26) dX11_judge_12 (by decide) (fun h12 => ?_) (fun h12 => ?_)
    · refine r_aloadR0 dX11_judge_26 ?_
      refine m_getR (q := (X + 101)) zf_RX11_77 rfl dX11_judge_27 (shX_k (w := w) hx) (shX_p14 hx) ?_
      refine r_aloadR0 dX11_judge_30 ?_
      refine m_getR (q := (X + 11)) zf_RX11_33 rfl dX11_judge_31 (shX_k (w := w) hx) (shX_p5 hx) ?_
      refine m_getR (q := ((X + 11) + 7)) zf_RX11_138 rfl dX11_judge_34 (shTb_k (shX_tb hx)) (shTb_p1 (shX_tb hx)) ?_
      refine q_callV1 zm_RX11_286 dX11_judge_37 (shMo_k (shX_tr hx)) (by decide) rfl (Nat.le_of_ble_eq_true rfl) (Nat.le_of_ble_eq_true rfl) (Nat.le_of_ble_eq_true rfl) (Nat.le_of_ble_eq_true rfl) (Nat.le_of_ble_eq_true rfl) (s_X3_take (w := zM w f j) (M := T.2.2.1) G (shX_tr hx) (shTb_mo (shX_tb hx)) hmo (by omega) (fun f1_z ho1 hc1 => ?_))
      show zR _ _ _ _ _ _ (zM w f1_z j) _
      refine n_iconst dX11_judge_40 (by decide) (fun r40 e40 => ?_)
      refine r_istore4 dX11_judge_41 rfl ?_
      refine n_iconst dX11_judge_43 (by decide) (fun r43 e43 => ?_)
      refine r_istore5 dX11_judge_44 rfl ?_
      exact lp 31 r40 r43 0 f1_z T.2.2.1 (by omega) (by omega) (by omega) ho1 hc1 hwm (Or.inl ⟨by omega, rfl⟩) (by have h30 : l.length ≤ 30 := hct.2.2.2.2.1; omega)
    · refine r_throwW zth_IA (List.mem_of_getElem? (i := 14) rfl) dX11_judge_15 dX11_judge_18 dX11_judge_19 dX11_judge_22 dX11_judge_25 (Nat.le_of_ble_eq_true rfl) (Nat.le_of_ble_eq_true rfl) (Nat.le_of_ble_eq_true rfl) (Nat.le_of_ble_eq_true rfl) ?_
      exact hXIA hok (by rw [hcs]; exact fun h9 => by cases h9) (by omega)
theorem perW_s {T : zTb} {d : Int} {l : List Int} {k : Nat} : perW T (d :: l) k = if hinI (tbC T) T.2.2.1 d = 0 then perW (if d = -1 then T else tbDo T d.toNat) l (k + 1) else (k, T) := rfl
set_option maxHeartbeats 4000000 in
set_option maxRecDepth 100000 in
theorem s_X11_perform {g : zGT} {w : zW} {f : Nat → Nat → Int32} {j : Nat → Nat → Int64} {X : Nat} {T : zTb} {x : Int32} {ty : Nat → zTy} {Q : Option Value → zW → Prop} {QX : String → zW → Prop} (G : zGok g) (hx : shX w X) (ht : tbAt w f X (X + 11) T) (hty : ∀ i, i < 4 → ctTr f j (X + 231 + 2 * i) (ty i)) (hXNE : ¬ (0 ≤ x.toInt ∧ x.toInt < 4) → ∀ n, zS w ≤ n → QX "java/util/NoSuchElementException" (zsS (zM w f j) n)) (hXIS : (0 ≤ x.toInt ∧ x.toInt < 4) → ty x.toInt.toNat = none → ∀ n, zS w ≤ n → QX "java/lang/IllegalStateException" (zsS (zM w f j) n)) (hQ : (0 ≤ x.toInt ∧ x.toInt < 4) → ∀ s l, ty x.toInt.toNat = some (s, l) → ∀ (r : Int32) P2 f2_z, r.toInt = ((perW T l 0).1 : Nat) → stX w P2 f f2_z X ((perW T l 0).2) → Q (some (.int r)) (zM (zsP w P2) f2_z j)) : zC g 8 yX11_perform cX11_perform 6 (some .int) [.ref X, .int x] (zM w f j) (2, 12) Q QX := by
  refine zC_of G (by decide +kernel) (Nat.le_of_ble_eq_true rfl) ?_
  have ht0 := ht
  obtain ⟨nq, pp, g0, p0, hnq, hna0, hpp, hctb, hpast, hwf⟩ := ht0
  have hna1 := hna0
  obtain ⟨hna, hcn, ⟨hz1, hz2, hz3⟩, hl1, hl2, hl3⟩ := hna0
  have hmo := hctb.2.2.1
  have hn6 : tbC T ≤ 6 := hwf.2.1
  have hg4 : tbG T ≤ 4 := hwf.2.2.1
  have hwm := hwf.2.2.2.2.2.2.2.1
  have hrt := wfT_rch hwf
  have hfl : (f (X + 11 + 7) 2).toInt = (T.2.2.1.2.length : Nat) := by rw [hmo.1]; have := hmo.2.1; exact zi_n (by omega)
  have hcells : (f nq 1).toInt = (tbC T : Nat) := by rw [hcn.2.1]; exact zi_n (n := tbC T) (by omega)
  have hgs : (f nq 2).toInt = (tbG T : Nat) := by rw [hcn.2.2.1]; exact zi_n (n := tbG T) (by omega)
  refine r_aloadR0 dX11_perform_0 ?_
  refine r_iload1 dX11_perform_1 ?_
  refine q_callV1 zm_RX11_280 dX11_perform_2 (shX_k (w := w) hx) (by decide) rfl (Nat.le_of_ble_eq_true rfl) (Nat.le_of_ble_eq_true rfl) (Nat.le_of_ble_eq_true rfl) (Nat.le_of_ble_eq_true rfl) (Nat.le_of_ble_eq_true rfl) (s_X11_trayThere G hx hty (fun hxx n hn => x_out (hXNE hxx n hn) (Nat.le_of_ble_eq_true rfl) (Nat.le_of_ble_eq_true rfl)) (fun hxx hyy n hn => x_out (hXIS hxx hyy n hn) (Nat.le_of_ble_eq_true rfl) (Nat.le_of_ble_eq_true rfl)) (fun hok s l hcs => ?_))
  have hxk : x.toInt.toNat < 4 := by omega
  have hct := hty _ hxk
  rw [hcs] at hct
  have lp : ∀ (mz : Nat) (c : Int32) (k : Nat) (P2 : Nat → Nat → Option Nat) (f2_z : Nat → Nat → Int32) (T2 : zTb) (v4_ : Option Value) (v5_ : Option Value), c.toInt = (k : Nat) → k ≤ l.length → stX w P2 f f2_z X T2 → perW T l 0 = perW T2 (l.drop k) k → l.length - k < mz → zR (zV g 8 yX11_perform 6 (some .int) (2, 12) Q QX) cX11_perform yX11_perform.cls 8 [some (.ref X), some (.int x), some (.ref (X + 231 + 2 * x.toInt.toNat)), some (.int c), v4_, v5_] [] (zM (zsP w P2) f2_z j) (2, 12) := by
    intro mz
    induction mz with
    | zero =>
      intro c k P2 f2_z T2 v4_ v5_ hck hk hst hj hmz
      exact absurd hmz (Nat.not_lt_zero _)
    | succ mz ih =>
      intro c k P2 f2_z T2 v4_ v5_ hck hk hst hj hmz
      have hx2 : shX (zsP w P2) X := shX_P1 hx hst.1
      have ht2 := hst.2.2
      obtain ⟨hmo2, hwm2⟩ := tb_mo ht2
      have hct2 : ctTr f2_z j (X + 231 + 2 * x.toInt.toNat) (some (s, l)) := ctTr_of hct (hst.2.1 _ (by omega)) rfl
      have hmany : (f2_z (X + 231 + 2 * x.toInt.toNat) 2).toInt = (l.length : Nat) := hct2.2.2.2.1
      have hl30 : l.length ≤ 30 := hct2.2.2.2.2.1
      have hn62 : tbC T2 ≤ 6 := (tb_wf ht2).2.1
      rcases Nat.lt_or_ge k l.length with hkl | hkl
      · obtain ⟨dd, hdd⟩ : ∃ dd, l[k]? = some dd := ⟨_, List.getElem?_eq_getElem hkl⟩
        rw [drop_cons9 hdd, perW_s] at hj
        by_cases hh : hinI (tbC T2) T2.2.2.1 dd = 0
        · rw [if_pos hh] at hj
          by_cases hd1 : dd = -1
          · rw [if_pos hd1] at hj
            refine r_iload3 dX11_perform_8 ?_
            refine r_aloadR2 dX11_perform_9 ?_
            refine m_getV (x := (f2_z (X + 231 + 2 * x.toInt.toNat) 2)) zf_RX11_289 rfl dX11_perform_10 (shTr_k (w := w) (shX_ty hx hxk).1) (rfl) ?_
            refine t_icge (t := 63) dX11_perform_13 (by decide) (fun h13 => False.elim (by omega)) (fun h13 => ?_)
            refine r_aloadR2 dX11_perform_16 ?_
            refine r_iload3 dX11_perform_17 ?_
            refine q_callV1 zm_RX11_292 dX11_perform_18 (shTr_k (w := w) (shX_ty hx hxk).1) (by decide) rfl (Nat.le_of_ble_eq_true rfl) (Nat.le_of_ble_eq_true rfl) (Nat.le_of_ble_eq_true rfl) (Nat.le_of_ble_eq_true rfl) (Nat.le_of_ble_eq_true rfl) (s_X8_numberAt (w := zsP w P2) (k := k) (v := dd) G (shX_ty hx2 hxk).1 hct2 hck hdd (fun r18 e18_z => ?_))
            refine r_lstore4 dX11_perform_21 rfl ?_
            refine r_aloadR0 dX11_perform_23 ?_
            refine r_aloadR0 dX11_perform_24 ?_
            refine m_getR (q := (X + 11)) zf_RX11_33 rfl dX11_perform_25 (shX_k (w := w) hx) (shX_p5 hx2) ?_
            refine m_getR (q := (X + 11 + 7)) zf_RX11_138 rfl dX11_perform_28 (shTb_k (shX_tb hx2)) (shTb_p1 (shX_tb hx2)) ?_
            refine r_lload4 dX11_perform_31 ?_
            refine q_callV2 zm_RX11_300 dX11_perform_33 (shX_k (w := w) hx) (by decide) rfl (Nat.le_of_ble_eq_true rfl) (Nat.le_of_ble_eq_true rfl) (Nat.le_of_ble_eq_true rfl) (Nat.le_of_ble_eq_true rfl) (Nat.le_of_ble_eq_true rfl) (s_X11_hindrance (w := zsP w P2) (M := T2.2.2.1) G hx2 ht2 (shTb_mo (shX_tb hx2)) hmo2 hwm2 (fun r33 e33_z => ?_))
            rw [e18_z] at e33_z
            refine t_ifeq (t := 41) dX11_perform_36 (by decide) (fun h36 => ?_) (fun h36 => False.elim (by omega))
            refine r_lload4 dX11_perform_41 ?_
            refine n_ldc2 (n := -1) zk_RX11_304 dX11_perform_43 (by decide) (fun r43 e43 => ?_)
            refine n_lcmp dX11_perform_46 (fun r46 e46 => ?_)
            unfold zcmp at e46
            refine t_ifeq (t := 57) dX11_perform_47 (by decide) (fun h47 => ?_) (fun h47 => False.elim (by omega))
            refine n_iinc3 dX11_perform_57 (by decide) rfl (by omega) (fun r57 e57 => ?_)
            refine r_goto (t := 8) dX11_perform_60 (by decide) ?_
            exact ih _ (k + 1) P2 f2_z T2 _ _ (by omega) (by omega) hst hj (by omega)
          · rw [if_neg hd1] at hj
            have hok2 := hinI_ok hh hd1 hn62
            have hch := okD_ch hok2.2 hwm2 hn62
            have hch1 := hch.1
            refine r_iload3 dX11_perform_8 ?_
            refine r_aloadR2 dX11_perform_9 ?_
            refine m_getV (x := (f2_z (X + 231 + 2 * x.toInt.toNat) 2)) zf_RX11_289 rfl dX11_perform_10 (shTr_k (w := w) (shX_ty hx hxk).1) (rfl) ?_
            refine t_icge (t := 63) dX11_perform_13 (by decide) (fun h13 => False.elim (by omega)) (fun h13 => ?_)
            refine r_aloadR2 dX11_perform_16 ?_
            refine r_iload3 dX11_perform_17 ?_
            refine q_callV1 zm_RX11_292 dX11_perform_18 (shTr_k (w := w) (shX_ty hx hxk).1) (by decide) rfl (Nat.le_of_ble_eq_true rfl) (Nat.le_of_ble_eq_true rfl) (Nat.le_of_ble_eq_true rfl) (Nat.le_of_ble_eq_true rfl) (Nat.le_of_ble_eq_true rfl) (s_X8_numberAt (w := zsP w P2) (k := k) (v := dd) G (shX_ty hx2 hxk).1 hct2 hck hdd (fun r18 e18_z => ?_))
            refine r_lstore4 dX11_perform_21 rfl ?_
            refine r_aloadR0 dX11_perform_23 ?_
            refine r_aloadR0 dX11_perform_24 ?_
            refine m_getR (q := (X + 11)) zf_RX11_33 rfl dX11_perform_25 (shX_k (w := w) hx) (shX_p5 hx2) ?_
            refine m_getR (q := (X + 11 + 7)) zf_RX11_138 rfl dX11_perform_28 (shTb_k (shX_tb hx2)) (shTb_p1 (shX_tb hx2)) ?_
            refine r_lload4 dX11_perform_31 ?_
            refine q_callV2 zm_RX11_300 dX11_perform_33 (shX_k (w := w) hx) (by decide) rfl (Nat.le_of_ble_eq_true rfl) (Nat.le_of_ble_eq_true rfl) (Nat.le_of_ble_eq_true rfl) (Nat.le_of_ble_eq_true rfl) (Nat.le_of_ble_eq_true rfl) (s_X11_hindrance (w := zsP w P2) (M := T2.2.2.1) G hx2 ht2 (shTb_mo (shX_tb hx2)) hmo2 hwm2 (fun r33 e33_z => ?_))
            rw [e18_z] at e33_z
            refine t_ifeq (t := 41) dX11_perform_36 (by decide) (fun h36 => ?_) (fun h36 => False.elim (by omega))
            refine r_lload4 dX11_perform_41 ?_
            refine n_ldc2 (n := -1) zk_RX11_304 dX11_perform_43 (by decide) (fun r43 e43 => ?_)
            refine n_lcmp dX11_perform_46 (fun r46 e46 => ?_)
            unfold zcmp at e46
            refine t_ifeq (t := 57) dX11_perform_47 (by decide) (fun h47 => False.elim (by omega)) (fun h47 => ?_)
            refine r_aloadR0 dX11_perform_50 ?_
            refine r_lload4 dX11_perform_51 ?_
            refine n_l2i dX11_perform_53 (by omega) (fun r53 e53 => ?_)
            refine q_callV1 zm_RX11_264 dX11_perform_54 (shX_k (w := w) hx) (by decide) rfl (Nat.le_of_ble_eq_true rfl) (Nat.le_of_ble_eq_true rfl) (Nat.le_of_ble_eq_true rfl) (Nat.le_of_ble_eq_true rfl) (Nat.le_of_ble_eq_true rfl) (s_X11_doDeed (w := zsP w P2) G hx2 ht2 (by omega) (by rw [show r53.toInt.toNat = dd.toNat by omega]; exact hok2.2) (fun P3 f3_z hst3 => ?_))
            rw [show r53.toInt.toNat = dd.toNat by omega] at hst3
            refine n_iinc3 dX11_perform_57 (by decide) rfl (by omega) (fun r57 e57 => ?_)
            refine r_goto (t := 8) dX11_perform_60 (by decide) ?_
            exact ih _ (k + 1) P3 f3_z _ _ _ (by omega) (by omega) (stX_tr hst hst3) hj (by omega)
        · rw [if_neg hh] at hj
          refine r_iload3 dX11_perform_8 ?_
          refine r_aloadR2 dX11_perform_9 ?_
          refine m_getV (x := (f2_z (X + 231 + 2 * x.toInt.toNat) 2)) zf_RX11_289 rfl dX11_perform_10 (shTr_k (w := w) (shX_ty hx hxk).1) (rfl) ?_
          refine t_icge (t := 63) dX11_perform_13 (by decide) (fun h13 => False.elim (by omega)) (fun h13 => ?_)
          refine r_aloadR2 dX11_perform_16 ?_
          refine r_iload3 dX11_perform_17 ?_
          refine q_callV1 zm_RX11_292 dX11_perform_18 (shTr_k (w := w) (shX_ty hx hxk).1) (by decide) rfl (Nat.le_of_ble_eq_true rfl) (Nat.le_of_ble_eq_true rfl) (Nat.le_of_ble_eq_true rfl) (Nat.le_of_ble_eq_true rfl) (Nat.le_of_ble_eq_true rfl) (s_X8_numberAt (w := zsP w P2) (k := k) (v := dd) G (shX_ty hx2 hxk).1 hct2 hck hdd (fun r18 e18_z => ?_))
          refine r_lstore4 dX11_perform_21 rfl ?_
          refine r_aloadR0 dX11_perform_23 ?_
          refine r_aloadR0 dX11_perform_24 ?_
          refine m_getR (q := (X + 11)) zf_RX11_33 rfl dX11_perform_25 (shX_k (w := w) hx) (shX_p5 hx2) ?_
          refine m_getR (q := (X + 11 + 7)) zf_RX11_138 rfl dX11_perform_28 (shTb_k (shX_tb hx2)) (shTb_p1 (shX_tb hx2)) ?_
          refine r_lload4 dX11_perform_31 ?_
          refine q_callV2 zm_RX11_300 dX11_perform_33 (shX_k (w := w) hx) (by decide) rfl (Nat.le_of_ble_eq_true rfl) (Nat.le_of_ble_eq_true rfl) (Nat.le_of_ble_eq_true rfl) (Nat.le_of_ble_eq_true rfl) (Nat.le_of_ble_eq_true rfl) (s_X11_hindrance (w := zsP w P2) (M := T2.2.2.1) G hx2 ht2 (shTb_mo (shX_tb hx2)) hmo2 hwm2 (fun r33 e33_z => ?_))
          rw [e18_z] at e33_z
          refine t_ifeq (t := 41) dX11_perform_36 (by decide) (fun h36 => False.elim (by omega)) (fun h36 => ?_)
          refine r_iload3 dX11_perform_39 ?_
          refine r_iret dX11_perform_40 rfl (Nat.le_of_ble_eq_true rfl) (Nat.le_of_ble_eq_true rfl) ?_
          refine hQ hok s l hcs _ P2 f2_z ?_ ?_
          · rw [hj]; exact hck
          · rw [hj]; exact hst
      · rw [List.drop_eq_nil_of_le (by omega)] at hj
        have hj2 : perW T l 0 = (k, T2) := hj
        refine r_iload3 dX11_perform_8 ?_
        refine r_aloadR2 dX11_perform_9 ?_
        refine m_getV (x := (f2_z (X + 231 + 2 * x.toInt.toNat) 2)) zf_RX11_289 rfl dX11_perform_10 (shTr_k (w := w) (shX_ty hx hxk).1) (rfl) ?_
        refine t_icge (t := 63) dX11_perform_13 (by decide) (fun h13 => ?_) (fun h13 => False.elim (by omega))
        refine r_aloadR2 dX11_perform_63 ?_
        refine m_getV (x := (f2_z (X + 231 + 2 * x.toInt.toNat) 2)) zf_RX11_289 rfl dX11_perform_64 (shTr_k (w := w) (shX_ty hx hxk).1) (rfl) ?_
        refine r_iret dX11_perform_67 rfl (Nat.le_of_ble_eq_true rfl) (Nat.le_of_ble_eq_true rfl) ?_
        refine hQ hok s l hcs _ P2 f2_z ?_ ?_
        · rw [hj2]; show _ = ((k : Nat) : Int); omega
        · rw [hj2]; exact hst
  refine r_astore2 dX11_perform_5 rfl ?_
  refine n_iconst dX11_perform_6 (by decide) (fun r6 e6_z => ?_)
  refine r_istore3 dX11_perform_7 rfl ?_
  exact lp 31 _ 0 (zP w) f T _ _ (by omega) (by omega) (stX_rf ht) rfl (by have h30 : l.length ≤ 30 := hct.2.2.2.2.1; omega)
