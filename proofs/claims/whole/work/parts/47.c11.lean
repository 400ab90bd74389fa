/-! the class: keepLikes, pleasesInView, refuse -/
def frK (X : Nat) (f f2_z : Nat → Nat → Int32) : Prop := ∀ q, ¬ (q = X + 55 ∨ q = X + 56 ∨ q = X + 105) → f2_z q = f q
theorem frK_tr {X : Nat} {f f2_z f3_z : Nat → Nat → Int32} (h_z : frK X f f2_z) (h2 : frK X f2_z f3_z) : frK X f f3_z := fun q hq => (h2 q hq).trans (h_z q hq)
theorem frK_Q {X : Nat} {f f2_z : Nat → Nat → Int32} (h_z : frK X f f2_z) : frQ X f f2_z := fun q hq => h_z q (by omega)
theorem frK_S {X : Nat} {f f2_z : Nat → Nat → Int32} (h_z : frK X f f2_z) : frS X f f2_z := fun q hq => h_z q (by omega)
def plA (K F : Nat → Int) : Nat → Bool
  | 0 => true
  | k + 1 => plA K F k && decide (K k ≤ F k)
def plE (K F : Nat → Int) : Nat → Bool
  | 0 => false
  | k + 1 => plE K F k || decide (K k < F k)
def plV (K F : Nat → Int) (n : Nat) : Int := if plA K F n = true ∧ plE K F n = true then 1 else 0
theorem plA_no {K F : Nat → Int} {i n : Nat} (hi_z : i < n) (h_z : F i < K i) : plA K F n = false := by
  induction n with
  | zero => omega
  | succ n ih =>
    show (plA K F n && decide (K n ≤ F n)) = false
    rcases Nat.lt_or_ge i n with h9 | h9
    · rw [ih h9]; rfl
    · have e : i = n := by omega
      rw [← e, decide_eq_false (by omega), Bool.and_false]
theorem plA_s {K F : Nat → Int} {k : Nat} (h_z : plA K F k = true) (h2 : K k ≤ F k) : plA K F (k + 1) = true := by
  show (plA K F k && decide (K k ≤ F k)) = true
  rw [h_z, decide_eq_true h2]
  rfl
theorem plE_s {K F : Nat → Int} {k : Nat} : plE K F (k + 1) = (plE K F k || decide (K k < F k)) := rfl
def refN (p : Nat → Bool) : Nat → Nat
  | 0 => 0
  | k + 1 => refN p k + (if p k = true then 2 ^ k else 0)
theorem refN_lt {p : Nat → Bool} {k : Nat} : refN p k < 2 ^ k := by
  induction k with
  | zero => exact Nat.one_pos
  | succ k ih =>
    show refN p k + (if p k = true then 2 ^ k else 0) < 2 ^ (k + 1)
    rw [Nat.pow_succ]
    split <;> omega
theorem bit_or : ∀ k, k < 4 → ∀ b, b < 16 → b < 2 ^ k → (nI b ||| nI 1 <<< (nI k &&& 31)) = nI (b + 2 ^ k) := by decide +kernel
set_option maxHeartbeats 4000000 in
set_option maxRecDepth 100000 in
theorem s_X11_keepLikes {g : zGT} {w : zW} {f : Nat → Nat → Int32} {j : Nat → Nat → Int64} {X : Nat} {T : zTb} {L : zLy} {d : Nat} {Q : Option Value → zW → Prop} {QX : String → zW → Prop} (G : zGok g) (hx : shX w X) (ht : tbAt w f X (X + 11) T) (hv : (∀ k, k < 6 → (f (X + 54 + 1) k).toInt = fctN T.2.2.1.1 (tbC T) L d 0 0 k)) (hr : rch (tbC T) L) (hd_z : d < 100) (hQ : ∀ f2_z, frK X f f2_z → (∀ k, k < 6 → f2_z (X + 54 + 1) k = f (X + 54 + 1) k) → (∀ i, i < tbG T → (f2_z (X + 105) i).toInt = likV T L d i) → Q none (zM w f2_z j)) : zC g 4 yX11_keepLikes cX11_keepLikes 2 none [.ref X] (zM w f j) (0, 0) Q QX := by
  refine zC_of G (by decide +kernel) (Nat.le_of_ble_eq_true rfl) ?_
  have ht0 := ht
  obtain ⟨nq, pp, g0, p0, hnq, hna0, hpp, hctb, hpast, hwf⟩ := ht0
  have hna1 := hna0
  obtain ⟨hna, hcn, ⟨hz1, hz2, hz3⟩, hl1, hl2, hl3⟩ := hna0
  have hmo := hctb.2.2.1
  have hn6 : tbC T ≤ 6 := hwf.2.1
  have hg4 : tbG T ≤ 4 := hwf.2.2.1
  have hwm := hwf.2.2.2.2.2.2.2.1
  have hrt := wfT_rch hwf
  have hfl : (f (X + 11 + 7) 2).toInt = (T.2.2.1.2.length : Nat) := by rw [hmo.1]; have := hmo.2.1; exact zi_n (by omega)
  have hcells : (f nq 1).toInt = (tbC T : Nat) := by rw [hcn.2.1]; exact zi_n (n := tbC T) (by omega)
  have hgs : (f nq 2).toInt = (tbG T : Nat) := by rw [hcn.2.2.1]; exact zi_n (n := tbG T) (by omega)
  have lp : ∀ (mz : Nat) (c : Int32) (k : Nat) (f2_z : Nat → Nat → Int32), c.toInt = (k : Nat) → k ≤ tbG T → frK X f f2_z → (∀ k, k < 6 → f2_z (X + 54 + 1) k = f (X + 54 + 1) k) → (∀ i, i < k → (f2_z (X + 105) i).toInt = likV T L d i) → tbG T - k < mz → zR (zV g 4 yX11_keepLikes 2 none (0, 0) Q QX) cX11_keepLikes yX11_keepLikes.cls 2 [some (.ref X), some (.int c)] [] (zM w f2_z j) (0, 0) := by
    intro mz
    induction mz with
    | zero =>
      intro c k f2_z hck hk ho hk6 hlk hmz
      exact absurd hmz (Nat.not_lt_zero _)
    | succ mz ih =>
      intro c k f2_z hck hk ho hk6 hlk hmz
      have hzo : ∀ q, zoneX X q → f2_z q = f q := fun q hq => ho q (by have := hq; unfold zoneX at this; omega)
      have hgs2 : (f2_z nq 2).toInt = (tbG T : Nat) := by rw [hzo nq hz1]; exact hgs
      have ht2 : tbAt w f2_z X (X + 11) T := tbAt_Q ht (frK_Q ho)
      have hv2 : (∀ k, k < 6 → (f2_z (X + 54 + 1) k).toInt = fctN T.2.2.1.1 (tbC T) L d 0 0 k) := fun k hk => by rw [hk6 k hk]; exact hv k hk
      rcases Nat.lt_or_ge k (tbG T) with hkl | hkl
      · refine r_iload1 dX11_keepLikes_2 ?_
        refine r_aloadR0 dX11_keepLikes_3 ?_
        refine m_getR (q := (X + 11)) zf_RX11_33 rfl dX11_keepLikes_4 (shX_k hx) (shX_p5 hx) ?_
        refine m_getR (q := nq) zf_RX11_181 rfl dX11_keepLikes_7 (shTb_k (shX_tb hx)) hnq ?_
        refine m_getV (x := (f2_z nq 2)) zf_RX11_209 rfl dX11_keepLikes_10 (shNa_k hna) (rfl) ?_
        refine t_icge (t := 42) dX11_keepLikes_13 (by decide) (fun h13 => False.elim (by omega)) (fun h13 => ?_)
        refine r_iload1 dX11_keepLikes_16 ?_
        refine r_aloadR0 dX11_keepLikes_17 ?_
        refine m_getR (q := (X + 105)) zf_RX11_85 rfl dX11_keepLikes_18 (shX_k hx) (shX_p16 hx) ?_
        refine m_alen dX11_keepLikes_21 (zge (shX_k106 hx) (by decide)) (shX_n106 hx) (by first | decide | omega) (fun r21 e21_z => ?_)
        refine t_icge (t := 42) dX11_keepLikes_22 (by decide) (fun h22 => False.elim (by omega)) (fun h22 => ?_)
        refine r_aloadR0 dX11_keepLikes_25 ?_
        refine m_getR (q := (X + 105)) zf_RX11_85 rfl dX11_keepLikes_26 (shX_k hx) (shX_p16 hx) ?_
        refine r_iload1 dX11_keepLikes_29 ?_
        refine r_aloadR0 dX11_keepLikes_30 ?_
        refine r_iload1 dX11_keepLikes_31 ?_
        refine q_callV1 zm_RX11_214 dX11_keepLikes_32 (shX_k hx) (by decide) rfl (Nat.le_of_ble_eq_true rfl) (Nat.le_of_ble_eq_true rfl) (Nat.le_of_ble_eq_true rfl) (Nat.le_of_ble_eq_true rfl) (Nat.le_of_ble_eq_true rfl) (s_X11_likingInView (L := L) (d := d) (gu := k) G hx ht2 hv2 hr hd_z hck hkl (fun r32 f3_z e32 ho3 hk3 => ?_))
        refine m_iast (k := k) dX11_keepLikes_35 (shX_k106 hx) (shX_n106 hx) (by omega) (by omega) ?_
        refine n_iinc1 dX11_keepLikes_36 (by decide) rfl (by omega) (fun r36 e36 => ?_)
        refine r_goto (t := 2) dX11_keepLikes_39 (by decide) ?_
        refine ih _ (k + 1) _ (by omega) (by omega) ?_ ?_ (fun i hi_z => ?_) (by omega)
        · exact frK_tr ho (fun q hq => (zu_ne (by omega)).trans (ho3 q (by omega)))
        · intro i hi_z
          rw [zu_ne (by omega)]
          exact (hk3 i hi_z).trans (hk6 i hi_z)
        · rcases Nat.lt_or_ge i k with h9 | h9
          · rw [zu_nn (by omega), ho3 _ (by omega)]
            exact hlk i h9
          · rw [show i = k by omega, zu_at]
            exact e32
      · refine r_iload1 dX11_keepLikes_2 ?_
        refine r_aloadR0 dX11_keepLikes_3 ?_
        refine m_getR (q := (X + 11)) zf_RX11_33 rfl dX11_keepLikes_4 (shX_k hx) (shX_p5 hx) ?_
        refine m_getR (q := nq) zf_RX11_181 rfl dX11_keepLikes_7 (shTb_k (shX_tb hx)) hnq ?_
        refine m_getV (x := (f2_z nq 2)) zf_RX11_209 rfl dX11_keepLikes_10 (shNa_k hna) (rfl) ?_
        refine t_icge (t := 42) dX11_keepLikes_13 (by decide) (fun h13 => ?_) (fun h13 => False.elim (by omega))
        refine r_vret dX11_keepLikes_42 rfl (Nat.le_of_ble_eq_true rfl) (Nat.le_of_ble_eq_true rfl) ?_
        exact hQ f2_z ho hk6 (fun i hi_z => hlk i (by omega))
  refine n_iconst dX11_keepLikes_0 (by decide) (fun r0 e0_z => ?_)
  refine r_istore1 dX11_keepLikes_1 rfl ?_
  exact lp (tbG T + 1) _ 0 f (by omega) (by omega) (fun _ _ => rfl) (fun _ _ => rfl) (fun i hi_z => absurd hi_z (by omega)) (by omega)
set_option maxHeartbeats 4000000 in
set_option maxRecDepth 100000 in
theorem s_X11_pleasesInView {g : zGT} {w : zW} {f : Nat → Nat → Int32} {j : Nat → Nat → Int64} {X : Nat} {T : zTb} {L : zLy} {d : Nat} {K : Nat → Int} {Q : Option Value → zW → Prop} {QX : String → zW → Prop} (G : zGok g) (hx : shX w X) (ht : tbAt w f X (X + 11) T) (hv : (∀ k, k < 6 → (f (X + 54 + 1) k).toInt = fctN T.2.2.1.1 (tbC T) L d 0 0 k)) (hr : rch (tbC T) L) (hd_z : d < 100) (hK_z : ∀ i, i < tbG T → (f (X + 105) i).toInt = K i) (hQ : ∀ (r : Int32) f2_z, r.toInt = plV K (likV T L d) (tbG T) → ofR f f2_z (X + 54 + 1) 2 → (∀ k, k < 6 → f2_z (X + 54 + 1) k = f (X + 54 + 1) k) → Q (some (.int r)) (zM w f2_z j)) : zC g 4 yX11_pleasesInView cX11_pleasesInView 4 (some .boolean) [.ref X] (zM w f j) (0, 0) Q QX := by
  refine zC_of G (by decide +kernel) (Nat.le_of_ble_eq_true rfl) ?_
  have ht0 := ht
  obtain ⟨nq, pp, g0, p0, hnq, hna0, hpp, hctb, hpast, hwf⟩ := ht0
  have hna1 := hna0
  obtain ⟨hna, hcn, ⟨hz1, hz2, hz3⟩, hl1, hl2, hl3⟩ := hna0
  have hmo := hctb.2.2.1
  have hn6 : tbC T ≤ 6 := hwf.2.1
  have hg4 : tbG T ≤ 4 := hwf.2.2.1
  have hwm := hwf.2.2.2.2.2.2.2.1
  have hrt := wfT_rch hwf
  have hfl : (f (X + 11 + 7) 2).toInt = (T.2.2.1.2.length : Nat) := by rw [hmo.1]; have := hmo.2.1; exact zi_n (by omega)
  have hcells : (f nq 1).toInt = (tbC T : Nat) := by rw [hcn.2.1]; exact zi_n (n := tbC T) (by omega)
  have hgs : (f nq 2).toInt = (tbG T : Nat) := by rw [hcn.2.2.1]; exact zi_n (n := tbG T) (by omega)
  have lp : ∀ (mz : Nat) (v : Int32) (c : Int32) (v3 : Option Value) (k : Nat) (f2_z : Nat → Nat → Int32), c.toInt = (k : Nat) → k ≤ tbG T → plA K (likV T L d) k = true → (v.toInt = 1 ∧ plE K (likV T L d) k = true ∨ v.toInt = 0 ∧ plE K (likV T L d) k = false) → ofR f f2_z (X + 54 + 1) 2 → (∀ k, k < 6 → f2_z (X + 54 + 1) k = f (X + 54 + 1) k) → tbG T - k < mz → zR (zV g 4 yX11_pleasesInView 4 (some .boolean) (0, 0) Q QX) cX11_pleasesInView yX11_pleasesInView.cls 4 [some (.ref X), some (.int v), some (.int c), v3] [] (zM w f2_z j) (0, 0) := by
    intro mz
    induction mz with
    | zero =>
      intro v c v3 k f2_z hck hk hpa hpe ho hk6 hmz
      exact absurd hmz (Nat.not_lt_zero _)
    | succ mz ih =>
      intro v c v3 k f2_z hck hk hpa hpe ho hk6 hmz
      have hzo : ∀ q, zoneX X q → f2_z q = f q := fun q hq => ho q (by have := hq; unfold zoneX at this; omega)
      have hgs2 : (f2_z nq 2).toInt = (tbG T : Nat) := by rw [hzo nq hz1]; exact hgs
      have ht2 : tbAt w f2_z X (X + 11) T := tbAt_Q ht (frQ_R ho (by omega))
      have hv2 : (∀ k, k < 6 → (f2_z (X + 54 + 1) k).toInt = fctN T.2.2.1.1 (tbC T) L d 0 0 k) := fun k hk => by rw [hk6 k hk]; exact hv k hk
      rcases Nat.lt_or_ge k (tbG T) with hkl | hkl
      · have hKk : (f2_z (X + 105) k).toInt = K k := by rw [ho _ (by omega)]; exact hK_z k hkl
        refine r_iload2 dX11_pleasesInView_4 ?_
        refine r_aloadR0 dX11_pleasesInView_5 ?_
        refine m_getR (q := (X + 11)) zf_RX11_33 rfl dX11_pleasesInView_6 (shX_k hx) (shX_p5 hx) ?_
        refine m_getR (q := nq) zf_RX11_181 rfl dX11_pleasesInView_9 (shTb_k (shX_tb hx)) hnq ?_
        refine m_getV (x := (f2_z nq 2)) zf_RX11_209 rfl dX11_pleasesInView_12 (shNa_k hna) (rfl) ?_
        refine t_icge (t := 71) dX11_pleasesInView_15 (by decide) (fun h15 => False.elim (by omega)) (fun h15 => ?_)
        refine r_iload2 dX11_pleasesInView_18 ?_
        refine r_aloadR0 dX11_pleasesInView_19 ?_
        refine m_getR (q := (X + 105)) zf_RX11_85 rfl dX11_pleasesInView_20 (shX_k hx) (shX_p16 hx) ?_
        refine m_alen dX11_pleasesInView_23 (zge (shX_k106 hx) (by decide)) (shX_n106 hx) (by first | decide | omega) (fun r23 e23_z => ?_)
        refine t_icge (t := 71) dX11_pleasesInView_24 (by decide) (fun h24 => False.elim (by omega)) (fun h24 => ?_)
        refine r_aloadR0 dX11_pleasesInView_27 ?_
        refine r_iload2 dX11_pleasesInView_28 ?_
        refine q_callV1 zm_RX11_214 dX11_pleasesInView_29 (shX_k hx) (by decide) rfl (Nat.le_of_ble_eq_true rfl) (Nat.le_of_ble_eq_true rfl) (Nat.le_of_ble_eq_true rfl) (Nat.le_of_ble_eq_true rfl) (Nat.le_of_ble_eq_true rfl) (s_X11_likingInView (L := L) (d := d) (gu := k) G hx ht2 hv2 hr hd_z hck hkl (fun r29 f3_z e29 ho3 hk3 => ?_))
        have hKk3 : (f3_z (X + 105) k).toInt = K k := by rw [ho3 _ (by omega)]; exact hKk
        refine r_istore3 dX11_pleasesInView_32 rfl ?_
        refine r_iload3 dX11_pleasesInView_33 ?_
        refine r_aloadR0 dX11_pleasesInView_34 ?_
        refine m_getR (q := (X + 105)) zf_RX11_85 rfl dX11_pleasesInView_35 (shX_k hx) (shX_p16 hx) ?_
        refine r_iload2 dX11_pleasesInView_38 ?_
        refine m_iald (k := k) (x := (f3_z (X + 105) k)) dX11_pleasesInView_39 (shX_k106 hx) (shX_n106 hx) (by omega) (by omega) (rfl) ?_
        refine t_icge (t := 45) dX11_pleasesInView_40 (by decide) (fun h40 => ?_) (fun h40 => ?_)
        · refine r_iload1 dX11_pleasesInView_45 ?_
          refine t_ifne (t := 59) dX11_pleasesInView_46 (by decide) (fun h46 => ?_) (fun h46 => ?_)
          · refine n_iconst dX11_pleasesInView_59 (by decide) (fun r59 e59 => ?_)
            refine r_goto (t := 64) dX11_pleasesInView_60 (by decide) ?_
            refine r_istore1 dX11_pleasesInView_64 rfl ?_
            refine n_iinc2 dX11_pleasesInView_65 (by decide) rfl (by omega) (fun r65 e65 => ?_)
            refine r_goto (t := 4) dX11_pleasesInView_68 (by decide) ?_
            refine ih _ _ _ (k + 1) f3_z (by omega) (by omega) (plA_s hpa (by omega)) ?_ (ofR_tr ho ho3) (fun i hi_z => (hk3 i hi_z).trans (hk6 i hi_z)) (by omega)
            rw [plE_s]
            rcases hpe with ⟨h91, h92⟩ | ⟨h91, h92⟩
            · rw [h92]
              refine Or.inl ⟨?_, rfl⟩
              omega
            · rw [h92, Bool.false_or]
              by_cases h93 : K k < likV T L d k
              · exact Or.inl ⟨by omega, decide_eq_true h93⟩
              · exact Or.inr ⟨by omega, decide_eq_false h93⟩
          · refine r_iload3 dX11_pleasesInView_49 ?_
            refine r_aloadR0 dX11_pleasesInView_50 ?_
            refine m_getR (q := (X + 105)) zf_RX11_85 rfl dX11_pleasesInView_51 (shX_k hx) (shX_p16 hx) ?_
            refine r_iload2 dX11_pleasesInView_54 ?_
            refine m_iald (k := k) (x := (f3_z (X + 105) k)) dX11_pleasesInView_55 (shX_k106 hx) (shX_n106 hx) (by omega) (by omega) (rfl) ?_
            refine t_icle (t := 63) dX11_pleasesInView_56 (by decide) (fun h56 => ?_) (fun h56 => ?_)
            · refine n_iconst dX11_pleasesInView_63 (by decide) (fun r63 e63 => ?_)
              refine r_istore1 dX11_pleasesInView_64 rfl ?_
              refine n_iinc2 dX11_pleasesInView_65 (by decide) rfl (by omega) (fun r65 e65 => ?_)
              refine r_goto (t := 4) dX11_pleasesInView_68 (by decide) ?_
              refine ih _ _ _ (k + 1) f3_z (by omega) (by omega) (plA_s hpa (by omega)) ?_ (ofR_tr ho ho3) (fun i hi_z => (hk3 i hi_z).trans (hk6 i hi_z)) (by omega)
              rw [plE_s]
              rcases hpe with ⟨h91, h92⟩ | ⟨h91, h92⟩
              · rw [h92]
                refine Or.inl ⟨?_, rfl⟩
                omega
              · rw [h92, Bool.false_or]
                by_cases h93 : K k < likV T L d k
                · exact Or.inl ⟨by omega, decide_eq_true h93⟩
                · exact Or.inr ⟨by omega, decide_eq_false h93⟩
            · refine n_iconst dX11_pleasesInView_59 (by decide) (fun r59 e59 => ?_)
              refine r_goto (t := 64) dX11_pleasesInView_60 (by decide) ?_
              refine r_istore1 dX11_pleasesInView_64 rfl ?_
              refine n_iinc2 dX11_pleasesInView_65 (by decide) rfl (by omega) (fun r65 e65 => ?_)
              refine r_goto (t := 4) dX11_pleasesInView_68 (by decide) ?_
              refine ih _ _ _ (k + 1) f3_z (by omega) (by omega) (plA_s hpa (by omega)) ?_ (ofR_tr ho ho3) (fun i hi_z => (hk3 i hi_z).trans (hk6 i hi_z)) (by omega)
              rw [plE_s]
              rcases hpe with ⟨h91, h92⟩ | ⟨h91, h92⟩
              · rw [h92]
                refine Or.inl ⟨?_, rfl⟩
                omega
              · rw [h92, Bool.false_or]
                by_cases h93 : K k < likV T L d k
                · exact Or.inl ⟨by omega, decide_eq_true h93⟩
                · exact Or.inr ⟨by omega, decide_eq_false h93⟩
        · refine n_iconst dX11_pleasesInView_43 (by decide) (fun r43 e43 => ?_)
          refine m_zret dX11_pleasesInView_44 rfl (by omega) (Nat.le_of_ble_eq_true rfl) (Nat.le_of_ble_eq_true rfl) ?_
          refine hQ _ f3_z ?_ (ofR_tr ho ho3) (fun i hi_z => (hk3 i hi_z).trans (hk6 i hi_z))
          unfold plV
          rw [if_neg (fun h9 => by rw [plA_no hkl (by omega)] at h9; exact absurd h9.1 (by decide))]
          omega
      · refine r_iload2 dX11_pleasesInView_4 ?_
        refine r_aloadR0 dX11_pleasesInView_5 ?_
        refine m_getR (q := (X + 11)) zf_RX11_33 rfl dX11_pleasesInView_6 (shX_k hx) (shX_p5 hx) ?_
        refine m_getR (q := nq) zf_RX11_181 rfl dX11_pleasesInView_9 (shTb_k (shX_tb hx)) hnq ?_
        refine m_getV (x := (f2_z nq 2)) zf_RX11_209 rfl dX11_pleasesInView_12 (shNa_k hna) (rfl) ?_
        refine t_icge (t := 71) dX11_pleasesInView_15 (by decide) (fun h15 => ?_) (fun h15 => False.elim (by omega))
        refine r_iload1 dX11_pleasesInView_71 ?_
        refine m_zret dX11_pleasesInView_72 rfl (by omega) (Nat.le_of_ble_eq_true rfl) (Nat.le_of_ble_eq_true rfl) ?_
        have hke : k = tbG T := by omega
        refine hQ _ f2_z ?_ ho hk6
        unfold plV
        rw [hke] at hpa hpe
        rcases hpe with ⟨h91, h92⟩ | ⟨h91, h92⟩
        · rw [if_pos ⟨hpa, h92⟩]; exact h91
        · rw [if_neg (fun h9 => by rw [h92] at h9; exact absurd h9.2 (by decide))]; exact h91
  refine n_iconst dX11_pleasesInView_0 (by decide) (fun r0 e0_z => ?_)
  refine r_istore1 dX11_pleasesInView_1 rfl ?_
  refine n_iconst dX11_pleasesInView_2 (by decide) (fun r2 e2_z => ?_)
  refine r_istore2 dX11_pleasesInView_3 rfl ?_
  exact lp (tbG T + 1) _ _ none 0 f (by omega) (by omega) rfl (Or.inr ⟨by omega, rfl⟩) ofR_rf (fun _ _ => rfl) (by omega)
set_option maxHeartbeats 4000000 in
set_option maxRecDepth 100000 in
theorem s_X11_viewFlat9 {g : zGT} {w : zW} {f : Nat → Nat → Int32} {j : Nat → Nat → Int64} {X : Nat} {T : zTb} {Q : Option Value → zW → Prop} {QX : String → zW → Prop} (G : zGok g) (hx : shX w X) (ht : tbAt w f X (X + 11) T) (hQ : ∀ f2_z, (∀ q, ¬ (X + 54 ≤ q ∧ q < X + 57 ∨ X + 93 ≤ q ∧ q < X + 97) → f2_z q = f q) → (∀ k, k < 6 → (f2_z (X + 54 + 1) k).toInt = fctN T.2.2.1.1 (tbC T) (lyFlat (tbC T)) 0 0 0 k) → Q none (zM w f2_z j)) : zC g 6 yX11_viewFlat cX11_viewFlat 1 none [.ref X] (zM w f j) (0, 0) Q QX := by
  refine zC_of G (by decide +kernel) (Nat.le_of_ble_eq_true rfl) ?_
  have ht0 := ht
  obtain ⟨nq, pp, g0, p0, hnq, hna0, hpp, hctb, hpast, hwf⟩ := ht0
  have hna1 := hna0
  obtain ⟨hna, hcn, ⟨hz1, hz2, hz3⟩, hl1, hl2, hl3⟩ := hna0
  have hmo := hctb.2.2.1
  have hn6 : tbC T ≤ 6 := hwf.2.1
  have hg4 : tbG T ≤ 4 := hwf.2.2.1
  have hwm := hwf.2.2.2.2.2.2.2.1
  have hrt := wfT_rch hwf
  have hfl : (f (X + 11 + 7) 2).toInt = (T.2.2.1.2.length : Nat) := by rw [hmo.1]; have := hmo.2.1; exact zi_n (by omega)
  have hcells : (f nq 1).toInt = (tbC T : Nat) := by rw [hcn.2.1]; exact zi_n (n := tbC T) (by omega)
  have hgs : (f nq 2).toInt = (tbG T : Nat) := by rw [hcn.2.2.1]; exact zi_n (n := tbG T) (by omega)
  refine r_aloadR0 dX11_viewFlat_0 ?_
  refine m_getR (q := (X + 93)) zf_RX11_67 rfl dX11_viewFlat_1 (shX_k hx) (shX_p12 hx) ?_
  refine r_aloadR0 dX11_viewFlat_4 ?_
  refine m_getR (q := (X + 11)) zf_RX11_33 rfl dX11_viewFlat_5 (shX_k hx) (shX_p5 hx) ?_
  refine m_getR (q := nq) zf_RX11_181 rfl dX11_viewFlat_8 (shTb_k (shX_tb hx)) hnq ?_
  refine m_getV (x := (f nq 1)) zf_RX11_185 rfl dX11_viewFlat_11 (shNa_k hna) (rfl) ?_
  refine q_callV1 zm_RX11_222 dX11_viewFlat_14 (shLay_k (shX_ly hx)) (by decide) rfl (Nat.le_of_ble_eq_true rfl) (Nat.le_of_ble_eq_true rfl) (Nat.le_of_ble_eq_true rfl) (Nat.le_of_ble_eq_true rfl) (Nat.le_of_ble_eq_true rfl) (s_X2_flatten (w := zM w f j) (n := tbC T) G (shX_ly hx) hn6 (zi_of hcells (by omega)) (fun f1_z ho1 hla => ?_))
  show zR _ _ _ _ _ _ (zM w f1_z j) _
  have hmo1 : ctMo f1_z (X + 11 + 7) T.2.2.1 := ctMo_R hmo (ofLay_R ho1) (by omega)
  refine r_aloadR0 dX11_viewFlat_17 ?_
  refine m_getR (q := (X + 54)) zf_RX11_50 rfl dX11_viewFlat_18 (shX_k hx) (shX_p9 hx) ?_
  refine r_aloadR0 dX11_viewFlat_21 ?_
  refine m_getR (q := (X + 93)) zf_RX11_67 rfl dX11_viewFlat_22 (shX_k hx) (shX_p12 hx) ?_
  refine r_aloadR0 dX11_viewFlat_25 ?_
  refine m_getR (q := (X + 11)) zf_RX11_33 rfl dX11_viewFlat_26 (shX_k hx) (shX_p5 hx) ?_
  refine m_getR (q := ((X + 11) + 7)) zf_RX11_138 rfl dX11_viewFlat_29 (shTb_k (shX_tb hx)) (shTb_p1 (shX_tb hx)) ?_
  refine m_getR (q := (((X + 11) + 7) + 1)) zf_RX11_171 rfl dX11_viewFlat_32 (shMo_k (shTb_mo (shX_tb hx))) (shMo_p0 (shTb_mo (shX_tb hx))) ?_
  refine n_iconst dX11_viewFlat_35 (by decide) (fun r35 e35 => ?_)
  refine q_callV3 zm_RX11_236 dX11_viewFlat_36 (shSc_k (shX_sc hx)) (by decide) rfl (Nat.le_of_ble_eq_true rfl) (Nat.le_of_ble_eq_true rfl) (Nat.le_of_ble_eq_true rfl) (Nat.le_of_ble_eq_true rfl) (Nat.le_of_ble_eq_true rfl) (s_X6_view (mk := T.2.2.1.1) (L := lyFlat (tbC T)) (n := tbC T) (fo := 0) G (shX_sc hx) (shX_ly hx) hla (by omega) (shMo_k1 (shTb_mo (shX_tb hx))) (shMo_n1 (shTb_mo (shX_tb hx))) (by omega) (moRow hmo1 hwm.2.2) hwm.2.2 (rch_flat hn6) (by omega) (by omega) (fun f2_z ho2 hv2 => ?_))
  refine r_vret dX11_viewFlat_39 rfl (Nat.le_of_ble_eq_true rfl) (Nat.le_of_ble_eq_true rfl) ?_
  exact hQ f2_z (fun q hq => (ho2 q (by omega)).trans (ofLay_R ho1 q (by omega))) hv2
set_option maxHeartbeats 4000000 in
set_option maxRecDepth 100000 in
theorem s_X11_refuse {g : zGT} {w : zW} {f : Nat → Nat → Int32} {j : Nat → Nat → Int64} {X : Nat} {T : zTb} {Q : Option Value → zW → Prop} {QX : String → zW → Prop} (G : zGok g) (hx : shX w X) (ht : tbAt w f X (X + 11) T) (hQ : ∀ (r : Int32) f2_z, r.toInt = (refN (fun i => decide (likV T (tbL T) T.2.2.1.2.length i < likV T (lyFlat (tbC T)) 0 i)) (tbG T) : Nat) → qX X f f2_z → Q (some (.int r)) (zM w f2_z j)) : zC g 7 yX11_refuse cX11_refuse 3 (some .int) [.ref X] (zM w f j) (0, 0) Q QX := by
  refine zC_of G (by decide +kernel) (Nat.le_of_ble_eq_true rfl) ?_
  have ht0 := ht
  obtain ⟨nq, pp, g0, p0, hnq, hna0, hpp, hctb, hpast, hwf⟩ := ht0
  have hna1 := hna0
  obtain ⟨hna, hcn, ⟨hz1, hz2, hz3⟩, hl1, hl2, hl3⟩ := hna0
  have hmo := hctb.2.2.1
  have hn6 : tbC T ≤ 6 := hwf.2.1
  have hg4 : tbG T ≤ 4 := hwf.2.2.1
  have hwm := hwf.2.2.2.2.2.2.2.1
  have hrt := wfT_rch hwf
  have hfl : (f (X + 11 + 7) 2).toInt = (T.2.2.1.2.length : Nat) := by rw [hmo.1]; have := hmo.2.1; exact zi_n (by omega)
  have hcells : (f nq 1).toInt = (tbC T : Nat) := by rw [hcn.2.1]; exact zi_n (n := tbC T) (by omega)
  have hgs : (f nq 2).toInt = (tbG T : Nat) := by rw [hcn.2.2.1]; exact zi_n (n := tbG T) (by omega)
  have hl5 := hmo.2.1
  generalize hpd : (fun i => decide (likV T (tbL T) T.2.2.1.2.length i < likV T (lyFlat (tbC T)) 0 i)) = pp9 at hQ
  refine r_aloadR0 dX11_refuse_0 ?_
  refine q_callV0 zm_RX11_198 dX11_refuse_1 (shX_k hx) (by decide) rfl (Nat.le_of_ble_eq_true rfl) (Nat.le_of_ble_eq_true rfl) (Nat.le_of_ble_eq_true rfl) (Nat.le_of_ble_eq_true rfl) (Nat.le_of_ble_eq_true rfl) (s_X11_viewNow G hx ht (fun f1_z ho1 hv1 => ?_))
  have ht1 := tbAt_Q ht (frS_Q ho1)
  refine r_aloadR0 dX11_refuse_4 ?_
  refine q_callV0 zm_RX11_486 dX11_refuse_5 (shX_k hx) (by decide) rfl (Nat.le_of_ble_eq_true rfl) (Nat.le_of_ble_eq_true rfl) (Nat.le_of_ble_eq_true rfl) (Nat.le_of_ble_eq_true rfl) (Nat.le_of_ble_eq_true rfl) (s_X11_keepLikes (L := tbL T) (d := T.2.2.1.2.length) G hx ht1 hv1 hrt (by omega) (fun f4_z ho4 hk4 hlk4 => ?_))
  have ht4 := tbAt_Q ht1 (frK_Q ho4)
  refine r_aloadR0 dX11_refuse_8 ?_
  refine q_callV0 zm_RX11_489 dX11_refuse_9 (shX_k hx) (by decide) rfl (Nat.le_of_ble_eq_true rfl) (Nat.le_of_ble_eq_true rfl) (Nat.le_of_ble_eq_true rfl) (Nat.le_of_ble_eq_true rfl) (Nat.le_of_ble_eq_true rfl) (s_X11_viewFlat9 G hx ht4 (fun f5_z ho5 hv5 => ?_))
  have hQ5 : frQ X f4_z f5_z := fun q hq => ho5 q (by omega)
  have ht5 := tbAt_Q ht4 hQ5
  have hlk5 : ∀ i, i < tbG T → (f5_z (X + 105) i).toInt = likV T (tbL T) T.2.2.1.2.length i := fun i hi_z => by rw [ho5 _ (by omega)]; exact hlk4 i hi_z
  have hSS : frS X f f5_z := frS_tr ho1 (frS_tr (frK_S ho4) (fun q hq => ho5 q (by omega)))
  have hzo5 : ∀ q, zoneX X q → f5_z q = f q := fun q hq => hSS q (by unfold zoneX at hq; omega)
  have lp : ∀ (mz : Nat) (v : Int32) (c : Int32) (k : Nat) (f2_z : Nat → Nat → Int32), c.toInt = (k : Nat) → k ≤ tbG T → v = nI (refN pp9 k) → ofR f5_z f2_z (X + 54 + 1) 2 → (∀ k, k < 6 → f2_z (X + 54 + 1) k = f5_z (X + 54 + 1) k) → tbG T - k < mz → zR (zV g 7 yX11_refuse 3 (some .int) (0, 0) Q QX) cX11_refuse yX11_refuse.cls 16 [some (.ref X), some (.int v), some (.int c)] [] (zM w f2_z j) (0, 0) := by
    intro mz
    induction mz with
    | zero =>
      intro v c k f2_z hck hk hb_z ho hk6 hmz
      exact absurd hmz (Nat.not_lt_zero _)
    | succ mz ih =>
      intro v c k f2_z hck hk hb_z ho hk6 hmz
      have hgs2 : (f2_z nq 2).toInt = (tbG T : Nat) := by rw [ho nq (by unfold zoneX at hz1; omega), hzo5 nq hz1]; exact hgs
      have ht2 : tbAt w f2_z X (X + 11) T := tbAt_Q ht5 (frQ_R ho (by omega))
      have hv2 : (∀ k, k < 6 → (f2_z (X + 54 + 1) k).toInt = fctN T.2.2.1.1 (tbC T) (lyFlat (tbC T)) 0 0 0 k) := fun k hk => by rw [hk6 k hk]; exact hv5 k hk
      rcases Nat.lt_or_ge k (tbG T) with hkl | hkl
      · have hKk : (f2_z (X + 105) k).toInt = likV T (tbL T) T.2.2.1.2.length k := by rw [ho _ (by omega)]; exact hlk5 k hkl
        have hlt := refN_lt (p := pp9) (k := k)
        have hp3 : 2 ^ k ≤ 2 ^ 3 := Nat.pow_le_pow_right (by decide) (by omega)
        have hrs : refN pp9 (k + 1) = refN pp9 k + (if pp9 k = true then 2 ^ k else 0) := rfl
        have hpk : pp9 k = decide (likV T (tbL T) T.2.2.1.2.length k < likV T (lyFlat (tbC T)) 0 k) := by rw [← hpd]
        refine r_iload2 dX11_refuse_16 ?_
        refine r_aloadR0 dX11_refuse_17 ?_
        refine m_getR (q := (X + 11)) zf_RX11_33 rfl dX11_refuse_18 (shX_k hx) (shX_p5 hx) ?_
        refine m_getR (q := nq) zf_RX11_181 rfl dX11_refuse_21 (shTb_k (shX_tb hx)) hnq ?_
        refine m_getV (x := (f2_z nq 2)) zf_RX11_209 rfl dX11_refuse_24 (shNa_k hna) (rfl) ?_
        refine t_icge (t := 65) dX11_refuse_27 (by decide) (fun h27 => False.elim (by omega)) (fun h27 => ?_)
        refine r_iload2 dX11_refuse_30 ?_
        refine r_aloadR0 dX11_refuse_31 ?_
        refine m_getR (q := (X + 105)) zf_RX11_85 rfl dX11_refuse_32 (shX_k hx) (shX_p16 hx) ?_
        refine m_alen dX11_refuse_35 (zge (shX_k106 hx) (by decide)) (shX_n106 hx) (by first | decide | omega) (fun r35 e35 => ?_)
        refine t_icge (t := 65) dX11_refuse_36 (by decide) (fun h36 => False.elim (by omega)) (fun h36 => ?_)
        refine r_aloadR0 dX11_refuse_39 ?_
        refine m_getR (q := (X + 105)) zf_RX11_85 rfl dX11_refuse_40 (shX_k hx) (shX_p16 hx) ?_
        refine r_iload2 dX11_refuse_43 ?_
        refine m_iald (k := k) (x := (f2_z (X + 105) k)) dX11_refuse_44 (shX_k106 hx) (shX_n106 hx) (by omega) (by omega) (rfl) ?_
        refine r_aloadR0 dX11_refuse_45 ?_
        refine r_iload2 dX11_refuse_46 ?_
        refine q_callV1 zm_RX11_214 dX11_refuse_47 (shX_k hx) (by decide) rfl (Nat.le_of_ble_eq_true rfl) (Nat.le_of_ble_eq_true rfl) (Nat.le_of_ble_eq_true rfl) (Nat.le_of_ble_eq_true rfl) (Nat.le_of_ble_eq_true rfl) (s_X11_likingInView (L := lyFlat (tbC T)) (d := 0) (gu := k) G hx ht2 hv2 (rch_flat hn6) (by omega) hck hkl (fun r47 f3_z e47 ho3 hk3 => ?_))
        refine t_icge (t := 59) dX11_refuse_50 (by decide) (fun h50 => ?_) (fun h50 => ?_)
        · refine n_iinc2 dX11_refuse_59 (by decide) rfl (by omega) (fun r59 e59 => ?_)
          refine r_goto (t := 16) dX11_refuse_62 (by decide) ?_
          refine ih _ _ (k + 1) f3_z (by omega) (by omega) ?_ (ofR_tr ho ho3) (fun i hi_z => (hk3 i hi_z).trans (hk6 i hi_z)) (by omega)
          rw [hrs, hpk, decide_eq_false (by omega)]
          exact hb_z
        · refine r_iload1 dX11_refuse_53 ?_
          refine n_iconst dX11_refuse_54 (by decide) (fun r54 e54 => ?_)
          refine r_iload2 dX11_refuse_55 ?_
          refine r_ishl dX11_refuse_56 ?_
          refine n_name (fun r56 e56 => ?_)
          refine r_ior dX11_refuse_57 ?_
          refine n_name (fun r57 e57 => ?_)
          refine r_istore1 dX11_refuse_58 rfl ?_
          refine n_iinc2 dX11_refuse_59 (by decide) rfl (by omega) (fun r59 e59 => ?_)
          refine r_goto (t := 16) dX11_refuse_62 (by decide) ?_
          refine ih _ _ (k + 1) f3_z (by omega) (by omega) ?_ (ofR_tr ho ho3) (fun i hi_z => (hk3 i hi_z).trans (hk6 i hi_z)) (by omega)
          rw [hrs, hpk, decide_eq_true (by omega), if_pos rfl, e57, e56, hb_z, zi_of (n := 1) e54 (by omega), zi_of hck (by omega)]
          exact bit_or k (by omega) _ (by omega) hlt
      · refine r_iload2 dX11_refuse_16 ?_
        refine r_aloadR0 dX11_refuse_17 ?_
        refine m_getR (q := (X + 11)) zf_RX11_33 rfl dX11_refuse_18 (shX_k hx) (shX_p5 hx) ?_
        refine m_getR (q := nq) zf_RX11_181 rfl dX11_refuse_21 (shTb_k (shX_tb hx)) hnq ?_
        refine m_getV (x := (f2_z nq 2)) zf_RX11_209 rfl dX11_refuse_24 (shNa_k hna) (rfl) ?_
        refine t_icge (t := 65) dX11_refuse_27 (by decide) (fun h27 => ?_) (fun h27 => False.elim (by omega))
        refine r_iload1 dX11_refuse_65 ?_
        refine r_iret dX11_refuse_66 rfl (Nat.le_of_ble_eq_true rfl) (Nat.le_of_ble_eq_true rfl) ?_
        have hke : k = tbG T := by omega
        refine hQ _ f2_z ?_ (qX_S (frS_tr hSS (frS_R ho (by omega))))
        rw [hb_z, ← hke]
        exact zi_n (by have hlt := refN_lt (p := pp9) (k := k); have hp3 : 2 ^ k ≤ 2 ^ 4 := Nat.pow_le_pow_right (by decide) (by omega); omega)
  refine n_iconst dX11_refuse_12 (by decide) (fun r12 e12_z => ?_)
  refine r_istore1 dX11_refuse_13 rfl ?_
  refine n_iconst dX11_refuse_14 (by decide) (fun r14 e14_z => ?_)
  refine r_istore2 dX11_refuse_15 rfl ?_
  exact lp (tbG T + 1) _ _ 0 f5_z (by omega) (by omega) (zi_of (by show _ = ((0 : Nat) : Int); omega) (by show (0 : Nat) < _; omega)) ofR_rf (fun _ _ => rfl) (by omega)
