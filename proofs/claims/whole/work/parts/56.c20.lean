/-! the class: standing, stacks -/
def updW (Pl : Nat → Int) (c : Nat) (v : Int) : Nat → Int := fun i => if i = c then v else Pl i
def sumW (g9 : Nat → Nat) : Nat → Nat
  | 0 => 0
  | k + 1 => sumW g9 k + g9 k
theorem sumW_le {g9 : Nat → Nat} {B : Nat} (h_z : ∀ p, g9 p ≤ B) : ∀ k, sumW g9 k ≤ k * B := by
  intro k
  induction k with
  | zero => exact Nat.zero_le _
  | succ k ih =>
    show sumW g9 k + g9 k ≤ _
    have := h_z k
    rw [Nat.succ_mul]
    omega
/-- in how many ways the cells from c on find places -/
noncomputable def staN (n : Nat) : Nat → Nat → (Nat → Int) → Nat
  | 0, _, _ => 1
  | m + 1, c, Pl => sumW (fun p => @ite _ ((∀ i, i < c → Pl i ≠ (p : Nat)) ∧ fitC (updW Pl c (p : Nat)) c) (Classical.propDecidable _) (staN n m (c + 1) (updW Pl c (p : Nat))) 0) n
theorem staN_le {n : Nat} (hn : n ≤ 6) : ∀ (m c : Nat) (Pl : Nat → Int), staN n m c Pl ≤ 6 ^ m := by
  intro m
  induction m with
  | zero => exact fun c Pl => Nat.le_refl _
  | succ m ih =>
    intro c Pl
    refine Nat.le_trans (sumW_le (B := 6 ^ m) (fun p => ?_) n) ?_
    · split
      · exact ih _ _
      · exact Nat.zero_le _
    · rw [Nat.pow_succ, Nat.mul_comm (6 ^ m) 6]
      exact Nat.mul_le_mul_right _ hn
set_option maxHeartbeats 4000000 in
set_option maxRecDepth 100000 in
theorem s_X11_standing_6 {g : zGT} {w : zW} {f : Nat → Nat → Int32} {j : Nat → Nat → Int64} {b n : Nat} {Pl : Nat → Int} {x z : Int32} {Q : Option Value → zW → Prop} {QX : String → zW → Prop} (G : zGok g) (hbk : zK w b = 21) (hbn : zN w b = 6) (hx : x.toInt = 6) (hz : z.toInt = (n : Nat)) (hn6 : n ≤ 6) (hcn : 6 ≤ n) (hP : ∀ i, i < 6 → (f b i).toInt = Pl i) (hQ : ∀ (r : Int32) f2_z, r.toInt = (staN n (n - 6) 6 Pl : Nat) → (∀ q, q ≠ b → f2_z q = f q) → (∀ i, i < 6 → f2_z b i = f b i) → Q (some (.int r)) (zM w f2_z j)) : zC g 1 yX11_standing cX11_standing 5 (some .int) [.ref b, .int x, .int z] (zM w f j) (0, 0) Q QX := by
  refine zC_of G (by decide +kernel) (Nat.le_of_ble_eq_true rfl) ?_
  refine r_iload1 dX11_standing_0 ?_
  refine r_iload2 dX11_standing_1 ?_
  refine t_icge (t := 11) dX11_standing_2 (by decide) (fun h2 => ?_) (fun h2 => False.elim (by omega))
  refine n_iconst dX11_standing_11 (by decide) (fun r11 e11_z => ?_)
  refine r_iret dX11_standing_12 rfl (Nat.le_of_ble_eq_true rfl) (Nat.le_of_ble_eq_true rfl) ?_
  exact hQ _ f (by rw [show n - 6 = 0 by omega]; show _ = ((1 : Nat) : Int); omega) (fun _ _ => rfl) (fun _ _ => rfl)
set_option maxHeartbeats 4000000 in
set_option maxRecDepth 100000 in
theorem s_X11_standing_5 {g : zGT} {w : zW} {f : Nat → Nat → Int32} {j : Nat → Nat → Int64} {b n : Nat} {Pl : Nat → Int} {x z : Int32} {Q : Option Value → zW → Prop} {QX : String → zW → Prop} (G : zGok g) (hbk : zK w b = 21) (hbn : zN w b = 6) (hx : x.toInt = 5) (hz : z.toInt = (n : Nat)) (hn6 : n ≤ 6) (hcn : 5 ≤ n) (hP : ∀ i, i < 5 → (f b i).toInt = Pl i) (hQ : ∀ (r : Int32) f2_z, r.toInt = (staN n (n - 5) 5 Pl : Nat) → (∀ q, q ≠ b → f2_z q = f q) → (∀ i, i < 5 → f2_z b i = f b i) → Q (some (.int r)) (zM w f2_z j)) : zC g 4 yX11_standing cX11_standing 5 (some .int) [.ref b, .int x, .int z] (zM w f j) (0, 0) Q QX := by
  refine zC_of G (by decide +kernel) (Nat.le_of_ble_eq_true rfl) ?_
  rcases Nat.lt_or_ge 5 n with hlt | hge
  · obtain ⟨m, hm_z⟩ : ∃ m, n - 5 = m + 1 := ⟨n - 5 - 1, by omega⟩
    have hsu : staN n (n - 5) 5 Pl = sumW (fun p => @ite _ ((∀ i, i < 5 → Pl i ≠ (p : Nat)) ∧ fitC (updW Pl 5 (p : Nat)) 5) (Classical.propDecidable _) (staN n m 6 (updW Pl 5 (p : Nat))) 0) n := by rw [hm_z]; rfl
    generalize hGd : (fun p : Nat => @ite Nat ((∀ i, i < 5 → Pl i ≠ (p : Nat)) ∧ fitC (updW Pl 5 (p : Nat)) 5) (Classical.propDecidable _) (staN n m 6 (updW Pl 5 (p : Nat))) 0) = GG at hsu
    have hGv : ∀ p, GG p = @ite Nat ((∀ i, i < 5 → Pl i ≠ (p : Nat)) ∧ fitC (updW Pl 5 (p : Nat)) 5) (Classical.propDecidable _) (staN n m 6 (updW Pl 5 (p : Nat))) 0 := fun p => by rw [← hGd]
    have hGb : ∀ p, GG p ≤ 7776 := by
      intro p
      rw [hGv]
      split
      · exact Nat.le_trans (staN_le hn6 m _ _) (Nat.le_trans (Nat.pow_le_pow_right (by decide) (show m ≤ 5 by omega)) (Nat.le_refl _))
      · exact Nat.zero_le _
    refine r_iload1 dX11_standing_0 ?_
    refine r_iload2 dX11_standing_1 ?_
    refine t_icge (t := 11) dX11_standing_2 (by decide) (fun h2 => False.elim (by omega)) (fun h2 => ?_)
    refine r_iload1 dX11_standing_5 ?_
    refine r_aloadR0 dX11_standing_6 ?_
    refine m_alen dX11_standing_7 (zge hbk (by decide)) hbn (by first | decide | omega) (fun r7 e7_z => ?_)
    refine t_iclt (t := 13) dX11_standing_8 (by decide) (fun h8 => ?_) (fun h8 => False.elim (by omega))
    refine n_iconst dX11_standing_13 (by decide) (fun r13 e13_z => ?_)
    refine r_istore3 dX11_standing_14 rfl ?_
    refine n_iconst dX11_standing_15 (by decide) (fun r15 e15_z => ?_)
    refine r_istore4 dX11_standing_16 rfl ?_
    have lp : ∀ (mz : Nat) (v : Int32) (p : Int32) (k : Nat) (f2_z : Nat → Nat → Int32), p.toInt = (k : Nat) → k ≤ n → v.toInt = (sumW GG k : Nat) → (∀ q, q ≠ b → f2_z q = f q) → (∀ i, i < 5 → f2_z b i = f b i) → n - k < mz → zR (zV g 4 yX11_standing 5 (some .int) (0, 0) Q QX) cX11_standing yX11_standing.cls 18 [some (.ref b), some (.int x), some (.int z), some (.int v), some (.int p)] [] (zM w f2_z j) (0, 0) := by
      intro mz
      induction mz with
      | zero =>
        intro v p k f2_z hck hk hv ho ho2 hmz
        exact absurd hmz (Nat.not_lt_zero _)
      | succ mz ih =>
        intro v p k f2_z hck hk hv ho ho2 hmz
        have hsb := sumW_le hGb k
        rcases Nat.lt_or_ge k n with hkl | hkl
        · have hsb1 := sumW_le hGb (k + 1)
          have hss : sumW GG (k + 1) = sumW GG k + GG k := rfl
          have hGk := hGv k
          have hP2 : ∀ i, i < 5 → (f2_z b i).toInt = Pl i := fun i hi_z => by rw [ho2 i hi_z]; exact hP i hi_z
          refine r_iload4 dX11_standing_18 ?_
          refine r_iload2 dX11_standing_20 ?_
          refine t_icge (t := 64) dX11_standing_21 (by decide) (fun h21 => False.elim (by omega)) (fun h21 => ?_)
          refine r_aloadR0 dX11_standing_24 ?_
          refine r_iload1 dX11_standing_25 ?_
          refine r_iload4 dX11_standing_26 ?_
          refine q_callS3 zm_RX11_475 dX11_standing_28 (Nat.le_of_ble_eq_true rfl) (Nat.le_of_ble_eq_true rfl) (Nat.le_of_ble_eq_true rfl) (Nat.le_of_ble_eq_true rfl) (Nat.le_of_ble_eq_true rfl) (s_X11_isFree (c := 5) G hbk hbn hx (by omega) (fun r28 e28_z => ?_))
          refine t_ifeq (t := 58) dX11_standing_31 (by decide) (fun h31 => ?_) (fun h31 => ?_)
          · refine n_iinc4 dX11_standing_58 (by decide) rfl (by omega) (fun r58 e58 => ?_)
            refine r_goto (t := 18) dX11_standing_61 (by decide) ?_
            rcases e28_z with ⟨g1, g2⟩ | ⟨g1, g2⟩
            · omega
            rw [if_neg (fun h9 => g2 (fun i hi_z => by rw [hP2 i hi_z, hck]; exact h9.1 i hi_z))] at hGk
            exact ih _ _ (k + 1) f2_z (by omega) (by omega) (by omega) ho ho2 (by omega)
          · refine r_aloadR0 dX11_standing_34 ?_
            refine r_iload1 dX11_standing_35 ?_
            refine r_iload4 dX11_standing_36 ?_
            refine m_iast (k := 5) dX11_standing_38 hbk hbn (by omega) (by omega) ?_
            refine r_aloadR0 dX11_standing_39 ?_
            refine r_iload1 dX11_standing_40 ?_
            refine q_callS2 zm_RX11_429 dX11_standing_41 (Nat.le_of_ble_eq_true rfl) (Nat.le_of_ble_eq_true rfl) (Nat.le_of_ble_eq_true rfl) (Nat.le_of_ble_eq_true rfl) (Nat.le_of_ble_eq_true rfl) (s_X11_creaseFits (c := 5) (Pl := updW Pl 5 (k : Nat)) G hbk hbn (fun i hi_z => ?_) hx (by omega) (fun r41 e41_z => ?_))
            · unfold updW
              by_cases hic : i = 5
              · rw [if_pos hic, hic, zu_at]; exact hck
              · rw [if_neg hic, zu_nn (Or.inr hic)]; exact hP2 i (by omega)
            refine t_ifeq (t := 58) dX11_standing_44 (by decide) (fun h44 => ?_) (fun h44 => ?_)
            · refine n_iinc4 dX11_standing_58 (by decide) rfl (by omega) (fun r58 e58 => ?_)
              refine r_goto (t := 18) dX11_standing_61 (by decide) ?_
              rcases e41_z with ⟨g1, g2⟩ | ⟨g1, g2⟩
              · omega
              rw [if_neg (fun h9 => g2 h9.2)] at hGk
              exact ih _ _ (k + 1) _ (by omega) (by omega) (by omega) (fun q hq => (zu_ne hq).trans (ho q hq)) (fun i hi_z => (zu_nn (Or.inr (by omega))).trans (ho2 i hi_z)) (by omega)
            · refine r_iload3 dX11_standing_47 ?_
              refine r_aloadR0 dX11_standing_48 ?_
              refine r_iload1 dX11_standing_49 ?_
              refine n_iconst dX11_standing_50 (by decide) (fun r50 e50 => ?_)
              refine n_iadd dX11_standing_51 (by omega) (fun r51 e51 => ?_)
              refine r_iload2 dX11_standing_52 ?_
              refine q_callS3 zm_RX11_433 dX11_standing_53 (Nat.le_of_ble_eq_true rfl) (Nat.le_of_ble_eq_true rfl) (Nat.le_of_ble_eq_true rfl) (Nat.le_of_ble_eq_true rfl) (Nat.le_of_ble_eq_true rfl) (s_X11_standing_6 (n := n) (Pl := updW Pl 5 (k : Nat)) G hbk hbn (by omega) hz hn6 (by omega) (fun i hi_z => ?_) (fun r53 f3_z e53 ho3 ho4 => ?_))
              · unfold updW
                by_cases hic : i = 5
                · rw [if_pos hic, hic, zu_at]; exact hck
                · rw [if_neg hic, zu_nn (Or.inr hic)]; exact hP2 i (by omega)
              have hyes : (∀ i, i < 5 → Pl i ≠ (k : Nat)) ∧ fitC (updW Pl 5 (k : Nat)) 5 := by
                rcases e28_z with ⟨g1, g2⟩ | ⟨g1, g2⟩
                · rcases e41_z with ⟨g3_z, g4⟩ | ⟨g3_z, g4⟩
                  · exact ⟨fun i hi_z => by rw [← hP2 i hi_z, ← hck]; exact g2 i hi_z, g4⟩
                  · omega
                · omega
              rw [if_pos hyes] at hGk
              rw [show n - 6 = m by omega] at e53
              refine n_iadd dX11_standing_56 (by omega) (fun r56 e56 => ?_)
              refine r_istore3 dX11_standing_57 rfl ?_
              refine n_iinc4 dX11_standing_58 (by decide) rfl (by omega) (fun r58 e58 => ?_)
              refine r_goto (t := 18) dX11_standing_61 (by decide) ?_
              exact ih _ _ (k + 1) f3_z (by omega) (by omega) (by omega) (fun q hq => (ho3 q hq).trans ((zu_ne hq).trans (ho q hq))) (fun i hi_z => (ho4 i (by omega)).trans ((zu_nn (Or.inr (by omega))).trans (ho2 i hi_z))) (by omega)
        · have hke : k = n := by omega
          refine r_iload4 dX11_standing_18 ?_
          refine r_iload2 dX11_standing_20 ?_
          refine t_icge (t := 64) dX11_standing_21 (by decide) (fun h21 => ?_) (fun h21 => False.elim (by omega))
          refine r_iload3 dX11_standing_64 ?_
          refine r_iret dX11_standing_65 rfl (Nat.le_of_ble_eq_true rfl) (Nat.le_of_ble_eq_true rfl) ?_
          refine hQ _ f2_z ?_ ho ho2
          rw [hsu, ← hke]
          exact hv
    exact lp 10 _ _ 0 f (by omega) (by omega) (by show _ = ((0 : Nat) : Int); omega) (fun _ _ => rfl) (fun _ _ => rfl) (by omega)
  · refine r_iload1 dX11_standing_0 ?_
    refine r_iload2 dX11_standing_1 ?_
    refine t_icge (t := 11) dX11_standing_2 (by decide) (fun h2 => ?_) (fun h2 => False.elim (by omega))
    refine n_iconst dX11_standing_11 (by decide) (fun r11 e11_z => ?_)
    refine r_iret dX11_standing_12 rfl (Nat.le_of_ble_eq_true rfl) (Nat.le_of_ble_eq_true rfl) ?_
    exact hQ _ f (by rw [show n - 5 = 0 by omega]; show _ = ((1 : Nat) : Int); omega) (fun _ _ => rfl) (fun _ _ => rfl)
set_option maxHeartbeats 4000000 in
set_option maxRecDepth 100000 in
theorem s_X11_standing_4 {g : zGT} {w : zW} {f : Nat → Nat → Int32} {j : Nat → Nat → Int64} {b n : Nat} {Pl : Nat → Int} {x z : Int32} {Q : Option Value → zW → Prop} {QX : String → zW → Prop} (G : zGok g) (hbk : zK w b = 21) (hbn : zN w b = 6) (hx : x.toInt = 4) (hz : z.toInt = (n : Nat)) (hn6 : n ≤ 6) (hcn : 4 ≤ n) (hP : ∀ i, i < 4 → (f b i).toInt = Pl i) (hQ : ∀ (r : Int32) f2_z, r.toInt = (staN n (n - 4) 4 Pl : Nat) → (∀ q, q ≠ b → f2_z q = f q) → (∀ i, i < 4 → f2_z b i = f b i) → Q (some (.int r)) (zM w f2_z j)) : zC g 5 yX11_standing cX11_standing 5 (some .int) [.ref b, .int x, .int z] (zM w f j) (0, 0) Q QX := by
  refine zC_of G (by decide +kernel) (Nat.le_of_ble_eq_true rfl) ?_
  rcases Nat.lt_or_ge 4 n with hlt | hge
  · obtain ⟨m, hm_z⟩ : ∃ m, n - 4 = m + 1 := ⟨n - 4 - 1, by omega⟩
    have hsu : staN n (n - 4) 4 Pl = sumW (fun p => @ite _ ((∀ i, i < 4 → Pl i ≠ (p : Nat)) ∧ fitC (updW Pl 4 (p : Nat)) 4) (Classical.propDecidable _) (staN n m 5 (updW Pl 4 (p : Nat))) 0) n := by rw [hm_z]; rfl
    generalize hGd : (fun p : Nat => @ite Nat ((∀ i, i < 4 → Pl i ≠ (p : Nat)) ∧ fitC (updW Pl 4 (p : Nat)) 4) (Classical.propDecidable _) (staN n m 5 (updW Pl 4 (p : Nat))) 0) = GG at hsu
    have hGv : ∀ p, GG p = @ite Nat ((∀ i, i < 4 → Pl i ≠ (p : Nat)) ∧ fitC (updW Pl 4 (p : Nat)) 4) (Classical.propDecidable _) (staN n m 5 (updW Pl 4 (p : Nat))) 0 := fun p => by rw [← hGd]
    have hGb : ∀ p, GG p ≤ 7776 := by
      intro p
      rw [hGv]
      split
      · exact Nat.le_trans (staN_le hn6 m _ _) (Nat.le_trans (Nat.pow_le_pow_right (by decide) (show m ≤ 5 by omega)) (Nat.le_refl _))
      · exact Nat.zero_le _
    refine r_iload1 dX11_standing_0 ?_
    refine r_iload2 dX11_standing_1 ?_
    refine t_icge (t := 11) dX11_standing_2 (by decide) (fun h2 => False.elim (by omega)) (fun h2 => ?_)
    refine r_iload1 dX11_standing_5 ?_
    refine r_aloadR0 dX11_standing_6 ?_
    refine m_alen dX11_standing_7 (zge hbk (by decide)) hbn (by first | decide | omega) (fun r7 e7_z => ?_)
    refine t_iclt (t := 13) dX11_standing_8 (by decide) (fun h8 => ?_) (fun h8 => False.elim (by omega))
    refine n_iconst dX11_standing_13 (by decide) (fun r13 e13_z => ?_)
    refine r_istore3 dX11_standing_14 rfl ?_
    refine n_iconst dX11_standing_15 (by decide) (fun r15 e15_z => ?_)
    refine r_istore4 dX11_standing_16 rfl ?_
    have lp : ∀ (mz : Nat) (v : Int32) (p : Int32) (k : Nat) (f2_z : Nat → Nat → Int32), p.toInt = (k : Nat) → k ≤ n → v.toInt = (sumW GG k : Nat) → (∀ q, q ≠ b → f2_z q = f q) → (∀ i, i < 4 → f2_z b i = f b i) → n - k < mz → zR (zV g 5 yX11_standing 5 (some .int) (0, 0) Q QX) cX11_standing yX11_standing.cls 18 [some (.ref b), some (.int x), some (.int z), some (.int v), some (.int p)] [] (zM w f2_z j) (0, 0) := by
      intro mz
      induction mz with
      | zero =>
        intro v p k f2_z hck hk hv ho ho2 hmz
        exact absurd hmz (Nat.not_lt_zero _)
      | succ mz ih =>
        intro v p k f2_z hck hk hv ho ho2 hmz
        have hsb := sumW_le hGb k
        rcases Nat.lt_or_ge k n with hkl | hkl
        · have hsb1 := sumW_le hGb (k + 1)
          have hss : sumW GG (k + 1) = sumW GG k + GG k := rfl
          have hGk := hGv k
          have hP2 : ∀ i, i < 4 → (f2_z b i).toInt = Pl i := fun i hi_z => by rw [ho2 i hi_z]; exact hP i hi_z
          refine r_iload4 dX11_standing_18 ?_
          refine r_iload2 dX11_standing_20 ?_
          refine t_icge (t := 64) dX11_standing_21 (by decide) (fun h21 => False.elim (by omega)) (fun h21 => ?_)
          refine r_aloadR0 dX11_standing_24 ?_
          refine r_iload1 dX11_standing_25 ?_
          refine r_iload4 dX11_standing_26 ?_
          refine q_callS3 zm_RX11_475 dX11_standing_28 (Nat.le_of_ble_eq_true rfl) (Nat.le_of_ble_eq_true rfl) (Nat.le_of_ble_eq_true rfl) (Nat.le_of_ble_eq_true rfl) (Nat.le_of_ble_eq_true rfl) (s_X11_isFree (c := 4) G hbk hbn hx (by omega) (fun r28 e28_z => ?_))
          refine t_ifeq (t := 58) dX11_standing_31 (by decide) (fun h31 => ?_) (fun h31 => ?_)
          · refine n_iinc4 dX11_standing_58 (by decide) rfl (by omega) (fun r58 e58 => ?_)
            refine r_goto (t := 18) dX11_standing_61 (by decide) ?_
            rcases e28_z with ⟨g1, g2⟩ | ⟨g1, g2⟩
            · omega
            rw [if_neg (fun h9 => g2 (fun i hi_z => by rw [hP2 i hi_z, hck]; exact h9.1 i hi_z))] at hGk
            exact ih _ _ (k + 1) f2_z (by omega) (by omega) (by omega) ho ho2 (by omega)
          · refine r_aloadR0 dX11_standing_34 ?_
            refine r_iload1 dX11_standing_35 ?_
            refine r_iload4 dX11_standing_36 ?_
            refine m_iast (k := 4) dX11_standing_38 hbk hbn (by omega) (by omega) ?_
            refine r_aloadR0 dX11_standing_39 ?_
            refine r_iload1 dX11_standing_40 ?_
            refine q_callS2 zm_RX11_429 dX11_standing_41 (Nat.le_of_ble_eq_true rfl) (Nat.le_of_ble_eq_true rfl) (Nat.le_of_ble_eq_true rfl) (Nat.le_of_ble_eq_true rfl) (Nat.le_of_ble_eq_true rfl) (s_X11_creaseFits (c := 4) (Pl := updW Pl 4 (k : Nat)) G hbk hbn (fun i hi_z => ?_) hx (by omega) (fun r41 e41_z => ?_))
            · unfold updW
              by_cases hic : i = 4
              · rw [if_pos hic, hic, zu_at]; exact hck
              · rw [if_neg hic, zu_nn (Or.inr hic)]; exact hP2 i (by omega)
            refine t_ifeq (t := 58) dX11_standing_44 (by decide) (fun h44 => ?_) (fun h44 => ?_)
            · refine n_iinc4 dX11_standing_58 (by decide) rfl (by omega) (fun r58 e58 => ?_)
              refine r_goto (t := 18) dX11_standing_61 (by decide) ?_
              rcases e41_z with ⟨g1, g2⟩ | ⟨g1, g2⟩
              · omega
              rw [if_neg (fun h9 => g2 h9.2)] at hGk
              exact ih _ _ (k + 1) _ (by omega) (by omega) (by omega) (fun q hq => (zu_ne hq).trans (ho q hq)) (fun i hi_z => (zu_nn (Or.inr (by omega))).trans (ho2 i hi_z)) (by omega)
            · refine r_iload3 dX11_standing_47 ?_
              refine r_aloadR0 dX11_standing_48 ?_
              refine r_iload1 dX11_standing_49 ?_
              refine n_iconst dX11_standing_50 (by decide) (fun r50 e50 => ?_)
              refine n_iadd dX11_standing_51 (by omega) (fun r51 e51 => ?_)
              refine r_iload2 dX11_standing_52 ?_
              refine q_callS3 zm_RX11_433 dX11_standing_53 (Nat.le_of_ble_eq_true rfl) (Nat.le_of_ble_eq_true rfl) (Nat.le_of_ble_eq_true rfl) (Nat.le_of_ble_eq_true rfl) (Nat.le_of_ble_eq_true rfl) (s_X11_standing_5 (n := n) (Pl := updW Pl 4 (k : Nat)) G hbk hbn (by omega) hz hn6 (by omega) (fun i hi_z => ?_) (fun r53 f3_z e53 ho3 ho4 => ?_))
              · unfold updW
                by_cases hic : i = 4
                · rw [if_pos hic, hic, zu_at]; exact hck
                · rw [if_neg hic, zu_nn (Or.inr hic)]; exact hP2 i (by omega)
              have hyes : (∀ i, i < 4 → Pl i ≠ (k : Nat)) ∧ fitC (updW Pl 4 (k : Nat)) 4 := by
                rcases e28_z with ⟨g1, g2⟩ | ⟨g1, g2⟩
                · rcases e41_z with ⟨g3_z, g4⟩ | ⟨g3_z, g4⟩
                  · exact ⟨fun i hi_z => by rw [← hP2 i hi_z, ← hck]; exact g2 i hi_z, g4⟩
                  · omega
                · omega
              rw [if_pos hyes] at hGk
              rw [show n - 5 = m by omega] at e53
              refine n_iadd dX11_standing_56 (by omega) (fun r56 e56 => ?_)
              refine r_istore3 dX11_standing_57 rfl ?_
              refine n_iinc4 dX11_standing_58 (by decide) rfl (by omega) (fun r58 e58 => ?_)
              refine r_goto (t := 18) dX11_standing_61 (by decide) ?_
              exact ih _ _ (k + 1) f3_z (by omega) (by omega) (by omega) (fun q hq => (ho3 q hq).trans ((zu_ne hq).trans (ho q hq))) (fun i hi_z => (ho4 i (by omega)).trans ((zu_nn (Or.inr (by omega))).trans (ho2 i hi_z))) (by omega)
        · have hke : k = n := by omega
          refine r_iload4 dX11_standing_18 ?_
          refine r_iload2 dX11_standing_20 ?_
          refine t_icge (t := 64) dX11_standing_21 (by decide) (fun h21 => ?_) (fun h21 => False.elim (by omega))
          refine r_iload3 dX11_standing_64 ?_
          refine r_iret dX11_standing_65 rfl (Nat.le_of_ble_eq_true rfl) (Nat.le_of_ble_eq_true rfl) ?_
          refine hQ _ f2_z ?_ ho ho2
          rw [hsu, ← hke]
          exact hv
    exact lp 10 _ _ 0 f (by omega) (by omega) (by show _ = ((0 : Nat) : Int); omega) (fun _ _ => rfl) (fun _ _ => rfl) (by omega)
  · refine r_iload1 dX11_standing_0 ?_
    refine r_iload2 dX11_standing_1 ?_
    refine t_icge (t := 11) dX11_standing_2 (by decide) (fun h2 => ?_) (fun h2 => False.elim (by omega))
    refine n_iconst dX11_standing_11 (by decide) (fun r11 e11_z => ?_)
    refine r_iret dX11_standing_12 rfl (Nat.le_of_ble_eq_true rfl) (Nat.le_of_ble_eq_true rfl) ?_
    exact hQ _ f (by rw [show n - 4 = 0 by omega]; show _ = ((1 : Nat) : Int); omega) (fun _ _ => rfl) (fun _ _ => rfl)
set_option maxHeartbeats 4000000 in
set_option maxRecDepth 100000 in
theorem s_X11_standing_3 {g : zGT} {w : zW} {f : Nat → Nat → Int32} {j : Nat → Nat → Int64} {b n : Nat} {Pl : Nat → Int} {x z : Int32} {Q : Option Value → zW → Prop} {QX : String → zW → Prop} (G : zGok g) (hbk : zK w b = 21) (hbn : zN w b = 6) (hx : x.toInt = 3) (hz : z.toInt = (n : Nat)) (hn6 : n ≤ 6) (hcn : 3 ≤ n) (hP : ∀ i, i < 3 → (f b i).toInt = Pl i) (hQ : ∀ (r : Int32) f2_z, r.toInt = (staN n (n - 3) 3 Pl : Nat) → (∀ q, q ≠ b → f2_z q = f q) → (∀ i, i < 3 → f2_z b i = f b i) → Q (some (.int r)) (zM w f2_z j)) : zC g 6 yX11_standing cX11_standing 5 (some .int) [.ref b, .int x, .int z] (zM w f j) (0, 0) Q QX := by
  refine zC_of G (by decide +kernel) (Nat.le_of_ble_eq_true rfl) ?_
  rcases Nat.lt_or_ge 3 n with hlt | hge
  · obtain ⟨m, hm_z⟩ : ∃ m, n - 3 = m + 1 := ⟨n - 3 - 1, by omega⟩
    have hsu : staN n (n - 3) 3 Pl = sumW (fun p => @ite _ ((∀ i, i < 3 → Pl i ≠ (p : Nat)) ∧ fitC (updW Pl 3 (p : Nat)) 3) (Classical.propDecidable _) (staN n m 4 (updW Pl 3 (p : Nat))) 0) n := by rw [hm_z]; rfl
    generalize hGd : (fun p : Nat => @ite Nat ((∀ i, i < 3 → Pl i ≠ (p : Nat)) ∧ fitC (updW Pl 3 (p : Nat)) 3) (Classical.propDecidable _) (staN n m 4 (updW Pl 3 (p : Nat))) 0) = GG at hsu
    have hGv : ∀ p, GG p = @ite Nat ((∀ i, i < 3 → Pl i ≠ (p : Nat)) ∧ fitC (updW Pl 3 (p : Nat)) 3) (Classical.propDecidable _) (staN n m 4 (updW Pl 3 (p : Nat))) 0 := fun p => by rw [← hGd]
    have hGb : ∀ p, GG p ≤ 7776 := by
      intro p
      rw [hGv]
      split
      · exact Nat.le_trans (staN_le hn6 m _ _) (Nat.le_trans (Nat.pow_le_pow_right (by decide) (show m ≤ 5 by omega)) (Nat.le_refl _))
      · exact Nat.zero_le _
    refine r_iload1 dX11_standing_0 ?_
    refine r_iload2 dX11_standing_1 ?_
    refine t_icge (t := 11) dX11_standing_2 (by decide) (fun h2 => False.elim (by omega)) (fun h2 => ?_)
    refine r_iload1 dX11_standing_5 ?_
    refine r_aloadR0 dX11_standing_6 ?_
    refine m_alen dX11_standing_7 (zge hbk (by decide)) hbn (by first | decide | omega) (fun r7 e7_z => ?_)
    refine t_iclt (t := 13) dX11_standing_8 (by decide) (fun h8 => ?_) (fun h8 => False.elim (by omega))
    refine n_iconst dX11_standing_13 (by decide) (fun r13 e13_z => ?_)
    refine r_istore3 dX11_standing_14 rfl ?_
    refine n_iconst dX11_standing_15 (by decide) (fun r15 e15_z => ?_)
    refine r_istore4 dX11_standing_16 rfl ?_
    have lp : ∀ (mz : Nat) (v : Int32) (p : Int32) (k : Nat) (f2_z : Nat → Nat → Int32), p.toInt = (k : Nat) → k ≤ n → v.toInt = (sumW GG k : Nat) → (∀ q, q ≠ b → f2_z q = f q) → (∀ i, i < 3 → f2_z b i = f b i) → n - k < mz → zR (zV g 6 yX11_standing 5 (some .int) (0, 0) Q QX) cX11_standing yX11_standing.cls 18 [some (.ref b), some (.int x), some (.int z), some (.int v), some (.int p)] [] (zM w f2_z j) (0, 0) := by
      intro mz
      induction mz with
      | zero =>
        intro v p k f2_z hck hk hv ho ho2 hmz
        exact absurd hmz (Nat.not_lt_zero _)
      | succ mz ih =>
        intro v p k f2_z hck hk hv ho ho2 hmz
        have hsb := sumW_le hGb k
        rcases Nat.lt_or_ge k n with hkl | hkl
        · have hsb1 := sumW_le hGb (k + 1)
          have hss : sumW GG (k + 1) = sumW GG k + GG k := rfl
          have hGk := hGv k
          have hP2 : ∀ i, i < 3 → (f2_z b i).toInt = Pl i := fun i hi_z => by rw [ho2 i hi_z]; exact hP i hi_z
          refine r_iload4 dX11_standing_18 ?_
          refine r_iload2 dX11_standing_20 ?_
          refine t_icge (t := 64) dX11_standing_21 (by decide) (fun h21 => False.elim (by omega)) (fun h21 => ?_)
          refine r_aloadR0 dX11_standing_24 ?_
          refine r_iload1 dX11_standing_25 ?_
          refine r_iload4 dX11_standing_26 ?_
          refine q_callS3 zm_RX11_475 dX11_standing_28 (Nat.le_of_ble_eq_true rfl) (Nat.le_of_ble_eq_true rfl) (Nat.le_of_ble_eq_true rfl) (Nat.le_of_ble_eq_true rfl) (Nat.le_of_ble_eq_true rfl) (s_X11_isFree (c := 3) G hbk hbn hx (by omega) (fun r28 e28_z => ?_))
          refine t_ifeq (t := 58) dX11_standing_31 (by decide) (fun h31 => ?_) (fun h31 => ?_)
          · refine n_iinc4 dX11_standing_58 (by decide) rfl (by omega) (fun r58 e58 => ?_)
            refine r_goto (t := 18) dX11_standing_61 (by decide) ?_
            rcases e28_z with ⟨g1, g2⟩ | ⟨g1, g2⟩
            · omega
            rw [if_neg (fun h9 => g2 (fun i hi_z => by rw [hP2 i hi_z, hck]; exact h9.1 i hi_z))] at hGk
            exact ih _ _ (k + 1) f2_z (by omega) (by omega) (by omega) ho ho2 (by omega)
          · refine r_aloadR0 dX11_standing_34 ?_
            refine r_iload1 dX11_standing_35 ?_
            refine r_iload4 dX11_standing_36 ?_
            refine m_iast (k := 3) dX11_standing_38 hbk hbn (by omega) (by omega) ?_
            refine r_aloadR0 dX11_standing_39 ?_
            refine r_iload1 dX11_standing_40 ?_
            refine q_callS2 zm_RX11_429 dX11_standing_41 (Nat.le_of_ble_eq_true rfl) (Nat.le_of_ble_eq_true rfl) (Nat.le_of_ble_eq_true rfl) (Nat.le_of_ble_eq_true rfl) (Nat.le_of_ble_eq_true rfl) (s_X11_creaseFits (c := 3) (Pl := updW Pl 3 (k : Nat)) G hbk hbn (fun i hi_z => ?_) hx (by omega) (fun r41 e41_z => ?_))
            · unfold updW
              by_cases hic : i = 3
              · rw [if_pos hic, hic, zu_at]; exact hck
              · rw [if_neg hic, zu_nn (Or.inr hic)]; exact hP2 i (by omega)
            refine t_ifeq (t := 58) dX11_standing_44 (by decide) (fun h44 => ?_) (fun h44 => ?_)
            · refine n_iinc4 dX11_standing_58 (by decide) rfl (by omega) (fun r58 e58 => ?_)
              refine r_goto (t := 18) dX11_standing_61 (by decide) ?_
              rcases e41_z with ⟨g1, g2⟩ | ⟨g1, g2⟩
              · omega
              rw [if_neg (fun h9 => g2 h9.2)] at hGk
              exact ih _ _ (k + 1) _ (by omega) (by omega) (by omega) (fun q hq => (zu_ne hq).trans (ho q hq)) (fun i hi_z => (zu_nn (Or.inr (by omega))).trans (ho2 i hi_z)) (by omega)
            · refine r_iload3 dX11_standing_47 ?_
              refine r_aloadR0 dX11_standing_48 ?_
              refine r_iload1 dX11_standing_49 ?_
              refine n_iconst dX11_standing_50 (by decide) (fun r50 e50 => ?_)
              refine n_iadd dX11_standing_51 (by omega) (fun r51 e51 => ?_)
              refine r_iload2 dX11_standing_52 ?_
              refine q_callS3 zm_RX11_433 dX11_standing_53 (Nat.le_of_ble_eq_true rfl) (Nat.le_of_ble_eq_true rfl) (Nat.le_of_ble_eq_true rfl) (Nat.le_of_ble_eq_true rfl) (Nat.le_of_ble_eq_true rfl) (s_X11_standing_4 (n := n) (Pl := updW Pl 3 (k : Nat)) G hbk hbn (by omega) hz hn6 (by omega) (fun i hi_z => ?_) (fun r53 f3_z e53 ho3 ho4 => ?_))
              · unfold updW
                by_cases hic : i = 3
                · rw [if_pos hic, hic, zu_at]; exact hck
                · rw [if_neg hic, zu_nn (Or.inr hic)]; exact hP2 i (by omega)
              have hyes : (∀ i, i < 3 → Pl i ≠ (k : Nat)) ∧ fitC (updW Pl 3 (k : Nat)) 3 := by
                rcases e28_z with ⟨g1, g2⟩ | ⟨g1, g2⟩
                · rcases e41_z with ⟨g3_z, g4⟩ | ⟨g3_z, g4⟩
                  · exact ⟨fun i hi_z => by rw [← hP2 i hi_z, ← hck]; exact g2 i hi_z, g4⟩
                  · omega
                · omega
              rw [if_pos hyes] at hGk
              rw [show n - 4 = m by omega] at e53
              refine n_iadd dX11_standing_56 (by omega) (fun r56 e56 => ?_)
              refine r_istore3 dX11_standing_57 rfl ?_
              refine n_iinc4 dX11_standing_58 (by decide) rfl (by omega) (fun r58 e58 => ?_)
              refine r_goto (t := 18) dX11_standing_61 (by decide) ?_
              exact ih _ _ (k + 1) f3_z (by omega) (by omega) (by omega) (fun q hq => (ho3 q hq).trans ((zu_ne hq).trans (ho q hq))) (fun i hi_z => (ho4 i (by omega)).trans ((zu_nn (Or.inr (by omega))).trans (ho2 i hi_z))) (by omega)
        · have hke : k = n := by omega
          refine r_iload4 dX11_standing_18 ?_
          refine r_iload2 dX11_standing_20 ?_
          refine t_icge (t := 64) dX11_standing_21 (by decide) (fun h21 => ?_) (fun h21 => False.elim (by omega))
          refine r_iload3 dX11_standing_64 ?_
          refine r_iret dX11_standing_65 rfl (Nat.le_of_ble_eq_true rfl) (Nat.le_of_ble_eq_true rfl) ?_
          refine hQ _ f2_z ?_ ho ho2
          rw [hsu, ← hke]
          exact hv
    exact lp 10 _ _ 0 f (by omega) (by omega) (by show _ = ((0 : Nat) : Int); omega) (fun _ _ => rfl) (fun _ _ => rfl) (by omega)
  · refine r_iload1 dX11_standing_0 ?_
    refine r_iload2 dX11_standing_1 ?_
    refine t_icge (t := 11) dX11_standing_2 (by decide) (fun h2 => ?_) (fun h2 => False.elim (by omega))
    refine n_iconst dX11_standing_11 (by decide) (fun r11 e11_z => ?_)
    refine r_iret dX11_standing_12 rfl (Nat.le_of_ble_eq_true rfl) (Nat.le_of_ble_eq_true rfl) ?_
    exact hQ _ f (by rw [show n - 3 = 0 by omega]; show _ = ((1 : Nat) : Int); omega) (fun _ _ => rfl) (fun _ _ => rfl)
set_option maxHeartbeats 4000000 in
set_option maxRecDepth 100000 in
theorem s_X11_standing_2 {g : zGT} {w : zW} {f : Nat → Nat → Int32} {j : Nat → Nat → Int64} {b n : Nat} {Pl : Nat → Int} {x z : Int32} {Q : Option Value → zW → Prop} {QX : String → zW → Prop} (G : zGok g) (hbk : zK w b = 21) (hbn : zN w b = 6) (hx : x.toInt = 2) (hz : z.toInt = (n : Nat)) (hn6 : n ≤ 6) (hcn : 2 ≤ n) (hP : ∀ i, i < 2 → (f b i).toInt = Pl i) (hQ : ∀ (r : Int32) f2_z, r.toInt = (staN n (n - 2) 2 Pl : Nat) → (∀ q, q ≠ b → f2_z q = f q) → (∀ i, i < 2 → f2_z b i = f b i) → Q (some (.int r)) (zM w f2_z j)) : zC g 7 yX11_standing cX11_standing 5 (some .int) [.ref b, .int x, .int z] (zM w f j) (0, 0) Q QX := by
  refine zC_of G (by decide +kernel) (Nat.le_of_ble_eq_true rfl) ?_
  rcases Nat.lt_or_ge 2 n with hlt | hge
  · obtain ⟨m, hm_z⟩ : ∃ m, n - 2 = m + 1 := ⟨n - 2 - 1, by omega⟩
    have hsu : staN n (n - 2) 2 Pl = sumW (fun p => @ite _ ((∀ i, i < 2 → Pl i ≠ (p : Nat)) ∧ fitC (updW Pl 2 (p : Nat)) 2) (Classical.propDecidable _) (staN n m 3 (updW Pl 2 (p : Nat))) 0) n := by rw [hm_z]; rfl
    generalize hGd : (fun p : Nat => @ite Nat ((∀ i, i < 2 → Pl i ≠ (p : Nat)) ∧ fitC (updW Pl 2 (p : Nat)) 2) (Classical.propDecidable _) (staN n m 3 (updW Pl 2 (p : Nat))) 0) = GG at hsu
    have hGv : ∀ p, GG p = @ite Nat ((∀ i, i < 2 → Pl i ≠ (p : Nat)) ∧ fitC (updW Pl 2 (p : Nat)) 2) (Classical.propDecidable _) (staN n m 3 (updW Pl 2 (p : Nat))) 0 := fun p => by rw [← hGd]
    have hGb : ∀ p, GG p ≤ 7776 := by
      intro p
      rw [hGv]
      split
      · exact Nat.le_trans (staN_le hn6 m _ _) (Nat.le_trans (Nat.pow_le_pow_right (by decide) (show m ≤ 5 by omega)) (Nat.le_refl _))
      · exact Nat.zero_le _
    refine r_iload1 dX11_standing_0 ?_
    refine r_iload2 dX11_standing_1 ?_
    refine t_icge (t := 11) dX11_standing_2 (by decide) (fun h2 => False.elim (by omega)) (fun h2 => ?_)
    refine r_iload1 dX11_standing_5 ?_
    refine r_aloadR0 dX11_standing_6 ?_
    refine m_alen dX11_standing_7 (zge hbk (by decide)) hbn (by first | decide | omega) (fun r7 e7_z => ?_)
    refine t_iclt (t := 13) dX11_standing_8 (by decide) (fun h8 => ?_) (fun h8 => False.elim (by omega))
    refine n_iconst dX11_standing_13 (by decide) (fun r13 e13_z => ?_)
    refine r_istore3 dX11_standing_14 rfl ?_
    refine n_iconst dX11_standing_15 (by decide) (fun r15 e15_z => ?_)
    refine r_istore4 dX11_standing_16 rfl ?_
    have lp : ∀ (mz : Nat) (v : Int32) (p : Int32) (k : Nat) (f2_z : Nat → Nat → Int32), p.toInt = (k : Nat) → k ≤ n → v.toInt = (sumW GG k : Nat) → (∀ q, q ≠ b → f2_z q = f q) → (∀ i, i < 2 → f2_z b i = f b i) → n - k < mz → zR (zV g 7 yX11_standing 5 (some .int) (0, 0) Q QX) cX11_standing yX11_standing.cls 18 [some (.ref b), some (.int x), some (.int z), some (.int v), some (.int p)] [] (zM w f2_z j) (0, 0) := by
      intro mz
      induction mz with
      | zero =>
        intro v p k f2_z hck hk hv ho ho2 hmz
        exact absurd hmz (Nat.not_lt_zero _)
      | succ mz ih =>
        intro v p k f2_z hck hk hv ho ho2 hmz
        have hsb := sumW_le hGb k
        rcases Nat.lt_or_ge k n with hkl | hkl
        · have hsb1 := sumW_le hGb (k + 1)
          have hss : sumW GG (k + 1) = sumW GG k + GG k := rfl
          have hGk := hGv k
          have hP2 : ∀ i, i < 2 → (f2_z b i).toInt = Pl i := fun i hi_z => by rw [ho2 i hi_z]; exact hP i hi_z
          refine r_iload4 dX11_standing_18 ?_
          refine r_iload2 dX11_standing_20 ?_
          refine t_icge (t := 64) dX11_standing_21 (by decide) (fun h21 => False.elim (by omega)) (fun h21 => ?_)
          refine r_aloadR0 dX11_standing_24 ?_
          refine r_iload1 dX11_standing_25 ?_
          refine r_iload4 dX11_standing_26 ?_
          refine q_callS3 zm_RX11_475 dX11_standing_28 (Nat.le_of_ble_eq_true rfl) (Nat.le_of_ble_eq_true rfl) (Nat.le_of_ble_eq_true rfl) (Nat.le_of_ble_eq_true rfl) (Nat.le_of_ble_eq_true rfl) (s_X11_isFree (c := 2) G hbk hbn hx (by omega) (fun r28 e28_z => ?_))
          refine t_ifeq (t := 58) dX11_standing_31 (by decide) (fun h31 => ?_) (fun h31 => ?_)
          · refine n_iinc4 dX11_standing_58 (by decide) rfl (by omega) (fun r58 e58 => ?_)
            refine r_goto (t := 18) dX11_standing_61 (by decide) ?_
            rcases e28_z with ⟨g1, g2⟩ | ⟨g1, g2⟩
            · omega
            rw [if_neg (fun h9 => g2 (fun i hi_z => by rw [hP2 i hi_z, hck]; exact h9.1 i hi_z))] at hGk
            exact ih _ _ (k + 1) f2_z (by omega) (by omega) (by omega) ho ho2 (by omega)
          · refine r_aloadR0 dX11_standing_34 ?_
            refine r_iload1 dX11_standing_35 ?_
            refine r_iload4 dX11_standing_36 ?_
            refine m_iast (k := 2) dX11_standing_38 hbk hbn (by omega) (by omega) ?_
            refine r_aloadR0 dX11_standing_39 ?_
            refine r_iload1 dX11_standing_40 ?_
            refine q_callS2 zm_RX11_429 dX11_standing_41 (Nat.le_of_ble_eq_true rfl) (Nat.le_of_ble_eq_true rfl) (Nat.le_of_ble_eq_true rfl) (Nat.le_of_ble_eq_true rfl) (Nat.le_of_ble_eq_true rfl) (s_X11_creaseFits (c := 2) (Pl := updW Pl 2 (k : Nat)) G hbk hbn (fun i hi_z => ?_) hx (by omega) (fun r41 e41_z => ?_))
            · unfold updW
              by_cases hic : i = 2
              · rw [if_pos hic, hic, zu_at]; exact hck
              · rw [if_neg hic, zu_nn (Or.inr hic)]; exact hP2 i (by omega)
            refine t_ifeq (t := 58) dX11_standing_44 (by decide) (fun h44 => ?_) (fun h44 => ?_)
            · refine n_iinc4 dX11_standing_58 (by decide) rfl (by omega) (fun r58 e58 => ?_)
              refine r_goto (t := 18) dX11_standing_61 (by decide) ?_
              rcases e41_z with ⟨g1, g2⟩ | ⟨g1, g2⟩
              · omega
              rw [if_neg (fun h9 => g2 h9.2)] at hGk
              exact ih _ _ (k + 1) _ (by omega) (by omega) (by omega) (fun q hq => (zu_ne hq).trans (ho q hq)) (fun i hi_z => (zu_nn (Or.inr (by omega))).trans (ho2 i hi_z)) (by omega)
            · refine r_iload3 dX11_standing_47 ?_
              refine r_aloadR0 dX11_standing_48 ?_
              refine r_iload1 dX11_standing_49 ?_
              refine n_iconst dX11_standing_50 (by decide) (fun r50 e50 => ?_)
              refine n_iadd dX11_standing_51 (by omega) (fun r51 e51 => ?_)
              refine r_iload2 dX11_standing_52 ?_
              refine q_callS3 zm_RX11_433 dX11_standing_53 (Nat.le_of_ble_eq_true rfl) (Nat.le_of_ble_eq_true rfl) (Nat.le_of_ble_eq_true rfl) (Nat.le_of_ble_eq_true rfl) (Nat.le_of_ble_eq_true rfl) (s_X11_standing_3 (n := n) (Pl := updW Pl 2 (k : Nat)) G hbk hbn (by omega) hz hn6 (by omega) (fun i hi_z => ?_) (fun r53 f3_z e53 ho3 ho4 => ?_))
              · unfold updW
                by_cases hic : i = 2
                · rw [if_pos hic, hic, zu_at]; exact hck
                · rw [if_neg hic, zu_nn (Or.inr hic)]; exact hP2 i (by omega)
              have hyes : (∀ i, i < 2 → Pl i ≠ (k : Nat)) ∧ fitC (updW Pl 2 (k : Nat)) 2 := by
                rcases e28_z with ⟨g1, g2⟩ | ⟨g1, g2⟩
                · rcases e41_z with ⟨g3_z, g4⟩ | ⟨g3_z, g4⟩
                  · exact ⟨fun i hi_z => by rw [← hP2 i hi_z, ← hck]; exact g2 i hi_z, g4⟩
                  · omega
                · omega
              rw [if_pos hyes] at hGk
              rw [show n - 3 = m by omega] at e53
              refine n_iadd dX11_standing_56 (by omega) (fun r56 e56 => ?_)
              refine r_istore3 dX11_standing_57 rfl ?_
              refine n_iinc4 dX11_standing_58 (by decide) rfl (by omega) (fun r58 e58 => ?_)
              refine r_goto (t := 18) dX11_standing_61 (by decide) ?_
              exact ih _ _ (k + 1) f3_z (by omega) (by omega) (by omega) (fun q hq => (ho3 q hq).trans ((zu_ne hq).trans (ho q hq))) (fun i hi_z => (ho4 i (by omega)).trans ((zu_nn (Or.inr (by omega))).trans (ho2 i hi_z))) (by omega)
        · have hke : k = n := by omega
          refine r_iload4 dX11_standing_18 ?_
          refine r_iload2 dX11_standing_20 ?_
          refine t_icge (t := 64) dX11_standing_21 (by decide) (fun h21 => ?_) (fun h21 => False.elim (by omega))
          refine r_iload3 dX11_standing_64 ?_
          refine r_iret dX11_standing_65 rfl (Nat.le_of_ble_eq_true rfl) (Nat.le_of_ble_eq_true rfl) ?_
          refine hQ _ f2_z ?_ ho ho2
          rw [hsu, ← hke]
          exact hv
    exact lp 10 _ _ 0 f (by omega) (by omega) (by show _ = ((0 : Nat) : Int); omega) (fun _ _ => rfl) (fun _ _ => rfl) (by omega)
  · refine r_iload1 dX11_standing_0 ?_
    refine r_iload2 dX11_standing_1 ?_
    refine t_icge (t := 11) dX11_standing_2 (by decide) (fun h2 => ?_) (fun h2 => False.elim (by omega))
    refine n_iconst dX11_standing_11 (by decide) (fun r11 e11_z => ?_)
    refine r_iret dX11_standing_12 rfl (Nat.le_of_ble_eq_true rfl) (Nat.le_of_ble_eq_true rfl) ?_
    exact hQ _ f (by rw [show n - 2 = 0 by omega]; show _ = ((1 : Nat) : Int); omega) (fun _ _ => rfl) (fun _ _ => rfl)
set_option maxHeartbeats 4000000 in
set_option maxRecDepth 100000 in
theorem s_X11_standing_1 {g : zGT} {w : zW} {f : Nat → Nat → Int32} {j : Nat → Nat → Int64} {b n : Nat} {Pl : Nat → Int} {x z : Int32} {Q : Option Value → zW → Prop} {QX : String → zW → Prop} (G : zGok g) (hbk : zK w b = 21) (hbn : zN w b = 6) (hx : x.toInt = 1) (hz : z.toInt = (n : Nat)) (hn6 : n ≤ 6) (hcn : 1 ≤ n) (hP : ∀ i, i < 1 → (f b i).toInt = Pl i) (hQ : ∀ (r : Int32) f2_z, r.toInt = (staN n (n - 1) 1 Pl : Nat) → (∀ q, q ≠ b → f2_z q = f q) → (∀ i, i < 1 → f2_z b i = f b i) → Q (some (.int r)) (zM w f2_z j)) : zC g 8 yX11_standing cX11_standing 5 (some .int) [.ref b, .int x, .int z] (zM w f j) (0, 0) Q QX := by
  refine zC_of G (by decide +kernel) (Nat.le_of_ble_eq_true rfl) ?_
  rcases Nat.lt_or_ge 1 n with hlt | hge
  · obtain ⟨m, hm_z⟩ : ∃ m, n - 1 = m + 1 := ⟨n - 1 - 1, by omega⟩
    have hsu : staN n (n - 1) 1 Pl = sumW (fun p => @ite _ ((∀ i, i < 1 → Pl i ≠ (p : Nat)) ∧ fitC (updW Pl 1 (p : Nat)) 1) (Classical.propDecidable _) (staN n m 2 (updW Pl 1 (p : Nat))) 0) n := by rw [hm_z]; rfl
    generalize hGd : (fun p : Nat => @ite Nat ((∀ i, i < 1 → Pl i ≠ (p : Nat)) ∧ fitC (updW Pl 1 (p : Nat)) 1) (Classical.propDecidable _) (staN n m 2 (updW Pl 1 (p : Nat))) 0) = GG at hsu
    have hGv : ∀ p, GG p = @ite Nat ((∀ i, i < 1 → Pl i ≠ (p : Nat)) ∧ fitC (updW Pl 1 (p : Nat)) 1) (Classical.propDecidable _) (staN n m 2 (updW Pl 1 (p : Nat))) 0 := fun p => by rw [← hGd]
    have hGb : ∀ p, GG p ≤ 7776 := by
      intro p
      rw [hGv]
      split
      · exact Nat.le_trans (staN_le hn6 m _ _) (Nat.le_trans (Nat.pow_le_pow_right (by decide) (show m ≤ 5 by omega)) (Nat.le_refl _))
      · exact Nat.zero_le _
    refine r_iload1 dX11_standing_0 ?_
    refine r_iload2 dX11_standing_1 ?_
    refine t_icge (t := 11) dX11_standing_2 (by decide) (fun h2 => False.elim (by omega)) (fun h2 => ?_)
    refine r_iload1 dX11_standing_5 ?_
    refine r_aloadR0 dX11_standing_6 ?_
    refine m_alen dX11_standing_7 (zge hbk (by decide)) hbn (by first | decide | omega) (fun r7 e7_z => ?_)
    refine t_iclt (t := 13) dX11_standing_8 (by decide) (fun h8 => ?_) (fun h8 => False.elim (by omega))
    refine n_iconst dX11_standing_13 (by decide) (fun r13 e13_z => ?_)
    refine r_istore3 dX11_standing_14 rfl ?_
    refine n_iconst dX11_standing_15 (by decide) (fun r15 e15_z => ?_)
    refine r_istore4 dX11_standing_16 rfl ?_
    have lp : ∀ (mz : Nat) (v : Int32) (p : Int32) (k : Nat) (f2_z : Nat → Nat → Int32), p.toInt = (k : Nat) → k ≤ n → v.toInt = (sumW GG k : Nat) → (∀ q, q ≠ b → f2_z q = f q) → (∀ i, i < 1 → f2_z b i = f b i) → n - k < mz → zR (zV g 8 yX11_standing 5 (some .int) (0, 0) Q QX) cX11_standing yX11_standing.cls 18 [some (.ref b), some (.int x), some (.int z), some (.int v), some (.int p)] [] (zM w f2_z j) (0, 0) := by
      intro mz
      induction mz with
      | zero =>
        intro v p k f2_z hck hk hv ho ho2 hmz
        exact absurd hmz (Nat.not_lt_zero _)
      | succ mz ih =>
        intro v p k f2_z hck hk hv ho ho2 hmz
        have hsb := sumW_le hGb k
        rcases Nat.lt_or_ge k n with hkl | hkl
        · have hsb1 := sumW_le hGb (k + 1)
          have hss : sumW GG (k + 1) = sumW GG k + GG k := rfl
          have hGk := hGv k
          have hP2 : ∀ i, i < 1 → (f2_z b i).toInt = Pl i := fun i hi_z => by rw [ho2 i hi_z]; exact hP i hi_z
          refine r_iload4 dX11_standing_18 ?_
          refine r_iload2 dX11_standing_20 ?_
          refine t_icge (t := 64) dX11_standing_21 (by decide) (fun h21 => False.elim (by omega)) (fun h21 => ?_)
          refine r_aloadR0 dX11_standing_24 ?_
          refine r_iload1 dX11_standing_25 ?_
          refine r_iload4 dX11_standing_26 ?_
          refine q_callS3 zm_RX11_475 dX11_standing_28 (Nat.le_of_ble_eq_true rfl) (Nat.le_of_ble_eq_true rfl) (Nat.le_of_ble_eq_true rfl) (Nat.le_of_ble_eq_true rfl) (Nat.le_of_ble_eq_true rfl) (s_X11_isFree (c := 1) G hbk hbn hx (by omega) (fun r28 e28_z => ?_))
          refine t_ifeq (t := 58) dX11_standing_31 (by decide) (fun h31 => ?_) (fun h31 => ?_)
          · refine n_iinc4 dX11_standing_58 (by decide) rfl (by omega) (fun r58 e58 => ?_)
            refine r_goto (t := 18) dX11_standing_61 (by decide) ?_
            rcases e28_z with ⟨g1, g2⟩ | ⟨g1, g2⟩
            · omega
            rw [if_neg (fun h9 => g2 (fun i hi_z => by rw [hP2 i hi_z, hck]; exact h9.1 i hi_z))] at hGk
            exact ih _ _ (k + 1) f2_z (by omega) (by omega) (by omega) ho ho2 (by omega)
          · refine r_aloadR0 dX11_standing_34 ?_
            refine r_iload1 dX11_standing_35 ?_
            refine r_iload4 dX11_standing_36 ?_
            refine m_iast (k := 1) dX11_standing_38 hbk hbn (by omega) (by omega) ?_
            refine r_aloadR0 dX11_standing_39 ?_
            refine r_iload1 dX11_standing_40 ?_
            refine q_callS2 zm_RX11_429 dX11_standing_41 (Nat.le_of_ble_eq_true rfl) (Nat.le_of_ble_eq_true rfl) (Nat.le_of_ble_eq_true rfl) (Nat.le_of_ble_eq_true rfl) (Nat.le_of_ble_eq_true rfl) (s_X11_creaseFits (c := 1) (Pl := updW Pl 1 (k : Nat)) G hbk hbn (fun i hi_z => ?_) hx (by omega) (fun r41 e41_z => ?_))
            · unfold updW
              by_cases hic : i = 1
              · rw [if_pos hic, hic, zu_at]; exact hck
              · rw [if_neg hic, zu_nn (Or.inr hic)]; exact hP2 i (by omega)
            refine t_ifeq (t := 58) dX11_standing_44 (by decide) (fun h44 => ?_) (fun h44 => ?_)
            · refine n_iinc4 dX11_standing_58 (by decide) rfl (by omega) (fun r58 e58 => ?_)
              refine r_goto (t := 18) dX11_standing_61 (by decide) ?_
              rcases e41_z with ⟨g1, g2⟩ | ⟨g1, g2⟩
              · omega
              rw [if_neg (fun h9 => g2 h9.2)] at hGk
              exact ih _ _ (k + 1) _ (by omega) (by omega) (by omega) (fun q hq => (zu_ne hq).trans (ho q hq)) (fun i hi_z => (zu_nn (Or.inr (by omega))).trans (ho2 i hi_z)) (by omega)
            · refine r_iload3 dX11_standing_47 ?_
              refine r_aloadR0 dX11_standing_48 ?_
              refine r_iload1 dX11_standing_49 ?_
              refine n_iconst dX11_standing_50 (by decide) (fun r50 e50 => ?_)
              refine n_iadd dX11_standing_51 (by omega) (fun r51 e51 => ?_)
              refine r_iload2 dX11_standing_52 ?_
              refine q_callS3 zm_RX11_433 dX11_standing_53 (Nat.le_of_ble_eq_true rfl) (Nat.le_of_ble_eq_true rfl) (Nat.le_of_ble_eq_true rfl) (Nat.le_of_ble_eq_true rfl) (Nat.le_of_ble_eq_true rfl) (s_X11_standing_2 (n := n) (Pl := updW Pl 1 (k : Nat)) G hbk hbn (by omega) hz hn6 (by omega) (fun i hi_z => ?_) (fun r53 f3_z e53 ho3 ho4 => ?_))
              · unfold updW
                by_cases hic : i = 1
                · rw [if_pos hic, hic, zu_at]; exact hck
                · rw [if_neg hic, zu_nn (Or.inr hic)]; exact hP2 i (by omega)
              have hyes : (∀ i, i < 1 → Pl i ≠ (k : Nat)) ∧ fitC (updW Pl 1 (k : Nat)) 1 := by
                rcases e28_z with ⟨g1, g2⟩ | ⟨g1, g2⟩
                · rcases e41_z with ⟨g3_z, g4⟩ | ⟨g3_z, g4⟩
                  · exact ⟨fun i hi_z => by rw [← hP2 i hi_z, ← hck]; exact g2 i hi_z, g4⟩
                  · omega
                · omega
              rw [if_pos hyes] at hGk
              rw [show n - 2 = m by omega] at e53
              refine n_iadd dX11_standing_56 (by omega) (fun r56 e56 => ?_)
              refine r_istore3 dX11_standing_57 rfl ?_
              refine n_iinc4 dX11_standing_58 (by decide) rfl (by omega) (fun r58 e58 => ?_)
              refine r_goto (t := 18) dX11_standing_61 (by decide) ?_
              exact ih _ _ (k + 1) f3_z (by omega) (by omega) (by omega) (fun q hq => (ho3 q hq).trans ((zu_ne hq).trans (ho q hq))) (fun i hi_z => (ho4 i (by omega)).trans ((zu_nn (Or.inr (by omega))).trans (ho2 i hi_z))) (by omega)
        · have hke : k = n := by omega
          refine r_iload4 dX11_standing_18 ?_
          refine r_iload2 dX11_standing_20 ?_
          refine t_icge (t := 64) dX11_standing_21 (by decide) (fun h21 => ?_) (fun h21 => False.elim (by omega))
          refine r_iload3 dX11_standing_64 ?_
          refine r_iret dX11_standing_65 rfl (Nat.le_of_ble_eq_true rfl) (Nat.le_of_ble_eq_true rfl) ?_
          refine hQ _ f2_z ?_ ho ho2
          rw [hsu, ← hke]
          exact hv
    exact lp 10 _ _ 0 f (by omega) (by omega) (by show _ = ((0 : Nat) : Int); omega) (fun _ _ => rfl) (fun _ _ => rfl) (by omega)
  · refine r_iload1 dX11_standing_0 ?_
    refine r_iload2 dX11_standing_1 ?_
    refine t_icge (t := 11) dX11_standing_2 (by decide) (fun h2 => ?_) (fun h2 => False.elim (by omega))
    refine n_iconst dX11_standing_11 (by decide) (fun r11 e11_z => ?_)
    refine r_iret dX11_standing_12 rfl (Nat.le_of_ble_eq_true rfl) (Nat.le_of_ble_eq_true rfl) ?_
    exact hQ _ f (by rw [show n - 1 = 0 by omega]; show _ = ((1 : Nat) : Int); omega) (fun _ _ => rfl) (fun _ _ => rfl)
set_option maxHeartbeats 4000000 in
set_option maxRecDepth 100000 in
theorem s_X11_standing_0 {g : zGT} {w : zW} {f : Nat → Nat → Int32} {j : Nat → Nat → Int64} {b n : Nat} {Pl : Nat → Int} {x z : Int32} {Q : Option Value → zW → Prop} {QX : String → zW → Prop} (G : zGok g) (hbk : zK w b = 21) (hbn : zN w b = 6) (hx : x.toInt = 0) (hz : z.toInt = (n : Nat)) (hn6 : n ≤ 6) (hcn : 0 ≤ n) (hP : ∀ i, i < 0 → (f b i).toInt = Pl i) (hQ : ∀ (r : Int32) f2_z, r.toInt = (staN n (n - 0) 0 Pl : Nat) → (∀ q, q ≠ b → f2_z q = f q) → (∀ i, i < 0 → f2_z b i = f b i) → Q (some (.int r)) (zM w f2_z j)) : zC g 9 yX11_standing cX11_standing 5 (some .int) [.ref b, .int x, .int z] (zM w f j) (0, 0) Q QX := by
  refine zC_of G (by decide +kernel) (Nat.le_of_ble_eq_true rfl) ?_
  rcases Nat.lt_or_ge 0 n with hlt | hge
  · obtain ⟨m, hm_z⟩ : ∃ m, n - 0 = m + 1 := ⟨n - 0 - 1, by omega⟩
    have hsu : staN n (n - 0) 0 Pl = sumW (fun p => @ite _ ((∀ i, i < 0 → Pl i ≠ (p : Nat)) ∧ fitC (updW Pl 0 (p : Nat)) 0) (Classical.propDecidable _) (staN n m 1 (updW Pl 0 (p : Nat))) 0) n := by rw [hm_z]; rfl
    generalize hGd : (fun p : Nat => @ite Nat ((∀ i, i < 0 → Pl i ≠ (p : Nat)) ∧ fitC (updW Pl 0 (p : Nat)) 0) (Classical.propDecidable _) (staN n m 1 (updW Pl 0 (p : Nat))) 0) = GG at hsu
    have hGv : ∀ p, GG p = @ite Nat ((∀ i, i < 0 → Pl i ≠ (p : Nat)) ∧ fitC (updW Pl 0 (p : Nat)) 0) (Classical.propDecidable _) (staN n m 1 (updW Pl 0 (p : Nat))) 0 := fun p => by rw [← hGd]
    have hGb : ∀ p, GG p ≤ 7776 := by
      intro p
      rw [hGv]
      split
      · exact Nat.le_trans (staN_le hn6 m _ _) (Nat.le_trans (Nat.pow_le_pow_right (by decide) (show m ≤ 5 by omega)) (Nat.le_refl _))
      · exact Nat.zero_le _
    refine r_iload1 dX11_standing_0 ?_
    refine r_iload2 dX11_standing_1 ?_
    refine t_icge (t := 11) dX11_standing_2 (by decide) (fun h2 => False.elim (by omega)) (fun h2 => ?_)
    refine r_iload1 dX11_standing_5 ?_
    refine r_aloadR0 dX11_standing_6 ?_
    refine m_alen dX11_standing_7 (zge hbk (by decide)) hbn (by first | decide | omega) (fun r7 e7_z => ?_)
    refine t_iclt (t := 13) dX11_standing_8 (by decide) (fun h8 => ?_) (fun h8 => False.elim (by omega))
    refine n_iconst dX11_standing_13 (by decide) (fun r13 e13_z => ?_)
    refine r_istore3 dX11_standing_14 rfl ?_
    refine n_iconst dX11_standing_15 (by decide) (fun r15 e15_z => ?_)
    refine r_istore4 dX11_standing_16 rfl ?_
    have lp : ∀ (mz : Nat) (v : Int32) (p : Int32) (k : Nat) (f2_z : Nat → Nat → Int32), p.toInt = (k : Nat) → k ≤ n → v.toInt = (sumW GG k : Nat) → (∀ q, q ≠ b → f2_z q = f q) → (∀ i, i < 0 → f2_z b i = f b i) → n - k < mz → zR (zV g 9 yX11_standing 5 (some .int) (0, 0) Q QX) cX11_standing yX11_standing.cls 18 [some (.ref b), some (.int x), some (.int z), some (.int v), some (.int p)] [] (zM w f2_z j) (0, 0) := by
      intro mz
      induction mz with
      | zero =>
        intro v p k f2_z hck hk hv ho ho2 hmz
        exact absurd hmz (Nat.not_lt_zero _)
      | succ mz ih =>
        intro v p k f2_z hck hk hv ho ho2 hmz
        have hsb := sumW_le hGb k
        rcases Nat.lt_or_ge k n with hkl | hkl
        · have hsb1 := sumW_le hGb (k + 1)
          have hss : sumW GG (k + 1) = sumW GG k + GG k := rfl
          have hGk := hGv k
          have hP2 : ∀ i, i < 0 → (f2_z b i).toInt = Pl i := fun i hi_z => by rw [ho2 i hi_z]; exact hP i hi_z
          refine r_iload4 dX11_standing_18 ?_
          refine r_iload2 dX11_standing_20 ?_
          refine t_icge (t := 64) dX11_standing_21 (by decide) (fun h21 => False.elim (by omega)) (fun h21 => ?_)
          refine r_aloadR0 dX11_standing_24 ?_
          refine r_iload1 dX11_standing_25 ?_
          refine r_iload4 dX11_standing_26 ?_
          refine q_callS3 zm_RX11_475 dX11_standing_28 (Nat.le_of_ble_eq_true rfl) (Nat.le_of_ble_eq_true rfl) (Nat.le_of_ble_eq_true rfl) (Nat.le_of_ble_eq_true rfl) (Nat.le_of_ble_eq_true rfl) (s_X11_isFree (c := 0) G hbk hbn hx (by omega) (fun r28 e28_z => ?_))
          refine t_ifeq (t := 58) dX11_standing_31 (by decide) (fun h31 => ?_) (fun h31 => ?_)
          · refine n_iinc4 dX11_standing_58 (by decide) rfl (by omega) (fun r58 e58 => ?_)
            refine r_goto (t := 18) dX11_standing_61 (by decide) ?_
            rcases e28_z with ⟨g1, g2⟩ | ⟨g1, g2⟩
            · omega
            rw [if_neg (fun h9 => g2 (fun i hi_z => by rw [hP2 i hi_z, hck]; exact h9.1 i hi_z))] at hGk
            exact ih _ _ (k + 1) f2_z (by omega) (by omega) (by omega) ho ho2 (by omega)
          · refine r_aloadR0 dX11_standing_34 ?_
            refine r_iload1 dX11_standing_35 ?_
            refine r_iload4 dX11_standing_36 ?_
            refine m_iast (k := 0) dX11_standing_38 hbk hbn (by omega) (by omega) ?_
            refine r_aloadR0 dX11_standing_39 ?_
            refine r_iload1 dX11_standing_40 ?_
            refine q_callS2 zm_RX11_429 dX11_standing_41 (Nat.le_of_ble_eq_true rfl) (Nat.le_of_ble_eq_true rfl) (Nat.le_of_ble_eq_true rfl) (Nat.le_of_ble_eq_true rfl) (Nat.le_of_ble_eq_true rfl) (s_X11_creaseFits (c := 0) (Pl := updW Pl 0 (k : Nat)) G hbk hbn (fun i hi_z => ?_) hx (by omega) (fun r41 e41_z => ?_))
            · unfold updW
              by_cases hic : i = 0
              · rw [if_pos hic, hic, zu_at]; exact hck
              · rw [if_neg hic, zu_nn (Or.inr hic)]; exact hP2 i (by omega)
            refine t_ifeq (t := 58) dX11_standing_44 (by decide) (fun h44 => ?_) (fun h44 => ?_)
            · refine n_iinc4 dX11_standing_58 (by decide) rfl (by omega) (fun r58 e58 => ?_)
              refine r_goto (t := 18) dX11_standing_61 (by decide) ?_
              rcases e41_z with ⟨g1, g2⟩ | ⟨g1, g2⟩
              · omega
              rw [if_neg (fun h9 => g2 h9.2)] at hGk
              exact ih _ _ (k + 1) _ (by omega) (by omega) (by omega) (fun q hq => (zu_ne hq).trans (ho q hq)) (fun i hi_z => (zu_nn (Or.inr (by omega))).trans (ho2 i hi_z)) (by omega)
            · refine r_iload3 dX11_standing_47 ?_
              refine r_aloadR0 dX11_standing_48 ?_
              refine r_iload1 dX11_standing_49 ?_
              refine n_iconst dX11_standing_50 (by decide) (fun r50 e50 => ?_)
              refine n_iadd dX11_standing_51 (by omega) (fun r51 e51 => ?_)
              refine r_iload2 dX11_standing_52 ?_
              refine q_callS3 zm_RX11_433 dX11_standing_53 (Nat.le_of_ble_eq_true rfl) (Nat.le_of_ble_eq_true rfl) (Nat.le_of_ble_eq_true rfl) (Nat.le_of_ble_eq_true rfl) (Nat.le_of_ble_eq_true rfl) (s_X11_standing_1 (n := n) (Pl := updW Pl 0 (k : Nat)) G hbk hbn (by omega) hz hn6 (by omega) (fun i hi_z => ?_) (fun r53 f3_z e53 ho3 ho4 => ?_))
              · unfold updW
                by_cases hic : i = 0
                · rw [if_pos hic, hic, zu_at]; exact hck
                · rw [if_neg hic, zu_nn (Or.inr hic)]; exact hP2 i (by omega)
              have hyes : (∀ i, i < 0 → Pl i ≠ (k : Nat)) ∧ fitC (updW Pl 0 (k : Nat)) 0 := by
                rcases e28_z with ⟨g1, g2⟩ | ⟨g1, g2⟩
                · rcases e41_z with ⟨g3_z, g4⟩ | ⟨g3_z, g4⟩
                  · exact ⟨fun i hi_z => by rw [← hP2 i hi_z, ← hck]; exact g2 i hi_z, g4⟩
                  · omega
                · omega
              rw [if_pos hyes] at hGk
              rw [show n - 1 = m by omega] at e53
              refine n_iadd dX11_standing_56 (by omega) (fun r56 e56 => ?_)
              refine r_istore3 dX11_standing_57 rfl ?_
              refine n_iinc4 dX11_standing_58 (by decide) rfl (by omega) (fun r58 e58 => ?_)
              refine r_goto (t := 18) dX11_standing_61 (by decide) ?_
              exact ih _ _ (k + 1) f3_z (by omega) (by omega) (by omega) (fun q hq => (ho3 q hq).trans ((zu_ne hq).trans (ho q hq))) (fun i hi_z => (ho4 i (by omega)).trans ((zu_nn (Or.inr (by omega))).trans (ho2 i hi_z))) (by omega)
        · have hke : k = n := by omega
          refine r_iload4 dX11_standing_18 ?_
          refine r_iload2 dX11_standing_20 ?_
          refine t_icge (t := 64) dX11_standing_21 (by decide) (fun h21 => ?_) (fun h21 => False.elim (by omega))
          refine r_iload3 dX11_standing_64 ?_
          refine r_iret dX11_standing_65 rfl (Nat.le_of_ble_eq_true rfl) (Nat.le_of_ble_eq_true rfl) ?_
          refine hQ _ f2_z ?_ ho ho2
          rw [hsu, ← hke]
          exact hv
    exact lp 10 _ _ 0 f (by omega) (by omega) (by show _ = ((0 : Nat) : Int); omega) (fun _ _ => rfl) (fun _ _ => rfl) (by omega)
  · refine r_iload1 dX11_standing_0 ?_
    refine r_iload2 dX11_standing_1 ?_
    refine t_icge (t := 11) dX11_standing_2 (by decide) (fun h2 => ?_) (fun h2 => False.elim (by omega))
    refine n_iconst dX11_standing_11 (by decide) (fun r11 e11_z => ?_)
    refine r_iret dX11_standing_12 rfl (Nat.le_of_ble_eq_true rfl) (Nat.le_of_ble_eq_true rfl) ?_
    exact hQ _ f (by rw [show n - 0 = 0 by omega]; show _ = ((1 : Nat) : Int); omega) (fun _ _ => rfl) (fun _ _ => rfl)
set_option maxHeartbeats 4000000 in
set_option maxRecDepth 100000 in
theorem s_X11_stacks {g : zGT} {w : zW} {f : Nat → Nat → Int32} {j : Nat → Nat → Int64} {X : Nat} {T : zTb} {Q : Option Value → zW → Prop} {QX : String → zW → Prop} (G : zGok g) (hx : shX w X) (ht : tbAt w f X (X + 11) T) (hQ : ∀ (r : Int32) f2_z, r.toInt = (staN (tbC T) (tbC T) 0 (fun _ => 0) : Nat) → qX X f f2_z → Q (some (.int r)) (zM w f2_z j)) : zC g 10 yX11_stacks cX11_stacks 1 (some .int) [.ref X] (zM w f j) (0, 0) Q QX := by
  refine zC_of G (by decide +kernel) (Nat.le_of_ble_eq_true rfl) ?_
  have ht0 := ht
  obtain ⟨nq, pp, g0, p0, hnq, hna0, hpp, hctb, hpast, hwf⟩ := ht0
  have hna1 := hna0
  obtain ⟨hna, hcn, ⟨hz1, hz2, hz3⟩, hl1, hl2, hl3⟩ := hna0
  have hmo := hctb.2.2.1
  have hn6 : tbC T ≤ 6 := hwf.2.1
  have hg4 : tbG T ≤ 4 := hwf.2.2.1
  have hwm := hwf.2.2.2.2.2.2.2.1
  have hrt := wfT_rch hwf
  have hfl : (f (X + 11 + 7) 2).toInt = (T.2.2.1.2.length : Nat) := by rw [hmo.1]; have := hmo.2.1; exact zi_n (by omega)
  have hcells : (f nq 1).toInt = (tbC T : Nat) := by rw [hcn.2.1]; exact zi_n (n := tbC T) (by omega)
  have hgs : (f nq 2).toInt = (tbG T : Nat) := by rw [hcn.2.2.1]; exact zi_n (n := tbG T) (by omega)
  refine r_aloadR0 dX11_stacks_0 ?_
  refine m_getR (q := (X + 104)) zf_RX11_81 rfl dX11_stacks_1 (shX_k (w := w) hx) (shX_p15 hx) ?_
  refine n_iconst dX11_stacks_4 (by decide) (fun r4 e4_z => ?_)
  refine r_aloadR0 dX11_stacks_5 ?_
  refine m_getR (q := (X + 11)) zf_RX11_33 rfl dX11_stacks_6 (shX_k (w := w) hx) (shX_p5 hx) ?_
  refine m_getR (q := nq) zf_RX11_181 rfl dX11_stacks_9 (shTb_k (shX_tb hx)) hnq ?_
  refine m_getV (x := (f nq 1)) zf_RX11_185 rfl dX11_stacks_12 (shNa_k hna) (rfl) ?_
  refine q_callS3 zm_RX11_433 dX11_stacks_15 (Nat.le_of_ble_eq_true rfl) (Nat.le_of_ble_eq_true rfl) (Nat.le_of_ble_eq_true rfl) (Nat.le_of_ble_eq_true rfl) (Nat.le_of_ble_eq_true rfl) (s_X11_standing_0 (n := tbC T) (Pl := fun _ => 0) G (shX_k105 hx) (shX_n105 hx) (by omega) hcells hn6 (Nat.zero_le _) (fun i hi_z => absurd hi_z (by omega)) (fun r15 f2_z e15_z ho3 ho4 => ?_))
  refine r_iret dX11_stacks_18 rfl (Nat.le_of_ble_eq_true rfl) (Nat.le_of_ble_eq_true rfl) ?_
  exact hQ _ f2_z e15_z (qX_S (fun q hq => ho3 q (by omega)))
