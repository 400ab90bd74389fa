/-! the class: the tape, fault -/
def bytW (x : Int32) (i : Nat) : Int32 := vp_nar .byte ((x >>> (nI (24 - 8 * i) &&& 31)).toInt8.toInt32)
set_option maxHeartbeats 4000000 in
set_option maxRecDepth 100000 in
theorem s_X11_fault {g : zGT} {w : zW} {f : Nat → Nat → Int32} {j : Nat → Nat → Int64} {X : Nat} {x : Int32} {Q : Option Value → zW → Prop} {QX : String → zW → Prop} (G : zGok g) (hx : shX w X) (hQ : ∀ r : Int32, r.toInt = (if x.toInt = 0 then (f X 2).toInt else if x.toInt = 1 then (f X 3).toInt else -1) → Q (some (.int r)) (zM w f j)) : zC g 1 yX11_fault cX11_fault 2 (some .int) [.ref X, .int x] (zM w f j) (0, 0) Q QX := by
  refine zC_of G (by decide +kernel) (Nat.le_of_ble_eq_true rfl) ?_
  refine r_iload1 dX11_fault_0 ?_
  refine t_ifne (t := 9) dX11_fault_1 (by decide) (fun h1 => ?_) (fun h1 => ?_)
  · refine r_iload1 dX11_fault_9 ?_
    refine n_iconst dX11_fault_10 (by decide) (fun r10 e10_z => ?_)
    refine t_icne (t := 21) dX11_fault_11 (by decide) (fun h11 => ?_) (fun h11 => ?_)
    · refine n_iconst dX11_fault_21 (by decide) (fun r21 e21_z => ?_)
      refine r_iret dX11_fault_22 rfl (Nat.le_of_ble_eq_true rfl) (Nat.le_of_ble_eq_true rfl) ?_
      refine hQ _ ?_
      first
        | (rw [if_pos (by omega)]; done)
        | (rw [if_neg (by omega), if_pos (by omega)]; done)
        | (rw [if_neg (by omega), if_neg (by omega)]; omega)
    · refine r_aloadR0 dX11_fault_14 ?_
      refine m_getV (x := (f X 3)) zf_RX11_20 rfl dX11_fault_15 (shX_k (w := w) hx) (rfl) ?_
      refine r_goto (t := 22) dX11_fault_18 (by decide) ?_
      refine r_iret dX11_fault_22 rfl (Nat.le_of_ble_eq_true rfl) (Nat.le_of_ble_eq_true rfl) ?_
      refine hQ _ ?_
      first
        | (rw [if_pos (by omega)]; done)
        | (rw [if_neg (by omega), if_pos (by omega)]; done)
        | (rw [if_neg (by omega), if_neg (by omega)]; omega)
  · refine r_aloadR0 dX11_fault_4 ?_
    refine m_getV (x := (f X 2)) zf_RX11_17 rfl dX11_fault_5 (shX_k (w := w) hx) (rfl) ?_
    refine r_iret dX11_fault_8 rfl (Nat.le_of_ble_eq_true rfl) (Nat.le_of_ble_eq_true rfl) ?_
    refine hQ _ ?_
    first
      | (rw [if_pos (by omega)]; done)
      | (rw [if_neg (by omega), if_pos (by omega)]; done)
      | (rw [if_neg (by omega), if_neg (by omega)]; omega)
set_option maxHeartbeats 4000000 in
set_option maxRecDepth 100000 in
theorem s_X11_putOnTape {g : zGT} {w : zW} {f : Nat → Nat → Int32} {j : Nat → Nat → Int64} {X : Nat} {x : Int32} {p : Nat} {Q : Option Value → zW → Prop} {QX : String → zW → Prop} (G : zGok g) (hx : shX w X) (hp : (f X 1).toInt = (p : Nat)) (hp4 : p + 4 ≤ 900) (hQ : ∀ f2_z, (∀ q, q ≠ X → q ≠ X + 1 → f2_z q = f q) → (∀ k, k ≠ 1 → f2_z X k = f X k) → (f2_z X 1).toInt = ((p + 4 : Nat) : Int) → (∀ i, i < 4 → f2_z (X + 1) (p + i) = bytW x i) → (∀ k, (k < p ∨ p + 4 ≤ k) → f2_z (X + 1) k = f (X + 1) k) → Q none (zM w f2_z j)) : zC g 1 yX11_putOnTape cX11_putOnTape 3 none [.ref X, .int x] (zM w f j) (0, 0) Q QX := by
  refine zC_of G (by decide +kernel) (Nat.le_of_ble_eq_true rfl) ?_
  have lp : ∀ (mz : Nat) (sh : Int32) (k : Nat) (f2_z : Nat → Nat → Int32), sh.toInt = 24 - 8 * (k : Int) → k ≤ 4 → (∀ q, q ≠ X → q ≠ X + 1 → f2_z q = f q) → (∀ k, k ≠ 1 → f2_z X k = f X k) → (f2_z X 1).toInt = ((p + k : Nat) : Int) → (∀ i, i < k → f2_z (X + 1) (p + i) = bytW x i) → (∀ k9, (k9 < p ∨ p + 4 ≤ k9) → f2_z (X + 1) k9 = f (X + 1) k9) → 4 - k < mz → zR (zV g 1 yX11_putOnTape 3 none (0, 0) Q QX) cX11_putOnTape yX11_putOnTape.cls 3 [some (.ref X), some (.int x), some (.int sh)] [] (zM w f2_z j) (0, 0) := by
    intro mz
    induction mz with
    | zero =>
      intro sh k f2_z hsh hk ho hof htp hbt hrs hmz
      exact absurd hmz (Nat.not_lt_zero _)
    | succ mz ih =>
      intro sh k f2_z hsh hk ho hof htp hbt hrs hmz
      rcases Nat.lt_or_ge k 4 with hkl | hkl
      · refine r_iload2 dX11_putOnTape_3 ?_
        refine t_iflt (t := 55) dX11_putOnTape_4 (by decide) (fun h4 => False.elim (by omega)) (fun h4 => ?_)
        have hsh2 : sh.toInt = ((24 - 8 * k : Nat) : Int) := by omega
        refine r_aloadR0 dX11_putOnTape_7 ?_
        refine m_getV (x := (f2_z X 1)) zf_RX11_13 rfl dX11_putOnTape_8 (shX_k (w := w) hx) (rfl) ?_
        refine t_iflt (t := 49) dX11_putOnTape_11 (by decide) (fun h11 => False.elim (by omega)) (fun h11 => ?_)
        refine r_aloadR0 dX11_putOnTape_14 ?_
        refine m_getV (x := (f2_z X 1)) zf_RX11_13 rfl dX11_putOnTape_15 (shX_k (w := w) hx) (rfl) ?_
        refine r_aloadR0 dX11_putOnTape_18 ?_
        refine m_getR (q := (X + 1)) zf_RX11_9 rfl dX11_putOnTape_19 (shX_k (w := w) hx) (shX_p0 hx) ?_
        refine m_alen dX11_putOnTape_22 (zge (shX_k1 hx) (by decide)) (shX_n1 hx) (by first | decide | omega) (fun r22 e22_z => ?_)
        refine t_icge (t := 49) dX11_putOnTape_23 (by decide) (fun h23 => False.elim (by omega)) (fun h23 => ?_)
        refine r_aloadR0 dX11_putOnTape_26 ?_
        refine m_getR (q := (X + 1)) zf_RX11_9 rfl dX11_putOnTape_27 (shX_k (w := w) hx) (shX_p0 hx) ?_
        refine r_aloadR0 dX11_putOnTape_30 ?_
        refine m_getV (x := (f2_z X 1)) zf_RX11_13 rfl dX11_putOnTape_31 (shX_k (w := w) hx) (rfl) ?_
        refine r_iload1 dX11_putOnTape_34 ?_
        refine r_iload2 dX11_putOnTape_35 ?_
        refine r_ishr dX11_putOnTape_36 ?_
        refine n_name (fun r36 e36 => ?_)
        refine r_i2b dX11_putOnTape_37 ?_
        refine n_name (fun r37 e37 => ?_)
        refine m_bast (k := (p + k)) dX11_putOnTape_38 (shX_k1 hx) (shX_n1 hx) (by omega) (by omega) ?_
        refine r_aloadR0 dX11_putOnTape_39 ?_
        refine r_dup dX11_putOnTape_40 rfl ?_
        refine m_getV (x := (f2_z X 1)) zf_RX11_13 rfl dX11_putOnTape_41 (shX_k (w := w) hx) ((zu_nn (by omega)).trans (rfl)) ?_
        refine n_iconst dX11_putOnTape_44 (by decide) (fun r44 e44 => ?_)
        refine n_iadd dX11_putOnTape_45 (by omega) (fun r45 e45 => ?_)
        refine m_putI zf_RX11_13 (by intro C T N h_z; cases h_z; rfl) rfl dX11_putOnTape_46 (shX_k (w := w) hx) ?_
        refine n_iinc2 dX11_putOnTape_49 (by decide) rfl (by omega) (fun r49 e49 => ?_)
        refine r_goto (t := 3) dX11_putOnTape_52 (by decide) ?_
        refine ih _ (k + 1) _ (by omega) (by omega) (fun q h1 h2 => ?_) (fun k9 h1 => ?_) ?_ (fun i hi_z => ?_) (fun k9 h1 => ?_) (by omega)
        · exact (zu_ne h1).trans ((zu_ne h2).trans (ho q h1 h2))
        · exact (zu_nn (Or.inr h1)).trans ((zu_nn (Or.inl (by omega))).trans (hof k9 h1))
        · rw [zu_at]; omega
        · rw [zu_ne (by omega)]
          rcases Nat.lt_or_ge i k with h9 | h9
          · rw [zu_nn (Or.inr (by omega))]; exact hbt i h9
          · rw [show i = k by omega, zu_at, e37, e36, zi_of (n := 24 - 8 * k) hsh2 (by omega)]
            rfl
        · rw [zu_ne (by omega), zu_nn (Or.inr (by omega))]
          exact hrs k9 (by omega)
      · refine r_iload2 dX11_putOnTape_3 ?_
        refine t_iflt (t := 55) dX11_putOnTape_4 (by decide) (fun h4 => ?_) (fun h4 => False.elim (by omega))
        refine r_vret dX11_putOnTape_55 rfl (Nat.le_of_ble_eq_true rfl) (Nat.le_of_ble_eq_true rfl) ?_
        have hke : k = 4 := by omega
        subst hke
        exact hQ f2_z ho hof htp hbt hrs
  refine n_bipush dX11_putOnTape_0 (by decide) (fun r0 e0_z => ?_)
  refine r_istore2 dX11_putOnTape_2 rfl ?_
  exact lp 5 _ 0 f (by omega) (by omega) (fun _ _ _ => rfl) (fun _ _ => rfl) (by omega) (fun i hi_z => absurd hi_z (by omega)) (fun _ _ => rfl) (by omega)
