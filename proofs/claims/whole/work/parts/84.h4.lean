/-! the reference: what trays tell; creases made, rows seen, stacks -/
set_option maxHeartbeats 4000000 in
set_option maxRecDepth 100000 in
theorem s_X12_marksFault {g : zGT} {w : zW} {f : Nat → Nat → Int32} {j : Nat → Nat → Int64} {A : Nat} {T : zTb} {x : Int32} {ty : Nat → zTy} {Q : Option Value → zW → Prop} {QX : String → zW → Prop} (G : zGok g) (hs : shM w A) (hk : ctKn (f (A + 1)) T) (hw : wfT T) (hty : ∀ t, t < 4 → ctTm f j A t (ty t)) (hQ : ∀ r : Int32, (¬ (0 ≤ x.toInt ∧ x.toInt < 4) ∧ r.toInt = 1 ∨ (0 ≤ x.toInt ∧ x.toInt < 4) ∧ ty x.toInt.toNat = none ∧ r.toInt = 2 ∨ (0 ≤ x.toInt ∧ x.toInt < 4) ∧ (∃ s l, ty x.toInt.toNat = some (s, l) ∧ (r.toInt = 0 ∧ sightC l ∨ r.toInt = 3 ∧ ¬ sightC l))) → Q (some (.int r)) (zM w f j)) : zC g 4 yX12_marksFault cX12_marksFault 5 (some .int) [.ref A, .int x] (zM w f j) (0, 0) Q QX := by
  refine zC_of G (by decide +kernel) (Nat.le_of_ble_eq_true rfl) ?_
  have hk9 := hk
  obtain ⟨⟨k0_z, k1_z, k2_z, k3_z, k4_z, k5_z, k6_z⟩, km, kg, kp, kl1, kl2, kl3⟩ := hk9
  have km9 := km
  obtain ⟨m1_z, m2_z, m3_z⟩ := km9
  have hn6 : tbC T ≤ 6 := hw.2.1
  have hg4 : tbG T ≤ 4 := hw.2.2.1
  have hwm := hw.2.2.2.2.2.2.2.1
  have hml : T.2.2.1.2.length ≤ 5 := hwm.2.1
  have hm99 := hwm.2.2
  have hrt := wfT_rch hw
  have hLl : (tbL T).length ≤ 6 := Nat.le_trans (rch_cell hrt).2.2.2.2 hn6
  have hpl : T.2.2.2.length ≤ 10 := hw.2.2.2.2.2.2.2.2.1
  rcases Classical.em (0 ≤ x.toInt ∧ x.toInt < 4) with hok | hok
  · have hct := hty _ (show x.toInt.toNat < 4 by omega)
    cases hcs : ty x.toInt.toNat with
    | none =>
      rw [hcs] at hct
      have hno : (f (A + 18) x.toInt.toNat).toInt = -1 := hct
      refine r_aloadR0 dX12_marksFault_0 ?_
      refine r_iload1 dX12_marksFault_1 ?_
      refine q_callV1 zm_RX12_389 dX12_marksFault_2 (shM_k hs) (by decide) rfl (Nat.le_of_ble_eq_true rfl) (Nat.le_of_ble_eq_true rfl) (Nat.le_of_ble_eq_true rfl) (Nat.le_of_ble_eq_true rfl) (Nat.le_of_ble_eq_true rfl) (s_X12_trayFault G hs (fun r2 e2_z => ?_))
      rw [if_pos (by omega), if_pos hno] at e2_z
      refine r_istore2 dX12_marksFault_5 rfl ?_
      refine r_iload2 dX12_marksFault_6 ?_
      refine t_ifeq (t := 12) dX12_marksFault_7 (by decide) (fun h7 => False.elim (by omega)) (fun h7 => ?_)
      refine r_iload2 dX12_marksFault_10 ?_
      refine r_iret dX12_marksFault_11 rfl (Nat.le_of_ble_eq_true rfl) (Nat.le_of_ble_eq_true rfl) ?_
      exact hQ _ (Or.inr (Or.inl ⟨hok, hcs, by omega⟩))
    | some q =>
      obtain ⟨s, l⟩ := q
      rw [hcs] at hct
      obtain ⟨t1, t2, t3, t4, t5⟩ := hct
      refine r_aloadR0 dX12_marksFault_0 ?_
      refine r_iload1 dX12_marksFault_1 ?_
      refine q_callV1 zm_RX12_389 dX12_marksFault_2 (shM_k hs) (by decide) rfl (Nat.le_of_ble_eq_true rfl) (Nat.le_of_ble_eq_true rfl) (Nat.le_of_ble_eq_true rfl) (Nat.le_of_ble_eq_true rfl) (Nat.le_of_ble_eq_true rfl) (s_X12_trayFault G hs (fun r2 e2_z => ?_))
      rw [if_pos (by omega), if_neg (by omega)] at e2_z
      refine r_istore2 dX12_marksFault_5 rfl ?_
      refine r_iload2 dX12_marksFault_6 ?_
      refine t_ifeq (t := 12) dX12_marksFault_7 (by decide) (fun h7 => ?_) (fun h7 => False.elim (by omega))
      refine r_aloadR0 dX12_marksFault_12 ?_
      refine m_getR (q := (A + 19)) zf_RX12_71 rfl dX12_marksFault_13 (shM_k hs) (shM_p19 hs) ?_
      refine r_iload1 dX12_marksFault_16 ?_
      refine m_iald (k := x.toInt.toNat) (x := (f (A + 19) x.toInt.toNat)) dX12_marksFault_17 (shM_k19 hs) (shM_n19 hs) (by omega) (by omega) (rfl) ?_
      refine n_i2l dX12_marksFault_18 (fun r18 e18_z => ?_)
      refine n_lconst (q := 1) dX12_marksFault_19 rfl (by decide) (fun r19 e19_z => ?_)
      refine n_ldc2 (n := 6) zk_RX12_522 dX12_marksFault_20 (by decide) (fun r20 e20 => ?_)
      refine q_callS3 zm_RX12_138 dX12_marksFault_23 (Nat.le_of_ble_eq_true rfl) (Nat.le_of_ble_eq_true rfl) (Nat.le_of_ble_eq_true rfl) (Nat.le_of_ble_eq_true rfl) (Nat.le_of_ble_eq_true rfl) (s_X12_within G  (fun r23 e23_z => ?_))
      have lp : ∀ (mz : Nat) (u : Int32) (c : Int32) (k : Nat), c.toInt = (k : Nat) → k ≤ l.length → (0 ≤ u.toInt ∧ u.toInt ≤ 1) → (u.toInt = 0 → ¬ ((1 ≤ l.length ∧ l.length ≤ 6) ∧ ∀ (i : Nat) (v : Int), i < k → l[i]? = some v → -1 ≤ v)) → (u.toInt ≠ 0 → (1 ≤ l.length ∧ l.length ≤ 6) ∧ ∀ (i : Nat) (v : Int), i < k → l[i]? = some v → -1 ≤ v) → l.length - k < mz → zR (zV g 4 yX12_marksFault 5 (some .int) (0, 0) Q QX) cX12_marksFault yX12_marksFault.cls 30 [some (.ref A), some (.int x), some (.int r2), some (.int u), some (.int c)] [] (zM w f j) (0, 0) := by
        intro mz
        induction mz with
        | zero =>
          intro u c k hck hk8 hu01 hu0 hu1 hmz
          exact absurd hmz (Nat.not_lt_zero _)
        | succ mz ih =>
          intro u c k hck hk8 hu01 hu0 hu1 hmz
          rcases Nat.lt_or_ge k l.length with hkl | hkl
          · obtain ⟨v, hv⟩ : ∃ v, l[k]? = some v := ⟨_, List.getElem?_eq_getElem hkl⟩
            have hnum := t5 k v hv
            rcases (show u.toInt = 0 ∨ u.toInt ≠ 0 by omega) with hu | hu
            · refine r_iload4 dX12_marksFault_30 ?_
              refine r_aloadR0 dX12_marksFault_32 ?_
              refine m_getR (q := (A + 19)) zf_RX12_71 rfl dX12_marksFault_33 (shM_k hs) (shM_p19 hs) ?_
              refine r_iload1 dX12_marksFault_36 ?_
              refine m_iald (k := x.toInt.toNat) (x := (f (A + 19) x.toInt.toNat)) dX12_marksFault_37 (shM_k19 hs) (shM_n19 hs) (by omega) (by omega) (rfl) ?_
              refine t_icge (t := 76) dX12_marksFault_38 (by decide) (fun h38 => False.elim (by omega)) (fun h38 => ?_)
              refine r_iload3 dX12_marksFault_41 ?_
              refine t_ifeq (t := 76) dX12_marksFault_42 (by decide) (fun h42 => ?_) (fun h42 => False.elim (by omega))
              refine r_iload3 dX12_marksFault_76 ?_
              refine t_ifeq (t := 84) dX12_marksFault_77 (by decide) (fun h77 => ?_) (fun h77 => False.elim (by omega))
              refine n_iconst dX12_marksFault_84 (by decide) (fun r84 e84 => ?_)
              refine r_iret dX12_marksFault_85 rfl (Nat.le_of_ble_eq_true rfl) (Nat.le_of_ble_eq_true rfl) ?_
              refine hQ _ (Or.inr (Or.inr ⟨hok, s, l, hcs, Or.inr ⟨by omega, fun h9 => ?_⟩⟩))
              have h8 := hu0 hu
              exact h8 ⟨h9.1, fun i v9 hi_z hv9 => h9.2 v9 (List.mem_of_getElem? hv9)⟩
            · refine r_iload4 dX12_marksFault_30 ?_
              refine r_aloadR0 dX12_marksFault_32 ?_
              refine m_getR (q := (A + 19)) zf_RX12_71 rfl dX12_marksFault_33 (shM_k hs) (shM_p19 hs) ?_
              refine r_iload1 dX12_marksFault_36 ?_
              refine m_iald (k := x.toInt.toNat) (x := (f (A + 19) x.toInt.toNat)) dX12_marksFault_37 (shM_k19 hs) (shM_n19 hs) (by omega) (by omega) (rfl) ?_
              refine t_icge (t := 76) dX12_marksFault_38 (by decide) (fun h38 => False.elim (by omega)) (fun h38 => ?_)
              refine r_iload3 dX12_marksFault_41 ?_
              refine t_ifeq (t := 76) dX12_marksFault_42 (by decide) (fun h42 => False.elim (by omega)) (fun h42 => ?_)
              refine r_aloadR0 dX12_marksFault_45 ?_
              refine m_getR (q := (A + 20)) zf_RX12_74 rfl dX12_marksFault_46 (shM_k hs) (shM_p20 hs) ?_
              refine n_bipush dX12_marksFault_49 (by decide) (fun r49 e49 => ?_)
              refine r_iload1 dX12_marksFault_51 ?_
              refine n_imulc dX12_marksFault_52 e49 (by omega) (fun r52 e52 => ?_)
              refine r_iload4 dX12_marksFault_53 ?_
              refine n_iadd dX12_marksFault_55 (by omega) (fun r55 e55 => ?_)
              refine m_lald (k := (30 * x.toInt.toNat + k)) (x := (j (A + 20) ((30 * x.toInt.toNat + k)))) dX12_marksFault_56 (shM_k20 hs) (shM_n20 hs) (by omega) (by omega) (rfl) ?_
              refine n_ldc2 (n := -1) zk_RX12_375 dX12_marksFault_57 (by decide) (fun r57 e57 => ?_)
              refine n_lcmp dX12_marksFault_60 (fun r60 e60 => ?_)
              unfold zcmp at e60
              refine t_iflt (t := 68) dX12_marksFault_61 (by decide) (fun h61 => ?_) (fun h61 => ?_)
              · refine n_iconst dX12_marksFault_68 (by decide) (fun r68 e68 => ?_)
                refine r_istore3 dX12_marksFault_69 rfl ?_
                refine n_iinc4 dX12_marksFault_70 (by decide) rfl (by omega) (fun r70 e70 => ?_)
                refine r_goto (t := 30) dX12_marksFault_73 (by decide) ?_
                refine ih _ _ (k + 1) (by omega) (by omega) (by omega) (fun h9 h8 => ?_) (fun h9 => ?_) (by omega)
                · have h7 := h8.2 k v (by omega) hv; omega
                · refine ⟨(hu1 hu).1, fun i v9 hi_z hv9 => ?_⟩
                  rcases Nat.lt_or_ge i k with h8 | h8
                  · exact (hu1 hu).2 i v9 h8 hv9
                  · rw [show i = k by omega, hv] at hv9
                    rw [← Option.some.inj hv9]; omega
              · refine n_iconst dX12_marksFault_64 (by decide) (fun r64 e64 => ?_)
                refine r_goto (t := 69) dX12_marksFault_65 (by decide) ?_
                refine r_istore3 dX12_marksFault_69 rfl ?_
                refine n_iinc4 dX12_marksFault_70 (by decide) rfl (by omega) (fun r70 e70 => ?_)
                refine r_goto (t := 30) dX12_marksFault_73 (by decide) ?_
                refine ih _ _ (k + 1) (by omega) (by omega) (by omega) (fun h9 h8 => ?_) (fun h9 => ?_) (by omega)
                · have h7 := h8.2 k v (by omega) hv; omega
                · refine ⟨(hu1 hu).1, fun i v9 hi_z hv9 => ?_⟩
                  rcases Nat.lt_or_ge i k with h8 | h8
                  · exact (hu1 hu).2 i v9 h8 hv9
                  · rw [show i = k by omega, hv] at hv9
                    rw [← Option.some.inj hv9]; omega
          · refine r_iload4 dX12_marksFault_30 ?_
            refine r_aloadR0 dX12_marksFault_32 ?_
            refine m_getR (q := (A + 19)) zf_RX12_71 rfl dX12_marksFault_33 (shM_k hs) (shM_p19 hs) ?_
            refine r_iload1 dX12_marksFault_36 ?_
            refine m_iald (k := x.toInt.toNat) (x := (f (A + 19) x.toInt.toNat)) dX12_marksFault_37 (shM_k19 hs) (shM_n19 hs) (by omega) (by omega) (rfl) ?_
            refine t_icge (t := 76) dX12_marksFault_38 (by decide) (fun h38 => ?_) (fun h38 => False.elim (by omega))
            refine r_iload3 dX12_marksFault_76 ?_
            refine t_ifeq (t := 84) dX12_marksFault_77 (by decide) (fun h77 => ?_) (fun h77 => ?_)
            · refine n_iconst dX12_marksFault_84 (by decide) (fun r84 e84 => ?_)
              refine r_iret dX12_marksFault_85 rfl (Nat.le_of_ble_eq_true rfl) (Nat.le_of_ble_eq_true rfl) ?_
              refine hQ _ (Or.inr (Or.inr ⟨hok, s, l, hcs, ?_⟩))
              rcases (show u.toInt = 0 ∨ u.toInt ≠ 0 by omega) with hu | hu
              · first | (exfalso; omega) | exact Or.inr ⟨by omega, fun h9 => hu0 hu ⟨h9.1, fun i v9 hi_z hv9 => h9.2 v9 (List.mem_of_getElem? hv9)⟩⟩
              · first
                | (exfalso; omega)
                | exact Or.inl ⟨by omega, (hu1 hu).1, fun v9 hv9 => (by obtain ⟨i, hi_z⟩ := List.mem_iff_getElem?.mp hv9; exact (hu1 hu).2 i v9 (by have := (List.getElem?_eq_some_iff.mp hi_z).1; omega) hi_z)⟩
            · refine n_iconst dX12_marksFault_80 (by decide) (fun r80 e80 => ?_)
              refine r_goto (t := 85) dX12_marksFault_81 (by decide) ?_
              refine r_iret dX12_marksFault_85 rfl (Nat.le_of_ble_eq_true rfl) (Nat.le_of_ble_eq_true rfl) ?_
              refine hQ _ (Or.inr (Or.inr ⟨hok, s, l, hcs, ?_⟩))
              rcases (show u.toInt = 0 ∨ u.toInt ≠ 0 by omega) with hu | hu
              · first | (exfalso; omega) | exact Or.inr ⟨by omega, fun h9 => hu0 hu ⟨h9.1, fun i v9 hi_z hv9 => h9.2 v9 (List.mem_of_getElem? hv9)⟩⟩
              · first
                | (exfalso; omega)
                | exact Or.inl ⟨by omega, (hu1 hu).1, fun v9 hv9 => (by obtain ⟨i, hi_z⟩ := List.mem_iff_getElem?.mp hv9; exact (hu1 hu).2 i v9 (by have := (List.getElem?_eq_some_iff.mp hi_z).1; omega) hi_z)⟩
      refine r_istore3 dX12_marksFault_26 rfl ?_
      refine n_iconst dX12_marksFault_27 (by decide) (fun r27 e27_z => ?_)
      refine r_istore4 dX12_marksFault_28 rfl ?_
      exact lp 31 _ _ 0 (by omega) (by omega) (by omega) (fun h9 h8 => by have := h8.1; omega) (fun h9 => ⟨by omega, fun i v9 hi_z => absurd hi_z (by omega)⟩) (by omega)
  · refine r_aloadR0 dX12_marksFault_0 ?_
    refine r_iload1 dX12_marksFault_1 ?_
    refine q_callV1 zm_RX12_389 dX12_marksFault_2 (shM_k hs) (by decide) rfl (Nat.le_of_ble_eq_true rfl) (Nat.le_of_ble_eq_true rfl) (Nat.le_of_ble_eq_true rfl) (Nat.le_of_ble_eq_true rfl) (Nat.le_of_ble_eq_true rfl) (s_X12_trayFault G hs (fun r2 e2_z => ?_))
    rw [if_neg (by omega)] at e2_z
    refine r_istore2 dX12_marksFault_5 rfl ?_
    refine r_iload2 dX12_marksFault_6 ?_
    refine t_ifeq (t := 12) dX12_marksFault_7 (by decide) (fun h7 => False.elim (by omega)) (fun h7 => ?_)
    refine r_iload2 dX12_marksFault_10 ?_
    refine r_iret dX12_marksFault_11 rfl (Nat.le_of_ble_eq_true rfl) (Nat.le_of_ble_eq_true rfl) ?_
    exact hQ _ (Or.inl ⟨hok, by omega⟩)
set_option maxHeartbeats 4000000 in
set_option maxRecDepth 100000 in
theorem s_X12_creasesFault {g : zGT} {w : zW} {f : Nat → Nat → Int32} {j : Nat → Nat → Int64} {A : Nat} {T : zTb} {x : Int32} {ty : Nat → zTy} {Q : Option Value → zW → Prop} {QX : String → zW → Prop} (G : zGok g) (hs : shM w A) (hk : ctKn (f (A + 1)) T) (hw : wfT T) (hty : ∀ t, t < 4 → ctTm f j A t (ty t)) (hQ : ∀ r : Int32, (¬ (0 ≤ x.toInt ∧ x.toInt < 4) ∧ r.toInt = 1 ∨ (0 ≤ x.toInt ∧ x.toInt < 4) ∧ ty x.toInt.toNat = none ∧ r.toInt = 2 ∨ (0 ≤ x.toInt ∧ x.toInt < 4) ∧ (∃ s l, ty x.toInt.toNat = some (s, l) ∧ (r.toInt = 0 ∧ (l.length = tbC T - 1 ∧ ∀ v ∈ l, 0 ≤ v ∧ v ≤ 2) ∨ r.toInt = 3 ∧ ¬ (l.length = tbC T - 1 ∧ ∀ v ∈ l, 0 ≤ v ∧ v ≤ 2)))) → Q (some (.int r)) (zM w f j)) : zC g 4 yX12_creasesFault cX12_creasesFault 5 (some .int) [.ref A, .int x] (zM w f j) (0, 0) Q QX := by
  refine zC_of G (by decide +kernel) (Nat.le_of_ble_eq_true rfl) ?_
  have hk9 := hk
  obtain ⟨⟨k0_z, k1_z, k2_z, k3_z, k4_z, k5_z, k6_z⟩, km, kg, kp, kl1, kl2, kl3⟩ := hk9
  have km9 := km
  obtain ⟨m1_z, m2_z, m3_z⟩ := km9
  have hn6 : tbC T ≤ 6 := hw.2.1
  have hg4 : tbG T ≤ 4 := hw.2.2.1
  have hwm := hw.2.2.2.2.2.2.2.1
  have hml : T.2.2.1.2.length ≤ 5 := hwm.2.1
  have hm99 := hwm.2.2
  have hrt := wfT_rch hw
  have hLl : (tbL T).length ≤ 6 := Nat.le_trans (rch_cell hrt).2.2.2.2 hn6
  have hpl : T.2.2.2.length ≤ 10 := hw.2.2.2.2.2.2.2.2.1
  rcases Classical.em (0 ≤ x.toInt ∧ x.toInt < 4) with hok | hok
  · have hct := hty _ (show x.toInt.toNat < 4 by omega)
    cases hcs : ty x.toInt.toNat with
    | none =>
      rw [hcs] at hct
      have hno : (f (A + 18) x.toInt.toNat).toInt = -1 := hct
      refine r_aloadR0 dX12_creasesFault_0 ?_
      refine r_iload1 dX12_creasesFault_1 ?_
      refine q_callV1 zm_RX12_389 dX12_creasesFault_2 (shM_k hs) (by decide) rfl (Nat.le_of_ble_eq_true rfl) (Nat.le_of_ble_eq_true rfl) (Nat.le_of_ble_eq_true rfl) (Nat.le_of_ble_eq_true rfl) (Nat.le_of_ble_eq_true rfl) (s_X12_trayFault G hs (fun r2 e2_z => ?_))
      rw [if_pos (by omega), if_pos hno] at e2_z
      refine r_istore2 dX12_creasesFault_5 rfl ?_
      refine r_iload2 dX12_creasesFault_6 ?_
      refine t_ifeq (t := 12) dX12_creasesFault_7 (by decide) (fun h7 => False.elim (by omega)) (fun h7 => ?_)
      refine r_iload2 dX12_creasesFault_10 ?_
      refine r_iret dX12_creasesFault_11 rfl (Nat.le_of_ble_eq_true rfl) (Nat.le_of_ble_eq_true rfl) ?_
      exact hQ _ (Or.inr (Or.inl ⟨hok, hcs, by omega⟩))
    | some q =>
      obtain ⟨s, l⟩ := q
      rw [hcs] at hct
      obtain ⟨t1, t2, t3, t4, t5⟩ := hct
      have hjn : ∀ u : Int32, (0 ≤ u.toInt ∧ u.toInt ≤ 1) → (u.toInt = 0 → ¬ (l.length = tbC T - 1 ∧ ∀ (i : Nat) (v : Int), i < 0 → l[i]? = some v → 0 ≤ v ∧ v ≤ 2)) → (u.toInt ≠ 0 → l.length = tbC T - 1 ∧ ∀ (i : Nat) (v : Int), i < 0 → l[i]? = some v → 0 ≤ v ∧ v ≤ 2) → ∀ r2 : Int32, zR (zV g 4 yX12_creasesFault 5 (some .int) (0, 0) Q QX) cX12_creasesFault yX12_creasesFault.cls 36 [some (.ref A), some (.int x), some (.int r2), none, none] [.int u] (zM w f j) (0, 0) := by
        intro u0 a1 a2 a3 r2
        have lp : ∀ (mz : Nat) (u : Int32) (c : Int32) (k : Nat), c.toInt = (k : Nat) → k ≤ l.length → (0 ≤ u.toInt ∧ u.toInt ≤ 1) → (u.toInt = 0 → ¬ (l.length = tbC T - 1 ∧ ∀ (i : Nat) (v : Int), i < k → l[i]? = some v → 0 ≤ v ∧ v ≤ 2)) → (u.toInt ≠ 0 → l.length = tbC T - 1 ∧ ∀ (i : Nat) (v : Int), i < k → l[i]? = some v → 0 ≤ v ∧ v ≤ 2) → l.length - k < mz → zR (zV g 4 yX12_creasesFault 5 (some .int) (0, 0) Q QX) cX12_creasesFault yX12_creasesFault.cls 40 [some (.ref A), some (.int x), some (.int r2), some (.int u), some (.int c)] [] (zM w f j) (0, 0) := by
          intro mz
          induction mz with
          | zero =>
            intro u c k hck hk8 hu01 hu0 hu1 hmz
            exact absurd hmz (Nat.not_lt_zero _)
          | succ mz ih =>
            intro u c k hck hk8 hu01 hu0 hu1 hmz
            rcases Nat.lt_or_ge k l.length with hkl | hkl
            · obtain ⟨v, hv⟩ : ∃ v, l[k]? = some v := ⟨_, List.getElem?_eq_getElem hkl⟩
              have hnum := t5 k v hv
              rcases (show u.toInt = 0 ∨ u.toInt ≠ 0 by omega) with hu | hu
              · refine r_iload4 dX12_creasesFault_40 ?_
                refine r_aloadR0 dX12_creasesFault_42 ?_
                refine m_getR (q := (A + 19)) zf_RX12_71 rfl dX12_creasesFault_43 (shM_k hs) (shM_p19 hs) ?_
                refine r_iload1 dX12_creasesFault_46 ?_
                refine m_iald (k := x.toInt.toNat) (x := (f (A + 19) x.toInt.toNat)) dX12_creasesFault_47 (shM_k19 hs) (shM_n19 hs) (by omega) (by omega) (rfl) ?_
                refine t_icge (t := 81) dX12_creasesFault_48 (by decide) (fun h48 => False.elim (by omega)) (fun h48 => ?_)
                refine r_iload3 dX12_creasesFault_51 ?_
                refine t_ifeq (t := 81) dX12_creasesFault_52 (by decide) (fun h52 => ?_) (fun h52 => False.elim (by omega))
                refine r_iload3 dX12_creasesFault_81 ?_
                refine t_ifeq (t := 89) dX12_creasesFault_82 (by decide) (fun h82 => ?_) (fun h82 => False.elim (by omega))
                refine n_iconst dX12_creasesFault_89 (by decide) (fun r89 e89 => ?_)
                refine r_iret dX12_creasesFault_90 rfl (Nat.le_of_ble_eq_true rfl) (Nat.le_of_ble_eq_true rfl) ?_
                refine hQ _ (Or.inr (Or.inr ⟨hok, s, l, hcs, Or.inr ⟨by omega, fun h9 => ?_⟩⟩))
                exact hu0 hu ⟨h9.1, fun i v9 hi_z hv9 => h9.2 v9 (List.mem_of_getElem? hv9)⟩
              · refine r_iload4 dX12_creasesFault_40 ?_
                refine r_aloadR0 dX12_creasesFault_42 ?_
                refine m_getR (q := (A + 19)) zf_RX12_71 rfl dX12_creasesFault_43 (shM_k hs) (shM_p19 hs) ?_
                refine r_iload1 dX12_creasesFault_46 ?_
                refine m_iald (k := x.toInt.toNat) (x := (f (A + 19) x.toInt.toNat)) dX12_creasesFault_47 (shM_k19 hs) (shM_n19 hs) (by omega) (by omega) (rfl) ?_
                refine t_icge (t := 81) dX12_creasesFault_48 (by decide) (fun h48 => False.elim (by omega)) (fun h48 => ?_)
                refine r_iload3 dX12_creasesFault_51 ?_
                refine t_ifeq (t := 81) dX12_creasesFault_52 (by decide) (fun h52 => False.elim (by omega)) (fun h52 => ?_)
                refine r_aloadR0 dX12_creasesFault_55 ?_
                refine m_getR (q := (A + 20)) zf_RX12_74 rfl dX12_creasesFault_56 (shM_k hs) (shM_p20 hs) ?_
                refine n_bipush dX12_creasesFault_59 (by decide) (fun r59 e59 => ?_)
                refine r_iload1 dX12_creasesFault_61 ?_
                refine n_imulc dX12_creasesFault_62 e59 (by omega) (fun r62 e62 => ?_)
                refine r_iload4 dX12_creasesFault_63 ?_
                refine n_iadd dX12_creasesFault_65 (by omega) (fun r65 e65 => ?_)
                refine m_lald (k := (30 * x.toInt.toNat + k)) (x := (j (A + 20) ((30 * x.toInt.toNat + k)))) dX12_creasesFault_66 (shM_k20 hs) (shM_n20 hs) (by omega) (by omega) (rfl) ?_
                refine n_lconst (q := 0) dX12_creasesFault_67 rfl (by decide) (fun r67 e67 => ?_)
                refine n_ldc2 (n := 2) zk_RX12_547 dX12_creasesFault_68 (by decide) (fun r68 e68 => ?_)
                refine q_callS3 zm_RX12_138 dX12_creasesFault_71 (Nat.le_of_ble_eq_true rfl) (Nat.le_of_ble_eq_true rfl) (Nat.le_of_ble_eq_true rfl) (Nat.le_of_ble_eq_true rfl) (Nat.le_of_ble_eq_true rfl) (s_X12_within G  (fun r71 e71_z => ?_))
                refine r_istore3 dX12_creasesFault_74 rfl ?_
                refine n_iinc4 dX12_creasesFault_75 (by decide) rfl (by omega) (fun r75 e75 => ?_)
                refine r_goto (t := 40) dX12_creasesFault_78 (by decide) ?_
                refine ih _ _ (k + 1) (by omega) (by omega) (by omega) (fun h9 h8 => ?_) (fun h9 => ?_) (by omega)
                · have h7 := h8.2 k v (by omega) hv; omega
                · refine ⟨(hu1 hu).1, fun i v9 hi_z hv9 => ?_⟩
                  rcases Nat.lt_or_ge i k with h8 | h8
                  · exact (hu1 hu).2 i v9 h8 hv9
                  · rw [show i = k by omega, hv] at hv9
                    rw [← Option.some.inj hv9]; omega
            · refine r_iload4 dX12_creasesFault_40 ?_
              refine r_aloadR0 dX12_creasesFault_42 ?_
              refine m_getR (q := (A + 19)) zf_RX12_71 rfl dX12_creasesFault_43 (shM_k hs) (shM_p19 hs) ?_
              refine r_iload1 dX12_creasesFault_46 ?_
              refine m_iald (k := x.toInt.toNat) (x := (f (A + 19) x.toInt.toNat)) dX12_creasesFault_47 (shM_k19 hs) (shM_n19 hs) (by omega) (by omega) (rfl) ?_
              refine t_icge (t := 81) dX12_creasesFault_48 (by decide) (fun h48 => ?_) (fun h48 => False.elim (by omega))
              refine r_iload3 dX12_creasesFault_81 ?_
              refine t_ifeq (t := 89) dX12_creasesFault_82 (by decide) (fun h82 => ?_) (fun h82 => ?_)
              · refine n_iconst dX12_creasesFault_89 (by decide) (fun r89 e89 => ?_)
                refine r_iret dX12_creasesFault_90 rfl (Nat.le_of_ble_eq_true rfl) (Nat.le_of_ble_eq_true rfl) ?_
                refine hQ _ (Or.inr (Or.inr ⟨hok, s, l, hcs, ?_⟩))
                rcases (show u.toInt = 0 ∨ u.toInt ≠ 0 by omega) with hu | hu
                · first | (exfalso; omega) | exact Or.inr ⟨by omega, fun h9 => hu0 hu ⟨h9.1, fun i v9 hi_z hv9 => h9.2 v9 (List.mem_of_getElem? hv9)⟩⟩
                · first
                  | (exfalso; omega)
                  | exact Or.inl ⟨by omega, (hu1 hu).1, fun v9 hv9 => (by obtain ⟨i, hi_z⟩ := List.mem_iff_getElem?.mp hv9; exact (hu1 hu).2 i v9 (by have := (List.getElem?_eq_some_iff.mp hi_z).1; omega) hi_z)⟩
              · refine n_iconst dX12_creasesFault_85 (by decide) (fun r85 e85 => ?_)
                refine r_goto (t := 90) dX12_creasesFault_86 (by decide) ?_
                refine r_iret dX12_creasesFault_90 rfl (Nat.le_of_ble_eq_true rfl) (Nat.le_of_ble_eq_true rfl) ?_
                refine hQ _ (Or.inr (Or.inr ⟨hok, s, l, hcs, ?_⟩))
                rcases (show u.toInt = 0 ∨ u.toInt ≠ 0 by omega) with hu | hu
                · first | (exfalso; omega) | exact Or.inr ⟨by omega, fun h9 => hu0 hu ⟨h9.1, fun i v9 hi_z hv9 => h9.2 v9 (List.mem_of_getElem? hv9)⟩⟩
                · first
                  | (exfalso; omega)
                  | exact Or.inl ⟨by omega, (hu1 hu).1, fun v9 hv9 => (by obtain ⟨i, hi_z⟩ := List.mem_iff_getElem?.mp hv9; exact (hu1 hu).2 i v9 (by have := (List.getElem?_eq_some_iff.mp hi_z).1; omega) hi_z)⟩
        refine r_istore3 dX12_creasesFault_36 rfl ?_
        refine n_iconst dX12_creasesFault_37 (by decide) (fun r37 e37 => ?_)
        refine r_istore4 dX12_creasesFault_38 rfl ?_
        exact lp 31 _ _ 0 (by omega) (by omega) a1 a2 a3 (by omega)
      refine r_aloadR0 dX12_creasesFault_0 ?_
      refine r_iload1 dX12_creasesFault_1 ?_
      refine q_callV1 zm_RX12_389 dX12_creasesFault_2 (shM_k hs) (by decide) rfl (Nat.le_of_ble_eq_true rfl) (Nat.le_of_ble_eq_true rfl) (Nat.le_of_ble_eq_true rfl) (Nat.le_of_ble_eq_true rfl) (Nat.le_of_ble_eq_true rfl) (s_X12_trayFault G hs (fun r2 e2_z => ?_))
      rw [if_pos (by omega), if_neg (by omega)] at e2_z
      refine r_istore2 dX12_creasesFault_5 rfl ?_
      refine r_iload2 dX12_creasesFault_6 ?_
      refine t_ifeq (t := 12) dX12_creasesFault_7 (by decide) (fun h7 => ?_) (fun h7 => False.elim (by omega))
      refine r_aloadR0 dX12_creasesFault_12 ?_
      refine m_getR (q := (A + 19)) zf_RX12_71 rfl dX12_creasesFault_13 (shM_k hs) (shM_p19 hs) ?_
      refine r_iload1 dX12_creasesFault_16 ?_
      refine m_iald (k := x.toInt.toNat) (x := (f (A + 19) x.toInt.toNat)) dX12_creasesFault_17 (shM_k19 hs) (shM_n19 hs) (by omega) (by omega) (rfl) ?_
      refine n_iconst dX12_creasesFault_18 (by decide) (fun r18 e18_z => ?_)
      refine r_aloadR0 dX12_creasesFault_19 ?_
      refine q_callV0 zm_RX12_253 dX12_creasesFault_20 (shM_k hs) (by decide) rfl (Nat.le_of_ble_eq_true rfl) (Nat.le_of_ble_eq_true rfl) (Nat.le_of_ble_eq_true rfl) (Nat.le_of_ble_eq_true rfl) (Nat.le_of_ble_eq_true rfl) (s_X12_cells G hs hk.1.2.1 (fun r20 e20 => ?_))
      refine n_iconst dX12_creasesFault_23 (by decide) (fun r23 e23_z => ?_)
      refine n_isub dX12_creasesFault_24 (by omega) (fun r24 e24_z => ?_)
      refine r_mmax zm_RX12_268 dX12_creasesFault_25 (Nat.le_of_ble_eq_true rfl) (Nat.le_of_ble_eq_true rfl) (Nat.le_of_ble_eq_true rfl) (Nat.le_of_ble_eq_true rfl) (Nat.le_of_ble_eq_true rfl) (fun r25 e25_z => ?_)
      refine t_icne (t := 35) dX12_creasesFault_28 (by decide) (fun h28 => ?_) (fun h28 => ?_)
      · refine n_iconst dX12_creasesFault_35 (by decide) (fun r35 e35 => ?_)
        exact hjn _ (by omega) (fun h9 h8 => by have := h8.1; omega) (fun h9 => ⟨by omega, fun i v hi_z => absurd hi_z (by omega)⟩) _
      · refine n_iconst dX12_creasesFault_31 (by decide) (fun r31 e31_z => ?_)
        refine r_goto (t := 36) dX12_creasesFault_32 (by decide) ?_
        exact hjn _ (by omega) (fun h9 h8 => by have := h8.1; omega) (fun h9 => ⟨by omega, fun i v hi_z => absurd hi_z (by omega)⟩) _
  · refine r_aloadR0 dX12_creasesFault_0 ?_
    refine r_iload1 dX12_creasesFault_1 ?_
    refine q_callV1 zm_RX12_389 dX12_creasesFault_2 (shM_k hs) (by decide) rfl (Nat.le_of_ble_eq_true rfl) (Nat.le_of_ble_eq_true rfl) (Nat.le_of_ble_eq_true rfl) (Nat.le_of_ble_eq_true rfl) (Nat.le_of_ble_eq_true rfl) (s_X12_trayFault G hs (fun r2 e2_z => ?_))
    rw [if_neg (by omega)] at e2_z
    refine r_istore2 dX12_creasesFault_5 rfl ?_
    refine r_iload2 dX12_creasesFault_6 ?_
    refine t_ifeq (t := 12) dX12_creasesFault_7 (by decide) (fun h7 => False.elim (by omega)) (fun h7 => ?_)
    refine r_iload2 dX12_creasesFault_10 ?_
    refine r_iret dX12_creasesFault_11 rfl (Nat.le_of_ble_eq_true rfl) (Nat.le_of_ble_eq_true rfl) ?_
    exact hQ _ (Or.inl ⟨hok, by omega⟩)
set_option maxHeartbeats 4000000 in
set_option maxRecDepth 100000 in
theorem s_X12_seenFault {g : zGT} {w : zW} {f : Nat → Nat → Int32} {j : Nat → Nat → Int64} {A : Nat} {T : zTb} {x y : Int32} {ty : Nat → zTy} {Q : Option Value → zW → Prop} {QX : String → zW → Prop} (G : zGok g) (hs : shM w A) (hk : ctKn (f (A + 1)) T) (hw : wfT T) (hty : ∀ t, t < 4 → ctTm f j A t (ty t)) (hQ : ∀ r : Int32, (¬ (0 ≤ x.toInt ∧ x.toInt < 4) ∧ r.toInt = 1 ∨ (0 ≤ x.toInt ∧ x.toInt < 4) ∧ ty x.toInt.toNat = none ∧ r.toInt = 2 ∨ (0 ≤ x.toInt ∧ x.toInt < 4) ∧ (∃ s l, ty x.toInt.toNat = some (s, l) ∧ (r.toInt = 0 ∧ (sightC l ∧ 0 ≤ y.toInt ∧ y.toInt ≤ 4) ∨ r.toInt = 3 ∧ ¬ (sightC l ∧ 0 ≤ y.toInt ∧ y.toInt ≤ 4)))) → Q (some (.int r)) (zM w f j)) : zC g 5 yX12_seenFault cX12_seenFault 4 (some .int) [.ref A, .int x, .int y] (zM w f j) (0, 0) Q QX := by
  refine zC_of G (by decide +kernel) (Nat.le_of_ble_eq_true rfl) ?_
  refine r_aloadR0 dX12_seenFault_0 ?_
  refine r_iload1 dX12_seenFault_1 ?_
  refine q_callV1 zm_RX12_524 dX12_seenFault_2 (shM_k hs) (by decide) rfl (Nat.le_of_ble_eq_true rfl) (Nat.le_of_ble_eq_true rfl) (Nat.le_of_ble_eq_true rfl) (Nat.le_of_ble_eq_true rfl) (Nat.le_of_ble_eq_true rfl) (s_X12_marksFault G hs hk hw hty (fun r2 e2_z => ?_))
  refine r_istore3 dX12_seenFault_5 rfl ?_
  refine r_iload3 dX12_seenFault_6 ?_
  refine t_ifne (t := 26) dX12_seenFault_7 (by decide) (fun h7 => ?_) (fun h7 => ?_)
  · refine r_iload3 dX12_seenFault_26 ?_
    refine r_iret dX12_seenFault_27 rfl (Nat.le_of_ble_eq_true rfl) (Nat.le_of_ble_eq_true rfl) ?_
    refine hQ _ ?_
    rcases e2_z with ⟨q1_z, q2_z⟩ | ⟨q1_z, q2_z, q3_z⟩ | ⟨q1_z, s, l, q2_z, q3_z⟩
    · first | (exfalso; omega) | exact Or.inl ⟨q1_z, by omega⟩
    · first | (exfalso; omega) | exact Or.inr (Or.inl ⟨q1_z, q2_z, by omega⟩)
    · refine Or.inr (Or.inr ⟨q1_z, s, l, q2_z, ?_⟩)
      rcases q3_z with ⟨q3_z, q4_z⟩ | ⟨q3_z, q4_z⟩
      · first | (exfalso; omega) | exact Or.inl ⟨by omega, q4_z, by omega, by omega⟩ | exact Or.inr ⟨by omega, fun h9 => by have := h9.2; omega⟩
      · first | (exfalso; omega) | exact Or.inr ⟨by omega, fun h9 => q4_z h9.1⟩
  · refine r_iload2 dX12_seenFault_10 ?_
    refine n_i2l dX12_seenFault_11 (fun r11 e11_z => ?_)
    refine n_lconst (q := 0) dX12_seenFault_12 rfl (by decide) (fun r12 e12_z => ?_)
    refine n_ldc2 (n := 4) zk_RX12_341 dX12_seenFault_13 (by decide) (fun r13 e13_z => ?_)
    refine q_callS3 zm_RX12_138 dX12_seenFault_16 (Nat.le_of_ble_eq_true rfl) (Nat.le_of_ble_eq_true rfl) (Nat.le_of_ble_eq_true rfl) (Nat.le_of_ble_eq_true rfl) (Nat.le_of_ble_eq_true rfl) (s_X12_within G  (fun r16 e16_z => ?_))
    refine t_ifne (t := 26) dX12_seenFault_19 (by decide) (fun h19 => ?_) (fun h19 => ?_)
    · refine r_iload3 dX12_seenFault_26 ?_
      refine r_iret dX12_seenFault_27 rfl (Nat.le_of_ble_eq_true rfl) (Nat.le_of_ble_eq_true rfl) ?_
      refine hQ _ ?_
      rcases e2_z with ⟨q1_z, q2_z⟩ | ⟨q1_z, q2_z, q3_z⟩ | ⟨q1_z, s, l, q2_z, q3_z⟩
      · first | (exfalso; omega) | exact Or.inl ⟨q1_z, by omega⟩
      · first | (exfalso; omega) | exact Or.inr (Or.inl ⟨q1_z, q2_z, by omega⟩)
      · refine Or.inr (Or.inr ⟨q1_z, s, l, q2_z, ?_⟩)
        rcases q3_z with ⟨q3_z, q4_z⟩ | ⟨q3_z, q4_z⟩
        · first | (exfalso; omega) | exact Or.inl ⟨by omega, q4_z, by omega, by omega⟩ | exact Or.inr ⟨by omega, fun h9 => by have := h9.2; omega⟩
        · first | (exfalso; omega) | exact Or.inr ⟨by omega, fun h9 => q4_z h9.1⟩
    · refine n_iconst dX12_seenFault_22 (by decide) (fun r22 e22_z => ?_)
      refine r_goto (t := 27) dX12_seenFault_23 (by decide) ?_
      refine r_iret dX12_seenFault_27 rfl (Nat.le_of_ble_eq_true rfl) (Nat.le_of_ble_eq_true rfl) ?_
      refine hQ _ ?_
      rcases e2_z with ⟨q1_z, q2_z⟩ | ⟨q1_z, q2_z, q3_z⟩ | ⟨q1_z, s, l, q2_z, q3_z⟩
      · first | (exfalso; omega) | exact Or.inl ⟨q1_z, by omega⟩
      · first | (exfalso; omega) | exact Or.inr (Or.inl ⟨q1_z, q2_z, by omega⟩)
      · refine Or.inr (Or.inr ⟨q1_z, s, l, q2_z, ?_⟩)
        rcases q3_z with ⟨q3_z, q4_z⟩ | ⟨q3_z, q4_z⟩
        · first | (exfalso; omega) | exact Or.inl ⟨by omega, q4_z, by omega, by omega⟩ | exact Or.inr ⟨by omega, fun h9 => by have := h9.2; omega⟩
        · first | (exfalso; omega) | exact Or.inr ⟨by omega, fun h9 => q4_z h9.1⟩
