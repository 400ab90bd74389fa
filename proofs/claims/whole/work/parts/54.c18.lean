/-! the class: whether a stack can stand -/
def btwC (lo v hi_z : Int) : Prop := lo < v ∧ v < hi_z
def fitC (Pl : Nat → Int) (c : Nat) : Prop := ∀ o, 1 ≤ o → o + 2 ≤ c → (c - o) % 2 = 0 → (btwC (min (Pl (c - 1)) (Pl c)) (Pl (o - 1)) (max (Pl (c - 1)) (Pl c)) ↔ btwC (min (Pl (c - 1)) (Pl c)) (Pl o) (max (Pl (c - 1)) (Pl c)))
theorem inj_len : ∀ (l S : List Int), (∀ (i k : Nat) (u v : Int), k < i → l[i]? = some u → l[k]? = some v → u ≠ v) → (∀ v ∈ l, v ∈ S) → l.length ≤ S.length := by
  intro l
  induction l with
  | nil => exact fun S _ _ => Nat.zero_le _
  | cons x l ih =>
    intro S hd_z hs
    have hx := hs x List.mem_cons_self
    have h1 := ih (S.erase x) (fun i k u v hk hu hv => hd_z (i + 1) (k + 1) u v (by omega) hu hv) (fun v hv => by
      obtain ⟨i, hi_z⟩ := List.getElem?_of_mem hv
      have hne := hd_z (i + 1) 0 v x (by omega) hi_z rfl
      exact (List.mem_erase_of_ne hne).mpr (hs v (List.mem_cons_of_mem _ hv)))
    rw [List.length_erase_of_mem hx] at h1
    have h2 := List.length_pos_of_mem hx
    rw [List.length_cons]
    omega
theorem once_has {l : List Int} {n c : Nat} (h_z : onceC l n) (hc_z : c < n) : ∃ i : Nat, l[i]? = some ((c : Nat) : Int) := by
  apply Classical.byContradiction
  intro hno
  have h1 := inj_len l (((List.range n).map (fun i : Nat => (i : Int))).erase (c : Nat)) h_z.2.2 (fun v hv => by
    have hv2 := h_z.2.1 v hv
    refine (List.mem_erase_of_ne (fun e => hno ?_)).mpr (List.mem_map.mpr ⟨v.toNat, List.mem_range.mpr (by omega), by omega⟩)
    obtain ⟨i, hi_z⟩ := List.getElem?_of_mem hv
    exact ⟨i, by rw [hi_z, e]⟩)
  rw [List.length_erase_of_mem (List.mem_map.mpr ⟨c, List.mem_range.mpr hc_z, rfl⟩), List.length_map, List.length_range] at h1
  have h2 := h_z.1
  omega
set_option maxHeartbeats 4000000 in
set_option maxRecDepth 100000 in
theorem s_X11_isBetween {g : zGT} {w : zW} {f : Nat → Nat → Int32} {j : Nat → Nat → Int64} {x y z : Int32} {Q : Option Value → zW → Prop} {QX : String → zW → Prop} (G : zGok g)  (hQ : ∀ r : Int32, (r.toInt = 1 ∧ (btwC x.toInt y.toInt z.toInt) ∨ r.toInt = 0 ∧ ¬ (btwC x.toInt y.toInt z.toInt)) → Q (some (.int r)) (zM w f j)) : zC g 1 yX11_isBetween cX11_isBetween 3 (some .boolean) [.int x, .int y, .int z] (zM w f j) (0, 0) Q QX := by
  refine zC_of G (by decide +kernel) (Nat.le_of_ble_eq_true rfl) ?_
  unfold btwC at hQ
  refine r_iload0 dX11_isBetween_0 ?_
  refine r_iload1 dX11_isBetween_1 ?_
  refine t_icge (t := 14) dX11_isBetween_2 (by decide) (fun h2 => ?_) (fun h2 => ?_)
  · refine n_iconst dX11_isBetween_14 (by decide) (fun r14 e14_z => ?_)
    refine m_zret dX11_isBetween_15 rfl (by omega) (Nat.le_of_ble_eq_true rfl) (Nat.le_of_ble_eq_true rfl) ?_
    exact hQ _ (by omega)
  · refine r_iload1 dX11_isBetween_5 ?_
    refine r_iload2 dX11_isBetween_6 ?_
    refine t_icge (t := 14) dX11_isBetween_7 (by decide) (fun h7 => ?_) (fun h7 => ?_)
    · refine n_iconst dX11_isBetween_14 (by decide) (fun r14 e14_z => ?_)
      refine m_zret dX11_isBetween_15 rfl (by omega) (Nat.le_of_ble_eq_true rfl) (Nat.le_of_ble_eq_true rfl) ?_
      exact hQ _ (by omega)
    · refine n_iconst dX11_isBetween_10 (by decide) (fun r10 e10_z => ?_)
      refine r_goto (t := 15) dX11_isBetween_11 (by decide) ?_
      refine m_zret dX11_isBetween_15 rfl (by omega) (Nat.le_of_ble_eq_true rfl) (Nat.le_of_ble_eq_true rfl) ?_
      exact hQ _ (by omega)
set_option maxHeartbeats 4000000 in
set_option maxRecDepth 100000 in
theorem s_X11_creaseFits {g : zGT} {w : zW} {f : Nat → Nat → Int32} {j : Nat → Nat → Int64} {b c : Nat} {Pl : Nat → Int} {x : Int32} {Q : Option Value → zW → Prop} {QX : String → zW → Prop} (G : zGok g) (hbk : zK w b = 21) (hbn : zN w b = 6) (hP : ∀ i, i ≤ c → (f b i).toInt = Pl i) (hc_z : x.toInt = (c : Nat)) (hc6 : c < 6) (hQ : ∀ r : Int32, (r.toInt = 1 ∧ (fitC Pl c) ∨ r.toInt = 0 ∧ ¬ (fitC Pl c)) → Q (some (.int r)) (zM w f j)) : zC g 2 yX11_creaseFits cX11_creaseFits 5 (some .boolean) [.ref b, .int x] (zM w f j) (0, 0) Q QX := by
  refine zC_of G (by decide +kernel) (Nat.le_of_ble_eq_true rfl) ?_
  refine r_iload1 dX11_creaseFits_0 ?_
  refine n_iconst dX11_creaseFits_1 (by decide) (fun r1 e1_z => ?_)
  refine t_iclt (t := 11) dX11_creaseFits_2 (by decide) (fun h2 => ?_) (fun h2 => ?_)
  · refine n_iconst dX11_creaseFits_11 (by decide) (fun r11 e11_z => ?_)
    refine m_zret dX11_creaseFits_12 rfl (by omega) (Nat.le_of_ble_eq_true rfl) (Nat.le_of_ble_eq_true rfl) ?_
    exact hQ _ (Or.inl ⟨by omega, fun o9 g5_z g6 g7 => absurd g6 (by omega)⟩)
  · refine r_iload1 dX11_creaseFits_5 ?_
    refine r_aloadR0 dX11_creaseFits_6 ?_
    refine m_alen dX11_creaseFits_7 (zge hbk (by decide)) hbn (by first | decide | omega) (fun r7 e7_z => ?_)
    refine t_iclt (t := 13) dX11_creaseFits_8 (by decide) (fun h8 => ?_) (fun h8 => False.elim (by omega))
    have hPc := hP c (Nat.le_refl _)
    have hPc1 := hP (c - 1) (by omega)
    refine r_aloadR0 dX11_creaseFits_13 ?_
    refine r_iload1 dX11_creaseFits_14 ?_
    refine n_iconst dX11_creaseFits_15 (by decide) (fun r15 e15_z => ?_)
    refine n_isub dX11_creaseFits_16 (by omega) (fun r16 e16_z => ?_)
    refine m_iald (k := (c - 1)) (x := (f b ((c - 1)))) dX11_creaseFits_17 hbk hbn (by omega) (by omega) (rfl) ?_
    refine r_aloadR0 dX11_creaseFits_18 ?_
    refine r_iload1 dX11_creaseFits_19 ?_
    refine m_iald (k := c) (x := (f b c)) dX11_creaseFits_20 hbk hbn (by omega) (by omega) (rfl) ?_
    refine r_mmin zm_RX11_479 dX11_creaseFits_21 (Nat.le_of_ble_eq_true rfl) (Nat.le_of_ble_eq_true rfl) (Nat.le_of_ble_eq_true rfl) (Nat.le_of_ble_eq_true rfl) (Nat.le_of_ble_eq_true rfl) (fun r21 e21_z => ?_)
    refine r_istore2 dX11_creaseFits_24 rfl ?_
    refine r_aloadR0 dX11_creaseFits_25 ?_
    refine r_iload1 dX11_creaseFits_26 ?_
    refine n_iconst dX11_creaseFits_27 (by decide) (fun r27 e27_z => ?_)
    refine n_isub dX11_creaseFits_28 (by omega) (fun r28 e28_z => ?_)
    refine m_iald (k := (c - 1)) (x := (f b ((c - 1)))) dX11_creaseFits_29 hbk hbn (by omega) (by omega) (rfl) ?_
    refine r_aloadR0 dX11_creaseFits_30 ?_
    refine r_iload1 dX11_creaseFits_31 ?_
    refine m_iald (k := c) (x := (f b c)) dX11_creaseFits_32 hbk hbn (by omega) (by omega) (rfl) ?_
    refine r_mmax zm_RX11_346 dX11_creaseFits_33 (Nat.le_of_ble_eq_true rfl) (Nat.le_of_ble_eq_true rfl) (Nat.le_of_ble_eq_true rfl) (Nat.le_of_ble_eq_true rfl) (Nat.le_of_ble_eq_true rfl) (fun r33 e33_z => ?_)
    refine r_istore3 dX11_creaseFits_36 rfl ?_
    refine r_iload1 dX11_creaseFits_37 ?_
    refine n_iconst dX11_creaseFits_38 (by decide) (fun r38 e38 => ?_)
    refine n_isub dX11_creaseFits_39 (by omega) (fun r39 e39 => ?_)
    refine r_istore4 dX11_creaseFits_40 rfl ?_
    have hlo : r21.toInt = (min (Pl (c - 1)) (Pl c)) := by rw [e21_z, hPc, hPc1]
    have hto : r33.toInt = (max (Pl (c - 1)) (Pl c)) := by rw [e33_z, hPc, hPc1]
    have lp : ∀ (mz : Nat) (o : Int32), o.toInt + 2 ≤ (c : Nat) → -1 ≤ o.toInt → ((c : Int) - o.toInt) % 2 = 0 → (∀ o9 : Nat, o.toInt < (o9 : Int) → o9 + 2 ≤ c → (c - o9) % 2 = 0 → (btwC (min (Pl (c - 1)) (Pl c)) (Pl (o9 - 1)) (max (Pl (c - 1)) (Pl c)) ↔ btwC (min (Pl (c - 1)) (Pl c)) (Pl o9) (max (Pl (c - 1)) (Pl c)))) → (o.toInt + 2).toNat < mz → zR (zV g 2 yX11_creaseFits 5 (some .boolean) (0, 0) Q QX) cX11_creaseFits yX11_creaseFits.cls 42 [some (.ref b), some (.int x), some (.int r21), some (.int r33), some (.int o)] [] (zM w f j) (0, 0) := by
      intro mz
      induction mz with
      | zero =>
        intro o hol hom hop hall hmz
        exact absurd hmz (Nat.not_lt_zero _)
      | succ mz ih =>
        intro o hol hom hop hall hmz
        by_cases ho1 : 1 ≤ o.toInt
        · have hPo := hP o.toInt.toNat (by omega)
          refine r_iload4 dX11_creaseFits_42 ?_
          refine n_iconst dX11_creaseFits_44 (by decide) (fun r44 e44 => ?_)
          refine t_iclt (t := 79) dX11_creaseFits_45 (by decide) (fun h45 => False.elim (by omega)) (fun h45 => ?_)
          refine r_iload2 dX11_creaseFits_48 ?_
          refine r_aloadR0 dX11_creaseFits_49 ?_
          refine r_iload4 dX11_creaseFits_50 ?_
          refine n_iconst dX11_creaseFits_52 (by decide) (fun r52 e52 => ?_)
          refine n_isub dX11_creaseFits_53 (by omega) (fun r53 e53 => ?_)
          refine m_iald (k := r53.toInt.toNat) (x := (f b r53.toInt.toNat)) dX11_creaseFits_54 hbk hbn (by omega) (by omega) (rfl) ?_
          have hPm := hP r53.toInt.toNat (by omega)
          rw [show r53.toInt.toNat = o.toInt.toNat - 1 by omega] at hPm
          refine r_iload3 dX11_creaseFits_55 ?_
          refine q_callS3 zm_RX11_482 dX11_creaseFits_56 (Nat.le_of_ble_eq_true rfl) (Nat.le_of_ble_eq_true rfl) (Nat.le_of_ble_eq_true rfl) (Nat.le_of_ble_eq_true rfl) (Nat.le_of_ble_eq_true rfl) (s_X11_isBetween G (fun r56 e56 => ?_))
          rw [hlo, hto, show r53.toInt.toNat = o.toInt.toNat - 1 by omega, hPm] at e56
          refine r_iload2 dX11_creaseFits_59 ?_
          refine r_aloadR0 dX11_creaseFits_60 ?_
          refine r_iload4 dX11_creaseFits_61 ?_
          refine m_iald (k := o.toInt.toNat) (x := (f b o.toInt.toNat)) dX11_creaseFits_63 hbk hbn (by omega) (by omega) (rfl) ?_
          refine r_iload3 dX11_creaseFits_64 ?_
          refine q_callS3 zm_RX11_482 dX11_creaseFits_65 (Nat.le_of_ble_eq_true rfl) (Nat.le_of_ble_eq_true rfl) (Nat.le_of_ble_eq_true rfl) (Nat.le_of_ble_eq_true rfl) (Nat.le_of_ble_eq_true rfl) (s_X11_isBetween G (fun r65 e65 => ?_))
          rw [hlo, hto, hPo] at e65
          refine t_iceq (t := 73) dX11_creaseFits_68 (by decide) (fun h68 => ?_) (fun h68 => ?_)
          · refine n_iinc4 dX11_creaseFits_73 (by decide) rfl (by omega) (fun r73 e73 => ?_)
            refine r_goto (t := 42) dX11_creaseFits_76 (by decide) ?_
            refine ih _ (by omega) (by omega) (by omega) (fun o9 g5_z g6 g7 => ?_) (by omega)
            rcases Nat.lt_or_ge o.toInt.toNat o9 with h9 | h9
            · exact hall o9 (by omega) g6 g7
            · have h91 : o9 = o.toInt.toNat := by omega
              rw [h91]
              rcases e56 with ⟨g1, g2⟩ | ⟨g1, g2⟩ <;> rcases e65 with ⟨g3_z, g4⟩ | ⟨g3_z, g4⟩
              · exact ⟨fun _ => g4, fun _ => g2⟩
              · exact absurd (g1.symm.trans (h68.trans g3_z)) (by decide)
              · exact absurd (g1.symm.trans (h68.trans g3_z)) (by decide)
              · exact ⟨fun g8 => absurd g8 g2, fun g8 => absurd g8 g4⟩
          · refine n_iconst dX11_creaseFits_71 (by decide) (fun r71 e71_z => ?_)
            refine m_zret dX11_creaseFits_72 rfl (by omega) (Nat.le_of_ble_eq_true rfl) (Nat.le_of_ble_eq_true rfl) ?_
            refine hQ _ (Or.inr ⟨by omega, fun h9 => ?_⟩)
            have h91 := h9 o.toInt.toNat (by omega) (by omega) (by omega)
            rcases e56 with ⟨g1, g2⟩ | ⟨g1, g2⟩ <;> rcases e65 with ⟨g3_z, g4⟩ | ⟨g3_z, g4⟩
            · exact absurd (g1.trans g3_z.symm) h68
            · exact g4 (h91.mp g2)
            · exact g2 (h91.mpr g4)
            · exact absurd (g1.trans g3_z.symm) h68
        · refine r_iload4 dX11_creaseFits_42 ?_
          refine n_iconst dX11_creaseFits_44 (by decide) (fun r44 e44 => ?_)
          refine t_iclt (t := 79) dX11_creaseFits_45 (by decide) (fun h45 => ?_) (fun h45 => False.elim (by omega))
          refine n_iconst dX11_creaseFits_79 (by decide) (fun r79 e79 => ?_)
          refine m_zret dX11_creaseFits_80 rfl (by omega) (Nat.le_of_ble_eq_true rfl) (Nat.le_of_ble_eq_true rfl) ?_
          exact hQ _ (Or.inl ⟨by omega, fun o9 g5_z g6 g7 => hall o9 (by omega) g6 g7⟩)
    exact lp 10 _ (by omega) (by omega) (by omega) (fun o9 g5_z g6 g7 => absurd g6 (by omega)) (by omega)
set_option maxHeartbeats 4000000 in
set_option maxRecDepth 100000 in
theorem s_X11_isFree {g : zGT} {w : zW} {f : Nat → Nat → Int32} {j : Nat → Nat → Int64} {b c : Nat} {x y : Int32} {Q : Option Value → zW → Prop} {QX : String → zW → Prop} (G : zGok g) (hbk : zK w b = 21) (hbn : zN w b = 6) (hc_z : x.toInt = (c : Nat)) (hc6 : c ≤ 6) (hQ : ∀ r : Int32, (r.toInt = 1 ∧ (∀ i, i < c → (f b i).toInt ≠ y.toInt) ∨ r.toInt = 0 ∧ ¬ (∀ i, i < c → (f b i).toInt ≠ y.toInt)) → Q (some (.int r)) (zM w f j)) : zC g 1 yX11_isFree cX11_isFree 4 (some .boolean) [.ref b, .int x, .int y] (zM w f j) (0, 0) Q QX := by
  refine zC_of G (by decide +kernel) (Nat.le_of_ble_eq_true rfl) ?_
  have lp : ∀ (mz : Nat) (v : Int32) (k : Nat), v.toInt = (k : Nat) → k ≤ c → (∀ i, i < k → (f b i).toInt ≠ y.toInt) → c - k < mz → zR (zV g 1 yX11_isFree 4 (some .boolean) (0, 0) Q QX) cX11_isFree yX11_isFree.cls 2 [some (.ref b), some (.int x), some (.int y), some (.int v)] [] (zM w f j) (0, 0) := by
    intro mz
    induction mz with
    | zero =>
      intro v k hck hk hall hmz
      exact absurd hmz (Nat.not_lt_zero _)
    | succ mz ih =>
      intro v k hck hk hall hmz
      rcases Nat.lt_or_ge k c with hkl | hkl
      · refine r_iload3 dX11_isFree_2 ?_
        refine r_iload1 dX11_isFree_3 ?_
        refine t_icge (t := 28) dX11_isFree_4 (by decide) (fun h4 => False.elim (by omega)) (fun h4 => ?_)
        refine r_iload3 dX11_isFree_7 ?_
        refine r_aloadR0 dX11_isFree_8 ?_
        refine m_alen dX11_isFree_9 (zge hbk (by decide)) hbn (by first | decide | omega) (fun r9 e9_z => ?_)
        refine t_icge (t := 28) dX11_isFree_10 (by decide) (fun h10 => False.elim (by omega)) (fun h10 => ?_)
        refine r_aloadR0 dX11_isFree_13 ?_
        refine r_iload3 dX11_isFree_14 ?_
        refine m_iald (k := k) (x := (f b k)) dX11_isFree_15 hbk hbn (by omega) (by omega) (rfl) ?_
        refine r_iload2 dX11_isFree_16 ?_
        refine t_icne (t := 22) dX11_isFree_17 (by decide) (fun h17 => ?_) (fun h17 => ?_)
        · refine n_iinc3 dX11_isFree_22 (by decide) rfl (by omega) (fun r22 e22_z => ?_)
          refine r_goto (t := 2) dX11_isFree_25 (by decide) ?_
          refine ih _ (k + 1) (by omega) (by omega) (fun i hi_z => ?_) (by omega)
          rcases Nat.lt_or_ge i k with h9 | h9
          · exact hall i h9
          · rw [show i = k by omega]
            omega
        · refine n_iconst dX11_isFree_20 (by decide) (fun r20 e20 => ?_)
          refine m_zret dX11_isFree_21 rfl (by omega) (Nat.le_of_ble_eq_true rfl) (Nat.le_of_ble_eq_true rfl) ?_
          exact hQ _ (Or.inr ⟨by omega, fun h9 => absurd (h9 k hkl) (by omega)⟩)
      · refine r_iload3 dX11_isFree_2 ?_
        refine r_iload1 dX11_isFree_3 ?_
        refine t_icge (t := 28) dX11_isFree_4 (by decide) (fun h4 => ?_) (fun h4 => False.elim (by omega))
        refine n_iconst dX11_isFree_28 (by decide) (fun r28 e28_z => ?_)
        refine m_zret dX11_isFree_29 rfl (by omega) (Nat.le_of_ble_eq_true rfl) (Nat.le_of_ble_eq_true rfl) ?_
        exact hQ _ (Or.inl ⟨by omega, fun i hi_z => hall i (by omega)⟩)
  refine n_iconst dX11_isFree_0 (by decide) (fun r0 e0_z => ?_)
  refine r_istore3 dX11_isFree_1 rfl ?_
  exact lp 10 _ 0 (by omega) (by omega) (fun i hi_z => absurd hi_z (by omega)) (by omega)
set_option maxHeartbeats 4000000 in
set_option maxRecDepth 100000 in
theorem s_X11_meet {g : zGT} {w : zW} {f : Nat → Nat → Int32} {j : Nat → Nat → Int64} {X : Nat} {x : Int32} {Q : Option Value → zW → Prop} {QX : String → zW → Prop} (G : zGok g) (hx : shX w X) (hx7 : x.toInt < 720) (hQ : ∀ (r : Int32) f2_z, (r.toInt = 1 ∧ (0 ≤ x.toInt ∧ (f (X + 107) x.toInt.toNat).toInt = 0) ∧ (∀ q, q ≠ X + 107 → f2_z q = f q) ∧ (∀ k, k ≠ x.toInt.toNat → f2_z (X + 107) k = f (X + 107) k) ∧ (f2_z (X + 107) x.toInt.toNat).toInt = 1 ∨ r.toInt = 0 ∧ ¬ (0 ≤ x.toInt ∧ (f (X + 107) x.toInt.toNat).toInt = 0) ∧ f2_z = f) → Q (some (.int r)) (zM w f2_z j)) : zC g 1 yX11_meet cX11_meet 2 (some .boolean) [.ref X, .int x] (zM w f j) (0, 0) Q QX := by
  refine zC_of G (by decide +kernel) (Nat.le_of_ble_eq_true rfl) ?_
  refine r_iload1 dX11_meet_0 ?_
  refine t_iflt (t := 22) dX11_meet_1 (by decide) (fun h1 => ?_) (fun h1 => ?_)
  · refine n_iconst dX11_meet_22 (by decide) (fun r22 e22_z => ?_)
    refine m_zret dX11_meet_23 rfl (by omega) (Nat.le_of_ble_eq_true rfl) (Nat.le_of_ble_eq_true rfl) ?_
    exact hQ _ f (Or.inr ⟨by omega, by omega, rfl⟩)
  · refine r_iload1 dX11_meet_4 ?_
    refine r_aloadR0 dX11_meet_5 ?_
    refine m_getR (q := (X + 107)) zf_RX11_91 rfl dX11_meet_6 (shX_k (w := w) hx) (shX_p18 hx) ?_
    refine m_alen dX11_meet_9 (zge (shX_k108 hx) (by decide)) (shX_n108 hx) (by first | decide | omega) (fun r9 e9_z => ?_)
    refine t_icge (t := 22) dX11_meet_10 (by decide) (fun h10 => False.elim (by omega)) (fun h10 => ?_)
    refine r_aloadR0 dX11_meet_13 ?_
    refine m_getR (q := (X + 107)) zf_RX11_91 rfl dX11_meet_14 (shX_k (w := w) hx) (shX_p18 hx) ?_
    refine r_iload1 dX11_meet_17 ?_
    refine m_iald (k := x.toInt.toNat) (x := (f (X + 107) x.toInt.toNat)) dX11_meet_18 (shX_k108 hx) (shX_n108 hx) (by omega) (by omega) (rfl) ?_
    refine t_ifeq (t := 24) dX11_meet_19 (by decide) (fun h19 => ?_) (fun h19 => ?_)
    · refine r_aloadR0 dX11_meet_24 ?_
      refine m_getR (q := (X + 107)) zf_RX11_91 rfl dX11_meet_25 (shX_k (w := w) hx) (shX_p18 hx) ?_
      refine r_iload1 dX11_meet_28 ?_
      refine n_iconst dX11_meet_29 (by decide) (fun r29 e29 => ?_)
      refine m_iast (k := x.toInt.toNat) dX11_meet_30 (shX_k108 hx) (shX_n108 hx) (by omega) (by omega) ?_
      refine n_iconst dX11_meet_31 (by decide) (fun r31 e31_z => ?_)
      refine m_zret dX11_meet_32 rfl (by omega) (Nat.le_of_ble_eq_true rfl) (Nat.le_of_ble_eq_true rfl) ?_
      exact hQ _ _ (Or.inl ⟨by omega, by omega, fun q hq => zu_ne hq, fun k hk => zu_nn (Or.inr hk), by rw [zu_at]; omega⟩)
    · refine n_iconst dX11_meet_22 (by decide) (fun r22 e22_z => ?_)
      refine m_zret dX11_meet_23 rfl (by omega) (Nat.le_of_ble_eq_true rfl) (Nat.le_of_ble_eq_true rfl) ?_
      exact hQ _ f (Or.inr ⟨by omega, by omega, rfl⟩)
