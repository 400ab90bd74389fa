/-! the reference: a told stack -/
def bsW (l : List Int) (n : Nat) : Nat → Nat
  | 0 => 0
  | k + 1 => bsW l n k ||| (match l[k]? with
    | some v => if 0 ≤ v ∧ v < (n : Nat) then 2 ^ v.toNat else 0
    | none => 0)
theorem bsW_bit {l : List Int} {n : Nat} : ∀ k c, (bsW l n k).testBit c = true ↔ c < n ∧ ∃ i, i < k ∧ l[i]? = some ((c : Nat) : Int) := by
  intro k
  induction k with
  | zero =>
    intro c
    show (0 : Nat).testBit c = true ↔ _
    rw [Nat.zero_testBit]
    exact ⟨fun h_z => absurd h_z (by decide), fun ⟨_, i, h_z, _⟩ => absurd h_z (by omega)⟩
  | succ k ih =>
    intro c
    have hd_z : bsW l n (k + 1) = bsW l n k ||| (match l[k]? with
      | some v => if 0 ≤ v ∧ v < (n : Nat) then 2 ^ v.toNat else 0
      | none => 0) := rfl
    rw [hd_z, Nat.testBit_or, Bool.or_eq_true, ih c]
    have h2 : Nat.testBit (match l[k]? with
      | some v => if 0 ≤ v ∧ v < (n : Nat) then 2 ^ v.toNat else 0
      | none => 0) c = true ↔ c < n ∧ l[k]? = some ((c : Nat) : Int) := by
      cases hk : l[k]? with
      | none =>
        show (0 : Nat).testBit c = true ↔ _
        rw [Nat.zero_testBit]
        exact ⟨fun h_z => absurd h_z (by decide), fun h_z => absurd h_z.2 (by simp)⟩
      | some v =>
        show Nat.testBit (if 0 ≤ v ∧ v < (n : Nat) then 2 ^ v.toNat else 0) c = true ↔ _
        by_cases hv : 0 ≤ v ∧ v < (n : Nat)
        · rw [if_pos hv, Nat.testBit_two_pow, decide_eq_true_iff]
          exact ⟨fun h_z => ⟨by omega, by rw [← h_z]; congr 1; omega⟩, fun h_z => by have := Option.some.inj h_z.2; omega⟩
        · rw [if_neg hv, Nat.zero_testBit]
          exact ⟨fun h_z => absurd h_z (by decide), fun h_z => by have := Option.some.inj h_z.2; omega⟩
    rw [h2]
    constructor
    · rintro (⟨h3, i, h4, h5⟩ | ⟨h3, h5⟩)
      · exact ⟨h3, i, by omega, h5⟩
      · exact ⟨h3, k, by omega, h5⟩
    · rintro ⟨h3, i, h4, h5⟩
      rcases Nat.lt_or_ge i k with h6 | h6
      · exact Or.inl ⟨h3, i, h6, h5⟩
      · rw [show i = k by omega] at h5
        exact Or.inr ⟨h3, h5⟩
theorem once_of {l : List Int} {n : Nat} (hl : l.length = n) (h_z : ∀ c, c < n → ∃ i : Nat, l[i]? = some ((c : Nat) : Int)) : onceC l n := by
  have key : ∀ i, i < l.length → (∀ c, c < n → ∃ i2_z : Nat, i2_z ≠ i ∧ l[i2_z]? = some ((c : Nat) : Int)) → False := by
    intro i hi_z h2
    have h3 := inj_len ((List.range n).map (fun c => ((c : Nat) : Int))) (l.eraseIdx i) (fun a b u v hab ha_z hb_z e => ?_) (fun v hv => ?_)
    · rw [List.length_map, List.length_range, List.length_eraseIdx_of_lt hi_z] at h3
      omega
    · have ha2 := (List.getElem?_eq_some_iff.mp ha_z).1
      have hb2 := (List.getElem?_eq_some_iff.mp hb_z).1
      rw [List.length_map, List.length_range] at ha2 hb2
      rw [List.getElem?_map, List.getElem?_range ha2] at ha_z
      rw [List.getElem?_map, List.getElem?_range hb2] at hb_z
      have ha3 : ((a : Nat) : Int) = u := Option.some.inj ha_z
      have hb3 : ((b : Nat) : Int) = v := Option.some.inj hb_z
      omega
    · obtain ⟨c, hc_z, rfl⟩ := List.mem_map.mp hv
      obtain ⟨i2_z, h4, h5⟩ := h2 c (List.mem_range.mp hc_z)
      exact List.mem_eraseIdx_iff_getElem?.mpr ⟨i2_z, h4, h5⟩
  refine ⟨by omega, fun v hv => ?_, fun i k u v hki hu hv e => ?_⟩
  · obtain ⟨i, hi_z⟩ := List.mem_iff_getElem?.mp hv
    refine Classical.byContradiction (fun hn => key i (List.getElem?_eq_some_iff.mp hi_z).1 (fun c hc_z => ?_))
    obtain ⟨i2_z, h4⟩ := h_z c hc_z
    refine ⟨i2_z, fun e => ?_, h4⟩
    rw [e, hi_z] at h4
    have := Option.some.inj h4
    omega
  · refine key i (List.getElem?_eq_some_iff.mp hu).1 (fun c hc_z => ?_)
    obtain ⟨i2_z, h4⟩ := h_z c hc_z
    by_cases h5 : i2_z = i
    · refine ⟨k, by omega, ?_⟩
      rw [h5, hu] at h4
      rw [hv, ← e]
      exact h4
    · exact ⟨i2_z, h5, h4⟩
theorem once_iff {l : List Int} {n : Nat} : onceC l n ↔ l.length = n ∧ bsW l n l.length = 2 ^ n - 1 := by
  constructor
  · intro h_z
    have hl : l.length = n := by have := h_z.1; omega
    refine ⟨hl, Nat.eq_of_testBit_eq (fun c => ?_)⟩
    rw [Nat.testBit_two_pow_sub_one]
    rw [Bool.eq_iff_iff, bsW_bit, decide_eq_true_iff]
    refine ⟨fun h2 => h2.1, fun h2 => ⟨h2, ?_⟩⟩
    obtain ⟨i, hi_z⟩ := once_has h_z h2
    exact ⟨i, (List.getElem?_eq_some_iff.mp hi_z).1, hi_z⟩
  · rintro ⟨hl, h_z⟩
    refine once_of hl (fun c hc_z => ?_)
    have h2 : (bsW l n l.length).testBit c = true := by
      rw [h_z, Nat.testBit_two_pow_sub_one]
      exact decide_eq_true hc_z
    obtain ⟨-, i, -, h3⟩ := (bsW_bit _ c).mp h2
    exact ⟨i, h3⟩
theorem bsW_lt {l : List Int} {n : Nat} (hn : n ≤ 6) : ∀ k, bsW l n k < 64 := by
  intro k
  refine Nat.lt_of_not_le (fun h_z => ?_)
  have h9 : (64 : Nat) = 2 ^ 6 := rfl
  rw [h9] at h_z
  obtain ⟨i, h1, h2⟩ := Nat.exists_ge_and_testBit_of_ge_two_pow h_z
  have h3 := (bsW_bit k i).mp h2
  omega
theorem all_v : ∀ n, n ≤ 6 → ((1 : Int32) <<< (nI n &&& 31)) - 1 = nI (2 ^ n - 1) ∧ 2 ^ n - 1 < 64 := by
  intro n hn
  rcases (show n = 0 ∨ n = 1 ∨ n = 2 ∨ n = 3 ∨ n = 4 ∨ n = 5 ∨ n = 6 by omega) with rfl | rfl | rfl | rfl | rfl | rfl | rfl <;> decide
theorem or_0 : ∀ tk, tk < 64 → (nI tk ||| nI 0) = nI (tk ||| 0) := by decide +kernel
theorem nI_ij {a b : Nat} (ha_z : a < 64) (hb_z : b < 64) : nI a = nI b ↔ a = b := by
  constructor
  · intro h_z
    have h2 := congrArg Int32.toInt h_z
    rw [zi_n (by omega), zi_n (by omega)] at h2
    omega
  · intro h_z; rw [h_z]
set_option maxHeartbeats 4000000 in
set_option maxRecDepth 100000 in
theorem s_X12_stackFault {g : zGT} {w : zW} {f : Nat → Nat → Int32} {j : Nat → Nat → Int64} {A : Nat} {T : zTb} {x : Int32} {ty : Nat → zTy} {Q : Option Value → zW → Prop} {QX : String → zW → Prop} (G : zGok g) (hs : shM w A) (hk : ctKn (f (A + 1)) T) (hw : wfT T) (hty : ∀ t, t < 4 → ctTm f j A t (ty t)) (hQ : ∀ r : Int32, (¬ (0 ≤ x.toInt ∧ x.toInt < 4) ∧ r.toInt = 1 ∨ (0 ≤ x.toInt ∧ x.toInt < 4) ∧ ty x.toInt.toNat = none ∧ r.toInt = 2 ∨ (0 ≤ x.toInt ∧ x.toInt < 4) ∧ (∃ s l, ty x.toInt.toNat = some (s, l) ∧ (r.toInt = 0 ∧ onceC l (tbC T) ∨ r.toInt = 3 ∧ ¬ onceC l (tbC T)))) → Q (some (.int r)) (zM w f j)) : zC g 4 yX12_stackFault cX12_stackFault 5 (some .int) [.ref A, .int x] (zM w f j) (0, 0) Q QX := by
  refine zC_of G (by decide +kernel) (Nat.le_of_ble_eq_true rfl) ?_
  have hk9 := hk
  obtain ⟨⟨k0_z, k1_z, k2_z, k3_z, k4_z, k5_z, k6_z⟩, km, kg, kp, kl1, kl2, kl3⟩ := hk9
  have km9 := km
  obtain ⟨m1_z, m2_z, m3_z⟩ := km9
  have hn6 : tbC T ≤ 6 := hw.2.1
  have hg4 : tbG T ≤ 4 := hw.2.2.1
  have hwm := hw.2.2.2.2.2.2.2.1
  have hml : T.2.2.1.2.length ≤ 5 := hwm.2.1
  have hm99 := hwm.2.2
  have hrt := wfT_rch hw
  have hLl : (tbL T).length ≤ 6 := Nat.le_trans (rch_cell hrt).2.2.2.2 hn6
  have hpl : T.2.2.2.length ≤ 10 := hw.2.2.2.2.2.2.2.2.1
  rcases Classical.em (0 ≤ x.toInt ∧ x.toInt < 4) with hok | hok
  · have hct := hty _ (show x.toInt.toNat < 4 by omega)
    cases hcs : ty x.toInt.toNat with
    | none =>
      rw [hcs] at hct
      have hno : (f (A + 18) x.toInt.toNat).toInt = -1 := hct
      refine r_aloadR0 dX12_stackFault_0 ?_
      refine r_iload1 dX12_stackFault_1 ?_
      refine q_callV1 zm_RX12_389 dX12_stackFault_2 (shM_k hs) (by decide) rfl (Nat.le_of_ble_eq_true rfl) (Nat.le_of_ble_eq_true rfl) (Nat.le_of_ble_eq_true rfl) (Nat.le_of_ble_eq_true rfl) (Nat.le_of_ble_eq_true rfl) (s_X12_trayFault G hs (fun r2 e2_z => ?_))
      rw [if_pos (by omega), if_pos hno] at e2_z
      refine r_istore2 dX12_stackFault_5 rfl ?_
      refine r_iload2 dX12_stackFault_6 ?_
      refine t_ifeq (t := 12) dX12_stackFault_7 (by decide) (fun h7 => False.elim (by omega)) (fun h7 => ?_)
      refine r_iload2 dX12_stackFault_10 ?_
      refine r_iret dX12_stackFault_11 rfl (Nat.le_of_ble_eq_true rfl) (Nat.le_of_ble_eq_true rfl) ?_
      exact hQ _ (Or.inr (Or.inl ⟨hok, hcs, by omega⟩))
    | some q =>
      obtain ⟨s, l⟩ := q
      rw [hcs] at hct
      obtain ⟨t1, t2, t3, t4, t5⟩ := hct
      refine r_aloadR0 dX12_stackFault_0 ?_
      refine r_iload1 dX12_stackFault_1 ?_
      refine q_callV1 zm_RX12_389 dX12_stackFault_2 (shM_k hs) (by decide) rfl (Nat.le_of_ble_eq_true rfl) (Nat.le_of_ble_eq_true rfl) (Nat.le_of_ble_eq_true rfl) (Nat.le_of_ble_eq_true rfl) (Nat.le_of_ble_eq_true rfl) (s_X12_trayFault G hs (fun r2 e2_z => ?_))
      rw [if_pos (by omega), if_neg (by omega)] at e2_z
      refine r_istore2 dX12_stackFault_5 rfl ?_
      refine r_iload2 dX12_stackFault_6 ?_
      refine t_ifeq (t := 12) dX12_stackFault_7 (by decide) (fun h7 => ?_) (fun h7 => False.elim (by omega))
      refine n_iconst dX12_stackFault_12 (by decide) (fun r12 e12_z => ?_)
      refine r_istore3 dX12_stackFault_13 rfl ?_
      refine n_iconst dX12_stackFault_14 (by decide) (fun r14 e14_z => ?_)
      have lp : ∀ (mz : Nat) (u : Int32) (c : Int32) (k : Nat), c.toInt = (k : Nat) → k ≤ l.length → u = nI (bsW l (tbC T) k) → l.length - k < mz → zR (zV g 4 yX12_stackFault 5 (some .int) (0, 0) Q QX) cX12_stackFault yX12_stackFault.cls 17 [some (.ref A), some (.int x), some (.int r2), some (.int u), some (.int c)] [] (zM w f j) (0, 0) := by
        intro mz
        induction mz with
        | zero =>
          intro u c k hck hk8 hu hmz
          exact absurd hmz (Nat.not_lt_zero _)
        | succ mz ih =>
          intro u c k hck hk8 hu hmz
          have hblt := bsW_lt (l := l) hn6 k
          rcases Nat.lt_or_ge k l.length with hkl | hkl
          · obtain ⟨v, hv⟩ : ∃ v, l[k]? = some v := ⟨_, List.getElem?_eq_getElem hkl⟩
            have hnum := t5 k v hv
            have hbs : bsW l (tbC T) (k + 1) = bsW l (tbC T) k ||| (if 0 ≤ v ∧ v < (tbC T : Nat) then 2 ^ v.toNat else 0) := by
              show bsW l (tbC T) k ||| (match l[k]? with | some v => if 0 ≤ v ∧ v < (tbC T : Nat) then 2 ^ v.toNat else 0 | none => 0) = _
              rw [hv]
            rcases Classical.em (0 ≤ v ∧ v < (tbC T : Nat)) with hin | hin
            · refine r_iload4 dX12_stackFault_17 ?_
              refine r_aloadR0 dX12_stackFault_19 ?_
              refine m_getR (q := (A + 19)) zf_RX12_71 rfl dX12_stackFault_20 (shM_k hs) (shM_p19 hs) ?_
              refine r_iload1 dX12_stackFault_23 ?_
              refine m_iald (k := x.toInt.toNat) (x := (f (A + 19) x.toInt.toNat)) dX12_stackFault_24 (shM_k19 hs) (shM_n19 hs) (by omega) (by omega) (rfl) ?_
              refine t_icge (t := 75) dX12_stackFault_25 (by decide) (fun h25 => False.elim (by omega)) (fun h25 => ?_)
              refine r_iload3 dX12_stackFault_28 ?_
              refine r_aloadR0 dX12_stackFault_29 ?_
              refine r_aloadR0 dX12_stackFault_30 ?_
              refine m_getR (q := (A + 20)) zf_RX12_74 rfl dX12_stackFault_31 (shM_k hs) (shM_p20 hs) ?_
              refine n_bipush dX12_stackFault_34 (by decide) (fun r34 e34 => ?_)
              refine r_iload1 dX12_stackFault_36 ?_
              refine n_imulc dX12_stackFault_37 e34 (by omega) (fun r37 e37 => ?_)
              refine r_iload4 dX12_stackFault_38 ?_
              refine n_iadd dX12_stackFault_40 (by omega) (fun r40 e40 => ?_)
              refine m_lald (k := (30 * x.toInt.toNat + k)) (x := (j (A + 20) ((30 * x.toInt.toNat + k)))) dX12_stackFault_41 (shM_k20 hs) (shM_n20 hs) (by omega) (by omega) (rfl) ?_
              refine q_callV1 zm_RX12_337 dX12_stackFault_42 (shM_k hs) (by decide) rfl (Nat.le_of_ble_eq_true rfl) (Nat.le_of_ble_eq_true rfl) (Nat.le_of_ble_eq_true rfl) (Nat.le_of_ble_eq_true rfl) (Nat.le_of_ble_eq_true rfl) (s_X12_isCell G hs hk.1.2.1 hn6 (fun r42 e42_z => ?_))
              refine t_ifeq (t := 66) dX12_stackFault_45 (by decide) (fun h45 => False.elim (by omega)) (fun h45 => ?_)
              refine n_iconst dX12_stackFault_48 (by decide) (fun r48 e48 => ?_)
              refine r_aloadR0 dX12_stackFault_49 ?_
              refine m_getR (q := (A + 20)) zf_RX12_74 rfl dX12_stackFault_50 (shM_k hs) (shM_p20 hs) ?_
              refine n_bipush dX12_stackFault_53 (by decide) (fun r53 e53 => ?_)
              refine r_iload1 dX12_stackFault_55 ?_
              refine n_imulc dX12_stackFault_56 e53 (by omega) (fun r56 e56 => ?_)
              refine r_iload4 dX12_stackFault_57 ?_
              refine n_iadd dX12_stackFault_59 (by omega) (fun r59 e59 => ?_)
              refine m_lald (k := (30 * x.toInt.toNat + k)) (x := (j (A + 20) ((30 * x.toInt.toNat + k)))) dX12_stackFault_60 (shM_k20 hs) (shM_n20 hs) (by omega) (by omega) (rfl) ?_
              refine n_l2i dX12_stackFault_61 (by omega) (fun r61 e61 => ?_)
              refine r_ishl dX12_stackFault_62 ?_
              refine n_name (fun r62 e62 => ?_)
              refine r_goto (t := 67) dX12_stackFault_63 (by decide) ?_
              refine r_ior dX12_stackFault_67 ?_
              refine n_name (fun r67 e67 => ?_)
              refine r_istore3 dX12_stackFault_68 rfl ?_
              refine n_iinc4 dX12_stackFault_69 (by decide) rfl (by omega) (fun r69 e69 => ?_)
              refine r_goto (t := 17) dX12_stackFault_72 (by decide) ?_
              refine ih _ _ (k + 1) (by omega) (by omega) ?_ (by omega)
              rw [hbs, if_pos hin, e67, e62, hu, show r48 = 1 from zi_eq.mpr (e48.trans (by decide)), show r61 = nI v.toNat from zi_of (by omega) (by omega)]
              exact (or_v _ hblt _ (by omega)).1
            · refine r_iload4 dX12_stackFault_17 ?_
              refine r_aloadR0 dX12_stackFault_19 ?_
              refine m_getR (q := (A + 19)) zf_RX12_71 rfl dX12_stackFault_20 (shM_k hs) (shM_p19 hs) ?_
              refine r_iload1 dX12_stackFault_23 ?_
              refine m_iald (k := x.toInt.toNat) (x := (f (A + 19) x.toInt.toNat)) dX12_stackFault_24 (shM_k19 hs) (shM_n19 hs) (by omega) (by omega) (rfl) ?_
              refine t_icge (t := 75) dX12_stackFault_25 (by decide) (fun h25 => False.elim (by omega)) (fun h25 => ?_)
              refine r_iload3 dX12_stackFault_28 ?_
              refine r_aloadR0 dX12_stackFault_29 ?_
              refine r_aloadR0 dX12_stackFault_30 ?_
              refine m_getR (q := (A + 20)) zf_RX12_74 rfl dX12_stackFault_31 (shM_k hs) (shM_p20 hs) ?_
              refine n_bipush dX12_stackFault_34 (by decide) (fun r34 e34 => ?_)
              refine r_iload1 dX12_stackFault_36 ?_
              refine n_imulc dX12_stackFault_37 e34 (by omega) (fun r37 e37 => ?_)
              refine r_iload4 dX12_stackFault_38 ?_
              refine n_iadd dX12_stackFault_40 (by omega) (fun r40 e40 => ?_)
              refine m_lald (k := (30 * x.toInt.toNat + k)) (x := (j (A + 20) ((30 * x.toInt.toNat + k)))) dX12_stackFault_41 (shM_k20 hs) (shM_n20 hs) (by omega) (by omega) (rfl) ?_
              refine q_callV1 zm_RX12_337 dX12_stackFault_42 (shM_k hs) (by decide) rfl (Nat.le_of_ble_eq_true rfl) (Nat.le_of_ble_eq_true rfl) (Nat.le_of_ble_eq_true rfl) (Nat.le_of_ble_eq_true rfl) (Nat.le_of_ble_eq_true rfl) (s_X12_isCell G hs hk.1.2.1 hn6 (fun r42 e42_z => ?_))
              refine t_ifeq (t := 66) dX12_stackFault_45 (by decide) (fun h45 => ?_) (fun h45 => False.elim (by omega))
              refine n_iconst dX12_stackFault_66 (by decide) (fun r66 e66 => ?_)
              refine r_ior dX12_stackFault_67 ?_
              refine n_name (fun r67 e67 => ?_)
              refine r_istore3 dX12_stackFault_68 rfl ?_
              refine n_iinc4 dX12_stackFault_69 (by decide) rfl (by omega) (fun r69 e69 => ?_)
              refine r_goto (t := 17) dX12_stackFault_72 (by decide) ?_
              refine ih _ _ (k + 1) (by omega) (by omega) ?_ (by omega)
              rw [hbs, if_neg hin, e67, hu, show r66 = nI 0 from zi_of (by omega) (by omega)]
              exact or_0 _ hblt
          · refine r_iload4 dX12_stackFault_17 ?_
            refine r_aloadR0 dX12_stackFault_19 ?_
            refine m_getR (q := (A + 19)) zf_RX12_71 rfl dX12_stackFault_20 (shM_k hs) (shM_p19 hs) ?_
            refine r_iload1 dX12_stackFault_23 ?_
            refine m_iald (k := x.toInt.toNat) (x := (f (A + 19) x.toInt.toNat)) dX12_stackFault_24 (shM_k19 hs) (shM_n19 hs) (by omega) (by omega) (rfl) ?_
            refine t_icge (t := 75) dX12_stackFault_25 (by decide) (fun h25 => ?_) (fun h25 => False.elim (by omega))
            refine r_aloadR0 dX12_stackFault_75 ?_
            refine m_getR (q := (A + 19)) zf_RX12_71 rfl dX12_stackFault_76 (shM_k hs) (shM_p19 hs) ?_
            refine r_iload1 dX12_stackFault_79 ?_
            refine m_iald (k := x.toInt.toNat) (x := (f (A + 19) x.toInt.toNat)) dX12_stackFault_80 (shM_k19 hs) (shM_n19 hs) (by omega) (by omega) (rfl) ?_
            refine r_aloadR0 dX12_stackFault_81 ?_
            refine q_callV0 zm_RX12_253 dX12_stackFault_82 (shM_k hs) (by decide) rfl (Nat.le_of_ble_eq_true rfl) (Nat.le_of_ble_eq_true rfl) (Nat.le_of_ble_eq_true rfl) (Nat.le_of_ble_eq_true rfl) (Nat.le_of_ble_eq_true rfl) (s_X12_cells G hs hk.1.2.1 (fun r82 e82 => ?_))
            refine t_icne (t := 104) dX12_stackFault_85 (by decide) (fun h85 => ?_) (fun h85 => ?_)
            · refine n_iconst dX12_stackFault_104 (by decide) (fun r104 e104_z => ?_)
              refine r_iret dX12_stackFault_105 rfl (Nat.le_of_ble_eq_true rfl) (Nat.le_of_ble_eq_true rfl) ?_
              refine hQ _ (Or.inr (Or.inr ⟨hok, s, l, hcs, ?_⟩))
              rw [once_iff]
              first
                | exact Or.inl ⟨by omega, by omega, hqv.mp (zi_eq.mpr h97)⟩
                | exact Or.inr ⟨by omega, fun h9 => h97 (zi_eq.mp (hqv.mpr h9.2))⟩
                | exact Or.inr ⟨by omega, fun h9 => by have := h9.1; omega⟩
            · refine r_iload3 dX12_stackFault_88 ?_
              refine n_iconst dX12_stackFault_89 (by decide) (fun r89 e89 => ?_)
              refine r_aloadR0 dX12_stackFault_90 ?_
              refine q_callV0 zm_RX12_253 dX12_stackFault_91 (shM_k hs) (by decide) rfl (Nat.le_of_ble_eq_true rfl) (Nat.le_of_ble_eq_true rfl) (Nat.le_of_ble_eq_true rfl) (Nat.le_of_ble_eq_true rfl) (Nat.le_of_ble_eq_true rfl) (s_X12_cells G hs hk.1.2.1 (fun r91 e91 => ?_))
              refine r_ishl dX12_stackFault_94 ?_
              refine n_name (fun r94 e94_z => ?_)
              refine n_iconst dX12_stackFault_95 (by decide) (fun r95 e95_z => ?_)
              refine r_isub dX12_stackFault_96 ?_
              refine n_name (fun r96 e96 => ?_)
              have hqv : u = r96 ↔ bsW l (tbC T) l.length = 2 ^ tbC T - 1 := by
                have hkl2 : k = l.length := by omega
                have hav := all_v (tbC T) hn6
                rw [hkl2] at hu hblt
                rw [hu, e96, e94_z, show r89 = 1 from zi_eq.mpr (e89.trans (by decide)), show r95 = 1 from zi_eq.mpr (e95_z.trans (by decide)), show r91 = nI (tbC T) from zi_of e91 (by omega), hav.1]
                exact nI_ij hblt hav.2
              refine t_icne (t := 104) dX12_stackFault_97 (by decide) (fun h97 => ?_) (fun h97 => ?_)
              · refine n_iconst dX12_stackFault_104 (by decide) (fun r104 e104_z => ?_)
                refine r_iret dX12_stackFault_105 rfl (Nat.le_of_ble_eq_true rfl) (Nat.le_of_ble_eq_true rfl) ?_
                refine hQ _ (Or.inr (Or.inr ⟨hok, s, l, hcs, ?_⟩))
                rw [once_iff]
                first
                  | exact Or.inl ⟨by omega, by omega, hqv.mp (zi_eq.mpr h97)⟩
                  | exact Or.inr ⟨by omega, fun h9 => h97 (zi_eq.mp (hqv.mpr h9.2))⟩
                  | exact Or.inr ⟨by omega, fun h9 => by have := h9.1; omega⟩
              · refine n_iconst dX12_stackFault_100 (by decide) (fun r100 e100_z => ?_)
                refine r_goto (t := 105) dX12_stackFault_101 (by decide) ?_
                refine r_iret dX12_stackFault_105 rfl (Nat.le_of_ble_eq_true rfl) (Nat.le_of_ble_eq_true rfl) ?_
                refine hQ _ (Or.inr (Or.inr ⟨hok, s, l, hcs, ?_⟩))
                rw [once_iff]
                first
                  | exact Or.inl ⟨by omega, by omega, hqv.mp (zi_eq.mpr h97)⟩
                  | exact Or.inr ⟨by omega, fun h9 => h97 (zi_eq.mp (hqv.mpr h9.2))⟩
                  | exact Or.inr ⟨by omega, fun h9 => by have := h9.1; omega⟩
      refine r_istore4 dX12_stackFault_15 rfl ?_
      exact lp 31 _ _ 0 (by omega) (by omega) (zi_of (n := 0) (by omega) (by omega)) (by omega)
  · refine r_aloadR0 dX12_stackFault_0 ?_
    refine r_iload1 dX12_stackFault_1 ?_
    refine q_callV1 zm_RX12_389 dX12_stackFault_2 (shM_k hs) (by decide) rfl (Nat.le_of_ble_eq_true rfl) (Nat.le_of_ble_eq_true rfl) (Nat.le_of_ble_eq_true rfl) (Nat.le_of_ble_eq_true rfl) (Nat.le_of_ble_eq_true rfl) (s_X12_trayFault G hs (fun r2 e2_z => ?_))
    rw [if_neg (by omega)] at e2_z
    refine r_istore2 dX12_stackFault_5 rfl ?_
    refine r_iload2 dX12_stackFault_6 ?_
    refine t_ifeq (t := 12) dX12_stackFault_7 (by decide) (fun h7 => False.elim (by omega)) (fun h7 => ?_)
    refine r_iload2 dX12_stackFault_10 ?_
    refine r_iret dX12_stackFault_11 rfl (Nat.le_of_ble_eq_true rfl) (Nat.le_of_ble_eq_true rfl) ?_
    exact hQ _ (Or.inl ⟨hok, by omega⟩)
def dpR (o : Option zRo) : Int := match o with
  | some y => (y.2.length : Nat)
  | none => -1
set_option maxHeartbeats 4000000 in
set_option maxRecDepth 100000 in
theorem s_X12_stack {g : zGT} {w : zW} {f : Nat → Nat → Int32} {j : Nat → Nat → Int64} {A : Nat} {T : zTb} {x : Int32} {ty : Nat → zTy} {Q : Option Value → zW → Prop} {QX : String → zW → Prop} (G : zGok g) (hs : shM w A) (hk : ctKn (f (A + 1)) T) (hw : wfT T) (hmb : mbI f A) (htn : (f A 37).toInt < 1900000000) (hty : ∀ t, t < 4 → ctTm f j A t (ty t)) (hT1 : ¬ (0 ≤ x.toInt ∧ x.toInt < 4) → ∀ (r : Int32) f2_z j2, qM A f f2_z j j2 0 → (f2_z A 4).toInt = 1 → Q (some (.int r)) (zM w f2_z j2)) (hT2 : (0 ≤ x.toInt ∧ x.toInt < 4) → ty x.toInt.toNat = none → ∀ (r : Int32) f2_z j2, qM A f f2_z j j2 0 → (f2_z A 4).toInt = 2 → Q (some (.int r)) (zM w f2_z j2)) (hT3 : (0 ≤ x.toInt ∧ x.toInt < 4) → ∀ s l, ty x.toInt.toNat = some (s, l) → ¬ onceC l (tbC T) → ∀ (r : Int32) f2_z j2, qM A f f2_z j j2 0 → (f2_z A 4).toInt = 3 → Q (some (.int r)) (zM w f2_z j2)) (hQ : (0 ≤ x.toInt ∧ x.toInt < 4) → ∀ s l, ty x.toInt.toNat = some (s, l) → onceC l (tbC T) → ∀ (r : Int32) f2_z j2, r.toInt = dpR (fstR (fun L _ => @decide (ordC L l) (Classical.propDecidable _)) (allF 6 (lyFlat (tbC T)))) → qM A f f2_z j j2 1 → (f2_z A 4).toInt = 0 → Q (some (.int r)) (zM w f2_z j2)) : zC g 17 yX12_stack cX12_stack 2 (some .int) [.ref A, .int x] (zM w f j) (0, 0) Q QX := by
  refine zC_of G (by decide +kernel) (Nat.le_of_ble_eq_true rfl) ?_
  have hk9 := hk
  obtain ⟨⟨k0_z, k1_z, k2_z, k3_z, k4_z, k5_z, k6_z⟩, km, kg, kp, kl1, kl2, kl3⟩ := hk9
  have km9 := km
  obtain ⟨m1_z, m2_z, m3_z⟩ := km9
  have hn6 : tbC T ≤ 6 := hw.2.1
  have hg4 : tbG T ≤ 4 := hw.2.2.1
  have hwm := hw.2.2.2.2.2.2.2.1
  have hml : T.2.2.1.2.length ≤ 5 := hwm.2.1
  have hm99 := hwm.2.2
  have hrt := wfT_rch hw
  have hLl : (tbL T).length ≤ 6 := Nat.le_trans (rch_cell hrt).2.2.2.2 hn6
  have hpl : T.2.2.2.length ≤ 10 := hw.2.2.2.2.2.2.2.2.1
  refine r_aloadR0 dX12_stack_0 ?_
  refine r_aloadR0 dX12_stack_1 ?_
  refine r_iload1 dX12_stack_2 ?_
  refine q_callV1 zm_RX12_531 dX12_stack_3 (shM_k hs) (by decide) rfl (Nat.le_of_ble_eq_true rfl) (Nat.le_of_ble_eq_true rfl) (Nat.le_of_ble_eq_true rfl) (Nat.le_of_ble_eq_true rfl) (Nat.le_of_ble_eq_true rfl) (s_X12_stackFault G hs hk hw hty (fun r3 e3_z => ?_))
  rcases e3_z with ⟨q1_z, q2_z⟩ | ⟨q1_z, q2_z, q3_z⟩ | ⟨q1_z, s, l, q2_z, ⟨q3_z, q4_z⟩ | ⟨q3_z, q4_z⟩⟩
  · refine m_putI zf_RX12_77 (by intro C T N h_z; cases h_z; rfl) rfl dX12_stack_6 (shM_k hs) ?_
    obtain ⟨g6, hg6⟩ : ∃ g9, g9 = zu f A 4 r3 := ⟨_, rfl⟩
    rw [← hg6]
    have og6 : frM A [] [4] f g6 := by rw [hg6]; exact frM_zk frM_rf (by decide)
    have vg6 : g6 A 4 = r3 := by rw [hg6]; exact zu_at
    have vt6 : (g6 A 4).toInt = r3.toInt := by rw [vg6]
    have hk6 : ctKn (g6 (A + 1)) T := by rw [og6.2.1 1 (by decide) (by decide) (by decide)]; exact hk
    refine r_aloadR0 dX12_stack_9 ?_
    refine m_getV (x := (g6 A 4)) zf_RX12_77 rfl dX12_stack_10 (shM_k hs) (rfl) ?_
    refine t_ifle (t := 18) dX12_stack_13 (by decide) (fun h13 => False.elim (by omega)) (fun h13 => ?_)
    refine n_iconst dX12_stack_16 (by decide) (fun r16 e16_z => ?_)
    refine r_iret dX12_stack_17 rfl (Nat.le_of_ble_eq_true rfl) (Nat.le_of_ble_eq_true rfl) ?_
    exact hT1 q1_z _ g6 j (qM_q (show frM A [6, 7, 8, 9, 13, 16, 17] [4, 33, 34] f _ from (frM_su og6 (by decide) (by decide)))) (by omega)
  · refine m_putI zf_RX12_77 (by intro C T N h_z; cases h_z; rfl) rfl dX12_stack_6 (shM_k hs) ?_
    obtain ⟨g6, hg6⟩ : ∃ g9, g9 = zu f A 4 r3 := ⟨_, rfl⟩
    rw [← hg6]
    have og6 : frM A [] [4] f g6 := by rw [hg6]; exact frM_zk frM_rf (by decide)
    have vg6 : g6 A 4 = r3 := by rw [hg6]; exact zu_at
    have vt6 : (g6 A 4).toInt = r3.toInt := by rw [vg6]
    have hk6 : ctKn (g6 (A + 1)) T := by rw [og6.2.1 1 (by decide) (by decide) (by decide)]; exact hk
    refine r_aloadR0 dX12_stack_9 ?_
    refine m_getV (x := (g6 A 4)) zf_RX12_77 rfl dX12_stack_10 (shM_k hs) (rfl) ?_
    refine t_ifle (t := 18) dX12_stack_13 (by decide) (fun h13 => False.elim (by omega)) (fun h13 => ?_)
    refine n_iconst dX12_stack_16 (by decide) (fun r16 e16_z => ?_)
    refine r_iret dX12_stack_17 rfl (Nat.le_of_ble_eq_true rfl) (Nat.le_of_ble_eq_true rfl) ?_
    exact hT2 q1_z q2_z _ g6 j (qM_q (show frM A [6, 7, 8, 9, 13, 16, 17] [4, 33, 34] f _ from (frM_su og6 (by decide) (by decide)))) (by omega)
  · refine m_putI zf_RX12_77 (by intro C T N h_z; cases h_z; rfl) rfl dX12_stack_6 (shM_k hs) ?_
    obtain ⟨g6, hg6⟩ : ∃ g9, g9 = zu f A 4 r3 := ⟨_, rfl⟩
    rw [← hg6]
    have og6 : frM A [] [4] f g6 := by rw [hg6]; exact frM_zk frM_rf (by decide)
    have vg6 : g6 A 4 = r3 := by rw [hg6]; exact zu_at
    have vt6 : (g6 A 4).toInt = r3.toInt := by rw [vg6]
    have hk6 : ctKn (g6 (A + 1)) T := by rw [og6.2.1 1 (by decide) (by decide) (by decide)]; exact hk
    refine r_aloadR0 dX12_stack_9 ?_
    refine m_getV (x := (g6 A 4)) zf_RX12_77 rfl dX12_stack_10 (shM_k hs) (rfl) ?_
    refine t_ifle (t := 18) dX12_stack_13 (by decide) (fun h13 => ?_) (fun h13 => False.elim (by omega))
    refine r_aloadR0 dX12_stack_18 ?_
    refine r_iload1 dX12_stack_19 ?_
    refine m_putI zf_RX12_449 (by intro C T N h_z; cases h_z; rfl) rfl dX12_stack_20 (shM_k hs) ?_
    obtain ⟨g20, hg20⟩ : ∃ g9, g9 = zu g6 A 33 x := ⟨_, rfl⟩
    rw [← hg20]
    have og20 : frM A [] [33] g6 g20 := by rw [hg20]; exact frM_zk frM_rf (by decide)
    have vg20 : g20 A 33 = x := by rw [hg20]; exact zu_at
    have vt20 : (g20 A 33).toInt = x.toInt := by rw [vg20]
    have hk20 : ctKn (g20 (A + 1)) T := by rw [og20.2.1 1 (by decide) (by decide) (by decide)]; exact hk6
    refine r_aloadR0 dX12_stack_23 ?_
    refine q_callV0 zm_RX12_277 dX12_stack_24 (shM_k hs) (by decide) rfl (Nat.le_of_ble_eq_true rfl) (Nat.le_of_ble_eq_true rfl) (Nat.le_of_ble_eq_true rfl) (Nat.le_of_ble_eq_true rfl) (Nat.le_of_ble_eq_true rfl) (s_X12_laysFlat G hs hk20.1.2.1 hn6 (fun g24 o24 c24 => ?_))
    refine r_aloadR0 dX12_stack_27 ?_
    refine n_bipush dX12_stack_28 (by decide) (fun r28 e28_z => ?_)
    refine n_iconst dX12_stack_30 (by decide) (fun r30 e30 => ?_)
    refine n_iconst dX12_stack_31 (by decide) (fun r31 e31_z => ?_)
    have ofA := (show frM A [6, 7, 8, 9, 13, 16, 17] [4, 33, 34] f _ from (frM_tr (frM_tr (frM_su og6 (by decide) (by decide)) (frM_su og20 (by decide) (by decide))) (frM_su o24 (by decide) (by decide))))
    have hkA : ctKn (g24 (A + 1)) T := by rw [ofA.2.1 1 (by decide) (by decide) (by decide)]; exact hk
    have thA : (g24 A 4).toInt = 0 := by rw [o24.2.2 4 (by decide), og20.2.2 4 (by decide)]; omega
    have mbA : mbI g24 A := by intro i hi_z; rw [ofA.2.1 15 (by decide) (by decide) (by decide), ofA.2.2 37 (by decide)]; exact hmb i hi_z
    refine q_callV3 zm_RX12_502 dX12_stack_32 (shM_k hs) (by decide) rfl (Nat.le_of_ble_eq_true rfl) (Nat.le_of_ble_eq_true rfl) (Nat.le_of_ble_eq_true rfl) (Nat.le_of_ble_eq_true rfl) (Nat.le_of_ble_eq_true rfl) (s_X12_asksAll (T := T) (dd := 0) (mm := 5) (L := (lyFlat (tbC T))) (wh := 9) (Inv := (invF A 9 (g24 A 33).toInt ty (fun L _ => @decide (ordC L l) (Classical.propDecidable _)))) (Fin := (finF A (fun L _ => @decide (ordC L l) (Classical.propDecidable _)))) G hs hw (by omega) hkA e28_z (by omega) e31_z (by omega) c24 (rch_flat hn6) (by rw [ofA.2.2 37 (by decide)]; omega) (see_sta (tn := x.toInt.toNat) (s := s) (l := l) G hs hw (by omega) (by rw [o24.2.2 33 (by decide), vg20]; omega) (by omega) q2_z (by have := q4_z.1; omega)) invF_iv (fun f1_z of h28 h30 h31 h32 h37 => invF_0 of rfl h28 h31 h32 (tys_of hty ofA (by decide) (by decide) (fun _ _ => rfl))) (fun g32 j32 o32 t32 c32 => ?_))
    have oq : qM A f g32 j j32 1 := qM_ga ofA o32 t32
    have oth : (g32 A 4).toInt = 0 := by rw [o32.1.2.2 4 (by decide)]; exact thA
    refine r_aloadR0 dX12_stack_35 ?_
    refine m_getV (x := (g32 A 31)) zf_RX12_425 rfl dX12_stack_36 (shM_k hs) (rfl) ?_
    refine r_iret dX12_stack_39 rfl (Nat.le_of_ble_eq_true rfl) (Nat.le_of_ble_eq_true rfl) ?_
    refine hQ q1_z s l q2_z q4_z _ g32 j32 ?_ oq oth
    rcases c32 with ⟨qs, z, rest, h1, h2, h3, h4, h5, h6⟩ | ⟨_, _, h9, h10, _, h12⟩
    · rw [show allF 6 (lyFlat (tbC T)) = qs ++ z :: rest from h1, fstR_s h6 h5]; exact h2
    · rw [fstR_n h12]; exact h9
  · refine m_putI zf_RX12_77 (by intro C T N h_z; cases h_z; rfl) rfl dX12_stack_6 (shM_k hs) ?_
    obtain ⟨g6, hg6⟩ : ∃ g9, g9 = zu f A 4 r3 := ⟨_, rfl⟩
    rw [← hg6]
    have og6 : frM A [] [4] f g6 := by rw [hg6]; exact frM_zk frM_rf (by decide)
    have vg6 : g6 A 4 = r3 := by rw [hg6]; exact zu_at
    have vt6 : (g6 A 4).toInt = r3.toInt := by rw [vg6]
    have hk6 : ctKn (g6 (A + 1)) T := by rw [og6.2.1 1 (by decide) (by decide) (by decide)]; exact hk
    refine r_aloadR0 dX12_stack_9 ?_
    refine m_getV (x := (g6 A 4)) zf_RX12_77 rfl dX12_stack_10 (shM_k hs) (rfl) ?_
    refine t_ifle (t := 18) dX12_stack_13 (by decide) (fun h13 => False.elim (by omega)) (fun h13 => ?_)
    refine n_iconst dX12_stack_16 (by decide) (fun r16 e16_z => ?_)
    refine r_iret dX12_stack_17 rfl (Nat.le_of_ble_eq_true rfl) (Nat.le_of_ble_eq_true rfl) ?_
    exact hT3 q1_z s l q2_z q4_z _ g6 j (qM_q (show frM A [6, 7, 8, 9, 13, 16, 17] [4, 33, 34] f _ from (frM_su og6 (by decide) (by decide)))) (by omega)
set_option maxHeartbeats 4000000 in
set_option maxRecDepth 100000 in
theorem s_X12_stands {g : zGT} {w : zW} {f : Nat → Nat → Int32} {j : Nat → Nat → Int64} {A : Nat} {T : zTb} {x : Int32} {ty : Nat → zTy} {Q : Option Value → zW → Prop} {QX : String → zW → Prop} (G : zGok g) (hs : shM w A) (hk : ctKn (f (A + 1)) T) (hw : wfT T) (hmb : mbI f A) (htn : (f A 37).toInt < 1900000000) (hty : ∀ t, t < 4 → ctTm f j A t (ty t)) (hT1 : ¬ (0 ≤ x.toInt ∧ x.toInt < 4) → ∀ (r : Int32) f2_z j2, qM A f f2_z j j2 0 → (f2_z A 4).toInt = 1 → Q (some (.int r)) (zM w f2_z j2)) (hT2 : (0 ≤ x.toInt ∧ x.toInt < 4) → ty x.toInt.toNat = none → ∀ (r : Int32) f2_z j2, qM A f f2_z j j2 0 → (f2_z A 4).toInt = 2 → Q (some (.int r)) (zM w f2_z j2)) (hT3 : (0 ≤ x.toInt ∧ x.toInt < 4) → ∀ s l, ty x.toInt.toNat = some (s, l) → ¬ onceC l (tbC T) → ∀ (r : Int32) f2_z j2, qM A f f2_z j j2 0 → (f2_z A 4).toInt = 3 → Q (some (.int r)) (zM w f2_z j2)) (hQ : (0 ≤ x.toInt ∧ x.toInt < 4) → ∀ s l, ty x.toInt.toNat = some (s, l) → onceC l (tbC T) → ∀ (r : Int32) f2_z j2, (r.toInt = 1 ∧ canB (tbC T) (posW l l.length) = true ∨ r.toInt = 0 ∧ ¬ canB (tbC T) (posW l l.length) = true) → qM A f f2_z j j2 0 → (f2_z A 4).toInt = 0 → Q (some (.int r)) (zM w f2_z j2)) : zC g 17 yX12_stands cX12_stands 3 (some .boolean) [.ref A, .int x] (zM w f j) (0, 0) Q QX := by
  refine zC_of G (by decide +kernel) (Nat.le_of_ble_eq_true rfl) ?_
  have hk9 := hk
  obtain ⟨⟨k0_z, k1_z, k2_z, k3_z, k4_z, k5_z, k6_z⟩, km, kg, kp, kl1, kl2, kl3⟩ := hk9
  have km9 := km
  obtain ⟨m1_z, m2_z, m3_z⟩ := km9
  have hn6 : tbC T ≤ 6 := hw.2.1
  have hg4 : tbG T ≤ 4 := hw.2.2.1
  have hwm := hw.2.2.2.2.2.2.2.1
  have hml : T.2.2.1.2.length ≤ 5 := hwm.2.1
  have hm99 := hwm.2.2
  have hrt := wfT_rch hw
  have hLl : (tbL T).length ≤ 6 := Nat.le_trans (rch_cell hrt).2.2.2.2 hn6
  have hpl : T.2.2.2.length ≤ 10 := hw.2.2.2.2.2.2.2.2.1
  refine r_aloadR0 dX12_stands_0 ?_
  refine r_aloadR0 dX12_stands_1 ?_
  refine r_iload1 dX12_stands_2 ?_
  refine q_callV1 zm_RX12_531 dX12_stands_3 (shM_k hs) (by decide) rfl (Nat.le_of_ble_eq_true rfl) (Nat.le_of_ble_eq_true rfl) (Nat.le_of_ble_eq_true rfl) (Nat.le_of_ble_eq_true rfl) (Nat.le_of_ble_eq_true rfl) (s_X12_stackFault G hs hk hw hty (fun r3 e3_z => ?_))
  rcases e3_z with ⟨q1_z, q2_z⟩ | ⟨q1_z, q2_z, q3_z⟩ | ⟨q1_z, s, l, q2_z, ⟨q3_z, q4_z⟩ | ⟨q3_z, q4_z⟩⟩
  · refine m_putI zf_RX12_77 (by intro C T N h_z; cases h_z; rfl) rfl dX12_stands_6 (shM_k hs) ?_
    obtain ⟨g6, hg6⟩ : ∃ g9, g9 = zu f A 4 r3 := ⟨_, rfl⟩
    rw [← hg6]
    have og6 : frM A [] [4] f g6 := by rw [hg6]; exact frM_zk frM_rf (by decide)
    have vg6 : g6 A 4 = r3 := by rw [hg6]; exact zu_at
    have vt6 : (g6 A 4).toInt = r3.toInt := by rw [vg6]
    have hk6 : ctKn (g6 (A + 1)) T := by rw [og6.2.1 1 (by decide) (by decide) (by decide)]; exact hk
    refine r_aloadR0 dX12_stands_9 ?_
    refine m_getV (x := (g6 A 4)) zf_RX12_77 rfl dX12_stands_10 (shM_k hs) (rfl) ?_
    refine t_ifle (t := 18) dX12_stands_13 (by decide) (fun h13 => False.elim (by omega)) (fun h13 => ?_)
    refine n_iconst dX12_stands_16 (by decide) (fun r16 e16_z => ?_)
    refine m_zret dX12_stands_17 rfl (by omega) (Nat.le_of_ble_eq_true rfl) (Nat.le_of_ble_eq_true rfl) ?_
    exact hT1 q1_z _ g6 j (qM_q (show frM A [6, 7, 8, 9, 13, 16, 17] [4, 33, 34] f _ from (frM_su og6 (by decide) (by decide)))) (by omega)
  · refine m_putI zf_RX12_77 (by intro C T N h_z; cases h_z; rfl) rfl dX12_stands_6 (shM_k hs) ?_
    obtain ⟨g6, hg6⟩ : ∃ g9, g9 = zu f A 4 r3 := ⟨_, rfl⟩
    rw [← hg6]
    have og6 : frM A [] [4] f g6 := by rw [hg6]; exact frM_zk frM_rf (by decide)
    have vg6 : g6 A 4 = r3 := by rw [hg6]; exact zu_at
    have vt6 : (g6 A 4).toInt = r3.toInt := by rw [vg6]
    have hk6 : ctKn (g6 (A + 1)) T := by rw [og6.2.1 1 (by decide) (by decide) (by decide)]; exact hk
    refine r_aloadR0 dX12_stands_9 ?_
    refine m_getV (x := (g6 A 4)) zf_RX12_77 rfl dX12_stands_10 (shM_k hs) (rfl) ?_
    refine t_ifle (t := 18) dX12_stands_13 (by decide) (fun h13 => False.elim (by omega)) (fun h13 => ?_)
    refine n_iconst dX12_stands_16 (by decide) (fun r16 e16_z => ?_)
    refine m_zret dX12_stands_17 rfl (by omega) (Nat.le_of_ble_eq_true rfl) (Nat.le_of_ble_eq_true rfl) ?_
    exact hT2 q1_z q2_z _ g6 j (qM_q (show frM A [6, 7, 8, 9, 13, 16, 17] [4, 33, 34] f _ from (frM_su og6 (by decide) (by decide)))) (by omega)
  · refine m_putI zf_RX12_77 (by intro C T N h_z; cases h_z; rfl) rfl dX12_stands_6 (shM_k hs) ?_
    obtain ⟨g6, hg6⟩ : ∃ g9, g9 = zu f A 4 r3 := ⟨_, rfl⟩
    rw [← hg6]
    have og6 : frM A [] [4] f g6 := by rw [hg6]; exact frM_zk frM_rf (by decide)
    have vg6 : g6 A 4 = r3 := by rw [hg6]; exact zu_at
    have vt6 : (g6 A 4).toInt = r3.toInt := by rw [vg6]
    have hk6 : ctKn (g6 (A + 1)) T := by rw [og6.2.1 1 (by decide) (by decide) (by decide)]; exact hk
    have hct := hty x.toInt.toNat (by omega)
    rw [q2_z] at hct
    obtain ⟨t1, t2, t3, t4, t5⟩ := hct
    have hlen : l.length = tbC T := by have := q4_z.1; omega
    have lp : ∀ (mz : Nat) (c : Int32) (k : Nat) (f2_z : Nat → Nat → Int32), c.toInt = (k : Nat) → k ≤ l.length → frM A [16] [] g6 f2_z → (∀ c9_z, c9_z < tbC T → (∃ i, i < k ∧ l[i]? = some ((c9_z : Nat) : Int)) → (f2_z (A + 16) c9_z).toInt = posW l k c9_z) → l.length - k < mz → zR (zV g 17 yX12_stands 3 (some .boolean) (0, 0) Q QX) cX12_stands yX12_stands.cls 20 [some (.ref A), some (.int x), some (.int c)] [] (zM w f2_z j) (0, 0) := by
      intro mz
      induction mz with
      | zero =>
        intro c k f2_z hck hk8 ho hd_z hmz
        exact absurd hmz (Nat.not_lt_zero _)
      | succ mz ih =>
        intro c k f2_z hck hk8 ho hd_z hmz
        have hk2 : ctKn (f2_z (A + 1)) T := by rw [ho.2.1 1 (by decide) (by decide) (by decide)]; exact hk6
        rcases Nat.lt_or_ge k l.length with hkl | hkl
        · obtain ⟨v, hv⟩ : ∃ v, l[k]? = some v := ⟨_, List.getElem?_eq_getElem hkl⟩
          have hnum := t5 k v hv
          have hvb := q4_z.2.1 v (List.mem_of_getElem? hv)
          refine r_iload2 dX12_stands_20 ?_
          refine r_aloadR0 dX12_stands_21 ?_
          refine q_callV0 zm_RX12_253 dX12_stands_22 (shM_k hs) (by decide) rfl (Nat.le_of_ble_eq_true rfl) (Nat.le_of_ble_eq_true rfl) (Nat.le_of_ble_eq_true rfl) (Nat.le_of_ble_eq_true rfl) (Nat.le_of_ble_eq_true rfl) (s_X12_cells G hs hk2.1.2.1 (fun r22 e22_z => ?_))
          refine t_icge (t := 52) dX12_stands_25 (by decide) (fun h25 => False.elim (by omega)) (fun h25 => ?_)
          refine r_aloadR0 dX12_stands_28 ?_
          refine m_getR (q := (A + 16)) zf_RX12_62 rfl dX12_stands_29 (shM_k hs) (shM_p16 hs) ?_
          refine r_aloadR0 dX12_stands_32 ?_
          refine m_getR (q := (A + 20)) zf_RX12_74 rfl dX12_stands_33 (shM_k hs) (shM_p20 hs) ?_
          refine n_bipush dX12_stands_36 (by decide) (fun r36 e36 => ?_)
          refine r_iload1 dX12_stands_38 ?_
          refine n_imulc dX12_stands_39 e36 (by omega) (fun r39 e39 => ?_)
          refine r_iload2 dX12_stands_40 ?_
          refine n_iadd dX12_stands_41 (by omega) (fun r41 e41_z => ?_)
          refine m_lald (k := (30 * x.toInt.toNat + k)) (x := (j (A + 20) ((30 * x.toInt.toNat + k)))) dX12_stands_42 (shM_k20 hs) (shM_n20 hs) (by omega) (by omega) (rfl) ?_
          refine n_l2i dX12_stands_43 (by omega) (fun r43 e43 => ?_)
          refine r_iload2 dX12_stands_44 ?_
          refine m_iast (k := v.toNat) dX12_stands_45 (shM_k16 hs) (shM_n16 hs) (by omega) (by omega) ?_
          refine n_iinc2 dX12_stands_46 (by decide) rfl (by omega) (fun r46 e46 => ?_)
          refine r_goto (t := 20) dX12_stands_49 (by decide) ?_
          refine ih _ (k + 1) _ (by omega) (by omega) (frM_zr (r := 16) ho (by decide) (by decide) (by decide)) (fun c9_z hc9 he => ?_) (by omega)
          have hps : posW l (k + 1) c9_z = if l[k]? = some ((c9_z : Nat) : Int) then ((k : Nat) : Int) else posW l k c9_z := rfl
          rw [hps, zu_s2, hv]
          by_cases h9 : c9_z = v.toNat
          · rw [if_pos h9, if_pos (by congr 1; omega)]; exact hck
          · rw [if_neg h9, if_neg (fun e9_z => h9 (by have := Option.some.inj e9_z; omega))]
            obtain ⟨i, hi_z, hi2⟩ := he
            refine hd_z c9_z hc9 ⟨i, ?_, hi2⟩
            rcases Nat.lt_or_ge i k with h8 | h8
            · exact h8
            · exfalso
              rw [show i = k by omega, hv] at hi2
              have := Option.some.inj hi2
              omega
        · refine r_iload2 dX12_stands_20 ?_
          refine r_aloadR0 dX12_stands_21 ?_
          refine q_callV0 zm_RX12_253 dX12_stands_22 (shM_k hs) (by decide) rfl (Nat.le_of_ble_eq_true rfl) (Nat.le_of_ble_eq_true rfl) (Nat.le_of_ble_eq_true rfl) (Nat.le_of_ble_eq_true rfl) (Nat.le_of_ble_eq_true rfl) (s_X12_cells G hs hk2.1.2.1 (fun r22 e22_z => ?_))
          refine t_icge (t := 52) dX12_stands_25 (by decide) (fun h25 => ?_) (fun h25 => False.elim (by omega))
          refine r_aloadR0 dX12_stands_52 ?_
          refine q_callV0 zm_RX12_534 dX12_stands_53 (shM_k hs) (by decide) rfl (Nat.le_of_ble_eq_true rfl) (Nat.le_of_ble_eq_true rfl) (Nat.le_of_ble_eq_true rfl) (Nat.le_of_ble_eq_true rfl) (Nat.le_of_ble_eq_true rfl) (s_X12_canStand (Pl := posW l l.length) G hs hk2 hw (fun i hi_z => by obtain ⟨i2_z, h8⟩ := once_has q4_z hi_z; have h7 := hd_z i hi_z ⟨i2_z, by have := (List.getElem?_eq_some_iff.mp h8).1; omega, h8⟩; rw [h7, show k = l.length by omega]) (fun r53 e53 => ?_))
          refine m_zret dX12_stands_56 rfl (by omega) (Nat.le_of_ble_eq_true rfl) (Nat.le_of_ble_eq_true rfl) ?_
          exact hQ q1_z s l q2_z q4_z _ f2_z j e53 (qM_q (frM_tr (frM_su og6 (by decide) (by decide)) (frM_su ho (by decide) (by decide)))) (by rw [ho.2.2 4 (by decide)]; omega)
    refine r_aloadR0 dX12_stands_9 ?_
    refine m_getV (x := (g6 A 4)) zf_RX12_77 rfl dX12_stands_10 (shM_k hs) (rfl) ?_
    refine t_ifle (t := 18) dX12_stands_13 (by decide) (fun h13 => ?_) (fun h13 => False.elim (by omega))
    refine n_iconst dX12_stands_18 (by decide) (fun r18 e18_z => ?_)
    refine r_istore2 dX12_stands_19 rfl ?_
    exact lp 7 _ 0 g6 (by omega) (by omega) frM_rf (fun c hc_z ⟨i, hi_z, _⟩ => absurd hi_z (by omega)) (by omega)
  · refine m_putI zf_RX12_77 (by intro C T N h_z; cases h_z; rfl) rfl dX12_stands_6 (shM_k hs) ?_
    obtain ⟨g6, hg6⟩ : ∃ g9, g9 = zu f A 4 r3 := ⟨_, rfl⟩
    rw [← hg6]
    have og6 : frM A [] [4] f g6 := by rw [hg6]; exact frM_zk frM_rf (by decide)
    have vg6 : g6 A 4 = r3 := by rw [hg6]; exact zu_at
    have vt6 : (g6 A 4).toInt = r3.toInt := by rw [vg6]
    have hk6 : ctKn (g6 (A + 1)) T := by rw [og6.2.1 1 (by decide) (by decide) (by decide)]; exact hk
    refine r_aloadR0 dX12_stands_9 ?_
    refine m_getV (x := (g6 A 4)) zf_RX12_77 rfl dX12_stands_10 (shM_k hs) (rfl) ?_
    refine t_ifle (t := 18) dX12_stands_13 (by decide) (fun h13 => False.elim (by omega)) (fun h13 => ?_)
    refine n_iconst dX12_stands_16 (by decide) (fun r16 e16_z => ?_)
    refine m_zret dX12_stands_17 rfl (by omega) (Nat.le_of_ble_eq_true rfl) (Nat.le_of_ble_eq_true rfl) ?_
    exact hT3 q1_z s l q2_z q4_z _ g6 j (qM_q (show frM A [6, 7, 8, 9, 13, 16, 17] [4, 33, 34] f _ from (frM_su og6 (by decide) (by decide)))) (by omega)
