/-! the reference: trays, images, the tape, what is counted -/
theorem bm_sh {t : Nat} : (((t : Int) * 2 ^ 56).bmod (2 ^ 64)) / 2 ^ 56 = Int.bmod (t : Int) 256 ∧ (((t : Int) * 2 ^ 48).bmod (2 ^ 64)) / 2 ^ 48 = Int.bmod (t : Int) 65536 ∧ (((t : Int) * 2 ^ 32).bmod (2 ^ 64)) / 2 ^ 32 = Int.bmod (t : Int) 4294967296 ∧ (((t : Int) * 2 ^ 0).bmod (2 ^ 64)) / 2 ^ 0 = Int.bmod (t : Int) 18446744073709551616 := by
  unfold Int.bmod
  refine ⟨?_, ?_, ?_, ?_⟩ <;> simp only [] <;> split <;> split <;> omega
theorem lsh_at {v s : Int64} {n : Nat} (e : (s.toBitVec.smod 64) = BitVec.ofNat 64 n) (hn : n < 64) : ((v <<< s) >>> s).toInt = (((v.toBitVec.toNat : Int) * 2 ^ n).bmod (2 ^ 64)) / 2 ^ n := by
  show (((v <<< s) >>> s).toBitVec).toInt = _
  rw [Int64.toBitVec_shiftRight, Int64.toBitVec_shiftLeft]
  have e2_z : s.toBitVec.smod (OfNat.ofNat 64) = BitVec.ofNat 64 n := e
  rw [e2_z, BitVec.toInt_sshiftRight', BitVec.shiftLeft_eq', BitVec.toNat_ofNat, Nat.mod_eq_of_lt (by omega), BitVec.toInt_shiftLeft, Int.shiftRight_eq_div_pow]
  simp only [Nat.shiftLeft_eq, Int.natCast_mul, Int.natCast_pow]
  first | done | rfl
theorem tv_bm {v : Int64} {m : Nat} (hm_z : m ∣ 2 ^ 64) : Int.bmod (v.toBitVec.toNat : Int) m = Int.bmod v.toInt m := by
  have h1 : v.toInt = Int.bmod (v.toBitVec.toNat : Int) (2 ^ 64) := by
    show v.toBitVec.toInt = _
    rw [BitVec.toInt_eq_toNat_bmod]
  rw [h1, Int.bmod_bmod_of_dvd hm_z]
theorem cut_sh {v s : Int64} {k : Nat} (hk : k ≤ 3) (e : s = (if k = 0 then 56 else if k = 1 then 48 else if k = 2 then 32 else 0 : Int64)) : ((v <<< s) >>> s).toInt = cutI k v.toInt := by
  have h9 := bm_sh (t := v.toBitVec.toNat)
  rcases (show k = 0 ∨ k = 1 ∨ k = 2 ∨ k = 3 by omega) with rfl | rfl | rfl | rfl
  · have e2_z : s = 56 := e
    subst e2_z
    rw [lsh_at (n := 56) (by decide) (by decide), h9.1, tv_bm (by decide)]; rfl
  · have e2_z : s = 48 := e
    subst e2_z
    rw [lsh_at (n := 48) (by decide) (by decide), h9.2.1, tv_bm (by decide)]; rfl
  · have e2_z : s = 32 := e
    subst e2_z
    rw [lsh_at (n := 32) (by decide) (by decide), h9.2.2.1, tv_bm (by decide)]; rfl
  · have e2_z : s = 0 := e
    subst e2_z
    rw [lsh_at (n := 0) (by decide) (by decide), h9.2.2.2, tv_bm (by decide)]
    show _ = v.toInt
    have h1 : v.toInt = Int.bmod (v.toBitVec.toNat : Int) (2 ^ 64) := by
      show v.toBitVec.toInt = _
      rw [BitVec.toInt_eq_toNat_bmod]
    rw [h1]
    exact Int.bmod_bmod_of_dvd (Nat.dvd_refl _)
theorem lessV : ∀ k, k ≤ 3 → ∀ r : Int32, r = 64 - (8 : Int32) <<< (nI k &&& 31) → (r.toInt64 &&& 63) = (if k = 0 then 56 else if k = 1 then 48 else if k = 2 then 32 else 0 : Int64) := by
  intro k hk r hr
  subst hr
  rcases (show k = 0 ∨ k = 1 ∨ k = 2 ∨ k = 3 by omega) with rfl | rfl | rfl | rfl <;> decide
set_option maxHeartbeats 4000000 in
set_option maxRecDepth 100000 in
theorem s_X12_cut {g : zGT} {w : zW} {f : Nat → Nat → Int32} {j : Nat → Nat → Int64} {A t s k : Nat} {x y : Int32} {v : Int64} {l : List Int} {Q : Option Value → zW → Prop} {QX : String → zW → Prop} (G : zGok g) (hs : shM w A) (hx : x.toInt = (t : Nat)) (ht : t < 4) (hy : y.toInt = (k : Nat)) (hk : k < l.length) (hct : ctTm f j A t (some (s, l))) (hQ : ∀ (r : Int64) j2, r.toInt = cutI s v.toInt → (∀ q, q ≠ A + 20 → j2 q = j q) → ctTm f j2 A t (some (s, l.set k (cutI s v.toInt))) → (∀ t2 ty2, t2 < 4 → t2 ≠ t → ctTm f j A t2 ty2 → ctTm f j2 A t2 ty2) → Q (some (.long r)) (zM w f j2)) : zC g 2 yX12_cut cX12_cut 6 (some .long) [.ref A, .int x, .int y, .long v] (zM w f j) (0, 0) Q QX := by
  refine zC_of G (by decide +kernel) (Nat.le_of_ble_eq_true rfl) ?_
  have hct9 := hct
  obtain ⟨t1, t2, t3, t4, t5⟩ := hct9
  refine n_bipush dX12_cut_0 (by decide) (fun r0 e0_z => ?_)
  refine n_bipush dX12_cut_2 (by decide) (fun r2 e2_z => ?_)
  refine r_aloadR0 dX12_cut_4 ?_
  refine m_getR (q := (A + 18)) zf_RX12_68 rfl dX12_cut_5 (shM_k hs) (shM_p18 hs) ?_
  refine r_iload1 dX12_cut_8 ?_
  refine m_iald (k := t) (x := (f (A + 18) t)) dX12_cut_9 (shM_k18 hs) (shM_n18 hs) (by omega) (by omega) (rfl) ?_
  refine r_ishl dX12_cut_10 ?_
  refine n_name (fun r10 e10_z => ?_)
  refine r_isub dX12_cut_11 ?_
  refine n_name (fun r11 e11_z => ?_)
  have h11 : r11 = 64 - (8 : Int32) <<< (nI s &&& 31) := by
    rw [e11_z, e10_z, show r0 = 64 from zi_eq.mpr (e0_z.trans (by decide)), show r2 = 8 from zi_eq.mpr (e2_z.trans (by decide)), show f (A + 18) t = nI s from zi_eq.mpr (t1.trans (zi_n (by omega)).symm)]
  have hls := lessV s t2 r11 h11
  refine r_istore5 dX12_cut_12 rfl ?_
  refine r_aloadR0 dX12_cut_14 ?_
  refine m_getR (q := (A + 20)) zf_RX12_74 rfl dX12_cut_15 (shM_k hs) (shM_p20 hs) ?_
  refine n_bipush dX12_cut_18 (by decide) (fun r18 e18_z => ?_)
  refine r_iload1 dX12_cut_20 ?_
  refine n_imulc dX12_cut_21 e18_z (by omega) (fun r21 e21_z => ?_)
  refine r_iload2 dX12_cut_22 ?_
  refine n_iadd dX12_cut_23 (by omega) (fun r23 e23_z => ?_)
  refine r_lload3 dX12_cut_24 ?_
  refine r_iload5 dX12_cut_25 ?_
  refine r_lshl dX12_cut_27 ?_
  refine n_nameJ (fun r27 e27_z => ?_)
  refine r_iload5 dX12_cut_28 ?_
  refine r_lshr dX12_cut_30 ?_
  refine n_nameJ (fun r30 e30 => ?_)
  refine m_last (k := (30 * t + k)) dX12_cut_31 (shM_k20 hs) (shM_n20 hs) (by omega) (by omega) ?_
  have hcv : r30.toInt = cutI s v.toInt := by
    rw [e30, e27_z]
    exact cut_sh t2 hls
  refine r_aloadR0 dX12_cut_32 ?_
  refine m_getR (q := (A + 20)) zf_RX12_74 rfl dX12_cut_33 (shM_k hs) (shM_p20 hs) ?_
  refine n_bipush dX12_cut_36 (by decide) (fun r36 e36 => ?_)
  refine r_iload1 dX12_cut_38 ?_
  refine n_imulc dX12_cut_39 e36 (by omega) (fun r39 e39 => ?_)
  refine r_iload2 dX12_cut_40 ?_
  refine n_iadd dX12_cut_41 (by omega) (fun r41 e41_z => ?_)
  refine m_lald (k := (30 * t + k)) (x := r30) dX12_cut_42 (shM_k20 hs) (shM_n20 hs) (by omega) (by omega) (zu_at) ?_
  refine r_lret dX12_cut_43 rfl (Nat.le_of_ble_eq_true rfl) (Nat.le_of_ble_eq_true rfl) ?_
  refine hQ _ _ hcv (fun q hq => zu_ne hq) ⟨t1, t2, by rw [List.length_set]; exact t3, by rw [List.length_set]; exact t4, fun i u hi_z => ?_⟩ (fun t2_ ty2 h2 h3 h4 => ctTm_of h4 rfl rfl (fun i hi_z => zu_nn (Or.inr (by omega))))
  rw [List.getElem?_set] at hi_z
  split at hi_z
  · rename_i h9
    rw [← h9, zu_at, ← Option.some.inj hi_z]; exact hcv
  · rename_i h9
    rw [zu_nn (Or.inr (by omega))]
    exact t5 i u hi_z
set_option maxHeartbeats 4000000 in
set_option maxRecDepth 100000 in
theorem s_X12_tray {g : zGT} {w : zW} {f : Nat → Nat → Int32} {j : Nat → Nat → Int64} {A : Nat} {x y z : Int32} {Q : Option Value → zW → Prop} {QX : String → zW → Prop} (G : zGok g) (hs : shM w A) (hT1 : ¬ (0 ≤ x.toInt ∧ x.toInt < 4) → ∀ f2_z, frM A [] [4] f f2_z → (f2_z A 4).toInt = 1 → Q none (zM w f2_z j)) (hT2 : (0 ≤ x.toInt ∧ x.toInt < 4) → ¬ ((0 ≤ y.toInt ∧ y.toInt ≤ 3) ∧ 0 ≤ z.toInt ∧ z.toInt ≤ 30) → ∀ f2_z, frM A [] [4] f f2_z → (f2_z A 4).toInt = 2 → Q none (zM w f2_z j)) (hQ : (0 ≤ x.toInt ∧ x.toInt < 4) → ((0 ≤ y.toInt ∧ y.toInt ≤ 3) ∧ 0 ≤ z.toInt ∧ z.toInt ≤ 30) → ∀ f2_z j2, frM A [18, 19] [4] f f2_z → (f2_z A 4).toInt = 0 → (∀ q, q ≠ A + 20 → j2 q = j q) → ctTm f2_z j2 A x.toInt.toNat (some (y.toInt.toNat, List.replicate z.toInt.toNat 0)) → (∀ t2 ty2, t2 < 4 → t2 ≠ x.toInt.toNat → ctTm f j A t2 ty2 → ctTm f2_z j2 A t2 ty2) → Q none (zM w f2_z j2)) : zC g 3 yX12_tray cX12_tray 5 none [.ref A, .int x, .int y, .int z] (zM w f j) (0, 0) Q QX := by
  refine zC_of G (by decide +kernel) (Nat.le_of_ble_eq_true rfl) ?_
  rcases Classical.em (0 ≤ x.toInt ∧ x.toInt < 4) with hok | hok
  · rcases Classical.em ((0 ≤ y.toInt ∧ y.toInt ≤ 3) ∧ 0 ≤ z.toInt ∧ z.toInt ≤ 30) with hsc | hsc
    · refine r_aloadR0 dX12_tray_0 ?_
      refine r_iload1 dX12_tray_1 ?_
      refine q_callS1 zm_RX12_372 dX12_tray_2 (Nat.le_of_ble_eq_true rfl) (Nat.le_of_ble_eq_true rfl) (Nat.le_of_ble_eq_true rfl) (Nat.le_of_ble_eq_true rfl) (Nat.le_of_ble_eq_true rfl) (s_X12_isTray G (fun r2 e2_z => ?_))
      refine t_ifne (t := 12) dX12_tray_5 (by decide) (fun h5 => ?_) (fun h5 => False.elim (by omega))
      refine r_iload2 dX12_tray_12 ?_
      refine n_i2l dX12_tray_13 (fun r13 e13_z => ?_)
      refine n_lconst (q := 0) dX12_tray_14 rfl (by decide) (fun r14 e14_z => ?_)
      refine n_ldc2 (n := 3) zk_RX12_259 dX12_tray_15 (by decide) (fun r15 e15_z => ?_)
      refine q_callS3 zm_RX12_138 dX12_tray_18 (Nat.le_of_ble_eq_true rfl) (Nat.le_of_ble_eq_true rfl) (Nat.le_of_ble_eq_true rfl) (Nat.le_of_ble_eq_true rfl) (Nat.le_of_ble_eq_true rfl) (s_X12_within G  (fun r18 e18_z => ?_))
      refine t_ifeq (t := 36) dX12_tray_21 (by decide) (fun h21 => False.elim (by omega)) (fun h21 => ?_)
      refine r_iload3 dX12_tray_24 ?_
      refine n_i2l dX12_tray_25 (fun r25 e25_z => ?_)
      refine n_lconst (q := 0) dX12_tray_26 rfl (by decide) (fun r26 e26_z => ?_)
      refine n_ldc2 (n := 30) zk_RX12_408 dX12_tray_27 (by decide) (fun r27 e27_z => ?_)
      refine q_callS3 zm_RX12_138 dX12_tray_30 (Nat.le_of_ble_eq_true rfl) (Nat.le_of_ble_eq_true rfl) (Nat.le_of_ble_eq_true rfl) (Nat.le_of_ble_eq_true rfl) (Nat.le_of_ble_eq_true rfl) (s_X12_within G  (fun r30 e30 => ?_))
      refine t_ifne (t := 40) dX12_tray_33 (by decide) (fun h33 => ?_) (fun h33 => False.elim (by omega))
      refine n_iconst dX12_tray_40 (by decide) (fun r40 e40 => ?_)
      refine m_putI zf_RX12_77 (by intro C T N h_z; cases h_z; rfl) rfl dX12_tray_41 (shM_k hs) ?_
      obtain ⟨g41, hg41⟩ : ∃ g9, g9 = zu f A 4 r40 := ⟨_, rfl⟩
      rw [← hg41]
      have og41 : frM A [] [4] f g41 := by rw [hg41]; exact frM_zk frM_rf (by decide)
      have vg41 : g41 A 4 = r40 := by rw [hg41]; exact zu_at
      have vt41 : (g41 A 4).toInt = r40.toInt := by rw [vg41]
      refine r_aloadR0 dX12_tray_44 ?_
      refine m_getV (x := (g41 A 4)) zf_RX12_77 rfl dX12_tray_45 (shM_k hs) (rfl) ?_
      refine t_ifle (t := 52) dX12_tray_48 (by decide) (fun h48 => ?_) (fun h48 => False.elim (by omega))
      refine r_aloadR0 dX12_tray_52 ?_
      refine m_getR (q := (A + 18)) zf_RX12_68 rfl dX12_tray_53 (shM_k hs) (shM_p18 hs) ?_
      refine r_iload1 dX12_tray_56 ?_
      refine r_iload2 dX12_tray_57 ?_
      refine m_iast (k := x.toInt.toNat) dX12_tray_58 (shM_k18 hs) (shM_n18 hs) (by omega) (by omega) ?_
      refine r_aloadR0 dX12_tray_59 ?_
      refine m_getR (q := (A + 19)) zf_RX12_71 rfl dX12_tray_60 (shM_k hs) (shM_p19 hs) ?_
      refine r_iload1 dX12_tray_63 ?_
      refine r_iload3 dX12_tray_64 ?_
      refine m_iast (k := x.toInt.toNat) dX12_tray_65 (shM_k19 hs) (shM_n19 hs) (by omega) (by omega) ?_
      obtain ⟨g65, hg65⟩ : ∃ g9, g9 = zu (zu g41 (A + 18) x.toInt.toNat y) (A + 19) x.toInt.toNat z := ⟨_, rfl⟩
      rw [← hg65]
      have o65 : frM A [18, 19] [] g41 g65 := by rw [hg65]; exact frM_zr (r := 19) (frM_zr (r := 18) frM_rf (by decide) (by decide) (by decide)) (by decide) (by decide) (by decide)
      have a18 : ∀ i, g65 (A + 18) i = if i = x.toInt.toNat then y else g41 (A + 18) i := fun i => by rw [hg65, zu_ne (by omega), zu_s2]
      have a19 : ∀ i, g65 (A + 19) i = if i = x.toInt.toNat then z else g41 (A + 19) i := fun i => by rw [hg65, zu_s2, zu_ne (by omega)]
      have lp : ∀ (mz : Nat) (c : Int32) (k : Nat) (j2 : Nat → Nat → Int64), c.toInt = (k : Nat) → k ≤ 30 → (∀ q, q ≠ A + 20 → j2 q = j q) → (∀ i, i < k → (j2 (A + 20) (30 * x.toInt.toNat + i)).toInt = 0) → (∀ i, (i < 30 * x.toInt.toNat ∨ 30 * x.toInt.toNat + k ≤ i) → j2 (A + 20) i = j (A + 20) i) → 30 - k < mz → zR (zV g 3 yX12_tray 5 none (0, 0) Q QX) cX12_tray yX12_tray.cls 69 [some (.ref A), some (.int x), some (.int y), some (.int z), some (.int c)] [] (zM w g65 j2) (0, 0) := by
        intro mz
        induction mz with
        | zero =>
          intro c k j2 hck hk30 ho hd_z hr hmz
          exact absurd hmz (Nat.not_lt_zero _)
        | succ mz ih =>
          intro c k j2 hck hk30 ho hd_z hr hmz
          rcases Nat.lt_or_ge k 30 with hkl | hkl
          · refine r_iload4 dX12_tray_69 ?_
            refine n_bipush dX12_tray_71 (by decide) (fun r71 e71_z => ?_)
            refine t_icge (t := 95) dX12_tray_73 (by decide) (fun h73 => False.elim (by omega)) (fun h73 => ?_)
            refine r_aloadR0 dX12_tray_76 ?_
            refine m_getR (q := (A + 20)) zf_RX12_74 rfl dX12_tray_77 (shM_k hs) (shM_p20 hs) ?_
            refine n_bipush dX12_tray_80 (by decide) (fun r80 e80 => ?_)
            refine r_iload1 dX12_tray_82 ?_
            refine n_imulc dX12_tray_83 e80 (by omega) (fun r83 e83 => ?_)
            refine r_iload4 dX12_tray_84 ?_
            refine n_iadd dX12_tray_86 (by omega) (fun r86 e86 => ?_)
            refine n_lconst (q := 0) dX12_tray_87 rfl (by decide) (fun r87 e87 => ?_)
            refine m_last (k := (30 * x.toInt.toNat + k)) dX12_tray_88 (shM_k20 hs) (shM_n20 hs) (by omega) (by omega) ?_
            refine n_iinc4 dX12_tray_89 (by decide) rfl (by omega) (fun r89 e89 => ?_)
            refine r_goto (t := 69) dX12_tray_92 (by decide) ?_
            refine ih _ (k + 1) _ (by omega) (by omega) (fun q hq => (zu_ne hq).trans (ho q hq)) (fun i hi_z => ?_) (fun i hi_z => ?_) (by omega)
            · rcases Nat.lt_or_ge i k with h9 | h9
              · rw [zu_nn (Or.inr (by omega))]
                exact hd_z i h9
              · rw [show i = k by omega, zu_at]
                exact e87
            · rw [zu_nn (Or.inr (by omega))]
              exact hr i (by omega)
          · refine r_iload4 dX12_tray_69 ?_
            refine n_bipush dX12_tray_71 (by decide) (fun r71 e71_z => ?_)
            refine t_icge (t := 95) dX12_tray_73 (by decide) (fun h73 => ?_) (fun h73 => False.elim (by omega))
            refine r_vret dX12_tray_95 rfl (Nat.le_of_ble_eq_true rfl) (Nat.le_of_ble_eq_true rfl) ?_
            refine hQ hok hsc g65 j2 (frM_tr (frM_su og41 (by decide) (by decide)) (frM_su o65 (by decide) (by decide))) (by rw [o65.2.2 4 (by decide)]; omega) ho ⟨by rw [a18, if_pos rfl]; omega, by omega, by rw [a19, if_pos rfl, List.length_replicate]; omega, by rw [List.length_replicate]; omega, fun i v hi_z => ?_⟩ (fun t2 ty2 h2 h3 h4 => ctTm_of h4 (by rw [a18, if_neg h3, og41.2.1 18 (by decide) (by decide) (by decide)]) (by rw [a19, if_neg h3, og41.2.1 19 (by decide) (by decide) (by decide)]) (fun i hi_z => hr _ (by omega)))
            rw [List.getElem?_replicate] at hi_z
            split at hi_z
            · rw [hd_z i (by omega)]; exact Option.some.inj hi_z
            · exact absurd hi_z (by simp)
      refine n_iconst dX12_tray_66 (by decide) (fun r66 e66 => ?_)
      refine r_istore4 dX12_tray_67 rfl ?_
      exact lp 31 _ 0 j (by omega) (by omega) (fun q hq => rfl) (fun i hi_z => absurd hi_z (by omega)) (fun i hi_z => rfl) (by omega)
    · refine r_aloadR0 dX12_tray_0 ?_
      refine r_iload1 dX12_tray_1 ?_
      refine q_callS1 zm_RX12_372 dX12_tray_2 (Nat.le_of_ble_eq_true rfl) (Nat.le_of_ble_eq_true rfl) (Nat.le_of_ble_eq_true rfl) (Nat.le_of_ble_eq_true rfl) (Nat.le_of_ble_eq_true rfl) (s_X12_isTray G (fun r2 e2_z => ?_))
      refine t_ifne (t := 12) dX12_tray_5 (by decide) (fun h5 => ?_) (fun h5 => False.elim (by omega))
      refine r_iload2 dX12_tray_12 ?_
      refine n_i2l dX12_tray_13 (fun r13 e13_z => ?_)
      refine n_lconst (q := 0) dX12_tray_14 rfl (by decide) (fun r14 e14_z => ?_)
      refine n_ldc2 (n := 3) zk_RX12_259 dX12_tray_15 (by decide) (fun r15 e15_z => ?_)
      refine q_callS3 zm_RX12_138 dX12_tray_18 (Nat.le_of_ble_eq_true rfl) (Nat.le_of_ble_eq_true rfl) (Nat.le_of_ble_eq_true rfl) (Nat.le_of_ble_eq_true rfl) (Nat.le_of_ble_eq_true rfl) (s_X12_within G  (fun r18 e18_z => ?_))
      refine t_ifeq (t := 36) dX12_tray_21 (by decide) (fun h21 => ?_) (fun h21 => ?_)
      · first
        | (exfalso; omega)
        | (refine n_iconst dX12_tray_36 (by decide) (fun r36 e36 => ?_)
           refine r_goto (t := 41) dX12_tray_37 (by decide) ?_
           refine m_putI zf_RX12_77 (by intro C T N h_z; cases h_z; rfl) rfl dX12_tray_41 (shM_k hs) ?_
           obtain ⟨g41, hg41⟩ : ∃ g9, g9 = zu f A 4 r36 := ⟨_, rfl⟩
           rw [← hg41]
           have og41 : frM A [] [4] f g41 := by rw [hg41]; exact frM_zk frM_rf (by decide)
           have vg41 : g41 A 4 = r36 := by rw [hg41]; exact zu_at
           have vt41 : (g41 A 4).toInt = r36.toInt := by rw [vg41]
           refine r_aloadR0 dX12_tray_44 ?_
           refine m_getV (x := (g41 A 4)) zf_RX12_77 rfl dX12_tray_45 (shM_k hs) (rfl) ?_
           refine t_ifle (t := 52) dX12_tray_48 (by decide) (fun h48 => False.elim (by omega)) (fun h48 => ?_)
           refine r_vret dX12_tray_51 rfl (Nat.le_of_ble_eq_true rfl) (Nat.le_of_ble_eq_true rfl) ?_
           exact hT2 hok hsc g41 og41 (by omega))
      · first
        | (exfalso; omega)
        | (refine r_iload3 dX12_tray_24 ?_
           refine n_i2l dX12_tray_25 (fun r25 e25_z => ?_)
           refine n_lconst (q := 0) dX12_tray_26 rfl (by decide) (fun r26 e26_z => ?_)
           refine n_ldc2 (n := 30) zk_RX12_408 dX12_tray_27 (by decide) (fun r27 e27_z => ?_)
           refine q_callS3 zm_RX12_138 dX12_tray_30 (Nat.le_of_ble_eq_true rfl) (Nat.le_of_ble_eq_true rfl) (Nat.le_of_ble_eq_true rfl) (Nat.le_of_ble_eq_true rfl) (Nat.le_of_ble_eq_true rfl) (s_X12_within G  (fun r30 e30 => ?_))
           refine t_ifne (t := 40) dX12_tray_33 (by decide) (fun h33 => ?_) (fun h33 => ?_)
           · first
             | (exfalso; omega)
             | (refine n_iconst dX12_tray_40 (by decide) (fun r40 e40 => ?_)
                refine m_putI zf_RX12_77 (by intro C T N h_z; cases h_z; rfl) rfl dX12_tray_41 (shM_k hs) ?_
                obtain ⟨g41, hg41⟩ : ∃ g9, g9 = zu f A 4 r40 := ⟨_, rfl⟩
                rw [← hg41]
                have og41 : frM A [] [4] f g41 := by rw [hg41]; exact frM_zk frM_rf (by decide)
                have vg41 : g41 A 4 = r40 := by rw [hg41]; exact zu_at
                have vt41 : (g41 A 4).toInt = r40.toInt := by rw [vg41]
                refine r_aloadR0 dX12_tray_44 ?_
                refine m_getV (x := (g41 A 4)) zf_RX12_77 rfl dX12_tray_45 (shM_k hs) (rfl) ?_
                refine t_ifle (t := 52) dX12_tray_48 (by decide) (fun h48 => False.elim (by omega)) (fun h48 => ?_)
                refine r_vret dX12_tray_51 rfl (Nat.le_of_ble_eq_true rfl) (Nat.le_of_ble_eq_true rfl) ?_
                exact hT2 hok hsc g41 og41 (by omega))
           · first
             | (exfalso; omega)
             | (refine n_iconst dX12_tray_36 (by decide) (fun r36 e36 => ?_)
                refine r_goto (t := 41) dX12_tray_37 (by decide) ?_
                refine m_putI zf_RX12_77 (by intro C T N h_z; cases h_z; rfl) rfl dX12_tray_41 (shM_k hs) ?_
                obtain ⟨g41, hg41⟩ : ∃ g9, g9 = zu f A 4 r36 := ⟨_, rfl⟩
                rw [← hg41]
                have og41 : frM A [] [4] f g41 := by rw [hg41]; exact frM_zk frM_rf (by decide)
                have vg41 : g41 A 4 = r36 := by rw [hg41]; exact zu_at
                have vt41 : (g41 A 4).toInt = r36.toInt := by rw [vg41]
                refine r_aloadR0 dX12_tray_44 ?_
                refine m_getV (x := (g41 A 4)) zf_RX12_77 rfl dX12_tray_45 (shM_k hs) (rfl) ?_
                refine t_ifle (t := 52) dX12_tray_48 (by decide) (fun h48 => False.elim (by omega)) (fun h48 => ?_)
                refine r_vret dX12_tray_51 rfl (Nat.le_of_ble_eq_true rfl) (Nat.le_of_ble_eq_true rfl) ?_
                exact hT2 hok hsc g41 og41 (by omega)))
  · refine r_aloadR0 dX12_tray_0 ?_
    refine r_iload1 dX12_tray_1 ?_
    refine q_callS1 zm_RX12_372 dX12_tray_2 (Nat.le_of_ble_eq_true rfl) (Nat.le_of_ble_eq_true rfl) (Nat.le_of_ble_eq_true rfl) (Nat.le_of_ble_eq_true rfl) (Nat.le_of_ble_eq_true rfl) (s_X12_isTray G (fun r2 e2_z => ?_))
    refine t_ifne (t := 12) dX12_tray_5 (by decide) (fun h5 => False.elim (by omega)) (fun h5 => ?_)
    refine n_iconst dX12_tray_8 (by decide) (fun r8 e8 => ?_)
    refine r_goto (t := 41) dX12_tray_9 (by decide) ?_
    refine m_putI zf_RX12_77 (by intro C T N h_z; cases h_z; rfl) rfl dX12_tray_41 (shM_k hs) ?_
    obtain ⟨g41, hg41⟩ : ∃ g9, g9 = zu f A 4 r8 := ⟨_, rfl⟩
    rw [← hg41]
    have og41 : frM A [] [4] f g41 := by rw [hg41]; exact frM_zk frM_rf (by decide)
    have vg41 : g41 A 4 = r8 := by rw [hg41]; exact zu_at
    have vt41 : (g41 A 4).toInt = r8.toInt := by rw [vg41]
    refine r_aloadR0 dX12_tray_44 ?_
    refine m_getV (x := (g41 A 4)) zf_RX12_77 rfl dX12_tray_45 (shM_k hs) (rfl) ?_
    refine t_ifle (t := 52) dX12_tray_48 (by decide) (fun h48 => False.elim (by omega)) (fun h48 => ?_)
    refine r_vret dX12_tray_51 rfl (Nat.le_of_ble_eq_true rfl) (Nat.le_of_ble_eq_true rfl) ?_
    exact hT1 hok g41 og41 (by omega)
