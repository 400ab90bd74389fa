/-! the reference: looks met by their numbers (a table of 65536) -/
theorem ush_nn (x : UInt64) : 0 ≤ ((x >>> (16 : UInt64)).toInt64).toInt := by
  have h1 : (x >>> (16 : UInt64)).toNat = x.toNat / 2 ^ 16 := by
    rw [UInt64.toNat_shiftRight]
    show x.toNat >>> (16 % 64) = _
    rw [Nat.shiftRight_eq_div_pow]
  have h2 : x.toNat < 2 ^ 64 := UInt64.toNat_lt _
  have h4 : ((x >>> (16 : UInt64)).toInt64).toInt = ((x >>> (16 : UInt64)).toNat : Int) := by
    show (x >>> (16 : UInt64)).toBitVec.toInt = _
    rw [BitVec.toInt_eq_toNat_of_lt]
    · rfl
    · show 2 * (x >>> (16 : UInt64)).toNat < 2 ^ 64
      omega
  rw [h4]
  omega
def hsL (v : Int64) : Int64 := ((v * 2654435761).toUInt64 >>> ((16 : Int32).toInt64.toUInt64 &&& Int64.toUInt64 63)).toInt64
theorem hsL_nn (v : Int64) : 0 ≤ (hsL v).toInt := ush_nn _
def hsN (c : Nat) : Nat := ((hsL (Int64.ofInt c)).toInt % 65536).toNat
theorem hsN_v {v : Int64} {c : Nat} (h_z : v.toInt = (c : Nat)) : (hsL v).toInt % 65536 = (hsN c : Nat) ∧ hsN c < 65536 := by
  have e : v = Int64.ofInt (c : Nat) := by rw [← h_z, Int64.ofInt_toInt]
  have h9 := hsL_nn v
  unfold hsN
  rw [← e]
  omega
def htb (f : Nat → Nat → Int32) (j : Nat → Nat → Int64) (A : Nat) (tn : Int) (S : List Nat) : Prop :=
  (∀ i, i < 65536 → (f (A + 15) i).toInt = tn → ∃ c ∈ S, (j (A + 14) i).toInt = ((c : Nat) : Int)) ∧
  (∀ i k, i < 65536 → k < 65536 → (f (A + 15) i).toInt = tn → (f (A + 15) k).toInt = tn → (j (A + 14) i).toInt = (j (A + 14) k).toInt → i = k) ∧
  ∀ c ∈ S, ∃ e, (∀ e2_z, e2_z ≤ e → (f (A + 15) ((hsN c + e2_z) % 65536)).toInt = tn) ∧ (j (A + 14) ((hsN c + e) % 65536)).toInt = ((c : Nat) : Int)
def prbW (f : Nat → Nat → Int32) (j : Nat → Nat → Int64) (A : Nat) (tn : Int) (c d : Nat) : Prop := ∀ e, e < d → (f (A + 15) ((hsN c + e) % 65536)).toInt = tn ∧ (j (A + 14) ((hsN c + e) % 65536)).toInt ≠ ((c : Nat) : Int)
theorem htb_0 {f : Nat → Nat → Int32} {j : Nat → Nat → Int64} {A : Nat} {tn : Int} (h_z : ∀ i, i < 65536 → (f (A + 15) i).toInt ≠ tn) : htb f j A tn [] := ⟨fun i hi_z e => absurd e (h_z i hi_z), fun i k hi_z hk e => absurd e (h_z i hi_z), fun c hc_z => absurd hc_z List.not_mem_nil⟩
theorem htb_cap {f : Nat → Nat → Int32} {j : Nat → Nat → Int64} {A : Nat} {tn : Int} {S : List Nat} {c d : Nat} (h_z : htb f j A tn S) (hd_z : prbW f j A tn c d) (h6 : d ≤ 65536) : d ≤ S.length := by
  have h1 := inj_len ((List.range d).map (fun e => (j (A + 14) ((hsN c + e) % 65536)).toInt)) (S.map (fun c => ((c : Nat) : Int))) (fun i k u v hki hu hv e => ?_) (fun v hv => ?_)
  · rw [List.length_map, List.length_range, List.length_map] at h1
    exact h1
  · have hi_z := (List.getElem?_eq_some_iff.mp hu).1
    have hk := (List.getElem?_eq_some_iff.mp hv).1
    rw [List.length_map, List.length_range] at hi_z hk
    rw [List.getElem?_map, List.getElem?_range hi_z] at hu
    rw [List.getElem?_map, List.getElem?_range hk] at hv
    have hu2 := Option.some.inj hu
    have hv2 := Option.some.inj hv
    have h9 := h_z.2.1 ((hsN c + i) % 65536) ((hsN c + k) % 65536) (by omega) (by omega) (hd_z i hi_z).1 (hd_z k hk).1 (by rw [← e] at hv2; exact hu2.trans hv2.symm)
    omega
  · obtain ⟨e, he, rfl⟩ := List.mem_map.mp hv
    obtain ⟨c2_z, h2, h3⟩ := h_z.1 ((hsN c + e) % 65536) (by omega) (hd_z e (List.mem_range.mp he)).1
    exact List.mem_map.mpr ⟨c2_z, h2, h3.symm⟩
theorem htb_no {f : Nat → Nat → Int32} {j : Nat → Nat → Int64} {A : Nat} {tn : Int} {S : List Nat} {c d : Nat} (h_z : htb f j A tn S) (hd_z : prbW f j A tn c d) (hn : (f (A + 15) ((hsN c + d) % 65536)).toInt ≠ tn) : c ∉ S := by
  intro hc_z
  obtain ⟨e, h1, h2⟩ := h_z.2.2 c hc_z
  rcases Nat.lt_or_ge e d with h9 | h9
  · exact (hd_z e h9).2 h2
  · exact hn (h1 d h9)
theorem htb_add {f f2_z : Nat → Nat → Int32} {j j2 : Nat → Nat → Int64} {A : Nat} {tn : Int} {S : List Nat} {c d p : Nat} (h_z : htb f j A tn S) (hd_z : prbW f j A tn c d) (hp : p = (hsN c + d) % 65536) (hn : (f (A + 15) p).toInt ≠ tn) (e1_z : ∀ i, i ≠ p → f2_z (A + 15) i = f (A + 15) i) (e2_z : (f2_z (A + 15) p).toInt = tn) (e3_z : ∀ i, i ≠ p → j2 (A + 14) i = j (A + 14) i) (e4_z : (j2 (A + 14) p).toInt = ((c : Nat) : Int)) : htb f2_z j2 A tn (S ++ [c]) := by
  have hc_z : c ∉ S := htb_no h_z hd_z (by rw [← hp]; exact hn)
  have fil : ∀ i, (f (A + 15) i).toInt = tn → i ≠ p := fun i hi_z e => hn (by rw [← e]; exact hi_z)
  refine ⟨fun i hi_z hf => ?_, fun i k hi_z hk hf hf2 hj => ?_, fun c2_z hc2 => ?_⟩
  · by_cases hip : i = p
    · exact ⟨c, List.mem_append.mpr (Or.inr List.mem_cons_self), by rw [hip]; exact e4_z⟩
    · rw [e1_z i hip] at hf
      obtain ⟨c2_z, h2, h3⟩ := h_z.1 i hi_z hf
      exact ⟨c2_z, List.mem_append.mpr (Or.inl h2), by rw [e3_z i hip]; exact h3⟩
  · by_cases hip : i = p
    · by_cases hkp : k = p
      · rw [hip, hkp]
      · rw [e1_z k hkp] at hf2
        obtain ⟨c2_z, h2, h3⟩ := h_z.1 k hk hf2
        rw [hip, e4_z, e3_z k hkp, h3] at hj
        have h8 : c = c2_z := Int.ofNat.inj hj
        exact absurd (h8 ▸ h2) hc_z
    · by_cases hkp : k = p
      · rw [e1_z i hip] at hf
        obtain ⟨c2_z, h2, h3⟩ := h_z.1 i hi_z hf
        rw [hkp, e4_z, e3_z i hip, h3] at hj
        have h8 : c2_z = c := Int.ofNat.inj hj
        exact absurd (h8 ▸ h2) hc_z
      · rw [e1_z i hip] at hf
        rw [e1_z k hkp] at hf2
        rw [e3_z i hip, e3_z k hkp] at hj
        exact h_z.2.1 i k hi_z hk hf hf2 hj
  · rcases List.mem_append.mp hc2 with h9 | h9
    · obtain ⟨e, h1, h2⟩ := h_z.2.2 c2_z h9
      refine ⟨e, fun e2_ he => ?_, ?_⟩
      · rw [e1_z _ (fil _ (h1 e2_ he))]; exact h1 e2_ he
      · rw [e3_z _ (fil _ (h1 e (Nat.le_refl _)))]; exact h2
    · rw [List.mem_singleton.mp h9]
      refine ⟨d, fun e he => ?_, by rw [← hp]; exact e4_z⟩
      rcases Nat.lt_or_ge e d with h8 | h8
      · rw [e1_z _ (fil _ (hd_z e h8).1)]; exact (hd_z e h8).1
      · rw [show e = d by omega, ← hp]; exact e2_z
set_option maxHeartbeats 4000000 in
set_option maxRecDepth 100000 in
theorem s_X12_isNew {g : zGT} {w : zW} {f : Nat → Nat → Int32} {j : Nat → Nat → Int64} {A c : Nat} {v : Int64} {tn : Int} {S : List Nat} {Q : Option Value → zW → Prop} {QX : String → zW → Prop} (G : zGok g) (hs : shM w A) (hv : v.toInt = (c : Nat)) (h37 : (f A 37).toInt = tn) (hS_z : S.length < 65536) (ht : htb f j A tn S) (hQ : ∀ (r : Int32) f2_z j2, (r.toInt = 1 ∧ c ∉ S ∧ htb f2_z j2 A tn (S ++ [c]) ∨ r.toInt = 0 ∧ c ∈ S ∧ htb f2_z j2 A tn S) → frM A [15] [] f f2_z → (∀ q, q ≠ A + 14 → j2 q = j q) → (∀ i, f2_z (A + 15) i = f (A + 15) i ∨ f2_z (A + 15) i = f A 37) → Q (some (.int r)) (zM w f2_z j2)) : zC g 1 yX12_isNew cX12_isNew 4 (some .boolean) [.ref A, .long v] (zM w f j) (0, 0) Q QX := by
  refine zC_of G (by decide +kernel) (Nat.le_of_ble_eq_true rfl) ?_
  have lp : ∀ (mz : Nat) (u : Int32) (d : Nat), u.toInt = (((((hsN c + d) % 65536)) : Nat) : Int) → d ≤ 65536 → prbW f j A tn c d → 65536 - d < mz → zR (zV g 1 yX12_isNew 4 (some .boolean) (0, 0) Q QX) cX12_isNew yX12_isNew.cls 14 [some (.ref A), some (.long v), none, some (.int u)] [] (zM w f j) (0, 0) := by
    intro mz
    induction mz with
    | zero =>
      intro u d hud hd6 hp hmz
      exact absurd hmz (Nat.not_lt_zero _)
    | succ mz ih =>
      intro u d hud hd6 hp hmz
      have hdS := htb_cap ht hp hd6
      have hpl : ((hsN c + d) % 65536) < 65536 := by omega
      rcases Classical.em ((f (A + 15) ((hsN c + d) % 65536)).toInt = tn) with hfl | hfl
      · rcases Classical.em ((j (A + 14) ((hsN c + d) % 65536)).toInt = ((c : Nat) : Int)) with hcd | hcd
        · refine r_aloadR0 dX12_isNew_14 ?_
          refine m_getR (q := (A + 15)) zf_RX12_59 rfl dX12_isNew_15 (shM_k hs) (shM_p15 hs) ?_
          refine r_iload3 dX12_isNew_18 ?_
          refine m_iald (k := ((hsN c + d) % 65536)) (x := (f (A + 15) (((hsN c + d) % 65536)))) dX12_isNew_19 (shM_k15 hs) (shM_n15 hs) (by omega) (by omega) (rfl) ?_
          refine r_aloadR0 dX12_isNew_20 ?_
          refine m_getV (x := (f A 37)) zf_RX12_436 rfl dX12_isNew_21 (shM_k hs) (rfl) ?_
          refine t_icne (t := 48) dX12_isNew_24 (by decide) (fun h24 => False.elim (by omega)) (fun h24 => ?_)
          refine r_aloadR0 dX12_isNew_27 ?_
          refine m_getR (q := (A + 14)) zf_RX12_55 rfl dX12_isNew_28 (shM_k hs) (shM_p14 hs) ?_
          refine r_iload3 dX12_isNew_31 ?_
          refine m_lald (k := ((hsN c + d) % 65536)) (x := (j (A + 14) (((hsN c + d) % 65536)))) dX12_isNew_32 (shM_k14 hs) (shM_n14 hs) (by omega) (by omega) (rfl) ?_
          refine r_lload1 dX12_isNew_33 ?_
          refine n_lcmp dX12_isNew_34 (fun r34 e34 => ?_)
          unfold zcmp at e34
          refine t_ifeq (t := 48) dX12_isNew_35 (by decide) (fun h35 => ?_) (fun h35 => False.elim (by omega))
          refine r_aloadR0 dX12_isNew_48 ?_
          refine m_getR (q := (A + 15)) zf_RX12_59 rfl dX12_isNew_49 (shM_k hs) (shM_p15 hs) ?_
          refine r_iload3 dX12_isNew_52 ?_
          refine m_iald (k := ((hsN c + d) % 65536)) (x := (f (A + 15) (((hsN c + d) % 65536)))) dX12_isNew_53 (shM_k15 hs) (shM_n15 hs) (by omega) (by omega) (rfl) ?_
          refine r_aloadR0 dX12_isNew_54 ?_
          refine m_getV (x := (f A 37)) zf_RX12_436 rfl dX12_isNew_55 (shM_k hs) (rfl) ?_
          refine t_icne (t := 63) dX12_isNew_58 (by decide) (fun h58 => False.elim (by omega)) (fun h58 => ?_)
          refine n_iconst dX12_isNew_61 (by decide) (fun r61 e61 => ?_)
          refine m_zret dX12_isNew_62 rfl (by omega) (Nat.le_of_ble_eq_true rfl) (Nat.le_of_ble_eq_true rfl) ?_
          obtain ⟨c2_z, h8, h9⟩ := ht.1 ((hsN c + d) % 65536) hpl hfl
          rw [hcd] at h9
          have h7 : c = c2_z := Int.ofNat.inj h9
          exact hQ _ f j (Or.inr ⟨by omega, h7 ▸ h8, ht⟩) frM_rf (fun _ _ => rfl) (fun _ => Or.inl rfl)
        · refine r_aloadR0 dX12_isNew_14 ?_
          refine m_getR (q := (A + 15)) zf_RX12_59 rfl dX12_isNew_15 (shM_k hs) (shM_p15 hs) ?_
          refine r_iload3 dX12_isNew_18 ?_
          refine m_iald (k := ((hsN c + d) % 65536)) (x := (f (A + 15) (((hsN c + d) % 65536)))) dX12_isNew_19 (shM_k15 hs) (shM_n15 hs) (by omega) (by omega) (rfl) ?_
          refine r_aloadR0 dX12_isNew_20 ?_
          refine m_getV (x := (f A 37)) zf_RX12_436 rfl dX12_isNew_21 (shM_k hs) (rfl) ?_
          refine t_icne (t := 48) dX12_isNew_24 (by decide) (fun h24 => False.elim (by omega)) (fun h24 => ?_)
          refine r_aloadR0 dX12_isNew_27 ?_
          refine m_getR (q := (A + 14)) zf_RX12_55 rfl dX12_isNew_28 (shM_k hs) (shM_p14 hs) ?_
          refine r_iload3 dX12_isNew_31 ?_
          refine m_lald (k := ((hsN c + d) % 65536)) (x := (j (A + 14) (((hsN c + d) % 65536)))) dX12_isNew_32 (shM_k14 hs) (shM_n14 hs) (by omega) (by omega) (rfl) ?_
          refine r_lload1 dX12_isNew_33 ?_
          refine n_lcmp dX12_isNew_34 (fun r34 e34 => ?_)
          unfold zcmp at e34
          refine t_ifeq (t := 48) dX12_isNew_35 (by decide) (fun h35 => False.elim (by omega)) (fun h35 => ?_)
          refine r_iload3 dX12_isNew_38 ?_
          refine n_iconst dX12_isNew_39 (by decide) (fun r39 e39 => ?_)
          refine n_iadd dX12_isNew_40 (by omega) (fun r40 e40 => ?_)
          refine n_ldc (n := 65536) zk_RX12_54 dX12_isNew_41 (by decide) (fun r41 e41_z => ?_)
          refine n_iremc (c := 65536) dX12_isNew_43 e41_z (by decide) (by omega) (fun r43 e43 => ?_)
          refine r_istore3 dX12_isNew_44 rfl ?_
          refine r_goto (t := 14) dX12_isNew_45 (by decide) ?_
          refine ih _ (d + 1) (by omega) (by omega) (fun e he => ?_) (by omega)
          rcases Nat.lt_or_ge e d with h8 | h8
          · exact hp e h8
          · rw [show e = d by omega]; exact ⟨hfl, hcd⟩
      · refine r_aloadR0 dX12_isNew_14 ?_
        refine m_getR (q := (A + 15)) zf_RX12_59 rfl dX12_isNew_15 (shM_k hs) (shM_p15 hs) ?_
        refine r_iload3 dX12_isNew_18 ?_
        refine m_iald (k := ((hsN c + d) % 65536)) (x := (f (A + 15) (((hsN c + d) % 65536)))) dX12_isNew_19 (shM_k15 hs) (shM_n15 hs) (by omega) (by omega) (rfl) ?_
        refine r_aloadR0 dX12_isNew_20 ?_
        refine m_getV (x := (f A 37)) zf_RX12_436 rfl dX12_isNew_21 (shM_k hs) (rfl) ?_
        refine t_icne (t := 48) dX12_isNew_24 (by decide) (fun h24 => ?_) (fun h24 => False.elim (by omega))
        refine r_aloadR0 dX12_isNew_48 ?_
        refine m_getR (q := (A + 15)) zf_RX12_59 rfl dX12_isNew_49 (shM_k hs) (shM_p15 hs) ?_
        refine r_iload3 dX12_isNew_52 ?_
        refine m_iald (k := ((hsN c + d) % 65536)) (x := (f (A + 15) (((hsN c + d) % 65536)))) dX12_isNew_53 (shM_k15 hs) (shM_n15 hs) (by omega) (by omega) (rfl) ?_
        refine r_aloadR0 dX12_isNew_54 ?_
        refine m_getV (x := (f A 37)) zf_RX12_436 rfl dX12_isNew_55 (shM_k hs) (rfl) ?_
        refine t_icne (t := 63) dX12_isNew_58 (by decide) (fun h58 => ?_) (fun h58 => False.elim (by omega))
        refine r_aloadR0 dX12_isNew_63 ?_
        refine m_getR (q := (A + 15)) zf_RX12_59 rfl dX12_isNew_64 (shM_k hs) (shM_p15 hs) ?_
        refine r_iload3 dX12_isNew_67 ?_
        refine r_aloadR0 dX12_isNew_68 ?_
        refine m_getV (x := (f A 37)) zf_RX12_436 rfl dX12_isNew_69 (shM_k hs) (rfl) ?_
        refine m_iast (k := ((hsN c + d) % 65536)) dX12_isNew_72 (shM_k15 hs) (shM_n15 hs) (by omega) (by omega) ?_
        refine r_aloadR0 dX12_isNew_73 ?_
        refine m_getR (q := (A + 14)) zf_RX12_55 rfl dX12_isNew_74 (shM_k hs) (shM_p14 hs) ?_
        refine r_iload3 dX12_isNew_77 ?_
        refine r_lload1 dX12_isNew_78 ?_
        refine m_last (k := ((hsN c + d) % 65536)) dX12_isNew_79 (shM_k14 hs) (shM_n14 hs) (by omega) (by omega) ?_
        refine n_iconst dX12_isNew_80 (by decide) (fun r80 e80 => ?_)
        refine m_zret dX12_isNew_81 rfl (by omega) (Nat.le_of_ble_eq_true rfl) (Nat.le_of_ble_eq_true rfl) ?_
        refine hQ _ _ _ (Or.inl ⟨by omega, htb_no ht hp hfl, htb_add (p := ((hsN c + d) % 65536)) ht hp rfl hfl (fun i hi_z => zu_nn (Or.inr hi_z)) (by rw [zu_at]; exact h37) (fun i hi_z => zu_nn (Or.inr hi_z)) (by rw [zu_at]; exact hv)⟩) (frM_zr (r := 15) frM_rf (by decide) (by decide) (by decide)) (fun q hq => zu_ne hq) (fun i => by rw [zu_s2]; split; exact Or.inr rfl; exact Or.inl rfl)
  refine r_lload1 dX12_isNew_0 ?_
  refine n_ldc2 (n := 2654435761) zk_RX12_432 dX12_isNew_1 (by decide) (fun r1 e1_z => ?_)
  refine r_lmul dX12_isNew_4 ?_
  refine n_nameJ (fun r4 e4_z => ?_)
  refine n_bipush dX12_isNew_5 (by decide) (fun r5 e5_z => ?_)
  refine r_lushr dX12_isNew_7 ?_
  refine n_nameJ (fun r7 e7_z => ?_)
  have h7 : r7 = hsL v := by rw [e7_z, e4_z, show r1 = 2654435761 from Int64.toInt_inj.mp (e1_z.trans (by decide)), show r5 = 16 from zi_eq.mpr (e5_z.trans (by decide))]; rfl
  have h7n := hsL_nn v
  rw [← h7] at h7n
  have hsv := hsN_v hv
  rw [← h7] at hsv
  refine n_ldc2 (n := 65536) zk_RX12_434 dX12_isNew_8 (by decide) (fun r8 e8 => ?_)
  refine n_lremc (c := 65536) dX12_isNew_11 e8 (by decide) (by omega) (fun r11 e11_z => ?_)
  refine n_l2i dX12_isNew_12 (by omega) (fun r12 e12_z => ?_)
  refine r_istore3 dX12_isNew_13 rfl ?_
  refine lp 65537 _ 0 (by omega) (by omega) (fun e he => absurd he (by omega)) (by omega)
def lkN (L : zLy) : Nat → Nat
  | 0 => 0
  | k + 1 => 128 * lkN L k + plcN L k
def orN (L : zLy) : Nat → Nat
  | 0 => 0
  | k + 1 => 8 * orN L k + lyCell L k
theorem lkN_le {n : Nat} {L : zLy} (hr : rch n L) {k : Nat} (hk : k ≤ n) : lkN L k + 1 ≤ 128 ^ k := by
  induction k with
  | zero => exact Nat.le_refl _
  | succ k ih =>
    have h1 := ih (by omega)
    have h2 := (rch_at hr (show k < n by omega)).2.2.2
    have h3 : lkN L (k + 1) = 128 * lkN L k + plcN L k := rfl
    rw [h3, Nat.pow_succ]
    omega
theorem lkN_b {n : Nat} {L : zLy} (hr : rch n L) {k : Nat} (hk : k ≤ n) : lkN L k < 4398046511104 := by
  have h1 := lkN_le hr hk
  have h2 := rch_le hr
  have h3 : 128 ^ k ≤ 128 ^ 6 := Nat.pow_le_pow_right (by decide) (by omega)
  have h4 : (128 : Nat) ^ 6 = 4398046511104 := by decide
  omega
theorem lyCell_lt {n : Nat} {L : zLy} (hr : rch n L) {k : Nat} : lyCell L k < 8 := by
  unfold lyCell
  split
  · rename_i p hp
    have h1 := (rch_cell hr).2.1 p (List.mem_of_getElem? hp)
    have h2 := rch_le hr
    omega
  · decide
theorem orN_le {n : Nat} {L : zLy} (hr : rch n L) {k : Nat} : orN L k + 1 ≤ 8 ^ k := by
  induction k with
  | zero => exact Nat.le_refl _
  | succ k ih =>
    have h2 := lyCell_lt hr (k := k)
    have h3 : orN L (k + 1) = 8 * orN L k + lyCell L k := rfl
    rw [h3, Nat.pow_succ]
    omega
theorem orN_b {n : Nat} {L : zLy} (hr : rch n L) {k : Nat} (hk : k ≤ n) : orN L k < 262144 := by
  have h1 := orN_le hr (k := k)
  have h2 := rch_le hr
  have h3 : 8 ^ k ≤ 8 ^ 6 := Nat.pow_le_pow_right (by decide) (by omega)
  have h4 : (8 : Nat) ^ 6 = 262144 := by decide
  omega
theorem col_one {n k : Nat} {L : zLy} {l : Nat → Int32} {d : Nat} (hr : rch n L) (hLi : ctLi l d L) (h1 : L.length < 2) (hk : k < n) : ∃ p, L.flatten[k]? = some p ∧ p.1 < 6 ∧ lyCell L k = p.1 ∧ (l (43 * d + 7 + 6 * 0 + k)).toInt = (cdP p : Nat) := by
  have hc_z := rch_cell hr
  have h6 := rch_le hr
  obtain ⟨p, hp⟩ : ∃ p, L.flatten[k]? = some p := ⟨_, List.getElem?_eq_getElem (by omega)⟩
  have hp6 := hc_z.2.1 p (List.mem_of_getElem? hp)
  have hL1 : L.length = 1 := by
    rcases (show L.length = 0 ∨ L.length = 1 by omega) with h9 | h9
    · rw [List.length_eq_zero_iff.mp h9] at hp; exact absurd hp (by simp)
    · exact h9
  have hz0 : zcol L ((0 : Nat) : Int) = L.flatten := by
    obtain ⟨col, hcol⟩ := List.length_eq_one_iff.mp hL1
    rw [hcol]; unfold zcol; simp
  refine ⟨p, hp, by omega, ?_, (ctLi_at (c := 0) hLi (by omega)).2 k p (by rw [hz0]; exact hp)⟩
  unfold lyCell
  rw [hp]
set_option maxHeartbeats 4000000 in
set_option maxRecDepth 100000 in
theorem s_X12_lookAt {g : zGT} {w : zW} {f : Nat → Nat → Int32} {j : Nat → Nat → Int64} {A : Nat} {T : zTb} {d : Nat} {x : Int32} {L : zLy} {Q : Option Value → zW → Prop} {QX : String → zW → Prop} (G : zGok g) (hs : shM w A) (hk : ctKn (f (A + 1)) T) (hw : wfT T) (hx : x.toInt = (d : Nat)) (hd_z : d < 11) (hLi : ctLi (f (A + 6)) d L) (hr : rch (tbC T) L) (hQ : ∀ (r : Int64) f2_z, r.toInt = (lkN L (tbC T) : Nat) → frM A [7] [] f f2_z → Q (some (.long r)) (zM w f2_z j)) : zC g 3 yX12_lookAt cX12_lookAt 5 (some .long) [.ref A, .int x] (zM w f j) (0, 0) Q QX := by
  refine zC_of G (by decide +kernel) (Nat.le_of_ble_eq_true rfl) ?_
  have hn6 : tbC T ≤ 6 := hw.2.1
  have hg4 : tbG T ≤ 4 := hw.2.2.1
  have hrc := rch_cell hr
  have hLn : L.length ≤ 6 := Nat.le_trans hrc.2.2.2.2 hn6
  have hm99 := hw.2.2.2.2.2.2.2.1.2.2
  refine r_aloadR0 dX12_lookAt_0 ?_
  refine r_iload1 dX12_lookAt_1 ?_
  refine q_callV1 zm_RX12_302 dX12_lookAt_2 (shM_k hs) (by decide) rfl (Nat.le_of_ble_eq_true rfl) (Nat.le_of_ble_eq_true rfl) (Nat.le_of_ble_eq_true rfl) (Nat.le_of_ble_eq_true rfl) (Nat.le_of_ble_eq_true rfl) (s_X12_laysPlaces (L := L) (n := tbC T) G hs hx hd_z hLi hr (fun g2 o2 c2_z => ?_))
  have hk2 : ctKn (g2 (A + 1)) T := by rw [o2.2.1 1 (by decide) (by decide) (by decide)]; exact hk
  have lp : ∀ (mz : Nat) (v : Int64) (c : Int32) (k : Nat), c.toInt = (k : Nat) → k ≤ tbC T → v.toInt = (lkN L k : Nat) → tbC T - k < mz → zR (zV g 3 yX12_lookAt 5 (some .long) (0, 0) Q QX) cX12_lookAt yX12_lookAt.cls 10 [some (.ref A), some (.int x), some (.long v), none, some (.int c)] [] (zM w g2 j) (0, 0) := by
    intro mz
    induction mz with
    | zero =>
      intro v c k hck hk8 hv hmz
      exact absurd hmz (Nat.not_lt_zero _)
    | succ mz ih =>
      intro v c k hck hk8 hv hmz
      have hlb := lkN_b hr hk8
      rcases Nat.lt_or_ge k (tbC T) with hkl | hkl
      · have hpc := c2_z k hkl
        have hp96 := (rch_at hr hkl).2.2.2
        refine r_iload4 dX12_lookAt_10 ?_
        refine r_aloadR0 dX12_lookAt_12 ?_
        refine q_callV0 zm_RX12_253 dX12_lookAt_13 (shM_k hs) (by decide) rfl (Nat.le_of_ble_eq_true rfl) (Nat.le_of_ble_eq_true rfl) (Nat.le_of_ble_eq_true rfl) (Nat.le_of_ble_eq_true rfl) (Nat.le_of_ble_eq_true rfl) (s_X12_cells G hs hk2.1.2.1 (fun r13 e13_z => ?_))
        refine t_icge (t := 40) dX12_lookAt_16 (by decide) (fun h16_z => False.elim (by omega)) (fun h16_z => ?_)
        refine n_ldc2 (n := 128) zk_RX12_439 dX12_lookAt_19 (by decide) (fun r19 e19_z => ?_)
        refine r_lload2 dX12_lookAt_22 ?_
        refine n_lmulc dX12_lookAt_23 e19_z (by omega) (fun r23 e23_z => ?_)
        refine r_aloadR0 dX12_lookAt_24 ?_
        refine m_getR (q := (A + 7)) zf_RX12_33 rfl dX12_lookAt_25 (shM_k hs) (shM_p7 hs) ?_
        refine r_iload4 dX12_lookAt_28 ?_
        refine m_iald (k := k) (x := (g2 (A + 7) k)) dX12_lookAt_30 (shM_k7 hs) (shM_n7 hs) (by omega) (by omega) (rfl) ?_
        refine n_i2l dX12_lookAt_31 (fun r31 e31_z => ?_)
        refine n_ladd dX12_lookAt_32 (by omega) (fun r32 e32 => ?_)
        refine r_lstore2 dX12_lookAt_33 rfl ?_
        refine n_iinc4 dX12_lookAt_34 (by decide) rfl (by omega) (fun r34 e34 => ?_)
        refine r_goto (t := 10) dX12_lookAt_37 (by decide) ?_
        refine ih _ _ (k + 1) (by omega) (by omega) ?_ (by omega)
        have hlk : lkN L (k + 1) = 128 * lkN L k + plcN L k := rfl
        rw [hlk]
        omega
      · refine r_iload4 dX12_lookAt_10 ?_
        refine r_aloadR0 dX12_lookAt_12 ?_
        refine q_callV0 zm_RX12_253 dX12_lookAt_13 (shM_k hs) (by decide) rfl (Nat.le_of_ble_eq_true rfl) (Nat.le_of_ble_eq_true rfl) (Nat.le_of_ble_eq_true rfl) (Nat.le_of_ble_eq_true rfl) (Nat.le_of_ble_eq_true rfl) (s_X12_cells G hs hk2.1.2.1 (fun r13 e13_z => ?_))
        refine t_icge (t := 40) dX12_lookAt_16 (by decide) (fun h16_z => ?_) (fun h16_z => False.elim (by omega))
        refine r_lload2 dX12_lookAt_40 ?_
        refine r_lret dX12_lookAt_41 rfl (Nat.le_of_ble_eq_true rfl) (Nat.le_of_ble_eq_true rfl) ?_
        exact hQ _ g2 (by rw [hv, show k = tbC T by omega]) o2
  refine n_lconst (q := 0) dX12_lookAt_5 rfl (by decide) (fun r5 e5_z => ?_)
  refine r_lstore2 dX12_lookAt_6 rfl ?_
  refine n_iconst dX12_lookAt_7 (by decide) (fun r7 e7_z => ?_)
  refine r_istore4 dX12_lookAt_8 rfl ?_
  exact lp 7 _ _ 0 (by omega) (by omega) e5_z (by omega)
set_option maxHeartbeats 4000000 in
set_option maxRecDepth 100000 in
theorem s_X12_orderAt {g : zGT} {w : zW} {f : Nat → Nat → Int32} {j : Nat → Nat → Int64} {A : Nat} {T : zTb} {d : Nat} {x : Int32} {L : zLy} {Q : Option Value → zW → Prop} {QX : String → zW → Prop} (G : zGok g) (hs : shM w A) (hk : ctKn (f (A + 1)) T) (hw : wfT T) (hx : x.toInt = (d : Nat)) (hd_z : d < 11) (hLi : ctLi (f (A + 6)) d L) (hr : rch (tbC T) L) (h1 : L.length < 2) (hQ : ∀ r : Int64, r.toInt = (orN L (tbC T) : Nat) → Q (some (.long r)) (zM w f j)) : zC g 2 yX12_orderAt cX12_orderAt 5 (some .long) [.ref A, .int x] (zM w f j) (0, 0) Q QX := by
  refine zC_of G (by decide +kernel) (Nat.le_of_ble_eq_true rfl) ?_
  have hn6 : tbC T ≤ 6 := hw.2.1
  have hg4 : tbG T ≤ 4 := hw.2.2.1
  have hrc := rch_cell hr
  have hLn : L.length ≤ 6 := Nat.le_trans hrc.2.2.2.2 hn6
  have hm99 := hw.2.2.2.2.2.2.2.1.2.2
  have lp : ∀ (mz : Nat) (v : Int64) (c : Int32) (k : Nat), c.toInt = (k : Nat) → k ≤ tbC T → v.toInt = (orN L k : Nat) → tbC T - k < mz → zR (zV g 2 yX12_orderAt 5 (some .long) (0, 0) Q QX) cX12_orderAt yX12_orderAt.cls 5 [some (.ref A), some (.int x), some (.long v), none, some (.int c)] [] (zM w f j) (0, 0) := by
    intro mz
    induction mz with
    | zero =>
      intro v c k hck hk8 hv hmz
      exact absurd hmz (Nat.not_lt_zero _)
    | succ mz ih =>
      intro v c k hck hk8 hv hmz
      have hlb := orN_b hr hk8
      rcases Nat.lt_or_ge k (tbC T) with hkl | hkl
      · obtain ⟨p, hp1, hp2, hp3, hp4⟩ := col_one hr hLi h1 hkl
        refine r_iload4 dX12_orderAt_5 ?_
        refine r_aloadR0 dX12_orderAt_7 ?_
        refine q_callV0 zm_RX12_253 dX12_orderAt_8 (shM_k hs) (by decide) rfl (Nat.le_of_ble_eq_true rfl) (Nat.le_of_ble_eq_true rfl) (Nat.le_of_ble_eq_true rfl) (Nat.le_of_ble_eq_true rfl) (Nat.le_of_ble_eq_true rfl) (s_X12_cells G hs hk.1.2.1 (fun r8 e8 => ?_))
        refine t_icge (t := 38) dX12_orderAt_11 (by decide) (fun h11 => False.elim (by omega)) (fun h11 => ?_)
        refine n_ldc2 (n := 8) zk_RX12_441 dX12_orderAt_14 (by decide) (fun r14 e14_z => ?_)
        refine r_lload2 dX12_orderAt_17 ?_
        refine n_lmulc dX12_orderAt_18 e14_z (by omega) (fun r18 e18_z => ?_)
        refine r_aloadR0 dX12_orderAt_19 ?_
        refine r_iload1 dX12_orderAt_20 ?_
        refine n_iconst dX12_orderAt_21 (by decide) (fun r21 e21_z => ?_)
        refine r_iload4 dX12_orderAt_22 ?_
        refine q_callV3 zm_RX12_264 dX12_orderAt_24 (shM_k hs) (by decide) rfl (Nat.le_of_ble_eq_true rfl) (Nat.le_of_ble_eq_true rfl) (Nat.le_of_ble_eq_true rfl) (Nat.le_of_ble_eq_true rfl) (Nat.le_of_ble_eq_true rfl) (s_X12_layerAt (c := 0) (i := k) (v := cdP p) G hs hx (by omega) hck hd_z (by omega) (by omega) hp4 (fun r24 e24_z => ?_))
        unfold cdP at e24_z
        have e24b : r24.toInt / 2 = (p.1 : Nat) := by split at e24_z <;> omega
        have e24c : 0 ≤ r24.toInt := by omega
        refine n_iconst dX12_orderAt_27 (by decide) (fun r27 e27_z => ?_)
        refine n_idivc (c := 2) dX12_orderAt_28 e27_z (by decide) (by omega) (fun r28 e28_z => ?_)
        refine n_i2l dX12_orderAt_29 (fun r29 e29 => ?_)
        refine n_ladd dX12_orderAt_30 (by omega) (fun r30 e30 => ?_)
        refine r_lstore2 dX12_orderAt_31 rfl ?_
        refine n_iinc4 dX12_orderAt_32 (by decide) rfl (by omega) (fun r32 e32 => ?_)
        refine r_goto (t := 5) dX12_orderAt_35 (by decide) ?_
        refine ih _ _ (k + 1) (by omega) (by omega) ?_ (by omega)
        have hlk : orN L (k + 1) = 8 * orN L k + lyCell L k := rfl
        rw [hlk, hp3]
        omega
      · refine r_iload4 dX12_orderAt_5 ?_
        refine r_aloadR0 dX12_orderAt_7 ?_
        refine q_callV0 zm_RX12_253 dX12_orderAt_8 (shM_k hs) (by decide) rfl (Nat.le_of_ble_eq_true rfl) (Nat.le_of_ble_eq_true rfl) (Nat.le_of_ble_eq_true rfl) (Nat.le_of_ble_eq_true rfl) (Nat.le_of_ble_eq_true rfl) (s_X12_cells G hs hk.1.2.1 (fun r8 e8 => ?_))
        refine t_icge (t := 38) dX12_orderAt_11 (by decide) (fun h11 => ?_) (fun h11 => False.elim (by omega))
        refine r_lload2 dX12_orderAt_38 ?_
        refine r_lret dX12_orderAt_39 rfl (Nat.le_of_ble_eq_true rfl) (Nat.le_of_ble_eq_true rfl) ?_
        exact hQ _ (by rw [hv, show k = tbC T by omega])
  refine n_lconst (q := 0) dX12_orderAt_0 rfl (by decide) (fun r0 e0_z => ?_)
  refine r_lstore2 dX12_orderAt_1 rfl ?_
  refine n_iconst dX12_orderAt_2 (by decide) (fun r2 e2_z => ?_)
  refine r_istore4 dX12_orderAt_3 rfl ?_
  exact lp 7 _ _ 0 (by omega) (by omega) e0_z (by omega)
