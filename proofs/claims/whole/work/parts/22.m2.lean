/-! the reference: folds, how it lies now, what is seen of it -/
theorem ctLi_of {l l2 : Nat → Int32} {d : Nat} {L : zLy} (h_z : ctLi l d L) (hL : L.length ≤ 6) (h6 : L.flatten.length ≤ 6) (e : ∀ i, i < 43 * (d + 1) → l2 i = l i) : ctLi l2 d L := by
  refine ⟨by rw [e _ (by omega)]; exact h_z.1, fun c col hc_z => ?_⟩
  have hcl := (List.getElem?_eq_some_iff.mp hc_z).1
  have h1 : col.length ≤ 6 := by have := zcol_le (c := (c : Nat)) h6; rw [zcol_at hc_z] at this; exact this
  exact ctCo_of (h_z.2 c col hc_z) h1 (e _ (by omega)) (fun k hk => e _ (by omega))
theorem lyCol_le {L : zLy} {li wy k : Nat} (h6 : L.flatten.length ≤ 6) (h_z : li ≤ L.length) (hk : k < lySpan L li) : (lyFoldCol L li wy k).length ≤ 6 := by
  have := lyPart_bnd (L := L) (way := wy) h_z hk
  omega
theorem zturn_0 : zturn [] = [] := rfl
set_option maxHeartbeats 4000000 in
set_option maxRecDepth 100000 in
theorem s_X12_folds0 {g : zGT} {w : zW} {f : Nat → Nat → Int32} {j : Nat → Nat → Int64} {A : Nat} {d li : Nat} {x y z : Int32} {L : zLy} {Q : Option Value → zW → Prop} {QX : String → zW → Prop} (G : zGok g) (hs : shM w A) (hx : x.toInt = (d : Nat)) (hd_z : d < 10) (hLi : ctLi (f (A + 6)) d L) (hL6 : L.length ≤ 6) (h6 : L.flatten.length ≤ 6) (hB_z : bdLay L) (hy : y.toInt = (li : Nat)) (hl1 : 1 ≤ li) (hl2 : li < L.length) (hz : z.toInt = 0) (hQ : ∀ f2_z, frM A [6] [] f f2_z → ctLi (f2_z (A + 6)) (d + 1) (lyFold L li 0) → (∀ i, i < 43 * (d + 1) → f2_z (A + 6) i = f (A + 6) i) → Q none (zM w f2_z j)) : zC g 3 yX12_folds cX12_folds 12 none [.ref A, .int x, .int y, .int z] (zM w f j) (0, 0) Q QX := by
  refine zC_of G (by decide +kernel) (Nat.le_of_ble_eq_true rfl) ?_
  have hsp : (lySpan L li : Int) = max (li : Int) ((L.length : Int) - li) := by unfold lySpan; omega
  have hs6 : lySpan L li ≤ 6 := by omega
  refine r_aloadR0 dX12_folds_0 ?_
  refine r_iload1 dX12_folds_1 ?_
  refine q_callV1 zm_RX12_256 dX12_folds_2 (shM_k hs) (by decide) rfl (Nat.le_of_ble_eq_true rfl) (Nat.le_of_ble_eq_true rfl) (Nat.le_of_ble_eq_true rfl) (Nat.le_of_ble_eq_true rfl) (Nat.le_of_ble_eq_true rfl) (s_X12_columnsAt G hs hx (by omega) hLi.1 (fun r2 e2_z => ?_))
  refine r_istore4 dX12_folds_5 rfl ?_
  refine r_iload2 dX12_folds_7 ?_
  refine r_iload4 dX12_folds_8 ?_
  refine r_iload2 dX12_folds_10 ?_
  refine n_isub dX12_folds_11 (by omega) (fun r11 e11_z => ?_)
  refine r_mmax zm_RX12_268 dX12_folds_12 (Nat.le_of_ble_eq_true rfl) (Nat.le_of_ble_eq_true rfl) (Nat.le_of_ble_eq_true rfl) (Nat.le_of_ble_eq_true rfl) (Nat.le_of_ble_eq_true rfl) (fun r12 e12_z => ?_)
  refine r_istore5 dX12_folds_15 rfl ?_
  refine r_iload3 dX12_folds_17 ?_
  refine n_iconst dX12_folds_18 (by decide) (fun r18 e18_z => ?_)
  refine t_icge (t := 26) dX12_folds_19 (by decide) (fun h19 => False.elim (by omega)) (fun h19 => ?_)
  refine n_iconst dX12_folds_22 (by decide) (fun r22 e22_z => ?_)
  refine r_goto (t := 27) dX12_folds_23 (by decide) ?_
  refine r_istore6 dX12_folds_27 rfl ?_
  refine r_iload3 dX12_folds_29 ?_
  refine n_iconst dX12_folds_30 (by decide) (fun r30 e30 => ?_)
  refine n_iremc (c := 2) dX12_folds_31 e30 (by decide) (by omega) (fun r31 e31_z => ?_)
  refine n_iconst dX12_folds_32 (by decide) (fun r32 e32 => ?_)
  refine t_icne (t := 40) dX12_folds_33 (by decide) (fun h33 => ?_) (fun h33 => False.elim (by omega))
  refine n_iconst dX12_folds_40 (by decide) (fun r40 e40 => ?_)
  refine r_istore7 dX12_folds_41 rfl ?_
  refine r_aloadR0 dX12_folds_43 ?_
  refine m_getR (q := (A + 6)) zf_RX12_30 rfl dX12_folds_44 (shM_k hs) (shM_p6 hs) ?_
  refine n_bipush dX12_folds_47 (by decide) (fun r47 e47 => ?_)
  refine r_iload1 dX12_folds_49 ?_
  refine n_iconst dX12_folds_50 (by decide) (fun r50 e50 => ?_)
  refine n_iadd dX12_folds_51 (by omega) (fun r51 e51 => ?_)
  refine n_imulc dX12_folds_52 e47 (by omega) (fun r52 e52 => ?_)
  refine r_iload5 dX12_folds_53 ?_
  refine m_iast (k := 43 * (d + 1)) dX12_folds_55 (shM_k6 hs) (shM_n6 hs) (by omega) (by omega) ?_
  refine n_iconst dX12_folds_56 (by decide) (fun r56 e56 => ?_)
  refine r_istore8 dX12_folds_57 rfl ?_
  have lp : ∀ (m : Nat) (t : Int32) (k : Nat) (f2_z : Nat → Nat → Int32) (v9_ : Option Value) (v10_ : Option Value) (v11_ : Option Value), t.toInt = (k : Nat) → k ≤ lySpan L li → frM A [6] [] f f2_z → (∀ i, i < 43 * (d + 1) → f2_z (A + 6) i = f (A + 6) i) → (f2_z (A + 6) (43 * (d + 1))).toInt = (lySpan L li : Nat) → (∀ c, c < k → ctCo (f2_z (A + 6)) (d + 1) c (lyFoldCol L li 0 c)) → lySpan L li - k < m → zR (zV g 3 yX12_folds 12 none (0, 0) Q QX) cX12_folds yX12_folds.cls 59 [some (.ref A), some (.int x), some (.int y), some (.int z), some (.int r2), some (.int r12), some (.int r22), some (.int r40), some (.int t), v9_, v10_, v11_] [] (zM w f2_z j) (0, 0) := by
    intro m
    induction m with
    | zero =>
      intro t k f2_z v9_ v10_ v11_ ht hk hfr hlow hw hcs hm_z
      exact absurd hm_z (Nat.not_lt_zero _)
    | succ m ih =>
      intro t k f2_z v9_ v10_ v11_ ht hk hfr hlow hw hcs hm_z
      rcases Nat.lt_or_ge k (lySpan L li) with hks | hks
      · have hcl : ∀ c, c < k → (lyFoldCol L li 0 c).length ≤ 6 := fun c hc_z => lyCol_le h6 (by omega) (by omega)
        have hck := lyCol_le (wy := 0) h6 (Nat.le_of_lt hl2) hks
        refine r_iload8 dX12_folds_59 ?_
        refine r_iload5 dX12_folds_61 ?_
        refine t_icge (t := 233) dX12_folds_63 (by decide) (fun h63 => False.elim (by omega)) (fun h63 => ?_)
        refine r_aloadR0 dX12_folds_66 ?_
        refine m_getR (q := (A + 6)) zf_RX12_30 rfl dX12_folds_67 (shM_k hs) (shM_p6 hs) ?_
        refine n_bipush dX12_folds_70 (by decide) (fun r70 e70 => ?_)
        refine r_iload1 dX12_folds_72 ?_
        refine n_iconst dX12_folds_73 (by decide) (fun r73 e73 => ?_)
        refine n_iadd dX12_folds_74 (by omega) (fun r74 e74_z => ?_)
        refine n_imulc dX12_folds_75 e70 (by omega) (fun r75 e75 => ?_)
        refine n_iconst dX12_folds_76 (by decide) (fun r76 e76 => ?_)
        refine n_iadd dX12_folds_77 (by omega) (fun r77 e77 => ?_)
        refine r_iload8 dX12_folds_78 ?_
        refine n_iadd dX12_folds_80 (by omega) (fun r80 e80 => ?_)
        refine n_iconst dX12_folds_81 (by decide) (fun r81 e81 => ?_)
        refine m_iast (k := 43 * (d + 1) + 1 + k) dX12_folds_82 (shM_k6 hs) (shM_n6 hs) (by omega) (by omega) ?_
        obtain ⟨f3_z, hf3⟩ : ∃ f3_z, f3_z = zu f2_z (A + 6) (43 * (d + 1) + 1 + k) r81 := ⟨_, rfl⟩
        rw [← hf3]
        have hfr3 : frM A [6] [] f f3_z := by rw [hf3]; exact frM_zr hfr (by decide) (by decide) (by decide)
        have hlow3 : ∀ i, i < 43 * (d + 1) → f3_z (A + 6) i = f (A + 6) i := fun i hi_z => by rw [hf3, zu_ni (by omega)]; exact hlow i hi_z
        have hw3 : (f3_z (A + 6) (43 * (d + 1))).toInt = (lySpan L li : Nat) := by rw [hf3, zu_ni (by omega)]; exact hw
        have hcs3 : ∀ c, c < k → ctCo (f3_z (A + 6)) (d + 1) c (lyFoldCol L li 0 c) := fun c hc_z => ctCo_of (hcs c hc_z) (hcl c hc_z) (by rw [hf3, zu_ni (by omega)]) (fun i hi_z => by rw [hf3, zu_ni (by omega)])
        have hcu3 : ctCo (f3_z (A + 6)) (d + 1) k [] := by rw [hf3]; exact ctCo_0 e81
        refine r_iload6 dX12_folds_83 ?_
        refine t_ifeq (t := 93) dX12_folds_85 (by decide) (fun h85 => False.elim (by omega)) (fun h85 => ?_)
        refine r_iload8 dX12_folds_88 ?_
        refine r_goto (t := 100) dX12_folds_90 (by decide) ?_
        refine r_istore9 dX12_folds_100 rfl ?_
        refine r_iload6 dX12_folds_102 ?_
        refine t_ifeq (t := 116) dX12_folds_104 (by decide) (fun h104 => False.elim (by omega)) (fun h104 => ?_)
        refine r_iload2 dX12_folds_107 ?_
        refine n_iconst dX12_folds_108 (by decide) (fun r108 e108 => ?_)
        refine n_isub dX12_folds_109 (by omega) (fun r109 e109_z => ?_)
        refine r_iload9 dX12_folds_110 ?_
        refine n_isub dX12_folds_112 (by omega) (fun r112 e112_z => ?_)
        refine r_goto (t := 120) dX12_folds_113 (by decide) ?_
        refine r_istore10 dX12_folds_120 rfl ?_
        refine r_iload6 dX12_folds_122 ?_
        refine t_ifeq (t := 134) dX12_folds_124 (by decide) (fun h124 => False.elim (by omega)) (fun h124 => ?_)
        refine r_iload2 dX12_folds_127 ?_
        refine r_iload9 dX12_folds_128 ?_
        refine n_iadd dX12_folds_130 (by omega) (fun r130 e130 => ?_)
        refine r_goto (t := 140) dX12_folds_131 (by decide) ?_
        refine r_istore11 dX12_folds_140 rfl ?_
        have hE : lyFoldCol L li 0 k = zcol L r130.toInt ++ zturn (zcol L r112.toInt) := by
          rw [show r112.toInt = (li : Int) - 1 - (k : Int) by omega, show r130.toInt = (li : Int) + (k : Int) by omega]
          simp [lyFoldCol, lyFoldD]
        have hEl := hck
        rw [hE, List.length_append, zturn_len] at hEl
        refine r_iload7 dX12_folds_142 ?_
        refine t_ifeq (t := 172) dX12_folds_144 (by decide) (fun h144 => ?_) (fun h144 => False.elim (by omega))
        refine r_iload11 dX12_folds_172 ?_
        refine n_i2l dX12_folds_174 (fun r174 e174 => ?_)
        refine n_lconst (q := 0) dX12_folds_175 rfl (by decide) (fun r175 e175 => ?_)
        refine r_iload4 dX12_folds_176 ?_
        refine n_iconst dX12_folds_178 (by decide) (fun r178 e178 => ?_)
        refine n_isub dX12_folds_179 (by omega) (fun r179 e179 => ?_)
        refine n_i2l dX12_folds_180 (fun r180 e180 => ?_)
        refine q_callS3 zm_RX12_138 dX12_folds_181 (Nat.le_of_ble_eq_true rfl) (Nat.le_of_ble_eq_true rfl) (Nat.le_of_ble_eq_true rfl) (Nat.le_of_ble_eq_true rfl) (Nat.le_of_ble_eq_true rfl) (s_X12_within G  (fun r181 e181 => ?_))
        refine t_ifeq (t := 197) dX12_folds_184 (by decide) (fun h184 => ?_) (fun h184 => ?_)
        · refine r_iload7 dX12_folds_197 ?_
          refine t_ifne (t := 227) dX12_folds_199 (by decide) (fun h199 => False.elim (by omega)) (fun h199 => ?_)
          refine r_iload10 dX12_folds_202 ?_
          refine n_i2l dX12_folds_204 (fun r204 e204 => ?_)
          refine n_lconst (q := 0) dX12_folds_205 rfl (by decide) (fun r205 e205 => ?_)
          refine r_iload4 dX12_folds_206 ?_
          refine n_iconst dX12_folds_208 (by decide) (fun r208 e208 => ?_)
          refine n_isub dX12_folds_209 (by omega) (fun r209 e209 => ?_)
          refine n_i2l dX12_folds_210 (fun r210 e210 => ?_)
          refine q_callS3 zm_RX12_138 dX12_folds_211 (Nat.le_of_ble_eq_true rfl) (Nat.le_of_ble_eq_true rfl) (Nat.le_of_ble_eq_true rfl) (Nat.le_of_ble_eq_true rfl) (Nat.le_of_ble_eq_true rfl) (s_X12_within G  (fun r211 e211 => ?_))
          refine t_ifeq (t := 227) dX12_folds_214 (by decide) (fun h214 => ?_) (fun h214 => ?_)
          · refine n_iinc8 dX12_folds_227 (by decide) rfl (by omega) (fun r227 e227 => ?_)
            refine r_goto (t := 59) dX12_folds_230 (by decide) ?_
            have hzr112 : zcol L r112.toInt = [] := zcol_out (by omega)
            have hzr130 : zcol L r130.toInt = [] := zcol_out (by omega)
            refine ih _ (k + 1) f3_z _ _ _ (by omega) (by omega) hfr3 hlow3 hw3 (fun c hc_z => ?_) (by omega)
            rcases Nat.lt_or_ge c k with h9 | h9
            · exact hcs3 c h9
            · rw [show c = k by omega, hE]
              simpa [hzr112, hzr130, zturn_0] using hcu3
          · refine r_aloadR0 dX12_folds_217 ?_
            refine r_iload1 dX12_folds_218 ?_
            refine r_iload10 dX12_folds_219 ?_
            refine n_iconst dX12_folds_221 (by decide) (fun r221 e221 => ?_)
            refine r_iload8 dX12_folds_222 ?_
            refine q_callV4 zm_RX12_273 dX12_folds_224 (shM_k hs) (by decide) rfl (Nat.le_of_ble_eq_true rfl) (Nat.le_of_ble_eq_true rfl) (Nat.le_of_ble_eq_true rfl) (Nat.le_of_ble_eq_true rfl) (Nat.le_of_ble_eq_true rfl) (s_X12_puts (d := d) (c := r112.toInt.toNat) (t := k) (tr := true) (col := zcol L r112.toInt) (cur := []) G hs hx hd_z (by omega) (by omega) (Or.inl ⟨e221, rfl⟩) ht (by omega) (ctLi_col (ctLi_of hLi hL6 h6 hlow3) (by omega) (by omega)) hcu3 (by simp only [List.nil_append, List.length_append, List.length_nil, zturn_len]; omega) (fun p hp => hB_z p (zcol_mem hp)) (fun f224 hfq224 hcu224 hun224 => ?_))
            have hfr224 := frM_tr hfr3 hfq224
            have hlow224 : ∀ i, i < 43 * (d + 1) → f224 (A + 6) i = f (A + 6) i := fun i hi_z => (hun224 i (by omega)).trans (hlow3 i hi_z)
            have hw224 : (f224 (A + 6) (43 * (d + 1))).toInt = (lySpan L li : Nat) := by rw [hun224 _ (by omega)]; exact hw3
            have hcs224 : ∀ c, c < k → ctCo (f224 (A + 6)) (d + 1) c (lyFoldCol L li 0 c) := fun c hc_z => ctCo_of (hcs3 c hc_z) (hcl c hc_z) (hun224 _ (by omega)) (fun i hi_z => hun224 _ (by omega))
            simp only [if_true, Bool.false_eq_true, if_false] at hcu224
            refine n_iinc8 dX12_folds_227 (by decide) rfl (by omega) (fun r227 e227 => ?_)
            refine r_goto (t := 59) dX12_folds_230 (by decide) ?_
            have hzr130 : zcol L r130.toInt = [] := zcol_out (by omega)
            refine ih _ (k + 1) f224 _ _ _ (by omega) (by omega) hfr224 hlow224 hw224 (fun c hc_z => ?_) (by omega)
            rcases Nat.lt_or_ge c k with h9 | h9
            · exact hcs224 c h9
            · rw [show c = k by omega, hE]
              simpa [hzr130, zturn_0] using hcu224
        · refine r_aloadR0 dX12_folds_187 ?_
          refine r_iload1 dX12_folds_188 ?_
          refine r_iload11 dX12_folds_189 ?_
          refine n_iconst dX12_folds_191 (by decide) (fun r191 e191 => ?_)
          refine r_iload8 dX12_folds_192 ?_
          refine q_callV4 zm_RX12_273 dX12_folds_194 (shM_k hs) (by decide) rfl (Nat.le_of_ble_eq_true rfl) (Nat.le_of_ble_eq_true rfl) (Nat.le_of_ble_eq_true rfl) (Nat.le_of_ble_eq_true rfl) (Nat.le_of_ble_eq_true rfl) (s_X12_puts (d := d) (c := r130.toInt.toNat) (t := k) (tr := false) (col := zcol L r130.toInt) (cur := []) G hs hx hd_z (by omega) (by omega) (Or.inr ⟨e191, rfl⟩) ht (by omega) (ctLi_col (ctLi_of hLi hL6 h6 hlow3) (by omega) (by omega)) hcu3 (by simp only [List.nil_append, List.length_append, List.length_nil, zturn_len]; omega) (fun p hp => hB_z p (zcol_mem hp)) (fun f194 hfq194 hcu194 hun194 => ?_))
          have hfr194 := frM_tr hfr3 hfq194
          have hlow194 : ∀ i, i < 43 * (d + 1) → f194 (A + 6) i = f (A + 6) i := fun i hi_z => (hun194 i (by omega)).trans (hlow3 i hi_z)
          have hw194 : (f194 (A + 6) (43 * (d + 1))).toInt = (lySpan L li : Nat) := by rw [hun194 _ (by omega)]; exact hw3
          have hcs194 : ∀ c, c < k → ctCo (f194 (A + 6)) (d + 1) c (lyFoldCol L li 0 c) := fun c hc_z => ctCo_of (hcs3 c hc_z) (hcl c hc_z) (hun194 _ (by omega)) (fun i hi_z => hun194 _ (by omega))
          simp only [if_true, Bool.false_eq_true, if_false] at hcu194
          refine r_iload7 dX12_folds_197 ?_
          refine t_ifne (t := 227) dX12_folds_199 (by decide) (fun h199 => False.elim (by omega)) (fun h199 => ?_)
          refine r_iload10 dX12_folds_202 ?_
          refine n_i2l dX12_folds_204 (fun r204 e204 => ?_)
          refine n_lconst (q := 0) dX12_folds_205 rfl (by decide) (fun r205 e205 => ?_)
          refine r_iload4 dX12_folds_206 ?_
          refine n_iconst dX12_folds_208 (by decide) (fun r208 e208 => ?_)
          refine n_isub dX12_folds_209 (by omega) (fun r209 e209 => ?_)
          refine n_i2l dX12_folds_210 (fun r210 e210 => ?_)
          refine q_callS3 zm_RX12_138 dX12_folds_211 (Nat.le_of_ble_eq_true rfl) (Nat.le_of_ble_eq_true rfl) (Nat.le_of_ble_eq_true rfl) (Nat.le_of_ble_eq_true rfl) (Nat.le_of_ble_eq_true rfl) (s_X12_within G  (fun r211 e211 => ?_))
          refine t_ifeq (t := 227) dX12_folds_214 (by decide) (fun h214 => ?_) (fun h214 => ?_)
          · refine n_iinc8 dX12_folds_227 (by decide) rfl (by omega) (fun r227 e227 => ?_)
            refine r_goto (t := 59) dX12_folds_230 (by decide) ?_
            have hzr112 : zcol L r112.toInt = [] := zcol_out (by omega)
            refine ih _ (k + 1) f194 _ _ _ (by omega) (by omega) hfr194 hlow194 hw194 (fun c hc_z => ?_) (by omega)
            rcases Nat.lt_or_ge c k with h9 | h9
            · exact hcs194 c h9
            · rw [show c = k by omega, hE]
              simpa [hzr112, zturn_0] using hcu194
          · refine r_aloadR0 dX12_folds_217 ?_
            refine r_iload1 dX12_folds_218 ?_
            refine r_iload10 dX12_folds_219 ?_
            refine n_iconst dX12_folds_221 (by decide) (fun r221 e221 => ?_)
            refine r_iload8 dX12_folds_222 ?_
            refine q_callV4 zm_RX12_273 dX12_folds_224 (shM_k hs) (by decide) rfl (Nat.le_of_ble_eq_true rfl) (Nat.le_of_ble_eq_true rfl) (Nat.le_of_ble_eq_true rfl) (Nat.le_of_ble_eq_true rfl) (Nat.le_of_ble_eq_true rfl) (s_X12_puts (d := d) (c := r112.toInt.toNat) (t := k) (tr := true) (col := zcol L r112.toInt) (cur := ([] ++ zcol L r130.toInt)) G hs hx hd_z (by omega) (by omega) (Or.inl ⟨e221, rfl⟩) ht (by omega) (ctLi_col (ctLi_of hLi hL6 h6 hlow194) (by omega) (by omega)) hcu194 (by simp only [List.nil_append, List.length_append, List.length_nil, zturn_len]; omega) (fun p hp => hB_z p (zcol_mem hp)) (fun f224 hfq224 hcu224 hun224 => ?_))
            have hfr224 := frM_tr hfr194 hfq224
            have hlow224 : ∀ i, i < 43 * (d + 1) → f224 (A + 6) i = f (A + 6) i := fun i hi_z => (hun224 i (by omega)).trans (hlow194 i hi_z)
            have hw224 : (f224 (A + 6) (43 * (d + 1))).toInt = (lySpan L li : Nat) := by rw [hun224 _ (by omega)]; exact hw194
            have hcs224 : ∀ c, c < k → ctCo (f224 (A + 6)) (d + 1) c (lyFoldCol L li 0 c) := fun c hc_z => ctCo_of (hcs194 c hc_z) (hcl c hc_z) (hun224 _ (by omega)) (fun i hi_z => hun224 _ (by omega))
            simp only [if_true, Bool.false_eq_true, if_false] at hcu224
            refine n_iinc8 dX12_folds_227 (by decide) rfl (by omega) (fun r227 e227 => ?_)
            refine r_goto (t := 59) dX12_folds_230 (by decide) ?_
            refine ih _ (k + 1) f224 _ _ _ (by omega) (by omega) hfr224 hlow224 hw224 (fun c hc_z => ?_) (by omega)
            rcases Nat.lt_or_ge c k with h9 | h9
            · exact hcs224 c h9
            · rw [show c = k by omega, hE]
              simpa [zturn_0] using hcu224
      · refine r_iload8 dX12_folds_59 ?_
        refine r_iload5 dX12_folds_61 ?_
        refine t_icge (t := 233) dX12_folds_63 (by decide) (fun h63 => ?_) (fun h63 => False.elim (by omega))
        refine r_vret dX12_folds_233 rfl (Nat.le_of_ble_eq_true rfl) (Nat.le_of_ble_eq_true rfl) ?_
        refine hQ f2_z hfr ⟨by rw [lyFold_len]; exact hw, fun c col hcol => ?_⟩ hlow
        have hcl := (List.getElem?_eq_some_iff.mp hcol).1
        rw [lyFold_len] at hcl
        have e : col = lyFoldCol L li 0 c := by unfold lyFold at hcol; rw [List.getElem?_map, List.getElem?_range hcl] at hcol; exact (Option.some.inj hcol).symm
        rw [e]
        exact hcs c (by omega)
  exact lp (lySpan L li + 1) _ 0 _ _ _ _ (by omega) (by omega) (frM_zr frM_rf (by decide) (by decide) (by decide)) (fun i hi_z => by rw [zu_ni (by omega)]) (by rw [zu_at]; omega) (fun c hc_z => absurd hc_z (by omega)) (by omega)
set_option maxHeartbeats 4000000 in
set_option maxRecDepth 100000 in
theorem s_X12_folds1 {g : zGT} {w : zW} {f : Nat → Nat → Int32} {j : Nat → Nat → Int64} {A : Nat} {d li : Nat} {x y z : Int32} {L : zLy} {Q : Option Value → zW → Prop} {QX : String → zW → Prop} (G : zGok g) (hs : shM w A) (hx : x.toInt = (d : Nat)) (hd_z : d < 10) (hLi : ctLi (f (A + 6)) d L) (hL6 : L.length ≤ 6) (h6 : L.flatten.length ≤ 6) (hB_z : bdLay L) (hy : y.toInt = (li : Nat)) (hl1 : 1 ≤ li) (hl2 : li < L.length) (hz : z.toInt = 1) (hQ : ∀ f2_z, frM A [6] [] f f2_z → ctLi (f2_z (A + 6)) (d + 1) (lyFold L li 1) → (∀ i, i < 43 * (d + 1) → f2_z (A + 6) i = f (A + 6) i) → Q none (zM w f2_z j)) : zC g 3 yX12_folds cX12_folds 12 none [.ref A, .int x, .int y, .int z] (zM w f j) (0, 0) Q QX := by
  refine zC_of G (by decide +kernel) (Nat.le_of_ble_eq_true rfl) ?_
  have hsp : (lySpan L li : Int) = max (li : Int) ((L.length : Int) - li) := by unfold lySpan; omega
  have hs6 : lySpan L li ≤ 6 := by omega
  refine r_aloadR0 dX12_folds_0 ?_
  refine r_iload1 dX12_folds_1 ?_
  refine q_callV1 zm_RX12_256 dX12_folds_2 (shM_k hs) (by decide) rfl (Nat.le_of_ble_eq_true rfl) (Nat.le_of_ble_eq_true rfl) (Nat.le_of_ble_eq_true rfl) (Nat.le_of_ble_eq_true rfl) (Nat.le_of_ble_eq_true rfl) (s_X12_columnsAt G hs hx (by omega) hLi.1 (fun r2 e2_z => ?_))
  refine r_istore4 dX12_folds_5 rfl ?_
  refine r_iload2 dX12_folds_7 ?_
  refine r_iload4 dX12_folds_8 ?_
  refine r_iload2 dX12_folds_10 ?_
  refine n_isub dX12_folds_11 (by omega) (fun r11 e11_z => ?_)
  refine r_mmax zm_RX12_268 dX12_folds_12 (Nat.le_of_ble_eq_true rfl) (Nat.le_of_ble_eq_true rfl) (Nat.le_of_ble_eq_true rfl) (Nat.le_of_ble_eq_true rfl) (Nat.le_of_ble_eq_true rfl) (fun r12 e12_z => ?_)
  refine r_istore5 dX12_folds_15 rfl ?_
  refine r_iload3 dX12_folds_17 ?_
  refine n_iconst dX12_folds_18 (by decide) (fun r18 e18_z => ?_)
  refine t_icge (t := 26) dX12_folds_19 (by decide) (fun h19 => False.elim (by omega)) (fun h19 => ?_)
  refine n_iconst dX12_folds_22 (by decide) (fun r22 e22_z => ?_)
  refine r_goto (t := 27) dX12_folds_23 (by decide) ?_
  refine r_istore6 dX12_folds_27 rfl ?_
  refine r_iload3 dX12_folds_29 ?_
  refine n_iconst dX12_folds_30 (by decide) (fun r30 e30 => ?_)
  refine n_iremc (c := 2) dX12_folds_31 e30 (by decide) (by omega) (fun r31 e31_z => ?_)
  refine n_iconst dX12_folds_32 (by decide) (fun r32 e32 => ?_)
  refine t_icne (t := 40) dX12_folds_33 (by decide) (fun h33 => False.elim (by omega)) (fun h33 => ?_)
  refine n_iconst dX12_folds_36 (by decide) (fun r36 e36 => ?_)
  refine r_goto (t := 41) dX12_folds_37 (by decide) ?_
  refine r_istore7 dX12_folds_41 rfl ?_
  refine r_aloadR0 dX12_folds_43 ?_
  refine m_getR (q := (A + 6)) zf_RX12_30 rfl dX12_folds_44 (shM_k hs) (shM_p6 hs) ?_
  refine n_bipush dX12_folds_47 (by decide) (fun r47 e47 => ?_)
  refine r_iload1 dX12_folds_49 ?_
  refine n_iconst dX12_folds_50 (by decide) (fun r50 e50 => ?_)
  refine n_iadd dX12_folds_51 (by omega) (fun r51 e51 => ?_)
  refine n_imulc dX12_folds_52 e47 (by omega) (fun r52 e52 => ?_)
  refine r_iload5 dX12_folds_53 ?_
  refine m_iast (k := 43 * (d + 1)) dX12_folds_55 (shM_k6 hs) (shM_n6 hs) (by omega) (by omega) ?_
  refine n_iconst dX12_folds_56 (by decide) (fun r56 e56 => ?_)
  refine r_istore8 dX12_folds_57 rfl ?_
  have lp : ∀ (m : Nat) (t : Int32) (k : Nat) (f2_z : Nat → Nat → Int32) (v9_ : Option Value) (v10_ : Option Value) (v11_ : Option Value), t.toInt = (k : Nat) → k ≤ lySpan L li → frM A [6] [] f f2_z → (∀ i, i < 43 * (d + 1) → f2_z (A + 6) i = f (A + 6) i) → (f2_z (A + 6) (43 * (d + 1))).toInt = (lySpan L li : Nat) → (∀ c, c < k → ctCo (f2_z (A + 6)) (d + 1) c (lyFoldCol L li 1 c)) → lySpan L li - k < m → zR (zV g 3 yX12_folds 12 none (0, 0) Q QX) cX12_folds yX12_folds.cls 59 [some (.ref A), some (.int x), some (.int y), some (.int z), some (.int r2), some (.int r12), some (.int r22), some (.int r36), some (.int t), v9_, v10_, v11_] [] (zM w f2_z j) (0, 0) := by
    intro m
    induction m with
    | zero =>
      intro t k f2_z v9_ v10_ v11_ ht hk hfr hlow hw hcs hm_z
      exact absurd hm_z (Nat.not_lt_zero _)
    | succ m ih =>
      intro t k f2_z v9_ v10_ v11_ ht hk hfr hlow hw hcs hm_z
      rcases Nat.lt_or_ge k (lySpan L li) with hks | hks
      · have hcl : ∀ c, c < k → (lyFoldCol L li 1 c).length ≤ 6 := fun c hc_z => lyCol_le h6 (by omega) (by omega)
        have hck := lyCol_le (wy := 1) h6 (Nat.le_of_lt hl2) hks
        refine r_iload8 dX12_folds_59 ?_
        refine r_iload5 dX12_folds_61 ?_
        refine t_icge (t := 233) dX12_folds_63 (by decide) (fun h63 => False.elim (by omega)) (fun h63 => ?_)
        refine r_aloadR0 dX12_folds_66 ?_
        refine m_getR (q := (A + 6)) zf_RX12_30 rfl dX12_folds_67 (shM_k hs) (shM_p6 hs) ?_
        refine n_bipush dX12_folds_70 (by decide) (fun r70 e70 => ?_)
        refine r_iload1 dX12_folds_72 ?_
        refine n_iconst dX12_folds_73 (by decide) (fun r73 e73 => ?_)
        refine n_iadd dX12_folds_74 (by omega) (fun r74 e74_z => ?_)
        refine n_imulc dX12_folds_75 e70 (by omega) (fun r75 e75 => ?_)
        refine n_iconst dX12_folds_76 (by decide) (fun r76 e76 => ?_)
        refine n_iadd dX12_folds_77 (by omega) (fun r77 e77 => ?_)
        refine r_iload8 dX12_folds_78 ?_
        refine n_iadd dX12_folds_80 (by omega) (fun r80 e80 => ?_)
        refine n_iconst dX12_folds_81 (by decide) (fun r81 e81 => ?_)
        refine m_iast (k := 43 * (d + 1) + 1 + k) dX12_folds_82 (shM_k6 hs) (shM_n6 hs) (by omega) (by omega) ?_
        obtain ⟨f3_z, hf3⟩ : ∃ f3_z, f3_z = zu f2_z (A + 6) (43 * (d + 1) + 1 + k) r81 := ⟨_, rfl⟩
        rw [← hf3]
        have hfr3 : frM A [6] [] f f3_z := by rw [hf3]; exact frM_zr hfr (by decide) (by decide) (by decide)
        have hlow3 : ∀ i, i < 43 * (d + 1) → f3_z (A + 6) i = f (A + 6) i := fun i hi_z => by rw [hf3, zu_ni (by omega)]; exact hlow i hi_z
        have hw3 : (f3_z (A + 6) (43 * (d + 1))).toInt = (lySpan L li : Nat) := by rw [hf3, zu_ni (by omega)]; exact hw
        have hcs3 : ∀ c, c < k → ctCo (f3_z (A + 6)) (d + 1) c (lyFoldCol L li 1 c) := fun c hc_z => ctCo_of (hcs c hc_z) (hcl c hc_z) (by rw [hf3, zu_ni (by omega)]) (fun i hi_z => by rw [hf3, zu_ni (by omega)])
        have hcu3 : ctCo (f3_z (A + 6)) (d + 1) k [] := by rw [hf3]; exact ctCo_0 e81
        refine r_iload6 dX12_folds_83 ?_
        refine t_ifeq (t := 93) dX12_folds_85 (by decide) (fun h85 => False.elim (by omega)) (fun h85 => ?_)
        refine r_iload8 dX12_folds_88 ?_
        refine r_goto (t := 100) dX12_folds_90 (by decide) ?_
        refine r_istore9 dX12_folds_100 rfl ?_
        refine r_iload6 dX12_folds_102 ?_
        refine t_ifeq (t := 116) dX12_folds_104 (by decide) (fun h104 => False.elim (by omega)) (fun h104 => ?_)
        refine r_iload2 dX12_folds_107 ?_
        refine n_iconst dX12_folds_108 (by decide) (fun r108 e108 => ?_)
        refine n_isub dX12_folds_109 (by omega) (fun r109 e109_z => ?_)
        refine r_iload9 dX12_folds_110 ?_
        refine n_isub dX12_folds_112 (by omega) (fun r112 e112_z => ?_)
        refine r_goto (t := 120) dX12_folds_113 (by decide) ?_
        refine r_istore10 dX12_folds_120 rfl ?_
        refine r_iload6 dX12_folds_122 ?_
        refine t_ifeq (t := 134) dX12_folds_124 (by decide) (fun h124 => False.elim (by omega)) (fun h124 => ?_)
        refine r_iload2 dX12_folds_127 ?_
        refine r_iload9 dX12_folds_128 ?_
        refine n_iadd dX12_folds_130 (by omega) (fun r130 e130 => ?_)
        refine r_goto (t := 140) dX12_folds_131 (by decide) ?_
        refine r_istore11 dX12_folds_140 rfl ?_
        have hE : lyFoldCol L li 1 k = zturn (zcol L r112.toInt) ++ zcol L r130.toInt := by
          rw [show r112.toInt = (li : Int) - 1 - (k : Int) by omega, show r130.toInt = (li : Int) + (k : Int) by omega]
          simp [lyFoldCol, lyFoldD]
        have hEl := hck
        rw [hE, List.length_append, zturn_len] at hEl
        refine r_iload7 dX12_folds_142 ?_
        refine t_ifeq (t := 172) dX12_folds_144 (by decide) (fun h144 => False.elim (by omega)) (fun h144 => ?_)
        refine r_iload10 dX12_folds_147 ?_
        refine n_i2l dX12_folds_149 (fun r149 e149 => ?_)
        refine n_lconst (q := 0) dX12_folds_150 rfl (by decide) (fun r150 e150 => ?_)
        refine r_iload4 dX12_folds_151 ?_
        refine n_iconst dX12_folds_153 (by decide) (fun r153 e153 => ?_)
        refine n_isub dX12_folds_154 (by omega) (fun r154 e154 => ?_)
        refine n_i2l dX12_folds_155 (fun r155 e155 => ?_)
        refine q_callS3 zm_RX12_138 dX12_folds_156 (Nat.le_of_ble_eq_true rfl) (Nat.le_of_ble_eq_true rfl) (Nat.le_of_ble_eq_true rfl) (Nat.le_of_ble_eq_true rfl) (Nat.le_of_ble_eq_true rfl) (s_X12_within G  (fun r156 e156 => ?_))
        refine t_ifeq (t := 172) dX12_folds_159 (by decide) (fun h159 => ?_) (fun h159 => ?_)
        · refine r_iload11 dX12_folds_172 ?_
          refine n_i2l dX12_folds_174 (fun r174 e174 => ?_)
          refine n_lconst (q := 0) dX12_folds_175 rfl (by decide) (fun r175 e175 => ?_)
          refine r_iload4 dX12_folds_176 ?_
          refine n_iconst dX12_folds_178 (by decide) (fun r178 e178 => ?_)
          refine n_isub dX12_folds_179 (by omega) (fun r179 e179 => ?_)
          refine n_i2l dX12_folds_180 (fun r180 e180 => ?_)
          refine q_callS3 zm_RX12_138 dX12_folds_181 (Nat.le_of_ble_eq_true rfl) (Nat.le_of_ble_eq_true rfl) (Nat.le_of_ble_eq_true rfl) (Nat.le_of_ble_eq_true rfl) (Nat.le_of_ble_eq_true rfl) (s_X12_within G  (fun r181 e181 => ?_))
          refine t_ifeq (t := 197) dX12_folds_184 (by decide) (fun h184 => ?_) (fun h184 => ?_)
          · refine r_iload7 dX12_folds_197 ?_
            refine t_ifne (t := 227) dX12_folds_199 (by decide) (fun h199 => ?_) (fun h199 => False.elim (by omega))
            refine n_iinc8 dX12_folds_227 (by decide) rfl (by omega) (fun r227 e227 => ?_)
            refine r_goto (t := 59) dX12_folds_230 (by decide) ?_
            have hzr112 : zcol L r112.toInt = [] := zcol_out (by omega)
            have hzr130 : zcol L r130.toInt = [] := zcol_out (by omega)
            refine ih _ (k + 1) f3_z _ _ _ (by omega) (by omega) hfr3 hlow3 hw3 (fun c hc_z => ?_) (by omega)
            rcases Nat.lt_or_ge c k with h9 | h9
            · exact hcs3 c h9
            · rw [show c = k by omega, hE]
              simpa [hzr112, hzr130, zturn_0] using hcu3
          · refine r_aloadR0 dX12_folds_187 ?_
            refine r_iload1 dX12_folds_188 ?_
            refine r_iload11 dX12_folds_189 ?_
            refine n_iconst dX12_folds_191 (by decide) (fun r191 e191 => ?_)
            refine r_iload8 dX12_folds_192 ?_
            refine q_callV4 zm_RX12_273 dX12_folds_194 (shM_k hs) (by decide) rfl (Nat.le_of_ble_eq_true rfl) (Nat.le_of_ble_eq_true rfl) (Nat.le_of_ble_eq_true rfl) (Nat.le_of_ble_eq_true rfl) (Nat.le_of_ble_eq_true rfl) (s_X12_puts (d := d) (c := r130.toInt.toNat) (t := k) (tr := false) (col := zcol L r130.toInt) (cur := []) G hs hx hd_z (by omega) (by omega) (Or.inr ⟨e191, rfl⟩) ht (by omega) (ctLi_col (ctLi_of hLi hL6 h6 hlow3) (by omega) (by omega)) hcu3 (by simp only [List.nil_append, List.length_append, List.length_nil, zturn_len]; omega) (fun p hp => hB_z p (zcol_mem hp)) (fun f194 hfq194 hcu194 hun194 => ?_))
            have hfr194 := frM_tr hfr3 hfq194
            have hlow194 : ∀ i, i < 43 * (d + 1) → f194 (A + 6) i = f (A + 6) i := fun i hi_z => (hun194 i (by omega)).trans (hlow3 i hi_z)
            have hw194 : (f194 (A + 6) (43 * (d + 1))).toInt = (lySpan L li : Nat) := by rw [hun194 _ (by omega)]; exact hw3
            have hcs194 : ∀ c, c < k → ctCo (f194 (A + 6)) (d + 1) c (lyFoldCol L li 1 c) := fun c hc_z => ctCo_of (hcs3 c hc_z) (hcl c hc_z) (hun194 _ (by omega)) (fun i hi_z => hun194 _ (by omega))
            simp only [if_true, Bool.false_eq_true, if_false] at hcu194
            refine r_iload7 dX12_folds_197 ?_
            refine t_ifne (t := 227) dX12_folds_199 (by decide) (fun h199 => ?_) (fun h199 => False.elim (by omega))
            refine n_iinc8 dX12_folds_227 (by decide) rfl (by omega) (fun r227 e227 => ?_)
            refine r_goto (t := 59) dX12_folds_230 (by decide) ?_
            have hzr112 : zcol L r112.toInt = [] := zcol_out (by omega)
            refine ih _ (k + 1) f194 _ _ _ (by omega) (by omega) hfr194 hlow194 hw194 (fun c hc_z => ?_) (by omega)
            rcases Nat.lt_or_ge c k with h9 | h9
            · exact hcs194 c h9
            · rw [show c = k by omega, hE]
              simpa [hzr112, zturn_0] using hcu194
        · refine r_aloadR0 dX12_folds_162 ?_
          refine r_iload1 dX12_folds_163 ?_
          refine r_iload10 dX12_folds_164 ?_
          refine n_iconst dX12_folds_166 (by decide) (fun r166 e166 => ?_)
          refine r_iload8 dX12_folds_167 ?_
          refine q_callV4 zm_RX12_273 dX12_folds_169 (shM_k hs) (by decide) rfl (Nat.le_of_ble_eq_true rfl) (Nat.le_of_ble_eq_true rfl) (Nat.le_of_ble_eq_true rfl) (Nat.le_of_ble_eq_true rfl) (Nat.le_of_ble_eq_true rfl) (s_X12_puts (d := d) (c := r112.toInt.toNat) (t := k) (tr := true) (col := zcol L r112.toInt) (cur := []) G hs hx hd_z (by omega) (by omega) (Or.inl ⟨e166, rfl⟩) ht (by omega) (ctLi_col (ctLi_of hLi hL6 h6 hlow3) (by omega) (by omega)) hcu3 (by simp only [List.nil_append, List.length_append, List.length_nil, zturn_len]; omega) (fun p hp => hB_z p (zcol_mem hp)) (fun f169 hfq169 hcu169 hun169 => ?_))
          have hfr169 := frM_tr hfr3 hfq169
          have hlow169 : ∀ i, i < 43 * (d + 1) → f169 (A + 6) i = f (A + 6) i := fun i hi_z => (hun169 i (by omega)).trans (hlow3 i hi_z)
          have hw169 : (f169 (A + 6) (43 * (d + 1))).toInt = (lySpan L li : Nat) := by rw [hun169 _ (by omega)]; exact hw3
          have hcs169 : ∀ c, c < k → ctCo (f169 (A + 6)) (d + 1) c (lyFoldCol L li 1 c) := fun c hc_z => ctCo_of (hcs3 c hc_z) (hcl c hc_z) (hun169 _ (by omega)) (fun i hi_z => hun169 _ (by omega))
          simp only [if_true, Bool.false_eq_true, if_false] at hcu169
          refine r_iload11 dX12_folds_172 ?_
          refine n_i2l dX12_folds_174 (fun r174 e174 => ?_)
          refine n_lconst (q := 0) dX12_folds_175 rfl (by decide) (fun r175 e175 => ?_)
          refine r_iload4 dX12_folds_176 ?_
          refine n_iconst dX12_folds_178 (by decide) (fun r178 e178 => ?_)
          refine n_isub dX12_folds_179 (by omega) (fun r179 e179 => ?_)
          refine n_i2l dX12_folds_180 (fun r180 e180 => ?_)
          refine q_callS3 zm_RX12_138 dX12_folds_181 (Nat.le_of_ble_eq_true rfl) (Nat.le_of_ble_eq_true rfl) (Nat.le_of_ble_eq_true rfl) (Nat.le_of_ble_eq_true rfl) (Nat.le_of_ble_eq_true rfl) (s_X12_within G  (fun r181 e181 => ?_))
          refine t_ifeq (t := 197) dX12_folds_184 (by decide) (fun h184 => ?_) (fun h184 => ?_)
          · refine r_iload7 dX12_folds_197 ?_
            refine t_ifne (t := 227) dX12_folds_199 (by decide) (fun h199 => ?_) (fun h199 => False.elim (by omega))
            refine n_iinc8 dX12_folds_227 (by decide) rfl (by omega) (fun r227 e227 => ?_)
            refine r_goto (t := 59) dX12_folds_230 (by decide) ?_
            have hzr130 : zcol L r130.toInt = [] := zcol_out (by omega)
            refine ih _ (k + 1) f169 _ _ _ (by omega) (by omega) hfr169 hlow169 hw169 (fun c hc_z => ?_) (by omega)
            rcases Nat.lt_or_ge c k with h9 | h9
            · exact hcs169 c h9
            · rw [show c = k by omega, hE]
              simpa [hzr130, zturn_0] using hcu169
          · refine r_aloadR0 dX12_folds_187 ?_
            refine r_iload1 dX12_folds_188 ?_
            refine r_iload11 dX12_folds_189 ?_
            refine n_iconst dX12_folds_191 (by decide) (fun r191 e191 => ?_)
            refine r_iload8 dX12_folds_192 ?_
            refine q_callV4 zm_RX12_273 dX12_folds_194 (shM_k hs) (by decide) rfl (Nat.le_of_ble_eq_true rfl) (Nat.le_of_ble_eq_true rfl) (Nat.le_of_ble_eq_true rfl) (Nat.le_of_ble_eq_true rfl) (Nat.le_of_ble_eq_true rfl) (s_X12_puts (d := d) (c := r130.toInt.toNat) (t := k) (tr := false) (col := zcol L r130.toInt) (cur := ([] ++ zturn (zcol L r112.toInt))) G hs hx hd_z (by omega) (by omega) (Or.inr ⟨e191, rfl⟩) ht (by omega) (ctLi_col (ctLi_of hLi hL6 h6 hlow169) (by omega) (by omega)) hcu169 (by simp only [List.nil_append, List.length_append, List.length_nil, zturn_len]; omega) (fun p hp => hB_z p (zcol_mem hp)) (fun f194 hfq194 hcu194 hun194 => ?_))
            have hfr194 := frM_tr hfr169 hfq194
            have hlow194 : ∀ i, i < 43 * (d + 1) → f194 (A + 6) i = f (A + 6) i := fun i hi_z => (hun194 i (by omega)).trans (hlow169 i hi_z)
            have hw194 : (f194 (A + 6) (43 * (d + 1))).toInt = (lySpan L li : Nat) := by rw [hun194 _ (by omega)]; exact hw169
            have hcs194 : ∀ c, c < k → ctCo (f194 (A + 6)) (d + 1) c (lyFoldCol L li 1 c) := fun c hc_z => ctCo_of (hcs169 c hc_z) (hcl c hc_z) (hun194 _ (by omega)) (fun i hi_z => hun194 _ (by omega))
            simp only [if_true, Bool.false_eq_true, if_false] at hcu194
            refine r_iload7 dX12_folds_197 ?_
            refine t_ifne (t := 227) dX12_folds_199 (by decide) (fun h199 => ?_) (fun h199 => False.elim (by omega))
            refine n_iinc8 dX12_folds_227 (by decide) rfl (by omega) (fun r227 e227 => ?_)
            refine r_goto (t := 59) dX12_folds_230 (by decide) ?_
            refine ih _ (k + 1) f194 _ _ _ (by omega) (by omega) hfr194 hlow194 hw194 (fun c hc_z => ?_) (by omega)
            rcases Nat.lt_or_ge c k with h9 | h9
            · exact hcs194 c h9
            · rw [show c = k by omega, hE]
              simpa [zturn_0] using hcu194
      · refine r_iload8 dX12_folds_59 ?_
        refine r_iload5 dX12_folds_61 ?_
        refine t_icge (t := 233) dX12_folds_63 (by decide) (fun h63 => ?_) (fun h63 => False.elim (by omega))
        refine r_vret dX12_folds_233 rfl (Nat.le_of_ble_eq_true rfl) (Nat.le_of_ble_eq_true rfl) ?_
        refine hQ f2_z hfr ⟨by rw [lyFold_len]; exact hw, fun c col hcol => ?_⟩ hlow
        have hcl := (List.getElem?_eq_some_iff.mp hcol).1
        rw [lyFold_len] at hcl
        have e : col = lyFoldCol L li 1 c := by unfold lyFold at hcol; rw [List.getElem?_map, List.getElem?_range hcl] at hcol; exact (Option.some.inj hcol).symm
        rw [e]
        exact hcs c (by omega)
  exact lp (lySpan L li + 1) _ 0 _ _ _ _ (by omega) (by omega) (frM_zr frM_rf (by decide) (by decide) (by decide)) (fun i hi_z => by rw [zu_ni (by omega)]) (by rw [zu_at]; omega) (fun c hc_z => absurd hc_z (by omega)) (by omega)
set_option maxHeartbeats 4000000 in
set_option maxRecDepth 100000 in
theorem s_X12_folds2 {g : zGT} {w : zW} {f : Nat → Nat → Int32} {j : Nat → Nat → Int64} {A : Nat} {d li : Nat} {x y z : Int32} {L : zLy} {Q : Option Value → zW → Prop} {QX : String → zW → Prop} (G : zGok g) (hs : shM w A) (hx : x.toInt = (d : Nat)) (hd_z : d < 10) (hLi : ctLi (f (A + 6)) d L) (hL6 : L.length ≤ 6) (h6 : L.flatten.length ≤ 6) (hB_z : bdLay L) (hy : y.toInt = (li : Nat)) (hl1 : 1 ≤ li) (hl2 : li < L.length) (hz : z.toInt = 2) (hQ : ∀ f2_z, frM A [6] [] f f2_z → ctLi (f2_z (A + 6)) (d + 1) (lyFold L li 2) → (∀ i, i < 43 * (d + 1) → f2_z (A + 6) i = f (A + 6) i) → Q none (zM w f2_z j)) : zC g 3 yX12_folds cX12_folds 12 none [.ref A, .int x, .int y, .int z] (zM w f j) (0, 0) Q QX := by
  refine zC_of G (by decide +kernel) (Nat.le_of_ble_eq_true rfl) ?_
  have hsp : (lySpan L li : Int) = max (li : Int) ((L.length : Int) - li) := by unfold lySpan; omega
  have hs6 : lySpan L li ≤ 6 := by omega
  refine r_aloadR0 dX12_folds_0 ?_
  refine r_iload1 dX12_folds_1 ?_
  refine q_callV1 zm_RX12_256 dX12_folds_2 (shM_k hs) (by decide) rfl (Nat.le_of_ble_eq_true rfl) (Nat.le_of_ble_eq_true rfl) (Nat.le_of_ble_eq_true rfl) (Nat.le_of_ble_eq_true rfl) (Nat.le_of_ble_eq_true rfl) (s_X12_columnsAt G hs hx (by omega) hLi.1 (fun r2 e2_z => ?_))
  refine r_istore4 dX12_folds_5 rfl ?_
  refine r_iload2 dX12_folds_7 ?_
  refine r_iload4 dX12_folds_8 ?_
  refine r_iload2 dX12_folds_10 ?_
  refine n_isub dX12_folds_11 (by omega) (fun r11 e11_z => ?_)
  refine r_mmax zm_RX12_268 dX12_folds_12 (Nat.le_of_ble_eq_true rfl) (Nat.le_of_ble_eq_true rfl) (Nat.le_of_ble_eq_true rfl) (Nat.le_of_ble_eq_true rfl) (Nat.le_of_ble_eq_true rfl) (fun r12 e12_z => ?_)
  refine r_istore5 dX12_folds_15 rfl ?_
  refine r_iload3 dX12_folds_17 ?_
  refine n_iconst dX12_folds_18 (by decide) (fun r18 e18_z => ?_)
  refine t_icge (t := 26) dX12_folds_19 (by decide) (fun h19 => ?_) (fun h19 => False.elim (by omega))
  refine n_iconst dX12_folds_26 (by decide) (fun r26 e26_z => ?_)
  refine r_istore6 dX12_folds_27 rfl ?_
  refine r_iload3 dX12_folds_29 ?_
  refine n_iconst dX12_folds_30 (by decide) (fun r30 e30 => ?_)
  refine n_iremc (c := 2) dX12_folds_31 e30 (by decide) (by omega) (fun r31 e31_z => ?_)
  refine n_iconst dX12_folds_32 (by decide) (fun r32 e32 => ?_)
  refine t_icne (t := 40) dX12_folds_33 (by decide) (fun h33 => ?_) (fun h33 => False.elim (by omega))
  refine n_iconst dX12_folds_40 (by decide) (fun r40 e40 => ?_)
  refine r_istore7 dX12_folds_41 rfl ?_
  refine r_aloadR0 dX12_folds_43 ?_
  refine m_getR (q := (A + 6)) zf_RX12_30 rfl dX12_folds_44 (shM_k hs) (shM_p6 hs) ?_
  refine n_bipush dX12_folds_47 (by decide) (fun r47 e47 => ?_)
  refine r_iload1 dX12_folds_49 ?_
  refine n_iconst dX12_folds_50 (by decide) (fun r50 e50 => ?_)
  refine n_iadd dX12_folds_51 (by omega) (fun r51 e51 => ?_)
  refine n_imulc dX12_folds_52 e47 (by omega) (fun r52 e52 => ?_)
  refine r_iload5 dX12_folds_53 ?_
  refine m_iast (k := 43 * (d + 1)) dX12_folds_55 (shM_k6 hs) (shM_n6 hs) (by omega) (by omega) ?_
  refine n_iconst dX12_folds_56 (by decide) (fun r56 e56 => ?_)
  refine r_istore8 dX12_folds_57 rfl ?_
  have lp : ∀ (m : Nat) (t : Int32) (k : Nat) (f2_z : Nat → Nat → Int32) (v9_ : Option Value) (v10_ : Option Value) (v11_ : Option Value), t.toInt = (k : Nat) → k ≤ lySpan L li → frM A [6] [] f f2_z → (∀ i, i < 43 * (d + 1) → f2_z (A + 6) i = f (A + 6) i) → (f2_z (A + 6) (43 * (d + 1))).toInt = (lySpan L li : Nat) → (∀ c, c < k → ctCo (f2_z (A + 6)) (d + 1) c (lyFoldCol L li 2 c)) → lySpan L li - k < m → zR (zV g 3 yX12_folds 12 none (0, 0) Q QX) cX12_folds yX12_folds.cls 59 [some (.ref A), some (.int x), some (.int y), some (.int z), some (.int r2), some (.int r12), some (.int r26), some (.int r40), some (.int t), v9_, v10_, v11_] [] (zM w f2_z j) (0, 0) := by
    intro m
    induction m with
    | zero =>
      intro t k f2_z v9_ v10_ v11_ ht hk hfr hlow hw hcs hm_z
      exact absurd hm_z (Nat.not_lt_zero _)
    | succ m ih =>
      intro t k f2_z v9_ v10_ v11_ ht hk hfr hlow hw hcs hm_z
      rcases Nat.lt_or_ge k (lySpan L li) with hks | hks
      · have hcl : ∀ c, c < k → (lyFoldCol L li 2 c).length ≤ 6 := fun c hc_z => lyCol_le h6 (by omega) (by omega)
        have hck := lyCol_le (wy := 2) h6 (Nat.le_of_lt hl2) hks
        refine r_iload8 dX12_folds_59 ?_
        refine r_iload5 dX12_folds_61 ?_
        refine t_icge (t := 233) dX12_folds_63 (by decide) (fun h63 => False.elim (by omega)) (fun h63 => ?_)
        refine r_aloadR0 dX12_folds_66 ?_
        refine m_getR (q := (A + 6)) zf_RX12_30 rfl dX12_folds_67 (shM_k hs) (shM_p6 hs) ?_
        refine n_bipush dX12_folds_70 (by decide) (fun r70 e70 => ?_)
        refine r_iload1 dX12_folds_72 ?_
        refine n_iconst dX12_folds_73 (by decide) (fun r73 e73 => ?_)
        refine n_iadd dX12_folds_74 (by omega) (fun r74 e74_z => ?_)
        refine n_imulc dX12_folds_75 e70 (by omega) (fun r75 e75 => ?_)
        refine n_iconst dX12_folds_76 (by decide) (fun r76 e76 => ?_)
        refine n_iadd dX12_folds_77 (by omega) (fun r77 e77 => ?_)
        refine r_iload8 dX12_folds_78 ?_
        refine n_iadd dX12_folds_80 (by omega) (fun r80 e80 => ?_)
        refine n_iconst dX12_folds_81 (by decide) (fun r81 e81 => ?_)
        refine m_iast (k := 43 * (d + 1) + 1 + k) dX12_folds_82 (shM_k6 hs) (shM_n6 hs) (by omega) (by omega) ?_
        obtain ⟨f3_z, hf3⟩ : ∃ f3_z, f3_z = zu f2_z (A + 6) (43 * (d + 1) + 1 + k) r81 := ⟨_, rfl⟩
        rw [← hf3]
        have hfr3 : frM A [6] [] f f3_z := by rw [hf3]; exact frM_zr hfr (by decide) (by decide) (by decide)
        have hlow3 : ∀ i, i < 43 * (d + 1) → f3_z (A + 6) i = f (A + 6) i := fun i hi_z => by rw [hf3, zu_ni (by omega)]; exact hlow i hi_z
        have hw3 : (f3_z (A + 6) (43 * (d + 1))).toInt = (lySpan L li : Nat) := by rw [hf3, zu_ni (by omega)]; exact hw
        have hcs3 : ∀ c, c < k → ctCo (f3_z (A + 6)) (d + 1) c (lyFoldCol L li 2 c) := fun c hc_z => ctCo_of (hcs c hc_z) (hcl c hc_z) (by rw [hf3, zu_ni (by omega)]) (fun i hi_z => by rw [hf3, zu_ni (by omega)])
        have hcu3 : ctCo (f3_z (A + 6)) (d + 1) k [] := by rw [hf3]; exact ctCo_0 e81
        refine r_iload6 dX12_folds_83 ?_
        refine t_ifeq (t := 93) dX12_folds_85 (by decide) (fun h85 => ?_) (fun h85 => False.elim (by omega))
        refine r_iload5 dX12_folds_93 ?_
        refine n_iconst dX12_folds_95 (by decide) (fun r95 e95_z => ?_)
        refine n_isub dX12_folds_96 (by omega) (fun r96 e96 => ?_)
        refine r_iload8 dX12_folds_97 ?_
        refine n_isub dX12_folds_99 (by omega) (fun r99 e99_z => ?_)
        refine r_istore9 dX12_folds_100 rfl ?_
        refine r_iload6 dX12_folds_102 ?_
        refine t_ifeq (t := 116) dX12_folds_104 (by decide) (fun h104 => ?_) (fun h104 => False.elim (by omega))
        refine r_iload2 dX12_folds_116 ?_
        refine r_iload9 dX12_folds_117 ?_
        refine n_iadd dX12_folds_119 (by omega) (fun r119 e119 => ?_)
        refine r_istore10 dX12_folds_120 rfl ?_
        refine r_iload6 dX12_folds_122 ?_
        refine t_ifeq (t := 134) dX12_folds_124 (by decide) (fun h124 => ?_) (fun h124 => False.elim (by omega))
        refine r_iload2 dX12_folds_134 ?_
        refine n_iconst dX12_folds_135 (by decide) (fun r135 e135 => ?_)
        refine n_isub dX12_folds_136 (by omega) (fun r136 e136 => ?_)
        refine r_iload9 dX12_folds_137 ?_
        refine n_isub dX12_folds_139 (by omega) (fun r139 e139 => ?_)
        refine r_istore11 dX12_folds_140 rfl ?_
        have hE : lyFoldCol L li 2 k = zcol L r139.toInt ++ zturn (zcol L r119.toInt) := by
          rw [show r119.toInt = (li : Int) + ((lySpan L li : Int) - 1 - (k : Int)) by omega, show r139.toInt = (li : Int) - 1 - ((lySpan L li : Int) - 1 - (k : Int)) by omega]
          simp [lyFoldCol, lyFoldD]
        have hEl := hck
        rw [hE, List.length_append, zturn_len] at hEl
        refine r_iload7 dX12_folds_142 ?_
        refine t_ifeq (t := 172) dX12_folds_144 (by decide) (fun h144 => ?_) (fun h144 => False.elim (by omega))
        refine r_iload11 dX12_folds_172 ?_
        refine n_i2l dX12_folds_174 (fun r174 e174 => ?_)
        refine n_lconst (q := 0) dX12_folds_175 rfl (by decide) (fun r175 e175 => ?_)
        refine r_iload4 dX12_folds_176 ?_
        refine n_iconst dX12_folds_178 (by decide) (fun r178 e178 => ?_)
        refine n_isub dX12_folds_179 (by omega) (fun r179 e179 => ?_)
        refine n_i2l dX12_folds_180 (fun r180 e180 => ?_)
        refine q_callS3 zm_RX12_138 dX12_folds_181 (Nat.le_of_ble_eq_true rfl) (Nat.le_of_ble_eq_true rfl) (Nat.le_of_ble_eq_true rfl) (Nat.le_of_ble_eq_true rfl) (Nat.le_of_ble_eq_true rfl) (s_X12_within G  (fun r181 e181 => ?_))
        refine t_ifeq (t := 197) dX12_folds_184 (by decide) (fun h184 => ?_) (fun h184 => ?_)
        · refine r_iload7 dX12_folds_197 ?_
          refine t_ifne (t := 227) dX12_folds_199 (by decide) (fun h199 => False.elim (by omega)) (fun h199 => ?_)
          refine r_iload10 dX12_folds_202 ?_
          refine n_i2l dX12_folds_204 (fun r204 e204 => ?_)
          refine n_lconst (q := 0) dX12_folds_205 rfl (by decide) (fun r205 e205 => ?_)
          refine r_iload4 dX12_folds_206 ?_
          refine n_iconst dX12_folds_208 (by decide) (fun r208 e208 => ?_)
          refine n_isub dX12_folds_209 (by omega) (fun r209 e209 => ?_)
          refine n_i2l dX12_folds_210 (fun r210 e210 => ?_)
          refine q_callS3 zm_RX12_138 dX12_folds_211 (Nat.le_of_ble_eq_true rfl) (Nat.le_of_ble_eq_true rfl) (Nat.le_of_ble_eq_true rfl) (Nat.le_of_ble_eq_true rfl) (Nat.le_of_ble_eq_true rfl) (s_X12_within G  (fun r211 e211 => ?_))
          refine t_ifeq (t := 227) dX12_folds_214 (by decide) (fun h214 => ?_) (fun h214 => ?_)
          · refine n_iinc8 dX12_folds_227 (by decide) rfl (by omega) (fun r227 e227 => ?_)
            refine r_goto (t := 59) dX12_folds_230 (by decide) ?_
            have hzr119 : zcol L r119.toInt = [] := zcol_out (by omega)
            have hzr139 : zcol L r139.toInt = [] := zcol_out (by omega)
            refine ih _ (k + 1) f3_z _ _ _ (by omega) (by omega) hfr3 hlow3 hw3 (fun c hc_z => ?_) (by omega)
            rcases Nat.lt_or_ge c k with h9 | h9
            · exact hcs3 c h9
            · rw [show c = k by omega, hE]
              simpa [hzr119, hzr139, zturn_0] using hcu3
          · refine r_aloadR0 dX12_folds_217 ?_
            refine r_iload1 dX12_folds_218 ?_
            refine r_iload10 dX12_folds_219 ?_
            refine n_iconst dX12_folds_221 (by decide) (fun r221 e221 => ?_)
            refine r_iload8 dX12_folds_222 ?_
            refine q_callV4 zm_RX12_273 dX12_folds_224 (shM_k hs) (by decide) rfl (Nat.le_of_ble_eq_true rfl) (Nat.le_of_ble_eq_true rfl) (Nat.le_of_ble_eq_true rfl) (Nat.le_of_ble_eq_true rfl) (Nat.le_of_ble_eq_true rfl) (s_X12_puts (d := d) (c := r119.toInt.toNat) (t := k) (tr := true) (col := zcol L r119.toInt) (cur := []) G hs hx hd_z (by omega) (by omega) (Or.inl ⟨e221, rfl⟩) ht (by omega) (ctLi_col (ctLi_of hLi hL6 h6 hlow3) (by omega) (by omega)) hcu3 (by simp only [List.nil_append, List.length_append, List.length_nil, zturn_len]; omega) (fun p hp => hB_z p (zcol_mem hp)) (fun f224 hfq224 hcu224 hun224 => ?_))
            have hfr224 := frM_tr hfr3 hfq224
            have hlow224 : ∀ i, i < 43 * (d + 1) → f224 (A + 6) i = f (A + 6) i := fun i hi_z => (hun224 i (by omega)).trans (hlow3 i hi_z)
            have hw224 : (f224 (A + 6) (43 * (d + 1))).toInt = (lySpan L li : Nat) := by rw [hun224 _ (by omega)]; exact hw3
            have hcs224 : ∀ c, c < k → ctCo (f224 (A + 6)) (d + 1) c (lyFoldCol L li 2 c) := fun c hc_z => ctCo_of (hcs3 c hc_z) (hcl c hc_z) (hun224 _ (by omega)) (fun i hi_z => hun224 _ (by omega))
            simp only [if_true, Bool.false_eq_true, if_false] at hcu224
            refine n_iinc8 dX12_folds_227 (by decide) rfl (by omega) (fun r227 e227 => ?_)
            refine r_goto (t := 59) dX12_folds_230 (by decide) ?_
            have hzr139 : zcol L r139.toInt = [] := zcol_out (by omega)
            refine ih _ (k + 1) f224 _ _ _ (by omega) (by omega) hfr224 hlow224 hw224 (fun c hc_z => ?_) (by omega)
            rcases Nat.lt_or_ge c k with h9 | h9
            · exact hcs224 c h9
            · rw [show c = k by omega, hE]
              simpa [hzr139, zturn_0] using hcu224
        · refine r_aloadR0 dX12_folds_187 ?_
          refine r_iload1 dX12_folds_188 ?_
          refine r_iload11 dX12_folds_189 ?_
          refine n_iconst dX12_folds_191 (by decide) (fun r191 e191 => ?_)
          refine r_iload8 dX12_folds_192 ?_
          refine q_callV4 zm_RX12_273 dX12_folds_194 (shM_k hs) (by decide) rfl (Nat.le_of_ble_eq_true rfl) (Nat.le_of_ble_eq_true rfl) (Nat.le_of_ble_eq_true rfl) (Nat.le_of_ble_eq_true rfl) (Nat.le_of_ble_eq_true rfl) (s_X12_puts (d := d) (c := r139.toInt.toNat) (t := k) (tr := false) (col := zcol L r139.toInt) (cur := []) G hs hx hd_z (by omega) (by omega) (Or.inr ⟨e191, rfl⟩) ht (by omega) (ctLi_col (ctLi_of hLi hL6 h6 hlow3) (by omega) (by omega)) hcu3 (by simp only [List.nil_append, List.length_append, List.length_nil, zturn_len]; omega) (fun p hp => hB_z p (zcol_mem hp)) (fun f194 hfq194 hcu194 hun194 => ?_))
          have hfr194 := frM_tr hfr3 hfq194
          have hlow194 : ∀ i, i < 43 * (d + 1) → f194 (A + 6) i = f (A + 6) i := fun i hi_z => (hun194 i (by omega)).trans (hlow3 i hi_z)
          have hw194 : (f194 (A + 6) (43 * (d + 1))).toInt = (lySpan L li : Nat) := by rw [hun194 _ (by omega)]; exact hw3
          have hcs194 : ∀ c, c < k → ctCo (f194 (A + 6)) (d + 1) c (lyFoldCol L li 2 c) := fun c hc_z => ctCo_of (hcs3 c hc_z) (hcl c hc_z) (hun194 _ (by omega)) (fun i hi_z => hun194 _ (by omega))
          simp only [if_true, Bool.false_eq_true, if_false] at hcu194
          refine r_iload7 dX12_folds_197 ?_
          refine t_ifne (t := 227) dX12_folds_199 (by decide) (fun h199 => False.elim (by omega)) (fun h199 => ?_)
          refine r_iload10 dX12_folds_202 ?_
          refine n_i2l dX12_folds_204 (fun r204 e204 => ?_)
          refine n_lconst (q := 0) dX12_folds_205 rfl (by decide) (fun r205 e205 => ?_)
          refine r_iload4 dX12_folds_206 ?_
          refine n_iconst dX12_folds_208 (by decide) (fun r208 e208 => ?_)
          refine n_isub dX12_folds_209 (by omega) (fun r209 e209 => ?_)
          refine n_i2l dX12_folds_210 (fun r210 e210 => ?_)
          refine q_callS3 zm_RX12_138 dX12_folds_211 (Nat.le_of_ble_eq_true rfl) (Nat.le_of_ble_eq_true rfl) (Nat.le_of_ble_eq_true rfl) (Nat.le_of_ble_eq_true rfl) (Nat.le_of_ble_eq_true rfl) (s_X12_within G  (fun r211 e211 => ?_))
          refine t_ifeq (t := 227) dX12_folds_214 (by decide) (fun h214 => ?_) (fun h214 => ?_)
          · refine n_iinc8 dX12_folds_227 (by decide) rfl (by omega) (fun r227 e227 => ?_)
            refine r_goto (t := 59) dX12_folds_230 (by decide) ?_
            have hzr119 : zcol L r119.toInt = [] := zcol_out (by omega)
            refine ih _ (k + 1) f194 _ _ _ (by omega) (by omega) hfr194 hlow194 hw194 (fun c hc_z => ?_) (by omega)
            rcases Nat.lt_or_ge c k with h9 | h9
            · exact hcs194 c h9
            · rw [show c = k by omega, hE]
              simpa [hzr119, zturn_0] using hcu194
          · refine r_aloadR0 dX12_folds_217 ?_
            refine r_iload1 dX12_folds_218 ?_
            refine r_iload10 dX12_folds_219 ?_
            refine n_iconst dX12_folds_221 (by decide) (fun r221 e221 => ?_)
            refine r_iload8 dX12_folds_222 ?_
            refine q_callV4 zm_RX12_273 dX12_folds_224 (shM_k hs) (by decide) rfl (Nat.le_of_ble_eq_true rfl) (Nat.le_of_ble_eq_true rfl) (Nat.le_of_ble_eq_true rfl) (Nat.le_of_ble_eq_true rfl) (Nat.le_of_ble_eq_true rfl) (s_X12_puts (d := d) (c := r119.toInt.toNat) (t := k) (tr := true) (col := zcol L r119.toInt) (cur := ([] ++ zcol L r139.toInt)) G hs hx hd_z (by omega) (by omega) (Or.inl ⟨e221, rfl⟩) ht (by omega) (ctLi_col (ctLi_of hLi hL6 h6 hlow194) (by omega) (by omega)) hcu194 (by simp only [List.nil_append, List.length_append, List.length_nil, zturn_len]; omega) (fun p hp => hB_z p (zcol_mem hp)) (fun f224 hfq224 hcu224 hun224 => ?_))
            have hfr224 := frM_tr hfr194 hfq224
            have hlow224 : ∀ i, i < 43 * (d + 1) → f224 (A + 6) i = f (A + 6) i := fun i hi_z => (hun224 i (by omega)).trans (hlow194 i hi_z)
            have hw224 : (f224 (A + 6) (43 * (d + 1))).toInt = (lySpan L li : Nat) := by rw [hun224 _ (by omega)]; exact hw194
            have hcs224 : ∀ c, c < k → ctCo (f224 (A + 6)) (d + 1) c (lyFoldCol L li 2 c) := fun c hc_z => ctCo_of (hcs194 c hc_z) (hcl c hc_z) (hun224 _ (by omega)) (fun i hi_z => hun224 _ (by omega))
            simp only [if_true, Bool.false_eq_true, if_false] at hcu224
            refine n_iinc8 dX12_folds_227 (by decide) rfl (by omega) (fun r227 e227 => ?_)
            refine r_goto (t := 59) dX12_folds_230 (by decide) ?_
            refine ih _ (k + 1) f224 _ _ _ (by omega) (by omega) hfr224 hlow224 hw224 (fun c hc_z => ?_) (by omega)
            rcases Nat.lt_or_ge c k with h9 | h9
            · exact hcs224 c h9
            · rw [show c = k by omega, hE]
              simpa [zturn_0] using hcu224
      · refine r_iload8 dX12_folds_59 ?_
        refine r_iload5 dX12_folds_61 ?_
        refine t_icge (t := 233) dX12_folds_63 (by decide) (fun h63 => ?_) (fun h63 => False.elim (by omega))
        refine r_vret dX12_folds_233 rfl (Nat.le_of_ble_eq_true rfl) (Nat.le_of_ble_eq_true rfl) ?_
        refine hQ f2_z hfr ⟨by rw [lyFold_len]; exact hw, fun c col hcol => ?_⟩ hlow
        have hcl := (List.getElem?_eq_some_iff.mp hcol).1
        rw [lyFold_len] at hcl
        have e : col = lyFoldCol L li 2 c := by unfold lyFold at hcol; rw [List.getElem?_map, List.getElem?_range hcl] at hcol; exact (Option.some.inj hcol).symm
        rw [e]
        exact hcs c (by omega)
  exact lp (lySpan L li + 1) _ 0 _ _ _ _ (by omega) (by omega) (frM_zr frM_rf (by decide) (by decide) (by decide)) (fun i hi_z => by rw [zu_ni (by omega)]) (by rw [zu_at]; omega) (fun c hc_z => absurd hc_z (by omega)) (by omega)
set_option maxHeartbeats 4000000 in
set_option maxRecDepth 100000 in
theorem s_X12_folds3 {g : zGT} {w : zW} {f : Nat → Nat → Int32} {j : Nat → Nat → Int64} {A : Nat} {d li : Nat} {x y z : Int32} {L : zLy} {Q : Option Value → zW → Prop} {QX : String → zW → Prop} (G : zGok g) (hs : shM w A) (hx : x.toInt = (d : Nat)) (hd_z : d < 10) (hLi : ctLi (f (A + 6)) d L) (hL6 : L.length ≤ 6) (h6 : L.flatten.length ≤ 6) (hB_z : bdLay L) (hy : y.toInt = (li : Nat)) (hl1 : 1 ≤ li) (hl2 : li < L.length) (hz : z.toInt = 3) (hQ : ∀ f2_z, frM A [6] [] f f2_z → ctLi (f2_z (A + 6)) (d + 1) (lyFold L li 3) → (∀ i, i < 43 * (d + 1) → f2_z (A + 6) i = f (A + 6) i) → Q none (zM w f2_z j)) : zC g 3 yX12_folds cX12_folds 12 none [.ref A, .int x, .int y, .int z] (zM w f j) (0, 0) Q QX := by
  refine zC_of G (by decide +kernel) (Nat.le_of_ble_eq_true rfl) ?_
  have hsp : (lySpan L li : Int) = max (li : Int) ((L.length : Int) - li) := by unfold lySpan; omega
  have hs6 : lySpan L li ≤ 6 := by omega
  refine r_aloadR0 dX12_folds_0 ?_
  refine r_iload1 dX12_folds_1 ?_
  refine q_callV1 zm_RX12_256 dX12_folds_2 (shM_k hs) (by decide) rfl (Nat.le_of_ble_eq_true rfl) (Nat.le_of_ble_eq_true rfl) (Nat.le_of_ble_eq_true rfl) (Nat.le_of_ble_eq_true rfl) (Nat.le_of_ble_eq_true rfl) (s_X12_columnsAt G hs hx (by omega) hLi.1 (fun r2 e2_z => ?_))
  refine r_istore4 dX12_folds_5 rfl ?_
  refine r_iload2 dX12_folds_7 ?_
  refine r_iload4 dX12_folds_8 ?_
  refine r_iload2 dX12_folds_10 ?_
  refine n_isub dX12_folds_11 (by omega) (fun r11 e11_z => ?_)
  refine r_mmax zm_RX12_268 dX12_folds_12 (Nat.le_of_ble_eq_true rfl) (Nat.le_of_ble_eq_true rfl) (Nat.le_of_ble_eq_true rfl) (Nat.le_of_ble_eq_true rfl) (Nat.le_of_ble_eq_true rfl) (fun r12 e12_z => ?_)
  refine r_istore5 dX12_folds_15 rfl ?_
  refine r_iload3 dX12_folds_17 ?_
  refine n_iconst dX12_folds_18 (by decide) (fun r18 e18_z => ?_)
  refine t_icge (t := 26) dX12_folds_19 (by decide) (fun h19 => ?_) (fun h19 => False.elim (by omega))
  refine n_iconst dX12_folds_26 (by decide) (fun r26 e26_z => ?_)
  refine r_istore6 dX12_folds_27 rfl ?_
  refine r_iload3 dX12_folds_29 ?_
  refine n_iconst dX12_folds_30 (by decide) (fun r30 e30 => ?_)
  refine n_iremc (c := 2) dX12_folds_31 e30 (by decide) (by omega) (fun r31 e31_z => ?_)
  refine n_iconst dX12_folds_32 (by decide) (fun r32 e32 => ?_)
  refine t_icne (t := 40) dX12_folds_33 (by decide) (fun h33 => False.elim (by omega)) (fun h33 => ?_)
  refine n_iconst dX12_folds_36 (by decide) (fun r36 e36 => ?_)
  refine r_goto (t := 41) dX12_folds_37 (by decide) ?_
  refine r_istore7 dX12_folds_41 rfl ?_
  refine r_aloadR0 dX12_folds_43 ?_
  refine m_getR (q := (A + 6)) zf_RX12_30 rfl dX12_folds_44 (shM_k hs) (shM_p6 hs) ?_
  refine n_bipush dX12_folds_47 (by decide) (fun r47 e47 => ?_)
  refine r_iload1 dX12_folds_49 ?_
  refine n_iconst dX12_folds_50 (by decide) (fun r50 e50 => ?_)
  refine n_iadd dX12_folds_51 (by omega) (fun r51 e51 => ?_)
  refine n_imulc dX12_folds_52 e47 (by omega) (fun r52 e52 => ?_)
  refine r_iload5 dX12_folds_53 ?_
  refine m_iast (k := 43 * (d + 1)) dX12_folds_55 (shM_k6 hs) (shM_n6 hs) (by omega) (by omega) ?_
  refine n_iconst dX12_folds_56 (by decide) (fun r56 e56 => ?_)
  refine r_istore8 dX12_folds_57 rfl ?_
  have lp : ∀ (m : Nat) (t : Int32) (k : Nat) (f2_z : Nat → Nat → Int32) (v9_ : Option Value) (v10_ : Option Value) (v11_ : Option Value), t.toInt = (k : Nat) → k ≤ lySpan L li → frM A [6] [] f f2_z → (∀ i, i < 43 * (d + 1) → f2_z (A + 6) i = f (A + 6) i) → (f2_z (A + 6) (43 * (d + 1))).toInt = (lySpan L li : Nat) → (∀ c, c < k → ctCo (f2_z (A + 6)) (d + 1) c (lyFoldCol L li 3 c)) → lySpan L li - k < m → zR (zV g 3 yX12_folds 12 none (0, 0) Q QX) cX12_folds yX12_folds.cls 59 [some (.ref A), some (.int x), some (.int y), some (.int z), some (.int r2), some (.int r12), some (.int r26), some (.int r36), some (.int t), v9_, v10_, v11_] [] (zM w f2_z j) (0, 0) := by
    intro m
    induction m with
    | zero =>
      intro t k f2_z v9_ v10_ v11_ ht hk hfr hlow hw hcs hm_z
      exact absurd hm_z (Nat.not_lt_zero _)
    | succ m ih =>
      intro t k f2_z v9_ v10_ v11_ ht hk hfr hlow hw hcs hm_z
      rcases Nat.lt_or_ge k (lySpan L li) with hks | hks
      · have hcl : ∀ c, c < k → (lyFoldCol L li 3 c).length ≤ 6 := fun c hc_z => lyCol_le h6 (by omega) (by omega)
        have hck := lyCol_le (wy := 3) h6 (Nat.le_of_lt hl2) hks
        refine r_iload8 dX12_folds_59 ?_
        refine r_iload5 dX12_folds_61 ?_
        refine t_icge (t := 233) dX12_folds_63 (by decide) (fun h63 => False.elim (by omega)) (fun h63 => ?_)
        refine r_aloadR0 dX12_folds_66 ?_
        refine m_getR (q := (A + 6)) zf_RX12_30 rfl dX12_folds_67 (shM_k hs) (shM_p6 hs) ?_
        refine n_bipush dX12_folds_70 (by decide) (fun r70 e70 => ?_)
        refine r_iload1 dX12_folds_72 ?_
        refine n_iconst dX12_folds_73 (by decide) (fun r73 e73 => ?_)
        refine n_iadd dX12_folds_74 (by omega) (fun r74 e74_z => ?_)
        refine n_imulc dX12_folds_75 e70 (by omega) (fun r75 e75 => ?_)
        refine n_iconst dX12_folds_76 (by decide) (fun r76 e76 => ?_)
        refine n_iadd dX12_folds_77 (by omega) (fun r77 e77 => ?_)
        refine r_iload8 dX12_folds_78 ?_
        refine n_iadd dX12_folds_80 (by omega) (fun r80 e80 => ?_)
        refine n_iconst dX12_folds_81 (by decide) (fun r81 e81 => ?_)
        refine m_iast (k := 43 * (d + 1) + 1 + k) dX12_folds_82 (shM_k6 hs) (shM_n6 hs) (by omega) (by omega) ?_
        obtain ⟨f3_z, hf3⟩ : ∃ f3_z, f3_z = zu f2_z (A + 6) (43 * (d + 1) + 1 + k) r81 := ⟨_, rfl⟩
        rw [← hf3]
        have hfr3 : frM A [6] [] f f3_z := by rw [hf3]; exact frM_zr hfr (by decide) (by decide) (by decide)
        have hlow3 : ∀ i, i < 43 * (d + 1) → f3_z (A + 6) i = f (A + 6) i := fun i hi_z => by rw [hf3, zu_ni (by omega)]; exact hlow i hi_z
        have hw3 : (f3_z (A + 6) (43 * (d + 1))).toInt = (lySpan L li : Nat) := by rw [hf3, zu_ni (by omega)]; exact hw
        have hcs3 : ∀ c, c < k → ctCo (f3_z (A + 6)) (d + 1) c (lyFoldCol L li 3 c) := fun c hc_z => ctCo_of (hcs c hc_z) (hcl c hc_z) (by rw [hf3, zu_ni (by omega)]) (fun i hi_z => by rw [hf3, zu_ni (by omega)])
        have hcu3 : ctCo (f3_z (A + 6)) (d + 1) k [] := by rw [hf3]; exact ctCo_0 e81
        refine r_iload6 dX12_folds_83 ?_
        refine t_ifeq (t := 93) dX12_folds_85 (by decide) (fun h85 => ?_) (fun h85 => False.elim (by omega))
        refine r_iload5 dX12_folds_93 ?_
        refine n_iconst dX12_folds_95 (by decide) (fun r95 e95_z => ?_)
        refine n_isub dX12_folds_96 (by omega) (fun r96 e96 => ?_)
        refine r_iload8 dX12_folds_97 ?_
        refine n_isub dX12_folds_99 (by omega) (fun r99 e99_z => ?_)
        refine r_istore9 dX12_folds_100 rfl ?_
        refine r_iload6 dX12_folds_102 ?_
        refine t_ifeq (t := 116) dX12_folds_104 (by decide) (fun h104 => ?_) (fun h104 => False.elim (by omega))
        refine r_iload2 dX12_folds_116 ?_
        refine r_iload9 dX12_folds_117 ?_
        refine n_iadd dX12_folds_119 (by omega) (fun r119 e119 => ?_)
        refine r_istore10 dX12_folds_120 rfl ?_
        refine r_iload6 dX12_folds_122 ?_
        refine t_ifeq (t := 134) dX12_folds_124 (by decide) (fun h124 => ?_) (fun h124 => False.elim (by omega))
        refine r_iload2 dX12_folds_134 ?_
        refine n_iconst dX12_folds_135 (by decide) (fun r135 e135 => ?_)
        refine n_isub dX12_folds_136 (by omega) (fun r136 e136 => ?_)
        refine r_iload9 dX12_folds_137 ?_
        refine n_isub dX12_folds_139 (by omega) (fun r139 e139 => ?_)
        refine r_istore11 dX12_folds_140 rfl ?_
        have hE : lyFoldCol L li 3 k = zturn (zcol L r119.toInt) ++ zcol L r139.toInt := by
          rw [show r119.toInt = (li : Int) + ((lySpan L li : Int) - 1 - (k : Int)) by omega, show r139.toInt = (li : Int) - 1 - ((lySpan L li : Int) - 1 - (k : Int)) by omega]
          simp [lyFoldCol, lyFoldD]
        have hEl := hck
        rw [hE, List.length_append, zturn_len] at hEl
        refine r_iload7 dX12_folds_142 ?_
        refine t_ifeq (t := 172) dX12_folds_144 (by decide) (fun h144 => False.elim (by omega)) (fun h144 => ?_)
        refine r_iload10 dX12_folds_147 ?_
        refine n_i2l dX12_folds_149 (fun r149 e149 => ?_)
        refine n_lconst (q := 0) dX12_folds_150 rfl (by decide) (fun r150 e150 => ?_)
        refine r_iload4 dX12_folds_151 ?_
        refine n_iconst dX12_folds_153 (by decide) (fun r153 e153 => ?_)
        refine n_isub dX12_folds_154 (by omega) (fun r154 e154 => ?_)
        refine n_i2l dX12_folds_155 (fun r155 e155 => ?_)
        refine q_callS3 zm_RX12_138 dX12_folds_156 (Nat.le_of_ble_eq_true rfl) (Nat.le_of_ble_eq_true rfl) (Nat.le_of_ble_eq_true rfl) (Nat.le_of_ble_eq_true rfl) (Nat.le_of_ble_eq_true rfl) (s_X12_within G  (fun r156 e156 => ?_))
        refine t_ifeq (t := 172) dX12_folds_159 (by decide) (fun h159 => ?_) (fun h159 => ?_)
        · refine r_iload11 dX12_folds_172 ?_
          refine n_i2l dX12_folds_174 (fun r174 e174 => ?_)
          refine n_lconst (q := 0) dX12_folds_175 rfl (by decide) (fun r175 e175 => ?_)
          refine r_iload4 dX12_folds_176 ?_
          refine n_iconst dX12_folds_178 (by decide) (fun r178 e178 => ?_)
          refine n_isub dX12_folds_179 (by omega) (fun r179 e179 => ?_)
          refine n_i2l dX12_folds_180 (fun r180 e180 => ?_)
          refine q_callS3 zm_RX12_138 dX12_folds_181 (Nat.le_of_ble_eq_true rfl) (Nat.le_of_ble_eq_true rfl) (Nat.le_of_ble_eq_true rfl) (Nat.le_of_ble_eq_true rfl) (Nat.le_of_ble_eq_true rfl) (s_X12_within G  (fun r181 e181 => ?_))
          refine t_ifeq (t := 197) dX12_folds_184 (by decide) (fun h184 => ?_) (fun h184 => ?_)
          · refine r_iload7 dX12_folds_197 ?_
            refine t_ifne (t := 227) dX12_folds_199 (by decide) (fun h199 => ?_) (fun h199 => False.elim (by omega))
            refine n_iinc8 dX12_folds_227 (by decide) rfl (by omega) (fun r227 e227 => ?_)
            refine r_goto (t := 59) dX12_folds_230 (by decide) ?_
            have hzr119 : zcol L r119.toInt = [] := zcol_out (by omega)
            have hzr139 : zcol L r139.toInt = [] := zcol_out (by omega)
            refine ih _ (k + 1) f3_z _ _ _ (by omega) (by omega) hfr3 hlow3 hw3 (fun c hc_z => ?_) (by omega)
            rcases Nat.lt_or_ge c k with h9 | h9
            · exact hcs3 c h9
            · rw [show c = k by omega, hE]
              simpa [hzr119, hzr139, zturn_0] using hcu3
          · refine r_aloadR0 dX12_folds_187 ?_
            refine r_iload1 dX12_folds_188 ?_
            refine r_iload11 dX12_folds_189 ?_
            refine n_iconst dX12_folds_191 (by decide) (fun r191 e191 => ?_)
            refine r_iload8 dX12_folds_192 ?_
            refine q_callV4 zm_RX12_273 dX12_folds_194 (shM_k hs) (by decide) rfl (Nat.le_of_ble_eq_true rfl) (Nat.le_of_ble_eq_true rfl) (Nat.le_of_ble_eq_true rfl) (Nat.le_of_ble_eq_true rfl) (Nat.le_of_ble_eq_true rfl) (s_X12_puts (d := d) (c := r139.toInt.toNat) (t := k) (tr := false) (col := zcol L r139.toInt) (cur := []) G hs hx hd_z (by omega) (by omega) (Or.inr ⟨e191, rfl⟩) ht (by omega) (ctLi_col (ctLi_of hLi hL6 h6 hlow3) (by omega) (by omega)) hcu3 (by simp only [List.nil_append, List.length_append, List.length_nil, zturn_len]; omega) (fun p hp => hB_z p (zcol_mem hp)) (fun f194 hfq194 hcu194 hun194 => ?_))
            have hfr194 := frM_tr hfr3 hfq194
            have hlow194 : ∀ i, i < 43 * (d + 1) → f194 (A + 6) i = f (A + 6) i := fun i hi_z => (hun194 i (by omega)).trans (hlow3 i hi_z)
            have hw194 : (f194 (A + 6) (43 * (d + 1))).toInt = (lySpan L li : Nat) := by rw [hun194 _ (by omega)]; exact hw3
            have hcs194 : ∀ c, c < k → ctCo (f194 (A + 6)) (d + 1) c (lyFoldCol L li 3 c) := fun c hc_z => ctCo_of (hcs3 c hc_z) (hcl c hc_z) (hun194 _ (by omega)) (fun i hi_z => hun194 _ (by omega))
            simp only [if_true, Bool.false_eq_true, if_false] at hcu194
            refine r_iload7 dX12_folds_197 ?_
            refine t_ifne (t := 227) dX12_folds_199 (by decide) (fun h199 => ?_) (fun h199 => False.elim (by omega))
            refine n_iinc8 dX12_folds_227 (by decide) rfl (by omega) (fun r227 e227 => ?_)
            refine r_goto (t := 59) dX12_folds_230 (by decide) ?_
            have hzr119 : zcol L r119.toInt = [] := zcol_out (by omega)
            refine ih _ (k + 1) f194 _ _ _ (by omega) (by omega) hfr194 hlow194 hw194 (fun c hc_z => ?_) (by omega)
            rcases Nat.lt_or_ge c k with h9 | h9
            · exact hcs194 c h9
            · rw [show c = k by omega, hE]
              simpa [hzr119, zturn_0] using hcu194
        · refine r_aloadR0 dX12_folds_162 ?_
          refine r_iload1 dX12_folds_163 ?_
          refine r_iload10 dX12_folds_164 ?_
          refine n_iconst dX12_folds_166 (by decide) (fun r166 e166 => ?_)
          refine r_iload8 dX12_folds_167 ?_
          refine q_callV4 zm_RX12_273 dX12_folds_169 (shM_k hs) (by decide) rfl (Nat.le_of_ble_eq_true rfl) (Nat.le_of_ble_eq_true rfl) (Nat.le_of_ble_eq_true rfl) (Nat.le_of_ble_eq_true rfl) (Nat.le_of_ble_eq_true rfl) (s_X12_puts (d := d) (c := r119.toInt.toNat) (t := k) (tr := true) (col := zcol L r119.toInt) (cur := []) G hs hx hd_z (by omega) (by omega) (Or.inl ⟨e166, rfl⟩) ht (by omega) (ctLi_col (ctLi_of hLi hL6 h6 hlow3) (by omega) (by omega)) hcu3 (by simp only [List.nil_append, List.length_append, List.length_nil, zturn_len]; omega) (fun p hp => hB_z p (zcol_mem hp)) (fun f169 hfq169 hcu169 hun169 => ?_))
          have hfr169 := frM_tr hfr3 hfq169
          have hlow169 : ∀ i, i < 43 * (d + 1) → f169 (A + 6) i = f (A + 6) i := fun i hi_z => (hun169 i (by omega)).trans (hlow3 i hi_z)
          have hw169 : (f169 (A + 6) (43 * (d + 1))).toInt = (lySpan L li : Nat) := by rw [hun169 _ (by omega)]; exact hw3
          have hcs169 : ∀ c, c < k → ctCo (f169 (A + 6)) (d + 1) c (lyFoldCol L li 3 c) := fun c hc_z => ctCo_of (hcs3 c hc_z) (hcl c hc_z) (hun169 _ (by omega)) (fun i hi_z => hun169 _ (by omega))
          simp only [if_true, Bool.false_eq_true, if_false] at hcu169
          refine r_iload11 dX12_folds_172 ?_
          refine n_i2l dX12_folds_174 (fun r174 e174 => ?_)
          refine n_lconst (q := 0) dX12_folds_175 rfl (by decide) (fun r175 e175 => ?_)
          refine r_iload4 dX12_folds_176 ?_
          refine n_iconst dX12_folds_178 (by decide) (fun r178 e178 => ?_)
          refine n_isub dX12_folds_179 (by omega) (fun r179 e179 => ?_)
          refine n_i2l dX12_folds_180 (fun r180 e180 => ?_)
          refine q_callS3 zm_RX12_138 dX12_folds_181 (Nat.le_of_ble_eq_true rfl) (Nat.le_of_ble_eq_true rfl) (Nat.le_of_ble_eq_true rfl) (Nat.le_of_ble_eq_true rfl) (Nat.le_of_ble_eq_true rfl) (s_X12_within G  (fun r181 e181 => ?_))
          refine t_ifeq (t := 197) dX12_folds_184 (by decide) (fun h184 => ?_) (fun h184 => ?_)
          · refine r_iload7 dX12_folds_197 ?_
            refine t_ifne (t := 227) dX12_folds_199 (by decide) (fun h199 => ?_) (fun h199 => False.elim (by omega))
            refine n_iinc8 dX12_folds_227 (by decide) rfl (by omega) (fun r227 e227 => ?_)
            refine r_goto (t := 59) dX12_folds_230 (by decide) ?_
            have hzr139 : zcol L r139.toInt = [] := zcol_out (by omega)
            refine ih _ (k + 1) f169 _ _ _ (by omega) (by omega) hfr169 hlow169 hw169 (fun c hc_z => ?_) (by omega)
            rcases Nat.lt_or_ge c k with h9 | h9
            · exact hcs169 c h9
            · rw [show c = k by omega, hE]
              simpa [hzr139, zturn_0] using hcu169
          · refine r_aloadR0 dX12_folds_187 ?_
            refine r_iload1 dX12_folds_188 ?_
            refine r_iload11 dX12_folds_189 ?_
            refine n_iconst dX12_folds_191 (by decide) (fun r191 e191 => ?_)
            refine r_iload8 dX12_folds_192 ?_
            refine q_callV4 zm_RX12_273 dX12_folds_194 (shM_k hs) (by decide) rfl (Nat.le_of_ble_eq_true rfl) (Nat.le_of_ble_eq_true rfl) (Nat.le_of_ble_eq_true rfl) (Nat.le_of_ble_eq_true rfl) (Nat.le_of_ble_eq_true rfl) (s_X12_puts (d := d) (c := r139.toInt.toNat) (t := k) (tr := false) (col := zcol L r139.toInt) (cur := ([] ++ zturn (zcol L r119.toInt))) G hs hx hd_z (by omega) (by omega) (Or.inr ⟨e191, rfl⟩) ht (by omega) (ctLi_col (ctLi_of hLi hL6 h6 hlow169) (by omega) (by omega)) hcu169 (by simp only [List.nil_append, List.length_append, List.length_nil, zturn_len]; omega) (fun p hp => hB_z p (zcol_mem hp)) (fun f194 hfq194 hcu194 hun194 => ?_))
            have hfr194 := frM_tr hfr169 hfq194
            have hlow194 : ∀ i, i < 43 * (d + 1) → f194 (A + 6) i = f (A + 6) i := fun i hi_z => (hun194 i (by omega)).trans (hlow169 i hi_z)
            have hw194 : (f194 (A + 6) (43 * (d + 1))).toInt = (lySpan L li : Nat) := by rw [hun194 _ (by omega)]; exact hw169
            have hcs194 : ∀ c, c < k → ctCo (f194 (A + 6)) (d + 1) c (lyFoldCol L li 3 c) := fun c hc_z => ctCo_of (hcs169 c hc_z) (hcl c hc_z) (hun194 _ (by omega)) (fun i hi_z => hun194 _ (by omega))
            simp only [if_true, Bool.false_eq_true, if_false] at hcu194
            refine r_iload7 dX12_folds_197 ?_
            refine t_ifne (t := 227) dX12_folds_199 (by decide) (fun h199 => ?_) (fun h199 => False.elim (by omega))
            refine n_iinc8 dX12_folds_227 (by decide) rfl (by omega) (fun r227 e227 => ?_)
            refine r_goto (t := 59) dX12_folds_230 (by decide) ?_
            refine ih _ (k + 1) f194 _ _ _ (by omega) (by omega) hfr194 hlow194 hw194 (fun c hc_z => ?_) (by omega)
            rcases Nat.lt_or_ge c k with h9 | h9
            · exact hcs194 c h9
            · rw [show c = k by omega, hE]
              simpa [zturn_0] using hcu194
      · refine r_iload8 dX12_folds_59 ?_
        refine r_iload5 dX12_folds_61 ?_
        refine t_icge (t := 233) dX12_folds_63 (by decide) (fun h63 => ?_) (fun h63 => False.elim (by omega))
        refine r_vret dX12_folds_233 rfl (Nat.le_of_ble_eq_true rfl) (Nat.le_of_ble_eq_true rfl) ?_
        refine hQ f2_z hfr ⟨by rw [lyFold_len]; exact hw, fun c col hcol => ?_⟩ hlow
        have hcl := (List.getElem?_eq_some_iff.mp hcol).1
        rw [lyFold_len] at hcl
        have e : col = lyFoldCol L li 3 c := by unfold lyFold at hcol; rw [List.getElem?_map, List.getElem?_range hcl] at hcol; exact (Option.some.inj hcol).symm
        rw [e]
        exact hcs c (by omega)
  exact lp (lySpan L li + 1) _ 0 _ _ _ _ (by omega) (by omega) (frM_zr frM_rf (by decide) (by decide) (by decide)) (fun i hi_z => by rw [zu_ni (by omega)]) (by rw [zu_at]; omega) (fun c hc_z => absurd hc_z (by omega)) (by omega)
theorem s_X12_folds {g : zGT} {w : zW} {f : Nat → Nat → Int32} {j : Nat → Nat → Int64} {A : Nat} {d li wy : Nat} {x y z : Int32} {L : zLy} {Q : Option Value → zW → Prop} {QX : String → zW → Prop} (G : zGok g) (hs : shM w A) (hx : x.toInt = (d : Nat)) (hd_z : d < 10) (hLi : ctLi (f (A + 6)) d L) (hL6 : L.length ≤ 6) (h6 : L.flatten.length ≤ 6) (hB_z : bdLay L) (hy : y.toInt = (li : Nat)) (hl1 : 1 ≤ li) (hl2 : li < L.length) (hz : z.toInt = (wy : Nat)) (hw4 : wy < 4) (hQ : ∀ f2_z, frM A [6] [] f f2_z → ctLi (f2_z (A + 6)) (d + 1) (lyFold L li wy) → (∀ i, i < 43 * (d + 1) → f2_z (A + 6) i = f (A + 6) i) → Q none (zM w f2_z j)) : zC g 3 yX12_folds cX12_folds 12 none [.ref A, .int x, .int y, .int z] (zM w f j) (0, 0) Q QX := by
  match wy, hw4, hz, hQ with
  | 0, _, hz, hQ => exact s_X12_folds0 G hs hx hd_z hLi hL6 h6 hB_z hy hl1 hl2 hz hQ
  | 1, _, hz, hQ => exact s_X12_folds1 G hs hx hd_z hLi hL6 h6 hB_z hy hl1 hl2 hz hQ
  | 2, _, hz, hQ => exact s_X12_folds2 G hs hx hd_z hLi hL6 h6 hB_z hy hl1 hl2 hz hQ
  | 3, _, hz, hQ => exact s_X12_folds3 G hs hx hd_z hLi hL6 h6 hB_z hy hl1 hl2 hz hQ
  | n + 4, h_z, _, _ => exact absurd h_z (by omega)
theorem okF_at {n : Nat} {l : List Nat} {L : zLy} (h_z : okF n l L) {k d : Nat} (hk : l[k]? = some d) : 1 ≤ d / 10 ∧ d / 10 < ((l.take k).foldl (fun L d => lyFold L (d / 10) (d % 10)) L).length ∧ d % 10 < 4 := by
  induction l generalizing L k with
  | nil => simp at hk
  | cons e l ih =>
    cases k with
    | zero =>
      simp at hk
      subst hk
      exact h_z.1
    | succ k => exact ih h_z.2 (by simpa using hk)
theorem okF_take {n : Nat} {l : List Nat} {L : zLy} (h_z : okF n l L) (k : Nat) : okF n (l.take k) L := by
  induction l generalizing L k with
  | nil => rw [List.take_nil]; trivial
  | cons e l ih =>
    cases k with
    | zero => rw [List.take_zero]; trivial
    | succ k => rw [List.take_succ_cons]; exact ⟨h_z.1, ih h_z.2 k⟩
theorem layM_succ {n : Nat} {l : List Nat} {k d : Nat} (hk : l[k]? = some d) : layM n (l.take (k + 1)) = lyFold (layM n (l.take k)) (d / 10) (d % 10) := by
  unfold layM
  rw [take_snoc hk, List.foldl_append]
  rfl
theorem layM_rch {n : Nat} {l : List Nat} (h6 : n ≤ 6) (h_z : okF n l (lyFlat n)) (k : Nat) : rch n (layM n (l.take k)) := okF_rch (rch_flat h6) (okF_take h_z k)
set_option maxHeartbeats 4000000 in
set_option maxRecDepth 100000 in
theorem s_X12_laysNow {g : zGT} {w : zW} {f : Nat → Nat → Int32} {j : Nat → Nat → Int64} {A : Nat} {n : Nat} {l : List Nat} {Q : Option Value → zW → Prop} {QX : String → zW → Prop} (G : zGok g) (hs : shM w A) (hn : (f (A + 1) 1).toInt = (n : Nat)) (h6 : n ≤ 6) (hk0 : (f (A + 1) 7).toInt = (l.length : Nat)) (hkf : ∀ i d, l[i]? = some d → (f (A + 1) (8 + i)).toInt = (d : Nat)) (hl5 : l.length ≤ 5) (hok : okF n l (lyFlat n)) (hQ : ∀ (r : Int32) f2_z, r.toInt = (l.length : Nat) → frM A [6] [] f f2_z → ctLi (f2_z (A + 6)) l.length (layM n l) → Q (some (.int r)) (zM w f2_z j)) : zC g 4 yX12_laysNow cX12_laysNow 2 (some .int) [.ref A] (zM w f j) (0, 0) Q QX := by
  refine zC_of G (by decide +kernel) (Nat.le_of_ble_eq_true rfl) ?_
  have lp : ∀ (m : Nat) (c : Int32) (k : Nat) (f2_z : Nat → Nat → Int32), c.toInt = (k : Nat) → k ≤ l.length → frM A [6] [] f f2_z → ctLi (f2_z (A + 6)) k (layM n (l.take k)) → l.length - k < m → zR (zV g 4 yX12_laysNow 2 (some .int) (0, 0) Q QX) cX12_laysNow yX12_laysNow.cls 6 [some (.ref A), some (.int c)] [] (zM w f2_z j) (0, 0) := by
    intro m
    induction m with
    | zero =>
      intro c k f2_z hc_z hk hfr hli hm_z
      exact absurd hm_z (Nat.not_lt_zero _)
    | succ m ih =>
      intro c k f2_z hc_z hk hfr hli hm_z
      have hK_z : f2_z (A + 1) = f (A + 1) := hfr.2.1 1 (by decide) (by decide) (by decide)
      have hk2 : (f2_z (A + 1) 7).toInt = (l.length : Nat) := by rw [hK_z]; exact hk0
      rcases Nat.lt_or_ge k l.length with hkl | hkl
      · obtain ⟨d, hd_z⟩ : ∃ d, l[k]? = some d := ⟨_, List.getElem?_eq_getElem hkl⟩
        have hdv : (f2_z (A + 1) (8 + k)).toInt = (d : Nat) := by rw [hK_z]; exact hkf k d hd_z
        obtain ⟨v1_z, v2, v3⟩ := okF_at hok hd_z
        have hr := layM_rch h6 hok k
        have hcell := rch_cell hr
        refine r_iload1 dX12_laysNow_6 ?_
        refine r_aloadR0 dX12_laysNow_7 ?_
        refine m_getR (q := (A + 1)) zf_RX12_9 rfl dX12_laysNow_8 (shM_k hs) (shM_p1 hs) ?_
        refine n_bipush dX12_laysNow_11 (by decide) (fun r11 e11_z => ?_)
        refine m_iald (k := 7) (x := (f2_z (A + 1) 7)) dX12_laysNow_13 (shM_k1 hs) (shM_n1 hs) (by omega) (by omega) (rfl) ?_
        refine t_icge (t := 52) dX12_laysNow_14 (by decide) (fun h14 => False.elim (by omega)) (fun h14 => ?_)
        refine r_aloadR0 dX12_laysNow_17 ?_
        refine r_iload1 dX12_laysNow_18 ?_
        refine r_aloadR0 dX12_laysNow_19 ?_
        refine m_getR (q := (A + 1)) zf_RX12_9 rfl dX12_laysNow_20 (shM_k hs) (shM_p1 hs) ?_
        refine n_bipush dX12_laysNow_23 (by decide) (fun r23 e23_z => ?_)
        refine r_iload1 dX12_laysNow_25 ?_
        refine n_iadd dX12_laysNow_26 (by omega) (fun r26 e26_z => ?_)
        refine m_iald (k := 8 + k) (x := (f2_z (A + 1) (8 + k))) dX12_laysNow_27 (shM_k1 hs) (shM_n1 hs) (by omega) (by omega) (rfl) ?_
        refine n_bipush dX12_laysNow_28 (by decide) (fun r28 e28_z => ?_)
        refine n_idivc (c := 10) dX12_laysNow_30 e28_z (by decide) (by omega) (fun r30 e30 => ?_)
        refine r_aloadR0 dX12_laysNow_31 ?_
        refine m_getR (q := (A + 1)) zf_RX12_9 rfl dX12_laysNow_32 (shM_k hs) (shM_p1 hs) ?_
        refine n_bipush dX12_laysNow_35 (by decide) (fun r35 e35 => ?_)
        refine r_iload1 dX12_laysNow_37 ?_
        refine n_iadd dX12_laysNow_38 (by omega) (fun r38 e38 => ?_)
        refine m_iald (k := 8 + k) (x := (f2_z (A + 1) (8 + k))) dX12_laysNow_39 (shM_k1 hs) (shM_n1 hs) (by omega) (by omega) (rfl) ?_
        refine n_bipush dX12_laysNow_40 (by decide) (fun r40 e40 => ?_)
        refine n_iremc (c := 10) dX12_laysNow_42 e40 (by decide) (by omega) (fun r42 e42_z => ?_)
        refine q_callV3 zm_RX12_280 dX12_laysNow_43 (shM_k hs) (by decide) rfl (Nat.le_of_ble_eq_true rfl) (Nat.le_of_ble_eq_true rfl) (Nat.le_of_ble_eq_true rfl) (Nat.le_of_ble_eq_true rfl) (Nat.le_of_ble_eq_true rfl) (s_X12_folds (d := k) (li := d / 10) (wy := d % 10) (L := layM n (l.take k)) G hs hc_z (by omega) hli (by omega) (by omega) (rch_bd hr) (by omega) v1_z v2 (by omega) v3 (fun f3_z hfr3 hli3 hlow3 => ?_))
        refine n_iinc1 dX12_laysNow_46 (by decide) rfl (by omega) (fun r46 e46 => ?_)
        refine r_goto (t := 6) dX12_laysNow_49 (by decide) ?_
        exact ih _ (k + 1) f3_z (by omega) (by omega) (frM_tr hfr hfr3) (by rw [layM_succ hd_z]; exact hli3) (by omega)
      · refine r_iload1 dX12_laysNow_6 ?_
        refine r_aloadR0 dX12_laysNow_7 ?_
        refine m_getR (q := (A + 1)) zf_RX12_9 rfl dX12_laysNow_8 (shM_k hs) (shM_p1 hs) ?_
        refine n_bipush dX12_laysNow_11 (by decide) (fun r11 e11_z => ?_)
        refine m_iald (k := 7) (x := (f2_z (A + 1) 7)) dX12_laysNow_13 (shM_k1 hs) (shM_n1 hs) (by omega) (by omega) (rfl) ?_
        refine t_icge (t := 52) dX12_laysNow_14 (by decide) (fun h14 => ?_) (fun h14 => False.elim (by omega))
        refine r_aloadR0 dX12_laysNow_52 ?_
        refine m_getR (q := (A + 1)) zf_RX12_9 rfl dX12_laysNow_53 (shM_k hs) (shM_p1 hs) ?_
        refine n_bipush dX12_laysNow_56 (by decide) (fun r56 e56 => ?_)
        refine m_iald (k := 7) (x := (f2_z (A + 1) 7)) dX12_laysNow_58 (shM_k1 hs) (shM_n1 hs) (by omega) (by omega) (rfl) ?_
        refine r_iret dX12_laysNow_59 rfl (Nat.le_of_ble_eq_true rfl) (Nat.le_of_ble_eq_true rfl) ?_
        have e : l.take k = l := List.take_of_length_le hkl
        rw [e, show k = l.length by omega] at hli
        exact hQ _ f2_z hk2 hfr hli
  refine r_aloadR0 dX12_laysNow_0 ?_
  refine q_callV0 zm_RX12_277 dX12_laysNow_1 (shM_k hs) (by decide) rfl (Nat.le_of_ble_eq_true rfl) (Nat.le_of_ble_eq_true rfl) (Nat.le_of_ble_eq_true rfl) (Nat.le_of_ble_eq_true rfl) (Nat.le_of_ble_eq_true rfl) (s_X12_laysFlat G hs hn h6 (fun f1_z hfr1 hli1 => ?_))
  refine n_iconst dX12_laysNow_4 (by decide) (fun r4 e4_z => ?_)
  refine r_istore1 dX12_laysNow_5 rfl ?_
  exact lp (l.length + 1) _ 0 f1_z e4_z (by omega) hfr1 hli1 (by omega)
