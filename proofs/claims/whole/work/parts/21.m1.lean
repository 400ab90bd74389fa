/-! the reference: its small methods-/
set_option maxHeartbeats 4000000 in
set_option maxRecDepth 100000 in
theorem s_X12_thrown {g : zGT} {w : zW} {f : Nat → Nat → Int32} {j : Nat → Nat → Int64} {A : Nat} {Q : Option Value → zW → Prop} {QX : String → zW → Prop} (G : zGok g) (hs : shM w A) (hQ : ∀ r : Int32, r = f A 4 → Q (some (.int r)) (zM w f j)) : zC g 1 yX12_thrown cX12_thrown 1 (some .int) [.ref A] (zM w f j) (0, 0) Q QX := by
  refine zC_of G (by decide +kernel) (Nat.le_of_ble_eq_true rfl) ?_
  refine r_aloadR0 dX12_thrown_0 ?_
  refine m_getV (x := (f A 4)) zf_RX12_77 rfl dX12_thrown_1 (shM_k hs) (rfl) ?_
  refine r_iret dX12_thrown_4 rfl (Nat.le_of_ble_eq_true rfl) (Nat.le_of_ble_eq_true rfl) ?_
  exact hQ _ rfl
set_option maxHeartbeats 4000000 in
set_option maxRecDepth 100000 in
theorem s_X12_fails {g : zGT} {w : zW} {f : Nat → Nat → Int32} {j : Nat → Nat → Int64} {A : Nat} {x : Int32} {Q : Option Value → zW → Prop} {QX : String → zW → Prop} (G : zGok g) (hs : shM w A) (hQ : ∀ (r : Int32) f2_z, r.toInt = 0 → frM A [] [4] f f2_z → f2_z A 4 = x → Q (some (.int r)) (zM w f2_z j)) : zC g 1 yX12_fails cX12_fails 2 (some .int) [.ref A, .int x] (zM w f j) (0, 0) Q QX := by
  refine zC_of G (by decide +kernel) (Nat.le_of_ble_eq_true rfl) ?_
  refine r_aloadR0 dX12_fails_0 ?_
  refine r_iload1 dX12_fails_1 ?_
  refine m_putI zf_RX12_77 (by intro C T N h_z; cases h_z; rfl) rfl dX12_fails_2 (shM_k hs) ?_
  refine n_iconst dX12_fails_5 (by decide) (fun r5 e5_z => ?_)
  refine r_iret dX12_fails_6 rfl (Nat.le_of_ble_eq_true rfl) (Nat.le_of_ble_eq_true rfl) ?_
  exact hQ _ _ e5_z (frM_zk frM_rf (by decide)) zu_at
set_option maxHeartbeats 4000000 in
set_option maxRecDepth 100000 in
theorem s_X12_within {g : zGT} {w : zW} {f : Nat → Nat → Int32} {j : Nat → Nat → Int64} {v lo hi_z : Int64} {Q : Option Value → zW → Prop} {QX : String → zW → Prop} (G : zGok g)  (hQ : ∀ r : Int32, (r.toInt = 1 ∧ (lo.toInt ≤ v.toInt ∧ v.toInt ≤ hi_z.toInt) ∨ r.toInt = 0 ∧ ¬ (lo.toInt ≤ v.toInt ∧ v.toInt ≤ hi_z.toInt)) → Q (some (.int r)) (zM w f j)) : zC g 1 yX12_within cX12_within 6 (some .boolean) [.long v, .long lo, .long hi_z] (zM w f j) (0, 0) Q QX := by
  refine zC_of G (by decide +kernel) (Nat.le_of_ble_eq_true rfl) ?_
  refine r_lload0 dX12_within_0 ?_
  refine r_lload2 dX12_within_1 ?_
  refine n_lcmp dX12_within_2 (fun r2 e2_z => ?_)
  unfold zcmp at e2_z
  refine t_iflt (t := 17) dX12_within_3 (by decide) (fun h3 => ?_) (fun h3 => ?_)
  · refine n_iconst dX12_within_17 (by decide) (fun r17 e17_z => ?_)
    refine m_zret dX12_within_18 rfl (by omega) (Nat.le_of_ble_eq_true rfl) (Nat.le_of_ble_eq_true rfl) ?_
    exact hQ _ (by omega)
  · refine r_lload0 dX12_within_6 ?_
    refine r_lload4 dX12_within_7 ?_
    refine n_lcmp dX12_within_9 (fun r9 e9_z => ?_)
    unfold zcmp at e9_z
    refine t_ifgt (t := 17) dX12_within_10 (by decide) (fun h10 => ?_) (fun h10 => ?_)
    · refine n_iconst dX12_within_17 (by decide) (fun r17 e17_z => ?_)
      refine m_zret dX12_within_18 rfl (by omega) (Nat.le_of_ble_eq_true rfl) (Nat.le_of_ble_eq_true rfl) ?_
      exact hQ _ (by omega)
    · refine n_iconst dX12_within_13 (by decide) (fun r13 e13_z => ?_)
      refine r_goto (t := 18) dX12_within_14 (by decide) ?_
      refine m_zret dX12_within_18 rfl (by omega) (Nat.le_of_ble_eq_true rfl) (Nat.le_of_ble_eq_true rfl) ?_
      exact hQ _ (by omega)
set_option maxHeartbeats 4000000 in
set_option maxRecDepth 100000 in
theorem s_X12_isLetter {g : zGT} {w : zW} {f : Nat → Nat → Int32} {j : Nat → Nat → Int64} {c : Int32} {Q : Option Value → zW → Prop} {QX : String → zW → Prop} (G : zGok g)  (hQ : ∀ r : Int32, (r.toInt = 1 ∧ (97 ≤ c.toInt ∧ c.toInt ≤ 122) ∨ r.toInt = 0 ∧ ¬ (97 ≤ c.toInt ∧ c.toInt ≤ 122)) → Q (some (.int r)) (zM w f j)) : zC g 1 yX12_isLetter cX12_isLetter 1 (some .boolean) [.int c] (zM w f j) (0, 0) Q QX := by
  refine zC_of G (by decide +kernel) (Nat.le_of_ble_eq_true rfl) ?_
  refine r_iload0 dX12_isLetter_0 ?_
  refine n_bipush dX12_isLetter_1 (by decide) (fun r1 e1_z => ?_)
  refine t_iclt (t := 16) dX12_isLetter_3 (by decide) (fun h3 => ?_) (fun h3 => ?_)
  · refine n_iconst dX12_isLetter_16 (by decide) (fun r16 e16_z => ?_)
    refine m_zret dX12_isLetter_17 rfl (by omega) (Nat.le_of_ble_eq_true rfl) (Nat.le_of_ble_eq_true rfl) ?_
    exact hQ _ (by omega)
  · refine r_iload0 dX12_isLetter_6 ?_
    refine n_bipush dX12_isLetter_7 (by decide) (fun r7 e7_z => ?_)
    refine t_icgt (t := 16) dX12_isLetter_9 (by decide) (fun h9 => ?_) (fun h9 => ?_)
    · refine n_iconst dX12_isLetter_16 (by decide) (fun r16 e16_z => ?_)
      refine m_zret dX12_isLetter_17 rfl (by omega) (Nat.le_of_ble_eq_true rfl) (Nat.le_of_ble_eq_true rfl) ?_
      exact hQ _ (by omega)
    · refine n_iconst dX12_isLetter_12 (by decide) (fun r12 e12_z => ?_)
      refine r_goto (t := 17) dX12_isLetter_13 (by decide) ?_
      refine m_zret dX12_isLetter_17 rfl (by omega) (Nat.le_of_ble_eq_true rfl) (Nat.le_of_ble_eq_true rfl) ?_
      exact hQ _ (by omega)
set_option maxHeartbeats 4000000 in
set_option maxRecDepth 100000 in
theorem s_X12_isDigit {g : zGT} {w : zW} {f : Nat → Nat → Int32} {j : Nat → Nat → Int64} {c : Int32} {Q : Option Value → zW → Prop} {QX : String → zW → Prop} (G : zGok g)  (hQ : ∀ r : Int32, (r.toInt = 1 ∧ (48 ≤ c.toInt ∧ c.toInt ≤ 57) ∨ r.toInt = 0 ∧ ¬ (48 ≤ c.toInt ∧ c.toInt ≤ 57)) → Q (some (.int r)) (zM w f j)) : zC g 1 yX12_isDigit cX12_isDigit 1 (some .boolean) [.int c] (zM w f j) (0, 0) Q QX := by
  refine zC_of G (by decide +kernel) (Nat.le_of_ble_eq_true rfl) ?_
  refine r_iload0 dX12_isDigit_0 ?_
  refine n_bipush dX12_isDigit_1 (by decide) (fun r1 e1_z => ?_)
  refine t_iclt (t := 16) dX12_isDigit_3 (by decide) (fun h3 => ?_) (fun h3 => ?_)
  · refine n_iconst dX12_isDigit_16 (by decide) (fun r16 e16_z => ?_)
    refine m_zret dX12_isDigit_17 rfl (by omega) (Nat.le_of_ble_eq_true rfl) (Nat.le_of_ble_eq_true rfl) ?_
    exact hQ _ (by omega)
  · refine r_iload0 dX12_isDigit_6 ?_
    refine n_bipush dX12_isDigit_7 (by decide) (fun r7 e7_z => ?_)
    refine t_icgt (t := 16) dX12_isDigit_9 (by decide) (fun h9 => ?_) (fun h9 => ?_)
    · refine n_iconst dX12_isDigit_16 (by decide) (fun r16 e16_z => ?_)
      refine m_zret dX12_isDigit_17 rfl (by omega) (Nat.le_of_ble_eq_true rfl) (Nat.le_of_ble_eq_true rfl) ?_
      exact hQ _ (by omega)
    · refine n_iconst dX12_isDigit_12 (by decide) (fun r12 e12_z => ?_)
      refine r_goto (t := 17) dX12_isDigit_13 (by decide) ?_
      refine m_zret dX12_isDigit_17 rfl (by omega) (Nat.le_of_ble_eq_true rfl) (Nat.le_of_ble_eq_true rfl) ?_
      exact hQ _ (by omega)
set_option maxHeartbeats 4000000 in
set_option maxRecDepth 100000 in
theorem s_X12_isSignByte {g : zGT} {w : zW} {f : Nat → Nat → Int32} {j : Nat → Nat → Int64} {c : Int32} {Q : Option Value → zW → Prop} {QX : String → zW → Prop} (G : zGok g)  (hQ : ∀ r : Int32, (r.toInt = 1 ∧ (c.toInt = 91 ∨ c.toInt = 93 ∨ c.toInt = 61 ∨ c.toInt = 60 ∨ c.toInt = 62 ∨ c.toInt = 58 ∨ c.toInt = 59 ∨ c.toInt = 43 ∨ c.toInt = 45 ∨ c.toInt = 42 ∨ c.toInt = 40 ∨ c.toInt = 41) ∨ r.toInt = 0 ∧ ¬ (c.toInt = 91 ∨ c.toInt = 93 ∨ c.toInt = 61 ∨ c.toInt = 60 ∨ c.toInt = 62 ∨ c.toInt = 58 ∨ c.toInt = 59 ∨ c.toInt = 43 ∨ c.toInt = 45 ∨ c.toInt = 42 ∨ c.toInt = 40 ∨ c.toInt = 41)) → Q (some (.int r)) (zM w f j)) : zC g 1 yX12_isSignByte cX12_isSignByte 2 (some .boolean) [.int c] (zM w f j) (0, 0) Q QX := by
  refine zC_of G (by decide +kernel) (Nat.le_of_ble_eq_true rfl) ?_
  refine r_iload0 dX12_isSignByte_0 ?_
  refine n_bipush dX12_isSignByte_1 (by decide) (fun r1 e1_z => ?_)
  refine t_iceq (t := 36) dX12_isSignByte_3 (by decide) (fun h3 => ?_) (fun h3 => ?_)
  · first
    | (exfalso; omega)
    | (refine n_iconst dX12_isSignByte_36 (by decide) (fun r36 e36 => ?_)
       refine r_goto (t := 41) dX12_isSignByte_37 (by decide) ?_
       refine r_istore1 dX12_isSignByte_41 rfl ?_
       refine r_iload1 dX12_isSignByte_42 ?_
       refine t_ifne (t := 82) dX12_isSignByte_43 (by decide) (fun h43 => ?_) (fun h43 => ?_)
       · first
         | (exfalso; omega)
         | (refine n_iconst dX12_isSignByte_82 (by decide) (fun r82 e82 => ?_)
            refine r_goto (t := 87) dX12_isSignByte_83 (by decide) ?_
            refine m_zret dX12_isSignByte_87 rfl (by omega) (Nat.le_of_ble_eq_true rfl) (Nat.le_of_ble_eq_true rfl) ?_
            first
              | exact hQ _ (Or.inl ⟨by omega, by omega⟩)
              | exact hQ _ (Or.inr ⟨by omega, by omega⟩))
       · first
         | (exfalso; omega)
         | (refine r_iload0 dX12_isSignByte_46 ?_
            refine n_bipush dX12_isSignByte_47 (by decide) (fun r47 e47 => ?_)
            refine t_iceq (t := 82) dX12_isSignByte_49 (by decide) (fun h49 => ?_) (fun h49 => ?_)
            · first
              | (exfalso; omega)
              | (refine n_iconst dX12_isSignByte_82 (by decide) (fun r82 e82 => ?_)
                 refine r_goto (t := 87) dX12_isSignByte_83 (by decide) ?_
                 refine m_zret dX12_isSignByte_87 rfl (by omega) (Nat.le_of_ble_eq_true rfl) (Nat.le_of_ble_eq_true rfl) ?_
                 first
                   | exact hQ _ (Or.inl ⟨by omega, by omega⟩)
                   | exact hQ _ (Or.inr ⟨by omega, by omega⟩))
            · first
              | (exfalso; omega)
              | (refine r_iload0 dX12_isSignByte_52 ?_
                 refine n_bipush dX12_isSignByte_53 (by decide) (fun r53 e53 => ?_)
                 refine t_iceq (t := 82) dX12_isSignByte_55 (by decide) (fun h55 => ?_) (fun h55 => ?_)
                 · first
                   | (exfalso; omega)
                   | (refine n_iconst dX12_isSignByte_82 (by decide) (fun r82 e82 => ?_)
                      refine r_goto (t := 87) dX12_isSignByte_83 (by decide) ?_
                      refine m_zret dX12_isSignByte_87 rfl (by omega) (Nat.le_of_ble_eq_true rfl) (Nat.le_of_ble_eq_true rfl) ?_
                      first
                        | exact hQ _ (Or.inl ⟨by omega, by omega⟩)
                        | exact hQ _ (Or.inr ⟨by omega, by omega⟩))
                 · first
                   | (exfalso; omega)
                   | (refine r_iload0 dX12_isSignByte_58 ?_
                      refine n_bipush dX12_isSignByte_59 (by decide) (fun r59 e59 => ?_)
                      refine t_iceq (t := 82) dX12_isSignByte_61 (by decide) (fun h61 => ?_) (fun h61 => ?_)
                      · first
                        | (exfalso; omega)
                        | (refine n_iconst dX12_isSignByte_82 (by decide) (fun r82 e82 => ?_)
                           refine r_goto (t := 87) dX12_isSignByte_83 (by decide) ?_
                           refine m_zret dX12_isSignByte_87 rfl (by omega) (Nat.le_of_ble_eq_true rfl) (Nat.le_of_ble_eq_true rfl) ?_
                           first
                             | exact hQ _ (Or.inl ⟨by omega, by omega⟩)
                             | exact hQ _ (Or.inr ⟨by omega, by omega⟩))
                      · first
                        | (exfalso; omega)
                        | (refine r_iload0 dX12_isSignByte_64 ?_
                           refine n_bipush dX12_isSignByte_65 (by decide) (fun r65 e65 => ?_)
                           refine t_iceq (t := 82) dX12_isSignByte_67 (by decide) (fun h67 => ?_) (fun h67 => ?_)
                           · first
                             | (exfalso; omega)
                             | (refine n_iconst dX12_isSignByte_82 (by decide) (fun r82 e82 => ?_)
                                refine r_goto (t := 87) dX12_isSignByte_83 (by decide) ?_
                                refine m_zret dX12_isSignByte_87 rfl (by omega) (Nat.le_of_ble_eq_true rfl) (Nat.le_of_ble_eq_true rfl) ?_
                                first
                                  | exact hQ _ (Or.inl ⟨by omega, by omega⟩)
                                  | exact hQ _ (Or.inr ⟨by omega, by omega⟩))
                           · first
                             | (exfalso; omega)
                             | (refine r_iload0 dX12_isSignByte_70 ?_
                                refine n_bipush dX12_isSignByte_71 (by decide) (fun r71 e71_z => ?_)
                                refine t_iceq (t := 82) dX12_isSignByte_73 (by decide) (fun h73 => ?_) (fun h73 => ?_)
                                · first
                                  | (exfalso; omega)
                                  | (refine n_iconst dX12_isSignByte_82 (by decide) (fun r82 e82 => ?_)
                                     refine r_goto (t := 87) dX12_isSignByte_83 (by decide) ?_
                                     refine m_zret dX12_isSignByte_87 rfl (by omega) (Nat.le_of_ble_eq_true rfl) (Nat.le_of_ble_eq_true rfl) ?_
                                     first
                                       | exact hQ _ (Or.inl ⟨by omega, by omega⟩)
                                       | exact hQ _ (Or.inr ⟨by omega, by omega⟩))
                                · first
                                  | (exfalso; omega)
                                  | (refine r_iload0 dX12_isSignByte_76 ?_
                                     refine n_bipush dX12_isSignByte_77 (by decide) (fun r77 e77 => ?_)
                                     refine t_icne (t := 86) dX12_isSignByte_79 (by decide) (fun h79 => ?_) (fun h79 => ?_)
                                     · first
                                       | (exfalso; omega)
                                       | (refine n_iconst dX12_isSignByte_86 (by decide) (fun r86 e86 => ?_)
                                          refine m_zret dX12_isSignByte_87 rfl (by omega) (Nat.le_of_ble_eq_true rfl) (Nat.le_of_ble_eq_true rfl) ?_
                                          first
                                            | exact hQ _ (Or.inl ⟨by omega, by omega⟩)
                                            | exact hQ _ (Or.inr ⟨by omega, by omega⟩))
                                     · first
                                       | (exfalso; omega)
                                       | (refine n_iconst dX12_isSignByte_82 (by decide) (fun r82 e82 => ?_)
                                          refine r_goto (t := 87) dX12_isSignByte_83 (by decide) ?_
                                          refine m_zret dX12_isSignByte_87 rfl (by omega) (Nat.le_of_ble_eq_true rfl) (Nat.le_of_ble_eq_true rfl) ?_
                                          first
                                            | exact hQ _ (Or.inl ⟨by omega, by omega⟩)
                                            | exact hQ _ (Or.inr ⟨by omega, by omega⟩)))))))))
  · first
    | (exfalso; omega)
    | (refine r_iload0 dX12_isSignByte_6 ?_
       refine n_bipush dX12_isSignByte_7 (by decide) (fun r7 e7_z => ?_)
       refine t_iceq (t := 36) dX12_isSignByte_9 (by decide) (fun h9 => ?_) (fun h9 => ?_)
       · first
         | (exfalso; omega)
         | (refine n_iconst dX12_isSignByte_36 (by decide) (fun r36 e36 => ?_)
            refine r_goto (t := 41) dX12_isSignByte_37 (by decide) ?_
            refine r_istore1 dX12_isSignByte_41 rfl ?_
            refine r_iload1 dX12_isSignByte_42 ?_
            refine t_ifne (t := 82) dX12_isSignByte_43 (by decide) (fun h43 => ?_) (fun h43 => ?_)
            · first
              | (exfalso; omega)
              | (refine n_iconst dX12_isSignByte_82 (by decide) (fun r82 e82 => ?_)
                 refine r_goto (t := 87) dX12_isSignByte_83 (by decide) ?_
                 refine m_zret dX12_isSignByte_87 rfl (by omega) (Nat.le_of_ble_eq_true rfl) (Nat.le_of_ble_eq_true rfl) ?_
                 first
                   | exact hQ _ (Or.inl ⟨by omega, by omega⟩)
                   | exact hQ _ (Or.inr ⟨by omega, by omega⟩))
            · first
              | (exfalso; omega)
              | (refine r_iload0 dX12_isSignByte_46 ?_
                 refine n_bipush dX12_isSignByte_47 (by decide) (fun r47 e47 => ?_)
                 refine t_iceq (t := 82) dX12_isSignByte_49 (by decide) (fun h49 => ?_) (fun h49 => ?_)
                 · first
                   | (exfalso; omega)
                   | (refine n_iconst dX12_isSignByte_82 (by decide) (fun r82 e82 => ?_)
                      refine r_goto (t := 87) dX12_isSignByte_83 (by decide) ?_
                      refine m_zret dX12_isSignByte_87 rfl (by omega) (Nat.le_of_ble_eq_true rfl) (Nat.le_of_ble_eq_true rfl) ?_
                      first
                        | exact hQ _ (Or.inl ⟨by omega, by omega⟩)
                        | exact hQ _ (Or.inr ⟨by omega, by omega⟩))
                 · first
                   | (exfalso; omega)
                   | (refine r_iload0 dX12_isSignByte_52 ?_
                      refine n_bipush dX12_isSignByte_53 (by decide) (fun r53 e53 => ?_)
                      refine t_iceq (t := 82) dX12_isSignByte_55 (by decide) (fun h55 => ?_) (fun h55 => ?_)
                      · first
                        | (exfalso; omega)
                        | (refine n_iconst dX12_isSignByte_82 (by decide) (fun r82 e82 => ?_)
                           refine r_goto (t := 87) dX12_isSignByte_83 (by decide) ?_
                           refine m_zret dX12_isSignByte_87 rfl (by omega) (Nat.le_of_ble_eq_true rfl) (Nat.le_of_ble_eq_true rfl) ?_
                           first
                             | exact hQ _ (Or.inl ⟨by omega, by omega⟩)
                             | exact hQ _ (Or.inr ⟨by omega, by omega⟩))
                      · first
                        | (exfalso; omega)
                        | (refine r_iload0 dX12_isSignByte_58 ?_
                           refine n_bipush dX12_isSignByte_59 (by decide) (fun r59 e59 => ?_)
                           refine t_iceq (t := 82) dX12_isSignByte_61 (by decide) (fun h61 => ?_) (fun h61 => ?_)
                           · first
                             | (exfalso; omega)
                             | (refine n_iconst dX12_isSignByte_82 (by decide) (fun r82 e82 => ?_)
                                refine r_goto (t := 87) dX12_isSignByte_83 (by decide) ?_
                                refine m_zret dX12_isSignByte_87 rfl (by omega) (Nat.le_of_ble_eq_true rfl) (Nat.le_of_ble_eq_true rfl) ?_
                                first
                                  | exact hQ _ (Or.inl ⟨by omega, by omega⟩)
                                  | exact hQ _ (Or.inr ⟨by omega, by omega⟩))
                           · first
                             | (exfalso; omega)
                             | (refine r_iload0 dX12_isSignByte_64 ?_
                                refine n_bipush dX12_isSignByte_65 (by decide) (fun r65 e65 => ?_)
                                refine t_iceq (t := 82) dX12_isSignByte_67 (by decide) (fun h67 => ?_) (fun h67 => ?_)
                                · first
                                  | (exfalso; omega)
                                  | (refine n_iconst dX12_isSignByte_82 (by decide) (fun r82 e82 => ?_)
                                     refine r_goto (t := 87) dX12_isSignByte_83 (by decide) ?_
                                     refine m_zret dX12_isSignByte_87 rfl (by omega) (Nat.le_of_ble_eq_true rfl) (Nat.le_of_ble_eq_true rfl) ?_
                                     first
                                       | exact hQ _ (Or.inl ⟨by omega, by omega⟩)
                                       | exact hQ _ (Or.inr ⟨by omega, by omega⟩))
                                · first
                                  | (exfalso; omega)
                                  | (refine r_iload0 dX12_isSignByte_70 ?_
                                     refine n_bipush dX12_isSignByte_71 (by decide) (fun r71 e71_z => ?_)
                                     refine t_iceq (t := 82) dX12_isSignByte_73 (by decide) (fun h73 => ?_) (fun h73 => ?_)
                                     · first
                                       | (exfalso; omega)
                                       | (refine n_iconst dX12_isSignByte_82 (by decide) (fun r82 e82 => ?_)
                                          refine r_goto (t := 87) dX12_isSignByte_83 (by decide) ?_
                                          refine m_zret dX12_isSignByte_87 rfl (by omega) (Nat.le_of_ble_eq_true rfl) (Nat.le_of_ble_eq_true rfl) ?_
                                          first
                                            | exact hQ _ (Or.inl ⟨by omega, by omega⟩)
                                            | exact hQ _ (Or.inr ⟨by omega, by omega⟩))
                                     · first
                                       | (exfalso; omega)
                                       | (refine r_iload0 dX12_isSignByte_76 ?_
                                          refine n_bipush dX12_isSignByte_77 (by decide) (fun r77 e77 => ?_)
                                          refine t_icne (t := 86) dX12_isSignByte_79 (by decide) (fun h79 => ?_) (fun h79 => ?_)
                                          · first
                                            | (exfalso; omega)
                                            | (refine n_iconst dX12_isSignByte_86 (by decide) (fun r86 e86 => ?_)
                                               refine m_zret dX12_isSignByte_87 rfl (by omega) (Nat.le_of_ble_eq_true rfl) (Nat.le_of_ble_eq_true rfl) ?_
                                               first
                                                 | exact hQ _ (Or.inl ⟨by omega, by omega⟩)
                                                 | exact hQ _ (Or.inr ⟨by omega, by omega⟩))
                                          · first
                                            | (exfalso; omega)
                                            | (refine n_iconst dX12_isSignByte_82 (by decide) (fun r82 e82 => ?_)
                                               refine r_goto (t := 87) dX12_isSignByte_83 (by decide) ?_
                                               refine m_zret dX12_isSignByte_87 rfl (by omega) (Nat.le_of_ble_eq_true rfl) (Nat.le_of_ble_eq_true rfl) ?_
                                               first
                                                 | exact hQ _ (Or.inl ⟨by omega, by omega⟩)
                                                 | exact hQ _ (Or.inr ⟨by omega, by omega⟩)))))))))
       · first
         | (exfalso; omega)
         | (refine r_iload0 dX12_isSignByte_12 ?_
            refine n_bipush dX12_isSignByte_13 (by decide) (fun r13 e13_z => ?_)
            refine t_iceq (t := 36) dX12_isSignByte_15 (by decide) (fun h15 => ?_) (fun h15 => ?_)
            · first
              | (exfalso; omega)
              | (refine n_iconst dX12_isSignByte_36 (by decide) (fun r36 e36 => ?_)
                 refine r_goto (t := 41) dX12_isSignByte_37 (by decide) ?_
                 refine r_istore1 dX12_isSignByte_41 rfl ?_
                 refine r_iload1 dX12_isSignByte_42 ?_
                 refine t_ifne (t := 82) dX12_isSignByte_43 (by decide) (fun h43 => ?_) (fun h43 => ?_)
                 · first
                   | (exfalso; omega)
                   | (refine n_iconst dX12_isSignByte_82 (by decide) (fun r82 e82 => ?_)
                      refine r_goto (t := 87) dX12_isSignByte_83 (by decide) ?_
                      refine m_zret dX12_isSignByte_87 rfl (by omega) (Nat.le_of_ble_eq_true rfl) (Nat.le_of_ble_eq_true rfl) ?_
                      first
                        | exact hQ _ (Or.inl ⟨by omega, by omega⟩)
                        | exact hQ _ (Or.inr ⟨by omega, by omega⟩))
                 · first
                   | (exfalso; omega)
                   | (refine r_iload0 dX12_isSignByte_46 ?_
                      refine n_bipush dX12_isSignByte_47 (by decide) (fun r47 e47 => ?_)
                      refine t_iceq (t := 82) dX12_isSignByte_49 (by decide) (fun h49 => ?_) (fun h49 => ?_)
                      · first
                        | (exfalso; omega)
                        | (refine n_iconst dX12_isSignByte_82 (by decide) (fun r82 e82 => ?_)
                           refine r_goto (t := 87) dX12_isSignByte_83 (by decide) ?_
                           refine m_zret dX12_isSignByte_87 rfl (by omega) (Nat.le_of_ble_eq_true rfl) (Nat.le_of_ble_eq_true rfl) ?_
                           first
                             | exact hQ _ (Or.inl ⟨by omega, by omega⟩)
                             | exact hQ _ (Or.inr ⟨by omega, by omega⟩))
                      · first
                        | (exfalso; omega)
                        | (refine r_iload0 dX12_isSignByte_52 ?_
                           refine n_bipush dX12_isSignByte_53 (by decide) (fun r53 e53 => ?_)
                           refine t_iceq (t := 82) dX12_isSignByte_55 (by decide) (fun h55 => ?_) (fun h55 => ?_)
                           · first
                             | (exfalso; omega)
                             | (refine n_iconst dX12_isSignByte_82 (by decide) (fun r82 e82 => ?_)
                                refine r_goto (t := 87) dX12_isSignByte_83 (by decide) ?_
                                refine m_zret dX12_isSignByte_87 rfl (by omega) (Nat.le_of_ble_eq_true rfl) (Nat.le_of_ble_eq_true rfl) ?_
                                first
                                  | exact hQ _ (Or.inl ⟨by omega, by omega⟩)
                                  | exact hQ _ (Or.inr ⟨by omega, by omega⟩))
                           · first
                             | (exfalso; omega)
                             | (refine r_iload0 dX12_isSignByte_58 ?_
                                refine n_bipush dX12_isSignByte_59 (by decide) (fun r59 e59 => ?_)
                                refine t_iceq (t := 82) dX12_isSignByte_61 (by decide) (fun h61 => ?_) (fun h61 => ?_)
                                · first
                                  | (exfalso; omega)
                                  | (refine n_iconst dX12_isSignByte_82 (by decide) (fun r82 e82 => ?_)
                                     refine r_goto (t := 87) dX12_isSignByte_83 (by decide) ?_
                                     refine m_zret dX12_isSignByte_87 rfl (by omega) (Nat.le_of_ble_eq_true rfl) (Nat.le_of_ble_eq_true rfl) ?_
                                     first
                                       | exact hQ _ (Or.inl ⟨by omega, by omega⟩)
                                       | exact hQ _ (Or.inr ⟨by omega, by omega⟩))
                                · first
                                  | (exfalso; omega)
                                  | (refine r_iload0 dX12_isSignByte_64 ?_
                                     refine n_bipush dX12_isSignByte_65 (by decide) (fun r65 e65 => ?_)
                                     refine t_iceq (t := 82) dX12_isSignByte_67 (by decide) (fun h67 => ?_) (fun h67 => ?_)
                                     · first
                                       | (exfalso; omega)
                                       | (refine n_iconst dX12_isSignByte_82 (by decide) (fun r82 e82 => ?_)
                                          refine r_goto (t := 87) dX12_isSignByte_83 (by decide) ?_
                                          refine m_zret dX12_isSignByte_87 rfl (by omega) (Nat.le_of_ble_eq_true rfl) (Nat.le_of_ble_eq_true rfl) ?_
                                          first
                                            | exact hQ _ (Or.inl ⟨by omega, by omega⟩)
                                            | exact hQ _ (Or.inr ⟨by omega, by omega⟩))
                                     · first
                                       | (exfalso; omega)
                                       | (refine r_iload0 dX12_isSignByte_70 ?_
                                          refine n_bipush dX12_isSignByte_71 (by decide) (fun r71 e71_z => ?_)
                                          refine t_iceq (t := 82) dX12_isSignByte_73 (by decide) (fun h73 => ?_) (fun h73 => ?_)
                                          · first
                                            | (exfalso; omega)
                                            | (refine n_iconst dX12_isSignByte_82 (by decide) (fun r82 e82 => ?_)
                                               refine r_goto (t := 87) dX12_isSignByte_83 (by decide) ?_
                                               refine m_zret dX12_isSignByte_87 rfl (by omega) (Nat.le_of_ble_eq_true rfl) (Nat.le_of_ble_eq_true rfl) ?_
                                               first
                                                 | exact hQ _ (Or.inl ⟨by omega, by omega⟩)
                                                 | exact hQ _ (Or.inr ⟨by omega, by omega⟩))
                                          · first
                                            | (exfalso; omega)
                                            | (refine r_iload0 dX12_isSignByte_76 ?_
                                               refine n_bipush dX12_isSignByte_77 (by decide) (fun r77 e77 => ?_)
                                               refine t_icne (t := 86) dX12_isSignByte_79 (by decide) (fun h79 => ?_) (fun h79 => ?_)
                                               · first
                                                 | (exfalso; omega)
                                                 | (refine n_iconst dX12_isSignByte_86 (by decide) (fun r86 e86 => ?_)
                                                    refine m_zret dX12_isSignByte_87 rfl (by omega) (Nat.le_of_ble_eq_true rfl) (Nat.le_of_ble_eq_true rfl) ?_
                                                    first
                                                      | exact hQ _ (Or.inl ⟨by omega, by omega⟩)
                                                      | exact hQ _ (Or.inr ⟨by omega, by omega⟩))
                                               · first
                                                 | (exfalso; omega)
                                                 | (refine n_iconst dX12_isSignByte_82 (by decide) (fun r82 e82 => ?_)
                                                    refine r_goto (t := 87) dX12_isSignByte_83 (by decide) ?_
                                                    refine m_zret dX12_isSignByte_87 rfl (by omega) (Nat.le_of_ble_eq_true rfl) (Nat.le_of_ble_eq_true rfl) ?_
                                                    first
                                                      | exact hQ _ (Or.inl ⟨by omega, by omega⟩)
                                                      | exact hQ _ (Or.inr ⟨by omega, by omega⟩)))))))))
            · first
              | (exfalso; omega)
              | (refine r_iload0 dX12_isSignByte_18 ?_
                 refine n_bipush dX12_isSignByte_19 (by decide) (fun r19 e19_z => ?_)
                 refine t_iceq (t := 36) dX12_isSignByte_21 (by decide) (fun h21 => ?_) (fun h21 => ?_)
                 · first
                   | (exfalso; omega)
                   | (refine n_iconst dX12_isSignByte_36 (by decide) (fun r36 e36 => ?_)
                      refine r_goto (t := 41) dX12_isSignByte_37 (by decide) ?_
                      refine r_istore1 dX12_isSignByte_41 rfl ?_
                      refine r_iload1 dX12_isSignByte_42 ?_
                      refine t_ifne (t := 82) dX12_isSignByte_43 (by decide) (fun h43 => ?_) (fun h43 => ?_)
                      · first
                        | (exfalso; omega)
                        | (refine n_iconst dX12_isSignByte_82 (by decide) (fun r82 e82 => ?_)
                           refine r_goto (t := 87) dX12_isSignByte_83 (by decide) ?_
                           refine m_zret dX12_isSignByte_87 rfl (by omega) (Nat.le_of_ble_eq_true rfl) (Nat.le_of_ble_eq_true rfl) ?_
                           first
                             | exact hQ _ (Or.inl ⟨by omega, by omega⟩)
                             | exact hQ _ (Or.inr ⟨by omega, by omega⟩))
                      · first
                        | (exfalso; omega)
                        | (refine r_iload0 dX12_isSignByte_46 ?_
                           refine n_bipush dX12_isSignByte_47 (by decide) (fun r47 e47 => ?_)
                           refine t_iceq (t := 82) dX12_isSignByte_49 (by decide) (fun h49 => ?_) (fun h49 => ?_)
                           · first
                             | (exfalso; omega)
                             | (refine n_iconst dX12_isSignByte_82 (by decide) (fun r82 e82 => ?_)
                                refine r_goto (t := 87) dX12_isSignByte_83 (by decide) ?_
                                refine m_zret dX12_isSignByte_87 rfl (by omega) (Nat.le_of_ble_eq_true rfl) (Nat.le_of_ble_eq_true rfl) ?_
                                first
                                  | exact hQ _ (Or.inl ⟨by omega, by omega⟩)
                                  | exact hQ _ (Or.inr ⟨by omega, by omega⟩))
                           · first
                             | (exfalso; omega)
                             | (refine r_iload0 dX12_isSignByte_52 ?_
                                refine n_bipush dX12_isSignByte_53 (by decide) (fun r53 e53 => ?_)
                                refine t_iceq (t := 82) dX12_isSignByte_55 (by decide) (fun h55 => ?_) (fun h55 => ?_)
                                · first
                                  | (exfalso; omega)
                                  | (refine n_iconst dX12_isSignByte_82 (by decide) (fun r82 e82 => ?_)
                                     refine r_goto (t := 87) dX12_isSignByte_83 (by decide) ?_
                                     refine m_zret dX12_isSignByte_87 rfl (by omega) (Nat.le_of_ble_eq_true rfl) (Nat.le_of_ble_eq_true rfl) ?_
                                     first
                                       | exact hQ _ (Or.inl ⟨by omega, by omega⟩)
                                       | exact hQ _ (Or.inr ⟨by omega, by omega⟩))
                                · first
                                  | (exfalso; omega)
                                  | (refine r_iload0 dX12_isSignByte_58 ?_
                                     refine n_bipush dX12_isSignByte_59 (by decide) (fun r59 e59 => ?_)
                                     refine t_iceq (t := 82) dX12_isSignByte_61 (by decide) (fun h61 => ?_) (fun h61 => ?_)
                                     · first
                                       | (exfalso; omega)
                                       | (refine n_iconst dX12_isSignByte_82 (by decide) (fun r82 e82 => ?_)
                                          refine r_goto (t := 87) dX12_isSignByte_83 (by decide) ?_
                                          refine m_zret dX12_isSignByte_87 rfl (by omega) (Nat.le_of_ble_eq_true rfl) (Nat.le_of_ble_eq_true rfl) ?_
                                          first
                                            | exact hQ _ (Or.inl ⟨by omega, by omega⟩)
                                            | exact hQ _ (Or.inr ⟨by omega, by omega⟩))
                                     · first
                                       | (exfalso; omega)
                                       | (refine r_iload0 dX12_isSignByte_64 ?_
                                          refine n_bipush dX12_isSignByte_65 (by decide) (fun r65 e65 => ?_)
                                          refine t_iceq (t := 82) dX12_isSignByte_67 (by decide) (fun h67 => ?_) (fun h67 => ?_)
                                          · first
                                            | (exfalso; omega)
                                            | (refine n_iconst dX12_isSignByte_82 (by decide) (fun r82 e82 => ?_)
                                               refine r_goto (t := 87) dX12_isSignByte_83 (by decide) ?_
                                               refine m_zret dX12_isSignByte_87 rfl (by omega) (Nat.le_of_ble_eq_true rfl) (Nat.le_of_ble_eq_true rfl) ?_
                                               first
                                                 | exact hQ _ (Or.inl ⟨by omega, by omega⟩)
                                                 | exact hQ _ (Or.inr ⟨by omega, by omega⟩))
                                          · first
                                            | (exfalso; omega)
                                            | (refine r_iload0 dX12_isSignByte_70 ?_
                                               refine n_bipush dX12_isSignByte_71 (by decide) (fun r71 e71_z => ?_)
                                               refine t_iceq (t := 82) dX12_isSignByte_73 (by decide) (fun h73 => ?_) (fun h73 => ?_)
                                               · first
                                                 | (exfalso; omega)
                                                 | (refine n_iconst dX12_isSignByte_82 (by decide) (fun r82 e82 => ?_)
                                                    refine r_goto (t := 87) dX12_isSignByte_83 (by decide) ?_
                                                    refine m_zret dX12_isSignByte_87 rfl (by omega) (Nat.le_of_ble_eq_true rfl) (Nat.le_of_ble_eq_true rfl) ?_
                                                    first
                                                      | exact hQ _ (Or.inl ⟨by omega, by omega⟩)
                                                      | exact hQ _ (Or.inr ⟨by omega, by omega⟩))
                                               · first
                                                 | (exfalso; omega)
                                                 | (refine r_iload0 dX12_isSignByte_76 ?_
                                                    refine n_bipush dX12_isSignByte_77 (by decide) (fun r77 e77 => ?_)
                                                    refine t_icne (t := 86) dX12_isSignByte_79 (by decide) (fun h79 => ?_) (fun h79 => ?_)
                                                    · first
                                                      | (exfalso; omega)
                                                      | (refine n_iconst dX12_isSignByte_86 (by decide) (fun r86 e86 => ?_)
                                                         refine m_zret dX12_isSignByte_87 rfl (by omega) (Nat.le_of_ble_eq_true rfl) (Nat.le_of_ble_eq_true rfl) ?_
                                                         first
                                                           | exact hQ _ (Or.inl ⟨by omega, by omega⟩)
                                                           | exact hQ _ (Or.inr ⟨by omega, by omega⟩))
                                                    · first
                                                      | (exfalso; omega)
                                                      | (refine n_iconst dX12_isSignByte_82 (by decide) (fun r82 e82 => ?_)
                                                         refine r_goto (t := 87) dX12_isSignByte_83 (by decide) ?_
                                                         refine m_zret dX12_isSignByte_87 rfl (by omega) (Nat.le_of_ble_eq_true rfl) (Nat.le_of_ble_eq_true rfl) ?_
                                                         first
                                                           | exact hQ _ (Or.inl ⟨by omega, by omega⟩)
                                                           | exact hQ _ (Or.inr ⟨by omega, by omega⟩)))))))))
                 · first
                   | (exfalso; omega)
                   | (refine r_iload0 dX12_isSignByte_24 ?_
                      refine n_bipush dX12_isSignByte_25 (by decide) (fun r25 e25_z => ?_)
                      refine t_iceq (t := 36) dX12_isSignByte_27 (by decide) (fun h27 => ?_) (fun h27 => ?_)
                      · first
                        | (exfalso; omega)
                        | (refine n_iconst dX12_isSignByte_36 (by decide) (fun r36 e36 => ?_)
                           refine r_goto (t := 41) dX12_isSignByte_37 (by decide) ?_
                           refine r_istore1 dX12_isSignByte_41 rfl ?_
                           refine r_iload1 dX12_isSignByte_42 ?_
                           refine t_ifne (t := 82) dX12_isSignByte_43 (by decide) (fun h43 => ?_) (fun h43 => ?_)
                           · first
                             | (exfalso; omega)
                             | (refine n_iconst dX12_isSignByte_82 (by decide) (fun r82 e82 => ?_)
                                refine r_goto (t := 87) dX12_isSignByte_83 (by decide) ?_
                                refine m_zret dX12_isSignByte_87 rfl (by omega) (Nat.le_of_ble_eq_true rfl) (Nat.le_of_ble_eq_true rfl) ?_
                                first
                                  | exact hQ _ (Or.inl ⟨by omega, by omega⟩)
                                  | exact hQ _ (Or.inr ⟨by omega, by omega⟩))
                           · first
                             | (exfalso; omega)
                             | (refine r_iload0 dX12_isSignByte_46 ?_
                                refine n_bipush dX12_isSignByte_47 (by decide) (fun r47 e47 => ?_)
                                refine t_iceq (t := 82) dX12_isSignByte_49 (by decide) (fun h49 => ?_) (fun h49 => ?_)
                                · first
                                  | (exfalso; omega)
                                  | (refine n_iconst dX12_isSignByte_82 (by decide) (fun r82 e82 => ?_)
                                     refine r_goto (t := 87) dX12_isSignByte_83 (by decide) ?_
                                     refine m_zret dX12_isSignByte_87 rfl (by omega) (Nat.le_of_ble_eq_true rfl) (Nat.le_of_ble_eq_true rfl) ?_
                                     first
                                       | exact hQ _ (Or.inl ⟨by omega, by omega⟩)
                                       | exact hQ _ (Or.inr ⟨by omega, by omega⟩))
                                · first
                                  | (exfalso; omega)
                                  | (refine r_iload0 dX12_isSignByte_52 ?_
                                     refine n_bipush dX12_isSignByte_53 (by decide) (fun r53 e53 => ?_)
                                     refine t_iceq (t := 82) dX12_isSignByte_55 (by decide) (fun h55 => ?_) (fun h55 => ?_)
                                     · first
                                       | (exfalso; omega)
                                       | (refine n_iconst dX12_isSignByte_82 (by decide) (fun r82 e82 => ?_)
                                          refine r_goto (t := 87) dX12_isSignByte_83 (by decide) ?_
                                          refine m_zret dX12_isSignByte_87 rfl (by omega) (Nat.le_of_ble_eq_true rfl) (Nat.le_of_ble_eq_true rfl) ?_
                                          first
                                            | exact hQ _ (Or.inl ⟨by omega, by omega⟩)
                                            | exact hQ _ (Or.inr ⟨by omega, by omega⟩))
                                     · first
                                       | (exfalso; omega)
                                       | (refine r_iload0 dX12_isSignByte_58 ?_
                                          refine n_bipush dX12_isSignByte_59 (by decide) (fun r59 e59 => ?_)
                                          refine t_iceq (t := 82) dX12_isSignByte_61 (by decide) (fun h61 => ?_) (fun h61 => ?_)
                                          · first
                                            | (exfalso; omega)
                                            | (refine n_iconst dX12_isSignByte_82 (by decide) (fun r82 e82 => ?_)
                                               refine r_goto (t := 87) dX12_isSignByte_83 (by decide) ?_
                                               refine m_zret dX12_isSignByte_87 rfl (by omega) (Nat.le_of_ble_eq_true rfl) (Nat.le_of_ble_eq_true rfl) ?_
                                               first
                                                 | exact hQ _ (Or.inl ⟨by omega, by omega⟩)
                                                 | exact hQ _ (Or.inr ⟨by omega, by omega⟩))
                                          · first
                                            | (exfalso; omega)
                                            | (refine r_iload0 dX12_isSignByte_64 ?_
                                               refine n_bipush dX12_isSignByte_65 (by decide) (fun r65 e65 => ?_)
                                               refine t_iceq (t := 82) dX12_isSignByte_67 (by decide) (fun h67 => ?_) (fun h67 => ?_)
                                               · first
                                                 | (exfalso; omega)
                                                 | (refine n_iconst dX12_isSignByte_82 (by decide) (fun r82 e82 => ?_)
                                                    refine r_goto (t := 87) dX12_isSignByte_83 (by decide) ?_
                                                    refine m_zret dX12_isSignByte_87 rfl (by omega) (Nat.le_of_ble_eq_true rfl) (Nat.le_of_ble_eq_true rfl) ?_
                                                    first
                                                      | exact hQ _ (Or.inl ⟨by omega, by omega⟩)
                                                      | exact hQ _ (Or.inr ⟨by omega, by omega⟩))
                                               · first
                                                 | (exfalso; omega)
                                                 | (refine r_iload0 dX12_isSignByte_70 ?_
                                                    refine n_bipush dX12_isSignByte_71 (by decide) (fun r71 e71_z => ?_)
                                                    refine t_iceq (t := 82) dX12_isSignByte_73 (by decide) (fun h73 => ?_) (fun h73 => ?_)
                                                    · first
                                                      | (exfalso; omega)
                                                      | (refine n_iconst dX12_isSignByte_82 (by decide) (fun r82 e82 => ?_)
                                                         refine r_goto (t := 87) dX12_isSignByte_83 (by decide) ?_
                                                         refine m_zret dX12_isSignByte_87 rfl (by omega) (Nat.le_of_ble_eq_true rfl) (Nat.le_of_ble_eq_true rfl) ?_
                                                         first
                                                           | exact hQ _ (Or.inl ⟨by omega, by omega⟩)
                                                           | exact hQ _ (Or.inr ⟨by omega, by omega⟩))
                                                    · first
                                                      | (exfalso; omega)
                                                      | (refine r_iload0 dX12_isSignByte_76 ?_
                                                         refine n_bipush dX12_isSignByte_77 (by decide) (fun r77 e77 => ?_)
                                                         refine t_icne (t := 86) dX12_isSignByte_79 (by decide) (fun h79 => ?_) (fun h79 => ?_)
                                                         · first
                                                           | (exfalso; omega)
                                                           | (refine n_iconst dX12_isSignByte_86 (by decide) (fun r86 e86 => ?_)
                                                              refine m_zret dX12_isSignByte_87 rfl (by omega) (Nat.le_of_ble_eq_true rfl) (Nat.le_of_ble_eq_true rfl) ?_
                                                              first
                                                                | exact hQ _ (Or.inl ⟨by omega, by omega⟩)
                                                                | exact hQ _ (Or.inr ⟨by omega, by omega⟩))
                                                         · first
                                                           | (exfalso; omega)
                                                           | (refine n_iconst dX12_isSignByte_82 (by decide) (fun r82 e82 => ?_)
                                                              refine r_goto (t := 87) dX12_isSignByte_83 (by decide) ?_
                                                              refine m_zret dX12_isSignByte_87 rfl (by omega) (Nat.le_of_ble_eq_true rfl) (Nat.le_of_ble_eq_true rfl) ?_
                                                              first
                                                                | exact hQ _ (Or.inl ⟨by omega, by omega⟩)
                                                                | exact hQ _ (Or.inr ⟨by omega, by omega⟩)))))))))
                      · first
                        | (exfalso; omega)
                        | (refine r_iload0 dX12_isSignByte_30 ?_
                           refine n_bipush dX12_isSignByte_31 (by decide) (fun r31 e31_z => ?_)
                           refine t_icne (t := 40) dX12_isSignByte_33 (by decide) (fun h33 => ?_) (fun h33 => ?_)
                           · first
                             | (exfalso; omega)
                             | (refine n_iconst dX12_isSignByte_40 (by decide) (fun r40 e40 => ?_)
                                refine r_istore1 dX12_isSignByte_41 rfl ?_
                                refine r_iload1 dX12_isSignByte_42 ?_
                                refine t_ifne (t := 82) dX12_isSignByte_43 (by decide) (fun h43 => ?_) (fun h43 => ?_)
                                · first
                                  | (exfalso; omega)
                                  | (refine n_iconst dX12_isSignByte_82 (by decide) (fun r82 e82 => ?_)
                                     refine r_goto (t := 87) dX12_isSignByte_83 (by decide) ?_
                                     refine m_zret dX12_isSignByte_87 rfl (by omega) (Nat.le_of_ble_eq_true rfl) (Nat.le_of_ble_eq_true rfl) ?_
                                     first
                                       | exact hQ _ (Or.inl ⟨by omega, by omega⟩)
                                       | exact hQ _ (Or.inr ⟨by omega, by omega⟩))
                                · first
                                  | (exfalso; omega)
                                  | (refine r_iload0 dX12_isSignByte_46 ?_
                                     refine n_bipush dX12_isSignByte_47 (by decide) (fun r47 e47 => ?_)
                                     refine t_iceq (t := 82) dX12_isSignByte_49 (by decide) (fun h49 => ?_) (fun h49 => ?_)
                                     · first
                                       | (exfalso; omega)
                                       | (refine n_iconst dX12_isSignByte_82 (by decide) (fun r82 e82 => ?_)
                                          refine r_goto (t := 87) dX12_isSignByte_83 (by decide) ?_
                                          refine m_zret dX12_isSignByte_87 rfl (by omega) (Nat.le_of_ble_eq_true rfl) (Nat.le_of_ble_eq_true rfl) ?_
                                          first
                                            | exact hQ _ (Or.inl ⟨by omega, by omega⟩)
                                            | exact hQ _ (Or.inr ⟨by omega, by omega⟩))
                                     · first
                                       | (exfalso; omega)
                                       | (refine r_iload0 dX12_isSignByte_52 ?_
                                          refine n_bipush dX12_isSignByte_53 (by decide) (fun r53 e53 => ?_)
                                          refine t_iceq (t := 82) dX12_isSignByte_55 (by decide) (fun h55 => ?_) (fun h55 => ?_)
                                          · first
                                            | (exfalso; omega)
                                            | (refine n_iconst dX12_isSignByte_82 (by decide) (fun r82 e82 => ?_)
                                               refine r_goto (t := 87) dX12_isSignByte_83 (by decide) ?_
                                               refine m_zret dX12_isSignByte_87 rfl (by omega) (Nat.le_of_ble_eq_true rfl) (Nat.le_of_ble_eq_true rfl) ?_
                                               first
                                                 | exact hQ _ (Or.inl ⟨by omega, by omega⟩)
                                                 | exact hQ _ (Or.inr ⟨by omega, by omega⟩))
                                          · first
                                            | (exfalso; omega)
                                            | (refine r_iload0 dX12_isSignByte_58 ?_
                                               refine n_bipush dX12_isSignByte_59 (by decide) (fun r59 e59 => ?_)
                                               refine t_iceq (t := 82) dX12_isSignByte_61 (by decide) (fun h61 => ?_) (fun h61 => ?_)
                                               · first
                                                 | (exfalso; omega)
                                                 | (refine n_iconst dX12_isSignByte_82 (by decide) (fun r82 e82 => ?_)
                                                    refine r_goto (t := 87) dX12_isSignByte_83 (by decide) ?_
                                                    refine m_zret dX12_isSignByte_87 rfl (by omega) (Nat.le_of_ble_eq_true rfl) (Nat.le_of_ble_eq_true rfl) ?_
                                                    first
                                                      | exact hQ _ (Or.inl ⟨by omega, by omega⟩)
                                                      | exact hQ _ (Or.inr ⟨by omega, by omega⟩))
                                               · first
                                                 | (exfalso; omega)
                                                 | (refine r_iload0 dX12_isSignByte_64 ?_
                                                    refine n_bipush dX12_isSignByte_65 (by decide) (fun r65 e65 => ?_)
                                                    refine t_iceq (t := 82) dX12_isSignByte_67 (by decide) (fun h67 => ?_) (fun h67 => ?_)
                                                    · first
                                                      | (exfalso; omega)
                                                      | (refine n_iconst dX12_isSignByte_82 (by decide) (fun r82 e82 => ?_)
                                                         refine r_goto (t := 87) dX12_isSignByte_83 (by decide) ?_
                                                         refine m_zret dX12_isSignByte_87 rfl (by omega) (Nat.le_of_ble_eq_true rfl) (Nat.le_of_ble_eq_true rfl) ?_
                                                         first
                                                           | exact hQ _ (Or.inl ⟨by omega, by omega⟩)
                                                           | exact hQ _ (Or.inr ⟨by omega, by omega⟩))
                                                    · first
                                                      | (exfalso; omega)
                                                      | (refine r_iload0 dX12_isSignByte_70 ?_
                                                         refine n_bipush dX12_isSignByte_71 (by decide) (fun r71 e71_z => ?_)
                                                         refine t_iceq (t := 82) dX12_isSignByte_73 (by decide) (fun h73 => ?_) (fun h73 => ?_)
                                                         · first
                                                           | (exfalso; omega)
                                                           | (refine n_iconst dX12_isSignByte_82 (by decide) (fun r82 e82 => ?_)
                                                              refine r_goto (t := 87) dX12_isSignByte_83 (by decide) ?_
                                                              refine m_zret dX12_isSignByte_87 rfl (by omega) (Nat.le_of_ble_eq_true rfl) (Nat.le_of_ble_eq_true rfl) ?_
                                                              first
                                                                | exact hQ _ (Or.inl ⟨by omega, by omega⟩)
                                                                | exact hQ _ (Or.inr ⟨by omega, by omega⟩))
                                                         · first
                                                           | (exfalso; omega)
                                                           | (refine r_iload0 dX12_isSignByte_76 ?_
                                                              refine n_bipush dX12_isSignByte_77 (by decide) (fun r77 e77 => ?_)
                                                              refine t_icne (t := 86) dX12_isSignByte_79 (by decide) (fun h79 => ?_) (fun h79 => ?_)
                                                              · first
                                                                | (exfalso; omega)
                                                                | (refine n_iconst dX12_isSignByte_86 (by decide) (fun r86 e86 => ?_)
                                                                   refine m_zret dX12_isSignByte_87 rfl (by omega) (Nat.le_of_ble_eq_true rfl) (Nat.le_of_ble_eq_true rfl) ?_
                                                                   first
                                                                     | exact hQ _ (Or.inl ⟨by omega, by omega⟩)
                                                                     | exact hQ _ (Or.inr ⟨by omega, by omega⟩))
                                                              · first
                                                                | (exfalso; omega)
                                                                | (refine n_iconst dX12_isSignByte_82 (by decide) (fun r82 e82 => ?_)
                                                                   refine r_goto (t := 87) dX12_isSignByte_83 (by decide) ?_
                                                                   refine m_zret dX12_isSignByte_87 rfl (by omega) (Nat.le_of_ble_eq_true rfl) (Nat.le_of_ble_eq_true rfl) ?_
                                                                   first
                                                                     | exact hQ _ (Or.inl ⟨by omega, by omega⟩)
                                                                     | exact hQ _ (Or.inr ⟨by omega, by omega⟩)))))))))
                           · first
                             | (exfalso; omega)
                             | (refine n_iconst dX12_isSignByte_36 (by decide) (fun r36 e36 => ?_)
                                refine r_goto (t := 41) dX12_isSignByte_37 (by decide) ?_
                                refine r_istore1 dX12_isSignByte_41 rfl ?_
                                refine r_iload1 dX12_isSignByte_42 ?_
                                refine t_ifne (t := 82) dX12_isSignByte_43 (by decide) (fun h43 => ?_) (fun h43 => ?_)
                                · first
                                  | (exfalso; omega)
                                  | (refine n_iconst dX12_isSignByte_82 (by decide) (fun r82 e82 => ?_)
                                     refine r_goto (t := 87) dX12_isSignByte_83 (by decide) ?_
                                     refine m_zret dX12_isSignByte_87 rfl (by omega) (Nat.le_of_ble_eq_true rfl) (Nat.le_of_ble_eq_true rfl) ?_
                                     first
                                       | exact hQ _ (Or.inl ⟨by omega, by omega⟩)
                                       | exact hQ _ (Or.inr ⟨by omega, by omega⟩))
                                · first
                                  | (exfalso; omega)
                                  | (refine r_iload0 dX12_isSignByte_46 ?_
                                     refine n_bipush dX12_isSignByte_47 (by decide) (fun r47 e47 => ?_)
                                     refine t_iceq (t := 82) dX12_isSignByte_49 (by decide) (fun h49 => ?_) (fun h49 => ?_)
                                     · first
                                       | (exfalso; omega)
                                       | (refine n_iconst dX12_isSignByte_82 (by decide) (fun r82 e82 => ?_)
                                          refine r_goto (t := 87) dX12_isSignByte_83 (by decide) ?_
                                          refine m_zret dX12_isSignByte_87 rfl (by omega) (Nat.le_of_ble_eq_true rfl) (Nat.le_of_ble_eq_true rfl) ?_
                                          first
                                            | exact hQ _ (Or.inl ⟨by omega, by omega⟩)
                                            | exact hQ _ (Or.inr ⟨by omega, by omega⟩))
                                     · first
                                       | (exfalso; omega)
                                       | (refine r_iload0 dX12_isSignByte_52 ?_
                                          refine n_bipush dX12_isSignByte_53 (by decide) (fun r53 e53 => ?_)
                                          refine t_iceq (t := 82) dX12_isSignByte_55 (by decide) (fun h55 => ?_) (fun h55 => ?_)
                                          · first
                                            | (exfalso; omega)
                                            | (refine n_iconst dX12_isSignByte_82 (by decide) (fun r82 e82 => ?_)
                                               refine r_goto (t := 87) dX12_isSignByte_83 (by decide) ?_
                                               refine m_zret dX12_isSignByte_87 rfl (by omega) (Nat.le_of_ble_eq_true rfl) (Nat.le_of_ble_eq_true rfl) ?_
                                               first
                                                 | exact hQ _ (Or.inl ⟨by omega, by omega⟩)
                                                 | exact hQ _ (Or.inr ⟨by omega, by omega⟩))
                                          · first
                                            | (exfalso; omega)
                                            | (refine r_iload0 dX12_isSignByte_58 ?_
                                               refine n_bipush dX12_isSignByte_59 (by decide) (fun r59 e59 => ?_)
                                               refine t_iceq (t := 82) dX12_isSignByte_61 (by decide) (fun h61 => ?_) (fun h61 => ?_)
                                               · first
                                                 | (exfalso; omega)
                                                 | (refine n_iconst dX12_isSignByte_82 (by decide) (fun r82 e82 => ?_)
                                                    refine r_goto (t := 87) dX12_isSignByte_83 (by decide) ?_
                                                    refine m_zret dX12_isSignByte_87 rfl (by omega) (Nat.le_of_ble_eq_true rfl) (Nat.le_of_ble_eq_true rfl) ?_
                                                    first
                                                      | exact hQ _ (Or.inl ⟨by omega, by omega⟩)
                                                      | exact hQ _ (Or.inr ⟨by omega, by omega⟩))
                                               · first
                                                 | (exfalso; omega)
                                                 | (refine r_iload0 dX12_isSignByte_64 ?_
                                                    refine n_bipush dX12_isSignByte_65 (by decide) (fun r65 e65 => ?_)
                                                    refine t_iceq (t := 82) dX12_isSignByte_67 (by decide) (fun h67 => ?_) (fun h67 => ?_)
                                                    · first
                                                      | (exfalso; omega)
                                                      | (refine n_iconst dX12_isSignByte_82 (by decide) (fun r82 e82 => ?_)
                                                         refine r_goto (t := 87) dX12_isSignByte_83 (by decide) ?_
                                                         refine m_zret dX12_isSignByte_87 rfl (by omega) (Nat.le_of_ble_eq_true rfl) (Nat.le_of_ble_eq_true rfl) ?_
                                                         first
                                                           | exact hQ _ (Or.inl ⟨by omega, by omega⟩)
                                                           | exact hQ _ (Or.inr ⟨by omega, by omega⟩))
                                                    · first
                                                      | (exfalso; omega)
                                                      | (refine r_iload0 dX12_isSignByte_70 ?_
                                                         refine n_bipush dX12_isSignByte_71 (by decide) (fun r71 e71_z => ?_)
                                                         refine t_iceq (t := 82) dX12_isSignByte_73 (by decide) (fun h73 => ?_) (fun h73 => ?_)
                                                         · first
                                                           | (exfalso; omega)
                                                           | (refine n_iconst dX12_isSignByte_82 (by decide) (fun r82 e82 => ?_)
                                                              refine r_goto (t := 87) dX12_isSignByte_83 (by decide) ?_
                                                              refine m_zret dX12_isSignByte_87 rfl (by omega) (Nat.le_of_ble_eq_true rfl) (Nat.le_of_ble_eq_true rfl) ?_
                                                              first
                                                                | exact hQ _ (Or.inl ⟨by omega, by omega⟩)
                                                                | exact hQ _ (Or.inr ⟨by omega, by omega⟩))
                                                         · first
                                                           | (exfalso; omega)
                                                           | (refine r_iload0 dX12_isSignByte_76 ?_
                                                              refine n_bipush dX12_isSignByte_77 (by decide) (fun r77 e77 => ?_)
                                                              refine t_icne (t := 86) dX12_isSignByte_79 (by decide) (fun h79 => ?_) (fun h79 => ?_)
                                                              · first
                                                                | (exfalso; omega)
                                                                | (refine n_iconst dX12_isSignByte_86 (by decide) (fun r86 e86 => ?_)
                                                                   refine m_zret dX12_isSignByte_87 rfl (by omega) (Nat.le_of_ble_eq_true rfl) (Nat.le_of_ble_eq_true rfl) ?_
                                                                   first
                                                                     | exact hQ _ (Or.inl ⟨by omega, by omega⟩)
                                                                     | exact hQ _ (Or.inr ⟨by omega, by omega⟩))
                                                              · first
                                                                | (exfalso; omega)
                                                                | (refine n_iconst dX12_isSignByte_82 (by decide) (fun r82 e82 => ?_)
                                                                   refine r_goto (t := 87) dX12_isSignByte_83 (by decide) ?_
                                                                   refine m_zret dX12_isSignByte_87 rfl (by omega) (Nat.le_of_ble_eq_true rfl) (Nat.le_of_ble_eq_true rfl) ?_
                                                                   first
                                                                     | exact hQ _ (Or.inl ⟨by omega, by omega⟩)
                                                                     | exact hQ _ (Or.inr ⟨by omega, by omega⟩))))))))))))))
set_option maxHeartbeats 4000000 in
set_option maxRecDepth 100000 in
theorem s_X12_see {g : zGT} {w : zW} {f : Nat → Nat → Int32} {j : Nat → Nat → Int64} {A : Nat} {x : Int32} {k : Nat} {Q : Option Value → zW → Prop} {QX : String → zW → Prop} (G : zGok g) (hs : shM w A) (hx : x.toInt = (k : Nat)) (hl : (f A 7).toInt ≤ 900) (hQ : ∀ r : Int32, ((k : Int) < (f A 7).toInt ∧ r = f (A + 5) k ∨ (f A 7).toInt ≤ (k : Int) ∧ r.toInt = 0) → Q (some (.int r)) (zM w f j)) : zC g 1 yX12_see cX12_see 2 (some .int) [.ref A, .int x] (zM w f j) (0, 0) Q QX := by
  refine zC_of G (by decide +kernel) (Nat.le_of_ble_eq_true rfl) ?_
  refine r_iload1 dX12_see_0 ?_
  refine r_aloadR0 dX12_see_1 ?_
  refine m_getV (x := (f A 7)) zf_RX12_83 rfl dX12_see_2 (shM_k hs) (rfl) ?_
  refine t_icge (t := 17) dX12_see_5 (by decide) (fun h5 => ?_) (fun h5 => ?_)
  · refine n_iconst dX12_see_17 (by decide) (fun r17 e17_z => ?_)
    refine r_iret dX12_see_18 rfl (Nat.le_of_ble_eq_true rfl) (Nat.le_of_ble_eq_true rfl) ?_
    first
      | exact hQ _ (Or.inl ⟨by omega, rfl⟩)
      | exact hQ _ (Or.inr ⟨by omega, by omega⟩)
  · refine r_aloadR0 dX12_see_8 ?_
    refine m_getR (q := (A + 5)) zf_RX12_23 rfl dX12_see_9 (shM_k hs) (shM_p5 hs) ?_
    refine r_iload1 dX12_see_12 ?_
    refine m_iald (k := k) (x := (f (A + 5) k)) dX12_see_13 (shM_k5 hs) (shM_n5 hs) (by omega) (by omega) (rfl) ?_
    refine r_goto (t := 18) dX12_see_14 (by decide) ?_
    refine r_iret dX12_see_18 rfl (Nat.le_of_ble_eq_true rfl) (Nat.le_of_ble_eq_true rfl) ?_
    first
      | exact hQ _ (Or.inl ⟨by omega, rfl⟩)
      | exact hQ _ (Or.inr ⟨by omega, by omega⟩)
set_option maxHeartbeats 4000000 in
set_option maxRecDepth 100000 in
theorem s_X12_cells {g : zGT} {w : zW} {f : Nat → Nat → Int32} {j : Nat → Nat → Int64} {A : Nat} {n : Nat} {Q : Option Value → zW → Prop} {QX : String → zW → Prop} (G : zGok g) (hs : shM w A) (hn : (f (A + 1) 1).toInt = (n : Nat)) (hQ : ∀ r : Int32, r.toInt = (n : Nat) → Q (some (.int r)) (zM w f j)) : zC g 1 yX12_cells cX12_cells 1 (some .int) [.ref A] (zM w f j) (0, 0) Q QX := by
  refine zC_of G (by decide +kernel) (Nat.le_of_ble_eq_true rfl) ?_
  refine r_aloadR0 dX12_cells_0 ?_
  refine m_getR (q := (A + 1)) zf_RX12_9 rfl dX12_cells_1 (shM_k hs) (shM_p1 hs) ?_
  refine n_iconst dX12_cells_4 (by decide) (fun r4 e4_z => ?_)
  refine m_iald (k := 1) (x := (f (A + 1) 1)) dX12_cells_5 (shM_k1 hs) (shM_n1 hs) (by omega) (by omega) (rfl) ?_
  refine r_iret dX12_cells_6 rfl (Nat.le_of_ble_eq_true rfl) (Nat.le_of_ble_eq_true rfl) ?_
  exact hQ _ hn
set_option maxHeartbeats 4000000 in
set_option maxRecDepth 100000 in
theorem s_X12_isCell {g : zGT} {w : zW} {f : Nat → Nat → Int32} {j : Nat → Nat → Int64} {A : Nat} {n : Nat} {c : Int64} {Q : Option Value → zW → Prop} {QX : String → zW → Prop} (G : zGok g) (hs : shM w A) (hn : (f (A + 1) 1).toInt = (n : Nat)) (h6 : n ≤ 6) (hQ : ∀ r : Int32, (r.toInt = 1 ∧ (0 ≤ c.toInt ∧ c.toInt < (n : Nat)) ∨ r.toInt = 0 ∧ ¬ (0 ≤ c.toInt ∧ c.toInt < (n : Nat))) → Q (some (.int r)) (zM w f j)) : zC g 2 yX12_isCell cX12_isCell 3 (some .boolean) [.ref A, .long c] (zM w f j) (0, 0) Q QX := by
  refine zC_of G (by decide +kernel) (Nat.le_of_ble_eq_true rfl) ?_
  refine r_lload1 dX12_isCell_0 ?_
  refine n_lconst (q := 0) dX12_isCell_1 rfl (by decide) (fun r1 e1_z => ?_)
  refine r_aloadR0 dX12_isCell_2 ?_
  refine q_callV0 zm_RX12_253 dX12_isCell_3 (shM_k hs) (by decide) rfl (Nat.le_of_ble_eq_true rfl) (Nat.le_of_ble_eq_true rfl) (Nat.le_of_ble_eq_true rfl) (Nat.le_of_ble_eq_true rfl) (Nat.le_of_ble_eq_true rfl) (s_X12_cells G hs hn (fun r3 e3_z => ?_))
  refine n_iconst dX12_isCell_6 (by decide) (fun r6 e6_z => ?_)
  refine n_isub dX12_isCell_7 (by omega) (fun r7 e7_z => ?_)
  refine n_i2l dX12_isCell_8 (fun r8 e8 => ?_)
  refine q_callS3 zm_RX12_138 dX12_isCell_9 (Nat.le_of_ble_eq_true rfl) (Nat.le_of_ble_eq_true rfl) (Nat.le_of_ble_eq_true rfl) (Nat.le_of_ble_eq_true rfl) (Nat.le_of_ble_eq_true rfl) (s_X12_within G  (fun r9 e9_z => ?_))
  refine m_zret dX12_isCell_12 rfl (by omega) (Nat.le_of_ble_eq_true rfl) (Nat.le_of_ble_eq_true rfl) ?_
  exact hQ _ (by omega)
set_option maxHeartbeats 4000000 in
set_option maxRecDepth 100000 in
theorem s_X12_columnsAt {g : zGT} {w : zW} {f : Nat → Nat → Int32} {j : Nat → Nat → Int64} {A : Nat} {d v : Nat} {x : Int32} {Q : Option Value → zW → Prop} {QX : String → zW → Prop} (G : zGok g) (hs : shM w A) (hx : x.toInt = (d : Nat)) (hd_z : d < 11) (hv : (f (A + 6) (43 * d)).toInt = (v : Nat)) (hQ : ∀ r : Int32, r.toInt = (v : Nat) → Q (some (.int r)) (zM w f j)) : zC g 1 yX12_columnsAt cX12_columnsAt 2 (some .int) [.ref A, .int x] (zM w f j) (0, 0) Q QX := by
  refine zC_of G (by decide +kernel) (Nat.le_of_ble_eq_true rfl) ?_
  refine r_aloadR0 dX12_columnsAt_0 ?_
  refine m_getR (q := (A + 6)) zf_RX12_30 rfl dX12_columnsAt_1 (shM_k hs) (shM_p6 hs) ?_
  refine n_bipush dX12_columnsAt_4 (by decide) (fun r4 e4_z => ?_)
  refine r_iload1 dX12_columnsAt_6 ?_
  refine n_imulc dX12_columnsAt_7 e4_z (by omega) (fun r7 e7_z => ?_)
  refine m_iald (k := 43 * d) (x := (f (A + 6) (43 * d))) dX12_columnsAt_8 (shM_k6 hs) (shM_n6 hs) (by omega) (by omega) (rfl) ?_
  refine r_iret dX12_columnsAt_9 rfl (Nat.le_of_ble_eq_true rfl) (Nat.le_of_ble_eq_true rfl) ?_
  exact hQ _ hv
set_option maxHeartbeats 4000000 in
set_option maxRecDepth 100000 in
theorem s_X12_highAt {g : zGT} {w : zW} {f : Nat → Nat → Int32} {j : Nat → Nat → Int64} {A : Nat} {d c v : Nat} {x y : Int32} {Q : Option Value → zW → Prop} {QX : String → zW → Prop} (G : zGok g) (hs : shM w A) (hx : x.toInt = (d : Nat)) (hy : y.toInt = (c : Nat)) (hd_z : d < 11) (hc_z : c < 6) (hv : (f (A + 6) (43 * d + 1 + c)).toInt = (v : Nat)) (hQ : ∀ r : Int32, r.toInt = (v : Nat) → Q (some (.int r)) (zM w f j)) : zC g 1 yX12_highAt cX12_highAt 3 (some .int) [.ref A, .int x, .int y] (zM w f j) (0, 0) Q QX := by
  refine zC_of G (by decide +kernel) (Nat.le_of_ble_eq_true rfl) ?_
  refine r_aloadR0 dX12_highAt_0 ?_
  refine m_getR (q := (A + 6)) zf_RX12_30 rfl dX12_highAt_1 (shM_k hs) (shM_p6 hs) ?_
  refine n_bipush dX12_highAt_4 (by decide) (fun r4 e4_z => ?_)
  refine r_iload1 dX12_highAt_6 ?_
  refine n_imulc dX12_highAt_7 e4_z (by omega) (fun r7 e7_z => ?_)
  refine n_iconst dX12_highAt_8 (by decide) (fun r8 e8 => ?_)
  refine n_iadd dX12_highAt_9 (by omega) (fun r9 e9_z => ?_)
  refine r_iload2 dX12_highAt_10 ?_
  refine n_iadd dX12_highAt_11 (by omega) (fun r11 e11_z => ?_)
  refine m_iald (k := 43 * d + 1 + c) (x := (f (A + 6) (43 * d + 1 + c))) dX12_highAt_12 (shM_k6 hs) (shM_n6 hs) (by omega) (by omega) (rfl) ?_
  refine r_iret dX12_highAt_13 rfl (Nat.le_of_ble_eq_true rfl) (Nat.le_of_ble_eq_true rfl) ?_
  exact hQ _ hv
set_option maxHeartbeats 4000000 in
set_option maxRecDepth 100000 in
theorem s_X12_layerAt {g : zGT} {w : zW} {f : Nat → Nat → Int32} {j : Nat → Nat → Int64} {A : Nat} {d c i v : Nat} {x y z : Int32} {Q : Option Value → zW → Prop} {QX : String → zW → Prop} (G : zGok g) (hs : shM w A) (hx : x.toInt = (d : Nat)) (hy : y.toInt = (c : Nat)) (hz : z.toInt = (i : Nat)) (hd_z : d < 11) (hc_z : c < 6) (hi_z : i < 6) (hv : (f (A + 6) (43 * d + 7 + 6 * c + i)).toInt = (v : Nat)) (hQ : ∀ r : Int32, r.toInt = (v : Nat) → Q (some (.int r)) (zM w f j)) : zC g 1 yX12_layerAt cX12_layerAt 4 (some .int) [.ref A, .int x, .int y, .int z] (zM w f j) (0, 0) Q QX := by
  refine zC_of G (by decide +kernel) (Nat.le_of_ble_eq_true rfl) ?_
  refine r_aloadR0 dX12_layerAt_0 ?_
  refine m_getR (q := (A + 6)) zf_RX12_30 rfl dX12_layerAt_1 (shM_k hs) (shM_p6 hs) ?_
  refine n_bipush dX12_layerAt_4 (by decide) (fun r4 e4_z => ?_)
  refine r_iload1 dX12_layerAt_6 ?_
  refine n_imulc dX12_layerAt_7 e4_z (by omega) (fun r7 e7_z => ?_)
  refine n_bipush dX12_layerAt_8 (by decide) (fun r8 e8 => ?_)
  refine n_iadd dX12_layerAt_10 (by omega) (fun r10 e10_z => ?_)
  refine n_bipush dX12_layerAt_11 (by decide) (fun r11 e11_z => ?_)
  refine r_iload2 dX12_layerAt_13 ?_
  refine n_imulc dX12_layerAt_14 e11_z (by omega) (fun r14 e14_z => ?_)
  refine n_iadd dX12_layerAt_15 (by omega) (fun r15 e15_z => ?_)
  refine r_iload3 dX12_layerAt_16 ?_
  refine n_iadd dX12_layerAt_17 (by omega) (fun r17 e17_z => ?_)
  refine m_iald (k := 43 * d + 7 + 6 * c + i) (x := (f (A + 6) (43 * d + 7 + 6 * c + i))) dX12_layerAt_18 (shM_k6 hs) (shM_n6 hs) (by omega) (by omega) (rfl) ?_
  refine r_iret dX12_layerAt_19 rfl (Nat.le_of_ble_eq_true rfl) (Nat.le_of_ble_eq_true rfl) ?_
  exact hQ _ hv
def cdP (p : Nat × Bool) : Nat := 2 * p.1 + if p.2 then 1 else 0
/-- a column of a depth as the reference keeps it; all of them -/
def ctCo (l : Nat → Int32) (d c : Nat) (col : List (Nat × Bool)) : Prop := (l (43 * d + 1 + c)).toInt = (col.length : Nat) ∧ ∀ (k : Nat) (p : Nat × Bool), col[k]? = some p → (l (43 * d + 7 + 6 * c + k)).toInt = (cdP p : Nat)
def ctLi (l : Nat → Int32) (d : Nat) (L : zLy) : Prop := (l (43 * d)).toInt = (L.length : Nat) ∧ ∀ (c : Nat) (col : List (Nat × Bool)), L[c]? = some col → ctCo l d c col
theorem ctCo_of {l l2 : Nat → Int32} {d c : Nat} {col : List (Nat × Bool)} (h_z : ctCo l d c col) (h6 : col.length ≤ 6) (e0_z : l2 (43 * d + 1 + c) = l (43 * d + 1 + c)) (e : ∀ k, k < 6 → l2 (43 * d + 7 + 6 * c + k) = l (43 * d + 7 + 6 * c + k)) : ctCo l2 d c col := by
  refine ⟨by rw [e0_z]; exact h_z.1, fun k p hp => ?_⟩
  have := (List.getElem?_eq_some_iff.mp hp).1
  rw [e k (by omega)]
  exact h_z.2 k p hp
theorem ctCo_0 {f : Nat → Nat → Int32} {a d c : Nat} {x : Int32} (hx : x.toInt = 0) : ctCo (zu f a (43 * d + 1 + c) x a) d c [] := by
  refine ⟨by rw [zu_at, hx]; rfl, fun k p hp => by simp at hp⟩
theorem ctCo_add {f : Nat → Nat → Int32} {a d c : Nat} {x y : Int32} {col : List (Nat × Bool)} {p : Nat × Bool} (h_z : ctCo (f a) d c col) (h6 : col.length < 6) (hc_z : c < 6) (hx : x.toInt = (cdP p : Nat)) (hy : y.toInt = (col.length : Nat) + 1) : ctCo (zu (zu f a (43 * d + 7 + 6 * c + col.length) x) a (43 * d + 1 + c) y a) d c (col ++ [p]) := by
  refine ⟨by rw [zu_at, hy, List.length_append]; rfl, fun k q hq => ?_⟩
  rw [zu_ni (by omega), zu_s2]
  by_cases hk : k < col.length
  · rw [List.getElem?_append_left hk] at hq
    rw [if_neg (by omega)]
    exact h_z.2 k q hq
  · have e : k = col.length := by
      have := (List.getElem?_eq_some_iff.mp hq).1
      rw [List.length_append] at this
      simp at this
      omega
    subst e
    rw [List.getElem?_append_right (Nat.le_refl _), Nat.sub_self] at hq
    cases hq
    rw [if_pos rfl]
    exact hx
theorem ctLi_col {l : Nat → Int32} {d : Nat} {L : zLy} {i : Int} (h_z : ctLi l d L) (h0 : 0 ≤ i) (h1 : i < (L.length : Nat)) : ctCo l d i.toNat (zcol L i) := by
  obtain ⟨col, hcol⟩ : ∃ col, L[i.toNat]? = some col := ⟨_, List.getElem?_eq_getElem (by omega)⟩
  have := zcol_at hcol
  rw [show ((i.toNat : Nat) : Int) = i by omega] at this
  rw [this]
  exact h_z.2 _ _ hcol
theorem zcol_le {L : zLy} {c : Int} (h_z : L.flatten.length ≤ 6) : (zcol L c).length ≤ 6 := by
  have := zcol_bnd (L := L) (c := c)
  omega
theorem zcol_mem {L : zLy} {c : Int} {p : Nat × Bool} (h_z : p ∈ zcol L c) : p ∈ L.flatten := by
  unfold zcol at h_z
  split at h_z
  · rename_i hc_z
    rw [List.getD_eq_getElem?_getD, List.getElem?_eq_getElem (by omega)] at h_z
    exact List.mem_flatten.mpr ⟨_, List.getElem_mem _, h_z⟩
  · exact absurd h_z List.not_mem_nil
theorem xor1 : ∀ t, t < 12 → ∀ x : Int32, x = nI t → (x ^^^ 1).toInt = ((if t % 2 = 1 then t - 1 else t + 1 : Nat) : Int) := by
  intro t ht x hx
  subst hx
  revert t
  decide +kernel
theorem xor_cd {x y : Int32} {p : Nat × Bool} (h_z : x.toInt = (cdP p : Nat)) (hp : p.1 < 6) (hy : y.toInt = 1) : (x ^^^ y).toInt = (cdP (p.1, !p.2) : Nat) := by
  have hb_z : cdP p < 12 := by unfold cdP; split <;> omega
  rw [zi_eq.mpr (hy.trans zi_1.symm), xor1 (cdP p) hb_z x (zi_of h_z (by omega))]
  congr 1
  unfold cdP
  cases p.2 <;> simp <;> omega
set_option maxHeartbeats 4000000 in
set_option maxRecDepth 100000 in
theorem s_X12_laysFlat {g : zGT} {w : zW} {f : Nat → Nat → Int32} {j : Nat → Nat → Int64} {A : Nat} {n : Nat} {Q : Option Value → zW → Prop} {QX : String → zW → Prop} (G : zGok g) (hs : shM w A) (hn : (f (A + 1) 1).toInt = (n : Nat)) (h6 : n ≤ 6) (hQ : ∀ f2_z, frM A [6] [] f f2_z → ctLi (f2_z (A + 6)) 0 (lyFlat n) → Q none (zM w f2_z j)) : zC g 2 yX12_laysFlat cX12_laysFlat 2 none [.ref A] (zM w f j) (0, 0) Q QX := by
  refine zC_of G (by decide +kernel) (Nat.le_of_ble_eq_true rfl) ?_
  have lp : ∀ (m : Nat) (c : Int32) (k : Nat) (f2_z : Nat → Nat → Int32), c.toInt = (k : Nat) → k ≤ n → frM A [6] [] f f2_z → (f2_z (A + 6) 0).toInt = (n : Nat) → (∀ c2_z, c2_z < k → ctCo (f2_z (A + 6)) 0 c2_z [(c2_z, true)]) → n - k < m → zR (zV g 2 yX12_laysFlat 2 none (0, 0) Q QX) cX12_laysFlat yX12_laysFlat.cls 12 [some (.ref A), some (.int c)] [] (zM w f2_z j) (0, 0) := by
    intro m
    induction m with
    | zero =>
      intro c k f2_z hc_z hk hfr h0 hin hm_z
      exact absurd hm_z (Nat.not_lt_zero _)
    | succ m ih =>
      intro c k f2_z hc_z hk hfr h0 hin hm_z
      have hn2 : (f2_z (A + 1) 1).toInt = (n : Nat) := by rw [hfr.2.1 1 (by decide) (by decide) (by decide)]; exact hn
      refine r_iload1 dX12_laysFlat_12 ?_
      refine r_aloadR0 dX12_laysFlat_13 ?_
      refine q_callV0 zm_RX12_253 dX12_laysFlat_14 (shM_k hs) (by decide) rfl (Nat.le_of_ble_eq_true rfl) (Nat.le_of_ble_eq_true rfl) (Nat.le_of_ble_eq_true rfl) (Nat.le_of_ble_eq_true rfl) (Nat.le_of_ble_eq_true rfl) (s_X12_cells G hs hn2 (fun r14 e14_z => ?_))
      refine t_icge (t := 52) dX12_laysFlat_17 (by decide) (fun h17 => ?_) (fun h17 => ?_)
      · refine r_vret dX12_laysFlat_52 rfl (Nat.le_of_ble_eq_true rfl) (Nat.le_of_ble_eq_true rfl) ?_
        refine hQ f2_z hfr ⟨by rw [lyFlat_len]; exact h0, fun c2_z col hcol => ?_⟩
        have hc3 := (List.getElem?_eq_some_iff.mp hcol).1
        rw [lyFlat_len] at hc3
        have e : col = [(c2_z, true)] := by unfold lyFlat at hcol; rw [List.getElem?_map, List.getElem?_range hc3] at hcol; exact (Option.some.inj hcol).symm
        rw [e]
        exact hin c2_z (by omega)
      · refine r_aloadR0 dX12_laysFlat_20 ?_
        refine m_getR (q := (A + 6)) zf_RX12_30 rfl dX12_laysFlat_21 (shM_k hs) (shM_p6 hs) ?_
        refine n_iconst dX12_laysFlat_24 (by decide) (fun r24 e24_z => ?_)
        refine r_iload1 dX12_laysFlat_25 ?_
        refine n_iadd dX12_laysFlat_26 (by omega) (fun r26 e26_z => ?_)
        refine n_iconst dX12_laysFlat_27 (by decide) (fun r27 e27_z => ?_)
        refine m_iast (k := 43 * 0 + 1 + k) dX12_laysFlat_28 (shM_k6 hs) (shM_n6 hs) (by omega) (by omega) ?_
        refine r_aloadR0 dX12_laysFlat_29 ?_
        refine m_getR (q := (A + 6)) zf_RX12_30 rfl dX12_laysFlat_30 (shM_k hs) (shM_p6 hs) ?_
        refine n_bipush dX12_laysFlat_33 (by decide) (fun r33 e33_z => ?_)
        refine n_bipush dX12_laysFlat_35 (by decide) (fun r35 e35 => ?_)
        refine r_iload1 dX12_laysFlat_37 ?_
        refine n_imulc dX12_laysFlat_38 e35 (by omega) (fun r38 e38 => ?_)
        refine n_iadd dX12_laysFlat_39 (by omega) (fun r39 e39 => ?_)
        refine n_iconst dX12_laysFlat_40 (by decide) (fun r40 e40 => ?_)
        refine r_iload1 dX12_laysFlat_41 ?_
        refine n_imulc dX12_laysFlat_42 e40 (by omega) (fun r42 e42_z => ?_)
        refine n_iconst dX12_laysFlat_43 (by decide) (fun r43 e43 => ?_)
        refine n_iadd dX12_laysFlat_44 (by omega) (fun r44 e44 => ?_)
        refine m_iast (k := 43 * 0 + 7 + 6 * k + 0) dX12_laysFlat_45 (shM_k6 hs) (shM_n6 hs) (by omega) (by omega) ?_
        refine n_iinc1 dX12_laysFlat_46 (by decide) rfl (by omega) (fun r46 e46 => ?_)
        refine r_goto (t := 12) dX12_laysFlat_49 (by decide) ?_
        refine ih _ (k + 1) _ (by omega) (by omega) (frM_zr (frM_zr hfr (by decide) (by decide) (by decide)) (by decide) (by decide) (by decide)) ?_ (fun c2_z hc2 => ?_) (by omega)
        · rw [zu_ni (by omega), zu_ni (by omega)]; exact h0
        · by_cases he : c2_z = k
          · subst he
            refine ⟨?_, fun i p hp => ?_⟩
            · rw [zu_ni (by omega), zu_at, e27_z]; rfl
            · cases i with
              | zero => cases hp; rw [zu_at, e44]; unfold cdP; simp; omega
              | succ i => simp at hp
          · refine ctCo_of (hin c2_z (by omega)) (by simp) ?_ (fun i hi_z => ?_)
            · rw [zu_ni (by omega), zu_ni (by omega)]
            · rw [zu_ni (by omega), zu_ni (by omega)]
  refine r_aloadR0 dX12_laysFlat_0 ?_
  refine m_getR (q := (A + 6)) zf_RX12_30 rfl dX12_laysFlat_1 (shM_k hs) (shM_p6 hs) ?_
  refine n_iconst dX12_laysFlat_4 (by decide) (fun r4 e4_z => ?_)
  refine r_aloadR0 dX12_laysFlat_5 ?_
  refine q_callV0 zm_RX12_253 dX12_laysFlat_6 (shM_k hs) (by decide) rfl (Nat.le_of_ble_eq_true rfl) (Nat.le_of_ble_eq_true rfl) (Nat.le_of_ble_eq_true rfl) (Nat.le_of_ble_eq_true rfl) (Nat.le_of_ble_eq_true rfl) (s_X12_cells G hs hn (fun r6 e6_z => ?_))
  refine m_iast (k := 0) dX12_laysFlat_9 (shM_k6 hs) (shM_n6 hs) (by omega) (by omega) ?_
  refine n_iconst dX12_laysFlat_10 (by decide) (fun r10 e10_z => ?_)
  refine r_istore1 dX12_laysFlat_11 rfl ?_
  exact lp (n + 1) _ 0 _ (by omega) (by omega) (frM_zr frM_rf (by decide) (by decide) (by decide)) (by rw [zu_at]; omega) (fun c2_z h_z => absurd h_z (by omega)) (by omega)
set_option maxHeartbeats 4000000 in
set_option maxRecDepth 100000 in
theorem s_X12_isFold {g : zGT} {w : zW} {f : Nat → Nat → Int32} {j : Nat → Nat → Int64} {A : Nat} {d v : Nat} {x : Int32} {l y : Int64} {Q : Option Value → zW → Prop} {QX : String → zW → Prop} (G : zGok g) (hs : shM w A) (hx : x.toInt = (d : Nat)) (hd_z : d < 11) (hv : (f (A + 6) (43 * d)).toInt = (v : Nat)) (hv6 : v ≤ 6) (hQ : ∀ r : Int32, (r.toInt = 1 ∧ (1 ≤ l.toInt ∧ l.toInt < (v : Nat) ∧ 0 ≤ y.toInt ∧ y.toInt < 4) ∨ r.toInt = 0 ∧ ¬ (1 ≤ l.toInt ∧ l.toInt < (v : Nat) ∧ 0 ≤ y.toInt ∧ y.toInt < 4)) → Q (some (.int r)) (zM w f j)) : zC g 2 yX12_isFold cX12_isFold 6 (some .boolean) [.ref A, .int x, .long l, .long y] (zM w f j) (0, 0) Q QX := by
  refine zC_of G (by decide +kernel) (Nat.le_of_ble_eq_true rfl) ?_
  refine r_lload2 dX12_isFold_0 ?_
  refine n_lconst (q := 1) dX12_isFold_1 rfl (by decide) (fun r1 e1_z => ?_)
  refine r_aloadR0 dX12_isFold_2 ?_
  refine r_iload1 dX12_isFold_3 ?_
  refine q_callV1 zm_RX12_256 dX12_isFold_4 (shM_k hs) (by decide) rfl (Nat.le_of_ble_eq_true rfl) (Nat.le_of_ble_eq_true rfl) (Nat.le_of_ble_eq_true rfl) (Nat.le_of_ble_eq_true rfl) (Nat.le_of_ble_eq_true rfl) (s_X12_columnsAt G hs hx hd_z hv (fun r4 e4_z => ?_))
  refine n_iconst dX12_isFold_7 (by decide) (fun r7 e7_z => ?_)
  refine n_isub dX12_isFold_8 (by omega) (fun r8 e8 => ?_)
  refine n_i2l dX12_isFold_9 (fun r9 e9_z => ?_)
  refine q_callS3 zm_RX12_138 dX12_isFold_10 (Nat.le_of_ble_eq_true rfl) (Nat.le_of_ble_eq_true rfl) (Nat.le_of_ble_eq_true rfl) (Nat.le_of_ble_eq_true rfl) (Nat.le_of_ble_eq_true rfl) (s_X12_within G  (fun r10 e10_z => ?_))
  refine t_ifeq (t := 32) dX12_isFold_13 (by decide) (fun h13 => ?_) (fun h13 => ?_)
  · refine n_iconst dX12_isFold_32 (by decide) (fun r32 e32 => ?_)
    refine m_zret dX12_isFold_33 rfl (by omega) (Nat.le_of_ble_eq_true rfl) (Nat.le_of_ble_eq_true rfl) ?_
    exact hQ _ (by omega)
  · refine r_lload4 dX12_isFold_16 ?_
    refine n_lconst (q := 0) dX12_isFold_18 rfl (by decide) (fun r18 e18_z => ?_)
    refine n_ldc2 (n := 3) zk_RX12_259 dX12_isFold_19 (by decide) (fun r19 e19_z => ?_)
    refine q_callS3 zm_RX12_138 dX12_isFold_22 (Nat.le_of_ble_eq_true rfl) (Nat.le_of_ble_eq_true rfl) (Nat.le_of_ble_eq_true rfl) (Nat.le_of_ble_eq_true rfl) (Nat.le_of_ble_eq_true rfl) (s_X12_within G  (fun r22 e22_z => ?_))
    refine t_ifeq (t := 32) dX12_isFold_25 (by decide) (fun h25 => ?_) (fun h25 => ?_)
    · refine n_iconst dX12_isFold_32 (by decide) (fun r32 e32 => ?_)
      refine m_zret dX12_isFold_33 rfl (by omega) (Nat.le_of_ble_eq_true rfl) (Nat.le_of_ble_eq_true rfl) ?_
      exact hQ _ (by omega)
    · refine n_iconst dX12_isFold_28 (by decide) (fun r28 e28_z => ?_)
      refine r_goto (t := 33) dX12_isFold_29 (by decide) ?_
      refine m_zret dX12_isFold_33 rfl (by omega) (Nat.le_of_ble_eq_true rfl) (Nat.le_of_ble_eq_true rfl) ?_
      exact hQ _ (by omega)
set_option maxHeartbeats 4000000 in
set_option maxRecDepth 100000 in
theorem s_X12_puts {g : zGT} {w : zW} {f : Nat → Nat → Int32} {j : Nat → Nat → Int64} {A : Nat} {d c t : Nat} {x y z v : Int32} {tr : Bool} {col cur : List (Nat × Bool)} {Q : Option Value → zW → Prop} {QX : String → zW → Prop} (G : zGok g) (hs : shM w A) (hx : x.toInt = (d : Nat)) (hd_z : d < 10) (hy : y.toInt = (c : Nat)) (hc_z : c < 6) (hz : z.toInt = 1 ∧ tr = true ∨ z.toInt = 0 ∧ tr = false) (ht : v.toInt = (t : Nat)) (ht6 : t < 6) (hcol : ctCo (f (A + 6)) d c col) (hcur : ctCo (f (A + 6)) (d + 1) t cur) (hl : cur.length + col.length ≤ 6) (hB_z : ∀ p ∈ col, p.1 < 6) (hQ : ∀ f2_z, frM A [6] [] f f2_z → ctCo (f2_z (A + 6)) (d + 1) t (cur ++ (if tr then zturn col else col)) → (∀ i, ¬ (i = 43 * (d + 1) + 1 + t ∨ 43 * (d + 1) + 7 + 6 * t ≤ i ∧ i < 43 * (d + 1) + 7 + 6 * t + 6) → f2_z (A + 6) i = f (A + 6) i) → Q none (zM w f2_z j)) : zC g 2 yX12_puts cX12_puts 9 none [.ref A, .int x, .int y, .int z, .int v] (zM w f j) (0, 0) Q QX := by
  refine zC_of G (by decide +kernel) (Nat.le_of_ble_eq_true rfl) ?_
  have hXl : (if tr then zturn col else col).length = col.length := by cases tr; exact rfl; exact zturn_len
  generalize hX : (if tr then zturn col else col) = X at hQ hXl
  refine n_bipush dX12_puts_0 (by decide) (fun r0 e0_z => ?_)
  refine r_iload1 dX12_puts_2 ?_
  refine n_iconst dX12_puts_3 (by decide) (fun r3 e3_z => ?_)
  refine n_iadd dX12_puts_4 (by omega) (fun r4 e4_z => ?_)
  refine n_imulc dX12_puts_5 e0_z (by omega) (fun r5 e5_z => ?_)
  refine r_istore5 dX12_puts_6 rfl ?_
  refine r_aloadR0 dX12_puts_8 ?_
  refine r_iload1 dX12_puts_9 ?_
  refine r_iload2 dX12_puts_10 ?_
  refine q_callV2 zm_RX12_261 dX12_puts_11 (shM_k hs) (by decide) rfl (Nat.le_of_ble_eq_true rfl) (Nat.le_of_ble_eq_true rfl) (Nat.le_of_ble_eq_true rfl) (Nat.le_of_ble_eq_true rfl) (Nat.le_of_ble_eq_true rfl) (s_X12_highAt G hs hx hy (by omega) hc_z hcol.1 (fun r11 e11_z => ?_))
  refine r_istore6 dX12_puts_14 rfl ?_
  refine n_iconst dX12_puts_16 (by decide) (fun r16 e16_z => ?_)
  refine r_istore7 dX12_puts_17 rfl ?_
  have lp : ∀ (m : Nat) (q : Int32) (k : Nat) (f2_z : Nat → Nat → Int32) (v8_ : Option Value), q.toInt = (k : Nat) → k ≤ col.length → frM A [6] [] f f2_z → ctCo (f2_z (A + 6)) (d + 1) t (cur ++ X.take k) → (∀ i, ¬ (i = 43 * (d + 1) + 1 + t ∨ 43 * (d + 1) + 7 + 6 * t ≤ i ∧ i < 43 * (d + 1) + 7 + 6 * t + 6) → f2_z (A + 6) i = f (A + 6) i) → col.length - k < m → zR (zV g 2 yX12_puts 9 none (0, 0) Q QX) cX12_puts yX12_puts.cls 19 [some (.ref A), some (.int x), some (.int y), some (.int z), some (.int v), some (.int r5), some (.int r11), some (.int q), v8_] [] (zM w f2_z j) (0, 0) := by
    intro m
    induction m with
    | zero =>
      intro q k f2_z v8_ hk hkl hfr hcu hun hm_z
      exact absurd hm_z (Nat.not_lt_zero _)
    | succ m ih =>
      intro q k f2_z v8_ hk hkl hfr hcu hun hm_z
      have hln : (cur ++ X.take k).length = cur.length + k := by rw [List.length_append, List.length_take]; omega
      have hco2 : ctCo (f2_z (A + 6)) d c col := ctCo_of hcol (by omega) (hun _ (by omega)) (fun i hi_z => hun _ (by omega))
      have hhi := hcu.1
      rw [hln] at hhi
      rcases Nat.lt_or_ge k col.length with hkc | hkc
      · obtain ⟨p, hp⟩ : ∃ p, X[k]? = some p := ⟨_, List.getElem?_eq_getElem (by omega)⟩
        have htk : cur ++ X.take (k + 1) = (cur ++ X.take k) ++ [p] := by rw [take_snoc hp, List.append_assoc]
        rcases hz with ⟨hz1, hz2⟩ | ⟨hz1, hz2⟩
        · have hpc : ∃ q, col[col.length - 1 - k]? = some q := ⟨_, List.getElem?_eq_getElem (by omega)⟩
          obtain ⟨q, hq⟩ := hpc
          have hpq : p = (q.1, !q.2) := by rw [hz2] at hX; simp only [if_true] at hX; rw [← hX, zturn_get hkc hq] at hp; exact (Option.some.inj hp).symm
          have hq6 := hB_z q (List.mem_of_getElem? hq)
          have hqv := hco2.2 _ q hq
          refine r_iload7 dX12_puts_19 ?_
          refine r_iload6 dX12_puts_21 ?_
          refine t_icge (t := 111) dX12_puts_23 (by decide) (fun h23 => False.elim (by omega)) (fun h23 => ?_)
          refine r_iload3 dX12_puts_26 ?_
          refine t_ifeq (t := 48) dX12_puts_27 (by decide) (fun h27 => False.elim (by omega)) (fun h27 => ?_)
          refine r_aloadR0 dX12_puts_30 ?_
          refine r_iload1 dX12_puts_31 ?_
          refine r_iload2 dX12_puts_32 ?_
          refine r_iload6 dX12_puts_33 ?_
          refine n_iconst dX12_puts_35 (by decide) (fun r35 e35 => ?_)
          refine n_isub dX12_puts_36 (by omega) (fun r36 e36 => ?_)
          refine r_iload7 dX12_puts_37 ?_
          refine n_isub dX12_puts_39 (by omega) (fun r39 e39 => ?_)
          refine q_callV3 zm_RX12_264 dX12_puts_40 (shM_k hs) (by decide) rfl (Nat.le_of_ble_eq_true rfl) (Nat.le_of_ble_eq_true rfl) (Nat.le_of_ble_eq_true rfl) (Nat.le_of_ble_eq_true rfl) (Nat.le_of_ble_eq_true rfl) (s_X12_layerAt (d := d) (c := c) (i := col.length - 1 - k) G hs hx hy (by omega) (by omega) hc_z (by omega) hqv (fun r40 e40 => ?_))
          refine n_iconst dX12_puts_43 (by decide) (fun r43 e43 => ?_)
          refine r_ixor dX12_puts_44 ?_
          refine n_name (fun r44 e44 => ?_)
          have hrc : r44.toInt = (cdP p : Nat) := by rw [e44, hpq]; exact xor_cd e40 hq6 e43
          refine r_goto (t := 56) dX12_puts_45 (by decide) ?_
          refine r_istore8 dX12_puts_56 rfl ?_
          refine r_aloadR0 dX12_puts_58 ?_
          refine m_getR (q := (A + 6)) zf_RX12_30 rfl dX12_puts_59 (shM_k hs) (shM_p6 hs) ?_
          refine r_iload5 dX12_puts_62 ?_
          refine n_bipush dX12_puts_64 (by decide) (fun r64 e64 => ?_)
          refine n_iadd dX12_puts_66 (by omega) (fun r66 e66 => ?_)
          refine n_bipush dX12_puts_67 (by decide) (fun r67 e67 => ?_)
          refine r_iload4 dX12_puts_69 ?_
          refine n_imulc dX12_puts_71 e67 (by omega) (fun r71 e71_z => ?_)
          refine n_iadd dX12_puts_72 (by omega) (fun r72 e72_z => ?_)
          refine r_aloadR0 dX12_puts_73 ?_
          refine m_getR (q := (A + 6)) zf_RX12_30 rfl dX12_puts_74 (shM_k hs) (shM_p6 hs) ?_
          refine r_iload5 dX12_puts_77 ?_
          refine n_iconst dX12_puts_79 (by decide) (fun r79 e79 => ?_)
          refine n_iadd dX12_puts_80 (by omega) (fun r80 e80 => ?_)
          refine r_iload4 dX12_puts_81 ?_
          refine n_iadd dX12_puts_83 (by omega) (fun r83 e83 => ?_)
          refine m_iald (k := 43 * (d + 1) + 1 + t) (x := (f2_z (A + 6) (43 * (d + 1) + 1 + t))) dX12_puts_84 (shM_k6 hs) (shM_n6 hs) (by omega) (by omega) (rfl) ?_
          refine n_iadd dX12_puts_85 (by omega) (fun r85 e85 => ?_)
          refine r_iload8 dX12_puts_86 ?_
          refine m_iast (k := 43 * (d + 1) + 7 + 6 * t + (cur ++ X.take k).length) dX12_puts_88 (shM_k6 hs) (shM_n6 hs) (by omega) (by omega) ?_
          refine r_aloadR0 dX12_puts_89 ?_
          refine m_getR (q := (A + 6)) zf_RX12_30 rfl dX12_puts_90 (shM_k hs) (shM_p6 hs) ?_
          refine r_iload5 dX12_puts_93 ?_
          refine n_iconst dX12_puts_95 (by decide) (fun r95 e95_z => ?_)
          refine n_iadd dX12_puts_96 (by omega) (fun r96 e96 => ?_)
          refine r_iload4 dX12_puts_97 ?_
          refine n_iadd dX12_puts_99 (by omega) (fun r99 e99_z => ?_)
          refine r_dup2 dX12_puts_100 rfl rfl ?_
          refine m_iald (k := 43 * (d + 1) + 1 + t) (x := (f2_z (A + 6) (43 * (d + 1) + 1 + t))) dX12_puts_101 (shM_k6 hs) (shM_n6 hs) (by omega) (by omega) ((zu_nn (by omega)).trans (rfl)) ?_
          refine n_iconst dX12_puts_102 (by decide) (fun r102 e102_z => ?_)
          refine n_iadd dX12_puts_103 (by omega) (fun r103 e103_z => ?_)
          refine m_iast (k := 43 * (d + 1) + 1 + t) dX12_puts_104 (shM_k6 hs) (shM_n6 hs) (by omega) (by omega) ?_
          refine n_iinc7 dX12_puts_105 (by decide) rfl (by omega) (fun r105 e105 => ?_)
          refine r_goto (t := 19) dX12_puts_108 (by decide) ?_
          refine ih _ (k + 1) _ _ (by omega) (by omega) (frM_zr (frM_zr hfr (by decide) (by decide) (by decide)) (by decide) (by decide) (by decide)) ?_ (fun i hi_z => ?_) (by omega)
          · rw [htk]; exact ctCo_add hcu (by omega) ht6 hrc (by omega)
          · rw [zu_ni (by omega), zu_ni (by omega)]; exact hun i hi_z
        · have hq : col[k]? = some p := by rw [hz2] at hX; simp only [Bool.false_eq_true, if_false] at hX; rw [hX]; exact hp
          have hqv := hco2.2 _ p hq
          refine r_iload7 dX12_puts_19 ?_
          refine r_iload6 dX12_puts_21 ?_
          refine t_icge (t := 111) dX12_puts_23 (by decide) (fun h23 => False.elim (by omega)) (fun h23 => ?_)
          refine r_iload3 dX12_puts_26 ?_
          refine t_ifeq (t := 48) dX12_puts_27 (by decide) (fun h27 => ?_) (fun h27 => False.elim (by omega))
          refine r_aloadR0 dX12_puts_48 ?_
          refine r_iload1 dX12_puts_49 ?_
          refine r_iload2 dX12_puts_50 ?_
          refine r_iload7 dX12_puts_51 ?_
          refine q_callV3 zm_RX12_264 dX12_puts_53 (shM_k hs) (by decide) rfl (Nat.le_of_ble_eq_true rfl) (Nat.le_of_ble_eq_true rfl) (Nat.le_of_ble_eq_true rfl) (Nat.le_of_ble_eq_true rfl) (Nat.le_of_ble_eq_true rfl) (s_X12_layerAt (d := d) (c := c) (i := k) G hs hx hy (by omega) (by omega) hc_z (by omega) hqv (fun r53 e53 => ?_))
          have hrc := e53
          refine r_istore8 dX12_puts_56 rfl ?_
          refine r_aloadR0 dX12_puts_58 ?_
          refine m_getR (q := (A + 6)) zf_RX12_30 rfl dX12_puts_59 (shM_k hs) (shM_p6 hs) ?_
          refine r_iload5 dX12_puts_62 ?_
          refine n_bipush dX12_puts_64 (by decide) (fun r64 e64 => ?_)
          refine n_iadd dX12_puts_66 (by omega) (fun r66 e66 => ?_)
          refine n_bipush dX12_puts_67 (by decide) (fun r67 e67 => ?_)
          refine r_iload4 dX12_puts_69 ?_
          refine n_imulc dX12_puts_71 e67 (by omega) (fun r71 e71_z => ?_)
          refine n_iadd dX12_puts_72 (by omega) (fun r72 e72_z => ?_)
          refine r_aloadR0 dX12_puts_73 ?_
          refine m_getR (q := (A + 6)) zf_RX12_30 rfl dX12_puts_74 (shM_k hs) (shM_p6 hs) ?_
          refine r_iload5 dX12_puts_77 ?_
          refine n_iconst dX12_puts_79 (by decide) (fun r79 e79 => ?_)
          refine n_iadd dX12_puts_80 (by omega) (fun r80 e80 => ?_)
          refine r_iload4 dX12_puts_81 ?_
          refine n_iadd dX12_puts_83 (by omega) (fun r83 e83 => ?_)
          refine m_iald (k := 43 * (d + 1) + 1 + t) (x := (f2_z (A + 6) (43 * (d + 1) + 1 + t))) dX12_puts_84 (shM_k6 hs) (shM_n6 hs) (by omega) (by omega) (rfl) ?_
          refine n_iadd dX12_puts_85 (by omega) (fun r85 e85 => ?_)
          refine r_iload8 dX12_puts_86 ?_
          refine m_iast (k := 43 * (d + 1) + 7 + 6 * t + (cur ++ X.take k).length) dX12_puts_88 (shM_k6 hs) (shM_n6 hs) (by omega) (by omega) ?_
          refine r_aloadR0 dX12_puts_89 ?_
          refine m_getR (q := (A + 6)) zf_RX12_30 rfl dX12_puts_90 (shM_k hs) (shM_p6 hs) ?_
          refine r_iload5 dX12_puts_93 ?_
          refine n_iconst dX12_puts_95 (by decide) (fun r95 e95_z => ?_)
          refine n_iadd dX12_puts_96 (by omega) (fun r96 e96 => ?_)
          refine r_iload4 dX12_puts_97 ?_
          refine n_iadd dX12_puts_99 (by omega) (fun r99 e99_z => ?_)
          refine r_dup2 dX12_puts_100 rfl rfl ?_
          refine m_iald (k := 43 * (d + 1) + 1 + t) (x := (f2_z (A + 6) (43 * (d + 1) + 1 + t))) dX12_puts_101 (shM_k6 hs) (shM_n6 hs) (by omega) (by omega) ((zu_nn (by omega)).trans (rfl)) ?_
          refine n_iconst dX12_puts_102 (by decide) (fun r102 e102_z => ?_)
          refine n_iadd dX12_puts_103 (by omega) (fun r103 e103_z => ?_)
          refine m_iast (k := 43 * (d + 1) + 1 + t) dX12_puts_104 (shM_k6 hs) (shM_n6 hs) (by omega) (by omega) ?_
          refine n_iinc7 dX12_puts_105 (by decide) rfl (by omega) (fun r105 e105 => ?_)
          refine r_goto (t := 19) dX12_puts_108 (by decide) ?_
          refine ih _ (k + 1) _ _ (by omega) (by omega) (frM_zr (frM_zr hfr (by decide) (by decide) (by decide)) (by decide) (by decide) (by decide)) ?_ (fun i hi_z => ?_) (by omega)
          · rw [htk]; exact ctCo_add hcu (by omega) ht6 hrc (by omega)
          · rw [zu_ni (by omega), zu_ni (by omega)]; exact hun i hi_z
      · refine r_iload7 dX12_puts_19 ?_
        refine r_iload6 dX12_puts_21 ?_
        refine t_icge (t := 111) dX12_puts_23 (by decide) (fun h23 => ?_) (fun h23 => False.elim (by omega))
        refine r_vret dX12_puts_111 rfl (Nat.le_of_ble_eq_true rfl) (Nat.le_of_ble_eq_true rfl) ?_
        have e : X.take k = X := List.take_of_length_le (by omega)
        rw [e] at hcu
        exact hQ f2_z hfr hcu hun
  exact lp (col.length + 1) _ 0 _ _ (by omega) (by omega) frM_rf (by rw [List.take_zero, List.append_nil]; exact hcur) (fun i _ => rfl) (by omega)
