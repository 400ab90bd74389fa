/-! the class: an evening -/
theorem tbAt_d {w : zW} {f f2_z : Nat → Nat → Int32} {X a dq : Nat} {T : zTb} (h_z : tbAt w f X a T) (hk : zK w dq = 1) (hq : a + 41 ≤ dq) (e : ∀ q, q ≠ dq → f2_z q = f q) : tbAt w f2_z X a T := by
  obtain ⟨nq, pp, g0, p0, h1, ⟨n1, n2, n3, l1, l2, l3⟩, h3, h4, h5⟩ := h_z
  have ne : ∀ q, zK w q ≠ 1 → q ≠ dq := fun q h9 h8 => h9 (by rw [h8]; exact hk)
  have hl : ∀ k l, lawAt w f X nq k l → lawAt w f2_z X nq k l := by
    rintro k l ⟨la, b1, b2, b3, b4, b5⟩
    exact ⟨la, b1, b2, b3, b4, fun i o hi_z => by rw [e la (ne la (by rw [b2]; decide))]; exact b5 i o hi_z⟩
  obtain ⟨s1, s2, s3, s4, s5, s6⟩ := n1
  exact ⟨nq, pp, g0, p0, h1, ⟨⟨s1, s2, s3, s4, s5, s6⟩, ctNa_of n2 (e _ (ne _ (by rw [s1]; decide))) (e _ (ne _ (by rw [s4]; decide))) (e _ (ne _ (by rw [s5]; decide))), n3, hl _ _ l1, hl _ _ l2, hl _ _ l3⟩, h3, ctTb_q h4 h3 (fun q hq2 => e q (by omega)), h5⟩
def grE (X : Nat) (w w2 : zW) : Prop := zS w ≤ zS w2 ∧ (∀ q, q < zS w → zK w2 q = zK w q ∧ zN w2 q = zN w q) ∧ (∀ q, q < zS w → q ≠ X + 21 → zP w2 q = zP w q) ∧ ∀ q, zS w2 ≤ q → zK w2 q = zK w q
set_option maxHeartbeats 4000000 in
set_option maxRecDepth 100000 in
theorem s_X1_init {g : zGT} {w : zW} {f : Nat → Nat → Int32} {j : Nat → Nat → Int64} {a : Nat} {x : Int32} {Q : Option Value → zW → Prop} {QX : String → zW → Prop} (G : zGok g) (hk : zK w a = 1) (hQ : Q none (zM w (zu f a 0 x) j)) : zC g 1 yX1_init cX1_init 2 none [.ref a, .int x] (zM w f j) (0, 0) Q QX := by
  refine zC_of G (by decide +kernel) (Nat.le_of_ble_eq_true rfl) ?_
  refine r_aloadR0 dX1_init_0 ?_
  refine r_obj zo_RX1 zo_in zo_cd dX1_init_1 (by first | exact Nat.le_of_ble_eq_true rfl | (dsimp only [zV, zVh, zVg, zrm]; omega) | omega) (by first | exact Nat.le_of_ble_eq_true rfl | (dsimp only [zV, zVh, zVg, zrm]; omega) | omega) ?_
  refine r_aloadR0 dX1_init_4 ?_
  refine r_iload1 dX1_init_5 ?_
  refine m_putI zf_RX1_7 (by intro C T N h_z; cases h_z; rfl) rfl dX1_init_6 hk ?_
  refine r_vret dX1_init_9 rfl (Nat.le_of_ble_eq_true rfl) (Nat.le_of_ble_eq_true rfl) ?_
  exact hQ
set_option maxHeartbeats 4000000 in
set_option maxRecDepth 100000 in
theorem s_X11_evening {g : zGT} {w : zW} {f : Nat → Nat → Int32} {j : Nat → Nat → Int64} {X : Nat} {T : zTb} {x y : Int32} {Q : Option Value → zW → Prop} {QX : String → zW → Prop} (G : zGok g) (hx : shX w X) (ht : tbAt w f X (X + 11) T) (hz : wz w) (hS_z : X + 261 ≤ zS w) (hXIA : ¬ (1 ≤ y.toInt ∧ y.toInt ≤ 30) → ∀ n, zS w ≤ n → QX "java/lang/IllegalArgumentException" (zsS (zM w f j) n)) (hQ : (1 ≤ y.toInt ∧ y.toInt ≤ 30) → ∀ (r : Int32) w2 f2_z j2, r.toInt = ((eveW y.toInt.toNat x T 0).1 : Nat) → grE X w w2 → (∀ q, q < zS w → ¬ (q = X + 11 ∨ X + 18 ≤ q ∧ q < X + 52) → f2_z q = f q) → (∀ q, q < zS w → j2 q = j q) → shX w2 X → tbAt w2 f2_z X (X + 11) (eveW y.toInt.toNat x T 0).2 → Q (some (.int r)) (zM w2 f2_z j2)) : zC g 8 yX11_evening cX11_evening 7 (some .int) [.ref X, .int x, .int y] (zM w f j) (2, 12) Q QX := by
  refine zC_of G (by decide +kernel) (Nat.le_of_ble_eq_true rfl) ?_
  by_cases hc_z : 1 ≤ y.toInt ∧ y.toInt ≤ 30
  · obtain ⟨dq, hdq⟩ : ∃ dq, dq = zS w := ⟨_, rfl⟩
    refine r_iload2 dX11_evening_0 ?_
    refine n_iconst dX11_evening_1 (by decide) (fun r1 e1_z => ?_)
    refine t_iclt (t := 11) dX11_evening_2 (by decide) (fun h2 => False.elim (by omega)) (fun h2 => ?_)
    refine r_iload2 dX11_evening_5 ?_
    refine n_bipush dX11_evening_6 (by decide) (fun r6 e6_z => ?_)
    refine t_icle (t := 22) dX11_evening_8 (by decide) (fun h8 => ?_) (fun h8 => False.elim (by omega))
    refine m_new (s := dq) hdq.symm zn_RX11_311 dX11_evening_22 (by first | exact Nat.le_of_ble_eq_true rfl | (dsimp only [zV, zVh, zVg, zrm]; omega) | omega) (by first | exact Nat.le_of_ble_eq_true rfl | (dsimp only [zV, zVh, zVg, zrm]; omega) | omega) (fun w2 f2_z j2 n2 m2_z p2 => ?_)
    refine r_dup dX11_evening_25 rfl ?_
    refine r_iload1 dX11_evening_26 ?_
    refine r_callI (n := 1) (As := [.int x]) (b2 := (0, 0)) (Or.inl zm_RX11_313) zin_yX1_init zini_RX1 zcode_yX1_init rfl ⟨by decide, by decide, by decide +kernel⟩ (by decide) dX11_evening_27 (s_X1_init (w := w2) G n2.2.1 ?_) rfl rfl (by first | exact Nat.le_of_ble_eq_true rfl | (dsimp only [zV, zVh, zVg, zrm]; omega) | omega) (by first | exact Nat.le_of_ble_eq_true rfl | (dsimp only [zV, zVh, zVg, zrm]; omega) | omega) (by first | exact Nat.le_of_ble_eq_true rfl | (dsimp only [zV, zVh, zVg, zrm]; omega) | omega) (by first | exact Nat.le_of_ble_eq_true rfl | (dsimp only [zV, zVh, zVg, zrm]; omega) | omega) (by first | exact Nat.le_of_ble_eq_true rfl | (dsimp only [zV, zVh, zVg, zrm]; omega) | omega) (fun r w9 h9 => h9)
    refine r_astore3 dX11_evening_30 rfl ?_
    have hx2 : shX w2 X := shX_g hx (fun q hq => ⟨(n2.2.2.2 q (by omega)).1, (n2.2.2.2 q (by omega)).2.1⟩) (fun q k hq => congrFun (n2.2.2.2 q (by have := hq.1; omega)).2.2 k)
    have ht2 : tbAt w2 (zu f2_z dq 0 x) X (X + 11) T := tbAt_g ht hz (fun q hq => ⟨(n2.2.2.2 q (by omega)).1, (n2.2.2.2 q (by omega)).2.1⟩) (fun q k hq _ => congrFun (n2.2.2.2 q (by omega)).2.2 k) (fun q hq _ => (zu_ne (by omega)).trans (m2_z.1 q (by omega))) (by omega)
    have lp : ∀ (mz : Nat) (cc : Int32) (ii : Int32) (i : Nat) (k : Nat) (sd : Int32) (P2 : Nat → Nat → Option Nat) (f2_z : Nat → Nat → Int32) (T2 : zTb) (v6_ : Option Value), cc.toInt = (k : Nat) → ii.toInt = (i : Nat) → i ≤ y.toInt.toNat ∧ k ≤ i → shX (zsP w2 P2) X → tbAt (zsP w2 P2) f2_z X (X + 11) T2 → (∀ q, q ≠ X + 21 → P2 q = zP w2 q) → (∀ q, q < dq → ¬ (q = X + 11 ∨ X + 18 ≤ q ∧ q < X + 52) → f2_z q = f q) → f2_z dq 0 = sd → eveW (y.toInt.toNat - i) sd T2 k = (eveW y.toInt.toNat x T 0) → y.toInt.toNat - i < mz → zR (zV g 8 yX11_evening 7 (some .int) (2, 12) Q QX) cX11_evening yX11_evening.cls 37 [some (.ref X), some (.int x), some (.int y), some (.ref dq), some (.int cc), some (.int ii), v6_] [] (zM (zsP w2 P2) f2_z j2) (1, 1) := by
      intro mz
      induction mz with
      | zero =>
        intro cc ii i k sd P2 f2_z T2 v6_ hkk hii hik hxP htP hP hlow hsd hR hmz
        exact absurd hmz (Nat.not_lt_zero _)
      | succ mz ih =>
        intro cc ii i k sd P2 f2_z T2 v6_ hkk hii hik hxP htP hP hlow hsd hR hmz
        have hkd : zK w2 dq = 1 := n2.2.1
        have hs29 := n2.1
        have hx2 : shX (zsP w2 P2) X := hxP
        have ht2 := htP
        obtain ⟨hmo2, hwm2⟩ := tb_mo ht2
        have hwf2 := (show wfT T2 from by obtain ⟨a1, a2, a3, a4, a5, a6, a7, a8, a9, a10⟩ := ht2; exact a10)
        have hn62 : tbC T2 ≤ 6 := hwf2.2.1
        rcases Nat.lt_or_ge i y.toInt.toNat with hi_z | hi_z
        · obtain ⟨m, hm_z⟩ : ∃ m, y.toInt.toNat - i = m + 1 := ⟨y.toInt.toNat - i - 1, by omega⟩
          rw [hm_z, eveW_s] at hR
          have hdb := drwD_bd (s := sd)
          by_cases hh : hinI (tbC T2) T2.2.2.1 ((drwD sd).1 : Nat) = 0
          · rw [if_pos hh] at hR
            have hok2 := hinI_ok hh (by omega) hn62
            refine r_iload5 dX11_evening_37 ?_
            refine r_iload2 dX11_evening_39 ?_
            refine t_icge (t := 81) dX11_evening_40 (by decide) (fun h40 => False.elim (by omega)) (fun h40 => ?_)
            refine r_aloadR3 dX11_evening_43 ?_
            refine q_callS1 zm_RX11_315 dX11_evening_44 (by first | exact Nat.le_of_ble_eq_true rfl | (dsimp only [zV, zVh, zVg, zrm]; omega) | omega) (by first | exact Nat.le_of_ble_eq_true rfl | (dsimp only [zV, zVh, zVg, zrm]; omega) | omega) (by first | exact Nat.le_of_ble_eq_true rfl | (dsimp only [zV, zVh, zVg, zrm]; omega) | omega) (by first | exact Nat.le_of_ble_eq_true rfl | (dsimp only [zV, zVh, zVg, zrm]; omega) | omega) (by first | exact Nat.le_of_ble_eq_true rfl | (dsimp only [zV, zVh, zVg, zrm]; omega) | omega) (s_X11_drawDeed (w := zsP w2 P2) G hkd (fun r44 g44 e44 a44 b44 => ?_))
            rw [hsd] at e44 a44
            have ht44 : tbAt (zsP w2 P2) g44 X (X + 11) T2 := tbAt_d ht2 hkd (by omega) b44
            have hmo44 := (tb_mo ht44).1
            refine r_istore6 dX11_evening_47 rfl ?_
            refine r_aloadR0 dX11_evening_49 ?_
            refine r_aloadR0 dX11_evening_50 ?_
            refine m_getR (q := (X + 11)) zf_RX11_33 rfl dX11_evening_51 (shX_k hx2) (shX_p5 hx2) ?_
            refine m_getR (q := (X + 11 + 7)) zf_RX11_138 rfl dX11_evening_54 (shTb_k (shX_tb hx2)) (shTb_p1 (shX_tb hx2)) ?_
            refine r_iload6 dX11_evening_57 ?_
            refine n_i2l dX11_evening_59 (fun r59 e59 => ?_)
            refine q_callV2 zm_RX11_300 dX11_evening_60 (shX_k hx2) (by decide) rfl (by first | exact Nat.le_of_ble_eq_true rfl | (dsimp only [zV, zVh, zVg, zrm]; omega) | omega) (by first | exact Nat.le_of_ble_eq_true rfl | (dsimp only [zV, zVh, zVg, zrm]; omega) | omega) (by first | exact Nat.le_of_ble_eq_true rfl | (dsimp only [zV, zVh, zVg, zrm]; omega) | omega) (by first | exact Nat.le_of_ble_eq_true rfl | (dsimp only [zV, zVh, zVg, zrm]; omega) | omega) (by first | exact Nat.le_of_ble_eq_true rfl | (dsimp only [zV, zVh, zVg, zrm]; omega) | omega) (s_X11_hindrance (w := zsP w2 P2) (M := T2.2.2.1) G hx2 ht44 (shTb_mo (shX_tb hx2)) hmo44 hwm2 (fun r60 e60 => ?_))
            rw [e59, e44] at e60
            refine t_ifne (t := 75) dX11_evening_63 (by decide) (fun h63 => False.elim (by omega)) (fun h63 => ?_)
            refine r_aloadR0 dX11_evening_66 ?_
            refine r_iload6 dX11_evening_67 ?_
            refine q_callV1 zm_RX11_264 dX11_evening_69 (shX_k hx2) (by decide) rfl (by first | exact Nat.le_of_ble_eq_true rfl | (dsimp only [zV, zVh, zVg, zrm]; omega) | omega) (by first | exact Nat.le_of_ble_eq_true rfl | (dsimp only [zV, zVh, zVg, zrm]; omega) | omega) (by first | exact Nat.le_of_ble_eq_true rfl | (dsimp only [zV, zVh, zVg, zrm]; omega) | omega) (by first | exact Nat.le_of_ble_eq_true rfl | (dsimp only [zV, zVh, zVg, zrm]; omega) | omega) (by first | exact Nat.le_of_ble_eq_true rfl | (dsimp only [zV, zVh, zVg, zrm]; omega) | omega) (s_X11_doDeed (w := zsP w2 P2) G hx2 ht44 (by omega) (by rw [e44]; exact hok2.2) (fun P3 g69 hst3 => ?_))
            rw [e44] at hst3
            refine n_iinc4 dX11_evening_72 (by decide) rfl (by omega) (fun r72 e72_z => ?_)
            refine n_iinc5 dX11_evening_75 (by decide) rfl (by omega) (fun r75 e75 => ?_)
            refine r_goto (t := 37) dX11_evening_78 (by decide) ?_
            exact ih _ _ (i + 1) (k + 1) (drwD sd).2 P3 g69 _ _ (by omega) (by omega) (by omega) (shX_P1 (w := zsP w2 P2) hx2 hst3.1) hst3.2.2 (fun q hq => (hst3.1 q hq).trans (hP q hq)) (fun q h1 h2 => (hst3.2.1 q h2).trans ((b44 q (by omega)).trans (hlow q h1 h2))) (by rw [hst3.2.1 dq (by omega)]; exact a44) (by rw [show y.toInt.toNat - (i + 1) = m by omega]; exact hR) (by omega)
          · rw [if_neg hh] at hR
            refine r_iload5 dX11_evening_37 ?_
            refine r_iload2 dX11_evening_39 ?_
            refine t_icge (t := 81) dX11_evening_40 (by decide) (fun h40 => False.elim (by omega)) (fun h40 => ?_)
            refine r_aloadR3 dX11_evening_43 ?_
            refine q_callS1 zm_RX11_315 dX11_evening_44 (by first | exact Nat.le_of_ble_eq_true rfl | (dsimp only [zV, zVh, zVg, zrm]; omega) | omega) (by first | exact Nat.le_of_ble_eq_true rfl | (dsimp only [zV, zVh, zVg, zrm]; omega) | omega) (by first | exact Nat.le_of_ble_eq_true rfl | (dsimp only [zV, zVh, zVg, zrm]; omega) | omega) (by first | exact Nat.le_of_ble_eq_true rfl | (dsimp only [zV, zVh, zVg, zrm]; omega) | omega) (by first | exact Nat.le_of_ble_eq_true rfl | (dsimp only [zV, zVh, zVg, zrm]; omega) | omega) (s_X11_drawDeed (w := zsP w2 P2) G hkd (fun r44 g44 e44 a44 b44 => ?_))
            rw [hsd] at e44 a44
            have ht44 : tbAt (zsP w2 P2) g44 X (X + 11) T2 := tbAt_d ht2 hkd (by omega) b44
            have hmo44 := (tb_mo ht44).1
            refine r_istore6 dX11_evening_47 rfl ?_
            refine r_aloadR0 dX11_evening_49 ?_
            refine r_aloadR0 dX11_evening_50 ?_
            refine m_getR (q := (X + 11)) zf_RX11_33 rfl dX11_evening_51 (shX_k hx2) (shX_p5 hx2) ?_
            refine m_getR (q := (X + 11 + 7)) zf_RX11_138 rfl dX11_evening_54 (shTb_k (shX_tb hx2)) (shTb_p1 (shX_tb hx2)) ?_
            refine r_iload6 dX11_evening_57 ?_
            refine n_i2l dX11_evening_59 (fun r59 e59 => ?_)
            refine q_callV2 zm_RX11_300 dX11_evening_60 (shX_k hx2) (by decide) rfl (by first | exact Nat.le_of_ble_eq_true rfl | (dsimp only [zV, zVh, zVg, zrm]; omega) | omega) (by first | exact Nat.le_of_ble_eq_true rfl | (dsimp only [zV, zVh, zVg, zrm]; omega) | omega) (by first | exact Nat.le_of_ble_eq_true rfl | (dsimp only [zV, zVh, zVg, zrm]; omega) | omega) (by first | exact Nat.le_of_ble_eq_true rfl | (dsimp only [zV, zVh, zVg, zrm]; omega) | omega) (by first | exact Nat.le_of_ble_eq_true rfl | (dsimp only [zV, zVh, zVg, zrm]; omega) | omega) (s_X11_hindrance (w := zsP w2 P2) (M := T2.2.2.1) G hx2 ht44 (shTb_mo (shX_tb hx2)) hmo44 hwm2 (fun r60 e60 => ?_))
            rw [e59, e44] at e60
            refine t_ifne (t := 75) dX11_evening_63 (by decide) (fun h63 => ?_) (fun h63 => False.elim (by omega))
            refine n_iinc5 dX11_evening_75 (by decide) rfl (by omega) (fun r75 e75 => ?_)
            refine r_goto (t := 37) dX11_evening_78 (by decide) ?_
            exact ih _ _ (i + 1) k (drwD sd).2 P2 g44 T2 _ (by omega) (by omega) (by omega) hx2 ht44 hP (fun q h1 h2 => (b44 q (by omega)).trans (hlow q h1 h2)) a44 (by rw [show y.toInt.toNat - (i + 1) = m by omega]; exact hR) (by omega)
        · rw [show y.toInt.toNat - i = 0 by omega] at hR
          have hR2 : (k, T2) = (eveW y.toInt.toNat x T 0) := hR
          refine r_iload5 dX11_evening_37 ?_
          refine r_iload2 dX11_evening_39 ?_
          refine t_icge (t := 81) dX11_evening_40 (by decide) (fun h40 => ?_) (fun h40 => False.elim (by omega))
          refine r_iload4 dX11_evening_81 ?_
          refine r_iret dX11_evening_83 rfl (by first | exact Nat.le_of_ble_eq_true rfl | (dsimp only [zV, zVh, zVg, zrm]; omega) | omega) (by first | exact Nat.le_of_ble_eq_true rfl | (dsimp only [zV, zVh, zVg, zrm]; omega) | omega) ?_
          rw [← hR2] at hQ
          refine hQ hc_z _ (zsP w2 P2) f2_z j2 hkk ⟨by show zS w ≤ zS w2; omega, fun q hq => ⟨(n2.2.2.2 q (by omega)).1, (n2.2.2.2 q (by omega)).2.1⟩, fun q h1 h2 => (hP q h2).trans (n2.2.2.2 q (by omega)).2.2, fun q h1 => (n2.2.2.2 q (by have h9 : zS w2 ≤ q := h1; omega)).1⟩ (fun q h1 h2 => hlow q (by omega) h2) (fun q h1 => p2.1 q (by omega)) hx2 ht2
    refine n_iconst dX11_evening_31 (by decide) (fun r31 e31_z => ?_)
    refine r_istore4 dX11_evening_32 rfl ?_
    refine n_iconst dX11_evening_34 (by decide) (fun r34 e34 => ?_)
    refine r_istore5 dX11_evening_35 rfl ?_
    exact lp 31 _ _ 0 0 x (zP w2) (zu f2_z dq 0 x) T _ (by omega) (by omega) ⟨Nat.zero_le _, Nat.le_refl 0⟩ hx2 ht2 (fun _ _ => rfl) (fun q h1 _ => (zu_ne (by omega)).trans (m2_z.1 q (by omega))) zu_at rfl (by omega)
  · rcases Int.lt_or_le y.toInt 1 with h0 | h0
    · refine r_iload2 dX11_evening_0 ?_
      refine n_iconst dX11_evening_1 (by decide) (fun r1 e1_z => ?_)
      refine t_iclt (t := 11) dX11_evening_2 (by decide) (fun h2 => ?_) (fun h2 => False.elim (by omega))
      refine r_throwW zth_IA (List.mem_of_getElem? (i := 15) rfl) dX11_evening_11 dX11_evening_14 dX11_evening_15 dX11_evening_18 dX11_evening_21 (by first | exact Nat.le_of_ble_eq_true rfl | (dsimp only [zV, zVh, zVg, zrm]; omega) | omega) (by first | exact Nat.le_of_ble_eq_true rfl | (dsimp only [zV, zVh, zVg, zrm]; omega) | omega) (by first | exact Nat.le_of_ble_eq_true rfl | (dsimp only [zV, zVh, zVg, zrm]; omega) | omega) (by first | exact Nat.le_of_ble_eq_true rfl | (dsimp only [zV, zVh, zVg, zrm]; omega) | omega) ?_
      exact hXIA hc_z
    · refine r_iload2 dX11_evening_0 ?_
      refine n_iconst dX11_evening_1 (by decide) (fun r1 e1_z => ?_)
      refine t_iclt (t := 11) dX11_evening_2 (by decide) (fun h2 => False.elim (by omega)) (fun h2 => ?_)
      refine r_iload2 dX11_evening_5 ?_
      refine n_bipush dX11_evening_6 (by decide) (fun r6 e6_z => ?_)
      refine t_icle (t := 22) dX11_evening_8 (by decide) (fun h8 => False.elim (by omega)) (fun h8 => ?_)
      refine r_throwW zth_IA (List.mem_of_getElem? (i := 15) rfl) dX11_evening_11 dX11_evening_14 dX11_evening_15 dX11_evening_18 dX11_evening_21 (by first | exact Nat.le_of_ble_eq_true rfl | (dsimp only [zV, zVh, zVg, zrm]; omega) | omega) (by first | exact Nat.le_of_ble_eq_true rfl | (dsimp only [zV, zVh, zVg, zrm]; omega) | omega) (by first | exact Nat.le_of_ble_eq_true rfl | (dsimp only [zV, zVh, zVg, zrm]; omega) | omega) (by first | exact Nat.le_of_ble_eq_true rfl | (dsimp only [zV, zVh, zVg, zrm]; omega) | omega) ?_
      exact hXIA hc_z
