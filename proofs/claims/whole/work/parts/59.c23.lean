/-! the class: drawDeed -/
def dnx (s : Int32) : Int32 := 1103515245 * s + 12345
def dvv (s : Int32) : Int32 := ((dnx s).toUInt32 >>> (16 &&& 31)).toInt32
def dvl (s : Int32) : Nat := (dvv s).toInt.toNat
theorem dvl_v (s : Int32) : (dvv s).toInt = (dvl s : Nat) ∧ dvl s < 65536 := by
  have hb_z : 0 ≤ (dvv s).toInt ∧ (dvv s).toInt < 65536 := by
    unfold dvv
    generalize dnx s = y
    have e0_z : ((16 : UInt32) &&& 31) = (16 : UInt32) := by decide
    rw [e0_z]
    have h1 : (y.toUInt32 >>> (16 : UInt32)).toNat = y.toUInt32.toNat / 2 ^ 16 := by
      rw [UInt32.toNat_shiftRight]
      show y.toUInt32.toNat >>> (16 % 32) = _
      rw [Nat.shiftRight_eq_div_pow]
    have h2 : y.toUInt32.toNat < 2 ^ 32 := UInt32.toNat_lt _
    have h3 : (y.toUInt32 >>> (16 : UInt32)).toNat < 65536 := by omega
    have h4 : ((y.toUInt32 >>> (16 : UInt32)).toInt32).toInt = ((y.toUInt32 >>> (16 : UInt32)).toNat : Int) := by
      show (y.toUInt32 >>> (16 : UInt32)).toBitVec.toInt = _
      rw [BitVec.toInt_eq_toNat_of_lt]
      · rfl
      · show 2 * (y.toUInt32 >>> (16 : UInt32)).toNat < 2 ^ 32
        omega
    rw [h4]
    omega
  unfold dvl
  omega
/-- a deed drawn, and the seed behind it -/
def drwD (s : Int32) : Nat × Int32 := if dvl s % 4 = 2 then (100, dnx s) else if dvl s % 4 = 3 then (1000 + 100 * (dvl (dnx s) % 6) + dvl (dnx (dnx s)) % 100, dnx (dnx (dnx s))) else (10 * (1 + dvl (dnx s) % 5) + dvl (dnx (dnx s)) % 4, dnx (dnx (dnx s)))
set_option maxHeartbeats 4000000 in
set_option maxRecDepth 100000 in
theorem s_X11_drawDeed {g : zGT} {w : zW} {f : Nat → Nat → Int32} {j : Nat → Nat → Int64} {a : Nat} {Q : Option Value → zW → Prop} {QX : String → zW → Prop} (G : zGok g) (hd_z : zK w a = 1) (hQ : ∀ (r : Int32) f2_z, r.toInt = ((drwD (f a 0)).1 : Nat) → f2_z a 0 = (drwD (f a 0)).2 → (∀ q, q ≠ a → f2_z q = f q) → Q (some (.int r)) (zM w f2_z j)) : zC g 2 yX11_drawDeed cX11_drawDeed 3 (some .int) [.ref a] (zM w f j) (0, 0) Q QX := by
  refine zC_of G (by decide +kernel) (Nat.le_of_ble_eq_true rfl) ?_
  have hs0 : f a 0 = f a 0 := rfl
  have hf0 : ∀ q, q ≠ a → f q = f q := fun _ _ => rfl
  refine r_aloadR0 dX11_drawDeed_0 ?_
  refine q_callV0 zm_RX11_319 dX11_drawDeed_1 hd_z (by decide) rfl (Nat.le_of_ble_eq_true rfl) (Nat.le_of_ble_eq_true rfl) (Nat.le_of_ble_eq_true rfl) (Nat.le_of_ble_eq_true rfl) (Nat.le_of_ble_eq_true rfl) (s_X1_draw (w := zM w f j) G hd_z (fun x1 hx1 => ?_))
  have hxe : x1 = dnx (f a 0) := by rw [hx1]; exact congrArg (fun t : Int32 => 1103515245 * t + 12345) hs0
  subst hxe
  have hs1 : zu f a 0 (dnx (f a 0)) a 0 = dnx (f a 0) := zu_at
  have hf1 : ∀ q, q ≠ a → zu f a 0 (dnx (f a 0)) q = f q := fun q hq => (zu_ne hq).trans (hf0 q hq)
  show zR _ _ _ _ _ (.int (dvv (f a 0)) :: _) (zM w (zu f a 0 (dnx (f a 0))) j) _
  generalize zu f a 0 (dnx (f a 0)) = f1_z at hs1 hf1 ⊢
  refine n_name (fun r1 e1_z => ?_)
  have hv0 := dvl_v (f a 0)
  rw [← e1_z] at hv0
  refine n_iconst dX11_drawDeed_4 (by decide) (fun r4 e4_z => ?_)
  refine n_iremc (c := 4) dX11_drawDeed_5 e4_z (by decide) (by omega) (fun r5 e5_z => ?_)
  refine r_istore1 dX11_drawDeed_6 rfl ?_
  refine r_iload1 dX11_drawDeed_7 ?_
  refine n_iconst dX11_drawDeed_8 (by decide) (fun r8 e8 => ?_)
  refine t_icne (t := 15) dX11_drawDeed_9 (by decide) (fun h9 => ?_) (fun h9 => ?_)
  · refine r_iload1 dX11_drawDeed_15 ?_
    refine n_iconst dX11_drawDeed_16 (by decide) (fun r16 e16_z => ?_)
    refine t_icne (t := 45) dX11_drawDeed_17 (by decide) (fun h17 => ?_) (fun h17 => ?_)
    · refine n_iconst dX11_drawDeed_45 (by decide) (fun r45 e45 => ?_)
      refine r_aloadR0 dX11_drawDeed_46 ?_
      refine q_callV0 zm_RX11_319 dX11_drawDeed_47 hd_z (by decide) rfl (Nat.le_of_ble_eq_true rfl) (Nat.le_of_ble_eq_true rfl) (Nat.le_of_ble_eq_true rfl) (Nat.le_of_ble_eq_true rfl) (Nat.le_of_ble_eq_true rfl) (s_X1_draw (w := zM w f1_z j) G hd_z (fun x47 hx47 => ?_))
      have hxe : x47 = dnx (dnx (f a 0)) := by rw [hx47]; exact congrArg (fun t : Int32 => 1103515245 * t + 12345) hs1
      subst hxe
      have hs2 : zu f1_z a 0 (dnx (dnx (f a 0))) a 0 = dnx (dnx (f a 0)) := zu_at
      have hf2 : ∀ q, q ≠ a → zu f1_z a 0 (dnx (dnx (f a 0))) q = f q := fun q hq => (zu_ne hq).trans (hf1 q hq)
      show zR _ _ _ _ _ (.int (dvv (dnx (f a 0))) :: _) (zM w (zu f1_z a 0 (dnx (dnx (f a 0)))) j) _
      generalize zu f1_z a 0 (dnx (dnx (f a 0))) = f2_z at hs2 hf2 ⊢
      refine n_name (fun r47 e47 => ?_)
      have hv1 := dvl_v (dnx (f a 0))
      rw [← e47] at hv1
      refine n_iconst dX11_drawDeed_50 (by decide) (fun r50 e50 => ?_)
      refine n_iremc (c := 5) dX11_drawDeed_51 e50 (by decide) (by omega) (fun r51 e51 => ?_)
      refine n_iadd dX11_drawDeed_52 (by omega) (fun r52 e52 => ?_)
      refine r_istore2 dX11_drawDeed_53 rfl ?_
      refine n_bipush dX11_drawDeed_54 (by decide) (fun r54 e54 => ?_)
      refine r_iload2 dX11_drawDeed_56 ?_
      refine n_imulc dX11_drawDeed_57 e54 (by omega) (fun r57 e57 => ?_)
      refine r_aloadR0 dX11_drawDeed_58 ?_
      refine q_callV0 zm_RX11_319 dX11_drawDeed_59 hd_z (by decide) rfl (Nat.le_of_ble_eq_true rfl) (Nat.le_of_ble_eq_true rfl) (Nat.le_of_ble_eq_true rfl) (Nat.le_of_ble_eq_true rfl) (Nat.le_of_ble_eq_true rfl) (s_X1_draw (w := zM w f2_z j) G hd_z (fun x59 hx59 => ?_))
      have hxe : x59 = dnx (dnx (dnx (f a 0))) := by rw [hx59]; exact congrArg (fun t : Int32 => 1103515245 * t + 12345) hs2
      subst hxe
      have hs3 : zu f2_z a 0 (dnx (dnx (dnx (f a 0)))) a 0 = dnx (dnx (dnx (f a 0))) := zu_at
      have hf3 : ∀ q, q ≠ a → zu f2_z a 0 (dnx (dnx (dnx (f a 0)))) q = f q := fun q hq => (zu_ne hq).trans (hf2 q hq)
      show zR _ _ _ _ _ (.int (dvv (dnx (dnx (f a 0)))) :: _) (zM w (zu f2_z a 0 (dnx (dnx (dnx (f a 0))))) j) _
      generalize zu f2_z a 0 (dnx (dnx (dnx (f a 0)))) = f3_z at hs3 hf3 ⊢
      refine n_name (fun r59 e59 => ?_)
      have hv2 := dvl_v (dnx (dnx (f a 0)))
      rw [← e59] at hv2
      refine n_iconst dX11_drawDeed_62 (by decide) (fun r62 e62 => ?_)
      refine n_iremc (c := 4) dX11_drawDeed_63 e62 (by decide) (by omega) (fun r63 e63 => ?_)
      refine n_iadd dX11_drawDeed_64 (by omega) (fun r64 e64 => ?_)
      refine r_iret dX11_drawDeed_65 rfl (Nat.le_of_ble_eq_true rfl) (Nat.le_of_ble_eq_true rfl) ?_
      have hdw : drwD (f a 0) = (10 * (1 + dvl (dnx (f a 0)) % 5) + dvl (dnx (dnx (f a 0))) % 4, dnx (dnx (dnx (f a 0)))) := by unfold drwD; rw [if_neg (by omega), if_neg (by omega)]
      exact hQ _ f3_z (by rw [hdw]; show _ = ((10 * (1 + dvl (dnx (f a 0)) % 5) + dvl (dnx (dnx (f a 0))) % 4 : Nat) : Int); omega) (by rw [hdw]; exact hs3) hf3
    · refine r_aloadR0 dX11_drawDeed_20 ?_
      refine q_callV0 zm_RX11_319 dX11_drawDeed_21 hd_z (by decide) rfl (Nat.le_of_ble_eq_true rfl) (Nat.le_of_ble_eq_true rfl) (Nat.le_of_ble_eq_true rfl) (Nat.le_of_ble_eq_true rfl) (Nat.le_of_ble_eq_true rfl) (s_X1_draw (w := zM w f1_z j) G hd_z (fun x21 hx21 => ?_))
      have hxe : x21 = dnx (dnx (f a 0)) := by rw [hx21]; exact congrArg (fun t : Int32 => 1103515245 * t + 12345) hs1
      subst hxe
      have hs2 : zu f1_z a 0 (dnx (dnx (f a 0))) a 0 = dnx (dnx (f a 0)) := zu_at
      have hf2 : ∀ q, q ≠ a → zu f1_z a 0 (dnx (dnx (f a 0))) q = f q := fun q hq => (zu_ne hq).trans (hf1 q hq)
      show zR _ _ _ _ _ (.int (dvv (dnx (f a 0))) :: _) (zM w (zu f1_z a 0 (dnx (dnx (f a 0)))) j) _
      generalize zu f1_z a 0 (dnx (dnx (f a 0))) = f2_z at hs2 hf2 ⊢
      refine n_name (fun r21 e21_z => ?_)
      have hv1 := dvl_v (dnx (f a 0))
      rw [← e21_z] at hv1
      refine n_bipush dX11_drawDeed_24 (by decide) (fun r24 e24_z => ?_)
      refine n_iremc (c := 6) dX11_drawDeed_26 e24_z (by decide) (by omega) (fun r26 e26_z => ?_)
      refine r_istore2 dX11_drawDeed_27 rfl ?_
      refine n_sipush dX11_drawDeed_28 (by decide) (fun r28 e28_z => ?_)
      refine n_bipush dX11_drawDeed_31 (by decide) (fun r31 e31_z => ?_)
      refine r_iload2 dX11_drawDeed_33 ?_
      refine n_imulc dX11_drawDeed_34 e31_z (by omega) (fun r34 e34 => ?_)
      refine n_iadd dX11_drawDeed_35 (by omega) (fun r35 e35 => ?_)
      refine r_aloadR0 dX11_drawDeed_36 ?_
      refine q_callV0 zm_RX11_319 dX11_drawDeed_37 hd_z (by decide) rfl (Nat.le_of_ble_eq_true rfl) (Nat.le_of_ble_eq_true rfl) (Nat.le_of_ble_eq_true rfl) (Nat.le_of_ble_eq_true rfl) (Nat.le_of_ble_eq_true rfl) (s_X1_draw (w := zM w f2_z j) G hd_z (fun x37 hx37 => ?_))
      have hxe : x37 = dnx (dnx (dnx (f a 0))) := by rw [hx37]; exact congrArg (fun t : Int32 => 1103515245 * t + 12345) hs2
      subst hxe
      have hs3 : zu f2_z a 0 (dnx (dnx (dnx (f a 0)))) a 0 = dnx (dnx (dnx (f a 0))) := zu_at
      have hf3 : ∀ q, q ≠ a → zu f2_z a 0 (dnx (dnx (dnx (f a 0)))) q = f q := fun q hq => (zu_ne hq).trans (hf2 q hq)
      show zR _ _ _ _ _ (.int (dvv (dnx (dnx (f a 0)))) :: _) (zM w (zu f2_z a 0 (dnx (dnx (dnx (f a 0))))) j) _
      generalize zu f2_z a 0 (dnx (dnx (dnx (f a 0)))) = f3_z at hs3 hf3 ⊢
      refine n_name (fun r37 e37 => ?_)
      have hv2 := dvl_v (dnx (dnx (f a 0)))
      rw [← e37] at hv2
      refine n_bipush dX11_drawDeed_40 (by decide) (fun r40 e40 => ?_)
      refine n_iremc (c := 100) dX11_drawDeed_42 e40 (by decide) (by omega) (fun r42 e42_z => ?_)
      refine n_iadd dX11_drawDeed_43 (by omega) (fun r43 e43 => ?_)
      refine r_iret dX11_drawDeed_44 rfl (Nat.le_of_ble_eq_true rfl) (Nat.le_of_ble_eq_true rfl) ?_
      have hdw : drwD (f a 0) = (1000 + 100 * (dvl (dnx (f a 0)) % 6) + dvl (dnx (dnx (f a 0))) % 100, dnx (dnx (dnx (f a 0)))) := by unfold drwD; rw [if_neg (by omega), if_pos (by omega)]
      exact hQ _ f3_z (by rw [hdw]; show _ = ((1000 + 100 * (dvl (dnx (f a 0)) % 6) + dvl (dnx (dnx (f a 0))) % 100 : Nat) : Int); omega) (by rw [hdw]; exact hs3) hf3
  · refine n_bipush dX11_drawDeed_12 (by decide) (fun r12 e12_z => ?_)
    refine r_iret dX11_drawDeed_14 rfl (Nat.le_of_ble_eq_true rfl) (Nat.le_of_ble_eq_true rfl) ?_
    have hdw : drwD (f a 0) = (100, dnx (f a 0)) := if_pos (by omega)
    exact hQ _ f1_z (by rw [hdw]; show _ = ((100 : Nat) : Int); omega) (by rw [hdw]; exact hs1) hf1
