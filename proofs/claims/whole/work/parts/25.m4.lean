/-! the reference: laws -/
set_option maxHeartbeats 4000000 in
set_option maxRecDepth 100000 in
theorem s_X12_bound {g : zGT} {w : zW} {f : Nat → Nat → Int32} {j : Nat → Nat → Int64} {v : Int64} {Q : Option Value → zW → Prop} {QX : String → zW → Prop} (G : zGok g)  (hQ : ∀ r : Int32, r.toInt = clI v.toInt → Q (some (.int r)) (zM w f j)) : zC g 1 yX12_bound cX12_bound 2 (some .int) [.long v] (zM w f j) (0, 0) Q QX := by
  refine zC_of G (by decide +kernel) (Nat.le_of_ble_eq_true rfl) ?_
  unfold clI at hQ
  refine n_ldc2 (n := -1000000) zk_RX12_308 dX12_bound_0 (by decide) (fun r0 e0_z => ?_)
  refine n_ldc2 (n := 1000000) zk_RX12_310 dX12_bound_3 (by decide) (fun r3 e3_z => ?_)
  refine r_lload0 dX12_bound_6 ?_
  refine r_mminL zm_RX12_312 dX12_bound_7 (Nat.le_of_ble_eq_true rfl) (Nat.le_of_ble_eq_true rfl) (Nat.le_of_ble_eq_true rfl) (Nat.le_of_ble_eq_true rfl) (Nat.le_of_ble_eq_true rfl) (fun r7 e7_z => ?_)
  refine r_mmaxL zm_RX12_315 dX12_bound_10 (Nat.le_of_ble_eq_true rfl) (Nat.le_of_ble_eq_true rfl) (Nat.le_of_ble_eq_true rfl) (Nat.le_of_ble_eq_true rfl) (Nat.le_of_ble_eq_true rfl) (fun r10 e10_z => ?_)
  refine n_l2i dX12_bound_13 (by omega) (fun r13 e13_z => ?_)
  refine r_iret dX12_bound_14 rfl (Nat.le_of_ble_eq_true rfl) (Nat.le_of_ble_eq_true rfl) ?_
  exact hQ _ (by omega)
set_option maxHeartbeats 4000000 in
set_option maxRecDepth 100000 in
theorem s_X12_done2001 {g : zGT} {w : zW} {f : Nat → Nat → Int32} {j : Nat → Nat → Int64} {s : Int32} {a b : Int64} {Q : Option Value → zW → Prop} {QX : String → zW → Prop} (G : zGok g) (hs : s.toInt = 16) (ha_z : bdI a.toInt) (hb_z : bdI b.toInt) (h1 : a.toInt = 0 ∨ a.toInt = 1) (h2 : b.toInt = 0 ∨ b.toInt = 1) (hQ : ∀ r : Int32, r.toInt = opI 2001 a.toInt b.toInt → Q (some (.int r)) (zM w f j)) : zC g 2 yX12_done cX12_done 5 (some .int) [.int s, .long a, .long b] (zM w f j) (0, 0) Q QX := by
  refine zC_of G (by decide +kernel) (Nat.le_of_ble_eq_true rfl) ?_
  unfold bdI at ha_z hb_z
  skip
  have ho : opI 2001 a.toInt b.toInt = if a.toInt + b.toInt > 1 then 1 else 0 := rfl
  rw [ho] at hQ
  refine r_iload0 dX12_done_0 ?_
  refine n_tabC (k := 16) (t := 101) dX12_done_1 (by decide) rfl (by decide) (fun h1 => ?_) (fun h1 => False.elim (h1 (by omega)))
  refine r_lload1 dX12_done_101 ?_
  refine r_lload3 dX12_done_102 ?_
  refine n_ladd dX12_done_103 (by omega) (fun r103 e103_z => ?_)
  refine n_lconst (q := 1) dX12_done_104 rfl (by decide) (fun r104 e104_z => ?_)
  refine n_lcmp dX12_done_105 (fun r105 e105 => ?_)
  unfold zcmp at e105
  refine t_ifle (t := 113) dX12_done_106 (by decide) (fun h106 => ?_) (fun h106 => ?_)
  · refine n_iconst dX12_done_113 (by decide) (fun r113 e113_z => ?_)
    refine r_iret dX12_done_114 rfl (Nat.le_of_ble_eq_true rfl) (Nat.le_of_ble_eq_true rfl) ?_
    first
      | (refine hQ _ ?_; rw [if_pos (by omega)]; omega)
      | (refine hQ _ ?_; rw [if_neg (by omega)]; omega)
  · refine n_iconst dX12_done_109 (by decide) (fun r109 e109_z => ?_)
    refine r_goto (t := 114) dX12_done_110 (by decide) ?_
    refine r_iret dX12_done_114 rfl (Nat.le_of_ble_eq_true rfl) (Nat.le_of_ble_eq_true rfl) ?_
    first
      | (refine hQ _ ?_; rw [if_pos (by omega)]; omega)
      | (refine hQ _ ?_; rw [if_neg (by omega)]; omega)
set_option maxHeartbeats 4000000 in
set_option maxRecDepth 100000 in
theorem s_X12_done2002 {g : zGT} {w : zW} {f : Nat → Nat → Int32} {j : Nat → Nat → Int64} {s : Int32} {a b : Int64} {Q : Option Value → zW → Prop} {QX : String → zW → Prop} (G : zGok g) (hs : s.toInt = 17) (ha_z : bdI a.toInt) (hb_z : bdI b.toInt) (h1 : a.toInt = 0 ∨ a.toInt = 1) (h2 : b.toInt = 0 ∨ b.toInt = 1) (hQ : ∀ r : Int32, r.toInt = opI 2002 a.toInt b.toInt → Q (some (.int r)) (zM w f j)) : zC g 2 yX12_done cX12_done 5 (some .int) [.int s, .long a, .long b] (zM w f j) (0, 0) Q QX := by
  refine zC_of G (by decide +kernel) (Nat.le_of_ble_eq_true rfl) ?_
  unfold bdI at ha_z hb_z
  skip
  have ho : opI 2002 a.toInt b.toInt = if a.toInt + b.toInt > 0 then 1 else 0 := rfl
  rw [ho] at hQ
  refine r_iload0 dX12_done_0 ?_
  refine n_tabD (t := 115) dX12_done_1 (by decide) (by omega) ?_
  refine r_lload1 dX12_done_115 ?_
  refine r_lload3 dX12_done_116 ?_
  refine n_ladd dX12_done_117 (by omega) (fun r117 e117_z => ?_)
  refine n_lconst (q := 0) dX12_done_118 rfl (by decide) (fun r118 e118_z => ?_)
  refine n_lcmp dX12_done_119 (fun r119 e119 => ?_)
  unfold zcmp at e119
  refine t_ifle (t := 127) dX12_done_120 (by decide) (fun h120 => ?_) (fun h120 => ?_)
  · refine n_iconst dX12_done_127 (by decide) (fun r127 e127_z => ?_)
    refine r_iret dX12_done_128 rfl (Nat.le_of_ble_eq_true rfl) (Nat.le_of_ble_eq_true rfl) ?_
    first
      | (refine hQ _ ?_; rw [if_pos (by omega)]; omega)
      | (refine hQ _ ?_; rw [if_neg (by omega)]; omega)
  · refine n_iconst dX12_done_123 (by decide) (fun r123 e123_z => ?_)
    refine r_goto (t := 128) dX12_done_124 (by decide) ?_
    refine r_iret dX12_done_128 rfl (Nat.le_of_ble_eq_true rfl) (Nat.le_of_ble_eq_true rfl) ?_
    first
      | (refine hQ _ ?_; rw [if_pos (by omega)]; omega)
      | (refine hQ _ ?_; rw [if_neg (by omega)]; omega)
set_option maxHeartbeats 4000000 in
set_option maxRecDepth 100000 in
theorem s_X12_done2003 {g : zGT} {w : zW} {f : Nat → Nat → Int32} {j : Nat → Nat → Int64} {s : Int32} {a b : Int64} {Q : Option Value → zW → Prop} {QX : String → zW → Prop} (G : zGok g) (hs : s.toInt = 10) (ha_z : bdI a.toInt) (hb_z : bdI b.toInt) (hQ : ∀ r : Int32, r.toInt = opI 2003 a.toInt b.toInt → Q (some (.int r)) (zM w f j)) : zC g 2 yX12_done cX12_done 5 (some .int) [.int s, .long a, .long b] (zM w f j) (0, 0) Q QX := by
  refine zC_of G (by decide +kernel) (Nat.le_of_ble_eq_true rfl) ?_
  unfold bdI at ha_z hb_z
  skip
  have ho : opI 2003 a.toInt b.toInt = clI (a.toInt + b.toInt) := rfl
  rw [ho] at hQ
  refine r_iload0 dX12_done_0 ?_
  refine n_tabC (k := 10) (t := 44) dX12_done_1 (by decide) rfl (by decide) (fun h1 => ?_) (fun h1 => False.elim (h1 (by omega)))
  refine r_lload1 dX12_done_44 ?_
  refine r_lload3 dX12_done_45 ?_
  refine n_ladd dX12_done_46 (by omega) (fun r46 e46 => ?_)
  refine q_callS1 zm_RX12_317 dX12_done_47 (Nat.le_of_ble_eq_true rfl) (Nat.le_of_ble_eq_true rfl) (Nat.le_of_ble_eq_true rfl) (Nat.le_of_ble_eq_true rfl) (Nat.le_of_ble_eq_true rfl) (s_X12_bound G  (fun r47 e47 => ?_))
  refine r_iret dX12_done_50 rfl (Nat.le_of_ble_eq_true rfl) (Nat.le_of_ble_eq_true rfl) ?_
  refine hQ _ ?_
  rw [e47, e46]
set_option maxHeartbeats 4000000 in
set_option maxRecDepth 100000 in
theorem s_X12_done2004 {g : zGT} {w : zW} {f : Nat → Nat → Int32} {j : Nat → Nat → Int64} {s : Int32} {a b : Int64} {Q : Option Value → zW → Prop} {QX : String → zW → Prop} (G : zGok g) (hs : s.toInt = 11) (ha_z : bdI a.toInt) (hb_z : bdI b.toInt) (hQ : ∀ r : Int32, r.toInt = opI 2004 a.toInt b.toInt → Q (some (.int r)) (zM w f j)) : zC g 2 yX12_done cX12_done 5 (some .int) [.int s, .long a, .long b] (zM w f j) (0, 0) Q QX := by
  refine zC_of G (by decide +kernel) (Nat.le_of_ble_eq_true rfl) ?_
  unfold bdI at ha_z hb_z
  skip
  have ho : opI 2004 a.toInt b.toInt = clI (a.toInt - b.toInt) := rfl
  rw [ho] at hQ
  refine r_iload0 dX12_done_0 ?_
  refine n_tabC (k := 11) (t := 51) dX12_done_1 (by decide) rfl (by decide) (fun h1 => ?_) (fun h1 => False.elim (h1 (by omega)))
  refine r_lload1 dX12_done_51 ?_
  refine r_lload3 dX12_done_52 ?_
  refine n_lsub dX12_done_53 (by omega) (fun r53 e53 => ?_)
  refine q_callS1 zm_RX12_317 dX12_done_54 (Nat.le_of_ble_eq_true rfl) (Nat.le_of_ble_eq_true rfl) (Nat.le_of_ble_eq_true rfl) (Nat.le_of_ble_eq_true rfl) (Nat.le_of_ble_eq_true rfl) (s_X12_bound G  (fun r54 e54 => ?_))
  refine r_iret dX12_done_57 rfl (Nat.le_of_ble_eq_true rfl) (Nat.le_of_ble_eq_true rfl) ?_
  refine hQ _ ?_
  rw [e54, e53]
set_option maxHeartbeats 4000000 in
set_option maxRecDepth 100000 in
theorem s_X12_done2005 {g : zGT} {w : zW} {f : Nat → Nat → Int32} {j : Nat → Nat → Int64} {s : Int32} {a b : Int64} {Q : Option Value → zW → Prop} {QX : String → zW → Prop} (G : zGok g) (hs : s.toInt = 12) (ha_z : bdI a.toInt) (hb_z : bdI b.toInt) (hQ : ∀ r : Int32, r.toInt = opI 2005 a.toInt b.toInt → Q (some (.int r)) (zM w f j)) : zC g 2 yX12_done cX12_done 5 (some .int) [.int s, .long a, .long b] (zM w f j) (0, 0) Q QX := by
  refine zC_of G (by decide +kernel) (Nat.le_of_ble_eq_true rfl) ?_
  unfold bdI at ha_z hb_z
  have hm_z := mul_bd (a := a.toInt) (b := b.toInt) ha_z hb_z
  have ho : opI 2005 a.toInt b.toInt = clI (a.toInt * b.toInt) := rfl
  rw [ho] at hQ
  refine r_iload0 dX12_done_0 ?_
  refine n_tabC (k := 12) (t := 58) dX12_done_1 (by decide) rfl (by decide) (fun h1 => ?_) (fun h1 => False.elim (h1 (by omega)))
  refine r_lload1 dX12_done_58 ?_
  refine r_lload3 dX12_done_59 ?_
  refine n_lmul dX12_done_60 (by omega) (fun r60 e60 => ?_)
  refine q_callS1 zm_RX12_317 dX12_done_61 (Nat.le_of_ble_eq_true rfl) (Nat.le_of_ble_eq_true rfl) (Nat.le_of_ble_eq_true rfl) (Nat.le_of_ble_eq_true rfl) (Nat.le_of_ble_eq_true rfl) (s_X12_bound G  (fun r61 e61 => ?_))
  refine r_iret dX12_done_64 rfl (Nat.le_of_ble_eq_true rfl) (Nat.le_of_ble_eq_true rfl) ?_
  refine hQ _ ?_
  rw [e61, e60]
set_option maxHeartbeats 4000000 in
set_option maxRecDepth 100000 in
theorem s_X12_done2006 {g : zGT} {w : zW} {f : Nat → Nat → Int32} {j : Nat → Nat → Int64} {s : Int32} {a b : Int64} {Q : Option Value → zW → Prop} {QX : String → zW → Prop} (G : zGok g) (hs : s.toInt = 13) (ha_z : bdI a.toInt) (hb_z : bdI b.toInt) (hQ : ∀ r : Int32, r.toInt = opI 2006 a.toInt b.toInt → Q (some (.int r)) (zM w f j)) : zC g 2 yX12_done cX12_done 5 (some .int) [.int s, .long a, .long b] (zM w f j) (0, 0) Q QX := by
  refine zC_of G (by decide +kernel) (Nat.le_of_ble_eq_true rfl) ?_
  unfold bdI at ha_z hb_z
  skip
  have ho : opI 2006 a.toInt b.toInt = if a.toInt = b.toInt then 1 else 0 := rfl
  rw [ho] at hQ
  refine r_iload0 dX12_done_0 ?_
  refine n_tabC (k := 13) (t := 65) dX12_done_1 (by decide) rfl (by decide) (fun h1 => ?_) (fun h1 => False.elim (h1 (by omega)))
  refine r_lload1 dX12_done_65 ?_
  refine r_lload3 dX12_done_66 ?_
  refine n_lcmp dX12_done_67 (fun r67 e67 => ?_)
  unfold zcmp at e67
  refine t_ifne (t := 75) dX12_done_68 (by decide) (fun h68 => ?_) (fun h68 => ?_)
  · refine n_iconst dX12_done_75 (by decide) (fun r75 e75 => ?_)
    refine r_iret dX12_done_76 rfl (Nat.le_of_ble_eq_true rfl) (Nat.le_of_ble_eq_true rfl) ?_
    first
      | (refine hQ _ ?_; rw [if_pos (by omega)]; omega)
      | (refine hQ _ ?_; rw [if_neg (by omega)]; omega)
  · refine n_iconst dX12_done_71 (by decide) (fun r71 e71_z => ?_)
    refine r_goto (t := 76) dX12_done_72 (by decide) ?_
    refine r_iret dX12_done_76 rfl (Nat.le_of_ble_eq_true rfl) (Nat.le_of_ble_eq_true rfl) ?_
    first
      | (refine hQ _ ?_; rw [if_pos (by omega)]; omega)
      | (refine hQ _ ?_; rw [if_neg (by omega)]; omega)
set_option maxHeartbeats 4000000 in
set_option maxRecDepth 100000 in
theorem s_X12_done2007 {g : zGT} {w : zW} {f : Nat → Nat → Int32} {j : Nat → Nat → Int64} {s : Int32} {a b : Int64} {Q : Option Value → zW → Prop} {QX : String → zW → Prop} (G : zGok g) (hs : s.toInt = 14) (ha_z : bdI a.toInt) (hb_z : bdI b.toInt) (hQ : ∀ r : Int32, r.toInt = opI 2007 a.toInt b.toInt → Q (some (.int r)) (zM w f j)) : zC g 2 yX12_done cX12_done 5 (some .int) [.int s, .long a, .long b] (zM w f j) (0, 0) Q QX := by
  refine zC_of G (by decide +kernel) (Nat.le_of_ble_eq_true rfl) ?_
  unfold bdI at ha_z hb_z
  skip
  have ho : opI 2007 a.toInt b.toInt = if a.toInt < b.toInt then 1 else 0 := rfl
  rw [ho] at hQ
  refine r_iload0 dX12_done_0 ?_
  refine n_tabC (k := 14) (t := 77) dX12_done_1 (by decide) rfl (by decide) (fun h1 => ?_) (fun h1 => False.elim (h1 (by omega)))
  refine r_lload1 dX12_done_77 ?_
  refine r_lload3 dX12_done_78 ?_
  refine n_lcmp dX12_done_79 (fun r79 e79 => ?_)
  unfold zcmp at e79
  refine t_ifge (t := 87) dX12_done_80 (by decide) (fun h80 => ?_) (fun h80 => ?_)
  · refine n_iconst dX12_done_87 (by decide) (fun r87 e87 => ?_)
    refine r_iret dX12_done_88 rfl (Nat.le_of_ble_eq_true rfl) (Nat.le_of_ble_eq_true rfl) ?_
    first
      | (refine hQ _ ?_; rw [if_pos (by omega)]; omega)
      | (refine hQ _ ?_; rw [if_neg (by omega)]; omega)
  · refine n_iconst dX12_done_83 (by decide) (fun r83 e83 => ?_)
    refine r_goto (t := 88) dX12_done_84 (by decide) ?_
    refine r_iret dX12_done_88 rfl (Nat.le_of_ble_eq_true rfl) (Nat.le_of_ble_eq_true rfl) ?_
    first
      | (refine hQ _ ?_; rw [if_pos (by omega)]; omega)
      | (refine hQ _ ?_; rw [if_neg (by omega)]; omega)
set_option maxHeartbeats 4000000 in
set_option maxRecDepth 100000 in
theorem s_X12_done2008 {g : zGT} {w : zW} {f : Nat → Nat → Int32} {j : Nat → Nat → Int64} {s : Int32} {a b : Int64} {Q : Option Value → zW → Prop} {QX : String → zW → Prop} (G : zGok g) (hs : s.toInt = 15) (ha_z : bdI a.toInt) (hb_z : bdI b.toInt) (hQ : ∀ r : Int32, r.toInt = opI 2008 a.toInt b.toInt → Q (some (.int r)) (zM w f j)) : zC g 2 yX12_done cX12_done 5 (some .int) [.int s, .long a, .long b] (zM w f j) (0, 0) Q QX := by
  refine zC_of G (by decide +kernel) (Nat.le_of_ble_eq_true rfl) ?_
  unfold bdI at ha_z hb_z
  skip
  have ho : opI 2008 a.toInt b.toInt = if a.toInt > b.toInt then 1 else 0 := rfl
  rw [ho] at hQ
  refine r_iload0 dX12_done_0 ?_
  refine n_tabC (k := 15) (t := 89) dX12_done_1 (by decide) rfl (by decide) (fun h1 => ?_) (fun h1 => False.elim (h1 (by omega)))
  refine r_lload1 dX12_done_89 ?_
  refine r_lload3 dX12_done_90 ?_
  refine n_lcmp dX12_done_91 (fun r91 e91 => ?_)
  unfold zcmp at e91
  refine t_ifle (t := 99) dX12_done_92 (by decide) (fun h92 => ?_) (fun h92 => ?_)
  · refine n_iconst dX12_done_99 (by decide) (fun r99 e99_z => ?_)
    refine r_iret dX12_done_100 rfl (Nat.le_of_ble_eq_true rfl) (Nat.le_of_ble_eq_true rfl) ?_
    first
      | (refine hQ _ ?_; rw [if_pos (by omega)]; omega)
      | (refine hQ _ ?_; rw [if_neg (by omega)]; omega)
  · refine n_iconst dX12_done_95 (by decide) (fun r95 e95_z => ?_)
    refine r_goto (t := 100) dX12_done_96 (by decide) ?_
    refine r_iret dX12_done_100 rfl (Nat.le_of_ble_eq_true rfl) (Nat.le_of_ble_eq_true rfl) ?_
    first
      | (refine hQ _ ?_; rw [if_pos (by omega)]; omega)
      | (refine hQ _ ?_; rw [if_neg (by omega)]; omega)
theorem s_X12_done {g : zGT} {w : zW} {f : Nat → Nat → Int32} {j : Nat → Nat → Int64} {s : Int32} {a b : Int64} {o : Nat} {Q : Option Value → zW → Prop} {QX : String → zW → Prop} (G : zGok g) (ho : 2001 ≤ o ∧ o ≤ 2008) (hs : s.toInt = (rfO o : Nat)) (ha_z : bdI a.toInt) (hb_z : bdI b.toInt) (h01 : o = 2001 ∨ o = 2002 → (a.toInt = 0 ∨ a.toInt = 1) ∧ (b.toInt = 0 ∨ b.toInt = 1)) (hQ : ∀ r : Int32, r.toInt = opI o a.toInt b.toInt → Q (some (.int r)) (zM w f j)) : zC g 2 yX12_done cX12_done 5 (some .int) [.int s, .long a, .long b] (zM w f j) (0, 0) Q QX := by
  rcases (show o = 2001 ∨ o = 2002 ∨ o = 2003 ∨ o = 2004 ∨ o = 2005 ∨ o = 2006 ∨ o = 2007 ∨ o = 2008 by omega) with rfl | rfl | rfl | rfl | rfl | rfl | rfl | rfl
  · exact s_X12_done2001 G hs ha_z hb_z (h01 (Or.inl rfl)).1 (h01 (Or.inl rfl)).2 hQ
  · exact s_X12_done2002 G hs ha_z hb_z (h01 (Or.inr rfl)).1 (h01 (Or.inr rfl)).2 hQ
  · exact s_X12_done2003 G hs ha_z hb_z hQ
  · exact s_X12_done2004 G hs ha_z hb_z hQ
  · exact s_X12_done2005 G hs ha_z hb_z hQ
  · exact s_X12_done2006 G hs ha_z hb_z hQ
  · exact s_X12_done2007 G hs ha_z hb_z hQ
  · exact s_X12_done2008 G hs ha_z hb_z hQ
theorem rfO_n {o : Nat} (h_z : o < 1000) : rfO o = 1000 + o := if_pos h_z
theorem rfO_f {o : Nat} (h_z : 1000 ≤ o) (h2 : o < 2000) : rfO o = o - 900 := by
  unfold rfO
  rw [if_neg (by omega), if_pos h2]
theorem rfO_o {o : Nat} (h_z : 2001 ≤ o) : 10 ≤ rfO o ∧ rfO o ≤ 17 := by
  unfold rfO
  rw [if_neg (by omega), if_neg (by omega), if_neg (by omega)]
  repeat' split
  all_goals omega
theorem lwRun_cons {F : Nat → Int} {o : Nat} {l : List Nat} {s u : List Int} (h_z : lwRun F (o :: l) s = some u) : ∃ t, lwStep F o s = some t ∧ lwRun F l t = some u := by
  unfold lwRun at h_z
  split at h_z
  · rename_i t ht
    exact ⟨t, ht, h_z⟩
  · cases h_z
theorem lwRun_at {F : Nat → Int} {l : List Nat} {s u : List Int} {k o : Nat} (h_z : lwRun F (l.drop k) s = some u) (hk : l[k]? = some o) : ∃ t, lwStep F o s = some t ∧ lwRun F (l.drop (k + 1)) t = some u := by
  have hl := (List.getElem?_eq_some_iff.mp hk).1
  have e : l.drop k = o :: l.drop (k + 1) := by
    rw [List.drop_eq_getElem_cons hl]
    congr 1
    exact Option.some.inj ((List.getElem?_eq_getElem hl).symm.trans hk)
  rw [e] at h_z
  exact lwRun_cons h_z
set_option maxHeartbeats 4000000 in
set_option maxRecDepth 100000 in
theorem s_X12_lawOf {g : zGT} {w : zW} {f : Nat → Nat → Int32} {j : Nat → Nat → Int64} {A : Nat} {F : Nat → Int} {l : List Nat} {m a : Nat} {x y : Int32} {v : Int} {Q : Option Value → zW → Prop} {QX : String → zW → Prop} (G : zGok g) (hs : shM w A) (hx : x.toInt = (m : Nat)) (hm_z : m < 6) (hy : y.toInt = (a : Nat)) (ha_z : a + l.length ≤ 2912) (hl9 : l.length ≤ 900) (hm0 : (f (A + 1) m).toInt = (l.length : Nat)) (hlw : ∀ i o, l[i]? = some o → (f (A + 1) (a + i)).toInt = (rfO o : Nat)) (hF : bdF F) (has_z : ∀ k, k < 8 → 1000 + k ∈ l → (f (A + 9) k).toInt = F k) (hne : l ≠ []) (hrun : lwRun F l [] = some [v]) (hQ : ∀ (r : Int32) f2_z, r.toInt = v → frM A [8] [] f f2_z → Q (some (.int r)) (zM w f2_z j)) : zC g 3 yX12_lawOf cX12_lawOf 6 (some .int) [.ref A, .int x, .int y] (zM w f j) (0, 0) Q QX := by
  refine zC_of G (by decide +kernel) (Nat.le_of_ble_eq_true rfl) ?_
  have lp : ∀ (mz : Nat) (n : Int32) (c : Int32) (k : Nat) (f2_z : Nat → Nat → Int32) (s : List Int) (v5_ : Option Value), c.toInt = (k : Nat) → k ≤ l.length → n.toInt = (s.length : Nat) → frM A [8] [] f f2_z → lwRun F (l.drop k) s = some [v] → (∀ v ∈ s, bdI v) → s.length ≤ 64 → stkR (f2_z (A + 8)) s → l.length - k < mz → zR (zV g 3 yX12_lawOf 6 (some .int) (0, 0) Q QX) cX12_lawOf yX12_lawOf.cls 5 [some (.ref A), some (.int x), some (.int y), some (.int n), some (.int c), v5_] [] (zM w f2_z j) (0, 0) := by
    intro mz
    induction mz with
    | zero =>
      intro n c k f2_z s v5_ hc_z hk hn hfr hrn hbd hl64 hstk hmz
      exact absurd hmz (Nat.not_lt_zero _)
    | succ mz ih =>
      intro n c k f2_z s v5_ hc_z hk hn hfr hrn hbd hl64 hstk hmz
      have hK_z : f2_z (A + 1) = f (A + 1) := hfr.2.1 1 (by decide) (by decide) (by decide)
      have hK9 : f2_z (A + 9) = f (A + 9) := hfr.2.1 9 (by decide) (by decide) (by decide)
      have hm2 : (f2_z (A + 1) m).toInt = (l.length : Nat) := by rw [hK_z]; exact hm0
      rcases Nat.lt_or_ge k l.length with hkl | hkl
      · obtain ⟨o, ho⟩ : ∃ o, l[k]? = some o := ⟨_, List.getElem?_eq_getElem hkl⟩
        have how : (f2_z (A + 1) (a + k)).toInt = (rfO o : Nat) := by rw [hK_z]; exact hlw k o ho
        obtain ⟨t, ht1, ht2⟩ := lwRun_at hrn ho
        have htb := lwStep_bd hF hbd hl64 ht1
        rcases lwStep_ca ht1 with ⟨q1_z, q2_z, q3_z⟩ | ⟨q1_z, q2_z, q3_z, q4_z⟩ | ⟨q1_z, z, u, q2_z, q3_z, q4_z⟩ | ⟨q1_z, q2_z, b, z, u, q3_z, q4_z, q5_z⟩
        · have hro := rfO_n q1_z
          rw [hro] at how
          refine r_iload4 dX12_lawOf_5 ?_
          refine r_aloadR0 dX12_lawOf_7 ?_
          refine m_getR (q := (A + 1)) zf_RX12_9 rfl dX12_lawOf_8 (shM_k hs) (shM_p1 hs) ?_
          refine r_iload1 dX12_lawOf_11 ?_
          refine m_iald (k := m) (x := (f2_z (A + 1) m)) dX12_lawOf_12 (shM_k1 hs) (shM_n1 hs) (by omega) (by omega) (rfl) ?_
          refine t_icge (t := 139) dX12_lawOf_13 (by decide) (fun h13 => False.elim (by omega)) (fun h13 => ?_)
          refine r_aloadR0 dX12_lawOf_16 ?_
          refine m_getR (q := (A + 1)) zf_RX12_9 rfl dX12_lawOf_17 (shM_k hs) (shM_p1 hs) ?_
          refine r_iload2 dX12_lawOf_20 ?_
          refine r_iload4 dX12_lawOf_21 ?_
          refine n_iadd dX12_lawOf_23 (by omega) (fun r23 e23_z => ?_)
          refine m_iald (k := a + k) (x := (f2_z (A + 1) (a + k))) dX12_lawOf_24 (shM_k1 hs) (shM_n1 hs) (by omega) (by omega) (rfl) ?_
          refine r_istore5 dX12_lawOf_25 rfl ?_
          refine r_iload5 dX12_lawOf_27 ?_
          refine n_bipush dX12_lawOf_29 (by decide) (fun r29 e29 => ?_)
          refine t_iclt (t := 73) dX12_lawOf_31 (by decide) (fun h31 => False.elim (by omega)) (fun h31 => ?_)
          refine r_aloadR0 dX12_lawOf_34 ?_
          refine m_getR (q := (A + 8)) zf_RX12_36 rfl dX12_lawOf_35 (shM_k hs) (shM_p8 hs) ?_
          refine r_iload3 dX12_lawOf_38 ?_
          refine r_iload5 dX12_lawOf_39 ?_
          refine n_sipush dX12_lawOf_41 (by decide) (fun r41 e41_z => ?_)
          refine t_iclt (t := 56) dX12_lawOf_44 (by decide) (fun h44 => False.elim (by omega)) (fun h44 => ?_)
          refine r_iload5 dX12_lawOf_47 ?_
          refine n_sipush dX12_lawOf_49 (by decide) (fun r49 e49 => ?_)
          refine n_isub dX12_lawOf_52 (by omega) (fun r52 e52 => ?_)
          refine r_goto (t := 66) dX12_lawOf_53 (by decide) ?_
          have hst2 : stkR (zu f2_z (A + 8) s.length r52 (A + 8)) t := by rw [q3_z]; exact stkR_push hstk (by omega)
          refine m_iast (k := s.length) dX12_lawOf_66 (shM_k8 hs) (shM_n8 hs) (by omega) (by omega) ?_
          have hst2 : stkR (zu f2_z (A + 8) s.length r52 (A + 8)) t := by rw [q3_z]; exact stkR_push hstk (by omega)
          refine n_iinc3 dX12_lawOf_67 (by decide) rfl (by omega) (fun r67 e67 => ?_)
          refine r_goto (t := 133) dX12_lawOf_70 (by decide) ?_
          refine n_iinc4 dX12_lawOf_133 (by decide) rfl (by omega) (fun r133 e133 => ?_)
          refine r_goto (t := 5) dX12_lawOf_136 (by decide) ?_
          exact ih _ _ (k + 1) _ t _ (by omega) (by omega) (by rw [q3_z, List.length_cons]; omega) (frM_zr hfr (by decide) (by decide) (by decide)) ht2 htb.1 htb.2 hst2 (by omega)
        · have hro := rfO_f q1_z (by omega)
          rw [hro] at how
          have hfv := has_z (o - 1000) (by omega) (by rw [show 1000 + (o - 1000) = o by omega]; exact List.mem_of_getElem? ho)
          rw [← hK9] at hfv
          refine r_iload4 dX12_lawOf_5 ?_
          refine r_aloadR0 dX12_lawOf_7 ?_
          refine m_getR (q := (A + 1)) zf_RX12_9 rfl dX12_lawOf_8 (shM_k hs) (shM_p1 hs) ?_
          refine r_iload1 dX12_lawOf_11 ?_
          refine m_iald (k := m) (x := (f2_z (A + 1) m)) dX12_lawOf_12 (shM_k1 hs) (shM_n1 hs) (by omega) (by omega) (rfl) ?_
          refine t_icge (t := 139) dX12_lawOf_13 (by decide) (fun h13 => False.elim (by omega)) (fun h13 => ?_)
          refine r_aloadR0 dX12_lawOf_16 ?_
          refine m_getR (q := (A + 1)) zf_RX12_9 rfl dX12_lawOf_17 (shM_k hs) (shM_p1 hs) ?_
          refine r_iload2 dX12_lawOf_20 ?_
          refine r_iload4 dX12_lawOf_21 ?_
          refine n_iadd dX12_lawOf_23 (by omega) (fun r23 e23_z => ?_)
          refine m_iald (k := a + k) (x := (f2_z (A + 1) (a + k))) dX12_lawOf_24 (shM_k1 hs) (shM_n1 hs) (by omega) (by omega) (rfl) ?_
          refine r_istore5 dX12_lawOf_25 rfl ?_
          refine r_iload5 dX12_lawOf_27 ?_
          refine n_bipush dX12_lawOf_29 (by decide) (fun r29 e29 => ?_)
          refine t_iclt (t := 73) dX12_lawOf_31 (by decide) (fun h31 => False.elim (by omega)) (fun h31 => ?_)
          refine r_aloadR0 dX12_lawOf_34 ?_
          refine m_getR (q := (A + 8)) zf_RX12_36 rfl dX12_lawOf_35 (shM_k hs) (shM_p8 hs) ?_
          refine r_iload3 dX12_lawOf_38 ?_
          refine r_iload5 dX12_lawOf_39 ?_
          refine n_sipush dX12_lawOf_41 (by decide) (fun r41 e41_z => ?_)
          refine t_iclt (t := 56) dX12_lawOf_44 (by decide) (fun h44 => ?_) (fun h44 => False.elim (by omega))
          refine r_aloadR0 dX12_lawOf_56 ?_
          refine m_getR (q := (A + 9)) zf_RX12_39 rfl dX12_lawOf_57 (shM_k hs) (shM_p9 hs) ?_
          refine r_iload5 dX12_lawOf_60 ?_
          refine n_bipush dX12_lawOf_62 (by decide) (fun r62 e62 => ?_)
          refine n_isub dX12_lawOf_64 (by omega) (fun r64 e64 => ?_)
          refine m_iald (k := (o - 1000)) (x := (f2_z (A + 9) ((o - 1000)))) dX12_lawOf_65 (shM_k9 hs) (shM_n9 hs) (by omega) (by omega) (rfl) ?_
          refine m_iast (k := s.length) dX12_lawOf_66 (shM_k8 hs) (shM_n8 hs) (by omega) (by omega) ?_
          have hst2 : stkR (zu f2_z (A + 8) s.length (f2_z (A + 9) (o - 1000)) (A + 8)) t := by rw [q4_z]; exact stkR_push hstk hfv
          refine n_iinc3 dX12_lawOf_67 (by decide) rfl (by omega) (fun r67 e67 => ?_)
          refine r_goto (t := 133) dX12_lawOf_70 (by decide) ?_
          refine n_iinc4 dX12_lawOf_133 (by decide) rfl (by omega) (fun r133 e133 => ?_)
          refine r_goto (t := 5) dX12_lawOf_136 (by decide) ?_
          exact ih _ _ (k + 1) _ t _ (by omega) (by omega) (by rw [q4_z, List.length_cons]; omega) (frM_zr hfr (by decide) (by decide) (by decide)) ht2 htb.1 htb.2 hst2 (by omega)
        · have hro : rfO o = 18 := by rw [q1_z]; rfl
          rw [hro] at how
          subst q2_z
          rw [List.length_cons] at hn hl64
          have htop := stkR_top hstk
          refine r_iload4 dX12_lawOf_5 ?_
          refine r_aloadR0 dX12_lawOf_7 ?_
          refine m_getR (q := (A + 1)) zf_RX12_9 rfl dX12_lawOf_8 (shM_k hs) (shM_p1 hs) ?_
          refine r_iload1 dX12_lawOf_11 ?_
          refine m_iald (k := m) (x := (f2_z (A + 1) m)) dX12_lawOf_12 (shM_k1 hs) (shM_n1 hs) (by omega) (by omega) (rfl) ?_
          refine t_icge (t := 139) dX12_lawOf_13 (by decide) (fun h13 => False.elim (by omega)) (fun h13 => ?_)
          refine r_aloadR0 dX12_lawOf_16 ?_
          refine m_getR (q := (A + 1)) zf_RX12_9 rfl dX12_lawOf_17 (shM_k hs) (shM_p1 hs) ?_
          refine r_iload2 dX12_lawOf_20 ?_
          refine r_iload4 dX12_lawOf_21 ?_
          refine n_iadd dX12_lawOf_23 (by omega) (fun r23 e23_z => ?_)
          refine m_iald (k := a + k) (x := (f2_z (A + 1) (a + k))) dX12_lawOf_24 (shM_k1 hs) (shM_n1 hs) (by omega) (by omega) (rfl) ?_
          refine r_istore5 dX12_lawOf_25 rfl ?_
          refine r_iload5 dX12_lawOf_27 ?_
          refine n_bipush dX12_lawOf_29 (by decide) (fun r29 e29 => ?_)
          refine t_iclt (t := 73) dX12_lawOf_31 (by decide) (fun h31 => ?_) (fun h31 => False.elim (by omega))
          refine r_iload5 dX12_lawOf_73 ?_
          refine n_bipush dX12_lawOf_75 (by decide) (fun r75 e75 => ?_)
          refine t_icne (t := 101) dX12_lawOf_77 (by decide) (fun h77 => False.elim (by omega)) (fun h77 => ?_)
          refine r_aloadR0 dX12_lawOf_80 ?_
          refine m_getR (q := (A + 8)) zf_RX12_36 rfl dX12_lawOf_81 (shM_k hs) (shM_p8 hs) ?_
          refine r_iload3 dX12_lawOf_84 ?_
          refine n_iconst dX12_lawOf_85 (by decide) (fun r85 e85 => ?_)
          refine n_isub dX12_lawOf_86 (by omega) (fun r86 e86 => ?_)
          refine n_iconst dX12_lawOf_87 (by decide) (fun r87 e87 => ?_)
          refine r_aloadR0 dX12_lawOf_88 ?_
          refine m_getR (q := (A + 8)) zf_RX12_36 rfl dX12_lawOf_89 (shM_k hs) (shM_p8 hs) ?_
          refine r_iload3 dX12_lawOf_92 ?_
          refine n_iconst dX12_lawOf_93 (by decide) (fun r93 e93_z => ?_)
          refine n_isub dX12_lawOf_94 (by omega) (fun r94 e94_z => ?_)
          refine m_iald (k := u.length) (x := (f2_z (A + 8) u.length)) dX12_lawOf_95 (shM_k8 hs) (shM_n8 hs) (by omega) (by omega) (rfl) ?_
          refine n_isub dX12_lawOf_96 (by omega) (fun r96 e96 => ?_)
          refine m_iast (k := u.length) dX12_lawOf_97 (shM_k8 hs) (shM_n8 hs) (by omega) (by omega) ?_
          have hst2 : stkR (zu f2_z (A + 8) u.length r96 (A + 8)) t := by rw [q4_z]; exact stkR_set hstk (by omega)
          refine r_goto (t := 133) dX12_lawOf_98 (by decide) ?_
          refine n_iinc4 dX12_lawOf_133 (by decide) rfl (by omega) (fun r133 e133 => ?_)
          refine r_goto (t := 5) dX12_lawOf_136 (by decide) ?_
          exact ih _ _ (k + 1) _ t _ (by omega) (by omega) (by rw [q4_z, List.length_cons]; omega) (frM_zr hfr (by decide) (by decide) (by decide)) ht2 htb.1 htb.2 hst2 (by omega)
        · have hro := rfO_o q1_z
          subst q3_z
          rw [List.length_cons, List.length_cons] at hn hl64
          have htop := stkR_top hstk
          rw [List.length_cons] at htop
          have htop2 := stkR_top (stkR_pop hstk)
          have hbb := hbd b List.mem_cons_self
          have hbz := hbd z (List.mem_cons_of_mem _ List.mem_cons_self)
          refine r_iload4 dX12_lawOf_5 ?_
          refine r_aloadR0 dX12_lawOf_7 ?_
          refine m_getR (q := (A + 1)) zf_RX12_9 rfl dX12_lawOf_8 (shM_k hs) (shM_p1 hs) ?_
          refine r_iload1 dX12_lawOf_11 ?_
          refine m_iald (k := m) (x := (f2_z (A + 1) m)) dX12_lawOf_12 (shM_k1 hs) (shM_n1 hs) (by omega) (by omega) (rfl) ?_
          refine t_icge (t := 139) dX12_lawOf_13 (by decide) (fun h13 => False.elim (by omega)) (fun h13 => ?_)
          refine r_aloadR0 dX12_lawOf_16 ?_
          refine m_getR (q := (A + 1)) zf_RX12_9 rfl dX12_lawOf_17 (shM_k hs) (shM_p1 hs) ?_
          refine r_iload2 dX12_lawOf_20 ?_
          refine r_iload4 dX12_lawOf_21 ?_
          refine n_iadd dX12_lawOf_23 (by omega) (fun r23 e23_z => ?_)
          refine m_iald (k := a + k) (x := (f2_z (A + 1) (a + k))) dX12_lawOf_24 (shM_k1 hs) (shM_n1 hs) (by omega) (by omega) (rfl) ?_
          refine r_istore5 dX12_lawOf_25 rfl ?_
          refine r_iload5 dX12_lawOf_27 ?_
          refine n_bipush dX12_lawOf_29 (by decide) (fun r29 e29 => ?_)
          refine t_iclt (t := 73) dX12_lawOf_31 (by decide) (fun h31 => ?_) (fun h31 => False.elim (by omega))
          refine r_iload5 dX12_lawOf_73 ?_
          refine n_bipush dX12_lawOf_75 (by decide) (fun r75 e75 => ?_)
          refine t_icne (t := 101) dX12_lawOf_77 (by decide) (fun h77 => ?_) (fun h77 => False.elim (by omega))
          refine n_iinc3 dX12_lawOf_101 (by decide) rfl (by omega) (fun r101 e101 => ?_)
          refine r_aloadR0 dX12_lawOf_104 ?_
          refine m_getR (q := (A + 8)) zf_RX12_36 rfl dX12_lawOf_105 (shM_k hs) (shM_p8 hs) ?_
          refine r_iload3 dX12_lawOf_108 ?_
          refine n_iconst dX12_lawOf_109 (by decide) (fun r109 e109_z => ?_)
          refine n_isub dX12_lawOf_110 (by omega) (fun r110 e110 => ?_)
          refine r_iload5 dX12_lawOf_111 ?_
          refine r_aloadR0 dX12_lawOf_113 ?_
          refine m_getR (q := (A + 8)) zf_RX12_36 rfl dX12_lawOf_114 (shM_k hs) (shM_p8 hs) ?_
          refine r_iload3 dX12_lawOf_117 ?_
          refine n_iconst dX12_lawOf_118 (by decide) (fun r118 e118_z => ?_)
          refine n_isub dX12_lawOf_119 (by omega) (fun r119 e119 => ?_)
          refine m_iald (k := u.length) (x := (f2_z (A + 8) u.length)) dX12_lawOf_120 (shM_k8 hs) (shM_n8 hs) (by omega) (by omega) (rfl) ?_
          refine n_i2l dX12_lawOf_121 (fun r121 e121 => ?_)
          refine r_aloadR0 dX12_lawOf_122 ?_
          refine m_getR (q := (A + 8)) zf_RX12_36 rfl dX12_lawOf_123 (shM_k hs) (shM_p8 hs) ?_
          refine r_iload3 dX12_lawOf_126 ?_
          refine m_iald (k := u.length + 1) (x := (f2_z (A + 8) (u.length + 1))) dX12_lawOf_127 (shM_k8 hs) (shM_n8 hs) (by omega) (by omega) (rfl) ?_
          refine n_i2l dX12_lawOf_128 (fun r128 e128 => ?_)
          refine q_callS3 zm_RX12_321 dX12_lawOf_129 (Nat.le_of_ble_eq_true rfl) (Nat.le_of_ble_eq_true rfl) (Nat.le_of_ble_eq_true rfl) (Nat.le_of_ble_eq_true rfl) (Nat.le_of_ble_eq_true rfl) (s_X12_done (o := o) G ⟨q1_z, q2_z⟩ how (by rw [e121, htop2]; exact hbz) (by rw [e128, htop]; exact hbb) (fun e => by rw [e121, e128, htop, htop2]; exact q5_z e) (fun r129 e129 => ?_))
          refine m_iast (k := u.length) dX12_lawOf_132 (shM_k8 hs) (shM_n8 hs) (by omega) (by omega) ?_
          have hst2 : stkR (zu f2_z (A + 8) u.length r129 (A + 8)) t := by rw [q4_z]; exact stkR_set (stkR_pop hstk) (by rw [e129, e121, e128, htop, htop2])
          refine n_iinc4 dX12_lawOf_133 (by decide) rfl (by omega) (fun r133 e133 => ?_)
          refine r_goto (t := 5) dX12_lawOf_136 (by decide) ?_
          exact ih _ _ (k + 1) _ t _ (by omega) (by omega) (by rw [q4_z, List.length_cons]; omega) (frM_zr hfr (by decide) (by decide) (by decide)) ht2 htb.1 htb.2 hst2 (by omega)
      · have e : l.drop k = [] := List.drop_of_length_le hkl
        rw [e] at hrn
        have e2_z : s = [v] := Option.some.inj hrn
        subst e2_z
        have htop := stkR_top hstk
        refine r_iload4 dX12_lawOf_5 ?_
        refine r_aloadR0 dX12_lawOf_7 ?_
        refine m_getR (q := (A + 1)) zf_RX12_9 rfl dX12_lawOf_8 (shM_k hs) (shM_p1 hs) ?_
        refine r_iload1 dX12_lawOf_11 ?_
        refine m_iald (k := m) (x := (f2_z (A + 1) m)) dX12_lawOf_12 (shM_k1 hs) (shM_n1 hs) (by omega) (by omega) (rfl) ?_
        refine t_icge (t := 139) dX12_lawOf_13 (by decide) (fun h13 => ?_) (fun h13 => False.elim (by omega))
        refine r_aloadR0 dX12_lawOf_139 ?_
        refine m_getR (q := (A + 8)) zf_RX12_36 rfl dX12_lawOf_140 (shM_k hs) (shM_p8 hs) ?_
        refine n_iconst dX12_lawOf_143 (by decide) (fun r143 e143 => ?_)
        refine m_iald (k := 0) (x := (f2_z (A + 8) 0)) dX12_lawOf_144 (shM_k8 hs) (shM_n8 hs) (by omega) (by omega) (rfl) ?_
        refine r_iret dX12_lawOf_145 rfl (Nat.le_of_ble_eq_true rfl) (Nat.le_of_ble_eq_true rfl) ?_
        exact hQ _ f2_z htop hfr
  refine n_iconst dX12_lawOf_0 (by decide) (fun r0 e0_z => ?_)
  refine r_istore3 dX12_lawOf_1 rfl ?_
  refine n_iconst dX12_lawOf_2 (by decide) (fun r2 e2_z => ?_)
  refine r_istore4 dX12_lawOf_3 rfl ?_
  exact lp (l.length + 1) _ _ 0 f [] none e2_z (by omega) (by rw [e0_z]; rfl) frM_rf hrun (fun v hv => absurd hv List.not_mem_nil) (by simp) (fun i v hv => by simp at hv) (by omega)
set_option maxHeartbeats 4000000 in
set_option maxRecDepth 100000 in
theorem s_X12_asks {g : zGT} {w : zW} {f : Nat → Nat → Int32} {j : Nat → Nat → Int64} {A : Nat} {d n : Nat} {x : Int32} {L : zLy} {mk : Nat → Nat} {Q : Option Value → zW → Prop} {QX : String → zW → Prop} (G : zGok g) (hs : shM w A) (hn : (f (A + 1) 1).toInt = (n : Nat)) (hM_z : ∀ c, c < 6 → (f (A + 1) (13 + c)).toInt = (mk (2 * c) : Nat) ∧ (f (A + 1) (19 + c)).toInt = (mk (2 * c + 1) : Nat)) (hm9 : ∀ i, mk i ≤ 99) (hx : x.toInt = (d : Nat)) (hd_z : d < 11) (hLi : ctLi (f (A + 6)) d L) (hr : rch n L) (hQ : ∀ f2_z, frM A [9] [] f f2_z → (∀ k, k < 6 → (f2_z (A + 9) k).toInt = fctN mk n L d 0 0 k) → (∀ k, 6 ≤ k → f2_z (A + 9) k = f (A + 9) k) → Q none (zM w f2_z j)) : zC g 5 yX12_asks cX12_asks 2 none [.ref A, .int x] (zM w f j) (0, 0) Q QX := by
  refine zC_of G (by decide +kernel) (Nat.le_of_ble_eq_true rfl) ?_
  have hcell := rch_cell hr
  have hn6 := rch_le hr
  refine r_aloadR0 dX12_asks_0 ?_
  refine m_getR (q := (A + 9)) zf_RX12_39 rfl dX12_asks_1 (shM_k hs) (shM_p9 hs) ?_
  refine n_iconst dX12_asks_4 (by decide) (fun r4 e4_z => ?_)
  refine r_aloadR0 dX12_asks_5 ?_
  refine r_iload1 dX12_asks_6 ?_
  refine q_callV1 zm_RX12_256 dX12_asks_7 (shM_k hs) (by decide) rfl (Nat.le_of_ble_eq_true rfl) (Nat.le_of_ble_eq_true rfl) (Nat.le_of_ble_eq_true rfl) (Nat.le_of_ble_eq_true rfl) (Nat.le_of_ble_eq_true rfl) (s_X12_columnsAt G hs hx hd_z hLi.1 (fun r7 e7_z => ?_))
  refine m_iast (k := 0) dX12_asks_10 (shM_k9 hs) (shM_n9 hs) (by omega) (by omega) ?_
  obtain ⟨g1, hg1⟩ : ∃ g1, g1 = zu f (A + 9) 0 r7 := ⟨_, rfl⟩
  rw [← hg1]
  have frg1 : frM A [9] [] f g1 := by rw [hg1]; exact frM_zr frM_rf (by decide) (by decide) (by decide)
  have ag1 : ∀ r, 1 ≤ r → r ≤ 20 → r ≠ 9 → g1 (A + r) = f (A + r) := fun r h1 h2 h3 => frg1.2.1 r h1 h2 (by simpa using h3)
  have vg1 : ∀ i, g1 (A + 9) i = if i = 0 then r7 else f (A + 9) i := fun i => by rw [hg1, zu_s2]
  have hng1 : (g1 (A + 1) 1).toInt = (n : Nat) := by rw [ag1 1 (by decide) (by decide) (by decide)]; exact hn
  have hMg1 : ∀ c, c < 6 → (g1 (A + 1) (13 + c)).toInt = (mk (2 * c) : Nat) ∧ (g1 (A + 1) (19 + c)).toInt = (mk (2 * c + 1) : Nat) := by rw [ag1 1 (by decide) (by decide) (by decide)]; exact hM_z
  have hLg1 : ctLi (g1 (A + 6)) d L := by rw [ag1 6 (by decide) (by decide) (by decide)]; exact hLi
  refine r_aloadR0 dX12_asks_11 ?_
  refine m_getR (q := (A + 9)) zf_RX12_39 rfl dX12_asks_12 (shM_k hs) (shM_p9 hs) ?_
  refine n_iconst dX12_asks_15 (by decide) (fun r15 e15_z => ?_)
  refine r_aloadR0 dX12_asks_16 ?_
  refine r_iload1 dX12_asks_17 ?_
  refine q_callV1 zm_RX12_325 dX12_asks_18 (shM_k hs) (by decide) rfl (Nat.le_of_ble_eq_true rfl) (Nat.le_of_ble_eq_true rfl) (Nat.le_of_ble_eq_true rfl) (Nat.le_of_ble_eq_true rfl) (Nat.le_of_ble_eq_true rfl) (s_X12_highestAt G hs hx hd_z hLg1 hr (fun r18 e18_z => ?_))
  refine m_iast (k := 1) dX12_asks_21 (shM_k9 hs) (shM_n9 hs) (by omega) (by omega) ?_
  obtain ⟨g2, hg2⟩ : ∃ g2, g2 = zu g1 (A + 9) 1 r18 := ⟨_, rfl⟩
  rw [← hg2]
  have frg2 : frM A [9] [] f g2 := by rw [hg2]; exact frM_zr frg1 (by decide) (by decide) (by decide)
  have ag2 : ∀ r, 1 ≤ r → r ≤ 20 → r ≠ 9 → g2 (A + r) = f (A + r) := fun r h1 h2 h3 => frg2.2.1 r h1 h2 (by simpa using h3)
  have vg2 : ∀ i, g2 (A + 9) i = if i = 1 then r18 else g1 (A + 9) i := fun i => by rw [hg2, zu_s2]
  have hng2 : (g2 (A + 1) 1).toInt = (n : Nat) := by rw [ag2 1 (by decide) (by decide) (by decide)]; exact hn
  have hMg2 : ∀ c, c < 6 → (g2 (A + 1) (13 + c)).toInt = (mk (2 * c) : Nat) ∧ (g2 (A + 1) (19 + c)).toInt = (mk (2 * c + 1) : Nat) := by rw [ag2 1 (by decide) (by decide) (by decide)]; exact hM_z
  have hLg2 : ctLi (g2 (A + 6)) d L := by rw [ag2 6 (by decide) (by decide) (by decide)]; exact hLi
  refine r_aloadR0 dX12_asks_22 ?_
  refine m_getR (q := (A + 9)) zf_RX12_39 rfl dX12_asks_23 (shM_k hs) (shM_p9 hs) ?_
  refine n_iconst dX12_asks_26 (by decide) (fun r26 e26_z => ?_)
  refine r_iload1 dX12_asks_27 ?_
  refine m_iast (k := 2) dX12_asks_28 (shM_k9 hs) (shM_n9 hs) (by omega) (by omega) ?_
  obtain ⟨g3_z, hg3⟩ : ∃ g3_z, g3_z = zu g2 (A + 9) 2 x := ⟨_, rfl⟩
  rw [← hg3]
  have frg3 : frM A [9] [] f g3_z := by rw [hg3]; exact frM_zr frg2 (by decide) (by decide) (by decide)
  have ag3 : ∀ r, 1 ≤ r → r ≤ 20 → r ≠ 9 → g3_z (A + r) = f (A + r) := fun r h1 h2 h3 => frg3.2.1 r h1 h2 (by simpa using h3)
  have vg3 : ∀ i, g3_z (A + 9) i = if i = 2 then x else g2 (A + 9) i := fun i => by rw [hg3, zu_s2]
  have hng3 : (g3_z (A + 1) 1).toInt = (n : Nat) := by rw [ag3 1 (by decide) (by decide) (by decide)]; exact hn
  have hMg3 : ∀ c, c < 6 → (g3_z (A + 1) (13 + c)).toInt = (mk (2 * c) : Nat) ∧ (g3_z (A + 1) (19 + c)).toInt = (mk (2 * c + 1) : Nat) := by rw [ag3 1 (by decide) (by decide) (by decide)]; exact hM_z
  have hLg3 : ctLi (g3_z (A + 6)) d L := by rw [ag3 6 (by decide) (by decide) (by decide)]; exact hLi
  refine r_aloadR0 dX12_asks_29 ?_
  refine m_getR (q := (A + 9)) zf_RX12_39 rfl dX12_asks_30 (shM_k hs) (shM_p9 hs) ?_
  refine n_iconst dX12_asks_33 (by decide) (fun r33 e33_z => ?_)
  refine r_aloadR0 dX12_asks_34 ?_
  refine r_iload1 dX12_asks_35 ?_
  refine q_callV1 zm_RX12_293 dX12_asks_36 (shM_k hs) (by decide) rfl (Nat.le_of_ble_eq_true rfl) (Nat.le_of_ble_eq_true rfl) (Nat.le_of_ble_eq_true rfl) (Nat.le_of_ble_eq_true rfl) (Nat.le_of_ble_eq_true rfl) (s_X12_topAt G hs hMg3 hm9 hx hd_z hLg3 hr (fun r36 e36 => ?_))
  refine m_iast (k := 3) dX12_asks_39 (shM_k9 hs) (shM_n9 hs) (by omega) (by omega) ?_
  obtain ⟨g4, hg4⟩ : ∃ g4, g4 = zu g3_z (A + 9) 3 r36 := ⟨_, rfl⟩
  rw [← hg4]
  have frg4 : frM A [9] [] f g4 := by rw [hg4]; exact frM_zr frg3 (by decide) (by decide) (by decide)
  have ag4 : ∀ r, 1 ≤ r → r ≤ 20 → r ≠ 9 → g4 (A + r) = f (A + r) := fun r h1 h2 h3 => frg4.2.1 r h1 h2 (by simpa using h3)
  have vg4 : ∀ i, g4 (A + 9) i = if i = 3 then r36 else g3_z (A + 9) i := fun i => by rw [hg4, zu_s2]
  have hng4 : (g4 (A + 1) 1).toInt = (n : Nat) := by rw [ag4 1 (by decide) (by decide) (by decide)]; exact hn
  have hMg4 : ∀ c, c < 6 → (g4 (A + 1) (13 + c)).toInt = (mk (2 * c) : Nat) ∧ (g4 (A + 1) (19 + c)).toInt = (mk (2 * c + 1) : Nat) := by rw [ag4 1 (by decide) (by decide) (by decide)]; exact hM_z
  have hLg4 : ctLi (g4 (A + 6)) d L := by rw [ag4 6 (by decide) (by decide) (by decide)]; exact hLi
  refine r_aloadR0 dX12_asks_40 ?_
  refine m_getR (q := (A + 9)) zf_RX12_39 rfl dX12_asks_41 (shM_k hs) (shM_p9 hs) ?_
  refine n_iconst dX12_asks_44 (by decide) (fun r44 e44 => ?_)
  refine r_aloadR0 dX12_asks_45 ?_
  refine r_iload1 dX12_asks_46 ?_
  refine q_callV1 zm_RX12_296 dX12_asks_47 (shM_k hs) (by decide) rfl (Nat.le_of_ble_eq_true rfl) (Nat.le_of_ble_eq_true rfl) (Nat.le_of_ble_eq_true rfl) (Nat.le_of_ble_eq_true rfl) (Nat.le_of_ble_eq_true rfl) (s_X12_underAt G hs hMg4 hm9 hx hd_z hLg4 hr (fun r47 e47 => ?_))
  refine m_iast (k := 4) dX12_asks_50 (shM_k9 hs) (shM_n9 hs) (by omega) (by omega) ?_
  obtain ⟨g5_z, hg5⟩ : ∃ g5_z, g5_z = zu g4 (A + 9) 4 r47 := ⟨_, rfl⟩
  rw [← hg5]
  have frg5 : frM A [9] [] f g5_z := by rw [hg5]; exact frM_zr frg4 (by decide) (by decide) (by decide)
  have ag5 : ∀ r, 1 ≤ r → r ≤ 20 → r ≠ 9 → g5_z (A + r) = f (A + r) := fun r h1 h2 h3 => frg5.2.1 r h1 h2 (by simpa using h3)
  have vg5 : ∀ i, g5_z (A + 9) i = if i = 4 then r47 else g4 (A + 9) i := fun i => by rw [hg5, zu_s2]
  have hng5 : (g5_z (A + 1) 1).toInt = (n : Nat) := by rw [ag5 1 (by decide) (by decide) (by decide)]; exact hn
  have hMg5 : ∀ c, c < 6 → (g5_z (A + 1) (13 + c)).toInt = (mk (2 * c) : Nat) ∧ (g5_z (A + 1) (19 + c)).toInt = (mk (2 * c + 1) : Nat) := by rw [ag5 1 (by decide) (by decide) (by decide)]; exact hM_z
  have hLg5 : ctLi (g5_z (A + 6)) d L := by rw [ag5 6 (by decide) (by decide) (by decide)]; exact hLi
  refine r_aloadR0 dX12_asks_51 ?_
  refine m_getR (q := (A + 9)) zf_RX12_39 rfl dX12_asks_52 (shM_k hs) (shM_p9 hs) ?_
  refine n_iconst dX12_asks_55 (by decide) (fun r55 e55 => ?_)
  refine r_aloadR0 dX12_asks_56 ?_
  refine r_iload1 dX12_asks_57 ?_
  refine q_callV1 zm_RX12_328 dX12_asks_58 (shM_k hs) (by decide) rfl (Nat.le_of_ble_eq_true rfl) (Nat.le_of_ble_eq_true rfl) (Nat.le_of_ble_eq_true rfl) (Nat.le_of_ble_eq_true rfl) (Nat.le_of_ble_eq_true rfl) (s_X12_hiddenAt G hs hng5 hMg5 hm9 hx hd_z hLg5 hr (fun r58 e58 => ?_))
  refine m_iast (k := 5) dX12_asks_61 (shM_k9 hs) (shM_n9 hs) (by omega) (by omega) ?_
  obtain ⟨g6, hg6⟩ : ∃ g6, g6 = zu g5_z (A + 9) 5 r58 := ⟨_, rfl⟩
  rw [← hg6]
  have frg6 : frM A [9] [] f g6 := by rw [hg6]; exact frM_zr frg5 (by decide) (by decide) (by decide)
  have ag6 : ∀ r, 1 ≤ r → r ≤ 20 → r ≠ 9 → g6 (A + r) = f (A + r) := fun r h1 h2 h3 => frg6.2.1 r h1 h2 (by simpa using h3)
  have vg6 : ∀ i, g6 (A + 9) i = if i = 5 then r58 else g5_z (A + 9) i := fun i => by rw [hg6, zu_s2]
  have hng6 : (g6 (A + 1) 1).toInt = (n : Nat) := by rw [ag6 1 (by decide) (by decide) (by decide)]; exact hn
  have hMg6 : ∀ c, c < 6 → (g6 (A + 1) (13 + c)).toInt = (mk (2 * c) : Nat) ∧ (g6 (A + 1) (19 + c)).toInt = (mk (2 * c + 1) : Nat) := by rw [ag6 1 (by decide) (by decide) (by decide)]; exact hM_z
  have hLg6 : ctLi (g6 (A + 6)) d L := by rw [ag6 6 (by decide) (by decide) (by decide)]; exact hLi
  refine r_vret dX12_asks_62 rfl (Nat.le_of_ble_eq_true rfl) (Nat.le_of_ble_eq_true rfl) ?_
  refine hQ g6 frg6 (fun k hk => ?_) (fun k hk => ?_)
  · rw [vg6, vg5, vg4, vg3, vg2, vg1]
    rcases (show k = 0 ∨ k = 1 ∨ k = 2 ∨ k = 3 ∨ k = 4 ∨ k = 5 by omega) with rfl | rfl | rfl | rfl | rfl | rfl
    · exact e7_z
    · exact e18_z
    · exact hx
    · exact e36
    · exact e47
    · exact e58
  · rw [vg6, vg5, vg4, vg3, vg2, vg1, if_neg (by omega), if_neg (by omega), if_neg (by omega), if_neg (by omega), if_neg (by omega), if_neg (by omega)]
theorem fctN_bd {mk : Nat → Nat} {n : Nat} {L : zLy} {d g v : Nat} (h_z : ∀ i, mk i ≤ 99) (hr : rch n L) (hd_z : d < 100) (hg : g ≤ 1000) (hv : v ≤ 1000) : bdF (fctN mk n L d g v) := by
  have hn := rch_le hr
  have hc_z := rch_cell hr
  have h1 := topN_le (M := mk) (L := L) h_z
  have h2 := undN_le (M := mk) (L := L) h_z
  have h3 := allN_le (M := mk) (n := n) h_z
  have h4 : lyTall L ≤ L.flatten.length := lyTallK_le
  intro k hk
  unfold bdI
  rcases (show k = 0 ∨ k = 1 ∨ k = 2 ∨ k = 3 ∨ k = 4 ∨ k = 5 ∨ k = 6 ∨ k = 7 by omega) with rfl | rfl | rfl | rfl | rfl | rfl | rfl | rfl
  · show -1000000 ≤ ((L.length : Nat) : Int) ∧ ((L.length : Nat) : Int) ≤ 1000000
    omega
  · show -1000000 ≤ ((lyTall L : Nat) : Int) ∧ ((lyTall L : Nat) : Int) ≤ 1000000
    omega
  · show -1000000 ≤ ((d : Nat) : Int) ∧ ((d : Nat) : Int) ≤ 1000000
    omega
  · show -1000000 ≤ ((topN mk L : Nat) : Int) ∧ ((topN mk L : Nat) : Int) ≤ 1000000
    omega
  · show -1000000 ≤ ((undN mk L : Nat) : Int) ∧ ((undN mk L : Nat) : Int) ≤ 1000000
    omega
  · show -1000000 ≤ ((allN mk n : Nat) : Int) - (topN mk L : Nat) - (undN mk L : Nat) ∧ ((allN mk n : Nat) : Int) - (topN mk L : Nat) - (undN mk L : Nat) ≤ 1000000
    omega
  · show -1000000 ≤ ((g : Nat) : Int) ∧ ((g : Nat) : Int) ≤ 1000000
    omega
  · show -1000000 ≤ ((v : Nat) : Int) ∧ ((v : Nat) : Int) ≤ 1000000
    omega
theorem lawOk_run {m : Nat} {l : List Nat} {F : Nat → Int} (h_z : lawOk m l) (hF : bdF F) (hne : l ≠ []) : lwRun F l [] = some [lwVal F l] := by
  obtain ⟨v, hv⟩ := h_z.2.2.resolve_left hne F hF
  unfold lwVal
  rw [hv]
theorem lawOk01_run {m : Nat} {l : List Nat} {F : Nat → Int} (h_z : lawOk01 m l) (hF : bdF F) (hne : l ≠ []) : lwRun F l [] = some [lwVal F l] ∧ (lwVal F l = 0 ∨ lwVal F l = 1) := by
  obtain ⟨v, hv, h01⟩ := h_z.2.2.resolve_left hne F hF
  unfold lwVal
  rw [hv]
  exact ⟨rfl, h01⟩
set_option maxHeartbeats 4000000 in
set_option maxRecDepth 100000 in
theorem s_X12_worthAt {g : zGT} {w : zW} {f : Nat → Nat → Int32} {j : Nat → Nat → Int64} {A : Nat} {l : List Nat} {d n : Nat} {x : Int32} {L : zLy} {mk : Nat → Nat} {Q : Option Value → zW → Prop} {QX : String → zW → Prop} (G : zGok g) (hs : shM w A) (hn : (f (A + 1) 1).toInt = (n : Nat)) (hM_z : ∀ c, c < 6 → (f (A + 1) (13 + c)).toInt = (mk (2 * c) : Nat) ∧ (f (A + 1) (19 + c)).toInt = (mk (2 * c + 1) : Nat)) (hm9 : ∀ i, mk i ≤ 99) (hx : x.toInt = (d : Nat)) (hd_z : d < 11) (hLi : ctLi (f (A + 6)) d L) (hr : rch n L) (hm0 : (f (A + 1) 3).toInt = (l.length : Nat)) (hlw : ∀ i o, l[i]? = some o → (f (A + 1) (209 + i)).toInt = (rfO o : Nat)) (hok : lawOk 6 l) (hQ : ∀ (r : Int32) f2_z, r.toInt = lwVal (fctN mk n L d 0 0) l → frM A [8, 9] [] f f2_z → Q (some (.int r)) (zM w f2_z j)) : zC g 6 yX12_worthAt cX12_worthAt 2 (some .int) [.ref A, .int x] (zM w f j) (0, 0) Q QX := by
  refine zC_of G (by decide +kernel) (Nat.le_of_ble_eq_true rfl) ?_
  rcases (Decidable.em (l = [])) with hl0 | hl0
  · have h0 : (f (A + 1) 3).toInt = 0 := by rw [hm0, hl0]; rfl
    have hv0 : lwVal (fctN mk n L d 0 0) l = 0 := by rw [hl0]; rfl
    refine r_aloadR0 dX12_worthAt_0 ?_
    refine m_getR (q := (A + 1)) zf_RX12_9 rfl dX12_worthAt_1 (shM_k hs) (shM_p1 hs) ?_
    refine n_iconst dX12_worthAt_4 (by decide) (fun r4 e4_z => ?_)
    refine m_iald (k := 3) (x := (f (A + 1) 3)) dX12_worthAt_5 (shM_k1 hs) (shM_n1 hs) (by omega) (by omega) (rfl) ?_
    refine t_ifne (t := 11) dX12_worthAt_6 (by decide) (fun h6 => False.elim (by omega)) (fun h6 => ?_)
    refine n_iconst dX12_worthAt_9 (by decide) (fun r9 e9_z => ?_)
    refine r_iret dX12_worthAt_10 rfl (Nat.le_of_ble_eq_true rfl) (Nat.le_of_ble_eq_true rfl) ?_
    exact hQ _ f (by omega) frM_rf
  · have hln : l.length ≠ 0 := fun e => hl0 (List.length_eq_zero_iff.mp e)
    have hF := fctN_bd (d := d) (g := 0) (v := 0) hm9 hr (by omega) (by omega) (by omega)
    have hrun := lawOk_run hok hF hl0
    refine r_aloadR0 dX12_worthAt_0 ?_
    refine m_getR (q := (A + 1)) zf_RX12_9 rfl dX12_worthAt_1 (shM_k hs) (shM_p1 hs) ?_
    refine n_iconst dX12_worthAt_4 (by decide) (fun r4 e4_z => ?_)
    refine m_iald (k := 3) (x := (f (A + 1) 3)) dX12_worthAt_5 (shM_k1 hs) (shM_n1 hs) (by omega) (by omega) (rfl) ?_
    refine t_ifne (t := 11) dX12_worthAt_6 (by decide) (fun h6 => ?_) (fun h6 => False.elim (by omega))
    refine r_aloadR0 dX12_worthAt_11 ?_
    refine r_iload1 dX12_worthAt_12 ?_
    refine q_callV1 zm_RX12_331 dX12_worthAt_13 (shM_k hs) (by decide) rfl (Nat.le_of_ble_eq_true rfl) (Nat.le_of_ble_eq_true rfl) (Nat.le_of_ble_eq_true rfl) (Nat.le_of_ble_eq_true rfl) (Nat.le_of_ble_eq_true rfl) (s_X12_asks G hs hn hM_z hm9 hx hd_z hLi hr (fun f1_z hfr1 hf1 hf1b => ?_))
    have hK1 : f1_z (A + 1) = f (A + 1) := hfr1.2.1 1 (by decide) (by decide) (by decide)
    refine r_aloadR0 dX12_worthAt_16 ?_
    refine n_iconst dX12_worthAt_17 (by decide) (fun r17 e17_z => ?_)
    refine n_sipush dX12_worthAt_18 (by decide) (fun r18 e18_z => ?_)
    refine q_callV2 zm_RX12_334 dX12_worthAt_21 (shM_k hs) (by decide) rfl (Nat.le_of_ble_eq_true rfl) (Nat.le_of_ble_eq_true rfl) (Nat.le_of_ble_eq_true rfl) (Nat.le_of_ble_eq_true rfl) (Nat.le_of_ble_eq_true rfl) (s_X12_lawOf (F := fctN mk n L d 0 0) (l := l) (m := 3) (a := 209) G hs (by omega) (by decide) (by omega) (by have := hok.1; omega) hok.1 (by rw [hK1]; exact hm0) (by rw [hK1]; exact hlw) hF (fun k hk hkl => hf1 k (by have := hok.2.1 _ hkl (by omega) (by omega); omega)) hl0 hrun (fun r21 f2_z e21_z hfr2 => ?_))
    have hfr := frM_tr (frM_su (S2 := [8, 9]) (K2 := []) hfr1 (by decide) (by decide)) (frM_su (S2 := [8, 9]) (K2 := []) hfr2 (by decide) (by decide))
    refine r_iret dX12_worthAt_24 rfl (Nat.le_of_ble_eq_true rfl) (Nat.le_of_ble_eq_true rfl) ?_
    exact hQ _ f2_z e21_z hfr
set_option maxHeartbeats 4000000 in
set_option maxRecDepth 100000 in
theorem s_X12_holdsAt {g : zGT} {w : zW} {f : Nat → Nat → Int32} {j : Nat → Nat → Int64} {A : Nat} {l : List Nat} {d n : Nat} {x : Int32} {L : zLy} {mk : Nat → Nat} {Q : Option Value → zW → Prop} {QX : String → zW → Prop} (G : zGok g) (hs : shM w A) (hn : (f (A + 1) 1).toInt = (n : Nat)) (hM_z : ∀ c, c < 6 → (f (A + 1) (13 + c)).toInt = (mk (2 * c) : Nat) ∧ (f (A + 1) (19 + c)).toInt = (mk (2 * c + 1) : Nat)) (hm9 : ∀ i, mk i ≤ 99) (hx : x.toInt = (d : Nat)) (hd_z : d < 11) (hLi : ctLi (f (A + 6)) d L) (hr : rch n L) (hm0 : (f (A + 1) 4).toInt = (l.length : Nat)) (hlw : ∀ i o, l[i]? = some o → (f (A + 1) (1109 + i)).toInt = (rfO o : Nat)) (hok : lawOk01 6 l) (hQ : ∀ (r : Int32) f2_z, (r.toInt = 1 ∧ lwVal (fctN mk n L d 0 0) l ≠ 0 ∨ r.toInt = 0 ∧ lwVal (fctN mk n L d 0 0) l = 0) → frM A [8, 9] [] f f2_z → Q (some (.int r)) (zM w f2_z j)) : zC g 6 yX12_holdsAt cX12_holdsAt 2 (some .boolean) [.ref A, .int x] (zM w f j) (0, 0) Q QX := by
  refine zC_of G (by decide +kernel) (Nat.le_of_ble_eq_true rfl) ?_
  rcases (Decidable.em (l = [])) with hl0 | hl0
  · have h0 : (f (A + 1) 4).toInt = 0 := by rw [hm0, hl0]; rfl
    have hv0 : lwVal (fctN mk n L d 0 0) l = 0 := by rw [hl0]; rfl
    refine r_aloadR0 dX12_holdsAt_0 ?_
    refine m_getR (q := (A + 1)) zf_RX12_9 rfl dX12_holdsAt_1 (shM_k hs) (shM_p1 hs) ?_
    refine n_iconst dX12_holdsAt_4 (by decide) (fun r4 e4_z => ?_)
    refine m_iald (k := 4) (x := (f (A + 1) 4)) dX12_holdsAt_5 (shM_k1 hs) (shM_n1 hs) (by omega) (by omega) (rfl) ?_
    refine t_ifne (t := 11) dX12_holdsAt_6 (by decide) (fun h6 => False.elim (by omega)) (fun h6 => ?_)
    refine n_iconst dX12_holdsAt_9 (by decide) (fun r9 e9_z => ?_)
    refine m_zret dX12_holdsAt_10 rfl (by omega) (Nat.le_of_ble_eq_true rfl) (Nat.le_of_ble_eq_true rfl) ?_
    exact hQ _ f (by omega) frM_rf
  · have hln : l.length ≠ 0 := fun e => hl0 (List.length_eq_zero_iff.mp e)
    have hF := fctN_bd (d := d) (g := 0) (v := 0) hm9 hr (by omega) (by omega) (by omega)
    have hrun := lawOk01_run hok hF hl0
    obtain ⟨hrun, h01⟩ := hrun
    refine r_aloadR0 dX12_holdsAt_0 ?_
    refine m_getR (q := (A + 1)) zf_RX12_9 rfl dX12_holdsAt_1 (shM_k hs) (shM_p1 hs) ?_
    refine n_iconst dX12_holdsAt_4 (by decide) (fun r4 e4_z => ?_)
    refine m_iald (k := 4) (x := (f (A + 1) 4)) dX12_holdsAt_5 (shM_k1 hs) (shM_n1 hs) (by omega) (by omega) (rfl) ?_
    refine t_ifne (t := 11) dX12_holdsAt_6 (by decide) (fun h6 => ?_) (fun h6 => False.elim (by omega))
    refine r_aloadR0 dX12_holdsAt_11 ?_
    refine r_iload1 dX12_holdsAt_12 ?_
    refine q_callV1 zm_RX12_331 dX12_holdsAt_13 (shM_k hs) (by decide) rfl (Nat.le_of_ble_eq_true rfl) (Nat.le_of_ble_eq_true rfl) (Nat.le_of_ble_eq_true rfl) (Nat.le_of_ble_eq_true rfl) (Nat.le_of_ble_eq_true rfl) (s_X12_asks G hs hn hM_z hm9 hx hd_z hLi hr (fun f1_z hfr1 hf1 hf1b => ?_))
    have hK1 : f1_z (A + 1) = f (A + 1) := hfr1.2.1 1 (by decide) (by decide) (by decide)
    refine r_aloadR0 dX12_holdsAt_16 ?_
    refine n_iconst dX12_holdsAt_17 (by decide) (fun r17 e17_z => ?_)
    refine n_sipush dX12_holdsAt_18 (by decide) (fun r18 e18_z => ?_)
    refine q_callV2 zm_RX12_334 dX12_holdsAt_21 (shM_k hs) (by decide) rfl (Nat.le_of_ble_eq_true rfl) (Nat.le_of_ble_eq_true rfl) (Nat.le_of_ble_eq_true rfl) (Nat.le_of_ble_eq_true rfl) (Nat.le_of_ble_eq_true rfl) (s_X12_lawOf (F := fctN mk n L d 0 0) (l := l) (m := 4) (a := 1109) G hs (by omega) (by decide) (by omega) (by have := hok.1; omega) hok.1 (by rw [hK1]; exact hm0) (by rw [hK1]; exact hlw) hF (fun k hk hkl => hf1 k (by have := hok.2.1 _ hkl (by omega) (by omega); omega)) hl0 hrun (fun r21 f2_z e21_z hfr2 => ?_))
    have hfr := frM_tr (frM_su (S2 := [8, 9]) (K2 := []) hfr1 (by decide) (by decide)) (frM_su (S2 := [8, 9]) (K2 := []) hfr2 (by decide) (by decide))
    refine n_iconst dX12_holdsAt_24 (by decide) (fun r24 e24_z => ?_)
    refine t_icne (t := 32) dX12_holdsAt_25 (by decide) (fun h25 => ?_) (fun h25 => ?_)
    · refine n_iconst dX12_holdsAt_32 (by decide) (fun r32 e32 => ?_)
      refine m_zret dX12_holdsAt_33 rfl (by omega) (Nat.le_of_ble_eq_true rfl) (Nat.le_of_ble_eq_true rfl) ?_
      exact hQ _ f2_z (by omega) hfr
    · refine n_iconst dX12_holdsAt_28 (by decide) (fun r28 e28_z => ?_)
      refine r_goto (t := 33) dX12_holdsAt_29 (by decide) ?_
      refine m_zret dX12_holdsAt_33 rfl (by omega) (Nat.le_of_ble_eq_true rfl) (Nat.le_of_ble_eq_true rfl) ?_
      exact hQ _ f2_z (by omega) hfr
set_option maxHeartbeats 4000000 in
set_option maxRecDepth 100000 in
theorem s_X12_likesAt {g : zGT} {w : zW} {f : Nat → Nat → Int32} {j : Nat → Nat → Int64} {A : Nat} {l : List Nat} {gu v : Nat} {y : Int32} {d n : Nat} {x : Int32} {L : zLy} {mk : Nat → Nat} {Q : Option Value → zW → Prop} {QX : String → zW → Prop} (G : zGok g) (hs : shM w A) (hn : (f (A + 1) 1).toInt = (n : Nat)) (hM_z : ∀ c, c < 6 → (f (A + 1) (13 + c)).toInt = (mk (2 * c) : Nat) ∧ (f (A + 1) (19 + c)).toInt = (mk (2 * c + 1) : Nat)) (hm9 : ∀ i, mk i ≤ 99) (hx : x.toInt = (d : Nat)) (hd_z : d < 11) (hLi : ctLi (f (A + 6)) d L) (hr : rch n L) (hm0 : (f (A + 1) 5).toInt = (l.length : Nat)) (hlw : ∀ i o, l[i]? = some o → (f (A + 1) (2009 + i)).toInt = (rfO o : Nat)) (hok : lawOk 8 l) (hy : y.toInt = (gu : Nat)) (hg : gu < 4) (hwt : (f (A + 1) (25 + gu)).toInt = (v : Nat)) (hv9 : v ≤ 99) (hQ : ∀ (r : Int32) f2_z, r.toInt = lwVal (fctN mk n L d gu v) l → frM A [8, 9] [] f f2_z → Q (some (.int r)) (zM w f2_z j)) : zC g 6 yX12_likesAt cX12_likesAt 3 (some .int) [.ref A, .int x, .int y] (zM w f j) (0, 0) Q QX := by
  refine zC_of G (by decide +kernel) (Nat.le_of_ble_eq_true rfl) ?_
  rcases (Decidable.em (l = [])) with hl0 | hl0
  · have h0 : (f (A + 1) 5).toInt = 0 := by rw [hm0, hl0]; rfl
    have hv0 : lwVal (fctN mk n L d gu v) l = 0 := by rw [hl0]; rfl
    refine r_aloadR0 dX12_likesAt_0 ?_
    refine m_getR (q := (A + 1)) zf_RX12_9 rfl dX12_likesAt_1 (shM_k hs) (shM_p1 hs) ?_
    refine n_iconst dX12_likesAt_4 (by decide) (fun r4 e4_z => ?_)
    refine m_iald (k := 5) (x := (f (A + 1) 5)) dX12_likesAt_5 (shM_k1 hs) (shM_n1 hs) (by omega) (by omega) (rfl) ?_
    refine t_ifne (t := 11) dX12_likesAt_6 (by decide) (fun h6 => False.elim (by omega)) (fun h6 => ?_)
    refine n_iconst dX12_likesAt_9 (by decide) (fun r9 e9_z => ?_)
    refine r_iret dX12_likesAt_10 rfl (Nat.le_of_ble_eq_true rfl) (Nat.le_of_ble_eq_true rfl) ?_
    exact hQ _ f (by omega) frM_rf
  · have hln : l.length ≠ 0 := fun e => hl0 (List.length_eq_zero_iff.mp e)
    have hF := fctN_bd (d := d) (g := gu) (v := v) hm9 hr (by omega) (by omega) (by omega)
    have hrun := lawOk_run hok hF hl0
    refine r_aloadR0 dX12_likesAt_0 ?_
    refine m_getR (q := (A + 1)) zf_RX12_9 rfl dX12_likesAt_1 (shM_k hs) (shM_p1 hs) ?_
    refine n_iconst dX12_likesAt_4 (by decide) (fun r4 e4_z => ?_)
    refine m_iald (k := 5) (x := (f (A + 1) 5)) dX12_likesAt_5 (shM_k1 hs) (shM_n1 hs) (by omega) (by omega) (rfl) ?_
    refine t_ifne (t := 11) dX12_likesAt_6 (by decide) (fun h6 => ?_) (fun h6 => False.elim (by omega))
    refine r_aloadR0 dX12_likesAt_11 ?_
    refine r_iload1 dX12_likesAt_12 ?_
    refine q_callV1 zm_RX12_331 dX12_likesAt_13 (shM_k hs) (by decide) rfl (Nat.le_of_ble_eq_true rfl) (Nat.le_of_ble_eq_true rfl) (Nat.le_of_ble_eq_true rfl) (Nat.le_of_ble_eq_true rfl) (Nat.le_of_ble_eq_true rfl) (s_X12_asks G hs hn hM_z hm9 hx hd_z hLi hr (fun f1_z hfr1 hf1 hf1b => ?_))
    have hK1 : f1_z (A + 1) = f (A + 1) := hfr1.2.1 1 (by decide) (by decide) (by decide)
    refine r_aloadR0 dX12_likesAt_16 ?_
    refine m_getR (q := (A + 9)) zf_RX12_39 rfl dX12_likesAt_17 (shM_k hs) (shM_p9 hs) ?_
    refine n_bipush dX12_likesAt_20 (by decide) (fun r20 e20 => ?_)
    refine r_iload2 dX12_likesAt_22 ?_
    refine m_iast (k := 6) dX12_likesAt_23 (shM_k9 hs) (shM_n9 hs) (by omega) (by omega) ?_
    refine r_aloadR0 dX12_likesAt_24 ?_
    refine m_getR (q := (A + 9)) zf_RX12_39 rfl dX12_likesAt_25 (shM_k hs) (shM_p9 hs) ?_
    refine n_bipush dX12_likesAt_28 (by decide) (fun r28 e28_z => ?_)
    refine r_aloadR0 dX12_likesAt_30 ?_
    refine m_getR (q := (A + 1)) zf_RX12_9 rfl dX12_likesAt_31 (shM_k hs) (shM_p1 hs) ?_
    refine n_bipush dX12_likesAt_34 (by decide) (fun r34 e34 => ?_)
    refine r_iload2 dX12_likesAt_36 ?_
    refine n_iadd dX12_likesAt_37 (by omega) (fun r37 e37 => ?_)
    refine m_iald (k := 25 + gu) (x := (f1_z (A + 1) (25 + gu))) dX12_likesAt_38 (shM_k1 hs) (shM_n1 hs) (by omega) (by omega) ((zu_nn (by omega)).trans (rfl)) ?_
    refine m_iast (k := 7) dX12_likesAt_39 (shM_k9 hs) (shM_n9 hs) (by omega) (by omega) ?_
    obtain ⟨f3_z, hf3⟩ : ∃ f3_z, f3_z = zu (zu f1_z (A + 9) 6 y) (A + 9) 7 (f1_z (A + 1) (25 + gu)) := ⟨_, rfl⟩
    rw [← hf3]
    have hfr3 : frM A [9] [] f1_z f3_z := by rw [hf3]; exact frM_zr (frM_zr frM_rf (by decide) (by decide) (by decide)) (by decide) (by decide) (by decide)
    have hK3 : f3_z (A + 1) = f (A + 1) := (hfr3.2.1 1 (by decide) (by decide) (by decide)).trans hK1
    have hask : ∀ k, k < 8 → (f3_z (A + 9) k).toInt = fctN mk n L d gu v k := by
      intro k hk
      rw [hf3, zu_s2, zu_s2]
      by_cases h7 : k = 7
      · rw [if_pos h7, h7, hK1]; exact hwt
      · rw [if_neg h7]
        by_cases h6 : k = 6
        · rw [if_pos h6, h6]; exact hy
        · rw [if_neg h6, hf1 k (by omega)]
          rcases (show k = 0 ∨ k = 1 ∨ k = 2 ∨ k = 3 ∨ k = 4 ∨ k = 5 by omega) with rfl | rfl | rfl | rfl | rfl | rfl <;> rfl
    refine r_aloadR0 dX12_likesAt_40 ?_
    refine n_iconst dX12_likesAt_41 (by decide) (fun r41 e41_z => ?_)
    refine n_sipush dX12_likesAt_42 (by decide) (fun r42 e42_z => ?_)
    refine q_callV2 zm_RX12_334 dX12_likesAt_45 (shM_k hs) (by decide) rfl (Nat.le_of_ble_eq_true rfl) (Nat.le_of_ble_eq_true rfl) (Nat.le_of_ble_eq_true rfl) (Nat.le_of_ble_eq_true rfl) (Nat.le_of_ble_eq_true rfl) (s_X12_lawOf (F := (fctN mk n L d gu v)) (l := l) (m := 5) (a := 2009) G hs (by omega) (by decide) (by omega) (by have := hok.1; omega) hok.1 (by rw [hK3]; exact hm0) (by rw [hK3]; exact hlw) hF (fun k hk hkl => hask k hk) hl0 hrun (fun r45 f4_z e45 hfr4 => ?_))
    have hfr := frM_tr (frM_tr (frM_su (S2 := [8, 9]) (K2 := []) hfr1 (by decide) (by decide)) (frM_su (S2 := [8, 9]) (K2 := []) hfr3 (by decide) (by decide))) (frM_su (S2 := [8, 9]) (K2 := []) hfr4 (by decide) (by decide))
    refine r_iret dX12_likesAt_48 rfl (Nat.le_of_ble_eq_true rfl) (Nat.le_of_ble_eq_true rfl) ?_
    exact hQ _ f4_z e45 hfr
