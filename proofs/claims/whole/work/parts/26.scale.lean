/-! Scale: facts, laws -/
def shSc (w : zW) (a : Nat) : Prop := zK w a = 6 ∧ zP w a 0 = some (a + 1) ∧ zP w a 1 = some (a + 2) ∧ zK w (a + 1) = 21 ∧ zK w (a + 2) = 21 ∧ zN w (a + 1) = 8 ∧ zN w (a + 2) = 64
theorem shSc_k {w : zW} {a : Nat} (h_z : shSc w a) : zK w a = 6 := h_z.1
theorem shSc_p0 {w : zW} {a : Nat} (h_z : shSc w a) : zP w a 0 = some (a + 1) := h_z.2.1
theorem shSc_p1 {w : zW} {a : Nat} (h_z : shSc w a) : zP w a 1 = some (a + 2) := h_z.2.2.1
theorem shSc_k1 {w : zW} {a : Nat} (h_z : shSc w a) : zK w (a + 1) = 21 := h_z.2.2.2.1
theorem shSc_k2 {w : zW} {a : Nat} (h_z : shSc w a) : zK w (a + 2) = 21 := h_z.2.2.2.2.1
theorem shSc_n1 {w : zW} {a : Nat} (h_z : shSc w a) : zN w (a + 1) = 8 := h_z.2.2.2.2.2.1
theorem shSc_n2 {w : zW} {a : Nat} (h_z : shSc w a) : zN w (a + 2) = 64 := h_z.2.2.2.2.2.2
theorem and01 {x y : Int32} (hx : x.toInt = 0 ∨ x.toInt = 1) (hy : y.toInt = 0 ∨ y.toInt = 1) : (x &&& y).toInt = if x.toInt + y.toInt > 1 then 1 else 0 := by
  rcases z01_of hx with rfl | rfl <;> rcases z01_of hy with rfl | rfl <;> decide
theorem or01 {x y : Int32} (hx : x.toInt = 0 ∨ x.toInt = 1) (hy : y.toInt = 0 ∨ y.toInt = 1) : (x ||| y).toInt = if x.toInt + y.toInt > 0 then 1 else 0 := by
  rcases z01_of hx with rfl | rfl <;> rcases z01_of hy with rfl | rfl <;> decide
set_option maxHeartbeats 4000000 in
set_option maxRecDepth 100000 in
theorem s_X6_put {g : zGT} {w : zW} {f : Nat → Nat → Int32} {j : Nat → Nat → Int64} {a : Nat} {k : Nat} {x y : Int32} {Q : Option Value → zW → Prop} {QX : String → zW → Prop} (G : zGok g) (hs : shSc w a) (hx : x.toInt = (k : Nat)) (hk : k < 8) (hQ : ∀ f2_z, f2_z = zu f (a + 1) k y → Q none (zM w f2_z j)) : zC g 1 yX6_put cX6_put 3 none [.ref a, .int x, .int y] (zM w f j) (0, 0) Q QX := by
  refine zC_of G (by decide +kernel) (Nat.le_of_ble_eq_true rfl) ?_
  refine r_iload1 dX6_put_0 ?_
  refine t_iflt (t := 20) dX6_put_1 (by decide) (fun h1 => False.elim (by omega)) (fun h1 => ?_)
  refine r_iload1 dX6_put_4 ?_
  refine r_aloadR0 dX6_put_5 ?_
  refine m_getR (q := (a + 1)) zf_RX6_9 rfl dX6_put_6 (shSc_k hs) (shSc_p0 hs) ?_
  refine m_alen dX6_put_9 (zge (shSc_k1 hs) (by decide)) (shSc_n1 hs) (by first | decide | omega) (fun r9 e9_z => ?_)
  refine t_icge (t := 20) dX6_put_10 (by decide) (fun h10 => False.elim (by omega)) (fun h10 => ?_)
  refine r_aloadR0 dX6_put_13 ?_
  refine m_getR (q := (a + 1)) zf_RX6_9 rfl dX6_put_14 (shSc_k hs) (shSc_p0 hs) ?_
  refine r_iload1 dX6_put_17 ?_
  refine r_iload2 dX6_put_18 ?_
  refine m_iast (k := k) dX6_put_19 (shSc_k1 hs) (shSc_n1 hs) (by omega) (by omega) ?_
  refine r_vret dX6_put_20 rfl (Nat.le_of_ble_eq_true rfl) (Nat.le_of_ble_eq_true rfl) ?_
  exact hQ _ rfl
set_option maxHeartbeats 4000000 in
set_option maxRecDepth 100000 in
theorem s_X6_factAt {g : zGT} {w : zW} {f : Nat → Nat → Int32} {j : Nat → Nat → Int64} {a : Nat} {k : Nat} {x : Int32} {Q : Option Value → zW → Prop} {QX : String → zW → Prop} (G : zGok g) (hs : shSc w a) (hx : x.toInt = (k : Nat)) (hk : k < 8) (hQ : ∀ r : Int32, r = f (a + 1) k → Q (some (.int r)) (zM w f j)) : zC g 1 yX6_factAt cX6_factAt 2 (some .int) [.ref a, .int x] (zM w f j) (0, 0) Q QX := by
  refine zC_of G (by decide +kernel) (Nat.le_of_ble_eq_true rfl) ?_
  refine r_iload1 dX6_factAt_0 ?_
  refine t_iflt (t := 22) dX6_factAt_1 (by decide) (fun h1 => False.elim (by omega)) (fun h1 => ?_)
  refine r_iload1 dX6_factAt_4 ?_
  refine r_aloadR0 dX6_factAt_5 ?_
  refine m_getR (q := (a + 1)) zf_RX6_9 rfl dX6_factAt_6 (shSc_k hs) (shSc_p0 hs) ?_
  refine m_alen dX6_factAt_9 (zge (shSc_k1 hs) (by decide)) (shSc_n1 hs) (by first | decide | omega) (fun r9 e9_z => ?_)
  refine t_icge (t := 22) dX6_factAt_10 (by decide) (fun h10 => False.elim (by omega)) (fun h10 => ?_)
  refine r_aloadR0 dX6_factAt_13 ?_
  refine m_getR (q := (a + 1)) zf_RX6_9 rfl dX6_factAt_14 (shSc_k hs) (shSc_p0 hs) ?_
  refine r_iload1 dX6_factAt_17 ?_
  refine m_iald (k := k) (x := (f (a + 1) k)) dX6_factAt_18 (shSc_k1 hs) (shSc_n1 hs) (by omega) (by omega) (rfl) ?_
  refine r_goto (t := 23) dX6_factAt_19 (by decide) ?_
  refine r_iret dX6_factAt_23 rfl (Nat.le_of_ble_eq_true rfl) (Nat.le_of_ble_eq_true rfl) ?_
  exact hQ _ rfl
set_option maxHeartbeats 4000000 in
set_option maxRecDepth 100000 in
theorem s_X6_serve {g : zGT} {w : zW} {f : Nat → Nat → Int32} {j : Nat → Nat → Int64} {a : Nat} {gu v : Nat} {x y : Int32} {Q : Option Value → zW → Prop} {QX : String → zW → Prop} (G : zGok g) (hs : shSc w a) (hx : x.toInt = (gu : Nat)) (hy : y.toInt = (v : Nat)) (hQ : ∀ f2_z, ofR f f2_z (a + 1) 1 → (f2_z (a + 1) 6).toInt = (gu : Nat) → (f2_z (a + 1) 7).toInt = (v : Nat) → (∀ k, k < 6 → f2_z (a + 1) k = f (a + 1) k) → Q none (zM w f2_z j)) : zC g 2 yX6_serve cX6_serve 3 none [.ref a, .int x, .int y] (zM w f j) (0, 0) Q QX := by
  refine zC_of G (by decide +kernel) (Nat.le_of_ble_eq_true rfl) ?_
  refine r_aloadR0 dX6_serve_0 ?_
  refine n_bipush dX6_serve_1 (by decide) (fun r1 e1_z => ?_)
  refine r_iload1 dX6_serve_3 ?_
  refine q_callV2 zm_RX6_35 dX6_serve_4 (shSc_k hs) (by decide) rfl (Nat.le_of_ble_eq_true rfl) (Nat.le_of_ble_eq_true rfl) (Nat.le_of_ble_eq_true rfl) (Nat.le_of_ble_eq_true rfl) (Nat.le_of_ble_eq_true rfl) (s_X6_put (k := 6) G hs (by omega) (by decide) (fun f1_z hf1 => ?_))
  refine r_aloadR0 dX6_serve_7 ?_
  refine n_bipush dX6_serve_8 (by decide) (fun r8 e8 => ?_)
  refine r_iload2 dX6_serve_10 ?_
  refine q_callV2 zm_RX6_35 dX6_serve_11 (shSc_k hs) (by decide) rfl (Nat.le_of_ble_eq_true rfl) (Nat.le_of_ble_eq_true rfl) (Nat.le_of_ble_eq_true rfl) (Nat.le_of_ble_eq_true rfl) (Nat.le_of_ble_eq_true rfl) (s_X6_put (k := 7) G hs (by omega) (by decide) (fun f2_z hf2 => ?_))
  refine r_vret dX6_serve_14 rfl (Nat.le_of_ble_eq_true rfl) (Nat.le_of_ble_eq_true rfl) ?_
  subst hf1
  subst hf2
  refine hQ _ (ofR_zu (ofR_zu ofR_rf (by omega)) (by omega)) ?_ ?_ (fun k hk => ?_)
  · rw [zu_ni (by decide), zu_at]; exact hx
  · rw [zu_at]; exact hy
  · rw [zu_ni (by omega), zu_ni (by omega)]
set_option maxHeartbeats 4000000 in
set_option maxRecDepth 100000 in
theorem s_X6_join2001 {g : zGT} {w : zW} {f : Nat → Nat → Int32} {j : Nat → Nat → Int64} {s x y : Int32} {Q : Option Value → zW → Prop} {QX : String → zW → Prop} (G : zGok g) (hs : s.toInt = 2001) (ha_z : bdI x.toInt) (hb_z : bdI y.toInt) (hax : x.toInt = 0 ∨ x.toInt = 1) (hay : y.toInt = 0 ∨ y.toInt = 1) (hQ : ∀ r : Int32, r.toInt = opI 2001 x.toInt y.toInt → Q (some (.int r)) (zM w f j)) : zC g 1 yX6_join cX6_join 5 (some .int) [.int s, .int x, .int y] (zM w f j) (0, 0) Q QX := by
  refine zC_of G (by decide +kernel) (Nat.le_of_ble_eq_true rfl) ?_
  unfold bdI at ha_z hb_z
  have ho : opI 2001 x.toInt y.toInt = if x.toInt + y.toInt > 1 then 1 else 0 := rfl
  rw [ho] at hQ
  refine r_iload0 dX6_join_0 ?_
  refine n_tabC (k := 2001) (t := 44) dX6_join_1 (by decide) rfl (by decide) (fun h1 => ?_) (fun h1 => False.elim (h1 (by omega)))
  refine r_iload1 dX6_join_44 ?_
  refine r_iload2 dX6_join_45 ?_
  refine r_iand dX6_join_46 ?_
  refine n_name (fun r46 e46 => ?_)
  have e46b : r46.toInt = if x.toInt + y.toInt > 1 then 1 else 0 := by rw [e46]; exact and01 hax hay
  have h46 : r46.toInt = 0 ∨ r46.toInt = 1 := by rw [e46b]; split <;> omega
  refine n_i2l dX6_join_47 (fun r47 e47 => ?_)
  refine r_lstore3 dX6_join_48 rfl ?_
  refine r_goto (t := 126) dX6_join_49 (by decide) ?_
  refine n_ldc2 (n := -1000000) zk_RX6_50 dX6_join_126 (by decide) (fun r126 e126 => ?_)
  refine n_ldc2 (n := 1000000) zk_RX6_52 dX6_join_129 (by decide) (fun r129 e129 => ?_)
  refine r_lload3 dX6_join_132 ?_
  refine r_mminL zm_RX6_54 dX6_join_133 (Nat.le_of_ble_eq_true rfl) (Nat.le_of_ble_eq_true rfl) (Nat.le_of_ble_eq_true rfl) (Nat.le_of_ble_eq_true rfl) (Nat.le_of_ble_eq_true rfl) (fun r133 e133 => ?_)
  refine r_mmaxL zm_RX6_60 dX6_join_136 (Nat.le_of_ble_eq_true rfl) (Nat.le_of_ble_eq_true rfl) (Nat.le_of_ble_eq_true rfl) (Nat.le_of_ble_eq_true rfl) (Nat.le_of_ble_eq_true rfl) (fun r136 e136 => ?_)
  refine n_l2i dX6_join_139 (by omega) (fun r139 e139 => ?_)
  refine r_iret dX6_join_140 rfl (Nat.le_of_ble_eq_true rfl) (Nat.le_of_ble_eq_true rfl) ?_
  exact hQ _ (by rw [← e46b]; omega)
set_option maxHeartbeats 4000000 in
set_option maxRecDepth 100000 in
theorem s_X6_join2002 {g : zGT} {w : zW} {f : Nat → Nat → Int32} {j : Nat → Nat → Int64} {s x y : Int32} {Q : Option Value → zW → Prop} {QX : String → zW → Prop} (G : zGok g) (hs : s.toInt = 2002) (ha_z : bdI x.toInt) (hb_z : bdI y.toInt) (hax : x.toInt = 0 ∨ x.toInt = 1) (hay : y.toInt = 0 ∨ y.toInt = 1) (hQ : ∀ r : Int32, r.toInt = opI 2002 x.toInt y.toInt → Q (some (.int r)) (zM w f j)) : zC g 1 yX6_join cX6_join 5 (some .int) [.int s, .int x, .int y] (zM w f j) (0, 0) Q QX := by
  refine zC_of G (by decide +kernel) (Nat.le_of_ble_eq_true rfl) ?_
  unfold bdI at ha_z hb_z
  have ho : opI 2002 x.toInt y.toInt = if x.toInt + y.toInt > 0 then 1 else 0 := rfl
  rw [ho] at hQ
  refine r_iload0 dX6_join_0 ?_
  refine n_tabC (k := 2002) (t := 52) dX6_join_1 (by decide) rfl (by decide) (fun h1 => ?_) (fun h1 => False.elim (h1 (by omega)))
  refine r_iload1 dX6_join_52 ?_
  refine r_iload2 dX6_join_53 ?_
  refine r_ior dX6_join_54 ?_
  refine n_name (fun r54 e54 => ?_)
  have e54b : r54.toInt = if x.toInt + y.toInt > 0 then 1 else 0 := by rw [e54]; exact or01 hax hay
  have h54 : r54.toInt = 0 ∨ r54.toInt = 1 := by rw [e54b]; split <;> omega
  refine n_i2l dX6_join_55 (fun r55 e55 => ?_)
  refine r_lstore3 dX6_join_56 rfl ?_
  refine r_goto (t := 126) dX6_join_57 (by decide) ?_
  refine n_ldc2 (n := -1000000) zk_RX6_50 dX6_join_126 (by decide) (fun r126 e126 => ?_)
  refine n_ldc2 (n := 1000000) zk_RX6_52 dX6_join_129 (by decide) (fun r129 e129 => ?_)
  refine r_lload3 dX6_join_132 ?_
  refine r_mminL zm_RX6_54 dX6_join_133 (Nat.le_of_ble_eq_true rfl) (Nat.le_of_ble_eq_true rfl) (Nat.le_of_ble_eq_true rfl) (Nat.le_of_ble_eq_true rfl) (Nat.le_of_ble_eq_true rfl) (fun r133 e133 => ?_)
  refine r_mmaxL zm_RX6_60 dX6_join_136 (Nat.le_of_ble_eq_true rfl) (Nat.le_of_ble_eq_true rfl) (Nat.le_of_ble_eq_true rfl) (Nat.le_of_ble_eq_true rfl) (Nat.le_of_ble_eq_true rfl) (fun r136 e136 => ?_)
  refine n_l2i dX6_join_139 (by omega) (fun r139 e139 => ?_)
  refine r_iret dX6_join_140 rfl (Nat.le_of_ble_eq_true rfl) (Nat.le_of_ble_eq_true rfl) ?_
  exact hQ _ (by rw [← e54b]; omega)
set_option maxHeartbeats 4000000 in
set_option maxRecDepth 100000 in
theorem s_X6_join2003 {g : zGT} {w : zW} {f : Nat → Nat → Int32} {j : Nat → Nat → Int64} {s x y : Int32} {Q : Option Value → zW → Prop} {QX : String → zW → Prop} (G : zGok g) (hs : s.toInt = 2003) (ha_z : bdI x.toInt) (hb_z : bdI y.toInt) (hQ : ∀ r : Int32, r.toInt = opI 2003 x.toInt y.toInt → Q (some (.int r)) (zM w f j)) : zC g 1 yX6_join cX6_join 5 (some .int) [.int s, .int x, .int y] (zM w f j) (0, 0) Q QX := by
  refine zC_of G (by decide +kernel) (Nat.le_of_ble_eq_true rfl) ?_
  unfold bdI at ha_z hb_z
  have ho : opI 2003 x.toInt y.toInt = clI (x.toInt + y.toInt) := rfl
  rw [ho] at hQ
  refine r_iload0 dX6_join_0 ?_
  refine n_tabC (k := 2003) (t := 60) dX6_join_1 (by decide) rfl (by decide) (fun h1 => ?_) (fun h1 => False.elim (h1 (by omega)))
  refine r_iload1 dX6_join_60 ?_
  refine n_i2l dX6_join_61 (fun r61 e61 => ?_)
  refine r_iload2 dX6_join_62 ?_
  refine n_i2l dX6_join_63 (fun r63 e63 => ?_)
  refine n_ladd dX6_join_64 (by omega) (fun r64 e64 => ?_)
  refine r_lstore3 dX6_join_65 rfl ?_
  refine r_goto (t := 126) dX6_join_66 (by decide) ?_
  refine n_ldc2 (n := -1000000) zk_RX6_50 dX6_join_126 (by decide) (fun r126 e126 => ?_)
  refine n_ldc2 (n := 1000000) zk_RX6_52 dX6_join_129 (by decide) (fun r129 e129 => ?_)
  refine r_lload3 dX6_join_132 ?_
  refine r_mminL zm_RX6_54 dX6_join_133 (Nat.le_of_ble_eq_true rfl) (Nat.le_of_ble_eq_true rfl) (Nat.le_of_ble_eq_true rfl) (Nat.le_of_ble_eq_true rfl) (Nat.le_of_ble_eq_true rfl) (fun r133 e133 => ?_)
  refine r_mmaxL zm_RX6_60 dX6_join_136 (Nat.le_of_ble_eq_true rfl) (Nat.le_of_ble_eq_true rfl) (Nat.le_of_ble_eq_true rfl) (Nat.le_of_ble_eq_true rfl) (Nat.le_of_ble_eq_true rfl) (fun r136 e136 => ?_)
  refine n_l2i dX6_join_139 (by omega) (fun r139 e139 => ?_)
  refine r_iret dX6_join_140 rfl (Nat.le_of_ble_eq_true rfl) (Nat.le_of_ble_eq_true rfl) ?_
  unfold clI at hQ
  exact hQ _ (by omega)
set_option maxHeartbeats 4000000 in
set_option maxRecDepth 100000 in
theorem s_X6_join2004 {g : zGT} {w : zW} {f : Nat → Nat → Int32} {j : Nat → Nat → Int64} {s x y : Int32} {Q : Option Value → zW → Prop} {QX : String → zW → Prop} (G : zGok g) (hs : s.toInt = 2004) (ha_z : bdI x.toInt) (hb_z : bdI y.toInt) (hQ : ∀ r : Int32, r.toInt = opI 2004 x.toInt y.toInt → Q (some (.int r)) (zM w f j)) : zC g 1 yX6_join cX6_join 5 (some .int) [.int s, .int x, .int y] (zM w f j) (0, 0) Q QX := by
  refine zC_of G (by decide +kernel) (Nat.le_of_ble_eq_true rfl) ?_
  unfold bdI at ha_z hb_z
  have ho : opI 2004 x.toInt y.toInt = clI (x.toInt - y.toInt) := rfl
  rw [ho] at hQ
  refine r_iload0 dX6_join_0 ?_
  refine n_tabC (k := 2004) (t := 69) dX6_join_1 (by decide) rfl (by decide) (fun h1 => ?_) (fun h1 => False.elim (h1 (by omega)))
  refine r_iload1 dX6_join_69 ?_
  refine n_i2l dX6_join_70 (fun r70 e70 => ?_)
  refine r_iload2 dX6_join_71 ?_
  refine n_i2l dX6_join_72 (fun r72 e72_z => ?_)
  refine n_lsub dX6_join_73 (by omega) (fun r73 e73 => ?_)
  refine r_lstore3 dX6_join_74 rfl ?_
  refine r_goto (t := 126) dX6_join_75 (by decide) ?_
  refine n_ldc2 (n := -1000000) zk_RX6_50 dX6_join_126 (by decide) (fun r126 e126 => ?_)
  refine n_ldc2 (n := 1000000) zk_RX6_52 dX6_join_129 (by decide) (fun r129 e129 => ?_)
  refine r_lload3 dX6_join_132 ?_
  refine r_mminL zm_RX6_54 dX6_join_133 (Nat.le_of_ble_eq_true rfl) (Nat.le_of_ble_eq_true rfl) (Nat.le_of_ble_eq_true rfl) (Nat.le_of_ble_eq_true rfl) (Nat.le_of_ble_eq_true rfl) (fun r133 e133 => ?_)
  refine r_mmaxL zm_RX6_60 dX6_join_136 (Nat.le_of_ble_eq_true rfl) (Nat.le_of_ble_eq_true rfl) (Nat.le_of_ble_eq_true rfl) (Nat.le_of_ble_eq_true rfl) (Nat.le_of_ble_eq_true rfl) (fun r136 e136 => ?_)
  refine n_l2i dX6_join_139 (by omega) (fun r139 e139 => ?_)
  refine r_iret dX6_join_140 rfl (Nat.le_of_ble_eq_true rfl) (Nat.le_of_ble_eq_true rfl) ?_
  unfold clI at hQ
  exact hQ _ (by omega)
set_option maxHeartbeats 4000000 in
set_option maxRecDepth 100000 in
theorem s_X6_join2005 {g : zGT} {w : zW} {f : Nat → Nat → Int32} {j : Nat → Nat → Int64} {s x y : Int32} {Q : Option Value → zW → Prop} {QX : String → zW → Prop} (G : zGok g) (hs : s.toInt = 2005) (ha_z : bdI x.toInt) (hb_z : bdI y.toInt) (hQ : ∀ r : Int32, r.toInt = opI 2005 x.toInt y.toInt → Q (some (.int r)) (zM w f j)) : zC g 1 yX6_join cX6_join 5 (some .int) [.int s, .int x, .int y] (zM w f j) (0, 0) Q QX := by
  refine zC_of G (by decide +kernel) (Nat.le_of_ble_eq_true rfl) ?_
  unfold bdI at ha_z hb_z
  have hm_z := mul_bd (a := x.toInt) (b := y.toInt) ha_z hb_z
  have ho : opI 2005 x.toInt y.toInt = clI (x.toInt * y.toInt) := rfl
  rw [ho] at hQ
  refine r_iload0 dX6_join_0 ?_
  refine n_tabC (k := 2005) (t := 78) dX6_join_1 (by decide) rfl (by decide) (fun h1 => ?_) (fun h1 => False.elim (h1 (by omega)))
  refine r_iload1 dX6_join_78 ?_
  refine n_i2l dX6_join_79 (fun r79 e79 => ?_)
  refine r_iload2 dX6_join_80 ?_
  refine n_i2l dX6_join_81 (fun r81 e81 => ?_)
  refine n_lmul dX6_join_82 (by rw [e79, e81]; omega) (fun r82 e82 => ?_)
  refine r_lstore3 dX6_join_83 rfl ?_
  refine r_goto (t := 126) dX6_join_84 (by decide) ?_
  refine n_ldc2 (n := -1000000) zk_RX6_50 dX6_join_126 (by decide) (fun r126 e126 => ?_)
  refine n_ldc2 (n := 1000000) zk_RX6_52 dX6_join_129 (by decide) (fun r129 e129 => ?_)
  refine r_lload3 dX6_join_132 ?_
  refine r_mminL zm_RX6_54 dX6_join_133 (Nat.le_of_ble_eq_true rfl) (Nat.le_of_ble_eq_true rfl) (Nat.le_of_ble_eq_true rfl) (Nat.le_of_ble_eq_true rfl) (Nat.le_of_ble_eq_true rfl) (fun r133 e133 => ?_)
  refine r_mmaxL zm_RX6_60 dX6_join_136 (Nat.le_of_ble_eq_true rfl) (Nat.le_of_ble_eq_true rfl) (Nat.le_of_ble_eq_true rfl) (Nat.le_of_ble_eq_true rfl) (Nat.le_of_ble_eq_true rfl) (fun r136 e136 => ?_)
  refine n_l2i dX6_join_139 (by omega) (fun r139 e139 => ?_)
  refine r_iret dX6_join_140 rfl (Nat.le_of_ble_eq_true rfl) (Nat.le_of_ble_eq_true rfl) ?_
  rw [e79, e81] at e82
  unfold clI at hQ
  exact hQ _ (by omega)
set_option maxHeartbeats 4000000 in
set_option maxRecDepth 100000 in
theorem s_X6_join2006 {g : zGT} {w : zW} {f : Nat → Nat → Int32} {j : Nat → Nat → Int64} {s x y : Int32} {Q : Option Value → zW → Prop} {QX : String → zW → Prop} (G : zGok g) (hs : s.toInt = 2006) (ha_z : bdI x.toInt) (hb_z : bdI y.toInt) (hQ : ∀ r : Int32, r.toInt = opI 2006 x.toInt y.toInt → Q (some (.int r)) (zM w f j)) : zC g 1 yX6_join cX6_join 5 (some .int) [.int s, .int x, .int y] (zM w f j) (0, 0) Q QX := by
  refine zC_of G (by decide +kernel) (Nat.le_of_ble_eq_true rfl) ?_
  unfold bdI at ha_z hb_z
  have ho : opI 2006 x.toInt y.toInt = if x.toInt = y.toInt then 1 else 0 := rfl
  rw [ho] at hQ
  refine r_iload0 dX6_join_0 ?_
  refine n_tabC (k := 2006) (t := 87) dX6_join_1 (by decide) rfl (by decide) (fun h1 => ?_) (fun h1 => False.elim (h1 (by omega)))
  refine r_iload1 dX6_join_87 ?_
  refine r_iload2 dX6_join_88 ?_
  refine t_icne (t := 96) dX6_join_89 (by decide) (fun h89 => ?_) (fun h89 => ?_)
  · refine n_lconst (q := 0) dX6_join_96 rfl (by decide) (fun r96 e96 => ?_)
    refine r_lstore3 dX6_join_97 rfl ?_
    refine r_goto (t := 126) dX6_join_98 (by decide) ?_
    refine n_ldc2 (n := -1000000) zk_RX6_50 dX6_join_126 (by decide) (fun r126 e126 => ?_)
    refine n_ldc2 (n := 1000000) zk_RX6_52 dX6_join_129 (by decide) (fun r129 e129 => ?_)
    refine r_lload3 dX6_join_132 ?_
    refine r_mminL zm_RX6_54 dX6_join_133 (Nat.le_of_ble_eq_true rfl) (Nat.le_of_ble_eq_true rfl) (Nat.le_of_ble_eq_true rfl) (Nat.le_of_ble_eq_true rfl) (Nat.le_of_ble_eq_true rfl) (fun r133 e133 => ?_)
    refine r_mmaxL zm_RX6_60 dX6_join_136 (Nat.le_of_ble_eq_true rfl) (Nat.le_of_ble_eq_true rfl) (Nat.le_of_ble_eq_true rfl) (Nat.le_of_ble_eq_true rfl) (Nat.le_of_ble_eq_true rfl) (fun r136 e136 => ?_)
    refine n_l2i dX6_join_139 (by omega) (fun r139 e139 => ?_)
    refine r_iret dX6_join_140 rfl (Nat.le_of_ble_eq_true rfl) (Nat.le_of_ble_eq_true rfl) ?_
    first
      | (refine hQ _ ?_; rw [if_pos (by omega)]; omega)
      | (refine hQ _ ?_; rw [if_neg (by omega)]; omega)
  · refine n_lconst (q := 1) dX6_join_92 rfl (by decide) (fun r92 e92_z => ?_)
    refine r_goto (t := 97) dX6_join_93 (by decide) ?_
    refine r_lstore3 dX6_join_97 rfl ?_
    refine r_goto (t := 126) dX6_join_98 (by decide) ?_
    refine n_ldc2 (n := -1000000) zk_RX6_50 dX6_join_126 (by decide) (fun r126 e126 => ?_)
    refine n_ldc2 (n := 1000000) zk_RX6_52 dX6_join_129 (by decide) (fun r129 e129 => ?_)
    refine r_lload3 dX6_join_132 ?_
    refine r_mminL zm_RX6_54 dX6_join_133 (Nat.le_of_ble_eq_true rfl) (Nat.le_of_ble_eq_true rfl) (Nat.le_of_ble_eq_true rfl) (Nat.le_of_ble_eq_true rfl) (Nat.le_of_ble_eq_true rfl) (fun r133 e133 => ?_)
    refine r_mmaxL zm_RX6_60 dX6_join_136 (Nat.le_of_ble_eq_true rfl) (Nat.le_of_ble_eq_true rfl) (Nat.le_of_ble_eq_true rfl) (Nat.le_of_ble_eq_true rfl) (Nat.le_of_ble_eq_true rfl) (fun r136 e136 => ?_)
    refine n_l2i dX6_join_139 (by omega) (fun r139 e139 => ?_)
    refine r_iret dX6_join_140 rfl (Nat.le_of_ble_eq_true rfl) (Nat.le_of_ble_eq_true rfl) ?_
    first
      | (refine hQ _ ?_; rw [if_pos (by omega)]; omega)
      | (refine hQ _ ?_; rw [if_neg (by omega)]; omega)
set_option maxHeartbeats 4000000 in
set_option maxRecDepth 100000 in
theorem s_X6_join2007 {g : zGT} {w : zW} {f : Nat → Nat → Int32} {j : Nat → Nat → Int64} {s x y : Int32} {Q : Option Value → zW → Prop} {QX : String → zW → Prop} (G : zGok g) (hs : s.toInt = 2007) (ha_z : bdI x.toInt) (hb_z : bdI y.toInt) (hQ : ∀ r : Int32, r.toInt = opI 2007 x.toInt y.toInt → Q (some (.int r)) (zM w f j)) : zC g 1 yX6_join cX6_join 5 (some .int) [.int s, .int x, .int y] (zM w f j) (0, 0) Q QX := by
  refine zC_of G (by decide +kernel) (Nat.le_of_ble_eq_true rfl) ?_
  unfold bdI at ha_z hb_z
  have ho : opI 2007 x.toInt y.toInt = if x.toInt < y.toInt then 1 else 0 := rfl
  rw [ho] at hQ
  refine r_iload0 dX6_join_0 ?_
  refine n_tabC (k := 2007) (t := 101) dX6_join_1 (by decide) rfl (by decide) (fun h1 => ?_) (fun h1 => False.elim (h1 (by omega)))
  refine r_iload1 dX6_join_101 ?_
  refine r_iload2 dX6_join_102 ?_
  refine t_icge (t := 110) dX6_join_103 (by decide) (fun h103 => ?_) (fun h103 => ?_)
  · refine n_lconst (q := 0) dX6_join_110 rfl (by decide) (fun r110 e110 => ?_)
    refine r_lstore3 dX6_join_111 rfl ?_
    refine r_goto (t := 126) dX6_join_112 (by decide) ?_
    refine n_ldc2 (n := -1000000) zk_RX6_50 dX6_join_126 (by decide) (fun r126 e126 => ?_)
    refine n_ldc2 (n := 1000000) zk_RX6_52 dX6_join_129 (by decide) (fun r129 e129 => ?_)
    refine r_lload3 dX6_join_132 ?_
    refine r_mminL zm_RX6_54 dX6_join_133 (Nat.le_of_ble_eq_true rfl) (Nat.le_of_ble_eq_true rfl) (Nat.le_of_ble_eq_true rfl) (Nat.le_of_ble_eq_true rfl) (Nat.le_of_ble_eq_true rfl) (fun r133 e133 => ?_)
    refine r_mmaxL zm_RX6_60 dX6_join_136 (Nat.le_of_ble_eq_true rfl) (Nat.le_of_ble_eq_true rfl) (Nat.le_of_ble_eq_true rfl) (Nat.le_of_ble_eq_true rfl) (Nat.le_of_ble_eq_true rfl) (fun r136 e136 => ?_)
    refine n_l2i dX6_join_139 (by omega) (fun r139 e139 => ?_)
    refine r_iret dX6_join_140 rfl (Nat.le_of_ble_eq_true rfl) (Nat.le_of_ble_eq_true rfl) ?_
    first
      | (refine hQ _ ?_; rw [if_pos (by omega)]; omega)
      | (refine hQ _ ?_; rw [if_neg (by omega)]; omega)
  · refine n_lconst (q := 1) dX6_join_106 rfl (by decide) (fun r106 e106 => ?_)
    refine r_goto (t := 111) dX6_join_107 (by decide) ?_
    refine r_lstore3 dX6_join_111 rfl ?_
    refine r_goto (t := 126) dX6_join_112 (by decide) ?_
    refine n_ldc2 (n := -1000000) zk_RX6_50 dX6_join_126 (by decide) (fun r126 e126 => ?_)
    refine n_ldc2 (n := 1000000) zk_RX6_52 dX6_join_129 (by decide) (fun r129 e129 => ?_)
    refine r_lload3 dX6_join_132 ?_
    refine r_mminL zm_RX6_54 dX6_join_133 (Nat.le_of_ble_eq_true rfl) (Nat.le_of_ble_eq_true rfl) (Nat.le_of_ble_eq_true rfl) (Nat.le_of_ble_eq_true rfl) (Nat.le_of_ble_eq_true rfl) (fun r133 e133 => ?_)
    refine r_mmaxL zm_RX6_60 dX6_join_136 (Nat.le_of_ble_eq_true rfl) (Nat.le_of_ble_eq_true rfl) (Nat.le_of_ble_eq_true rfl) (Nat.le_of_ble_eq_true rfl) (Nat.le_of_ble_eq_true rfl) (fun r136 e136 => ?_)
    refine n_l2i dX6_join_139 (by omega) (fun r139 e139 => ?_)
    refine r_iret dX6_join_140 rfl (Nat.le_of_ble_eq_true rfl) (Nat.le_of_ble_eq_true rfl) ?_
    first
      | (refine hQ _ ?_; rw [if_pos (by omega)]; omega)
      | (refine hQ _ ?_; rw [if_neg (by omega)]; omega)
set_option maxHeartbeats 4000000 in
set_option maxRecDepth 100000 in
theorem s_X6_join2008 {g : zGT} {w : zW} {f : Nat → Nat → Int32} {j : Nat → Nat → Int64} {s x y : Int32} {Q : Option Value → zW → Prop} {QX : String → zW → Prop} (G : zGok g) (hs : s.toInt = 2008) (ha_z : bdI x.toInt) (hb_z : bdI y.toInt) (hQ : ∀ r : Int32, r.toInt = opI 2008 x.toInt y.toInt → Q (some (.int r)) (zM w f j)) : zC g 1 yX6_join cX6_join 5 (some .int) [.int s, .int x, .int y] (zM w f j) (0, 0) Q QX := by
  refine zC_of G (by decide +kernel) (Nat.le_of_ble_eq_true rfl) ?_
  unfold bdI at ha_z hb_z
  have ho : opI 2008 x.toInt y.toInt = if x.toInt > y.toInt then 1 else 0 := rfl
  rw [ho] at hQ
  refine r_iload0 dX6_join_0 ?_
  refine n_tabD (t := 115) dX6_join_1 (by decide) (by omega) ?_
  refine r_iload1 dX6_join_115 ?_
  refine r_iload2 dX6_join_116 ?_
  refine t_icle (t := 124) dX6_join_117 (by decide) (fun h117 => ?_) (fun h117 => ?_)
  · refine n_lconst (q := 0) dX6_join_124 rfl (by decide) (fun r124 e124 => ?_)
    refine r_lstore3 dX6_join_125 rfl ?_
    refine n_ldc2 (n := -1000000) zk_RX6_50 dX6_join_126 (by decide) (fun r126 e126 => ?_)
    refine n_ldc2 (n := 1000000) zk_RX6_52 dX6_join_129 (by decide) (fun r129 e129 => ?_)
    refine r_lload3 dX6_join_132 ?_
    refine r_mminL zm_RX6_54 dX6_join_133 (Nat.le_of_ble_eq_true rfl) (Nat.le_of_ble_eq_true rfl) (Nat.le_of_ble_eq_true rfl) (Nat.le_of_ble_eq_true rfl) (Nat.le_of_ble_eq_true rfl) (fun r133 e133 => ?_)
    refine r_mmaxL zm_RX6_60 dX6_join_136 (Nat.le_of_ble_eq_true rfl) (Nat.le_of_ble_eq_true rfl) (Nat.le_of_ble_eq_true rfl) (Nat.le_of_ble_eq_true rfl) (Nat.le_of_ble_eq_true rfl) (fun r136 e136 => ?_)
    refine n_l2i dX6_join_139 (by omega) (fun r139 e139 => ?_)
    refine r_iret dX6_join_140 rfl (Nat.le_of_ble_eq_true rfl) (Nat.le_of_ble_eq_true rfl) ?_
    first
      | (refine hQ _ ?_; rw [if_pos (by omega)]; omega)
      | (refine hQ _ ?_; rw [if_neg (by omega)]; omega)
  · refine n_lconst (q := 1) dX6_join_120 rfl (by decide) (fun r120 e120_z => ?_)
    refine r_goto (t := 125) dX6_join_121 (by decide) ?_
    refine r_lstore3 dX6_join_125 rfl ?_
    refine n_ldc2 (n := -1000000) zk_RX6_50 dX6_join_126 (by decide) (fun r126 e126 => ?_)
    refine n_ldc2 (n := 1000000) zk_RX6_52 dX6_join_129 (by decide) (fun r129 e129 => ?_)
    refine r_lload3 dX6_join_132 ?_
    refine r_mminL zm_RX6_54 dX6_join_133 (Nat.le_of_ble_eq_true rfl) (Nat.le_of_ble_eq_true rfl) (Nat.le_of_ble_eq_true rfl) (Nat.le_of_ble_eq_true rfl) (Nat.le_of_ble_eq_true rfl) (fun r133 e133 => ?_)
    refine r_mmaxL zm_RX6_60 dX6_join_136 (Nat.le_of_ble_eq_true rfl) (Nat.le_of_ble_eq_true rfl) (Nat.le_of_ble_eq_true rfl) (Nat.le_of_ble_eq_true rfl) (Nat.le_of_ble_eq_true rfl) (fun r136 e136 => ?_)
    refine n_l2i dX6_join_139 (by omega) (fun r139 e139 => ?_)
    refine r_iret dX6_join_140 rfl (Nat.le_of_ble_eq_true rfl) (Nat.le_of_ble_eq_true rfl) ?_
    first
      | (refine hQ _ ?_; rw [if_pos (by omega)]; omega)
      | (refine hQ _ ?_; rw [if_neg (by omega)]; omega)
theorem s_X6_join {g : zGT} {w : zW} {f : Nat → Nat → Int32} {j : Nat → Nat → Int64} {s x y : Int32} {o : Nat} {Q : Option Value → zW → Prop} {QX : String → zW → Prop} (G : zGok g) (ho : 2001 ≤ o ∧ o ≤ 2008) (hs : s.toInt = (o : Nat)) (ha_z : bdI x.toInt) (hb_z : bdI y.toInt) (h01 : o = 2001 ∨ o = 2002 → (x.toInt = 0 ∨ x.toInt = 1) ∧ (y.toInt = 0 ∨ y.toInt = 1)) (hQ : ∀ r : Int32, r.toInt = opI o x.toInt y.toInt → Q (some (.int r)) (zM w f j)) : zC g 1 yX6_join cX6_join 5 (some .int) [.int s, .int x, .int y] (zM w f j) (0, 0) Q QX := by
  rcases (show o = 2001 ∨ o = 2002 ∨ o = 2003 ∨ o = 2004 ∨ o = 2005 ∨ o = 2006 ∨ o = 2007 ∨ o = 2008 by omega) with rfl | rfl | rfl | rfl | rfl | rfl | rfl | rfl
  · exact s_X6_join2001 G hs ha_z hb_z (h01 (Or.inl rfl)).1 (h01 (Or.inl rfl)).2 hQ
  · exact s_X6_join2002 G hs ha_z hb_z (h01 (Or.inr rfl)).1 (h01 (Or.inr rfl)).2 hQ
  · exact s_X6_join2003 G hs ha_z hb_z hQ
  · exact s_X6_join2004 G hs ha_z hb_z hQ
  · exact s_X6_join2005 G hs ha_z hb_z hQ
  · exact s_X6_join2006 G hs ha_z hb_z hQ
  · exact s_X6_join2007 G hs ha_z hb_z hQ
  · exact s_X6_join2008 G hs ha_z hb_z hQ
set_option maxHeartbeats 4000000 in
set_option maxRecDepth 100000 in
theorem s_X6_weigh {g : zGT} {w : zW} {f : Nat → Nat → Int32} {j : Nat → Nat → Int64} {a : Nat} {q : Nat} {F : Nat → Int} {l : List Nat} {v : Int} {Q : Option Value → zW → Prop} {QX : String → zW → Prop} (G : zGok g) (hs : shSc w a) (hqk : zK w q = 21) (hqn : zN w q = l.length) (hqd : q ≠ a + 2) (hl9 : l.length ≤ 900) (hlw : ∀ i o, l[i]? = some o → (f q i).toInt = (o : Nat)) (hF : bdF F) (hfa : ∀ k, k < 8 → 1000 + k ∈ l → (f (a + 1) k).toInt = F k) (hrun : l = [] ∧ v = 0 ∨ l ≠ [] ∧ lwRun F l [] = some [v]) (hQ : ∀ (r : Int32) f2_z, r.toInt = v → ofR f f2_z (a + 2) 1 → Q (some (.int r)) (zM w f2_z j)) : zC g 2 yX6_weigh cX6_weigh 5 (some .int) [.ref a, .ref q] (zM w f j) (0, 0) Q QX := by
  refine zC_of G (by decide +kernel) (Nat.le_of_ble_eq_true rfl) ?_
  have hu : ∃ u0 : List Int, (u0 = [] ∧ v = 0 ∨ u0 = [v]) ∧ lwRun F l [] = some u0 := by
    rcases hrun with ⟨g1, g2⟩ | ⟨g1, g2⟩
    · exact ⟨[], Or.inl ⟨rfl, g2⟩, by rw [g1]; rfl⟩
    · exact ⟨[v], Or.inr rfl, g2⟩
  obtain ⟨u0, hu0, hrun2⟩ := hu
  have lp : ∀ (mz : Nat) (n : Int32) (c : Int32) (k : Nat) (f2_z : Nat → Nat → Int32) (s : List Int) (v4_ : Option Value), c.toInt = (k : Nat) → k ≤ l.length → n.toInt = (s.length : Nat) → ofR f f2_z (a + 2) 1 → lwRun F (l.drop k) s = some u0 → (∀ v ∈ s, bdI v) → s.length ≤ 64 → stkR (f2_z (a + 2)) s → l.length - k < mz → zR (zV g 2 yX6_weigh 5 (some .int) (0, 0) Q QX) cX6_weigh yX6_weigh.cls 4 [some (.ref a), some (.ref q), some (.int n), some (.int c), v4_] [] (zM w f2_z j) (0, 0) := by
    intro mz
    induction mz with
    | zero =>
      intro n c k f2_z s v4_ hc_z hk hn hfr hrn hbd hl64 hstk hmz
      exact absurd hmz (Nat.not_lt_zero _)
    | succ mz ih =>
      intro n c k f2_z s v4_ hc_z hk hn hfr hrn hbd hl64 hstk hmz
      have hK_z : f2_z q = f q := hfr q (by omega)
      have hK9 : f2_z (a + 1) = f (a + 1) := hfr (a + 1) (by omega)
      rcases Nat.lt_or_ge k l.length with hkl | hkl
      · obtain ⟨o, ho⟩ : ∃ o, l[k]? = some o := ⟨_, List.getElem?_eq_getElem hkl⟩
        have how : (f2_z q k).toInt = (o : Nat) := by rw [hK_z]; exact hlw k o ho
        obtain ⟨t, ht1, ht2⟩ := lwRun_at hrn ho
        have htb := lwStep_bd hF hbd hl64 ht1
        rcases lwStep_ca ht1 with ⟨q1_z, q2_z, q3_z⟩ | ⟨q1_z, q2_z, q3_z, q4_z⟩ | ⟨q1_z, z, u, q2_z, q3_z, q4_z⟩ | ⟨q1_z, q2_z, b, z, u, q3_z, q4_z, q5_z⟩
        · refine r_iload3 dX6_weigh_4 ?_
          refine r_aloadR1 dX6_weigh_5 ?_
          refine m_alen dX6_weigh_6 (zge hqk (by decide)) hqn (by first | decide | omega) (fun r6 e6_z => ?_)
          refine t_icge (t := 150) dX6_weigh_7 (by decide) (fun h7 => False.elim (by omega)) (fun h7 => ?_)
          refine r_aloadR1 dX6_weigh_10 ?_
          refine r_iload3 dX6_weigh_11 ?_
          refine m_iald (k := k) (x := (f2_z q k)) dX6_weigh_12 hqk hqn (by omega) (by omega) (rfl) ?_
          refine r_istore4 dX6_weigh_13 rfl ?_
          refine r_iload4 dX6_weigh_15 ?_
          refine n_sipush dX6_weigh_17 (by decide) (fun r17 e17_z => ?_)
          refine t_icge (t := 67) dX6_weigh_20 (by decide) (fun h20 => False.elim (by omega)) (fun h20 => ?_)
          refine r_iload2 dX6_weigh_23 ?_
          refine r_aloadR0 dX6_weigh_24 ?_
          refine m_getR (q := (a + 2)) zf_RX6_15 rfl dX6_weigh_25 (shSc_k hs) (shSc_p1 hs) ?_
          refine m_alen dX6_weigh_28 (zge (shSc_k2 hs) (by decide)) (shSc_n2 hs) (by first | decide | omega) (fun r28 e28_z => ?_)
          refine t_icge (t := 67) dX6_weigh_29 (by decide) (fun h29 => False.elim (by omega)) (fun h29 => ?_)
          refine r_aloadR0 dX6_weigh_32 ?_
          refine m_getR (q := (a + 2)) zf_RX6_15 rfl dX6_weigh_33 (shSc_k hs) (shSc_p1 hs) ?_
          refine r_iload2 dX6_weigh_36 ?_
          refine r_iload4 dX6_weigh_37 ?_
          refine n_sipush dX6_weigh_39 (by decide) (fun r39 e39 => ?_)
          refine t_icge (t := 50) dX6_weigh_42 (by decide) (fun h42 => False.elim (by omega)) (fun h42 => ?_)
          refine r_iload4 dX6_weigh_45 ?_
          refine r_goto (t := 60) dX6_weigh_47 (by decide) ?_
          have hst2 : stkR (zu f2_z (a + 2) s.length (f2_z q k) (a + 2)) t := by rw [q3_z]; exact stkR_push hstk how
          refine m_iast (k := s.length) dX6_weigh_60 (shSc_k2 hs) (shSc_n2 hs) (by omega) (by omega) ?_
          have hst2 : stkR (zu f2_z (a + 2) s.length (f2_z q k) (a + 2)) t := by rw [q3_z]; exact stkR_push hstk how
          refine n_iinc2 dX6_weigh_61 (by decide) rfl (by omega) (fun r61 e61 => ?_)
          refine r_goto (t := 144) dX6_weigh_64 (by decide) ?_
          refine n_iinc3 dX6_weigh_144 (by decide) rfl (by omega) (fun r144 e144 => ?_)
          refine r_goto (t := 4) dX6_weigh_147 (by decide) ?_
          exact ih _ _ (k + 1) _ t _ (by omega) (by omega) (by rw [q3_z, List.length_cons]; omega) (ofR_zu hfr (by omega)) ht2 htb.1 htb.2 hst2 (by omega)
        · have hfv := hfa (o - 1000) (by omega) (by rw [show 1000 + (o - 1000) = o by omega]; exact List.mem_of_getElem? ho)
          rw [← hK9] at hfv
          refine r_iload3 dX6_weigh_4 ?_
          refine r_aloadR1 dX6_weigh_5 ?_
          refine m_alen dX6_weigh_6 (zge hqk (by decide)) hqn (by first | decide | omega) (fun r6 e6_z => ?_)
          refine t_icge (t := 150) dX6_weigh_7 (by decide) (fun h7 => False.elim (by omega)) (fun h7 => ?_)
          refine r_aloadR1 dX6_weigh_10 ?_
          refine r_iload3 dX6_weigh_11 ?_
          refine m_iald (k := k) (x := (f2_z q k)) dX6_weigh_12 hqk hqn (by omega) (by omega) (rfl) ?_
          refine r_istore4 dX6_weigh_13 rfl ?_
          refine r_iload4 dX6_weigh_15 ?_
          refine n_sipush dX6_weigh_17 (by decide) (fun r17 e17_z => ?_)
          refine t_icge (t := 67) dX6_weigh_20 (by decide) (fun h20 => False.elim (by omega)) (fun h20 => ?_)
          refine r_iload2 dX6_weigh_23 ?_
          refine r_aloadR0 dX6_weigh_24 ?_
          refine m_getR (q := (a + 2)) zf_RX6_15 rfl dX6_weigh_25 (shSc_k hs) (shSc_p1 hs) ?_
          refine m_alen dX6_weigh_28 (zge (shSc_k2 hs) (by decide)) (shSc_n2 hs) (by first | decide | omega) (fun r28 e28_z => ?_)
          refine t_icge (t := 67) dX6_weigh_29 (by decide) (fun h29 => False.elim (by omega)) (fun h29 => ?_)
          refine r_aloadR0 dX6_weigh_32 ?_
          refine m_getR (q := (a + 2)) zf_RX6_15 rfl dX6_weigh_33 (shSc_k hs) (shSc_p1 hs) ?_
          refine r_iload2 dX6_weigh_36 ?_
          refine r_iload4 dX6_weigh_37 ?_
          refine n_sipush dX6_weigh_39 (by decide) (fun r39 e39 => ?_)
          refine t_icge (t := 50) dX6_weigh_42 (by decide) (fun h42 => ?_) (fun h42 => False.elim (by omega))
          refine r_aloadR0 dX6_weigh_50 ?_
          refine r_iload4 dX6_weigh_51 ?_
          refine n_sipush dX6_weigh_53 (by decide) (fun r53 e53 => ?_)
          refine n_isub dX6_weigh_56 (by omega) (fun r56 e56 => ?_)
          refine q_callV1 zm_RX6_42 dX6_weigh_57 (shSc_k hs) (by decide) rfl (Nat.le_of_ble_eq_true rfl) (Nat.le_of_ble_eq_true rfl) (Nat.le_of_ble_eq_true rfl) (Nat.le_of_ble_eq_true rfl) (Nat.le_of_ble_eq_true rfl) (s_X6_factAt (k := o - 1000) G hs (by omega) (by omega) (fun r57 e57 => ?_))
          refine m_iast (k := s.length) dX6_weigh_60 (shSc_k2 hs) (shSc_n2 hs) (by omega) (by omega) ?_
          have hst2 : stkR (zu f2_z (a + 2) s.length r57 (a + 2)) t := by rw [q4_z]; exact stkR_push hstk (by rw [e57]; exact hfv)
          refine n_iinc2 dX6_weigh_61 (by decide) rfl (by omega) (fun r61 e61 => ?_)
          refine r_goto (t := 144) dX6_weigh_64 (by decide) ?_
          refine n_iinc3 dX6_weigh_144 (by decide) rfl (by omega) (fun r144 e144 => ?_)
          refine r_goto (t := 4) dX6_weigh_147 (by decide) ?_
          exact ih _ _ (k + 1) _ t _ (by omega) (by omega) (by rw [q4_z, List.length_cons]; omega) (ofR_zu hfr (by omega)) ht2 htb.1 htb.2 hst2 (by omega)
        · subst q2_z
          rw [List.length_cons] at hn hl64
          have htop := stkR_top hstk
          refine r_iload3 dX6_weigh_4 ?_
          refine r_aloadR1 dX6_weigh_5 ?_
          refine m_alen dX6_weigh_6 (zge hqk (by decide)) hqn (by first | decide | omega) (fun r6 e6_z => ?_)
          refine t_icge (t := 150) dX6_weigh_7 (by decide) (fun h7 => False.elim (by omega)) (fun h7 => ?_)
          refine r_aloadR1 dX6_weigh_10 ?_
          refine r_iload3 dX6_weigh_11 ?_
          refine m_iald (k := k) (x := (f2_z q k)) dX6_weigh_12 hqk hqn (by omega) (by omega) (rfl) ?_
          refine r_istore4 dX6_weigh_13 rfl ?_
          refine r_iload4 dX6_weigh_15 ?_
          refine n_sipush dX6_weigh_17 (by decide) (fun r17 e17_z => ?_)
          refine t_icge (t := 67) dX6_weigh_20 (by decide) (fun h20 => ?_) (fun h20 => False.elim (by omega))
          refine r_iload4 dX6_weigh_67 ?_
          refine n_sipush dX6_weigh_69 (by decide) (fun r69 e69 => ?_)
          refine t_icne (t := 101) dX6_weigh_72 (by decide) (fun h72 => False.elim (by omega)) (fun h72 => ?_)
          refine r_iload2 dX6_weigh_75 ?_
          refine n_iconst dX6_weigh_76 (by decide) (fun r76 e76 => ?_)
          refine t_iclt (t := 101) dX6_weigh_77 (by decide) (fun h77 => False.elim (by omega)) (fun h77 => ?_)
          refine r_aloadR0 dX6_weigh_80 ?_
          refine m_getR (q := (a + 2)) zf_RX6_15 rfl dX6_weigh_81 (shSc_k hs) (shSc_p1 hs) ?_
          refine r_iload2 dX6_weigh_84 ?_
          refine n_iconst dX6_weigh_85 (by decide) (fun r85 e85 => ?_)
          refine n_isub dX6_weigh_86 (by omega) (fun r86 e86 => ?_)
          refine n_iconst dX6_weigh_87 (by decide) (fun r87 e87 => ?_)
          refine r_aloadR0 dX6_weigh_88 ?_
          refine m_getR (q := (a + 2)) zf_RX6_15 rfl dX6_weigh_89 (shSc_k hs) (shSc_p1 hs) ?_
          refine r_iload2 dX6_weigh_92 ?_
          refine n_iconst dX6_weigh_93 (by decide) (fun r93 e93_z => ?_)
          refine n_isub dX6_weigh_94 (by omega) (fun r94 e94_z => ?_)
          refine m_iald (k := u.length) (x := (f2_z (a + 2) u.length)) dX6_weigh_95 (shSc_k2 hs) (shSc_n2 hs) (by omega) (by omega) (rfl) ?_
          refine n_isub dX6_weigh_96 (by omega) (fun r96 e96 => ?_)
          refine m_iast (k := u.length) dX6_weigh_97 (shSc_k2 hs) (shSc_n2 hs) (by omega) (by omega) ?_
          have hst2 : stkR (zu f2_z (a + 2) u.length r96 (a + 2)) t := by rw [q4_z]; exact stkR_set hstk (by omega)
          refine r_goto (t := 144) dX6_weigh_98 (by decide) ?_
          refine n_iinc3 dX6_weigh_144 (by decide) rfl (by omega) (fun r144 e144 => ?_)
          refine r_goto (t := 4) dX6_weigh_147 (by decide) ?_
          exact ih _ _ (k + 1) _ t _ (by omega) (by omega) (by rw [q4_z, List.length_cons]; omega) (ofR_zu hfr (by omega)) ht2 htb.1 htb.2 hst2 (by omega)
        · subst q3_z
          rw [List.length_cons, List.length_cons] at hn hl64
          have htop := stkR_top hstk
          rw [List.length_cons] at htop
          have htop2 := stkR_top (stkR_pop hstk)
          have hbb := hbd b List.mem_cons_self
          have hbz := hbd z (List.mem_cons_of_mem _ List.mem_cons_self)
          refine r_iload3 dX6_weigh_4 ?_
          refine r_aloadR1 dX6_weigh_5 ?_
          refine m_alen dX6_weigh_6 (zge hqk (by decide)) hqn (by first | decide | omega) (fun r6 e6_z => ?_)
          refine t_icge (t := 150) dX6_weigh_7 (by decide) (fun h7 => False.elim (by omega)) (fun h7 => ?_)
          refine r_aloadR1 dX6_weigh_10 ?_
          refine r_iload3 dX6_weigh_11 ?_
          refine m_iald (k := k) (x := (f2_z q k)) dX6_weigh_12 hqk hqn (by omega) (by omega) (rfl) ?_
          refine r_istore4 dX6_weigh_13 rfl ?_
          refine r_iload4 dX6_weigh_15 ?_
          refine n_sipush dX6_weigh_17 (by decide) (fun r17 e17_z => ?_)
          refine t_icge (t := 67) dX6_weigh_20 (by decide) (fun h20 => ?_) (fun h20 => False.elim (by omega))
          refine r_iload4 dX6_weigh_67 ?_
          refine n_sipush dX6_weigh_69 (by decide) (fun r69 e69 => ?_)
          refine t_icne (t := 101) dX6_weigh_72 (by decide) (fun h72 => ?_) (fun h72 => False.elim (by omega))
          refine r_iload4 dX6_weigh_101 ?_
          refine n_sipush dX6_weigh_103 (by decide) (fun r103 e103_z => ?_)
          refine t_icle (t := 144) dX6_weigh_106 (by decide) (fun h106 => False.elim (by omega)) (fun h106 => ?_)
          refine r_iload2 dX6_weigh_109 ?_
          refine n_iconst dX6_weigh_110 (by decide) (fun r110 e110 => ?_)
          refine t_iclt (t := 144) dX6_weigh_111 (by decide) (fun h111 => False.elim (by omega)) (fun h111 => ?_)
          refine n_iinc2 dX6_weigh_114 (by decide) rfl (by omega) (fun r114 e114_z => ?_)
          refine r_aloadR0 dX6_weigh_117 ?_
          refine m_getR (q := (a + 2)) zf_RX6_15 rfl dX6_weigh_118 (shSc_k hs) (shSc_p1 hs) ?_
          refine r_iload2 dX6_weigh_121 ?_
          refine n_iconst dX6_weigh_122 (by decide) (fun r122 e122_z => ?_)
          refine n_isub dX6_weigh_123 (by omega) (fun r123 e123_z => ?_)
          refine r_iload4 dX6_weigh_124 ?_
          refine r_aloadR0 dX6_weigh_126 ?_
          refine m_getR (q := (a + 2)) zf_RX6_15 rfl dX6_weigh_127 (shSc_k hs) (shSc_p1 hs) ?_
          refine r_iload2 dX6_weigh_130 ?_
          refine n_iconst dX6_weigh_131 (by decide) (fun r131 e131 => ?_)
          refine n_isub dX6_weigh_132 (by omega) (fun r132 e132 => ?_)
          refine m_iald (k := u.length) (x := (f2_z (a + 2) u.length)) dX6_weigh_133 (shSc_k2 hs) (shSc_n2 hs) (by omega) (by omega) (rfl) ?_
          refine r_aloadR0 dX6_weigh_134 ?_
          refine m_getR (q := (a + 2)) zf_RX6_15 rfl dX6_weigh_135 (shSc_k hs) (shSc_p1 hs) ?_
          refine r_iload2 dX6_weigh_138 ?_
          refine m_iald (k := u.length + 1) (x := (f2_z (a + 2) (u.length + 1))) dX6_weigh_139 (shSc_k2 hs) (shSc_n2 hs) (by omega) (by omega) (rfl) ?_
          refine q_callS3 zm_RX6_46 dX6_weigh_140 (Nat.le_of_ble_eq_true rfl) (Nat.le_of_ble_eq_true rfl) (Nat.le_of_ble_eq_true rfl) (Nat.le_of_ble_eq_true rfl) (Nat.le_of_ble_eq_true rfl) (s_X6_join (o := o) G ⟨q1_z, q2_z⟩ how (by rw [htop2]; exact hbz) (by rw [htop]; exact hbb) (fun e => by rw [htop, htop2]; exact q5_z e) (fun r140 e140 => ?_))
          refine m_iast (k := u.length) dX6_weigh_143 (shSc_k2 hs) (shSc_n2 hs) (by omega) (by omega) ?_
          have hst2 : stkR (zu f2_z (a + 2) u.length r140 (a + 2)) t := by rw [q4_z]; exact stkR_set (stkR_pop hstk) (by rw [e140, htop, htop2])
          refine n_iinc3 dX6_weigh_144 (by decide) rfl (by omega) (fun r144 e144 => ?_)
          refine r_goto (t := 4) dX6_weigh_147 (by decide) ?_
          exact ih _ _ (k + 1) _ t _ (by omega) (by omega) (by rw [q4_z, List.length_cons]; omega) (ofR_zu hfr (by omega)) ht2 htb.1 htb.2 hst2 (by omega)
      · have e : l.drop k = [] := List.drop_of_length_le hkl
        rw [e] at hrn
        have e2_z : s = u0 := Option.some.inj hrn
        subst e2_z
        rcases hu0 with ⟨g1, g2⟩ | g1
        · rw [g1, List.length_nil] at hn
          refine r_iload3 dX6_weigh_4 ?_
          refine r_aloadR1 dX6_weigh_5 ?_
          refine m_alen dX6_weigh_6 (zge hqk (by decide)) hqn (by first | decide | omega) (fun r6 e6_z => ?_)
          refine t_icge (t := 150) dX6_weigh_7 (by decide) (fun h7 => ?_) (fun h7 => False.elim (by omega))
          refine r_iload2 dX6_weigh_150 ?_
          refine n_iconst dX6_weigh_151 (by decide) (fun r151 e151 => ?_)
          refine t_iclt (t := 166) dX6_weigh_152 (by decide) (fun h152 => ?_) (fun h152 => False.elim (by omega))
          refine n_iconst dX6_weigh_166 (by decide) (fun r166 e166 => ?_)
          refine r_iret dX6_weigh_167 rfl (Nat.le_of_ble_eq_true rfl) (Nat.le_of_ble_eq_true rfl) ?_
          exact hQ _ f2_z (by rw [g2]; omega) hfr
        · rw [g1] at hn hstk
          rw [List.length_singleton] at hn
          have htop := stkR_top hstk
          refine r_iload3 dX6_weigh_4 ?_
          refine r_aloadR1 dX6_weigh_5 ?_
          refine m_alen dX6_weigh_6 (zge hqk (by decide)) hqn (by first | decide | omega) (fun r6 e6_z => ?_)
          refine t_icge (t := 150) dX6_weigh_7 (by decide) (fun h7 => ?_) (fun h7 => False.elim (by omega))
          refine r_iload2 dX6_weigh_150 ?_
          refine n_iconst dX6_weigh_151 (by decide) (fun r151 e151 => ?_)
          refine t_iclt (t := 166) dX6_weigh_152 (by decide) (fun h152 => False.elim (by omega)) (fun h152 => ?_)
          refine r_aloadR0 dX6_weigh_155 ?_
          refine m_getR (q := (a + 2)) zf_RX6_15 rfl dX6_weigh_156 (shSc_k hs) (shSc_p1 hs) ?_
          refine r_iload2 dX6_weigh_159 ?_
          refine n_iconst dX6_weigh_160 (by decide) (fun r160 e160 => ?_)
          refine n_isub dX6_weigh_161 (by omega) (fun r161 e161 => ?_)
          refine m_iald (k := 0) (x := (f2_z (a + 2) 0)) dX6_weigh_162 (shSc_k2 hs) (shSc_n2 hs) (by omega) (by omega) (rfl) ?_
          refine r_goto (t := 167) dX6_weigh_163 (by decide) ?_
          refine r_iret dX6_weigh_167 rfl (Nat.le_of_ble_eq_true rfl) (Nat.le_of_ble_eq_true rfl) ?_
          exact hQ _ f2_z htop hfr
  refine n_iconst dX6_weigh_0 (by decide) (fun r0 e0_z => ?_)
  refine r_istore2 dX6_weigh_1 rfl ?_
  refine n_iconst dX6_weigh_2 (by decide) (fun r2 e2_z => ?_)
  refine r_istore3 dX6_weigh_3 rfl ?_
  exact lp (l.length + 1) _ _ 0 f [] none e2_z (by omega) (by rw [e0_z]; rfl) ofR_rf hrun2 (fun v hv => absurd hv List.not_mem_nil) (by simp) (fun i v hv => by simp at hv) (by omega)
