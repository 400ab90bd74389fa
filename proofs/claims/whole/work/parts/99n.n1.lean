/-! constructors -/
def cL_X2 : zL3 := [(0, 2, 0), (1, 21, 6), (2, 23, 6), (3, 21, 6)]
def cP_X2 : zL3 := [(0, 0, 1), (0, 1, 2), (0, 2, 3)]
def cV_X2 : zLV := [(0, 0, 0), (0, 1, 0), (0, 2, 0), (0, 3, 0), (0, 4, 0)]
def cZ_X2 : List Nat := [1, 2, 3]
def cL_X2_0 : zL3 := [(0, 2, 0)]
def cP_X2_0 : zL3 := []
def cV_X2_0 : zLV := (List.range 5).map (fun k => (0, k, 0))
def cZ_X2_0 : List Nat := []
def cL_X2_1 : zL3 := cL_X2_0 ++ [(1, 21, 6)]
def cZ_X2_1 : List Nat := cZ_X2_0 ++ [1]
def cP_X2_2 : zL3 := cP_X2_0 ++ [(0, 0, 1)]
def cL_X2_3 : zL3 := cL_X2_1 ++ [(2, 23, 6)]
def cZ_X2_3 : List Nat := cZ_X2_1 ++ [2]
def cP_X2_4 : zL3 := cP_X2_2 ++ [(0, 1, 2)]
def cL_X2_5 : zL3 := cL_X2_3 ++ [(3, 21, 6)]
def cZ_X2_5 : List Nat := cZ_X2_3 ++ [3]
def cP_X2_6 : zL3 := cP_X2_4 ++ [(0, 2, 3)]
def cV_X2_7 : zLV := cV_X2_0.map (fun e => if e.1 = 0 ∧ e.2.1 = 3 then (0, 3, 0) else e)
def cV_X2_8 : zLV := cV_X2_7.map (fun e => if e.1 = 0 ∧ e.2.1 = 4 then (0, 4, 0) else e)
set_option maxHeartbeats 8000000 in
set_option maxRecDepth 100000 in
theorem s_X2_init {g : zGT} {w : zW} {f : Nat → Nat → Int32} {j : Nat → Nat → Int64} {a : Nat} {Q : Option Value → zW → Prop} {QX : String → zW → Prop} (G : zGok g) (hS_z : zS w = a + 1) (hk : zK w a = 2) (hn : zN w a = 0) (hf : ∀ i, f a i = 0) (hQ : ∀ w2 f2_z j2, ctS w2 f2_z j2 w f j a 4 cL_X2 cP_X2 cV_X2 cZ_X2 → Q none (zM w2 f2_z j2)) : zC g 1 yX2_init cX2_init 1 none [.ref a] (zM w f j) (3, 18) Q QX := by
  refine zC_of G (by decide +kernel) (Nat.le_of_ble_eq_true rfl) ?_
  have c0_z : ctS w f j w f j a 1 cL_X2_0 cP_X2_0 cV_X2_0 cZ_X2_0 := ctS_0 (m := 5) (j := j) hS_z hk hn hf
  refine r_aloadR0 dX2_init_0 ?_
  refine r_obj zo_RX2 zo_in zo_cd dX2_init_1 (by first | exact Nat.le_of_ble_eq_true rfl | decide) (by first | exact Nat.le_of_ble_eq_true rfl | decide) ?_
  refine r_aloadR0 dX2_init_4 ?_
  refine n_bipush dX2_init_5 (by decide) (fun r1 e1_z => ?_)
  refine m_newI (N := 6) (ctS_S c0_z) dX2_init_7 (by omega) (by decide) (by first | exact Nat.le_of_ble_eq_true rfl | decide) (by first | exact Nat.le_of_ble_eq_true rfl | decide) (fun w1 f1_z j1 n1 m1_z p1 => ?_)
  have c1_z : ctS w1 f1_z j1 w f j a 2 cL_X2_1 cP_X2_0 cV_X2_0 cZ_X2_1 := ctS_new c0_z n1 m1_z p1
  refine zR_b (b2 := (1, 6)) rfl ?_
  refine m_putPF (q := (a + 1)) zf_RX2_9 (by intro C T N h_z; cases h_z; exact ⟨rfl, rfl⟩) rfl rfl dX2_init_9 (c1_z.2.2.1 (0, 2, 0) (List.mem_of_getElem? (i := 0) (by decide +kernel))).2.1 ?_
  obtain ⟨w2, hw2⟩ : ∃ u9, u9 = zsP w1 (zu (zP w1) a 0 (some (a + 1))) := ⟨_, rfl⟩
  rw [← hw2]
  have c2_z : ctS w2 f1_z j1 w f j a 2 cL_X2_1 cP_X2_2 cV_X2_0 cZ_X2_1 := by rw [hw2]; exact ctS_putP (k := 0) (o := 0) (t := 1) c1_z (by decide) (by decide +kernel)
  refine r_aloadR0 dX2_init_12 ?_
  refine n_bipush dX2_init_13 (by decide) (fun r2 e2_z => ?_)
  refine m_newZ (N := 6) (ctS_S c2_z) dX2_init_15 (by omega) (by decide) (by first | exact Nat.le_of_ble_eq_true rfl | decide) (by first | exact Nat.le_of_ble_eq_true rfl | decide) (fun w3 f3_z j3 n3 m3_z p3 => ?_)
  have c3_z : ctS w3 f3_z j3 w f j a 3 cL_X2_3 cP_X2_2 cV_X2_0 cZ_X2_3 := ctS_new c2_z n3 m3_z p3
  refine zR_b (b2 := (2, 12)) rfl ?_
  refine m_putPF (q := (a + 2)) zf_RX2_15 (by intro C T N h_z; cases h_z; exact ⟨rfl, rfl⟩) rfl rfl dX2_init_17 (c3_z.2.2.1 (0, 2, 0) (List.mem_of_getElem? (i := 0) (by decide +kernel))).2.1 ?_
  obtain ⟨w4, hw4⟩ : ∃ u9, u9 = zsP w3 (zu (zP w3) a 1 (some (a + 2))) := ⟨_, rfl⟩
  rw [← hw4]
  have c4_z : ctS w4 f3_z j3 w f j a 3 cL_X2_3 cP_X2_4 cV_X2_0 cZ_X2_3 := by rw [hw4]; exact ctS_putP (k := 1) (o := 0) (t := 2) c3_z (by decide) (by decide +kernel)
  refine r_aloadR0 dX2_init_20 ?_
  refine n_bipush dX2_init_21 (by decide) (fun r3 e3_z => ?_)
  refine m_newI (N := 6) (ctS_S c4_z) dX2_init_23 (by omega) (by decide) (by first | exact Nat.le_of_ble_eq_true rfl | decide) (by first | exact Nat.le_of_ble_eq_true rfl | decide) (fun w5 f5_z j5 n5 m5_z p5 => ?_)
  have c5_z : ctS w5 f5_z j5 w f j a 4 cL_X2_5 cP_X2_4 cV_X2_0 cZ_X2_5 := ctS_new c4_z n5 m5_z p5
  refine zR_b (b2 := (3, 18)) rfl ?_
  refine m_putPF (q := (a + 3)) zf_RX2_19 (by intro C T N h_z; cases h_z; exact ⟨rfl, rfl⟩) rfl rfl dX2_init_25 (c5_z.2.2.1 (0, 2, 0) (List.mem_of_getElem? (i := 0) (by decide +kernel))).2.1 ?_
  obtain ⟨w6, hw6⟩ : ∃ u9, u9 = zsP w5 (zu (zP w5) a 2 (some (a + 3))) := ⟨_, rfl⟩
  rw [← hw6]
  have c6_z : ctS w6 f5_z j5 w f j a 4 cL_X2_5 cP_X2_6 cV_X2_0 cZ_X2_5 := by rw [hw6]; exact ctS_putP (k := 2) (o := 0) (t := 3) c5_z (by decide) (by decide +kernel)
  refine r_aloadR0 dX2_init_28 ?_
  refine n_iconst dX2_init_29 (by decide) (fun r4 e4_z => ?_)
  refine m_putI zf_RX2_22 (by intro C T N h_z; cases h_z; rfl) rfl dX2_init_30 (c6_z.2.2.1 (0, 2, 0) (List.mem_of_getElem? (i := 0) (by decide +kernel))).2.1 ?_
  obtain ⟨f7_z, hf7⟩ : ∃ u9, u9 = zu f5_z a 3 r4 := ⟨_, rfl⟩
  rw [← hf7]
  have c7_z : ctS w6 f7_z j5 w f j a 4 cL_X2_5 cP_X2_6 cV_X2_7 cZ_X2_5 := by rw [hf7]; exact ctS_putI (k := 3) (o := 0) (x := r4) (v := 0) c6_z (by decide) (zi_eq.mpr (e4_z.trans (by decide))) (by decide +kernel)
  refine r_aloadR0 dX2_init_33 ?_
  refine n_iconst dX2_init_34 (by decide) (fun r5 e5_z => ?_)
  refine m_putI zf_RX2_26 (by intro C T N h_z; cases h_z; rfl) rfl dX2_init_35 (c7_z.2.2.1 (0, 2, 0) (List.mem_of_getElem? (i := 0) (by decide +kernel))).2.1 ?_
  obtain ⟨f8_z, hf8⟩ : ∃ u9, u9 = zu f7_z a 4 r5 := ⟨_, rfl⟩
  rw [← hf8]
  have c8_z : ctS w6 f8_z j5 w f j a 4 cL_X2_5 cP_X2_6 cV_X2_8 cZ_X2_5 := by rw [hf8]; exact ctS_putI (k := 4) (o := 0) (x := r5) (v := 0) c7_z (by decide) (zi_eq.mpr (e5_z.trans (by decide))) (by decide +kernel)
  refine r_vret dX2_init_38 rfl (by first | exact Nat.le_of_ble_eq_true rfl | decide) (by first | exact Nat.le_of_ble_eq_true rfl | decide) ?_
  exact hQ _ _ _ (ctS_cv c8_z (by decide +kernel) (by decide +kernel) (by decide +kernel) (by decide +kernel))
def cL_X3 : zL3 := [(0, 3, 0), (1, 21, 12), (2, 21, 5)]
def cP_X3 : zL3 := [(0, 0, 1), (0, 1, 2)]
def cV_X3 : zLV := [(0, 0, 0), (0, 1, 0), (0, 2, 0)]
def cZ_X3 : List Nat := [1, 2]
def cL_X3_0 : zL3 := [(0, 3, 0)]
def cP_X3_0 : zL3 := []
def cV_X3_0 : zLV := (List.range 3).map (fun k => (0, k, 0))
def cZ_X3_0 : List Nat := []
def cL_X3_1 : zL3 := cL_X3_0 ++ [(1, 21, 12)]
def cZ_X3_1 : List Nat := cZ_X3_0 ++ [1]
def cP_X3_2 : zL3 := cP_X3_0 ++ [(0, 0, 1)]
def cL_X3_3 : zL3 := cL_X3_1 ++ [(2, 21, 5)]
def cZ_X3_3 : List Nat := cZ_X3_1 ++ [2]
def cP_X3_4 : zL3 := cP_X3_2 ++ [(0, 1, 2)]
def cV_X3_5 : zLV := cV_X3_0.map (fun e => if e.1 = 0 ∧ e.2.1 = 2 then (0, 2, 0) else e)
set_option maxHeartbeats 8000000 in
set_option maxRecDepth 100000 in
theorem s_X3_init {g : zGT} {w : zW} {f : Nat → Nat → Int32} {j : Nat → Nat → Int64} {a : Nat} {Q : Option Value → zW → Prop} {QX : String → zW → Prop} (G : zGok g) (hS_z : zS w = a + 1) (hk : zK w a = 3) (hn : zN w a = 0) (hf : ∀ i, f a i = 0) (hQ : ∀ w2 f2_z j2, ctS w2 f2_z j2 w f j a 3 cL_X3 cP_X3 cV_X3 cZ_X3 → Q none (zM w2 f2_z j2)) : zC g 1 yX3_init cX3_init 1 none [.ref a] (zM w f j) (2, 17) Q QX := by
  refine zC_of G (by decide +kernel) (Nat.le_of_ble_eq_true rfl) ?_
  have c0_z : ctS w f j w f j a 1 cL_X3_0 cP_X3_0 cV_X3_0 cZ_X3_0 := ctS_0 (m := 3) (j := j) hS_z hk hn hf
  refine r_aloadR0 dX3_init_0 ?_
  refine r_obj zo_RX3 zo_in zo_cd dX3_init_1 (by first | exact Nat.le_of_ble_eq_true rfl | decide) (by first | exact Nat.le_of_ble_eq_true rfl | decide) ?_
  refine r_aloadR0 dX3_init_4 ?_
  refine n_bipush dX3_init_5 (by decide) (fun r1 e1_z => ?_)
  refine m_newI (N := 12) (ctS_S c0_z) dX3_init_7 (by omega) (by decide) (by first | exact Nat.le_of_ble_eq_true rfl | decide) (by first | exact Nat.le_of_ble_eq_true rfl | decide) (fun w1 f1_z j1 n1 m1_z p1 => ?_)
  have c1_z : ctS w1 f1_z j1 w f j a 2 cL_X3_1 cP_X3_0 cV_X3_0 cZ_X3_1 := ctS_new c0_z n1 m1_z p1
  refine zR_b (b2 := (1, 12)) rfl ?_
  refine m_putPF (q := (a + 1)) zf_RX3_9 (by intro C T N h_z; cases h_z; exact ⟨rfl, rfl⟩) rfl rfl dX3_init_9 (c1_z.2.2.1 (0, 3, 0) (List.mem_of_getElem? (i := 0) (by decide +kernel))).2.1 ?_
  obtain ⟨w2, hw2⟩ : ∃ u9, u9 = zsP w1 (zu (zP w1) a 0 (some (a + 1))) := ⟨_, rfl⟩
  rw [← hw2]
  have c2_z : ctS w2 f1_z j1 w f j a 2 cL_X3_1 cP_X3_2 cV_X3_0 cZ_X3_1 := by rw [hw2]; exact ctS_putP (k := 0) (o := 0) (t := 1) c1_z (by decide) (by decide +kernel)
  refine r_aloadR0 dX3_init_12 ?_
  refine n_iconst dX3_init_13 (by decide) (fun r2 e2_z => ?_)
  refine m_newI (N := 5) (ctS_S c2_z) dX3_init_14 (by omega) (by decide) (by first | exact Nat.le_of_ble_eq_true rfl | decide) (by first | exact Nat.le_of_ble_eq_true rfl | decide) (fun w3 f3_z j3 n3 m3_z p3 => ?_)
  have c3_z : ctS w3 f3_z j3 w f j a 3 cL_X3_3 cP_X3_2 cV_X3_0 cZ_X3_3 := ctS_new c2_z n3 m3_z p3
  refine zR_b (b2 := (2, 17)) rfl ?_
  refine m_putPF (q := (a + 2)) zf_RX3_15 (by intro C T N h_z; cases h_z; exact ⟨rfl, rfl⟩) rfl rfl dX3_init_16 (c3_z.2.2.1 (0, 3, 0) (List.mem_of_getElem? (i := 0) (by decide +kernel))).2.1 ?_
  obtain ⟨w4, hw4⟩ : ∃ u9, u9 = zsP w3 (zu (zP w3) a 1 (some (a + 2))) := ⟨_, rfl⟩
  rw [← hw4]
  have c4_z : ctS w4 f3_z j3 w f j a 3 cL_X3_3 cP_X3_4 cV_X3_0 cZ_X3_3 := by rw [hw4]; exact ctS_putP (k := 1) (o := 0) (t := 2) c3_z (by decide) (by decide +kernel)
  refine r_aloadR0 dX3_init_19 ?_
  refine n_iconst dX3_init_20 (by decide) (fun r3 e3_z => ?_)
  refine m_putI zf_RX3_18 (by intro C T N h_z; cases h_z; rfl) rfl dX3_init_21 (c4_z.2.2.1 (0, 3, 0) (List.mem_of_getElem? (i := 0) (by decide +kernel))).2.1 ?_
  obtain ⟨f5_z, hf5⟩ : ∃ u9, u9 = zu f3_z a 2 r3 := ⟨_, rfl⟩
  rw [← hf5]
  have c5_z : ctS w4 f5_z j3 w f j a 3 cL_X3_3 cP_X3_4 cV_X3_5 cZ_X3_3 := by rw [hf5]; exact ctS_putI (k := 2) (o := 0) (x := r3) (v := 0) c4_z (by decide) (zi_eq.mpr (e3_z.trans (by decide))) (by decide +kernel)
  refine r_vret dX3_init_24 rfl (by first | exact Nat.le_of_ble_eq_true rfl | decide) (by first | exact Nat.le_of_ble_eq_true rfl | decide) ?_
  exact hQ _ _ _ (ctS_cv c5_z (by decide +kernel) (by decide +kernel) (by decide +kernel) (by decide +kernel))
def cL_X4 : zL3 := [(0, 4, 0), (1, 21, 12), (2, 21, 4), (3, 21, 0), (4, 21, 0), (5, 21, 0)]
def cP_X4 : zL3 := [(0, 3, 1), (0, 4, 2), (0, 5, 3), (0, 6, 4), (0, 7, 5)]
def cV_X4 : zLV := [(0, 0, 0), (0, 1, 0), (0, 2, 0), (0, 3, 0), (0, 4, 0), (0, 5, 0), (0, 6, 0), (0, 7, 0)]
def cZ_X4 : List Nat := [1, 2, 3, 4, 5]
def cL_X4_0 : zL3 := [(0, 4, 0)]
def cP_X4_0 : zL3 := []
def cV_X4_0 : zLV := (List.range 8).map (fun k => (0, k, 0))
def cZ_X4_0 : List Nat := []
def cV_X4_1 : zLV := cV_X4_0.map (fun e => if e.1 = 0 ∧ e.2.1 = 0 then (0, 0, 0) else e)
def cV_X4_2 : zLV := cV_X4_1.map (fun e => if e.1 = 0 ∧ e.2.1 = 1 then (0, 1, 0) else e)
def cV_X4_3 : zLV := cV_X4_2.map (fun e => if e.1 = 0 ∧ e.2.1 = 2 then (0, 2, 0) else e)
def cL_X4_4 : zL3 := cL_X4_0 ++ [(1, 21, 12)]
def cZ_X4_4 : List Nat := cZ_X4_0 ++ [1]
def cP_X4_5 : zL3 := cP_X4_0 ++ [(0, 3, 1)]
def cL_X4_6 : zL3 := cL_X4_4 ++ [(2, 21, 4)]
def cZ_X4_6 : List Nat := cZ_X4_4 ++ [2]
def cP_X4_7 : zL3 := cP_X4_5 ++ [(0, 4, 2)]
def cL_X4_8 : zL3 := cL_X4_6 ++ [(3, 21, 0)]
def cZ_X4_8 : List Nat := cZ_X4_6 ++ [3]
def cP_X4_9 : zL3 := cP_X4_7 ++ [(0, 5, 3)]
def cL_X4_10 : zL3 := cL_X4_8 ++ [(4, 21, 0)]
def cZ_X4_10 : List Nat := cZ_X4_8 ++ [4]
def cP_X4_11 : zL3 := cP_X4_9 ++ [(0, 6, 4)]
def cL_X4_12 : zL3 := cL_X4_10 ++ [(5, 21, 0)]
def cZ_X4_12 : List Nat := cZ_X4_10 ++ [5]
def cP_X4_13 : zL3 := cP_X4_11 ++ [(0, 7, 5)]
set_option maxHeartbeats 8000000 in
set_option maxRecDepth 100000 in
theorem s_X4_init {g : zGT} {w : zW} {f : Nat → Nat → Int32} {j : Nat → Nat → Int64} {a : Nat} {Q : Option Value → zW → Prop} {QX : String → zW → Prop} (G : zGok g) (hS_z : zS w = a + 1) (hk : zK w a = 4) (hn : zN w a = 0) (hf : ∀ i, f a i = 0) (hQ : ∀ w2 f2_z j2, ctS w2 f2_z j2 w f j a 6 cL_X4 cP_X4 cV_X4 cZ_X4 → Q none (zM w2 f2_z j2)) : zC g 1 yX4_init cX4_init 1 none [.ref a] (zM w f j) (5, 16) Q QX := by
  refine zC_of G (by decide +kernel) (Nat.le_of_ble_eq_true rfl) ?_
  have c0_z : ctS w f j w f j a 1 cL_X4_0 cP_X4_0 cV_X4_0 cZ_X4_0 := ctS_0 (m := 8) (j := j) hS_z hk hn hf
  refine r_aloadR0 dX4_init_0 ?_
  refine r_obj zo_RX4 zo_in zo_cd dX4_init_1 (by first | exact Nat.le_of_ble_eq_true rfl | decide) (by first | exact Nat.le_of_ble_eq_true rfl | decide) ?_
  refine r_aloadR0 dX4_init_4 ?_
  refine n_iconst dX4_init_5 (by decide) (fun r1 e1_z => ?_)
  refine m_putI zf_RX4_9 (by intro C T N h_z; cases h_z; rfl) rfl dX4_init_6 (c0_z.2.2.1 (0, 4, 0) (List.mem_of_getElem? (i := 0) (by decide +kernel))).2.1 ?_
  obtain ⟨f1_z, hf1⟩ : ∃ u9, u9 = zu f a 0 r1 := ⟨_, rfl⟩
  rw [← hf1]
  have c1_z : ctS w f1_z j w f j a 1 cL_X4_0 cP_X4_0 cV_X4_1 cZ_X4_0 := by rw [hf1]; exact ctS_putI (k := 0) (o := 0) (x := r1) (v := 0) c0_z (by decide) (zi_eq.mpr (e1_z.trans (by decide))) (by decide +kernel)
  refine r_aloadR0 dX4_init_9 ?_
  refine n_iconst dX4_init_10 (by decide) (fun r2 e2_z => ?_)
  refine m_putI zf_RX4_15 (by intro C T N h_z; cases h_z; rfl) rfl dX4_init_11 (c1_z.2.2.1 (0, 4, 0) (List.mem_of_getElem? (i := 0) (by decide +kernel))).2.1 ?_
  obtain ⟨f2_z, hf2⟩ : ∃ u9, u9 = zu f1_z a 1 r2 := ⟨_, rfl⟩
  rw [← hf2]
  have c2_z : ctS w f2_z j w f j a 1 cL_X4_0 cP_X4_0 cV_X4_2 cZ_X4_0 := by rw [hf2]; exact ctS_putI (k := 1) (o := 0) (x := r2) (v := 0) c1_z (by decide) (zi_eq.mpr (e2_z.trans (by decide))) (by decide +kernel)
  refine r_aloadR0 dX4_init_14 ?_
  refine n_iconst dX4_init_15 (by decide) (fun r3 e3_z => ?_)
  refine m_putI zf_RX4_18 (by intro C T N h_z; cases h_z; rfl) rfl dX4_init_16 (c2_z.2.2.1 (0, 4, 0) (List.mem_of_getElem? (i := 0) (by decide +kernel))).2.1 ?_
  obtain ⟨f3_z, hf3⟩ : ∃ u9, u9 = zu f2_z a 2 r3 := ⟨_, rfl⟩
  rw [← hf3]
  have c3_z : ctS w f3_z j w f j a 1 cL_X4_0 cP_X4_0 cV_X4_3 cZ_X4_0 := by rw [hf3]; exact ctS_putI (k := 2) (o := 0) (x := r3) (v := 0) c2_z (by decide) (zi_eq.mpr (e3_z.trans (by decide))) (by decide +kernel)
  refine r_aloadR0 dX4_init_19 ?_
  refine n_bipush dX4_init_20 (by decide) (fun r4 e4_z => ?_)
  refine m_newI (N := 12) (ctS_S c3_z) dX4_init_22 (by omega) (by decide) (by first | exact Nat.le_of_ble_eq_true rfl | decide) (by first | exact Nat.le_of_ble_eq_true rfl | decide) (fun w4 f4_z j4 n4 m4_z p4 => ?_)
  have c4_z : ctS w4 f4_z j4 w f j a 2 cL_X4_4 cP_X4_0 cV_X4_3 cZ_X4_4 := ctS_new c3_z n4 m4_z p4
  refine zR_b (b2 := (1, 12)) rfl ?_
  refine m_putPF (q := (a + 1)) zf_RX4_21 (by intro C T N h_z; cases h_z; exact ⟨rfl, rfl⟩) rfl rfl dX4_init_24 (c4_z.2.2.1 (0, 4, 0) (List.mem_of_getElem? (i := 0) (by decide +kernel))).2.1 ?_
  obtain ⟨w5, hw5⟩ : ∃ u9, u9 = zsP w4 (zu (zP w4) a 3 (some (a + 1))) := ⟨_, rfl⟩
  rw [← hw5]
  have c5_z : ctS w5 f4_z j4 w f j a 2 cL_X4_4 cP_X4_5 cV_X4_3 cZ_X4_4 := by rw [hw5]; exact ctS_putP (k := 3) (o := 0) (t := 1) c4_z (by decide) (by decide +kernel)
  refine r_aloadR0 dX4_init_27 ?_
  refine n_iconst dX4_init_28 (by decide) (fun r5 e5_z => ?_)
  refine m_newI (N := 4) (ctS_S c5_z) dX4_init_29 (by omega) (by decide) (by first | exact Nat.le_of_ble_eq_true rfl | decide) (by first | exact Nat.le_of_ble_eq_true rfl | decide) (fun w6 f6_z j6 n6 m6_z p6 => ?_)
  have c6_z : ctS w6 f6_z j6 w f j a 3 cL_X4_6 cP_X4_5 cV_X4_3 cZ_X4_6 := ctS_new c5_z n6 m6_z p6
  refine zR_b (b2 := (2, 16)) rfl ?_
  refine m_putPF (q := (a + 2)) zf_RX4_25 (by intro C T N h_z; cases h_z; exact ⟨rfl, rfl⟩) rfl rfl dX4_init_31 (c6_z.2.2.1 (0, 4, 0) (List.mem_of_getElem? (i := 0) (by decide +kernel))).2.1 ?_
  obtain ⟨w7, hw7⟩ : ∃ u9, u9 = zsP w6 (zu (zP w6) a 4 (some (a + 2))) := ⟨_, rfl⟩
  rw [← hw7]
  have c7_z : ctS w7 f6_z j6 w f j a 3 cL_X4_6 cP_X4_7 cV_X4_3 cZ_X4_6 := by rw [hw7]; exact ctS_putP (k := 4) (o := 0) (t := 2) c6_z (by decide) (by decide +kernel)
  refine r_aloadR0 dX4_init_34 ?_
  refine n_iconst dX4_init_35 (by decide) (fun r6 e6_z => ?_)
  refine m_newI (N := 0) (ctS_S c7_z) dX4_init_36 (by omega) (by decide) (by first | exact Nat.le_of_ble_eq_true rfl | decide) (by first | exact Nat.le_of_ble_eq_true rfl | decide) (fun w8 f8_z j8 n8 m8_z p8 => ?_)
  have c8_z : ctS w8 f8_z j8 w f j a 4 cL_X4_8 cP_X4_7 cV_X4_3 cZ_X4_8 := ctS_new c7_z n8 m8_z p8
  refine zR_b (b2 := (3, 16)) rfl ?_
  refine m_putP (q := (a + 3)) zf_RX4_28 (by intro C T N h_z; cases h_z; rfl) rfl dX4_init_38 (c8_z.2.2.1 (0, 4, 0) (List.mem_of_getElem? (i := 0) (by decide +kernel))).2.1 ?_
  obtain ⟨w9, hw9⟩ : ∃ u9, u9 = zsP w8 (zu (zP w8) a 5 (some (a + 3))) := ⟨_, rfl⟩
  rw [← hw9]
  have c9_z : ctS w9 f8_z j8 w f j a 4 cL_X4_8 cP_X4_9 cV_X4_3 cZ_X4_8 := by rw [hw9]; exact ctS_putP (k := 5) (o := 0) (t := 3) c8_z (by decide) (by decide +kernel)
  refine r_aloadR0 dX4_init_41 ?_
  refine n_iconst dX4_init_42 (by decide) (fun r7 e7_z => ?_)
  refine m_newI (N := 0) (ctS_S c9_z) dX4_init_43 (by omega) (by decide) (by first | exact Nat.le_of_ble_eq_true rfl | decide) (by first | exact Nat.le_of_ble_eq_true rfl | decide) (fun w10 f10 j10 n10 m10 p10 => ?_)
  have c10 : ctS w10 f10 j10 w f j a 5 cL_X4_10 cP_X4_9 cV_X4_3 cZ_X4_10 := ctS_new c9_z n10 m10 p10
  refine zR_b (b2 := (4, 16)) rfl ?_
  refine m_putP (q := (a + 4)) zf_RX4_31 (by intro C T N h_z; cases h_z; rfl) rfl dX4_init_45 (c10.2.2.1 (0, 4, 0) (List.mem_of_getElem? (i := 0) (by decide +kernel))).2.1 ?_
  obtain ⟨w11, hw11⟩ : ∃ u9, u9 = zsP w10 (zu (zP w10) a 6 (some (a + 4))) := ⟨_, rfl⟩
  rw [← hw11]
  have c11 : ctS w11 f10 j10 w f j a 5 cL_X4_10 cP_X4_11 cV_X4_3 cZ_X4_10 := by rw [hw11]; exact ctS_putP (k := 6) (o := 0) (t := 4) c10 (by decide) (by decide +kernel)
  refine r_aloadR0 dX4_init_48 ?_
  refine n_iconst dX4_init_49 (by decide) (fun r8 e8 => ?_)
  refine m_newI (N := 0) (ctS_S c11) dX4_init_50 (by omega) (by decide) (by first | exact Nat.le_of_ble_eq_true rfl | decide) (by first | exact Nat.le_of_ble_eq_true rfl | decide) (fun w12 f12 j12 n12 m12 p12 => ?_)
  have c12 : ctS w12 f12 j12 w f j a 6 cL_X4_12 cP_X4_11 cV_X4_3 cZ_X4_12 := ctS_new c11 n12 m12 p12
  refine zR_b (b2 := (5, 16)) rfl ?_
  refine m_putP (q := (a + 5)) zf_RX4_34 (by intro C T N h_z; cases h_z; rfl) rfl dX4_init_52 (c12.2.2.1 (0, 4, 0) (List.mem_of_getElem? (i := 0) (by decide +kernel))).2.1 ?_
  obtain ⟨w13, hw13⟩ : ∃ u9, u9 = zsP w12 (zu (zP w12) a 7 (some (a + 5))) := ⟨_, rfl⟩
  rw [← hw13]
  have c13 : ctS w13 f12 j12 w f j a 6 cL_X4_12 cP_X4_13 cV_X4_3 cZ_X4_12 := by rw [hw13]; exact ctS_putP (k := 7) (o := 0) (t := 5) c12 (by decide) (by decide +kernel)
  refine r_vret dX4_init_55 rfl (by first | exact Nat.le_of_ble_eq_true rfl | decide) (by first | exact Nat.le_of_ble_eq_true rfl | decide) ?_
  exact hQ _ _ _ (ctS_cv c13 (by decide +kernel) (by decide +kernel) (by decide +kernel) (by decide +kernel))
def cL_X6 : zL3 := [(0, 6, 0), (1, 21, 8), (2, 21, 64)]
def cP_X6 : zL3 := [(0, 0, 1), (0, 1, 2)]
def cV_X6 : zLV := [(0, 0, 0), (0, 1, 0)]
def cZ_X6 : List Nat := [1, 2]
def cL_X6_0 : zL3 := [(0, 6, 0)]
def cP_X6_0 : zL3 := []
def cV_X6_0 : zLV := (List.range 2).map (fun k => (0, k, 0))
def cZ_X6_0 : List Nat := []
def cL_X6_1 : zL3 := cL_X6_0 ++ [(1, 21, 8)]
def cZ_X6_1 : List Nat := cZ_X6_0 ++ [1]
def cP_X6_2 : zL3 := cP_X6_0 ++ [(0, 0, 1)]
def cL_X6_3 : zL3 := cL_X6_1 ++ [(2, 21, 64)]
def cZ_X6_3 : List Nat := cZ_X6_1 ++ [2]
def cP_X6_4 : zL3 := cP_X6_2 ++ [(0, 1, 2)]
set_option maxHeartbeats 8000000 in
set_option maxRecDepth 100000 in
theorem s_X6_init {g : zGT} {w : zW} {f : Nat → Nat → Int32} {j : Nat → Nat → Int64} {a : Nat} {Q : Option Value → zW → Prop} {QX : String → zW → Prop} (G : zGok g) (hS_z : zS w = a + 1) (hk : zK w a = 6) (hn : zN w a = 0) (hf : ∀ i, f a i = 0) (hQ : ∀ w2 f2_z j2, ctS w2 f2_z j2 w f j a 3 cL_X6 cP_X6 cV_X6 cZ_X6 → Q none (zM w2 f2_z j2)) : zC g 1 yX6_init cX6_init 1 none [.ref a] (zM w f j) (2, 72) Q QX := by
  refine zC_of G (by decide +kernel) (Nat.le_of_ble_eq_true rfl) ?_
  have c0_z : ctS w f j w f j a 1 cL_X6_0 cP_X6_0 cV_X6_0 cZ_X6_0 := ctS_0 (m := 2) (j := j) hS_z hk hn hf
  refine r_aloadR0 dX6_init_0 ?_
  refine r_obj zo_RX6 zo_in zo_cd dX6_init_1 (by first | exact Nat.le_of_ble_eq_true rfl | decide) (by first | exact Nat.le_of_ble_eq_true rfl | decide) ?_
  refine r_aloadR0 dX6_init_4 ?_
  refine n_bipush dX6_init_5 (by decide) (fun r1 e1_z => ?_)
  refine m_newI (N := 8) (ctS_S c0_z) dX6_init_7 (by omega) (by decide) (by first | exact Nat.le_of_ble_eq_true rfl | decide) (by first | exact Nat.le_of_ble_eq_true rfl | decide) (fun w1 f1_z j1 n1 m1_z p1 => ?_)
  have c1_z : ctS w1 f1_z j1 w f j a 2 cL_X6_1 cP_X6_0 cV_X6_0 cZ_X6_1 := ctS_new c0_z n1 m1_z p1
  refine zR_b (b2 := (1, 8)) rfl ?_
  refine m_putPF (q := (a + 1)) zf_RX6_9 (by intro C T N h_z; cases h_z; exact ⟨rfl, rfl⟩) rfl rfl dX6_init_9 (c1_z.2.2.1 (0, 6, 0) (List.mem_of_getElem? (i := 0) (by decide +kernel))).2.1 ?_
  obtain ⟨w2, hw2⟩ : ∃ u9, u9 = zsP w1 (zu (zP w1) a 0 (some (a + 1))) := ⟨_, rfl⟩
  rw [← hw2]
  have c2_z : ctS w2 f1_z j1 w f j a 2 cL_X6_1 cP_X6_2 cV_X6_0 cZ_X6_1 := by rw [hw2]; exact ctS_putP (k := 0) (o := 0) (t := 1) c1_z (by decide) (by decide +kernel)
  refine r_aloadR0 dX6_init_12 ?_
  refine n_bipush dX6_init_13 (by decide) (fun r2 e2_z => ?_)
  refine m_newI (N := 64) (ctS_S c2_z) dX6_init_15 (by omega) (by decide) (by first | exact Nat.le_of_ble_eq_true rfl | decide) (by first | exact Nat.le_of_ble_eq_true rfl | decide) (fun w3 f3_z j3 n3 m3_z p3 => ?_)
  have c3_z : ctS w3 f3_z j3 w f j a 3 cL_X6_3 cP_X6_2 cV_X6_0 cZ_X6_3 := ctS_new c2_z n3 m3_z p3
  refine zR_b (b2 := (2, 72)) rfl ?_
  refine m_putPF (q := (a + 2)) zf_RX6_15 (by intro C T N h_z; cases h_z; exact ⟨rfl, rfl⟩) rfl rfl dX6_init_17 (c3_z.2.2.1 (0, 6, 0) (List.mem_of_getElem? (i := 0) (by decide +kernel))).2.1 ?_
  obtain ⟨w4, hw4⟩ : ∃ u9, u9 = zsP w3 (zu (zP w3) a 1 (some (a + 2))) := ⟨_, rfl⟩
  rw [← hw4]
  have c4_z : ctS w4 f3_z j3 w f j a 3 cL_X6_3 cP_X6_4 cV_X6_0 cZ_X6_3 := by rw [hw4]; exact ctS_putP (k := 1) (o := 0) (t := 2) c3_z (by decide) (by decide +kernel)
  refine r_vret dX6_init_20 rfl (by first | exact Nat.le_of_ble_eq_true rfl | decide) (by first | exact Nat.le_of_ble_eq_true rfl | decide) ?_
  exact hQ _ _ _ (ctS_cv c4_z (by decide +kernel) (by decide +kernel) (by decide +kernel) (by decide +kernel))
def cL_X8 : zL3 := [(0, 8, 0), (1, 25, 30)]
def cP_X8 : zL3 := [(0, 0, 1)]
def cV_X8 : zLV := [(0, 0, 0), (0, 1, 0), (0, 2, 0), (0, 3, 1)]
def cZ_X8 : List Nat := [1]
def cL_X8_0 : zL3 := [(0, 8, 0)]
def cP_X8_0 : zL3 := []
def cV_X8_0 : zLV := (List.range 4).map (fun k => (0, k, 0))
def cZ_X8_0 : List Nat := []
def cL_X8_1 : zL3 := cL_X8_0 ++ [(1, 25, 30)]
def cZ_X8_1 : List Nat := cZ_X8_0 ++ [1]
def cP_X8_2 : zL3 := cP_X8_0 ++ [(0, 0, 1)]
def cV_X8_3 : zLV := cV_X8_0.map (fun e => if e.1 = 0 ∧ e.2.1 = 1 then (0, 1, 0) else e)
def cV_X8_4 : zLV := cV_X8_3.map (fun e => if e.1 = 0 ∧ e.2.1 = 2 then (0, 2, 0) else e)
def cV_X8_5 : zLV := cV_X8_4.map (fun e => if e.1 = 0 ∧ e.2.1 = 3 then (0, 3, 1) else e)
set_option maxHeartbeats 8000000 in
set_option maxRecDepth 100000 in
theorem s_X8_init {g : zGT} {w : zW} {f : Nat → Nat → Int32} {j : Nat → Nat → Int64} {a : Nat} {Q : Option Value → zW → Prop} {QX : String → zW → Prop} (G : zGok g) (hS_z : zS w = a + 1) (hk : zK w a = 8) (hn : zN w a = 0) (hf : ∀ i, f a i = 0) (hQ : ∀ w2 f2_z j2, ctS w2 f2_z j2 w f j a 2 cL_X8 cP_X8 cV_X8 cZ_X8 → Q none (zM w2 f2_z j2)) : zC g 1 yX8_init cX8_init 1 none [.ref a] (zM w f j) (1, 30) Q QX := by
  refine zC_of G (by decide +kernel) (Nat.le_of_ble_eq_true rfl) ?_
  have c0_z : ctS w f j w f j a 1 cL_X8_0 cP_X8_0 cV_X8_0 cZ_X8_0 := ctS_0 (m := 4) (j := j) hS_z hk hn hf
  refine r_aloadR0 dX8_init_0 ?_
  refine r_obj zo_RX8 zo_in zo_cd dX8_init_1 (by first | exact Nat.le_of_ble_eq_true rfl | decide) (by first | exact Nat.le_of_ble_eq_true rfl | decide) ?_
  refine r_aloadR0 dX8_init_4 ?_
  refine n_bipush dX8_init_5 (by decide) (fun r1 e1_z => ?_)
  refine m_newJ (N := 30) (ctS_S c0_z) dX8_init_7 (by omega) (by decide) (by first | exact Nat.le_of_ble_eq_true rfl | decide) (by first | exact Nat.le_of_ble_eq_true rfl | decide) (fun w1 f1_z j1 n1 m1_z p1 => ?_)
  have c1_z : ctS w1 f1_z j1 w f j a 2 cL_X8_1 cP_X8_0 cV_X8_0 cZ_X8_1 := ctS_new c0_z n1 m1_z p1
  refine zR_b (b2 := (1, 30)) rfl ?_
  refine m_putPF (q := (a + 1)) zf_RX8_9 (by intro C T N h_z; cases h_z; exact ⟨rfl, rfl⟩) rfl rfl dX8_init_9 (c1_z.2.2.1 (0, 8, 0) (List.mem_of_getElem? (i := 0) (by decide +kernel))).2.1 ?_
  obtain ⟨w2, hw2⟩ : ∃ u9, u9 = zsP w1 (zu (zP w1) a 0 (some (a + 1))) := ⟨_, rfl⟩
  rw [← hw2]
  have c2_z : ctS w2 f1_z j1 w f j a 2 cL_X8_1 cP_X8_2 cV_X8_0 cZ_X8_1 := by rw [hw2]; exact ctS_putP (k := 0) (o := 0) (t := 1) c1_z (by decide) (by decide +kernel)
  refine r_aloadR0 dX8_init_12 ?_
  refine n_iconst dX8_init_13 (by decide) (fun r2 e2_z => ?_)
  refine m_putI zf_RX8_15 (by intro C T N h_z; cases h_z; rfl) rfl dX8_init_14 (c2_z.2.2.1 (0, 8, 0) (List.mem_of_getElem? (i := 0) (by decide +kernel))).2.1 ?_
  obtain ⟨f3_z, hf3⟩ : ∃ u9, u9 = zu f1_z a 1 r2 := ⟨_, rfl⟩
  rw [← hf3]
  have c3_z : ctS w2 f3_z j1 w f j a 2 cL_X8_1 cP_X8_2 cV_X8_3 cZ_X8_1 := by rw [hf3]; exact ctS_putI (k := 1) (o := 0) (x := r2) (v := 0) c2_z (by decide) (zi_eq.mpr (e2_z.trans (by decide))) (by decide +kernel)
  refine r_aloadR0 dX8_init_17 ?_
  refine n_iconst dX8_init_18 (by decide) (fun r3 e3_z => ?_)
  refine m_putI zf_RX8_19 (by intro C T N h_z; cases h_z; rfl) rfl dX8_init_19 (c3_z.2.2.1 (0, 8, 0) (List.mem_of_getElem? (i := 0) (by decide +kernel))).2.1 ?_
  obtain ⟨f4_z, hf4⟩ : ∃ u9, u9 = zu f3_z a 2 r3 := ⟨_, rfl⟩
  rw [← hf4]
  have c4_z : ctS w2 f4_z j1 w f j a 2 cL_X8_1 cP_X8_2 cV_X8_4 cZ_X8_1 := by rw [hf4]; exact ctS_putI (k := 2) (o := 0) (x := r3) (v := 0) c3_z (by decide) (zi_eq.mpr (e3_z.trans (by decide))) (by decide +kernel)
  refine r_aloadR0 dX8_init_22 ?_
  refine n_iconst dX8_init_23 (by decide) (fun r4 e4_z => ?_)
  refine m_putZ zf_RX8_22 (by intro C T N h_z; cases h_z; rfl) rfl (by omega) dX8_init_24 (c4_z.2.2.1 (0, 8, 0) (List.mem_of_getElem? (i := 0) (by decide +kernel))).2.1 ?_
  obtain ⟨f5_z, hf5⟩ : ∃ u9, u9 = zu f4_z a 3 r4 := ⟨_, rfl⟩
  rw [← hf5]
  have c5_z : ctS w2 f5_z j1 w f j a 2 cL_X8_1 cP_X8_2 cV_X8_5 cZ_X8_1 := by rw [hf5]; exact ctS_putI (k := 3) (o := 0) (x := r4) (v := 1) c4_z (by decide) (zi_eq.mpr (e4_z.trans (by decide))) (by decide +kernel)
  refine r_vret dX8_init_27 rfl (by first | exact Nat.le_of_ble_eq_true rfl | decide) (by first | exact Nat.le_of_ble_eq_true rfl | decide) ?_
  exact hQ _ _ _ (ctS_cv c5_z (by decide +kernel) (by decide +kernel) (by decide +kernel) (by decide +kernel))
def cL_X5 : zL3 := [(0, 5, 0), (1, 22, 0), (2, 4, 0), (3, 21, 12), (4, 21, 4), (5, 21, 0), (6, 21, 0), (7, 21, 0), (8, 21, 900)]
def cP_X5 : zL3 := [(0, 0, 1), (2, 3, 3), (2, 4, 4), (2, 5, 5), (2, 6, 6), (2, 7, 7), (0, 7, 2), (0, 8, 8)]
def cV_X5 : zLV := [(0, 0, 0), (0, 1, 0), (0, 2, 0), (0, 3, 0), (0, 4, 0), (0, 5, 0), (0, 6, 0), (0, 7, 0), (0, 8, 0), (0, 9, 0), (0, 10, 0), (0, 11, 0), (0, 12, -1), (2, 0, 0), (2, 1, 0), (2, 2, 0), (2, 3, 0), (2, 4, 0), (2, 5, 0), (2, 6, 0), (2, 7, 0)]
def cZ_X5 : List Nat := [1, 3, 4, 5, 6, 7, 8]
def cL_X5_0 : zL3 := [(0, 5, 0)]
def cP_X5_0 : zL3 := []
def cV_X5_0 : zLV := (List.range 13).map (fun k => (0, k, 0))
def cZ_X5_0 : List Nat := []
def cL_X5_1 : zL3 := cL_X5_0 ++ [(1, 22, 0)]
def cZ_X5_1 : List Nat := cZ_X5_0 ++ [1]
def cP_X5_2 : zL3 := cP_X5_0 ++ [(0, 0, 1)]
def cV_X5_3 : zLV := cV_X5_0.map (fun e => if e.1 = 0 ∧ e.2.1 = 1 then (0, 1, 0) else e)
def cV_X5_4 : zLV := cV_X5_3.map (fun e => if e.1 = 0 ∧ e.2.1 = 2 then (0, 2, 0) else e)
def cV_X5_5 : zLV := cV_X5_4.map (fun e => if e.1 = 0 ∧ e.2.1 = 3 then (0, 3, 0) else e)
def cV_X5_6 : zLV := cV_X5_5.map (fun e => if e.1 = 0 ∧ e.2.1 = 4 then (0, 4, 0) else e)
def cV_X5_7 : zLV := cV_X5_6.map (fun e => if e.1 = 0 ∧ e.2.1 = 5 then (0, 5, 0) else e)
def cL_X5_10 : zL3 := cL_X5_1 ++ cL_X4.map (fun e => (2 + e.1, e.2))
def cP_X5_10 : zL3 := cP_X5_2 ++ cP_X4.map (fun e => (2 + e.1, e.2.1, 2 + e.2.2))
def cV_X5_10 : zLV := cV_X5_7 ++ cV_X4.map (fun e => (2 + e.1, e.2))
def cZ_X5_10 : List Nat := cZ_X5_1 ++ cZ_X4.map (fun z => 2 + z)
def cP_X5_11 : zL3 := cP_X5_10 ++ [(0, 7, 2)]
def cL_X5_12 : zL3 := cL_X5_10 ++ [(8, 21, 900)]
def cZ_X5_12 : List Nat := cZ_X5_10 ++ [8]
def cP_X5_13 : zL3 := cP_X5_11 ++ [(0, 8, 8)]
def cV_X5_14 : zLV := cV_X5_10.map (fun e => if e.1 = 0 ∧ e.2.1 = 9 then (0, 9, 0) else e)
def cV_X5_15 : zLV := cV_X5_14.map (fun e => if e.1 = 0 ∧ e.2.1 = 10 then (0, 10, 0) else e)
def cV_X5_16 : zLV := cV_X5_15.map (fun e => if e.1 = 0 ∧ e.2.1 = 11 then (0, 11, 0) else e)
def cV_X5_17 : zLV := cV_X5_16.map (fun e => if e.1 = 0 ∧ e.2.1 = 12 then (0, 12, -1) else e)
set_option maxHeartbeats 8000000 in
set_option maxRecDepth 100000 in
theorem s_X5_init {g : zGT} {w : zW} {f : Nat → Nat → Int32} {j : Nat → Nat → Int64} {a : Nat} {ku : Nat} {Q : Option Value → zW → Prop} {QX : String → zW → Prop} (G : zGok g) (hS_z : zS w = a + 1) (hk : zK w a = 5) (hn : zN w a = 0) (hf : ∀ i, f a i = 0) (hK_z : ∀ U, g.2.2.2 U → va_Z "NapkinDeeds$Word" "UNKNOWN" "LNapkinDeeds$Word;" (.ref ku) (zA g.2.2.1) U U.heap) (hQ : ∀ w2 f2_z j2, ctS w2 f2_z j2 w f j a 9 cL_X5 cP_X5 cV_X5 cZ_X5 → Q none (zM w2 f2_z j2)) : zC g 2 yX5_init cX5_init 1 none [.ref a] (zM w f j) (8, 924) Q QX := by
  refine zC_of G (by decide +kernel) (Nat.le_of_ble_eq_true rfl) ?_
  have c0_z : ctS w f j w f j a 1 cL_X5_0 cP_X5_0 cV_X5_0 cZ_X5_0 := ctS_0 (m := 13) (j := j) hS_z hk hn hf
  refine r_aloadR0 dX5_init_0 ?_
  refine r_obj zo_RX5 zo_in zo_cd dX5_init_1 (by first | exact Nat.le_of_ble_eq_true rfl | decide) (by first | exact Nat.le_of_ble_eq_true rfl | decide) ?_
  refine r_aloadR0 dX5_init_4 ?_
  refine n_iconst dX5_init_5 (by decide) (fun r1 e1_z => ?_)
  refine m_newB (N := 0) (ctS_S c0_z) dX5_init_6 (by omega) (by decide) (by first | exact Nat.le_of_ble_eq_true rfl | decide) (by first | exact Nat.le_of_ble_eq_true rfl | decide) (fun w1 f1_z j1 n1 m1_z p1 => ?_)
  have c1_z : ctS w1 f1_z j1 w f j a 2 cL_X5_1 cP_X5_0 cV_X5_0 cZ_X5_1 := ctS_new c0_z n1 m1_z p1
  refine zR_b (b2 := (1, 0)) rfl ?_
  refine m_putP (q := (a + 1)) zf_RX5_9 (by intro C T N h_z; cases h_z; rfl) rfl dX5_init_8 (c1_z.2.2.1 (0, 5, 0) (List.mem_of_getElem? (i := 0) (by decide +kernel))).2.1 ?_
  obtain ⟨w2, hw2⟩ : ∃ u9, u9 = zsP w1 (zu (zP w1) a 0 (some (a + 1))) := ⟨_, rfl⟩
  rw [← hw2]
  have c2_z : ctS w2 f1_z j1 w f j a 2 cL_X5_1 cP_X5_2 cV_X5_0 cZ_X5_1 := by rw [hw2]; exact ctS_putP (k := 0) (o := 0) (t := 1) c1_z (by decide) (by decide +kernel)
  refine r_aloadR0 dX5_init_11 ?_
  refine n_iconst dX5_init_12 (by decide) (fun r2 e2_z => ?_)
  refine m_putI zf_RX5_15 (by intro C T N h_z; cases h_z; rfl) rfl dX5_init_13 (c2_z.2.2.1 (0, 5, 0) (List.mem_of_getElem? (i := 0) (by decide +kernel))).2.1 ?_
  obtain ⟨f3_z, hf3⟩ : ∃ u9, u9 = zu f1_z a 1 r2 := ⟨_, rfl⟩
  rw [← hf3]
  have c3_z : ctS w2 f3_z j1 w f j a 2 cL_X5_1 cP_X5_2 cV_X5_3 cZ_X5_1 := by rw [hf3]; exact ctS_putI (k := 1) (o := 0) (x := r2) (v := 0) c2_z (by decide) (zi_eq.mpr (e2_z.trans (by decide))) (by decide +kernel)
  refine r_aloadR0 dX5_init_16 ?_
  refine n_iconst dX5_init_17 (by decide) (fun r3 e3_z => ?_)
  refine m_putI zf_RX5_19 (by intro C T N h_z; cases h_z; rfl) rfl dX5_init_18 (c3_z.2.2.1 (0, 5, 0) (List.mem_of_getElem? (i := 0) (by decide +kernel))).2.1 ?_
  obtain ⟨f4_z, hf4⟩ : ∃ u9, u9 = zu f3_z a 2 r3 := ⟨_, rfl⟩
  rw [← hf4]
  have c4_z : ctS w2 f4_z j1 w f j a 2 cL_X5_1 cP_X5_2 cV_X5_4 cZ_X5_1 := by rw [hf4]; exact ctS_putI (k := 2) (o := 0) (x := r3) (v := 0) c3_z (by decide) (zi_eq.mpr (e3_z.trans (by decide))) (by decide +kernel)
  refine r_aloadR0 dX5_init_21 ?_
  refine n_iconst dX5_init_22 (by decide) (fun r4 e4_z => ?_)
  refine m_putI zf_RX5_22 (by intro C T N h_z; cases h_z; rfl) rfl dX5_init_23 (c4_z.2.2.1 (0, 5, 0) (List.mem_of_getElem? (i := 0) (by decide +kernel))).2.1 ?_
  obtain ⟨f5_z, hf5⟩ : ∃ u9, u9 = zu f4_z a 3 r4 := ⟨_, rfl⟩
  rw [← hf5]
  have c5_z : ctS w2 f5_z j1 w f j a 2 cL_X5_1 cP_X5_2 cV_X5_5 cZ_X5_1 := by rw [hf5]; exact ctS_putI (k := 3) (o := 0) (x := r4) (v := 0) c4_z (by decide) (zi_eq.mpr (e4_z.trans (by decide))) (by decide +kernel)
  refine r_aloadR0 dX5_init_26 ?_
  refine n_iconst dX5_init_27 (by decide) (fun r5 e5_z => ?_)
  refine m_putI zf_RX5_25 (by intro C T N h_z; cases h_z; rfl) rfl dX5_init_28 (c5_z.2.2.1 (0, 5, 0) (List.mem_of_getElem? (i := 0) (by decide +kernel))).2.1 ?_
  obtain ⟨f6_z, hf6⟩ : ∃ u9, u9 = zu f5_z a 4 r5 := ⟨_, rfl⟩
  rw [← hf6]
  have c6_z : ctS w2 f6_z j1 w f j a 2 cL_X5_1 cP_X5_2 cV_X5_6 cZ_X5_1 := by rw [hf6]; exact ctS_putI (k := 4) (o := 0) (x := r5) (v := 0) c5_z (by decide) (zi_eq.mpr (e5_z.trans (by decide))) (by decide +kernel)
  refine r_aloadR0 dX5_init_31 ?_
  refine n_iconst dX5_init_32 (by decide) (fun r6 e6_z => ?_)
  refine m_putI zf_RX5_28 (by intro C T N h_z; cases h_z; rfl) rfl dX5_init_33 (c6_z.2.2.1 (0, 5, 0) (List.mem_of_getElem? (i := 0) (by decide +kernel))).2.1 ?_
  obtain ⟨f7_z, hf7⟩ : ∃ u9, u9 = zu f6_z a 5 r6 := ⟨_, rfl⟩
  rw [← hf7]
  have c7_z : ctS w2 f7_z j1 w f j a 2 cL_X5_1 cP_X5_2 cV_X5_7 cZ_X5_1 := by rw [hf7]; exact ctS_putI (k := 5) (o := 0) (x := r6) (v := 0) c6_z (by decide) (zi_eq.mpr (e6_z.trans (by decide))) (by decide +kernel)
  refine r_aloadR0 dX5_init_36 ?_
  refine k_gets hK_z zg_RX5_31 dX5_init_37 ?_
  refine m_putP (q := ku) zf_RX5_37 (by intro C T N h_z; cases h_z; rfl) rfl dX5_init_40 (c7_z.2.2.1 (0, 5, 0) (List.mem_of_getElem? (i := 0) (by decide +kernel))).2.1 ?_
  obtain ⟨w8, hw8⟩ : ∃ u9, u9 = zsP w2 (zu (zP w2) a 6 (some ku)) := ⟨_, rfl⟩
  rw [← hw8]
  have c8_z : ctS w8 f7_z j1 w f j a 2 cL_X5_1 cP_X5_2 cV_X5_7 cZ_X5_1 := by rw [hw8]; exact ctS_putK (k := 6) (o := 0) (q := ku) c7_z (by decide +kernel)
  refine r_aloadR0 dX5_init_43 ?_
  refine m_new (ctS_S c8_z) zn_RX5_40 dX5_init_44 (by first | exact Nat.le_of_ble_eq_true rfl | decide) (by first | exact Nat.le_of_ble_eq_true rfl | decide) (fun w9 f9_z j9 n9 m9_z p9 => ?_)
  refine zR_b (b2 := (2, 8)) rfl ?_
  refine r_dup dX5_init_47 rfl ?_
  refine r_callI (n := 0) (As := []) (b2 := (5, 16)) (Or.inr ⟨"NapkinDeeds", List.mem_of_getElem? (i := 1) rfl⟩) zin_yX4_init zini_RX4 zcode_yX4_init rfl ⟨by decide, by decide, by decide +kernel⟩ (by decide) dX5_init_48 (s_X4_init (a := a + 2) (w := w9) (f := f9_z) (j := j9) G (by rw [n9.1]) n9.2.1 n9.2.2.1 m9_z.2 (fun w10 f10 j10 s10 => ?_)) rfl rfl (by first | exact Nat.le_of_ble_eq_true rfl | decide) (by first | exact Nat.le_of_ble_eq_true rfl | decide) (by first | exact Nat.le_of_ble_eq_true rfl | decide) (by first | exact Nat.le_of_ble_eq_true rfl | decide) (by first | exact Nat.le_of_ble_eq_true rfl | decide) (fun r w9 h9 => h9)
  have c10 : ctS w10 f10 j10 w f j a 8 cL_X5_10 cP_X5_10 cV_X5_10 cZ_X5_10 := ctS_sub (c := 2) (c2_z := 6) (L := cL_X5_1) (PL := cP_X5_2) (VL := cV_X5_7) (ZL := cZ_X5_1) (L2 := cL_X4) (PL2 := cP_X4) (VL2 := cV_X4) (ZL2 := cZ_X4) c8_z n9 m9_z p9 s10
  refine zR_b (b2 := (7, 24)) rfl ?_
  refine m_putP (q := (a + 2)) zf_RX5_43 (by intro C T N h_z; cases h_z; rfl) rfl dX5_init_51 (c10.2.2.1 (0, 5, 0) (List.mem_of_getElem? (i := 0) (by decide +kernel))).2.1 ?_
  obtain ⟨w11, hw11⟩ : ∃ u9, u9 = zsP w10 (zu (zP w10) a 7 (some (a + 2))) := ⟨_, rfl⟩
  rw [← hw11]
  have c11 : ctS w11 f10 j10 w f j a 8 cL_X5_10 cP_X5_11 cV_X5_10 cZ_X5_10 := by rw [hw11]; exact ctS_putP (k := 7) (o := 0) (t := 2) c10 (by decide) (by decide +kernel)
  refine r_aloadR0 dX5_init_54 ?_
  refine n_sipush dX5_init_55 (by decide) (fun r7 e7_z => ?_)
  refine m_newI (N := 900) (ctS_S c11) dX5_init_58 (by omega) (by decide) (by first | exact Nat.le_of_ble_eq_true rfl | decide) (by first | exact Nat.le_of_ble_eq_true rfl | decide) (fun w12 f12 j12 n12 m12 p12 => ?_)
  have c12 : ctS w12 f12 j12 w f j a 9 cL_X5_12 cP_X5_11 cV_X5_10 cZ_X5_12 := ctS_new c11 n12 m12 p12
  refine zR_b (b2 := (8, 924)) rfl ?_
  refine m_putPF (q := (a + 8)) zf_RX5_47 (by intro C T N h_z; cases h_z; exact ⟨rfl, rfl⟩) rfl rfl dX5_init_60 (c12.2.2.1 (0, 5, 0) (List.mem_of_getElem? (i := 0) (by decide +kernel))).2.1 ?_
  obtain ⟨w13, hw13⟩ : ∃ u9, u9 = zsP w12 (zu (zP w12) a 8 (some (a + 8))) := ⟨_, rfl⟩
  rw [← hw13]
  have c13 : ctS w13 f12 j12 w f j a 9 cL_X5_12 cP_X5_13 cV_X5_10 cZ_X5_12 := by rw [hw13]; exact ctS_putP (k := 8) (o := 0) (t := 8) c12 (by decide) (by decide +kernel)
  refine r_aloadR0 dX5_init_63 ?_
  refine n_iconst dX5_init_64 (by decide) (fun r8 e8 => ?_)
  refine m_putI zf_RX5_51 (by intro C T N h_z; cases h_z; rfl) rfl dX5_init_65 (c13.2.2.1 (0, 5, 0) (List.mem_of_getElem? (i := 0) (by decide +kernel))).2.1 ?_
  obtain ⟨f14, hf14⟩ : ∃ u9, u9 = zu f12 a 9 r8 := ⟨_, rfl⟩
  rw [← hf14]
  have c14 : ctS w13 f14 j12 w f j a 9 cL_X5_12 cP_X5_13 cV_X5_14 cZ_X5_12 := by rw [hf14]; exact ctS_putI (k := 9) (o := 0) (x := r8) (v := 0) c13 (by decide) (zi_eq.mpr (e8.trans (by decide))) (by decide +kernel)
  refine r_aloadR0 dX5_init_68 ?_
  refine n_iconst dX5_init_69 (by decide) (fun r9 e9_z => ?_)
  refine m_putZ zf_RX5_54 (by intro C T N h_z; cases h_z; rfl) rfl (by omega) dX5_init_70 (c14.2.2.1 (0, 5, 0) (List.mem_of_getElem? (i := 0) (by decide +kernel))).2.1 ?_
  obtain ⟨f15, hf15⟩ : ∃ u9, u9 = zu f14 a 10 r9 := ⟨_, rfl⟩
  rw [← hf15]
  have c15 : ctS w13 f15 j12 w f j a 9 cL_X5_12 cP_X5_13 cV_X5_15 cZ_X5_12 := by rw [hf15]; exact ctS_putI (k := 10) (o := 0) (x := r9) (v := 0) c14 (by decide) (zi_eq.mpr (e9_z.trans (by decide))) (by decide +kernel)
  refine r_aloadR0 dX5_init_73 ?_
  refine n_iconst dX5_init_74 (by decide) (fun r10 e10_z => ?_)
  refine m_putI zf_RX5_58 (by intro C T N h_z; cases h_z; rfl) rfl dX5_init_75 (c15.2.2.1 (0, 5, 0) (List.mem_of_getElem? (i := 0) (by decide +kernel))).2.1 ?_
  obtain ⟨f16, hf16⟩ : ∃ u9, u9 = zu f15 a 11 r10 := ⟨_, rfl⟩
  rw [← hf16]
  have c16 : ctS w13 f16 j12 w f j a 9 cL_X5_12 cP_X5_13 cV_X5_16 cZ_X5_12 := by rw [hf16]; exact ctS_putI (k := 11) (o := 0) (x := r10) (v := 0) c15 (by decide) (zi_eq.mpr (e10_z.trans (by decide))) (by decide +kernel)
  refine r_aloadR0 dX5_init_78 ?_
  refine n_iconst dX5_init_79 (by decide) (fun r11 e11_z => ?_)
  refine m_putI zf_RX5_61 (by intro C T N h_z; cases h_z; rfl) rfl dX5_init_80 (c16.2.2.1 (0, 5, 0) (List.mem_of_getElem? (i := 0) (by decide +kernel))).2.1 ?_
  obtain ⟨f17, hf17⟩ : ∃ u9, u9 = zu f16 a 12 r11 := ⟨_, rfl⟩
  rw [← hf17]
  have c17 : ctS w13 f17 j12 w f j a 9 cL_X5_12 cP_X5_13 cV_X5_17 cZ_X5_12 := by rw [hf17]; exact ctS_putI (k := 12) (o := 0) (x := r11) (v := -1) c16 (by decide) (zi_eq.mpr (e11_z.trans (by decide))) (by decide +kernel)
  refine r_vret dX5_init_83 rfl (by first | exact Nat.le_of_ble_eq_true rfl | decide) (by first | exact Nat.le_of_ble_eq_true rfl | decide) ?_
  exact hQ _ _ _ (ctS_cv c17 (by decide +kernel) (by decide +kernel) (by decide +kernel) (by decide +kernel))
def cL_X7 : zL3 := [(0, 7, 0), (1, 4, 0), (2, 21, 12), (3, 21, 4), (4, 21, 0), (5, 21, 0), (6, 21, 0), (7, 3, 0), (8, 21, 12), (9, 21, 5), (10, 32, 10), (11, 3, 0), (12, 21, 12), (13, 21, 5), (14, 3, 0), (15, 21, 12), (16, 21, 5), (17, 3, 0), (18, 21, 12), (19, 21, 5), (20, 3, 0), (21, 21, 12), (22, 21, 5), (23, 3, 0), (24, 21, 12), (25, 21, 5), (26, 3, 0), (27, 21, 12), (28, 21, 5), (29, 3, 0), (30, 21, 12), (31, 21, 5), (32, 3, 0), (33, 21, 12), (34, 21, 5), (35, 3, 0), (36, 21, 12), (37, 21, 5), (38, 3, 0), (39, 21, 12), (40, 21, 5)]
def cP_X7 : zL3 := [(1, 3, 2), (1, 4, 3), (1, 5, 4), (1, 6, 5), (1, 7, 6), (0, 0, 1), (7, 0, 8), (7, 1, 9), (0, 1, 7), (0, 2, 10), (11, 0, 12), (11, 1, 13), (10, 0, 11), (14, 0, 15), (14, 1, 16), (10, 1, 14), (17, 0, 18), (17, 1, 19), (10, 2, 17), (20, 0, 21), (20, 1, 22), (10, 3, 20), (23, 0, 24), (23, 1, 25), (10, 4, 23), (26, 0, 27), (26, 1, 28), (10, 5, 26), (29, 0, 30), (29, 1, 31), (10, 6, 29), (32, 0, 33), (32, 1, 34), (10, 7, 32), (35, 0, 36), (35, 1, 37), (10, 8, 35), (38, 0, 39), (38, 1, 40), (10, 9, 38)]
def cV_X7 : zLV := [(0, 0, 0), (0, 1, 0), (0, 2, 0), (0, 3, 0), (0, 4, 0), (1, 0, 0), (1, 1, 0), (1, 2, 0), (1, 3, 0), (1, 4, 0), (1, 5, 0), (1, 6, 0), (1, 7, 0), (7, 0, 0), (7, 1, 0), (7, 2, 0), (11, 0, 0), (11, 1, 0), (11, 2, 0), (14, 0, 0), (14, 1, 0), (14, 2, 0), (17, 0, 0), (17, 1, 0), (17, 2, 0), (20, 0, 0), (20, 1, 0), (20, 2, 0), (23, 0, 0), (23, 1, 0), (23, 2, 0), (26, 0, 0), (26, 1, 0), (26, 2, 0), (29, 0, 0), (29, 1, 0), (29, 2, 0), (32, 0, 0), (32, 1, 0), (32, 2, 0), (35, 0, 0), (35, 1, 0), (35, 2, 0), (38, 0, 0), (38, 1, 0), (38, 2, 0)]
def cZ_X7 : List Nat := [2, 3, 4, 5, 6, 8, 9, 10, 12, 13, 15, 16, 18, 19, 21, 22, 24, 25, 27, 28, 30, 31, 33, 34, 36, 37, 39, 40]
def cL_X7_0 : zL3 := [(0, 7, 0)]
def cP_X7_0 : zL3 := []
def cV_X7_0 : zLV := (List.range 5).map (fun k => (0, k, 0))
def cZ_X7_0 : List Nat := []
def cL_X7_2 : zL3 := cL_X7_0 ++ cL_X4.map (fun e => (1 + e.1, e.2))
def cP_X7_2 : zL3 := cP_X7_0 ++ cP_X4.map (fun e => (1 + e.1, e.2.1, 1 + e.2.2))
def cV_X7_2 : zLV := cV_X7_0 ++ cV_X4.map (fun e => (1 + e.1, e.2))
def cZ_X7_2 : List Nat := cZ_X7_0 ++ cZ_X4.map (fun z => 1 + z)
def cP_X7_3 : zL3 := cP_X7_2 ++ [(0, 0, 1)]
def cL_X7_5 : zL3 := cL_X7_2 ++ cL_X3.map (fun e => (7 + e.1, e.2))
def cP_X7_5 : zL3 := cP_X7_3 ++ cP_X3.map (fun e => (7 + e.1, e.2.1, 7 + e.2.2))
def cV_X7_5 : zLV := cV_X7_2 ++ cV_X3.map (fun e => (7 + e.1, e.2))
def cZ_X7_5 : List Nat := cZ_X7_2 ++ cZ_X3.map (fun z => 7 + z)
def cP_X7_6 : zL3 := cP_X7_5 ++ [(0, 1, 7)]
def cL_X7_7 : zL3 := cL_X7_5 ++ [(10, 32, 10)]
def cZ_X7_7 : List Nat := cZ_X7_5 ++ [10]
def cP_X7_8 : zL3 := cP_X7_6 ++ [(0, 2, 10)]
def cV_X7_9 : zLV := cV_X7_5.map (fun e => if e.1 = 0 ∧ e.2.1 = 3 then (0, 3, 0) else e)
def cV_X7_10 : zLV := cV_X7_9.map (fun e => if e.1 = 0 ∧ e.2.1 = 4 then (0, 4, 0) else e)
def cL_X7_12 : zL3 := cL_X7_7 ++ cL_X3.map (fun e => (11 + e.1, e.2))
def cP_X7_12 : zL3 := cP_X7_8 ++ cP_X3.map (fun e => (11 + e.1, e.2.1, 11 + e.2.2))
def cV_X7_12 : zLV := cV_X7_10 ++ cV_X3.map (fun e => (11 + e.1, e.2))
def cZ_X7_12 : List Nat := cZ_X7_7 ++ cZ_X3.map (fun z => 11 + z)
def cP_X7_13 : zL3 := cP_X7_12 ++ [(10, 0, 11)]
def cL_X7_15 : zL3 := cL_X7_12 ++ cL_X3.map (fun e => (14 + e.1, e.2))
def cP_X7_15 : zL3 := cP_X7_13 ++ cP_X3.map (fun e => (14 + e.1, e.2.1, 14 + e.2.2))
def cV_X7_15 : zLV := cV_X7_12 ++ cV_X3.map (fun e => (14 + e.1, e.2))
def cZ_X7_15 : List Nat := cZ_X7_12 ++ cZ_X3.map (fun z => 14 + z)
def cP_X7_16 : zL3 := cP_X7_15 ++ [(10, 1, 14)]
def cL_X7_18 : zL3 := cL_X7_15 ++ cL_X3.map (fun e => (17 + e.1, e.2))
def cP_X7_18 : zL3 := cP_X7_16 ++ cP_X3.map (fun e => (17 + e.1, e.2.1, 17 + e.2.2))
def cV_X7_18 : zLV := cV_X7_15 ++ cV_X3.map (fun e => (17 + e.1, e.2))
def cZ_X7_18 : List Nat := cZ_X7_15 ++ cZ_X3.map (fun z => 17 + z)
def cP_X7_19 : zL3 := cP_X7_18 ++ [(10, 2, 17)]
def cL_X7_21 : zL3 := cL_X7_18 ++ cL_X3.map (fun e => (20 + e.1, e.2))
def cP_X7_21 : zL3 := cP_X7_19 ++ cP_X3.map (fun e => (20 + e.1, e.2.1, 20 + e.2.2))
def cV_X7_21 : zLV := cV_X7_18 ++ cV_X3.map (fun e => (20 + e.1, e.2))
def cZ_X7_21 : List Nat := cZ_X7_18 ++ cZ_X3.map (fun z => 20 + z)
def cP_X7_22 : zL3 := cP_X7_21 ++ [(10, 3, 20)]
def cL_X7_24 : zL3 := cL_X7_21 ++ cL_X3.map (fun e => (23 + e.1, e.2))
def cP_X7_24 : zL3 := cP_X7_22 ++ cP_X3.map (fun e => (23 + e.1, e.2.1, 23 + e.2.2))
def cV_X7_24 : zLV := cV_X7_21 ++ cV_X3.map (fun e => (23 + e.1, e.2))
def cZ_X7_24 : List Nat := cZ_X7_21 ++ cZ_X3.map (fun z => 23 + z)
def cP_X7_25 : zL3 := cP_X7_24 ++ [(10, 4, 23)]
def cL_X7_27 : zL3 := cL_X7_24 ++ cL_X3.map (fun e => (26 + e.1, e.2))
def cP_X7_27 : zL3 := cP_X7_25 ++ cP_X3.map (fun e => (26 + e.1, e.2.1, 26 + e.2.2))
def cV_X7_27 : zLV := cV_X7_24 ++ cV_X3.map (fun e => (26 + e.1, e.2))
def cZ_X7_27 : List Nat := cZ_X7_24 ++ cZ_X3.map (fun z => 26 + z)
def cP_X7_28 : zL3 := cP_X7_27 ++ [(10, 5, 26)]
def cL_X7_30 : zL3 := cL_X7_27 ++ cL_X3.map (fun e => (29 + e.1, e.2))
def cP_X7_30 : zL3 := cP_X7_28 ++ cP_X3.map (fun e => (29 + e.1, e.2.1, 29 + e.2.2))
def cV_X7_30 : zLV := cV_X7_27 ++ cV_X3.map (fun e => (29 + e.1, e.2))
def cZ_X7_30 : List Nat := cZ_X7_27 ++ cZ_X3.map (fun z => 29 + z)
def cP_X7_31 : zL3 := cP_X7_30 ++ [(10, 6, 29)]
def cL_X7_33 : zL3 := cL_X7_30 ++ cL_X3.map (fun e => (32 + e.1, e.2))
def cP_X7_33 : zL3 := cP_X7_31 ++ cP_X3.map (fun e => (32 + e.1, e.2.1, 32 + e.2.2))
def cV_X7_33 : zLV := cV_X7_30 ++ cV_X3.map (fun e => (32 + e.1, e.2))
def cZ_X7_33 : List Nat := cZ_X7_30 ++ cZ_X3.map (fun z => 32 + z)
def cP_X7_34 : zL3 := cP_X7_33 ++ [(10, 7, 32)]
def cL_X7_36 : zL3 := cL_X7_33 ++ cL_X3.map (fun e => (35 + e.1, e.2))
def cP_X7_36 : zL3 := cP_X7_34 ++ cP_X3.map (fun e => (35 + e.1, e.2.1, 35 + e.2.2))
def cV_X7_36 : zLV := cV_X7_33 ++ cV_X3.map (fun e => (35 + e.1, e.2))
def cZ_X7_36 : List Nat := cZ_X7_33 ++ cZ_X3.map (fun z => 35 + z)
def cP_X7_37 : zL3 := cP_X7_36 ++ [(10, 8, 35)]
def cL_X7_39 : zL3 := cL_X7_36 ++ cL_X3.map (fun e => (38 + e.1, e.2))
def cP_X7_39 : zL3 := cP_X7_37 ++ cP_X3.map (fun e => (38 + e.1, e.2.1, 38 + e.2.2))
def cV_X7_39 : zLV := cV_X7_36 ++ cV_X3.map (fun e => (38 + e.1, e.2))
def cZ_X7_39 : List Nat := cZ_X7_36 ++ cZ_X3.map (fun z => 38 + z)
def cP_X7_40 : zL3 := cP_X7_39 ++ [(10, 9, 38)]
set_option maxHeartbeats 8000000 in
set_option maxRecDepth 100000 in
theorem s_X7_init {g : zGT} {w : zW} {f : Nat → Nat → Int32} {j : Nat → Nat → Int64} {a : Nat} {Q : Option Value → zW → Prop} {QX : String → zW → Prop} (G : zGok g) (hS_z : zS w = a + 1) (hk : zK w a = 7) (hn : zN w a = 0) (hf : ∀ i, f a i = 0) (hQ : ∀ w2 f2_z j2, ctS w2 f2_z j2 w f j a 41 cL_X7 cP_X7 cV_X7 cZ_X7 → Q none (zM w2 f2_z j2)) : zC g 2 yX7_init cX7_init 2 none [.ref a] (zM w f j) (40, 254) Q QX := by
  refine zC_of G (by decide +kernel) (Nat.le_of_ble_eq_true rfl) ?_
  have c0_z : ctS w f j w f j a 1 cL_X7_0 cP_X7_0 cV_X7_0 cZ_X7_0 := ctS_0 (m := 5) (j := j) hS_z hk hn hf
  refine r_aloadR0 dX7_init_0 ?_
  refine r_obj zo_RX7 zo_in zo_cd dX7_init_1 (by first | exact Nat.le_of_ble_eq_true rfl | decide) (by first | exact Nat.le_of_ble_eq_true rfl | decide) ?_
  refine r_aloadR0 dX7_init_4 ?_
  refine m_new (ctS_S c0_z) zn_RX7_9 dX7_init_5 (by first | exact Nat.le_of_ble_eq_true rfl | decide) (by first | exact Nat.le_of_ble_eq_true rfl | decide) (fun w1 f1_z j1 n1 m1_z p1 => ?_)
  refine zR_b (b2 := (1, 8)) rfl ?_
  refine r_dup dX7_init_8 rfl ?_
  refine r_callI (n := 0) (As := []) (b2 := (5, 16)) (Or.inr ⟨"NapkinDeeds", List.mem_of_getElem? (i := 2) rfl⟩) zin_yX4_init zini_RX4 zcode_yX4_init rfl ⟨by decide, by decide, by decide +kernel⟩ (by decide) dX7_init_9 (s_X4_init (a := a + 1) (w := w1) (f := f1_z) (j := j1) G (by rw [n1.1]) n1.2.1 n1.2.2.1 m1_z.2 (fun w2 f2_z j2 s2 => ?_)) rfl rfl (by first | exact Nat.le_of_ble_eq_true rfl | decide) (by first | exact Nat.le_of_ble_eq_true rfl | decide) (by first | exact Nat.le_of_ble_eq_true rfl | decide) (by first | exact Nat.le_of_ble_eq_true rfl | decide) (by first | exact Nat.le_of_ble_eq_true rfl | decide) (fun r w9 h9 => h9)
  have c2_z : ctS w2 f2_z j2 w f j a 7 cL_X7_2 cP_X7_2 cV_X7_2 cZ_X7_2 := ctS_sub (c := 1) (c2_z := 6) (L := cL_X7_0) (PL := cP_X7_0) (VL := cV_X7_0) (ZL := cZ_X7_0) (L2 := cL_X4) (PL2 := cP_X4) (VL2 := cV_X4) (ZL2 := cZ_X4) c0_z n1 m1_z p1 s2
  refine zR_b (b2 := (6, 24)) rfl ?_
  refine m_putP (q := (a + 1)) zf_RX7_12 (by intro C T N h_z; cases h_z; rfl) rfl dX7_init_12 (c2_z.2.2.1 (0, 7, 0) (List.mem_of_getElem? (i := 0) (by decide +kernel))).2.1 ?_
  obtain ⟨w3, hw3⟩ : ∃ u9, u9 = zsP w2 (zu (zP w2) a 0 (some (a + 1))) := ⟨_, rfl⟩
  rw [← hw3]
  have c3_z : ctS w3 f2_z j2 w f j a 7 cL_X7_2 cP_X7_3 cV_X7_2 cZ_X7_2 := by rw [hw3]; exact ctS_putP (k := 0) (o := 0) (t := 1) c2_z (by decide) (by decide +kernel)
  refine r_aloadR0 dX7_init_15 ?_
  refine m_new (ctS_S c3_z) zn_RX7_18 dX7_init_16 (by first | exact Nat.le_of_ble_eq_true rfl | decide) (by first | exact Nat.le_of_ble_eq_true rfl | decide) (fun w4 f4_z j4 n4 m4_z p4 => ?_)
  refine zR_b (b2 := (7, 27)) rfl ?_
  refine r_dup dX7_init_19 rfl ?_
  refine r_callI (n := 0) (As := []) (b2 := (2, 17)) (Or.inr ⟨"NapkinDeeds", List.mem_of_getElem? (i := 3) rfl⟩) zin_yX3_init zini_RX3 zcode_yX3_init rfl ⟨by decide, by decide, by decide +kernel⟩ (by decide) dX7_init_20 (s_X3_init (a := a + 7) (w := w4) (f := f4_z) (j := j4) G (by rw [n4.1]) n4.2.1 n4.2.2.1 m4_z.2 (fun w5 f5_z j5 s5 => ?_)) rfl rfl (by first | exact Nat.le_of_ble_eq_true rfl | decide) (by first | exact Nat.le_of_ble_eq_true rfl | decide) (by first | exact Nat.le_of_ble_eq_true rfl | decide) (by first | exact Nat.le_of_ble_eq_true rfl | decide) (by first | exact Nat.le_of_ble_eq_true rfl | decide) (fun r w9 h9 => h9)
  have c5_z : ctS w5 f5_z j5 w f j a 10 cL_X7_5 cP_X7_5 cV_X7_5 cZ_X7_5 := ctS_sub (c := 7) (c2_z := 3) (L := cL_X7_2) (PL := cP_X7_3) (VL := cV_X7_2) (ZL := cZ_X7_2) (L2 := cL_X3) (PL2 := cP_X3) (VL2 := cV_X3) (ZL2 := cZ_X3) c3_z n4 m4_z p4 s5
  refine zR_b (b2 := (9, 44)) rfl ?_
  refine m_putPF (q := (a + 7)) zf_RX7_21 (by intro C T N h_z; cases h_z; exact ⟨rfl, rfl⟩) rfl rfl dX7_init_23 (c5_z.2.2.1 (0, 7, 0) (List.mem_of_getElem? (i := 0) (by decide +kernel))).2.1 ?_
  obtain ⟨w6, hw6⟩ : ∃ u9, u9 = zsP w5 (zu (zP w5) a 1 (some (a + 7))) := ⟨_, rfl⟩
  rw [← hw6]
  have c6_z : ctS w6 f5_z j5 w f j a 10 cL_X7_5 cP_X7_6 cV_X7_5 cZ_X7_5 := by rw [hw6]; exact ctS_putP (k := 1) (o := 0) (t := 7) c5_z (by decide) (by decide +kernel)
  refine r_aloadR0 dX7_init_26 ?_
  refine n_bipush dX7_init_27 (by decide) (fun r1 e1_z => ?_)
  refine m_newQ (ci := 2) (N := 10) (ctS_S c6_z) (zt1 (List.mem_of_getElem? (i := 142) (by decide +kernel)) (by decide +kernel)) (by decide +kernel) dX7_init_29 (by omega) (by decide) (by first | exact Nat.le_of_ble_eq_true rfl | decide) (by first | exact Nat.le_of_ble_eq_true rfl | decide) (fun w7 f7_z j7 n7 m7_z p7 => ?_)
  have c7_z : ctS w7 f7_z j7 w f j a 11 cL_X7_7 cP_X7_6 cV_X7_5 cZ_X7_7 := ctS_new c6_z n7 m7_z p7
  refine zR_b (b2 := (10, 54)) rfl ?_
  refine m_putPF (q := (a + 10)) zf_RX7_25 (by intro C T N h_z; cases h_z; exact ⟨rfl, rfl⟩) rfl rfl dX7_init_32 (c7_z.2.2.1 (0, 7, 0) (List.mem_of_getElem? (i := 0) (by decide +kernel))).2.1 ?_
  obtain ⟨w8, hw8⟩ : ∃ u9, u9 = zsP w7 (zu (zP w7) a 2 (some (a + 10))) := ⟨_, rfl⟩
  rw [← hw8]
  have c8_z : ctS w8 f7_z j7 w f j a 11 cL_X7_7 cP_X7_8 cV_X7_5 cZ_X7_7 := by rw [hw8]; exact ctS_putP (k := 2) (o := 0) (t := 10) c7_z (by decide) (by decide +kernel)
  refine r_aloadR0 dX7_init_35 ?_
  refine n_iconst dX7_init_36 (by decide) (fun r2 e2_z => ?_)
  refine m_putI zf_RX7_29 (by intro C T N h_z; cases h_z; rfl) rfl dX7_init_37 (c8_z.2.2.1 (0, 7, 0) (List.mem_of_getElem? (i := 0) (by decide +kernel))).2.1 ?_
  obtain ⟨f9_z, hf9⟩ : ∃ u9, u9 = zu f7_z a 3 r2 := ⟨_, rfl⟩
  rw [← hf9]
  have c9_z : ctS w8 f9_z j7 w f j a 11 cL_X7_7 cP_X7_8 cV_X7_9 cZ_X7_7 := by rw [hf9]; exact ctS_putI (k := 3) (o := 0) (x := r2) (v := 0) c8_z (by decide) (zi_eq.mpr (e2_z.trans (by decide))) (by decide +kernel)
  refine r_aloadR0 dX7_init_40 ?_
  refine n_iconst dX7_init_41 (by decide) (fun r3 e3_z => ?_)
  refine m_putZ zf_RX7_33 (by intro C T N h_z; cases h_z; rfl) rfl (by omega) dX7_init_42 (c9_z.2.2.1 (0, 7, 0) (List.mem_of_getElem? (i := 0) (by decide +kernel))).2.1 ?_
  obtain ⟨f10, hf10⟩ : ∃ u9, u9 = zu f9_z a 4 r3 := ⟨_, rfl⟩
  rw [← hf10]
  have c10 : ctS w8 f10 j7 w f j a 11 cL_X7_7 cP_X7_8 cV_X7_10 cZ_X7_7 := by rw [hf10]; exact ctS_putI (k := 4) (o := 0) (x := r3) (v := 0) c9_z (by decide) (zi_eq.mpr (e3_z.trans (by decide))) (by decide +kernel)
  refine n_iconst dX7_init_45 (by decide) (fun r4 e4_z => ?_)
  refine r_istore1 dX7_init_46 rfl ?_
  refine r_iload1 dX7_init_47 ?_
  refine r_aloadR0 dX7_init_48 ?_
  refine m_getR (q := (a + 10)) zf_RX7_25 rfl dX7_init_49 (c10.2.2.1 (0, 7, 0) (List.mem_of_getElem? (i := 0) (by decide +kernel))).2.1 (c10.2.2.2.1 (0, 2, 10) (List.mem_of_getElem? (i := 9) (by decide +kernel))).2 ?_
  refine m_alen (n := 10) dX7_init_52 (zge (c10.2.2.1 (10, 32, 10) (List.mem_of_getElem? (i := 10) (by decide +kernel))).2.1 (by decide)) (c10.2.2.1 (10, 32, 10) (List.mem_of_getElem? (i := 10) (by decide +kernel))).2.2 (by decide) (fun r5 e5_z => ?_)
  refine t_icge (t := 75) dX7_init_53 (by decide) (fun h53 => False.elim (by omega)) (fun h53 => ?_)
  refine r_aloadR0 dX7_init_56 ?_
  refine m_getR (q := (a + 10)) zf_RX7_25 rfl dX7_init_57 (c10.2.2.1 (0, 7, 0) (List.mem_of_getElem? (i := 0) (by decide +kernel))).2.1 (c10.2.2.2.1 (0, 2, 10) (List.mem_of_getElem? (i := 9) (by decide +kernel))).2 ?_
  refine r_iload1 dX7_init_60 ?_
  refine m_new (ctS_S c10) zn_RX7_18 dX7_init_61 (by first | exact Nat.le_of_ble_eq_true rfl | decide) (by first | exact Nat.le_of_ble_eq_true rfl | decide) (fun w11 f11 j11 n11 m11 p11 => ?_)
  refine zR_b (b2 := (11, 57)) rfl ?_
  refine r_dup dX7_init_64 rfl ?_
  refine r_callI (n := 0) (As := []) (b2 := (2, 17)) (Or.inr ⟨"NapkinDeeds", List.mem_of_getElem? (i := 3) rfl⟩) zin_yX3_init zini_RX3 zcode_yX3_init rfl ⟨by decide, by decide, by decide +kernel⟩ (by decide) dX7_init_65 (s_X3_init (a := a + 11) (w := w11) (f := f11) (j := j11) G (by rw [n11.1]) n11.2.1 n11.2.2.1 m11.2 (fun w12 f12 j12 s12 => ?_)) rfl rfl (by first | exact Nat.le_of_ble_eq_true rfl | decide) (by first | exact Nat.le_of_ble_eq_true rfl | decide) (by first | exact Nat.le_of_ble_eq_true rfl | decide) (by first | exact Nat.le_of_ble_eq_true rfl | decide) (by first | exact Nat.le_of_ble_eq_true rfl | decide) (fun r w9 h9 => h9)
  have c12 : ctS w12 f12 j12 w f j a 14 cL_X7_12 cP_X7_12 cV_X7_12 cZ_X7_12 := ctS_sub (c := 11) (c2_z := 3) (L := cL_X7_7) (PL := cP_X7_8) (VL := cV_X7_10) (ZL := cZ_X7_7) (L2 := cL_X3) (PL2 := cP_X3) (VL2 := cV_X3) (ZL2 := cZ_X3) c10 n11 m11 p11 s12
  refine zR_b (b2 := (13, 74)) rfl ?_
  refine m_aast (ci := 2) (k := 0) dX7_init_68 (by decide) (c12.2.2.1 (10, 32, 10) (List.mem_of_getElem? (i := 10) (by decide +kernel))).2.1 (c12.2.2.1 (10, 32, 10) (List.mem_of_getElem? (i := 10) (by decide +kernel))).2.2 (by omega) (by decide) (c12.2.2.1 (11, 3, 0) (List.mem_of_getElem? (i := 11) (by decide +kernel))).2.1 ?_
  obtain ⟨w13, hw13⟩ : ∃ u9, u9 = zsP w12 (zu (zP w12) (a + 10) 0 (some (a + 11))) := ⟨_, rfl⟩
  rw [← hw13]
  have c13 : ctS w13 f12 j12 w f j a 14 cL_X7_12 cP_X7_13 cV_X7_12 cZ_X7_12 := by rw [hw13]; exact ctS_putP (k := 0) (o := 10) (t := 11) c12 (by decide) (by decide +kernel)
  refine n_iinc1 dX7_init_69 (by decide) rfl (by omega) (fun r6 e6_z => ?_)
  refine r_goto (t := 47) dX7_init_72 (by decide) ?_
  refine r_iload1 dX7_init_47 ?_
  refine r_aloadR0 dX7_init_48 ?_
  refine m_getR (q := (a + 10)) zf_RX7_25 rfl dX7_init_49 (c13.2.2.1 (0, 7, 0) (List.mem_of_getElem? (i := 0) (by decide +kernel))).2.1 (c13.2.2.2.1 (0, 2, 10) (List.mem_of_getElem? (i := 9) (by decide +kernel))).2 ?_
  refine m_alen (n := 10) dX7_init_52 (zge (c13.2.2.1 (10, 32, 10) (List.mem_of_getElem? (i := 10) (by decide +kernel))).2.1 (by decide)) (c13.2.2.1 (10, 32, 10) (List.mem_of_getElem? (i := 10) (by decide +kernel))).2.2 (by decide) (fun r7 e7_z => ?_)
  refine t_icge (t := 75) dX7_init_53 (by decide) (fun h53 => False.elim (by omega)) (fun h53 => ?_)
  refine r_aloadR0 dX7_init_56 ?_
  refine m_getR (q := (a + 10)) zf_RX7_25 rfl dX7_init_57 (c13.2.2.1 (0, 7, 0) (List.mem_of_getElem? (i := 0) (by decide +kernel))).2.1 (c13.2.2.2.1 (0, 2, 10) (List.mem_of_getElem? (i := 9) (by decide +kernel))).2 ?_
  refine r_iload1 dX7_init_60 ?_
  refine m_new (ctS_S c13) zn_RX7_18 dX7_init_61 (by first | exact Nat.le_of_ble_eq_true rfl | decide) (by first | exact Nat.le_of_ble_eq_true rfl | decide) (fun w14 f14 j14 n14 m14 p14 => ?_)
  refine zR_b (b2 := (14, 77)) rfl ?_
  refine r_dup dX7_init_64 rfl ?_
  refine r_callI (n := 0) (As := []) (b2 := (2, 17)) (Or.inr ⟨"NapkinDeeds", List.mem_of_getElem? (i := 3) rfl⟩) zin_yX3_init zini_RX3 zcode_yX3_init rfl ⟨by decide, by decide, by decide +kernel⟩ (by decide) dX7_init_65 (s_X3_init (a := a + 14) (w := w14) (f := f14) (j := j14) G (by rw [n14.1]) n14.2.1 n14.2.2.1 m14.2 (fun w15 f15 j15 s15 => ?_)) rfl rfl (by first | exact Nat.le_of_ble_eq_true rfl | decide) (by first | exact Nat.le_of_ble_eq_true rfl | decide) (by first | exact Nat.le_of_ble_eq_true rfl | decide) (by first | exact Nat.le_of_ble_eq_true rfl | decide) (by first | exact Nat.le_of_ble_eq_true rfl | decide) (fun r w9 h9 => h9)
  have c15 : ctS w15 f15 j15 w f j a 17 cL_X7_15 cP_X7_15 cV_X7_15 cZ_X7_15 := ctS_sub (c := 14) (c2_z := 3) (L := cL_X7_12) (PL := cP_X7_13) (VL := cV_X7_12) (ZL := cZ_X7_12) (L2 := cL_X3) (PL2 := cP_X3) (VL2 := cV_X3) (ZL2 := cZ_X3) c13 n14 m14 p14 s15
  refine zR_b (b2 := (16, 94)) rfl ?_
  refine m_aast (ci := 2) (k := 1) dX7_init_68 (by decide) (c15.2.2.1 (10, 32, 10) (List.mem_of_getElem? (i := 10) (by decide +kernel))).2.1 (c15.2.2.1 (10, 32, 10) (List.mem_of_getElem? (i := 10) (by decide +kernel))).2.2 (by omega) (by decide) (c15.2.2.1 (14, 3, 0) (List.mem_of_getElem? (i := 14) (by decide +kernel))).2.1 ?_
  obtain ⟨w16, hw16⟩ : ∃ u9, u9 = zsP w15 (zu (zP w15) (a + 10) 1 (some (a + 14))) := ⟨_, rfl⟩
  rw [← hw16]
  have c16 : ctS w16 f15 j15 w f j a 17 cL_X7_15 cP_X7_16 cV_X7_15 cZ_X7_15 := by rw [hw16]; exact ctS_putP (k := 1) (o := 10) (t := 14) c15 (by decide) (by decide +kernel)
  refine n_iinc1 dX7_init_69 (by decide) rfl (by omega) (fun r8 e8 => ?_)
  refine r_goto (t := 47) dX7_init_72 (by decide) ?_
  refine r_iload1 dX7_init_47 ?_
  refine r_aloadR0 dX7_init_48 ?_
  refine m_getR (q := (a + 10)) zf_RX7_25 rfl dX7_init_49 (c16.2.2.1 (0, 7, 0) (List.mem_of_getElem? (i := 0) (by decide +kernel))).2.1 (c16.2.2.2.1 (0, 2, 10) (List.mem_of_getElem? (i := 9) (by decide +kernel))).2 ?_
  refine m_alen (n := 10) dX7_init_52 (zge (c16.2.2.1 (10, 32, 10) (List.mem_of_getElem? (i := 10) (by decide +kernel))).2.1 (by decide)) (c16.2.2.1 (10, 32, 10) (List.mem_of_getElem? (i := 10) (by decide +kernel))).2.2 (by decide) (fun r9 e9_z => ?_)
  refine t_icge (t := 75) dX7_init_53 (by decide) (fun h53 => False.elim (by omega)) (fun h53 => ?_)
  refine r_aloadR0 dX7_init_56 ?_
  refine m_getR (q := (a + 10)) zf_RX7_25 rfl dX7_init_57 (c16.2.2.1 (0, 7, 0) (List.mem_of_getElem? (i := 0) (by decide +kernel))).2.1 (c16.2.2.2.1 (0, 2, 10) (List.mem_of_getElem? (i := 9) (by decide +kernel))).2 ?_
  refine r_iload1 dX7_init_60 ?_
  refine m_new (ctS_S c16) zn_RX7_18 dX7_init_61 (by first | exact Nat.le_of_ble_eq_true rfl | decide) (by first | exact Nat.le_of_ble_eq_true rfl | decide) (fun w17 f17 j17 n17 m17 p17 => ?_)
  refine zR_b (b2 := (17, 97)) rfl ?_
  refine r_dup dX7_init_64 rfl ?_
  refine r_callI (n := 0) (As := []) (b2 := (2, 17)) (Or.inr ⟨"NapkinDeeds", List.mem_of_getElem? (i := 3) rfl⟩) zin_yX3_init zini_RX3 zcode_yX3_init rfl ⟨by decide, by decide, by decide +kernel⟩ (by decide) dX7_init_65 (s_X3_init (a := a + 17) (w := w17) (f := f17) (j := j17) G (by rw [n17.1]) n17.2.1 n17.2.2.1 m17.2 (fun w18 f18 j18 s18 => ?_)) rfl rfl (by first | exact Nat.le_of_ble_eq_true rfl | decide) (by first | exact Nat.le_of_ble_eq_true rfl | decide) (by first | exact Nat.le_of_ble_eq_true rfl | decide) (by first | exact Nat.le_of_ble_eq_true rfl | decide) (by first | exact Nat.le_of_ble_eq_true rfl | decide) (fun r w9 h9 => h9)
  have c18 : ctS w18 f18 j18 w f j a 20 cL_X7_18 cP_X7_18 cV_X7_18 cZ_X7_18 := ctS_sub (c := 17) (c2_z := 3) (L := cL_X7_15) (PL := cP_X7_16) (VL := cV_X7_15) (ZL := cZ_X7_15) (L2 := cL_X3) (PL2 := cP_X3) (VL2 := cV_X3) (ZL2 := cZ_X3) c16 n17 m17 p17 s18
  refine zR_b (b2 := (19, 114)) rfl ?_
  refine m_aast (ci := 2) (k := 2) dX7_init_68 (by decide) (c18.2.2.1 (10, 32, 10) (List.mem_of_getElem? (i := 10) (by decide +kernel))).2.1 (c18.2.2.1 (10, 32, 10) (List.mem_of_getElem? (i := 10) (by decide +kernel))).2.2 (by omega) (by decide) (c18.2.2.1 (17, 3, 0) (List.mem_of_getElem? (i := 17) (by decide +kernel))).2.1 ?_
  obtain ⟨w19, hw19⟩ : ∃ u9, u9 = zsP w18 (zu (zP w18) (a + 10) 2 (some (a + 17))) := ⟨_, rfl⟩
  rw [← hw19]
  have c19 : ctS w19 f18 j18 w f j a 20 cL_X7_18 cP_X7_19 cV_X7_18 cZ_X7_18 := by rw [hw19]; exact ctS_putP (k := 2) (o := 10) (t := 17) c18 (by decide) (by decide +kernel)
  refine n_iinc1 dX7_init_69 (by decide) rfl (by omega) (fun r10 e10_z => ?_)
  refine r_goto (t := 47) dX7_init_72 (by decide) ?_
  refine r_iload1 dX7_init_47 ?_
  refine r_aloadR0 dX7_init_48 ?_
  refine m_getR (q := (a + 10)) zf_RX7_25 rfl dX7_init_49 (c19.2.2.1 (0, 7, 0) (List.mem_of_getElem? (i := 0) (by decide +kernel))).2.1 (c19.2.2.2.1 (0, 2, 10) (List.mem_of_getElem? (i := 9) (by decide +kernel))).2 ?_
  refine m_alen (n := 10) dX7_init_52 (zge (c19.2.2.1 (10, 32, 10) (List.mem_of_getElem? (i := 10) (by decide +kernel))).2.1 (by decide)) (c19.2.2.1 (10, 32, 10) (List.mem_of_getElem? (i := 10) (by decide +kernel))).2.2 (by decide) (fun r11 e11_z => ?_)
  refine t_icge (t := 75) dX7_init_53 (by decide) (fun h53 => False.elim (by omega)) (fun h53 => ?_)
  refine r_aloadR0 dX7_init_56 ?_
  refine m_getR (q := (a + 10)) zf_RX7_25 rfl dX7_init_57 (c19.2.2.1 (0, 7, 0) (List.mem_of_getElem? (i := 0) (by decide +kernel))).2.1 (c19.2.2.2.1 (0, 2, 10) (List.mem_of_getElem? (i := 9) (by decide +kernel))).2 ?_
  refine r_iload1 dX7_init_60 ?_
  refine m_new (ctS_S c19) zn_RX7_18 dX7_init_61 (by first | exact Nat.le_of_ble_eq_true rfl | decide) (by first | exact Nat.le_of_ble_eq_true rfl | decide) (fun w20 f20 j20 n20 m20 p20 => ?_)
  refine zR_b (b2 := (20, 117)) rfl ?_
  refine r_dup dX7_init_64 rfl ?_
  refine r_callI (n := 0) (As := []) (b2 := (2, 17)) (Or.inr ⟨"NapkinDeeds", List.mem_of_getElem? (i := 3) rfl⟩) zin_yX3_init zini_RX3 zcode_yX3_init rfl ⟨by decide, by decide, by decide +kernel⟩ (by decide) dX7_init_65 (s_X3_init (a := a + 20) (w := w20) (f := f20) (j := j20) G (by rw [n20.1]) n20.2.1 n20.2.2.1 m20.2 (fun w21 f21 j21 s21 => ?_)) rfl rfl (by first | exact Nat.le_of_ble_eq_true rfl | decide) (by first | exact Nat.le_of_ble_eq_true rfl | decide) (by first | exact Nat.le_of_ble_eq_true rfl | decide) (by first | exact Nat.le_of_ble_eq_true rfl | decide) (by first | exact Nat.le_of_ble_eq_true rfl | decide) (fun r w9 h9 => h9)
  have c21 : ctS w21 f21 j21 w f j a 23 cL_X7_21 cP_X7_21 cV_X7_21 cZ_X7_21 := ctS_sub (c := 20) (c2_z := 3) (L := cL_X7_18) (PL := cP_X7_19) (VL := cV_X7_18) (ZL := cZ_X7_18) (L2 := cL_X3) (PL2 := cP_X3) (VL2 := cV_X3) (ZL2 := cZ_X3) c19 n20 m20 p20 s21
  refine zR_b (b2 := (22, 134)) rfl ?_
  refine m_aast (ci := 2) (k := 3) dX7_init_68 (by decide) (c21.2.2.1 (10, 32, 10) (List.mem_of_getElem? (i := 10) (by decide +kernel))).2.1 (c21.2.2.1 (10, 32, 10) (List.mem_of_getElem? (i := 10) (by decide +kernel))).2.2 (by omega) (by decide) (c21.2.2.1 (20, 3, 0) (List.mem_of_getElem? (i := 20) (by decide +kernel))).2.1 ?_
  obtain ⟨w22, hw22⟩ : ∃ u9, u9 = zsP w21 (zu (zP w21) (a + 10) 3 (some (a + 20))) := ⟨_, rfl⟩
  rw [← hw22]
  have c22 : ctS w22 f21 j21 w f j a 23 cL_X7_21 cP_X7_22 cV_X7_21 cZ_X7_21 := by rw [hw22]; exact ctS_putP (k := 3) (o := 10) (t := 20) c21 (by decide) (by decide +kernel)
  refine n_iinc1 dX7_init_69 (by decide) rfl (by omega) (fun r12 e12_z => ?_)
  refine r_goto (t := 47) dX7_init_72 (by decide) ?_
  refine r_iload1 dX7_init_47 ?_
  refine r_aloadR0 dX7_init_48 ?_
  refine m_getR (q := (a + 10)) zf_RX7_25 rfl dX7_init_49 (c22.2.2.1 (0, 7, 0) (List.mem_of_getElem? (i := 0) (by decide +kernel))).2.1 (c22.2.2.2.1 (0, 2, 10) (List.mem_of_getElem? (i := 9) (by decide +kernel))).2 ?_
  refine m_alen (n := 10) dX7_init_52 (zge (c22.2.2.1 (10, 32, 10) (List.mem_of_getElem? (i := 10) (by decide +kernel))).2.1 (by decide)) (c22.2.2.1 (10, 32, 10) (List.mem_of_getElem? (i := 10) (by decide +kernel))).2.2 (by decide) (fun r13 e13_z => ?_)
  refine t_icge (t := 75) dX7_init_53 (by decide) (fun h53 => False.elim (by omega)) (fun h53 => ?_)
  refine r_aloadR0 dX7_init_56 ?_
  refine m_getR (q := (a + 10)) zf_RX7_25 rfl dX7_init_57 (c22.2.2.1 (0, 7, 0) (List.mem_of_getElem? (i := 0) (by decide +kernel))).2.1 (c22.2.2.2.1 (0, 2, 10) (List.mem_of_getElem? (i := 9) (by decide +kernel))).2 ?_
  refine r_iload1 dX7_init_60 ?_
  refine m_new (ctS_S c22) zn_RX7_18 dX7_init_61 (by first | exact Nat.le_of_ble_eq_true rfl | decide) (by first | exact Nat.le_of_ble_eq_true rfl | decide) (fun w23 f23 j23 n23 m23 p23 => ?_)
  refine zR_b (b2 := (23, 137)) rfl ?_
  refine r_dup dX7_init_64 rfl ?_
  refine r_callI (n := 0) (As := []) (b2 := (2, 17)) (Or.inr ⟨"NapkinDeeds", List.mem_of_getElem? (i := 3) rfl⟩) zin_yX3_init zini_RX3 zcode_yX3_init rfl ⟨by decide, by decide, by decide +kernel⟩ (by decide) dX7_init_65 (s_X3_init (a := a + 23) (w := w23) (f := f23) (j := j23) G (by rw [n23.1]) n23.2.1 n23.2.2.1 m23.2 (fun w24 f24 j24 s24 => ?_)) rfl rfl (by first | exact Nat.le_of_ble_eq_true rfl | decide) (by first | exact Nat.le_of_ble_eq_true rfl | decide) (by first | exact Nat.le_of_ble_eq_true rfl | decide) (by first | exact Nat.le_of_ble_eq_true rfl | decide) (by first | exact Nat.le_of_ble_eq_true rfl | decide) (fun r w9 h9 => h9)
  have c24 : ctS w24 f24 j24 w f j a 26 cL_X7_24 cP_X7_24 cV_X7_24 cZ_X7_24 := ctS_sub (c := 23) (c2_z := 3) (L := cL_X7_21) (PL := cP_X7_22) (VL := cV_X7_21) (ZL := cZ_X7_21) (L2 := cL_X3) (PL2 := cP_X3) (VL2 := cV_X3) (ZL2 := cZ_X3) c22 n23 m23 p23 s24
  refine zR_b (b2 := (25, 154)) rfl ?_
  refine m_aast (ci := 2) (k := 4) dX7_init_68 (by decide) (c24.2.2.1 (10, 32, 10) (List.mem_of_getElem? (i := 10) (by decide +kernel))).2.1 (c24.2.2.1 (10, 32, 10) (List.mem_of_getElem? (i := 10) (by decide +kernel))).2.2 (by omega) (by decide) (c24.2.2.1 (23, 3, 0) (List.mem_of_getElem? (i := 23) (by decide +kernel))).2.1 ?_
  obtain ⟨w25, hw25⟩ : ∃ u9, u9 = zsP w24 (zu (zP w24) (a + 10) 4 (some (a + 23))) := ⟨_, rfl⟩
  rw [← hw25]
  have c25 : ctS w25 f24 j24 w f j a 26 cL_X7_24 cP_X7_25 cV_X7_24 cZ_X7_24 := by rw [hw25]; exact ctS_putP (k := 4) (o := 10) (t := 23) c24 (by decide) (by decide +kernel)
  refine n_iinc1 dX7_init_69 (by decide) rfl (by omega) (fun r14 e14_z => ?_)
  refine r_goto (t := 47) dX7_init_72 (by decide) ?_
  refine r_iload1 dX7_init_47 ?_
  refine r_aloadR0 dX7_init_48 ?_
  refine m_getR (q := (a + 10)) zf_RX7_25 rfl dX7_init_49 (c25.2.2.1 (0, 7, 0) (List.mem_of_getElem? (i := 0) (by decide +kernel))).2.1 (c25.2.2.2.1 (0, 2, 10) (List.mem_of_getElem? (i := 9) (by decide +kernel))).2 ?_
  refine m_alen (n := 10) dX7_init_52 (zge (c25.2.2.1 (10, 32, 10) (List.mem_of_getElem? (i := 10) (by decide +kernel))).2.1 (by decide)) (c25.2.2.1 (10, 32, 10) (List.mem_of_getElem? (i := 10) (by decide +kernel))).2.2 (by decide) (fun r15 e15_z => ?_)
  refine t_icge (t := 75) dX7_init_53 (by decide) (fun h53 => False.elim (by omega)) (fun h53 => ?_)
  refine r_aloadR0 dX7_init_56 ?_
  refine m_getR (q := (a + 10)) zf_RX7_25 rfl dX7_init_57 (c25.2.2.1 (0, 7, 0) (List.mem_of_getElem? (i := 0) (by decide +kernel))).2.1 (c25.2.2.2.1 (0, 2, 10) (List.mem_of_getElem? (i := 9) (by decide +kernel))).2 ?_
  refine r_iload1 dX7_init_60 ?_
  refine m_new (ctS_S c25) zn_RX7_18 dX7_init_61 (by first | exact Nat.le_of_ble_eq_true rfl | decide) (by first | exact Nat.le_of_ble_eq_true rfl | decide) (fun w26 f26 j26 n26 m26 p26 => ?_)
  refine zR_b (b2 := (26, 157)) rfl ?_
  refine r_dup dX7_init_64 rfl ?_
  refine r_callI (n := 0) (As := []) (b2 := (2, 17)) (Or.inr ⟨"NapkinDeeds", List.mem_of_getElem? (i := 3) rfl⟩) zin_yX3_init zini_RX3 zcode_yX3_init rfl ⟨by decide, by decide, by decide +kernel⟩ (by decide) dX7_init_65 (s_X3_init (a := a + 26) (w := w26) (f := f26) (j := j26) G (by rw [n26.1]) n26.2.1 n26.2.2.1 m26.2 (fun w27 f27 j27 s27 => ?_)) rfl rfl (by first | exact Nat.le_of_ble_eq_true rfl | decide) (by first | exact Nat.le_of_ble_eq_true rfl | decide) (by first | exact Nat.le_of_ble_eq_true rfl | decide) (by first | exact Nat.le_of_ble_eq_true rfl | decide) (by first | exact Nat.le_of_ble_eq_true rfl | decide) (fun r w9 h9 => h9)
  have c27 : ctS w27 f27 j27 w f j a 29 cL_X7_27 cP_X7_27 cV_X7_27 cZ_X7_27 := ctS_sub (c := 26) (c2_z := 3) (L := cL_X7_24) (PL := cP_X7_25) (VL := cV_X7_24) (ZL := cZ_X7_24) (L2 := cL_X3) (PL2 := cP_X3) (VL2 := cV_X3) (ZL2 := cZ_X3) c25 n26 m26 p26 s27
  refine zR_b (b2 := (28, 174)) rfl ?_
  refine m_aast (ci := 2) (k := 5) dX7_init_68 (by decide) (c27.2.2.1 (10, 32, 10) (List.mem_of_getElem? (i := 10) (by decide +kernel))).2.1 (c27.2.2.1 (10, 32, 10) (List.mem_of_getElem? (i := 10) (by decide +kernel))).2.2 (by omega) (by decide) (c27.2.2.1 (26, 3, 0) (List.mem_of_getElem? (i := 26) (by decide +kernel))).2.1 ?_
  obtain ⟨w28, hw28⟩ : ∃ u9, u9 = zsP w27 (zu (zP w27) (a + 10) 5 (some (a + 26))) := ⟨_, rfl⟩
  rw [← hw28]
  have c28 : ctS w28 f27 j27 w f j a 29 cL_X7_27 cP_X7_28 cV_X7_27 cZ_X7_27 := by rw [hw28]; exact ctS_putP (k := 5) (o := 10) (t := 26) c27 (by decide) (by decide +kernel)
  refine n_iinc1 dX7_init_69 (by decide) rfl (by omega) (fun r16 e16_z => ?_)
  refine r_goto (t := 47) dX7_init_72 (by decide) ?_
  refine r_iload1 dX7_init_47 ?_
  refine r_aloadR0 dX7_init_48 ?_
  refine m_getR (q := (a + 10)) zf_RX7_25 rfl dX7_init_49 (c28.2.2.1 (0, 7, 0) (List.mem_of_getElem? (i := 0) (by decide +kernel))).2.1 (c28.2.2.2.1 (0, 2, 10) (List.mem_of_getElem? (i := 9) (by decide +kernel))).2 ?_
  refine m_alen (n := 10) dX7_init_52 (zge (c28.2.2.1 (10, 32, 10) (List.mem_of_getElem? (i := 10) (by decide +kernel))).2.1 (by decide)) (c28.2.2.1 (10, 32, 10) (List.mem_of_getElem? (i := 10) (by decide +kernel))).2.2 (by decide) (fun r17 e17_z => ?_)
  refine t_icge (t := 75) dX7_init_53 (by decide) (fun h53 => False.elim (by omega)) (fun h53 => ?_)
  refine r_aloadR0 dX7_init_56 ?_
  refine m_getR (q := (a + 10)) zf_RX7_25 rfl dX7_init_57 (c28.2.2.1 (0, 7, 0) (List.mem_of_getElem? (i := 0) (by decide +kernel))).2.1 (c28.2.2.2.1 (0, 2, 10) (List.mem_of_getElem? (i := 9) (by decide +kernel))).2 ?_
  refine r_iload1 dX7_init_60 ?_
  refine m_new (ctS_S c28) zn_RX7_18 dX7_init_61 (by first | exact Nat.le_of_ble_eq_true rfl | decide) (by first | exact Nat.le_of_ble_eq_true rfl | decide) (fun w29 f29 j29 n29 m29 p29 => ?_)
  refine zR_b (b2 := (29, 177)) rfl ?_
  refine r_dup dX7_init_64 rfl ?_
  refine r_callI (n := 0) (As := []) (b2 := (2, 17)) (Or.inr ⟨"NapkinDeeds", List.mem_of_getElem? (i := 3) rfl⟩) zin_yX3_init zini_RX3 zcode_yX3_init rfl ⟨by decide, by decide, by decide +kernel⟩ (by decide) dX7_init_65 (s_X3_init (a := a + 29) (w := w29) (f := f29) (j := j29) G (by rw [n29.1]) n29.2.1 n29.2.2.1 m29.2 (fun w30 f30 j30 s30 => ?_)) rfl rfl (by first | exact Nat.le_of_ble_eq_true rfl | decide) (by first | exact Nat.le_of_ble_eq_true rfl | decide) (by first | exact Nat.le_of_ble_eq_true rfl | decide) (by first | exact Nat.le_of_ble_eq_true rfl | decide) (by first | exact Nat.le_of_ble_eq_true rfl | decide) (fun r w9 h9 => h9)
  have c30 : ctS w30 f30 j30 w f j a 32 cL_X7_30 cP_X7_30 cV_X7_30 cZ_X7_30 := ctS_sub (c := 29) (c2_z := 3) (L := cL_X7_27) (PL := cP_X7_28) (VL := cV_X7_27) (ZL := cZ_X7_27) (L2 := cL_X3) (PL2 := cP_X3) (VL2 := cV_X3) (ZL2 := cZ_X3) c28 n29 m29 p29 s30
  refine zR_b (b2 := (31, 194)) rfl ?_
  refine m_aast (ci := 2) (k := 6) dX7_init_68 (by decide) (c30.2.2.1 (10, 32, 10) (List.mem_of_getElem? (i := 10) (by decide +kernel))).2.1 (c30.2.2.1 (10, 32, 10) (List.mem_of_getElem? (i := 10) (by decide +kernel))).2.2 (by omega) (by decide) (c30.2.2.1 (29, 3, 0) (List.mem_of_getElem? (i := 29) (by decide +kernel))).2.1 ?_
  obtain ⟨w31, hw31⟩ : ∃ u9, u9 = zsP w30 (zu (zP w30) (a + 10) 6 (some (a + 29))) := ⟨_, rfl⟩
  rw [← hw31]
  have c31 : ctS w31 f30 j30 w f j a 32 cL_X7_30 cP_X7_31 cV_X7_30 cZ_X7_30 := by rw [hw31]; exact ctS_putP (k := 6) (o := 10) (t := 29) c30 (by decide) (by decide +kernel)
  refine n_iinc1 dX7_init_69 (by decide) rfl (by omega) (fun r18 e18_z => ?_)
  refine r_goto (t := 47) dX7_init_72 (by decide) ?_
  refine r_iload1 dX7_init_47 ?_
  refine r_aloadR0 dX7_init_48 ?_
  refine m_getR (q := (a + 10)) zf_RX7_25 rfl dX7_init_49 (c31.2.2.1 (0, 7, 0) (List.mem_of_getElem? (i := 0) (by decide +kernel))).2.1 (c31.2.2.2.1 (0, 2, 10) (List.mem_of_getElem? (i := 9) (by decide +kernel))).2 ?_
  refine m_alen (n := 10) dX7_init_52 (zge (c31.2.2.1 (10, 32, 10) (List.mem_of_getElem? (i := 10) (by decide +kernel))).2.1 (by decide)) (c31.2.2.1 (10, 32, 10) (List.mem_of_getElem? (i := 10) (by decide +kernel))).2.2 (by decide) (fun r19 e19_z => ?_)
  refine t_icge (t := 75) dX7_init_53 (by decide) (fun h53 => False.elim (by omega)) (fun h53 => ?_)
  refine r_aloadR0 dX7_init_56 ?_
  refine m_getR (q := (a + 10)) zf_RX7_25 rfl dX7_init_57 (c31.2.2.1 (0, 7, 0) (List.mem_of_getElem? (i := 0) (by decide +kernel))).2.1 (c31.2.2.2.1 (0, 2, 10) (List.mem_of_getElem? (i := 9) (by decide +kernel))).2 ?_
  refine r_iload1 dX7_init_60 ?_
  refine m_new (ctS_S c31) zn_RX7_18 dX7_init_61 (by first | exact Nat.le_of_ble_eq_true rfl | decide) (by first | exact Nat.le_of_ble_eq_true rfl | decide) (fun w32 f32 j32 n32 m32 p32 => ?_)
  refine zR_b (b2 := (32, 197)) rfl ?_
  refine r_dup dX7_init_64 rfl ?_
  refine r_callI (n := 0) (As := []) (b2 := (2, 17)) (Or.inr ⟨"NapkinDeeds", List.mem_of_getElem? (i := 3) rfl⟩) zin_yX3_init zini_RX3 zcode_yX3_init rfl ⟨by decide, by decide, by decide +kernel⟩ (by decide) dX7_init_65 (s_X3_init (a := a + 32) (w := w32) (f := f32) (j := j32) G (by rw [n32.1]) n32.2.1 n32.2.2.1 m32.2 (fun w33 f33 j33 s33 => ?_)) rfl rfl (by first | exact Nat.le_of_ble_eq_true rfl | decide) (by first | exact Nat.le_of_ble_eq_true rfl | decide) (by first | exact Nat.le_of_ble_eq_true rfl | decide) (by first | exact Nat.le_of_ble_eq_true rfl | decide) (by first | exact Nat.le_of_ble_eq_true rfl | decide) (fun r w9 h9 => h9)
  have c33 : ctS w33 f33 j33 w f j a 35 cL_X7_33 cP_X7_33 cV_X7_33 cZ_X7_33 := ctS_sub (c := 32) (c2_z := 3) (L := cL_X7_30) (PL := cP_X7_31) (VL := cV_X7_30) (ZL := cZ_X7_30) (L2 := cL_X3) (PL2 := cP_X3) (VL2 := cV_X3) (ZL2 := cZ_X3) c31 n32 m32 p32 s33
  refine zR_b (b2 := (34, 214)) rfl ?_
  refine m_aast (ci := 2) (k := 7) dX7_init_68 (by decide) (c33.2.2.1 (10, 32, 10) (List.mem_of_getElem? (i := 10) (by decide +kernel))).2.1 (c33.2.2.1 (10, 32, 10) (List.mem_of_getElem? (i := 10) (by decide +kernel))).2.2 (by omega) (by decide) (c33.2.2.1 (32, 3, 0) (List.mem_of_getElem? (i := 32) (by decide +kernel))).2.1 ?_
  obtain ⟨w34, hw34⟩ : ∃ u9, u9 = zsP w33 (zu (zP w33) (a + 10) 7 (some (a + 32))) := ⟨_, rfl⟩
  rw [← hw34]
  have c34 : ctS w34 f33 j33 w f j a 35 cL_X7_33 cP_X7_34 cV_X7_33 cZ_X7_33 := by rw [hw34]; exact ctS_putP (k := 7) (o := 10) (t := 32) c33 (by decide) (by decide +kernel)
  refine n_iinc1 dX7_init_69 (by decide) rfl (by omega) (fun r20 e20 => ?_)
  refine r_goto (t := 47) dX7_init_72 (by decide) ?_
  refine r_iload1 dX7_init_47 ?_
  refine r_aloadR0 dX7_init_48 ?_
  refine m_getR (q := (a + 10)) zf_RX7_25 rfl dX7_init_49 (c34.2.2.1 (0, 7, 0) (List.mem_of_getElem? (i := 0) (by decide +kernel))).2.1 (c34.2.2.2.1 (0, 2, 10) (List.mem_of_getElem? (i := 9) (by decide +kernel))).2 ?_
  refine m_alen (n := 10) dX7_init_52 (zge (c34.2.2.1 (10, 32, 10) (List.mem_of_getElem? (i := 10) (by decide +kernel))).2.1 (by decide)) (c34.2.2.1 (10, 32, 10) (List.mem_of_getElem? (i := 10) (by decide +kernel))).2.2 (by decide) (fun r21 e21_z => ?_)
  refine t_icge (t := 75) dX7_init_53 (by decide) (fun h53 => False.elim (by omega)) (fun h53 => ?_)
  refine r_aloadR0 dX7_init_56 ?_
  refine m_getR (q := (a + 10)) zf_RX7_25 rfl dX7_init_57 (c34.2.2.1 (0, 7, 0) (List.mem_of_getElem? (i := 0) (by decide +kernel))).2.1 (c34.2.2.2.1 (0, 2, 10) (List.mem_of_getElem? (i := 9) (by decide +kernel))).2 ?_
  refine r_iload1 dX7_init_60 ?_
  refine m_new (ctS_S c34) zn_RX7_18 dX7_init_61 (by first | exact Nat.le_of_ble_eq_true rfl | decide) (by first | exact Nat.le_of_ble_eq_true rfl | decide) (fun w35 f35 j35 n35 m35 p35 => ?_)
  refine zR_b (b2 := (35, 217)) rfl ?_
  refine r_dup dX7_init_64 rfl ?_
  refine r_callI (n := 0) (As := []) (b2 := (2, 17)) (Or.inr ⟨"NapkinDeeds", List.mem_of_getElem? (i := 3) rfl⟩) zin_yX3_init zini_RX3 zcode_yX3_init rfl ⟨by decide, by decide, by decide +kernel⟩ (by decide) dX7_init_65 (s_X3_init (a := a + 35) (w := w35) (f := f35) (j := j35) G (by rw [n35.1]) n35.2.1 n35.2.2.1 m35.2 (fun w36 f36 j36 s36 => ?_)) rfl rfl (by first | exact Nat.le_of_ble_eq_true rfl | decide) (by first | exact Nat.le_of_ble_eq_true rfl | decide) (by first | exact Nat.le_of_ble_eq_true rfl | decide) (by first | exact Nat.le_of_ble_eq_true rfl | decide) (by first | exact Nat.le_of_ble_eq_true rfl | decide) (fun r w9 h9 => h9)
  have c36 : ctS w36 f36 j36 w f j a 38 cL_X7_36 cP_X7_36 cV_X7_36 cZ_X7_36 := ctS_sub (c := 35) (c2_z := 3) (L := cL_X7_33) (PL := cP_X7_34) (VL := cV_X7_33) (ZL := cZ_X7_33) (L2 := cL_X3) (PL2 := cP_X3) (VL2 := cV_X3) (ZL2 := cZ_X3) c34 n35 m35 p35 s36
  refine zR_b (b2 := (37, 234)) rfl ?_
  refine m_aast (ci := 2) (k := 8) dX7_init_68 (by decide) (c36.2.2.1 (10, 32, 10) (List.mem_of_getElem? (i := 10) (by decide +kernel))).2.1 (c36.2.2.1 (10, 32, 10) (List.mem_of_getElem? (i := 10) (by decide +kernel))).2.2 (by omega) (by decide) (c36.2.2.1 (35, 3, 0) (List.mem_of_getElem? (i := 35) (by decide +kernel))).2.1 ?_
  obtain ⟨w37, hw37⟩ : ∃ u9, u9 = zsP w36 (zu (zP w36) (a + 10) 8 (some (a + 35))) := ⟨_, rfl⟩
  rw [← hw37]
  have c37 : ctS w37 f36 j36 w f j a 38 cL_X7_36 cP_X7_37 cV_X7_36 cZ_X7_36 := by rw [hw37]; exact ctS_putP (k := 8) (o := 10) (t := 35) c36 (by decide) (by decide +kernel)
  refine n_iinc1 dX7_init_69 (by decide) rfl (by omega) (fun r22 e22_z => ?_)
  refine r_goto (t := 47) dX7_init_72 (by decide) ?_
  refine r_iload1 dX7_init_47 ?_
  refine r_aloadR0 dX7_init_48 ?_
  refine m_getR (q := (a + 10)) zf_RX7_25 rfl dX7_init_49 (c37.2.2.1 (0, 7, 0) (List.mem_of_getElem? (i := 0) (by decide +kernel))).2.1 (c37.2.2.2.1 (0, 2, 10) (List.mem_of_getElem? (i := 9) (by decide +kernel))).2 ?_
  refine m_alen (n := 10) dX7_init_52 (zge (c37.2.2.1 (10, 32, 10) (List.mem_of_getElem? (i := 10) (by decide +kernel))).2.1 (by decide)) (c37.2.2.1 (10, 32, 10) (List.mem_of_getElem? (i := 10) (by decide +kernel))).2.2 (by decide) (fun r23 e23_z => ?_)
  refine t_icge (t := 75) dX7_init_53 (by decide) (fun h53 => False.elim (by omega)) (fun h53 => ?_)
  refine r_aloadR0 dX7_init_56 ?_
  refine m_getR (q := (a + 10)) zf_RX7_25 rfl dX7_init_57 (c37.2.2.1 (0, 7, 0) (List.mem_of_getElem? (i := 0) (by decide +kernel))).2.1 (c37.2.2.2.1 (0, 2, 10) (List.mem_of_getElem? (i := 9) (by decide +kernel))).2 ?_
  refine r_iload1 dX7_init_60 ?_
  refine m_new (ctS_S c37) zn_RX7_18 dX7_init_61 (by first | exact Nat.le_of_ble_eq_true rfl | decide) (by first | exact Nat.le_of_ble_eq_true rfl | decide) (fun w38 f38 j38 n38 m38 p38 => ?_)
  refine zR_b (b2 := (38, 237)) rfl ?_
  refine r_dup dX7_init_64 rfl ?_
  refine r_callI (n := 0) (As := []) (b2 := (2, 17)) (Or.inr ⟨"NapkinDeeds", List.mem_of_getElem? (i := 3) rfl⟩) zin_yX3_init zini_RX3 zcode_yX3_init rfl ⟨by decide, by decide, by decide +kernel⟩ (by decide) dX7_init_65 (s_X3_init (a := a + 38) (w := w38) (f := f38) (j := j38) G (by rw [n38.1]) n38.2.1 n38.2.2.1 m38.2 (fun w39 f39 j39 s39 => ?_)) rfl rfl (by first | exact Nat.le_of_ble_eq_true rfl | decide) (by first | exact Nat.le_of_ble_eq_true rfl | decide) (by first | exact Nat.le_of_ble_eq_true rfl | decide) (by first | exact Nat.le_of_ble_eq_true rfl | decide) (by first | exact Nat.le_of_ble_eq_true rfl | decide) (fun r w9 h9 => h9)
  have c39 : ctS w39 f39 j39 w f j a 41 cL_X7_39 cP_X7_39 cV_X7_39 cZ_X7_39 := ctS_sub (c := 38) (c2_z := 3) (L := cL_X7_36) (PL := cP_X7_37) (VL := cV_X7_36) (ZL := cZ_X7_36) (L2 := cL_X3) (PL2 := cP_X3) (VL2 := cV_X3) (ZL2 := cZ_X3) c37 n38 m38 p38 s39
  refine zR_b (b2 := (40, 254)) rfl ?_
  refine m_aast (ci := 2) (k := 9) dX7_init_68 (by decide) (c39.2.2.1 (10, 32, 10) (List.mem_of_getElem? (i := 10) (by decide +kernel))).2.1 (c39.2.2.1 (10, 32, 10) (List.mem_of_getElem? (i := 10) (by decide +kernel))).2.2 (by omega) (by decide) (c39.2.2.1 (38, 3, 0) (List.mem_of_getElem? (i := 38) (by decide +kernel))).2.1 ?_
  obtain ⟨w40, hw40⟩ : ∃ u9, u9 = zsP w39 (zu (zP w39) (a + 10) 9 (some (a + 38))) := ⟨_, rfl⟩
  rw [← hw40]
  have c40 : ctS w40 f39 j39 w f j a 41 cL_X7_39 cP_X7_40 cV_X7_39 cZ_X7_39 := by rw [hw40]; exact ctS_putP (k := 9) (o := 10) (t := 38) c39 (by decide) (by decide +kernel)
  refine n_iinc1 dX7_init_69 (by decide) rfl (by omega) (fun r24 e24_z => ?_)
  refine r_goto (t := 47) dX7_init_72 (by decide) ?_
  refine r_iload1 dX7_init_47 ?_
  refine r_aloadR0 dX7_init_48 ?_
  refine m_getR (q := (a + 10)) zf_RX7_25 rfl dX7_init_49 (c40.2.2.1 (0, 7, 0) (List.mem_of_getElem? (i := 0) (by decide +kernel))).2.1 (c40.2.2.2.1 (0, 2, 10) (List.mem_of_getElem? (i := 9) (by decide +kernel))).2 ?_
  refine m_alen (n := 10) dX7_init_52 (zge (c40.2.2.1 (10, 32, 10) (List.mem_of_getElem? (i := 10) (by decide +kernel))).2.1 (by decide)) (c40.2.2.1 (10, 32, 10) (List.mem_of_getElem? (i := 10) (by decide +kernel))).2.2 (by decide) (fun r25 e25_z => ?_)
  refine t_icge (t := 75) dX7_init_53 (by decide) (fun h53 => ?_) (fun h53 => False.elim (by omega))
  refine r_vret dX7_init_75 rfl (by first | exact Nat.le_of_ble_eq_true rfl | decide) (by first | exact Nat.le_of_ble_eq_true rfl | decide) ?_
  exact hQ _ _ _ (ctS_cv c40 (by decide +kernel) (by decide +kernel) (by decide +kernel) (by decide +kernel))
def cL_X9 : zL3 := [(0, 9, 0), (1, 21, 1024), (2, 21, 1024), (3, 21, 1024), (4, 21, 1024), (5, 21, 1024), (6, 21, 1024), (7, 21, 1024), (8, 21, 1024), (9, 21, 2048), (10, 2, 0), (11, 21, 6), (12, 23, 6), (13, 21, 6), (14, 2, 0), (15, 21, 6), (16, 23, 6), (17, 21, 6)]
def cP_X9 : zL3 := [(0, 0, 1), (0, 1, 2), (0, 2, 3), (0, 3, 4), (0, 4, 5), (0, 5, 6), (0, 6, 7), (0, 7, 8), (0, 8, 9), (10, 0, 11), (10, 1, 12), (10, 2, 13), (0, 9, 10), (14, 0, 15), (14, 1, 16), (14, 2, 17), (0, 10, 14)]
def cV_X9 : zLV := [(0, 0, 0), (0, 1, 0), (0, 2, 0), (0, 3, 0), (0, 4, 0), (0, 5, 0), (0, 6, 0), (0, 7, 0), (0, 8, 0), (0, 9, 0), (0, 10, 0), (0, 11, 0), (0, 12, 0), (10, 0, 0), (10, 1, 0), (10, 2, 0), (10, 3, 0), (10, 4, 0), (14, 0, 0), (14, 1, 0), (14, 2, 0), (14, 3, 0), (14, 4, 0)]
def cZ_X9 : List Nat := [1, 2, 3, 4, 5, 6, 7, 8, 9, 11, 12, 13, 15, 16, 17]
def cL_X9_0 : zL3 := [(0, 9, 0)]
def cP_X9_0 : zL3 := []
def cV_X9_0 : zLV := (List.range 13).map (fun k => (0, k, 0))
def cZ_X9_0 : List Nat := []
def cL_X9_1 : zL3 := cL_X9_0 ++ [(1, 21, 1024)]
def cZ_X9_1 : List Nat := cZ_X9_0 ++ [1]
def cP_X9_2 : zL3 := cP_X9_0 ++ [(0, 0, 1)]
def cL_X9_3 : zL3 := cL_X9_1 ++ [(2, 21, 1024)]
def cZ_X9_3 : List Nat := cZ_X9_1 ++ [2]
def cP_X9_4 : zL3 := cP_X9_2 ++ [(0, 1, 2)]
def cL_X9_5 : zL3 := cL_X9_3 ++ [(3, 21, 1024)]
def cZ_X9_5 : List Nat := cZ_X9_3 ++ [3]
def cP_X9_6 : zL3 := cP_X9_4 ++ [(0, 2, 3)]
def cL_X9_7 : zL3 := cL_X9_5 ++ [(4, 21, 1024)]
def cZ_X9_7 : List Nat := cZ_X9_5 ++ [4]
def cP_X9_8 : zL3 := cP_X9_6 ++ [(0, 3, 4)]
def cL_X9_9 : zL3 := cL_X9_7 ++ [(5, 21, 1024)]
def cZ_X9_9 : List Nat := cZ_X9_7 ++ [5]
def cP_X9_10 : zL3 := cP_X9_8 ++ [(0, 4, 5)]
def cL_X9_11 : zL3 := cL_X9_9 ++ [(6, 21, 1024)]
def cZ_X9_11 : List Nat := cZ_X9_9 ++ [6]
def cP_X9_12 : zL3 := cP_X9_10 ++ [(0, 5, 6)]
def cL_X9_13 : zL3 := cL_X9_11 ++ [(7, 21, 1024)]
def cZ_X9_13 : List Nat := cZ_X9_11 ++ [7]
def cP_X9_14 : zL3 := cP_X9_12 ++ [(0, 6, 7)]
def cL_X9_15 : zL3 := cL_X9_13 ++ [(8, 21, 1024)]
def cZ_X9_15 : List Nat := cZ_X9_13 ++ [8]
def cP_X9_16 : zL3 := cP_X9_14 ++ [(0, 7, 8)]
def cL_X9_17 : zL3 := cL_X9_15 ++ [(9, 21, 2048)]
def cZ_X9_17 : List Nat := cZ_X9_15 ++ [9]
def cP_X9_18 : zL3 := cP_X9_16 ++ [(0, 8, 9)]
def cL_X9_20 : zL3 := cL_X9_17 ++ cL_X2.map (fun e => (10 + e.1, e.2))
def cP_X9_20 : zL3 := cP_X9_18 ++ cP_X2.map (fun e => (10 + e.1, e.2.1, 10 + e.2.2))
def cV_X9_20 : zLV := cV_X9_0 ++ cV_X2.map (fun e => (10 + e.1, e.2))
def cZ_X9_20 : List Nat := cZ_X9_17 ++ cZ_X2.map (fun z => 10 + z)
def cP_X9_21 : zL3 := cP_X9_20 ++ [(0, 9, 10)]
def cL_X9_23 : zL3 := cL_X9_20 ++ cL_X2.map (fun e => (14 + e.1, e.2))
def cP_X9_23 : zL3 := cP_X9_21 ++ cP_X2.map (fun e => (14 + e.1, e.2.1, 14 + e.2.2))
def cV_X9_23 : zLV := cV_X9_20 ++ cV_X2.map (fun e => (14 + e.1, e.2))
def cZ_X9_23 : List Nat := cZ_X9_20 ++ cZ_X2.map (fun z => 14 + z)
def cP_X9_24 : zL3 := cP_X9_23 ++ [(0, 10, 14)]
def cV_X9_25 : zLV := cV_X9_23.map (fun e => if e.1 = 0 ∧ e.2.1 = 11 then (0, 11, 0) else e)
def cV_X9_26 : zLV := cV_X9_25.map (fun e => if e.1 = 0 ∧ e.2.1 = 12 then (0, 12, 0) else e)
set_option maxHeartbeats 8000000 in
set_option maxRecDepth 100000 in
theorem s_X9_init {g : zGT} {w : zW} {f : Nat → Nat → Int32} {j : Nat → Nat → Int64} {a : Nat} {Q : Option Value → zW → Prop} {QX : String → zW → Prop} (G : zGok g) (hS_z : zS w = a + 1) (hk : zK w a = 9) (hn : zN w a = 0) (hf : ∀ i, f a i = 0) (hQ : ∀ w2 f2_z j2, ctS w2 f2_z j2 w f j a 18 cL_X9 cP_X9 cV_X9 cZ_X9 → Q none (zM w2 f2_z j2)) : zC g 2 yX9_init cX9_init 1 none [.ref a] (zM w f j) (17, 10286) Q QX := by
  refine zC_of G (by decide +kernel) (Nat.le_of_ble_eq_true rfl) ?_
  have c0_z : ctS w f j w f j a 1 cL_X9_0 cP_X9_0 cV_X9_0 cZ_X9_0 := ctS_0 (m := 13) (j := j) hS_z hk hn hf
  refine r_aloadR0 dX9_init_0 ?_
  refine r_obj zo_RX9 zo_in zo_cd dX9_init_1 (by first | exact Nat.le_of_ble_eq_true rfl | decide) (by first | exact Nat.le_of_ble_eq_true rfl | decide) ?_
  refine r_aloadR0 dX9_init_4 ?_
  refine n_sipush dX9_init_5 (by decide) (fun r1 e1_z => ?_)
  refine m_newI (N := 1024) (ctS_S c0_z) dX9_init_8 (by omega) (by decide) (by first | exact Nat.le_of_ble_eq_true rfl | decide) (by first | exact Nat.le_of_ble_eq_true rfl | decide) (fun w1 f1_z j1 n1 m1_z p1 => ?_)
  have c1_z : ctS w1 f1_z j1 w f j a 2 cL_X9_1 cP_X9_0 cV_X9_0 cZ_X9_1 := ctS_new c0_z n1 m1_z p1
  refine zR_b (b2 := (1, 1024)) rfl ?_
  refine m_putPF (q := (a + 1)) zf_RX9_11 (by intro C T N h_z; cases h_z; exact ⟨rfl, rfl⟩) rfl rfl dX9_init_10 (c1_z.2.2.1 (0, 9, 0) (List.mem_of_getElem? (i := 0) (by decide +kernel))).2.1 ?_
  obtain ⟨w2, hw2⟩ : ∃ u9, u9 = zsP w1 (zu (zP w1) a 0 (some (a + 1))) := ⟨_, rfl⟩
  rw [← hw2]
  have c2_z : ctS w2 f1_z j1 w f j a 2 cL_X9_1 cP_X9_2 cV_X9_0 cZ_X9_1 := by rw [hw2]; exact ctS_putP (k := 0) (o := 0) (t := 1) c1_z (by decide) (by decide +kernel)
  refine r_aloadR0 dX9_init_13 ?_
  refine n_sipush dX9_init_14 (by decide) (fun r2 e2_z => ?_)
  refine m_newI (N := 1024) (ctS_S c2_z) dX9_init_17 (by omega) (by decide) (by first | exact Nat.le_of_ble_eq_true rfl | decide) (by first | exact Nat.le_of_ble_eq_true rfl | decide) (fun w3 f3_z j3 n3 m3_z p3 => ?_)
  have c3_z : ctS w3 f3_z j3 w f j a 3 cL_X9_3 cP_X9_2 cV_X9_0 cZ_X9_3 := ctS_new c2_z n3 m3_z p3
  refine zR_b (b2 := (2, 2048)) rfl ?_
  refine m_putPF (q := (a + 2)) zf_RX9_15 (by intro C T N h_z; cases h_z; exact ⟨rfl, rfl⟩) rfl rfl dX9_init_19 (c3_z.2.2.1 (0, 9, 0) (List.mem_of_getElem? (i := 0) (by decide +kernel))).2.1 ?_
  obtain ⟨w4, hw4⟩ : ∃ u9, u9 = zsP w3 (zu (zP w3) a 1 (some (a + 2))) := ⟨_, rfl⟩
  rw [← hw4]
  have c4_z : ctS w4 f3_z j3 w f j a 3 cL_X9_3 cP_X9_4 cV_X9_0 cZ_X9_3 := by rw [hw4]; exact ctS_putP (k := 1) (o := 0) (t := 2) c3_z (by decide) (by decide +kernel)
  refine r_aloadR0 dX9_init_22 ?_
  refine n_sipush dX9_init_23 (by decide) (fun r3 e3_z => ?_)
  refine m_newI (N := 1024) (ctS_S c4_z) dX9_init_26 (by omega) (by decide) (by first | exact Nat.le_of_ble_eq_true rfl | decide) (by first | exact Nat.le_of_ble_eq_true rfl | decide) (fun w5 f5_z j5 n5 m5_z p5 => ?_)
  have c5_z : ctS w5 f5_z j5 w f j a 4 cL_X9_5 cP_X9_4 cV_X9_0 cZ_X9_5 := ctS_new c4_z n5 m5_z p5
  refine zR_b (b2 := (3, 3072)) rfl ?_
  refine m_putPF (q := (a + 3)) zf_RX9_18 (by intro C T N h_z; cases h_z; exact ⟨rfl, rfl⟩) rfl rfl dX9_init_28 (c5_z.2.2.1 (0, 9, 0) (List.mem_of_getElem? (i := 0) (by decide +kernel))).2.1 ?_
  obtain ⟨w6, hw6⟩ : ∃ u9, u9 = zsP w5 (zu (zP w5) a 2 (some (a + 3))) := ⟨_, rfl⟩
  rw [← hw6]
  have c6_z : ctS w6 f5_z j5 w f j a 4 cL_X9_5 cP_X9_6 cV_X9_0 cZ_X9_5 := by rw [hw6]; exact ctS_putP (k := 2) (o := 0) (t := 3) c5_z (by decide) (by decide +kernel)
  refine r_aloadR0 dX9_init_31 ?_
  refine n_sipush dX9_init_32 (by decide) (fun r4 e4_z => ?_)
  refine m_newI (N := 1024) (ctS_S c6_z) dX9_init_35 (by omega) (by decide) (by first | exact Nat.le_of_ble_eq_true rfl | decide) (by first | exact Nat.le_of_ble_eq_true rfl | decide) (fun w7 f7_z j7 n7 m7_z p7 => ?_)
  have c7_z : ctS w7 f7_z j7 w f j a 5 cL_X9_7 cP_X9_6 cV_X9_0 cZ_X9_7 := ctS_new c6_z n7 m7_z p7
  refine zR_b (b2 := (4, 4096)) rfl ?_
  refine m_putPF (q := (a + 4)) zf_RX9_21 (by intro C T N h_z; cases h_z; exact ⟨rfl, rfl⟩) rfl rfl dX9_init_37 (c7_z.2.2.1 (0, 9, 0) (List.mem_of_getElem? (i := 0) (by decide +kernel))).2.1 ?_
  obtain ⟨w8, hw8⟩ : ∃ u9, u9 = zsP w7 (zu (zP w7) a 3 (some (a + 4))) := ⟨_, rfl⟩
  rw [← hw8]
  have c8_z : ctS w8 f7_z j7 w f j a 5 cL_X9_7 cP_X9_8 cV_X9_0 cZ_X9_7 := by rw [hw8]; exact ctS_putP (k := 3) (o := 0) (t := 4) c7_z (by decide) (by decide +kernel)
  refine r_aloadR0 dX9_init_40 ?_
  refine n_sipush dX9_init_41 (by decide) (fun r5 e5_z => ?_)
  refine m_newI (N := 1024) (ctS_S c8_z) dX9_init_44 (by omega) (by decide) (by first | exact Nat.le_of_ble_eq_true rfl | decide) (by first | exact Nat.le_of_ble_eq_true rfl | decide) (fun w9 f9_z j9 n9 m9_z p9 => ?_)
  have c9_z : ctS w9 f9_z j9 w f j a 6 cL_X9_9 cP_X9_8 cV_X9_0 cZ_X9_9 := ctS_new c8_z n9 m9_z p9
  refine zR_b (b2 := (5, 5120)) rfl ?_
  refine m_putPF (q := (a + 5)) zf_RX9_24 (by intro C T N h_z; cases h_z; exact ⟨rfl, rfl⟩) rfl rfl dX9_init_46 (c9_z.2.2.1 (0, 9, 0) (List.mem_of_getElem? (i := 0) (by decide +kernel))).2.1 ?_
  obtain ⟨w10, hw10⟩ : ∃ u9, u9 = zsP w9 (zu (zP w9) a 4 (some (a + 5))) := ⟨_, rfl⟩
  rw [← hw10]
  have c10 : ctS w10 f9_z j9 w f j a 6 cL_X9_9 cP_X9_10 cV_X9_0 cZ_X9_9 := by rw [hw10]; exact ctS_putP (k := 4) (o := 0) (t := 5) c9_z (by decide) (by decide +kernel)
  refine r_aloadR0 dX9_init_49 ?_
  refine n_sipush dX9_init_50 (by decide) (fun r6 e6_z => ?_)
  refine m_newI (N := 1024) (ctS_S c10) dX9_init_53 (by omega) (by decide) (by first | exact Nat.le_of_ble_eq_true rfl | decide) (by first | exact Nat.le_of_ble_eq_true rfl | decide) (fun w11 f11 j11 n11 m11 p11 => ?_)
  have c11 : ctS w11 f11 j11 w f j a 7 cL_X9_11 cP_X9_10 cV_X9_0 cZ_X9_11 := ctS_new c10 n11 m11 p11
  refine zR_b (b2 := (6, 6144)) rfl ?_
  refine m_putPF (q := (a + 6)) zf_RX9_27 (by intro C T N h_z; cases h_z; exact ⟨rfl, rfl⟩) rfl rfl dX9_init_55 (c11.2.2.1 (0, 9, 0) (List.mem_of_getElem? (i := 0) (by decide +kernel))).2.1 ?_
  obtain ⟨w12, hw12⟩ : ∃ u9, u9 = zsP w11 (zu (zP w11) a 5 (some (a + 6))) := ⟨_, rfl⟩
  rw [← hw12]
  have c12 : ctS w12 f11 j11 w f j a 7 cL_X9_11 cP_X9_12 cV_X9_0 cZ_X9_11 := by rw [hw12]; exact ctS_putP (k := 5) (o := 0) (t := 6) c11 (by decide) (by decide +kernel)
  refine r_aloadR0 dX9_init_58 ?_
  refine n_sipush dX9_init_59 (by decide) (fun r7 e7_z => ?_)
  refine m_newI (N := 1024) (ctS_S c12) dX9_init_62 (by omega) (by decide) (by first | exact Nat.le_of_ble_eq_true rfl | decide) (by first | exact Nat.le_of_ble_eq_true rfl | decide) (fun w13 f13 j13 n13 m13 p13 => ?_)
  have c13 : ctS w13 f13 j13 w f j a 8 cL_X9_13 cP_X9_12 cV_X9_0 cZ_X9_13 := ctS_new c12 n13 m13 p13
  refine zR_b (b2 := (7, 7168)) rfl ?_
  refine m_putPF (q := (a + 7)) zf_RX9_30 (by intro C T N h_z; cases h_z; exact ⟨rfl, rfl⟩) rfl rfl dX9_init_64 (c13.2.2.1 (0, 9, 0) (List.mem_of_getElem? (i := 0) (by decide +kernel))).2.1 ?_
  obtain ⟨w14, hw14⟩ : ∃ u9, u9 = zsP w13 (zu (zP w13) a 6 (some (a + 7))) := ⟨_, rfl⟩
  rw [← hw14]
  have c14 : ctS w14 f13 j13 w f j a 8 cL_X9_13 cP_X9_14 cV_X9_0 cZ_X9_13 := by rw [hw14]; exact ctS_putP (k := 6) (o := 0) (t := 7) c13 (by decide) (by decide +kernel)
  refine r_aloadR0 dX9_init_67 ?_
  refine n_sipush dX9_init_68 (by decide) (fun r8 e8 => ?_)
  refine m_newI (N := 1024) (ctS_S c14) dX9_init_71 (by omega) (by decide) (by first | exact Nat.le_of_ble_eq_true rfl | decide) (by first | exact Nat.le_of_ble_eq_true rfl | decide) (fun w15 f15 j15 n15 m15 p15 => ?_)
  have c15 : ctS w15 f15 j15 w f j a 9 cL_X9_15 cP_X9_14 cV_X9_0 cZ_X9_15 := ctS_new c14 n15 m15 p15
  refine zR_b (b2 := (8, 8192)) rfl ?_
  refine m_putPF (q := (a + 8)) zf_RX9_33 (by intro C T N h_z; cases h_z; exact ⟨rfl, rfl⟩) rfl rfl dX9_init_73 (c15.2.2.1 (0, 9, 0) (List.mem_of_getElem? (i := 0) (by decide +kernel))).2.1 ?_
  obtain ⟨w16, hw16⟩ : ∃ u9, u9 = zsP w15 (zu (zP w15) a 7 (some (a + 8))) := ⟨_, rfl⟩
  rw [← hw16]
  have c16 : ctS w16 f15 j15 w f j a 9 cL_X9_15 cP_X9_16 cV_X9_0 cZ_X9_15 := by rw [hw16]; exact ctS_putP (k := 7) (o := 0) (t := 8) c15 (by decide) (by decide +kernel)
  refine r_aloadR0 dX9_init_76 ?_
  refine n_sipush dX9_init_77 (by decide) (fun r9 e9_z => ?_)
  refine m_newI (N := 2048) (ctS_S c16) dX9_init_80 (by omega) (by decide) (by first | exact Nat.le_of_ble_eq_true rfl | decide) (by first | exact Nat.le_of_ble_eq_true rfl | decide) (fun w17 f17 j17 n17 m17 p17 => ?_)
  have c17 : ctS w17 f17 j17 w f j a 10 cL_X9_17 cP_X9_16 cV_X9_0 cZ_X9_17 := ctS_new c16 n17 m17 p17
  refine zR_b (b2 := (9, 10240)) rfl ?_
  refine m_putPF (q := (a + 9)) zf_RX9_36 (by intro C T N h_z; cases h_z; exact ⟨rfl, rfl⟩) rfl rfl dX9_init_82 (c17.2.2.1 (0, 9, 0) (List.mem_of_getElem? (i := 0) (by decide +kernel))).2.1 ?_
  obtain ⟨w18, hw18⟩ : ∃ u9, u9 = zsP w17 (zu (zP w17) a 8 (some (a + 9))) := ⟨_, rfl⟩
  rw [← hw18]
  have c18 : ctS w18 f17 j17 w f j a 10 cL_X9_17 cP_X9_18 cV_X9_0 cZ_X9_17 := by rw [hw18]; exact ctS_putP (k := 8) (o := 0) (t := 9) c17 (by decide) (by decide +kernel)
  refine r_aloadR0 dX9_init_85 ?_
  refine m_new (ctS_S c18) zn_RX9_39 dX9_init_86 (by first | exact Nat.le_of_ble_eq_true rfl | decide) (by first | exact Nat.le_of_ble_eq_true rfl | decide) (fun w19 f19 j19 n19 m19 p19 => ?_)
  refine zR_b (b2 := (10, 10245)) rfl ?_
  refine r_dup dX9_init_89 rfl ?_
  refine r_callI (n := 0) (As := []) (b2 := (3, 18)) (Or.inr ⟨"NapkinDeeds", List.mem_of_getElem? (i := 6) rfl⟩) zin_yX2_init zini_RX2 zcode_yX2_init rfl ⟨by decide, by decide, by decide +kernel⟩ (by decide) dX9_init_90 (s_X2_init (a := a + 10) (w := w19) (f := f19) (j := j19) G (by rw [n19.1]) n19.2.1 n19.2.2.1 m19.2 (fun w20 f20 j20 s20 => ?_)) rfl rfl (by first | exact Nat.le_of_ble_eq_true rfl | decide) (by first | exact Nat.le_of_ble_eq_true rfl | decide) (by first | exact Nat.le_of_ble_eq_true rfl | decide) (by first | exact Nat.le_of_ble_eq_true rfl | decide) (by first | exact Nat.le_of_ble_eq_true rfl | decide) (fun r w9 h9 => h9)
  have c20 : ctS w20 f20 j20 w f j a 14 cL_X9_20 cP_X9_20 cV_X9_20 cZ_X9_20 := ctS_sub (c := 10) (c2_z := 4) (L := cL_X9_17) (PL := cP_X9_18) (VL := cV_X9_0) (ZL := cZ_X9_17) (L2 := cL_X2) (PL2 := cP_X2) (VL2 := cV_X2) (ZL2 := cZ_X2) c18 n19 m19 p19 s20
  refine zR_b (b2 := (13, 10263)) rfl ?_
  refine m_putPF (q := (a + 10)) zf_RX9_42 (by intro C T N h_z; cases h_z; exact ⟨rfl, rfl⟩) rfl rfl dX9_init_93 (c20.2.2.1 (0, 9, 0) (List.mem_of_getElem? (i := 0) (by decide +kernel))).2.1 ?_
  obtain ⟨w21, hw21⟩ : ∃ u9, u9 = zsP w20 (zu (zP w20) a 9 (some (a + 10))) := ⟨_, rfl⟩
  rw [← hw21]
  have c21 : ctS w21 f20 j20 w f j a 14 cL_X9_20 cP_X9_21 cV_X9_20 cZ_X9_20 := by rw [hw21]; exact ctS_putP (k := 9) (o := 0) (t := 10) c20 (by decide) (by decide +kernel)
  refine r_aloadR0 dX9_init_96 ?_
  refine m_new (ctS_S c21) zn_RX9_39 dX9_init_97 (by first | exact Nat.le_of_ble_eq_true rfl | decide) (by first | exact Nat.le_of_ble_eq_true rfl | decide) (fun w22 f22 j22 n22 m22 p22 => ?_)
  refine zR_b (b2 := (14, 10268)) rfl ?_
  refine r_dup dX9_init_100 rfl ?_
  refine r_callI (n := 0) (As := []) (b2 := (3, 18)) (Or.inr ⟨"NapkinDeeds", List.mem_of_getElem? (i := 6) rfl⟩) zin_yX2_init zini_RX2 zcode_yX2_init rfl ⟨by decide, by decide, by decide +kernel⟩ (by decide) dX9_init_101 (s_X2_init (a := a + 14) (w := w22) (f := f22) (j := j22) G (by rw [n22.1]) n22.2.1 n22.2.2.1 m22.2 (fun w23 f23 j23 s23 => ?_)) rfl rfl (by first | exact Nat.le_of_ble_eq_true rfl | decide) (by first | exact Nat.le_of_ble_eq_true rfl | decide) (by first | exact Nat.le_of_ble_eq_true rfl | decide) (by first | exact Nat.le_of_ble_eq_true rfl | decide) (by first | exact Nat.le_of_ble_eq_true rfl | decide) (fun r w9 h9 => h9)
  have c23 : ctS w23 f23 j23 w f j a 18 cL_X9_23 cP_X9_23 cV_X9_23 cZ_X9_23 := ctS_sub (c := 14) (c2_z := 4) (L := cL_X9_20) (PL := cP_X9_21) (VL := cV_X9_20) (ZL := cZ_X9_20) (L2 := cL_X2) (PL2 := cP_X2) (VL2 := cV_X2) (ZL2 := cZ_X2) c21 n22 m22 p22 s23
  refine zR_b (b2 := (17, 10286)) rfl ?_
  refine m_putPF (q := (a + 14)) zf_RX9_46 (by intro C T N h_z; cases h_z; exact ⟨rfl, rfl⟩) rfl rfl dX9_init_104 (c23.2.2.1 (0, 9, 0) (List.mem_of_getElem? (i := 0) (by decide +kernel))).2.1 ?_
  obtain ⟨w24, hw24⟩ : ∃ u9, u9 = zsP w23 (zu (zP w23) a 10 (some (a + 14))) := ⟨_, rfl⟩
  rw [← hw24]
  have c24 : ctS w24 f23 j23 w f j a 18 cL_X9_23 cP_X9_24 cV_X9_23 cZ_X9_23 := by rw [hw24]; exact ctS_putP (k := 10) (o := 0) (t := 14) c23 (by decide) (by decide +kernel)
  refine r_aloadR0 dX9_init_107 ?_
  refine n_iconst dX9_init_108 (by decide) (fun r10 e10_z => ?_)
  refine m_putI zf_RX9_49 (by intro C T N h_z; cases h_z; rfl) rfl dX9_init_109 (c24.2.2.1 (0, 9, 0) (List.mem_of_getElem? (i := 0) (by decide +kernel))).2.1 ?_
  obtain ⟨f25, hf25⟩ : ∃ u9, u9 = zu f23 a 11 r10 := ⟨_, rfl⟩
  rw [← hf25]
  have c25 : ctS w24 f25 j23 w f j a 18 cL_X9_23 cP_X9_24 cV_X9_25 cZ_X9_23 := by rw [hf25]; exact ctS_putI (k := 11) (o := 0) (x := r10) (v := 0) c24 (by decide) (zi_eq.mpr (e10_z.trans (by decide))) (by decide +kernel)
  refine r_aloadR0 dX9_init_112 ?_
  refine n_iconst dX9_init_113 (by decide) (fun r11 e11_z => ?_)
  refine m_putI zf_RX9_53 (by intro C T N h_z; cases h_z; rfl) rfl dX9_init_114 (c25.2.2.1 (0, 9, 0) (List.mem_of_getElem? (i := 0) (by decide +kernel))).2.1 ?_
  obtain ⟨f26, hf26⟩ : ∃ u9, u9 = zu f25 a 12 r11 := ⟨_, rfl⟩
  rw [← hf26]
  have c26 : ctS w24 f26 j23 w f j a 18 cL_X9_23 cP_X9_24 cV_X9_26 cZ_X9_23 := by rw [hf26]; exact ctS_putI (k := 12) (o := 0) (x := r11) (v := 0) c25 (by decide) (zi_eq.mpr (e11_z.trans (by decide))) (by decide +kernel)
  refine r_vret dX9_init_117 rfl (by first | exact Nat.le_of_ble_eq_true rfl | decide) (by first | exact Nat.le_of_ble_eq_true rfl | decide) ?_
  exact hQ _ _ _ (ctS_cv c26 (by decide +kernel) (by decide +kernel) (by decide +kernel) (by decide +kernel))
def cL_X12 : zL3 := [(0, 11, 0), (1, 21, 2912), (2, 21, 2912), (3, 21, 8736), (4, 23, 3), (5, 21, 900), (6, 21, 473), (7, 21, 6), (8, 21, 64), (9, 21, 8), (10, 21, 18), (11, 21, 5), (12, 21, 5), (13, 21, 4), (14, 25, 65536), (15, 21, 65536), (16, 21, 6), (17, 21, 600), (18, 21, 4), (19, 21, 4), (20, 25, 120)]
def cP_X12 : zL3 := [(0, 0, 1), (0, 1, 2), (0, 2, 3), (0, 3, 4), (0, 5, 5), (0, 19, 6), (0, 20, 7), (0, 21, 8), (0, 22, 9), (0, 23, 10), (0, 25, 11), (0, 26, 12), (0, 27, 13), (0, 35, 14), (0, 36, 15), (0, 38, 16), (0, 39, 17), (0, 40, 18), (0, 41, 19), (0, 42, 20)]
def cV_X12 : zLV := [(0, 0, 0), (0, 1, 0), (0, 2, 0), (0, 3, 0), (0, 4, 0), (0, 5, 0), (0, 6, 0), (0, 7, 0), (0, 8, 0), (0, 9, 0), (0, 10, 0), (0, 11, 0), (0, 12, 0), (0, 13, 0), (0, 14, 0), (0, 15, -1), (0, 16, 0), (0, 17, 0), (0, 18, 0), (0, 19, 0), (0, 20, 0), (0, 21, 0), (0, 22, 0), (0, 23, 0), (0, 24, 0), (0, 25, 0), (0, 26, 0), (0, 27, 0), (0, 28, 0), (0, 29, 0), (0, 30, 0), (0, 31, 0), (0, 32, 0), (0, 33, 0), (0, 34, 0), (0, 35, 0), (0, 36, 0), (0, 37, 0), (0, 38, 0), (0, 39, 0), (0, 40, 0), (0, 41, 0), (0, 42, 0), (18, 0, -1), (18, 1, -1), (18, 2, -1), (18, 3, -1)]
def cZ_X12 : List Nat := [1, 2, 3, 4, 5, 6, 7, 8, 9, 10, 11, 12, 13, 14, 15, 16, 17, 19, 20]
def cL_X12_0 : zL3 := [(0, 11, 0)]
def cP_X12_0 : zL3 := []
def cV_X12_0 : zLV := (List.range 43).map (fun k => (0, k, 0))
def cZ_X12_0 : List Nat := []
def cL_X12_1 : zL3 := cL_X12_0 ++ [(1, 21, 2912)]
def cZ_X12_1 : List Nat := cZ_X12_0 ++ [1]
def cP_X12_2 : zL3 := cP_X12_0 ++ [(0, 0, 1)]
def cL_X12_3 : zL3 := cL_X12_1 ++ [(2, 21, 2912)]
def cZ_X12_3 : List Nat := cZ_X12_1 ++ [2]
def cP_X12_4 : zL3 := cP_X12_2 ++ [(0, 1, 2)]
def cL_X12_5 : zL3 := cL_X12_3 ++ [(3, 21, 8736)]
def cZ_X12_5 : List Nat := cZ_X12_3 ++ [3]
def cP_X12_6 : zL3 := cP_X12_4 ++ [(0, 2, 3)]
def cL_X12_7 : zL3 := cL_X12_5 ++ [(4, 23, 3)]
def cZ_X12_7 : List Nat := cZ_X12_5 ++ [4]
def cP_X12_8 : zL3 := cP_X12_6 ++ [(0, 3, 4)]
def cL_X12_9 : zL3 := cL_X12_7 ++ [(5, 21, 900)]
def cZ_X12_9 : List Nat := cZ_X12_7 ++ [5]
def cP_X12_10 : zL3 := cP_X12_8 ++ [(0, 5, 5)]
def cV_X12_11 : zLV := cV_X12_0.map (fun e => if e.1 = 0 ∧ e.2.1 = 15 then (0, 15, -1) else e)
def cL_X12_12 : zL3 := cL_X12_9 ++ [(6, 21, 473)]
def cZ_X12_12 : List Nat := cZ_X12_9 ++ [6]
def cP_X12_13 : zL3 := cP_X12_10 ++ [(0, 19, 6)]
def cL_X12_14 : zL3 := cL_X12_12 ++ [(7, 21, 6)]
def cZ_X12_14 : List Nat := cZ_X12_12 ++ [7]
def cP_X12_15 : zL3 := cP_X12_13 ++ [(0, 20, 7)]
def cL_X12_16 : zL3 := cL_X12_14 ++ [(8, 21, 64)]
def cZ_X12_16 : List Nat := cZ_X12_14 ++ [8]
def cP_X12_17 : zL3 := cP_X12_15 ++ [(0, 21, 8)]
def cL_X12_18 : zL3 := cL_X12_16 ++ [(9, 21, 8)]
def cZ_X12_18 : List Nat := cZ_X12_16 ++ [9]
def cP_X12_19 : zL3 := cP_X12_17 ++ [(0, 22, 9)]
def cL_X12_20 : zL3 := cL_X12_18 ++ [(10, 21, 18)]
def cZ_X12_20 : List Nat := cZ_X12_18 ++ [10]
def cP_X12_21 : zL3 := cP_X12_19 ++ [(0, 23, 10)]
def cL_X12_22 : zL3 := cL_X12_20 ++ [(11, 21, 5)]
def cZ_X12_22 : List Nat := cZ_X12_20 ++ [11]
def cP_X12_23 : zL3 := cP_X12_21 ++ [(0, 25, 11)]
def cL_X12_24 : zL3 := cL_X12_22 ++ [(12, 21, 5)]
def cZ_X12_24 : List Nat := cZ_X12_22 ++ [12]
def cP_X12_25 : zL3 := cP_X12_23 ++ [(0, 26, 12)]
def cL_X12_26 : zL3 := cL_X12_24 ++ [(13, 21, 4)]
def cZ_X12_26 : List Nat := cZ_X12_24 ++ [13]
def cP_X12_27 : zL3 := cP_X12_25 ++ [(0, 27, 13)]
def cL_X12_28 : zL3 := cL_X12_26 ++ [(14, 25, 65536)]
def cZ_X12_28 : List Nat := cZ_X12_26 ++ [14]
def cP_X12_29 : zL3 := cP_X12_27 ++ [(0, 35, 14)]
def cL_X12_30 : zL3 := cL_X12_28 ++ [(15, 21, 65536)]
def cZ_X12_30 : List Nat := cZ_X12_28 ++ [15]
def cP_X12_31 : zL3 := cP_X12_29 ++ [(0, 36, 15)]
def cL_X12_32 : zL3 := cL_X12_30 ++ [(16, 21, 6)]
def cZ_X12_32 : List Nat := cZ_X12_30 ++ [16]
def cP_X12_33 : zL3 := cP_X12_31 ++ [(0, 38, 16)]
def cL_X12_34 : zL3 := cL_X12_32 ++ [(17, 21, 600)]
def cZ_X12_34 : List Nat := cZ_X12_32 ++ [17]
def cP_X12_35 : zL3 := cP_X12_33 ++ [(0, 39, 17)]
def cL_X12_36 : zL3 := cL_X12_34 ++ [(18, 21, 4)]
def cZ_X12_36 : List Nat := cZ_X12_34 ++ [18]
def cV_X12_o154 : zLV := cV_X12_11 ++ (List.range 4).map (fun k => (18, k, 0))
def cZ_X12_o154 : List Nat := cZ_X12_36.filter (fun z => !(z == 18))
def cV_X12_37 : zLV := cV_X12_o154.map (fun e => if e.1 = 18 ∧ e.2.1 = 0 then (18, 0, -1) else e)
def cV_X12_38 : zLV := cV_X12_37.map (fun e => if e.1 = 18 ∧ e.2.1 = 1 then (18, 1, -1) else e)
def cV_X12_39 : zLV := cV_X12_38.map (fun e => if e.1 = 18 ∧ e.2.1 = 2 then (18, 2, -1) else e)
def cV_X12_40 : zLV := cV_X12_39.map (fun e => if e.1 = 18 ∧ e.2.1 = 3 then (18, 3, -1) else e)
def cP_X12_41 : zL3 := cP_X12_35 ++ [(0, 40, 18)]
def cL_X12_42 : zL3 := cL_X12_36 ++ [(19, 21, 4)]
def cZ_X12_42 : List Nat := cZ_X12_o154 ++ [19]
def cP_X12_43 : zL3 := cP_X12_41 ++ [(0, 41, 19)]
def cL_X12_44 : zL3 := cL_X12_42 ++ [(20, 25, 120)]
def cZ_X12_44 : List Nat := cZ_X12_42 ++ [20]
def cP_X12_45 : zL3 := cP_X12_43 ++ [(0, 42, 20)]
set_option maxHeartbeats 8000000 in
set_option maxRecDepth 100000 in
theorem s_X12_init {g : zGT} {w : zW} {f : Nat → Nat → Int32} {j : Nat → Nat → Int64} {a : Nat} {Q : Option Value → zW → Prop} {QX : String → zW → Prop} (G : zGok g) (hS_z : zS w = a + 1) (hk : zK w a = 11) (hn : zN w a = 0) (hf : ∀ i, f a i = 0) (hQ : ∀ w2 f2_z j2, ctS w2 f2_z j2 w f j a 21 cL_X12 cP_X12 cV_X12 cZ_X12 → Q none (zM w2 f2_z j2)) : zC g 1 yX12_init cX12_init 1 none [.ref a] (zM w f j) (20, 147852) Q QX := by
  refine zC_of G (by decide +kernel) (Nat.le_of_ble_eq_true rfl) ?_
  have c0_z : ctS w f j w f j a 1 cL_X12_0 cP_X12_0 cV_X12_0 cZ_X12_0 := ctS_0 (m := 43) (j := j) hS_z hk hn hf
  refine r_aloadR0 dX12_init_0 ?_
  refine r_obj zo_RX12 zo_in zo_cd dX12_init_1 (by first | exact Nat.le_of_ble_eq_true rfl | decide) (by first | exact Nat.le_of_ble_eq_true rfl | decide) ?_
  refine r_aloadR0 dX12_init_4 ?_
  refine n_sipush dX12_init_5 (by decide) (fun r1 e1_z => ?_)
  refine m_newI (N := 2912) (ctS_S c0_z) dX12_init_8 (by omega) (by decide) (by first | exact Nat.le_of_ble_eq_true rfl | decide) (by first | exact Nat.le_of_ble_eq_true rfl | decide) (fun w1 f1_z j1 n1 m1_z p1 => ?_)
  have c1_z : ctS w1 f1_z j1 w f j a 2 cL_X12_1 cP_X12_0 cV_X12_0 cZ_X12_1 := ctS_new c0_z n1 m1_z p1
  refine zR_b (b2 := (1, 2912)) rfl ?_
  refine m_putPF (q := (a + 1)) zf_RX12_9 (by intro C T N h_z; cases h_z; exact ⟨rfl, rfl⟩) rfl rfl dX12_init_10 (c1_z.2.2.1 (0, 11, 0) (List.mem_of_getElem? (i := 0) (by decide +kernel))).2.1 ?_
  obtain ⟨w2, hw2⟩ : ∃ u9, u9 = zsP w1 (zu (zP w1) a 0 (some (a + 1))) := ⟨_, rfl⟩
  rw [← hw2]
  have c2_z : ctS w2 f1_z j1 w f j a 2 cL_X12_1 cP_X12_2 cV_X12_0 cZ_X12_1 := by rw [hw2]; exact ctS_putP (k := 0) (o := 0) (t := 1) c1_z (by decide) (by decide +kernel)
  refine r_aloadR0 dX12_init_13 ?_
  refine n_sipush dX12_init_14 (by decide) (fun r2 e2_z => ?_)
  refine m_newI (N := 2912) (ctS_S c2_z) dX12_init_17 (by omega) (by decide) (by first | exact Nat.le_of_ble_eq_true rfl | decide) (by first | exact Nat.le_of_ble_eq_true rfl | decide) (fun w3 f3_z j3 n3 m3_z p3 => ?_)
  have c3_z : ctS w3 f3_z j3 w f j a 3 cL_X12_3 cP_X12_2 cV_X12_0 cZ_X12_3 := ctS_new c2_z n3 m3_z p3
  refine zR_b (b2 := (2, 5824)) rfl ?_
  refine m_putPF (q := (a + 2)) zf_RX12_13 (by intro C T N h_z; cases h_z; exact ⟨rfl, rfl⟩) rfl rfl dX12_init_19 (c3_z.2.2.1 (0, 11, 0) (List.mem_of_getElem? (i := 0) (by decide +kernel))).2.1 ?_
  obtain ⟨w4, hw4⟩ : ∃ u9, u9 = zsP w3 (zu (zP w3) a 1 (some (a + 2))) := ⟨_, rfl⟩
  rw [← hw4]
  have c4_z : ctS w4 f3_z j3 w f j a 3 cL_X12_3 cP_X12_4 cV_X12_0 cZ_X12_3 := by rw [hw4]; exact ctS_putP (k := 1) (o := 0) (t := 2) c3_z (by decide) (by decide +kernel)
  refine r_aloadR0 dX12_init_22 ?_
  refine n_sipush dX12_init_23 (by decide) (fun r3 e3_z => ?_)
  refine m_newI (N := 8736) (ctS_S c4_z) dX12_init_26 (by omega) (by decide) (by first | exact Nat.le_of_ble_eq_true rfl | decide) (by first | exact Nat.le_of_ble_eq_true rfl | decide) (fun w5 f5_z j5 n5 m5_z p5 => ?_)
  have c5_z : ctS w5 f5_z j5 w f j a 4 cL_X12_5 cP_X12_4 cV_X12_0 cZ_X12_5 := ctS_new c4_z n5 m5_z p5
  refine zR_b (b2 := (3, 14560)) rfl ?_
  refine m_putPF (q := (a + 3)) zf_RX12_16 (by intro C T N h_z; cases h_z; exact ⟨rfl, rfl⟩) rfl rfl dX12_init_28 (c5_z.2.2.1 (0, 11, 0) (List.mem_of_getElem? (i := 0) (by decide +kernel))).2.1 ?_
  obtain ⟨w6, hw6⟩ : ∃ u9, u9 = zsP w5 (zu (zP w5) a 2 (some (a + 3))) := ⟨_, rfl⟩
  rw [← hw6]
  have c6_z : ctS w6 f5_z j5 w f j a 4 cL_X12_5 cP_X12_6 cV_X12_0 cZ_X12_5 := by rw [hw6]; exact ctS_putP (k := 2) (o := 0) (t := 3) c5_z (by decide) (by decide +kernel)
  refine r_aloadR0 dX12_init_31 ?_
  refine n_iconst dX12_init_32 (by decide) (fun r4 e4_z => ?_)
  refine m_newZ (N := 3) (ctS_S c6_z) dX12_init_33 (by omega) (by decide) (by first | exact Nat.le_of_ble_eq_true rfl | decide) (by first | exact Nat.le_of_ble_eq_true rfl | decide) (fun w7 f7_z j7 n7 m7_z p7 => ?_)
  have c7_z : ctS w7 f7_z j7 w f j a 5 cL_X12_7 cP_X12_6 cV_X12_0 cZ_X12_7 := ctS_new c6_z n7 m7_z p7
  refine zR_b (b2 := (4, 14563)) rfl ?_
  refine m_putPF (q := (a + 4)) zf_RX12_19 (by intro C T N h_z; cases h_z; exact ⟨rfl, rfl⟩) rfl rfl dX12_init_35 (c7_z.2.2.1 (0, 11, 0) (List.mem_of_getElem? (i := 0) (by decide +kernel))).2.1 ?_
  obtain ⟨w8, hw8⟩ : ∃ u9, u9 = zsP w7 (zu (zP w7) a 3 (some (a + 4))) := ⟨_, rfl⟩
  rw [← hw8]
  have c8_z : ctS w8 f7_z j7 w f j a 5 cL_X12_7 cP_X12_8 cV_X12_0 cZ_X12_7 := by rw [hw8]; exact ctS_putP (k := 3) (o := 0) (t := 4) c7_z (by decide) (by decide +kernel)
  refine r_aloadR0 dX12_init_38 ?_
  refine n_sipush dX12_init_39 (by decide) (fun r5 e5_z => ?_)
  refine m_newI (N := 900) (ctS_S c8_z) dX12_init_42 (by omega) (by decide) (by first | exact Nat.le_of_ble_eq_true rfl | decide) (by first | exact Nat.le_of_ble_eq_true rfl | decide) (fun w9 f9_z j9 n9 m9_z p9 => ?_)
  have c9_z : ctS w9 f9_z j9 w f j a 6 cL_X12_9 cP_X12_8 cV_X12_0 cZ_X12_9 := ctS_new c8_z n9 m9_z p9
  refine zR_b (b2 := (5, 15463)) rfl ?_
  refine m_putPF (q := (a + 5)) zf_RX12_23 (by intro C T N h_z; cases h_z; exact ⟨rfl, rfl⟩) rfl rfl dX12_init_44 (c9_z.2.2.1 (0, 11, 0) (List.mem_of_getElem? (i := 0) (by decide +kernel))).2.1 ?_
  obtain ⟨w10, hw10⟩ : ∃ u9, u9 = zsP w9 (zu (zP w9) a 5 (some (a + 5))) := ⟨_, rfl⟩
  rw [← hw10]
  have c10 : ctS w10 f9_z j9 w f j a 6 cL_X12_9 cP_X12_10 cV_X12_0 cZ_X12_9 := by rw [hw10]; exact ctS_putP (k := 5) (o := 0) (t := 5) c9_z (by decide) (by decide +kernel)
  refine r_aloadR0 dX12_init_47 ?_
  refine n_iconst dX12_init_48 (by decide) (fun r6 e6_z => ?_)
  refine m_putI zf_RX12_26 (by intro C T N h_z; cases h_z; rfl) rfl dX12_init_49 (c10.2.2.1 (0, 11, 0) (List.mem_of_getElem? (i := 0) (by decide +kernel))).2.1 ?_
  obtain ⟨f11, hf11⟩ : ∃ u9, u9 = zu f9_z a 15 r6 := ⟨_, rfl⟩
  rw [← hf11]
  have c11 : ctS w10 f11 j9 w f j a 6 cL_X12_9 cP_X12_10 cV_X12_11 cZ_X12_9 := by rw [hf11]; exact ctS_putI (k := 15) (o := 0) (x := r6) (v := -1) c10 (by decide) (zi_eq.mpr (e6_z.trans (by decide))) (by decide +kernel)
  refine r_aloadR0 dX12_init_52 ?_
  refine n_sipush dX12_init_53 (by decide) (fun r7 e7_z => ?_)
  refine m_newI (N := 473) (ctS_S c11) dX12_init_56 (by omega) (by decide) (by first | exact Nat.le_of_ble_eq_true rfl | decide) (by first | exact Nat.le_of_ble_eq_true rfl | decide) (fun w12 f12 j12 n12 m12 p12 => ?_)
  have c12 : ctS w12 f12 j12 w f j a 7 cL_X12_12 cP_X12_10 cV_X12_11 cZ_X12_12 := ctS_new c11 n12 m12 p12
  refine zR_b (b2 := (6, 15936)) rfl ?_
  refine m_putPF (q := (a + 6)) zf_RX12_30 (by intro C T N h_z; cases h_z; exact ⟨rfl, rfl⟩) rfl rfl dX12_init_58 (c12.2.2.1 (0, 11, 0) (List.mem_of_getElem? (i := 0) (by decide +kernel))).2.1 ?_
  obtain ⟨w13, hw13⟩ : ∃ u9, u9 = zsP w12 (zu (zP w12) a 19 (some (a + 6))) := ⟨_, rfl⟩
  rw [← hw13]
  have c13 : ctS w13 f12 j12 w f j a 7 cL_X12_12 cP_X12_13 cV_X12_11 cZ_X12_12 := by rw [hw13]; exact ctS_putP (k := 19) (o := 0) (t := 6) c12 (by decide) (by decide +kernel)
  refine r_aloadR0 dX12_init_61 ?_
  refine n_bipush dX12_init_62 (by decide) (fun r8 e8 => ?_)
  refine m_newI (N := 6) (ctS_S c13) dX12_init_64 (by omega) (by decide) (by first | exact Nat.le_of_ble_eq_true rfl | decide) (by first | exact Nat.le_of_ble_eq_true rfl | decide) (fun w14 f14 j14 n14 m14 p14 => ?_)
  have c14 : ctS w14 f14 j14 w f j a 8 cL_X12_14 cP_X12_13 cV_X12_11 cZ_X12_14 := ctS_new c13 n14 m14 p14
  refine zR_b (b2 := (7, 15942)) rfl ?_
  refine m_putPF (q := (a + 7)) zf_RX12_33 (by intro C T N h_z; cases h_z; exact ⟨rfl, rfl⟩) rfl rfl dX12_init_66 (c14.2.2.1 (0, 11, 0) (List.mem_of_getElem? (i := 0) (by decide +kernel))).2.1 ?_
  obtain ⟨w15, hw15⟩ : ∃ u9, u9 = zsP w14 (zu (zP w14) a 20 (some (a + 7))) := ⟨_, rfl⟩
  rw [← hw15]
  have c15 : ctS w15 f14 j14 w f j a 8 cL_X12_14 cP_X12_15 cV_X12_11 cZ_X12_14 := by rw [hw15]; exact ctS_putP (k := 20) (o := 0) (t := 7) c14 (by decide) (by decide +kernel)
  refine r_aloadR0 dX12_init_69 ?_
  refine n_bipush dX12_init_70 (by decide) (fun r9 e9_z => ?_)
  refine m_newI (N := 64) (ctS_S c15) dX12_init_72 (by omega) (by decide) (by first | exact Nat.le_of_ble_eq_true rfl | decide) (by first | exact Nat.le_of_ble_eq_true rfl | decide) (fun w16 f16 j16 n16 m16 p16 => ?_)
  have c16 : ctS w16 f16 j16 w f j a 9 cL_X12_16 cP_X12_15 cV_X12_11 cZ_X12_16 := ctS_new c15 n16 m16 p16
  refine zR_b (b2 := (8, 16006)) rfl ?_
  refine m_putPF (q := (a + 8)) zf_RX12_36 (by intro C T N h_z; cases h_z; exact ⟨rfl, rfl⟩) rfl rfl dX12_init_74 (c16.2.2.1 (0, 11, 0) (List.mem_of_getElem? (i := 0) (by decide +kernel))).2.1 ?_
  obtain ⟨w17, hw17⟩ : ∃ u9, u9 = zsP w16 (zu (zP w16) a 21 (some (a + 8))) := ⟨_, rfl⟩
  rw [← hw17]
  have c17 : ctS w17 f16 j16 w f j a 9 cL_X12_16 cP_X12_17 cV_X12_11 cZ_X12_16 := by rw [hw17]; exact ctS_putP (k := 21) (o := 0) (t := 8) c16 (by decide) (by decide +kernel)
  refine r_aloadR0 dX12_init_77 ?_
  refine n_bipush dX12_init_78 (by decide) (fun r10 e10_z => ?_)
  refine m_newI (N := 8) (ctS_S c17) dX12_init_80 (by omega) (by decide) (by first | exact Nat.le_of_ble_eq_true rfl | decide) (by first | exact Nat.le_of_ble_eq_true rfl | decide) (fun w18 f18 j18 n18 m18 p18 => ?_)
  have c18 : ctS w18 f18 j18 w f j a 10 cL_X12_18 cP_X12_17 cV_X12_11 cZ_X12_18 := ctS_new c17 n18 m18 p18
  refine zR_b (b2 := (9, 16014)) rfl ?_
  refine m_putPF (q := (a + 9)) zf_RX12_39 (by intro C T N h_z; cases h_z; exact ⟨rfl, rfl⟩) rfl rfl dX12_init_82 (c18.2.2.1 (0, 11, 0) (List.mem_of_getElem? (i := 0) (by decide +kernel))).2.1 ?_
  obtain ⟨w19, hw19⟩ : ∃ u9, u9 = zsP w18 (zu (zP w18) a 22 (some (a + 9))) := ⟨_, rfl⟩
  rw [← hw19]
  have c19 : ctS w19 f18 j18 w f j a 10 cL_X12_18 cP_X12_19 cV_X12_11 cZ_X12_18 := by rw [hw19]; exact ctS_putP (k := 22) (o := 0) (t := 9) c18 (by decide) (by decide +kernel)
  refine r_aloadR0 dX12_init_85 ?_
  refine n_bipush dX12_init_86 (by decide) (fun r11 e11_z => ?_)
  refine m_newI (N := 18) (ctS_S c19) dX12_init_88 (by omega) (by decide) (by first | exact Nat.le_of_ble_eq_true rfl | decide) (by first | exact Nat.le_of_ble_eq_true rfl | decide) (fun w20 f20 j20 n20 m20 p20 => ?_)
  have c20 : ctS w20 f20 j20 w f j a 11 cL_X12_20 cP_X12_19 cV_X12_11 cZ_X12_20 := ctS_new c19 n20 m20 p20
  refine zR_b (b2 := (10, 16032)) rfl ?_
  refine m_putPF (q := (a + 10)) zf_RX12_42 (by intro C T N h_z; cases h_z; exact ⟨rfl, rfl⟩) rfl rfl dX12_init_90 (c20.2.2.1 (0, 11, 0) (List.mem_of_getElem? (i := 0) (by decide +kernel))).2.1 ?_
  obtain ⟨w21, hw21⟩ : ∃ u9, u9 = zsP w20 (zu (zP w20) a 23 (some (a + 10))) := ⟨_, rfl⟩
  rw [← hw21]
  have c21 : ctS w21 f20 j20 w f j a 11 cL_X12_20 cP_X12_21 cV_X12_11 cZ_X12_20 := by rw [hw21]; exact ctS_putP (k := 23) (o := 0) (t := 10) c20 (by decide) (by decide +kernel)
  refine r_aloadR0 dX12_init_93 ?_
  refine n_iconst dX12_init_94 (by decide) (fun r12 e12_z => ?_)
  refine m_newI (N := 5) (ctS_S c21) dX12_init_95 (by omega) (by decide) (by first | exact Nat.le_of_ble_eq_true rfl | decide) (by first | exact Nat.le_of_ble_eq_true rfl | decide) (fun w22 f22 j22 n22 m22 p22 => ?_)
  have c22 : ctS w22 f22 j22 w f j a 12 cL_X12_22 cP_X12_21 cV_X12_11 cZ_X12_22 := ctS_new c21 n22 m22 p22
  refine zR_b (b2 := (11, 16037)) rfl ?_
  refine m_putPF (q := (a + 11)) zf_RX12_45 (by intro C T N h_z; cases h_z; exact ⟨rfl, rfl⟩) rfl rfl dX12_init_97 (c22.2.2.1 (0, 11, 0) (List.mem_of_getElem? (i := 0) (by decide +kernel))).2.1 ?_
  obtain ⟨w23, hw23⟩ : ∃ u9, u9 = zsP w22 (zu (zP w22) a 25 (some (a + 11))) := ⟨_, rfl⟩
  rw [← hw23]
  have c23 : ctS w23 f22 j22 w f j a 12 cL_X12_22 cP_X12_23 cV_X12_11 cZ_X12_22 := by rw [hw23]; exact ctS_putP (k := 25) (o := 0) (t := 11) c22 (by decide) (by decide +kernel)
  refine r_aloadR0 dX12_init_100 ?_
  refine n_iconst dX12_init_101 (by decide) (fun r13 e13_z => ?_)
  refine m_newI (N := 5) (ctS_S c23) dX12_init_102 (by omega) (by decide) (by first | exact Nat.le_of_ble_eq_true rfl | decide) (by first | exact Nat.le_of_ble_eq_true rfl | decide) (fun w24 f24 j24 n24 m24 p24 => ?_)
  have c24 : ctS w24 f24 j24 w f j a 13 cL_X12_24 cP_X12_23 cV_X12_11 cZ_X12_24 := ctS_new c23 n24 m24 p24
  refine zR_b (b2 := (12, 16042)) rfl ?_
  refine m_putPF (q := (a + 12)) zf_RX12_48 (by intro C T N h_z; cases h_z; exact ⟨rfl, rfl⟩) rfl rfl dX12_init_104 (c24.2.2.1 (0, 11, 0) (List.mem_of_getElem? (i := 0) (by decide +kernel))).2.1 ?_
  obtain ⟨w25, hw25⟩ : ∃ u9, u9 = zsP w24 (zu (zP w24) a 26 (some (a + 12))) := ⟨_, rfl⟩
  rw [← hw25]
  have c25 : ctS w25 f24 j24 w f j a 13 cL_X12_24 cP_X12_25 cV_X12_11 cZ_X12_24 := by rw [hw25]; exact ctS_putP (k := 26) (o := 0) (t := 12) c24 (by decide) (by decide +kernel)
  refine r_aloadR0 dX12_init_107 ?_
  refine n_iconst dX12_init_108 (by decide) (fun r14 e14_z => ?_)
  refine m_newI (N := 4) (ctS_S c25) dX12_init_109 (by omega) (by decide) (by first | exact Nat.le_of_ble_eq_true rfl | decide) (by first | exact Nat.le_of_ble_eq_true rfl | decide) (fun w26 f26 j26 n26 m26 p26 => ?_)
  have c26 : ctS w26 f26 j26 w f j a 14 cL_X12_26 cP_X12_25 cV_X12_11 cZ_X12_26 := ctS_new c25 n26 m26 p26
  refine zR_b (b2 := (13, 16046)) rfl ?_
  refine m_putPF (q := (a + 13)) zf_RX12_51 (by intro C T N h_z; cases h_z; exact ⟨rfl, rfl⟩) rfl rfl dX12_init_111 (c26.2.2.1 (0, 11, 0) (List.mem_of_getElem? (i := 0) (by decide +kernel))).2.1 ?_
  obtain ⟨w27, hw27⟩ : ∃ u9, u9 = zsP w26 (zu (zP w26) a 27 (some (a + 13))) := ⟨_, rfl⟩
  rw [← hw27]
  have c27 : ctS w27 f26 j26 w f j a 14 cL_X12_26 cP_X12_27 cV_X12_11 cZ_X12_26 := by rw [hw27]; exact ctS_putP (k := 27) (o := 0) (t := 13) c26 (by decide) (by decide +kernel)
  refine r_aloadR0 dX12_init_114 ?_
  refine n_ldc (n := 65536) zk_RX12_54 dX12_init_115 (by decide) (fun r15 e15_z => ?_)
  refine m_newJ (N := 65536) (ctS_S c27) dX12_init_117 (by omega) (by decide) (by first | exact Nat.le_of_ble_eq_true rfl | decide) (by first | exact Nat.le_of_ble_eq_true rfl | decide) (fun w28 f28 j28 n28 m28 p28 => ?_)
  have c28 : ctS w28 f28 j28 w f j a 15 cL_X12_28 cP_X12_27 cV_X12_11 cZ_X12_28 := ctS_new c27 n28 m28 p28
  refine zR_b (b2 := (14, 81582)) rfl ?_
  refine m_putPF (q := (a + 14)) zf_RX12_55 (by intro C T N h_z; cases h_z; exact ⟨rfl, rfl⟩) rfl rfl dX12_init_119 (c28.2.2.1 (0, 11, 0) (List.mem_of_getElem? (i := 0) (by decide +kernel))).2.1 ?_
  obtain ⟨w29, hw29⟩ : ∃ u9, u9 = zsP w28 (zu (zP w28) a 35 (some (a + 14))) := ⟨_, rfl⟩
  rw [← hw29]
  have c29 : ctS w29 f28 j28 w f j a 15 cL_X12_28 cP_X12_29 cV_X12_11 cZ_X12_28 := by rw [hw29]; exact ctS_putP (k := 35) (o := 0) (t := 14) c28 (by decide) (by decide +kernel)
  refine r_aloadR0 dX12_init_122 ?_
  refine n_ldc (n := 65536) zk_RX12_54 dX12_init_123 (by decide) (fun r16 e16_z => ?_)
  refine m_newI (N := 65536) (ctS_S c29) dX12_init_125 (by omega) (by decide) (by first | exact Nat.le_of_ble_eq_true rfl | decide) (by first | exact Nat.le_of_ble_eq_true rfl | decide) (fun w30 f30 j30 n30 m30 p30 => ?_)
  have c30 : ctS w30 f30 j30 w f j a 16 cL_X12_30 cP_X12_29 cV_X12_11 cZ_X12_30 := ctS_new c29 n30 m30 p30
  refine zR_b (b2 := (15, 147118)) rfl ?_
  refine m_putPF (q := (a + 15)) zf_RX12_59 (by intro C T N h_z; cases h_z; exact ⟨rfl, rfl⟩) rfl rfl dX12_init_127 (c30.2.2.1 (0, 11, 0) (List.mem_of_getElem? (i := 0) (by decide +kernel))).2.1 ?_
  obtain ⟨w31, hw31⟩ : ∃ u9, u9 = zsP w30 (zu (zP w30) a 36 (some (a + 15))) := ⟨_, rfl⟩
  rw [← hw31]
  have c31 : ctS w31 f30 j30 w f j a 16 cL_X12_30 cP_X12_31 cV_X12_11 cZ_X12_30 := by rw [hw31]; exact ctS_putP (k := 36) (o := 0) (t := 15) c30 (by decide) (by decide +kernel)
  refine r_aloadR0 dX12_init_130 ?_
  refine n_bipush dX12_init_131 (by decide) (fun r17 e17_z => ?_)
  refine m_newI (N := 6) (ctS_S c31) dX12_init_133 (by omega) (by decide) (by first | exact Nat.le_of_ble_eq_true rfl | decide) (by first | exact Nat.le_of_ble_eq_true rfl | decide) (fun w32 f32 j32 n32 m32 p32 => ?_)
  have c32 : ctS w32 f32 j32 w f j a 17 cL_X12_32 cP_X12_31 cV_X12_11 cZ_X12_32 := ctS_new c31 n32 m32 p32
  refine zR_b (b2 := (16, 147124)) rfl ?_
  refine m_putPF (q := (a + 16)) zf_RX12_62 (by intro C T N h_z; cases h_z; exact ⟨rfl, rfl⟩) rfl rfl dX12_init_135 (c32.2.2.1 (0, 11, 0) (List.mem_of_getElem? (i := 0) (by decide +kernel))).2.1 ?_
  obtain ⟨w33, hw33⟩ : ∃ u9, u9 = zsP w32 (zu (zP w32) a 38 (some (a + 16))) := ⟨_, rfl⟩
  rw [← hw33]
  have c33 : ctS w33 f32 j32 w f j a 17 cL_X12_32 cP_X12_33 cV_X12_11 cZ_X12_32 := by rw [hw33]; exact ctS_putP (k := 38) (o := 0) (t := 16) c32 (by decide) (by decide +kernel)
  refine r_aloadR0 dX12_init_138 ?_
  refine n_sipush dX12_init_139 (by decide) (fun r18 e18_z => ?_)
  refine m_newI (N := 600) (ctS_S c33) dX12_init_142 (by omega) (by decide) (by first | exact Nat.le_of_ble_eq_true rfl | decide) (by first | exact Nat.le_of_ble_eq_true rfl | decide) (fun w34 f34 j34 n34 m34 p34 => ?_)
  have c34 : ctS w34 f34 j34 w f j a 18 cL_X12_34 cP_X12_33 cV_X12_11 cZ_X12_34 := ctS_new c33 n34 m34 p34
  refine zR_b (b2 := (17, 147724)) rfl ?_
  refine m_putPF (q := (a + 17)) zf_RX12_65 (by intro C T N h_z; cases h_z; exact ⟨rfl, rfl⟩) rfl rfl dX12_init_144 (c34.2.2.1 (0, 11, 0) (List.mem_of_getElem? (i := 0) (by decide +kernel))).2.1 ?_
  obtain ⟨w35, hw35⟩ : ∃ u9, u9 = zsP w34 (zu (zP w34) a 39 (some (a + 17))) := ⟨_, rfl⟩
  rw [← hw35]
  have c35 : ctS w35 f34 j34 w f j a 18 cL_X12_34 cP_X12_35 cV_X12_11 cZ_X12_34 := by rw [hw35]; exact ctS_putP (k := 39) (o := 0) (t := 17) c34 (by decide) (by decide +kernel)
  refine r_aloadR0 dX12_init_147 ?_
  refine n_iconst dX12_init_148 (by decide) (fun r19 e19_z => ?_)
  refine m_newI (N := 4) (ctS_S c35) dX12_init_149 (by omega) (by decide) (by first | exact Nat.le_of_ble_eq_true rfl | decide) (by first | exact Nat.le_of_ble_eq_true rfl | decide) (fun w36 f36 j36 n36 m36 p36 => ?_)
  have c36 : ctS w36 f36 j36 w f j a 19 cL_X12_36 cP_X12_35 cV_X12_11 cZ_X12_36 := ctS_new c35 n36 m36 p36
  refine zR_b (b2 := (18, 147728)) rfl ?_
  refine r_dup dX12_init_151 rfl ?_
  refine n_iconst dX12_init_152 (by decide) (fun r20 e20 => ?_)
  refine n_iconst dX12_init_153 (by decide) (fun r21 e21_z => ?_)
  have z154 : ctS w36 f36 j36 w f j a 19 cL_X12_36 cP_X12_35 cV_X12_o154 cZ_X12_o154 := ctS_open (o := 18) (m := 4) c36 (List.mem_of_getElem? (i := 17) (by decide +kernel))
  refine m_iast (k := 0) dX12_init_154 (c36.2.2.1 (18, 21, 4) (List.mem_of_getElem? (i := 18) (by decide +kernel))).2.1 (c36.2.2.1 (18, 21, 4) (List.mem_of_getElem? (i := 18) (by decide +kernel))).2.2 (by omega) (by decide) ?_
  obtain ⟨f37, hf37⟩ : ∃ u9, u9 = zu f36 (a + 18) 0 r21 := ⟨_, rfl⟩
  rw [← hf37]
  have c37 : ctS w36 f37 j36 w f j a 19 cL_X12_36 cP_X12_35 cV_X12_37 cZ_X12_o154 := by rw [hf37]; exact ctS_putI (k := 0) (o := 18) (x := r21) (v := -1) z154 (by decide) (zi_eq.mpr (e21_z.trans (by decide))) (by decide +kernel)
  refine r_dup dX12_init_155 rfl ?_
  refine n_iconst dX12_init_156 (by decide) (fun r22 e22_z => ?_)
  refine n_iconst dX12_init_157 (by decide) (fun r23 e23_z => ?_)
  refine m_iast (k := 1) dX12_init_158 (c37.2.2.1 (18, 21, 4) (List.mem_of_getElem? (i := 18) (by decide +kernel))).2.1 (c37.2.2.1 (18, 21, 4) (List.mem_of_getElem? (i := 18) (by decide +kernel))).2.2 (by omega) (by decide) ?_
  obtain ⟨f38, hf38⟩ : ∃ u9, u9 = zu f37 (a + 18) 1 r23 := ⟨_, rfl⟩
  rw [← hf38]
  have c38 : ctS w36 f38 j36 w f j a 19 cL_X12_36 cP_X12_35 cV_X12_38 cZ_X12_o154 := by rw [hf38]; exact ctS_putI (k := 1) (o := 18) (x := r23) (v := -1) c37 (by decide) (zi_eq.mpr (e23_z.trans (by decide))) (by decide +kernel)
  refine r_dup dX12_init_159 rfl ?_
  refine n_iconst dX12_init_160 (by decide) (fun r24 e24_z => ?_)
  refine n_iconst dX12_init_161 (by decide) (fun r25 e25_z => ?_)
  refine m_iast (k := 2) dX12_init_162 (c38.2.2.1 (18, 21, 4) (List.mem_of_getElem? (i := 18) (by decide +kernel))).2.1 (c38.2.2.1 (18, 21, 4) (List.mem_of_getElem? (i := 18) (by decide +kernel))).2.2 (by omega) (by decide) ?_
  obtain ⟨f39, hf39⟩ : ∃ u9, u9 = zu f38 (a + 18) 2 r25 := ⟨_, rfl⟩
  rw [← hf39]
  have c39 : ctS w36 f39 j36 w f j a 19 cL_X12_36 cP_X12_35 cV_X12_39 cZ_X12_o154 := by rw [hf39]; exact ctS_putI (k := 2) (o := 18) (x := r25) (v := -1) c38 (by decide) (zi_eq.mpr (e25_z.trans (by decide))) (by decide +kernel)
  refine r_dup dX12_init_163 rfl ?_
  refine n_iconst dX12_init_164 (by decide) (fun r26 e26_z => ?_)
  refine n_iconst dX12_init_165 (by decide) (fun r27 e27_z => ?_)
  refine m_iast (k := 3) dX12_init_166 (c39.2.2.1 (18, 21, 4) (List.mem_of_getElem? (i := 18) (by decide +kernel))).2.1 (c39.2.2.1 (18, 21, 4) (List.mem_of_getElem? (i := 18) (by decide +kernel))).2.2 (by omega) (by decide) ?_
  obtain ⟨f40, hf40⟩ : ∃ u9, u9 = zu f39 (a + 18) 3 r27 := ⟨_, rfl⟩
  rw [← hf40]
  have c40 : ctS w36 f40 j36 w f j a 19 cL_X12_36 cP_X12_35 cV_X12_40 cZ_X12_o154 := by rw [hf40]; exact ctS_putI (k := 3) (o := 18) (x := r27) (v := -1) c39 (by decide) (zi_eq.mpr (e27_z.trans (by decide))) (by decide +kernel)
  refine m_putPF (q := (a + 18)) zf_RX12_68 (by intro C T N h_z; cases h_z; exact ⟨rfl, rfl⟩) rfl rfl dX12_init_167 (c40.2.2.1 (0, 11, 0) (List.mem_of_getElem? (i := 0) (by decide +kernel))).2.1 ?_
  obtain ⟨w41, hw41⟩ : ∃ u9, u9 = zsP w36 (zu (zP w36) a 40 (some (a + 18))) := ⟨_, rfl⟩
  rw [← hw41]
  have c41 : ctS w41 f40 j36 w f j a 19 cL_X12_36 cP_X12_41 cV_X12_40 cZ_X12_o154 := by rw [hw41]; exact ctS_putP (k := 40) (o := 0) (t := 18) c40 (by decide) (by decide +kernel)
  refine r_aloadR0 dX12_init_170 ?_
  refine n_iconst dX12_init_171 (by decide) (fun r28 e28_z => ?_)
  refine m_newI (N := 4) (ctS_S c41) dX12_init_172 (by omega) (by decide) (by first | exact Nat.le_of_ble_eq_true rfl | decide) (by first | exact Nat.le_of_ble_eq_true rfl | decide) (fun w42 f42 j42 n42 m42 p42 => ?_)
  have c42 : ctS w42 f42 j42 w f j a 20 cL_X12_42 cP_X12_41 cV_X12_40 cZ_X12_42 := ctS_new c41 n42 m42 p42
  refine zR_b (b2 := (19, 147732)) rfl ?_
  refine m_putPF (q := (a + 19)) zf_RX12_71 (by intro C T N h_z; cases h_z; exact ⟨rfl, rfl⟩) rfl rfl dX12_init_174 (c42.2.2.1 (0, 11, 0) (List.mem_of_getElem? (i := 0) (by decide +kernel))).2.1 ?_
  obtain ⟨w43, hw43⟩ : ∃ u9, u9 = zsP w42 (zu (zP w42) a 41 (some (a + 19))) := ⟨_, rfl⟩
  rw [← hw43]
  have c43 : ctS w43 f42 j42 w f j a 20 cL_X12_42 cP_X12_43 cV_X12_40 cZ_X12_42 := by rw [hw43]; exact ctS_putP (k := 41) (o := 0) (t := 19) c42 (by decide) (by decide +kernel)
  refine r_aloadR0 dX12_init_177 ?_
  refine n_bipush dX12_init_178 (by decide) (fun r29 e29 => ?_)
  refine m_newJ (N := 120) (ctS_S c43) dX12_init_180 (by omega) (by decide) (by first | exact Nat.le_of_ble_eq_true rfl | decide) (by first | exact Nat.le_of_ble_eq_true rfl | decide) (fun w44 f44 j44 n44 m44 p44 => ?_)
  have c44 : ctS w44 f44 j44 w f j a 21 cL_X12_44 cP_X12_43 cV_X12_40 cZ_X12_44 := ctS_new c43 n44 m44 p44
  refine zR_b (b2 := (20, 147852)) rfl ?_
  refine m_putPF (q := (a + 20)) zf_RX12_74 (by intro C T N h_z; cases h_z; exact ⟨rfl, rfl⟩) rfl rfl dX12_init_182 (c44.2.2.1 (0, 11, 0) (List.mem_of_getElem? (i := 0) (by decide +kernel))).2.1 ?_
  obtain ⟨w45, hw45⟩ : ∃ u9, u9 = zsP w44 (zu (zP w44) a 42 (some (a + 20))) := ⟨_, rfl⟩
  rw [← hw45]
  have c45 : ctS w45 f44 j44 w f j a 21 cL_X12_44 cP_X12_45 cV_X12_40 cZ_X12_44 := by rw [hw45]; exact ctS_putP (k := 42) (o := 0) (t := 20) c44 (by decide) (by decide +kernel)
  refine r_vret dX12_init_185 rfl (by first | exact Nat.le_of_ble_eq_true rfl | decide) (by first | exact Nat.le_of_ble_eq_true rfl | decide) ?_
  exact hQ _ _ _ (ctS_cv c45 (by decide +kernel) (by decide +kernel) (by decide +kernel) (by decide +kernel))
