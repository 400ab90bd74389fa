/-! the law: from its entry -/
set_option maxHeartbeats 4000000 in
set_option maxRecDepth 100000 in
theorem lc_entry {g : zGT} {QQ : List Frame → Array Value → State → State → Prop} {hh : List (Nat × Nat × Nat × Nat)} {nm : String} {s X L : Nat} {xs : Nat → Int32} {w : zW} {f : Nat → Nat → Int32} {j : Nat → Nat → Int64} (G : zGok g) (hT_z : ∀ U, g.2.2.2 U → va_T .int s L (fun k => .int (xs k)) (zA g.2.2.1) U U.heap) (hL : L ≤ 3072) {ca wa wv : Nat → Nat} {kq ta sm gq gv : Nat} (kw : kWd g wa wv kq) (ko : kWo g ca wa wv ta sm gq gv) (hld : kLd g wa) (hend : ∀ (x : Int32) (ls : List (Option Value)) w b, x.toInt = 1 → b.1 ≤ room_1.cells → b.2 ≤ room_1.slots → zR (zVg g room_1 QQ hh nm 8 (some .boolean)) cL_law RL 2736 ls [.int x] w b) (hS_z : zS w = X) (hz : ∀ q, zK w q = 0) : zR (zVg g room_1 QQ hh nm 8 (some .boolean)) cL_law RL 0 [some (.ref s), none, none, none, none, none, none, none] [] (zM w f j) (0, 0) := by
  refine m_new hS_z zn_RL_8 dL_law_0 (by first | exact Nat.le_of_ble_eq_true rfl | decide) (by first | exact Nat.le_of_ble_eq_true rfl | decide) (fun w1 f1_z j1 n1 m1_z p1 => ?_)
  refine zR_b (b2 := (1, 18)) rfl ?_
  refine r_dup dL_law_3 rfl ?_
  refine r_callI (n := 0) (As := []) (b2 := (238, 24584)) (Or.inl zm_RL_136) zin_yX11_init zini_RX11 zcode_yX11_init rfl ⟨by decide, by decide, by decide +kernel⟩ (by decide) dL_law_4 (s_X11_init (a := X) (w := w1) (f := f1_z) (j := j1) (ku := ca 16) G n1.1 n1.2.1 n1.2.2.1 m1_z.2 (fun U hU => ko.2.1 ("UNKNOWN", 16) (List.mem_of_getElem? (i := 0) rfl) U hU) (fun w2 f2_z j2 s2 => ?_)) rfl rfl (by first | exact Nat.le_of_ble_eq_true rfl | decide) (by first | exact Nat.le_of_ble_eq_true rfl | decide) (by first | exact Nat.le_of_ble_eq_true rfl | decide) (by first | exact Nat.le_of_ble_eq_true rfl | decide) (by first | exact Nat.le_of_ble_eq_true rfl | decide) (fun r w9 h9 => h9)
  refine zR_b (b2 := (239, 24602)) rfl ?_
  refine r_astore1 dL_law_7 rfl ?_
  refine m_new (ctS_S s2) zn_RL_137 dL_law_8 (by first | exact Nat.le_of_ble_eq_true rfl | decide) (by first | exact Nat.le_of_ble_eq_true rfl | decide) (fun w3 f3_z j3 n3 m3_z p3 => ?_)
  refine zR_b (b2 := (240, 24645)) rfl ?_
  refine r_dup dL_law_11 rfl ?_
  refine r_callI (n := 0) (As := []) (b2 := (20, 147852)) (Or.inl zm_RL_139) zin_yX12_init zini_RX12 zcode_yX12_init rfl ⟨by decide, by decide, by decide +kernel⟩ (by decide) dL_law_12 (s_X12_init (a := X + 239) (w := w3) (f := f3_z) (j := j3) G n3.1 n3.2.1 n3.2.2.1 m3_z.2 (fun w4 f4_z j4 s4 => ?_)) rfl rfl (by first | exact Nat.le_of_ble_eq_true rfl | decide) (by first | exact Nat.le_of_ble_eq_true rfl | decide) (by first | exact Nat.le_of_ble_eq_true rfl | decide) (by first | exact Nat.le_of_ble_eq_true rfl | decide) (by first | exact Nat.le_of_ble_eq_true rfl | decide) (fun r w9 h9 => h9)
  have c4_z := ctS_sub s2 n3 m3_z p3 s4
  refine zR_b (b2 := (260, 172497)) rfl ?_
  refine r_astore2 dL_law_15 rfl ?_
  refine n_iconst dL_law_16 (by decide) (fun r16 e16_z => ?_)
  refine m_newJ (N := 1) (ctS_S c4_z) dL_law_17 (by omega) (by decide) (by first | exact Nat.le_of_ble_eq_true rfl | decide) (by first | exact Nat.le_of_ble_eq_true rfl | decide) (fun w5 f5_z j5 n5 m5_z p5 => ?_)
  have c5_z : ctS w5 f5_z j5 w1 f1_z j1 X 261 cL_W cP_W cV_W cZ_W := ctS_new c4_z n5 m5_z p5
  refine zR_b (b2 := (261, 172498)) rfl ?_
  refine r_astore3 dL_law_19 rfl ?_
  refine n_iconst dL_law_20 (by decide) (fun r20 e20 => ?_)
  refine r_istore4 dL_law_21 rfl ?_
  have hI := lw_0 c5_z (fun q hq => ((n1.2.2.2 q (by omega)).1).trans (hz q))
  exact lc_loop (c0_z := 261) (s0 := 172498) G (by first | exact Nat.le_of_ble_eq_true rfl | decide) (by first | exact Nat.le_of_ble_eq_true rfl | decide) (by first | exact Nat.le_of_ble_eq_true rfl | decide) (by first | exact Nat.le_of_ble_eq_true rfl | decide) hT_z hL kw ko hld hend 513 0 _ _ _ _ _ _ _ _ _ _ _ _ _ _ _ (by omega) (by omega) (by omega) (by decide) (by decide) hI
