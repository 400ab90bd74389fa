/-! a constant text: its length, its letters -/
theorem r_bret {g : zGT} {d : Nat} {hh : List (Nat × Nat × Nat × Nat)} {y : MethodName} {nL : Nat} {ret : Option FieldType} {bt : Nat × Nat} {Q : Option Value → zW → Prop} {QX : String → zW → Prop} {cd : ByteArray} {ow : String} {pc : Nat} {ls : List (Option Value)} {w : zW} {b : Nat × Nat} {x : Int32} (hd_z : decode cd pc = .ok (.ireturn, 1)) (hr : ret = some .byte) (hx : narrow .byte (.int x) = .int x) (h1 : b.1 ≤ bt.1) (h2 : b.2 ≤ bt.2) (hq : Q (some (.int x)) w) : zR (zVh g d hh y nL ret bt Q QX) cd ow pc ls [.int x] w b := by
  intro p e s m args below meth c C H locs lsA hL hH hS_z
  exact zMQ_wid h1 h2 (W.zret C.1 C.2.1 (C.2.2.2.2.2.1.trans hr) hx (fun t ht hW => ⟨⟨_, w, rfl, hq, zH_moved hW.alike (by rw [ht]; exact hH)⟩, hS_z.F ht⟩) hS_z.2.2 hd_z C.2.2.2.2.2.2.1)
theorem sh0 (n : Nat) : Int32.ofNat n >>> ((0 : Int32) &&& 31) = nI n := by
  rw [show ((0 : Int32) &&& 31) = 0 from rfl]
  show Int32.ofNat n >>> (0 : Int32) = Int32.ofNat n
  apply Int32.toBitVec_inj.mp
  simp
theorem chv : ∀ x, x < 128 → ((nI x &&& (Int16.ofInt 255).toInt32).toUInt32 % 65536).toInt32 = nI x := by decide +kernel
theorem chn : ∀ x, x < 128 → narrow .char (.int (nI x)) = .int (nI x) := by decide +kernel
set_option maxHeartbeats 4000000 in
set_option maxRecDepth 100000 in
theorem s_coder {g : zGT} {w : zW} {a v : Nat} {L : List Nat} {Q : Option Value → zW → Prop} {QX : String → zW → Prop} (G : zGok g) (ht : kTx g a v L) (hc_z : kCS g) (hQ : Q (some (.int 0)) w) : zC g 1 yJ0_coder_7d493 cJ0_coder_7d493 1 (some .byte) [.ref a] w (0, 0) Q QX := by
  refine zC_of G (by decide +kernel) (Nat.le_of_ble_eq_true rfl) ?_
  refine k_gets hc_z zg_RJ0_38 dJ0_coder_7d493_0 ?_
  refine t_ifeq (t := 13) dJ0_coder_7d493_3 (by decide) (fun h_z => absurd h_z (by decide)) (fun _ => ?_)
  refine r_aloadR0 dJ0_coder_7d493_6 ?_
  refine k_getf (fun U hU => (ht.2.2 U hU).2.1) zg_RJ0_15 dJ0_coder_7d493_7 ?_
  refine r_goto (t := 14) dJ0_coder_7d493_10 (by decide) ?_
  exact r_bret dJ0_coder_7d493_14 rfl rfl (Nat.le_of_ble_eq_true rfl) (Nat.le_of_ble_eq_true rfl) hQ
set_option maxHeartbeats 4000000 in
set_option maxRecDepth 100000 in
theorem s_isLatin1 {g : zGT} {w : zW} {a v : Nat} {L : List Nat} {Q : Option Value → zW → Prop} {QX : String → zW → Prop} (G : zGok g) (ht : kTx g a v L) (hc_z : kCS g) (hQ : Q (some (.int 1)) w) : zC g 1 yJ0_isLatin1_aae02 cJ0_isLatin1_aae02 1 (some .boolean) [.ref a] w (0, 0) Q QX := by
  refine zC_of G (by decide +kernel) (Nat.le_of_ble_eq_true rfl) ?_
  refine k_gets hc_z zg_RJ0_38 dJ0_isLatin1_aae02_0 ?_
  refine t_ifeq (t := 17) dJ0_isLatin1_aae02_3 (by decide) (fun h_z => absurd h_z (by decide)) (fun _ => ?_)
  refine r_aloadR0 dJ0_isLatin1_aae02_6 ?_
  refine k_getf (fun U hU => (ht.2.2 U hU).2.1) zg_RJ0_15 dJ0_isLatin1_aae02_7 ?_
  refine t_ifne (t := 17) dJ0_isLatin1_aae02_10 (by decide) (fun h_z => absurd rfl h_z) (fun _ => ?_)
  refine r_iconst (v := 1) dJ0_isLatin1_aae02_13 rfl ?_
  refine r_goto (t := 18) dJ0_isLatin1_aae02_14 (by decide) ?_
  exact r_zret dJ0_isLatin1_aae02_18 rfl (Or.inr rfl) (Nat.le_of_ble_eq_true rfl) (Nat.le_of_ble_eq_true rfl) hQ
set_option maxHeartbeats 4000000 in
set_option maxRecDepth 100000 in
theorem s_length {g : zGT} {w : zW} {a v : Nat} {L : List Nat} {Q : Option Value → zW → Prop} {QX : String → zW → Prop} (G : zGok g) (ht : kTx g a v L) (hc_z : kCS g) (hQ : ∀ r : Int32, r.toInt = (L.length : Nat) → Q (some (.int r)) w) : zC g 2 yJ0_length_8abf5 cJ0_length_8abf5 1 (some .int) [.ref a] w (0, 0) Q QX := by
  refine zC_of G (by decide +kernel) (Nat.le_of_ble_eq_true rfl) ?_
  refine r_aloadR0 dJ0_length_8abf5_0 ?_
  refine k_getf (fun U hU => (ht.2.2 U hU).2.2.1) zg_RJ0_9 dJ0_length_8abf5_1 ?_
  refine k_alen (fun U hU => (ht.2.2 U hU).2.2.2) dJ0_length_8abf5_4 ?_
  refine r_aloadR0 dJ0_length_8abf5_5 ?_
  refine k_callV0 zm_RJ0_335 dJ0_length_8abf5_6 (fun U hU => (ht.2.2 U hU).1) (Nat.le_of_ble_eq_true rfl) (Nat.le_of_ble_eq_true rfl) (Nat.le_of_ble_eq_true rfl) (Nat.le_of_ble_eq_true rfl) (Nat.le_of_ble_eq_true rfl) (s_coder G ht hc_z ?_)
  refine r_ishr dJ0_length_8abf5_9 ?_
  refine r_iret dJ0_length_8abf5_10 rfl (Nat.le_of_ble_eq_true rfl) (Nat.le_of_ble_eq_true rfl) (hQ _ ?_)
  have h1 := ht.1
  rw [show Int32.ofNat L.length >>> (0 &&& 31) = nI L.length from sh0 L.length]
  exact zi_n (by omega)
/-- a static of which it is only said that it holds a reference or null -/
def kQv : Nat → Value
  | 0 => .null
  | q + 1 => .ref q
set_option maxHeartbeats 4000000 in
set_option maxRecDepth 100000 in
theorem s_pCheck {g : zGT} {w : zW} {i n : Nat} {x z : Int32} {u : Nat} {Q : Option Value → zW → Prop} {QX : String → zW → Prop} (G : zGok g) (hx : x.toInt = (i : Nat)) (hz : z.toInt = (n : Nat)) (hi_z : i < n) (hQ : Q (some (.int x)) w) : zC g 1 yJ3_checkIndex_8e157 cJ3_checkIndex_8e157 3 (some .int) [.int x, .int z, .ref u] w (0, 0) Q QX := by
  refine zC_of G (by decide +kernel) (Nat.le_of_ble_eq_true rfl) ?_
  refine r_iload0 dJ3_checkIndex_8e157_0 ?_
  refine t_iflt (t := 9) dJ3_checkIndex_8e157_1 (by decide) (fun h_z => absurd h_z (by omega)) (fun _ => ?_)
  refine r_iload0 dJ3_checkIndex_8e157_4 ?_
  refine r_iload1 dJ3_checkIndex_8e157_5 ?_
  refine t_iclt (t := 16) dJ3_checkIndex_8e157_6 (by decide) (fun _ => ?_) (fun h_z => absurd h_z (by omega))
  refine r_iload0 dJ3_checkIndex_8e157_16 ?_
  exact r_iret dJ3_checkIndex_8e157_17 rfl (Nat.le_of_ble_eq_true rfl) (Nat.le_of_ble_eq_true rfl) hQ
set_option maxHeartbeats 4000000 in
set_option maxRecDepth 100000 in
theorem s_pCheckN {g : zGT} {w : zW} {i n : Nat} {x z : Int32} {Q : Option Value → zW → Prop} {QX : String → zW → Prop} (G : zGok g) (hx : x.toInt = (i : Nat)) (hz : z.toInt = (n : Nat)) (hi_z : i < n) (hQ : Q (some (.int x)) w) : zC g 1 yJ3_checkIndex_8e157 cJ3_checkIndex_8e157 3 (some .int) [.int x, .int z, .null] w (0, 0) Q QX := by
  refine zC_of G (by decide +kernel) (Nat.le_of_ble_eq_true rfl) ?_
  refine r_iload0 dJ3_checkIndex_8e157_0 ?_
  refine t_iflt (t := 9) dJ3_checkIndex_8e157_1 (by decide) (fun h_z => absurd h_z (by omega)) (fun _ => ?_)
  refine r_iload0 dJ3_checkIndex_8e157_4 ?_
  refine r_iload1 dJ3_checkIndex_8e157_5 ?_
  refine t_iclt (t := 16) dJ3_checkIndex_8e157_6 (by decide) (fun _ => ?_) (fun h_z => absurd h_z (by omega))
  refine r_iload0 dJ3_checkIndex_8e157_16 ?_
  exact r_iret dJ3_checkIndex_8e157_17 rfl (Nat.le_of_ble_eq_true rfl) (Nat.le_of_ble_eq_true rfl) hQ
set_option maxHeartbeats 4000000 in
set_option maxRecDepth 100000 in
theorem s_sCheck {g : zGT} {w : zW} {i n q : Nat} {x z : Int32} {Q : Option Value → zW → Prop} {QX : String → zW → Prop} (G : zGok g) (hf : ∀ U, g.2.2.2 U → va_Z "jdk/internal/util/Preconditions" "SIOOBE_FORMATTER" "Ljava/util/function/BiFunction;" (kQv q) (zA g.2.2.1) U U.heap) (hx : x.toInt = (i : Nat)) (hz : z.toInt = (n : Nat)) (hi_z : i < n) (hQ : Q none w) : zC g 2 yJ0_checkIndex_df160 cJ0_checkIndex_df160 2 none [.int x, .int z] w (0, 0) Q QX := by
  refine zC_of G (by decide +kernel) (Nat.le_of_ble_eq_true rfl) ?_
  refine r_iload0 dJ0_checkIndex_df160_0 ?_
  refine r_iload1 dJ0_checkIndex_df160_1 ?_
  cases q with
  | zero =>
    refine k_gets (v := .null) hf zg_RJ0_1053 dJ0_checkIndex_df160_2 ?_
    refine q_callS3 zm_RJ0_1059 dJ0_checkIndex_df160_5 (Nat.le_of_ble_eq_true rfl) (Nat.le_of_ble_eq_true rfl) (Nat.le_of_ble_eq_true rfl) (Nat.le_of_ble_eq_true rfl) (Nat.le_of_ble_eq_true rfl) (s_pCheckN G hx hz hi_z ?_)
    refine r_pop dJ0_checkIndex_df160_8 rfl ?_
    exact r_vret dJ0_checkIndex_df160_9 rfl (Nat.le_of_ble_eq_true rfl) (Nat.le_of_ble_eq_true rfl) hQ
  | succ q =>
    refine k_gets (v := .ref q) hf zg_RJ0_1053 dJ0_checkIndex_df160_2 ?_
    refine q_callS3 zm_RJ0_1059 dJ0_checkIndex_df160_5 (Nat.le_of_ble_eq_true rfl) (Nat.le_of_ble_eq_true rfl) (Nat.le_of_ble_eq_true rfl) (Nat.le_of_ble_eq_true rfl) (Nat.le_of_ble_eq_true rfl) (s_pCheck G hx hz hi_z ?_)
    refine r_pop dJ0_checkIndex_df160_8 rfl ?_
    exact r_vret dJ0_checkIndex_df160_9 rfl (Nat.le_of_ble_eq_true rfl) (Nat.le_of_ble_eq_true rfl) hQ
set_option maxHeartbeats 4000000 in
set_option maxRecDepth 100000 in
theorem s_lCharAt {g : zGT} {w : zW} {a v q i : Nat} {L : List Nat} {x : Int32} {Q : Option Value → zW → Prop} {QX : String → zW → Prop} (G : zGok g) (ht : kTx g a v L) (hf : ∀ U, g.2.2.2 U → va_Z "jdk/internal/util/Preconditions" "SIOOBE_FORMATTER" "Ljava/util/function/BiFunction;" (kQv q) (zA g.2.2.1) U U.heap) (hx : x.toInt = (i : Nat)) (hi_z : i < L.length) (hQ : ∀ r : Int32, r.toInt = (L.getD i 0 : Nat) → Q (some (.int r)) w) : zC g 3 yJ1_charAt_3b067 cJ1_charAt_3b067 2 (some .char) [.ref v, .int x] w (0, 0) Q QX := by
  refine zC_of G (by decide +kernel) (Nat.le_of_ble_eq_true rfl) ?_
  have h9 := ht.1
  have hlt : L.getD i 0 < 128 := by
    rw [List.getD_eq_getElem?_getD, List.getElem?_eq_getElem hi_z]
    exact ht.2.1 _ (List.getElem_mem hi_z)
  refine r_iload1 dJ1_charAt_3b067_0 ?_
  refine r_aloadR0 dJ1_charAt_3b067_1 ?_
  refine k_alen (fun U hU => (ht.2.2 U hU).2.2.2) dJ1_charAt_3b067_2 ?_
  refine q_callS2 zm_RJ1_9 dJ1_charAt_3b067_3 (Nat.le_of_ble_eq_true rfl) (Nat.le_of_ble_eq_true rfl) (Nat.le_of_ble_eq_true rfl) (Nat.le_of_ble_eq_true rfl) (Nat.le_of_ble_eq_true rfl) (s_sCheck G hf hx (show (Int32.ofNat L.length).toInt = _ from zi_n (by omega)) hi_z ?_)
  refine r_aloadR0 dJ1_charAt_3b067_6 ?_
  refine r_iload1 dJ1_charAt_3b067_7 ?_
  refine k_bald (fun U hU => (ht.2.2 U hU).2.2.2) hx hi_z (by omega) rfl dJ1_charAt_3b067_8 ?_
  refine r_sipush dJ1_charAt_3b067_9 rfl ?_
  refine r_iand dJ1_charAt_3b067_12 ?_
  refine r_i2c dJ1_charAt_3b067_13 ?_
  refine r_cret dJ1_charAt_3b067_14 rfl (by rw [chv _ hlt]; exact chn _ hlt) (Nat.le_of_ble_eq_true rfl) (Nat.le_of_ble_eq_true rfl) (hQ _ ?_)
  rw [chv _ hlt]
  exact zi_n (by omega)
set_option maxHeartbeats 4000000 in
set_option maxRecDepth 100000 in
theorem s_charAt {g : zGT} {w : zW} {a v q i : Nat} {L : List Nat} {x : Int32} {Q : Option Value → zW → Prop} {QX : String → zW → Prop} (G : zGok g) (ht : kTx g a v L) (hc_z : kCS g) (hf : ∀ U, g.2.2.2 U → va_Z "jdk/internal/util/Preconditions" "SIOOBE_FORMATTER" "Ljava/util/function/BiFunction;" (kQv q) (zA g.2.2.1) U U.heap) (hx : x.toInt = (i : Nat)) (hi_z : i < L.length) (hQ : ∀ r : Int32, r.toInt = (L.getD i 0 : Nat) → Q (some (.int r)) w) : zC g 4 yJ0_charAt_5068e cJ0_charAt_5068e 2 (some .char) [.ref a, .int x] w (0, 0) Q QX := by
  refine zC_of G (by decide +kernel) (Nat.le_of_ble_eq_true rfl) ?_
  refine r_aloadR0 dJ0_charAt_5068e_0 ?_
  refine k_callV0 zm_RJ0_492 dJ0_charAt_5068e_1 (fun U hU => (ht.2.2 U hU).1) (Nat.le_of_ble_eq_true rfl) (Nat.le_of_ble_eq_true rfl) (Nat.le_of_ble_eq_true rfl) (Nat.le_of_ble_eq_true rfl) (Nat.le_of_ble_eq_true rfl) (s_isLatin1 G ht hc_z ?_)
  refine t_ifeq (t := 16) dJ0_charAt_5068e_4 (by decide) (fun h_z => absurd h_z (by decide)) (fun _ => ?_)
  refine r_aloadR0 dJ0_charAt_5068e_7 ?_
  refine k_getf (fun U hU => (ht.2.2 U hU).2.2.1) zg_RJ0_9 dJ0_charAt_5068e_8 ?_
  refine r_iload1 dJ0_charAt_5068e_11 ?_
  refine q_callS2 zm_RJ0_495 dJ0_charAt_5068e_12 (Nat.le_of_ble_eq_true rfl) (Nat.le_of_ble_eq_true rfl) (Nat.le_of_ble_eq_true rfl) (Nat.le_of_ble_eq_true rfl) (Nat.le_of_ble_eq_true rfl) (s_lCharAt G ht hf hx hi_z (fun r hr => ?_))
  refine r_cret dJ0_charAt_5068e_15 rfl ?_ (Nat.le_of_ble_eq_true rfl) (Nat.le_of_ble_eq_true rfl) (hQ _ hr)
  have hlt : L.getD i 0 < 128 := by
    rw [List.getD_eq_getElem?_getD, List.getElem?_eq_getElem hi_z]
    exact ht.2.1 _ (List.getElem_mem hi_z)
  rw [show r = nI (L.getD i 0) from zi_of hr (by omega)]
  exact chn _ hlt