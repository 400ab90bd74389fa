/-! the law's wrappers: links, the call of a method with handlers, one theorem for each -/
def zlW (ow : String) (ix : Nat) (y : MethodName) (cd : ByteArray) (nL : Nat) (ret : Option FieldType) (hh : List (Nat × Nat × Nat × Nat)) (n : Nat) : Prop :=
  Cond.methodLink ow ix y ∈ zT ∧ Cond.static y ∈ zT ∧ Cond.initialized y.cls ∈ zT ∧ Cond.codeWith y cd nL ret hh ∈ zT ∧ y.cls ≠ "java/lang/invoke/MethodHandle" ∧ y.cls ≠ "java/lang/invoke/VarHandle" ∧ (parseMethodDescriptor y.desc).map (fun d => d.parameters.length) = some n ∧ nL ≤ 45
section ZW
variable {g : zGT} {Rm : Room} {QQ : List Frame → Array Value → State → State → Prop} {hh : List (Nat × Nat × Nat × Nat)} {nm : String} {nL : Nat} {ret : Option FieldType}
variable {cd : ByteArray} {ow : String} {pc : Nat} {ls : List (Option Value)} {st : List Value} {w : zW} {b : Nat × Nat}
/-- invokestatic of a method with handlers -/
theorem r_callW {ix n d2 : Nat} {y2 : MethodName} {cd2 : ByteArray} {nL2 : Nat} {ret2 : Option FieldType} {hh2 : List (Nat × Nat × Nat × Nat)} {As rest : List Value} {b2 : Nat × Nat} {Q2 : Option Value → zW → Prop}
    (hl : zlW ow ix y2 cd2 nL2 ret2 hh2 n) (hd_z : decode cd pc = .ok (.invokestatic ix, 3)) (hM_z : zCW g d2 y2 cd2 nL2 ret2 hh2 As w b2 Q2) (hst : st = As.reverse ++ rest) (hn : As.length = n) (hW : (rest.map fun v => v.category).sum ≤ 8) (hd2 : d2 + 1 ≤ Rm.frames) (hd3 : 64 * (d2 + 1) ≤ Rm.locals) (h1 : b.1 + b2.1 ≤ Rm.cells) (h2 : b.2 + b2.2 ≤ Rm.slots)
    (kk : ∀ r w2, Q2 r w2 → zR (zVg g Rm QQ hh nm nL ret) cd ow (pc + 3) ls (r.toList ++ rest) w2 (b.1 + b2.1, b.2 + b2.2)) : zR (zVg g Rm QQ hh nm nL ret) cd ow pc ls st w b := by
  subst hst
  intro p e s m args below meth c C H locs lsA hL hH hS_z
  obtain ⟨l1, l2, l3, l4, l5, l6, l7, l8⟩ := hl
  have hts : ∀ w ∈ zT, w.before args s = true := C.2.2.2.2.1
  have hok : zSok g.2.2.1 g.2.2.2 := C.2.2.2.2.2.2.2.2.2.2.1.2.2.1
  have hG : GoodIn zT (Cond.codeWith y2 cd2 nL2 ret2 hh2 :: zT) := by
    intro w hw
    rcases List.mem_cons.mp hw with rfl | hw
    · exact ⟨l4, good_of_word (zT_good l4)⟩
    · exact ⟨hw, good_of_word (zT_good hw)⟩
  have cw : vx_CSW Rm s args ow ix y2 cd2 nL2 ret2 hh2 (Cond.codeWith y2 cd2 nL2 ret2 hh2 :: zT) (zrm d2 b2) b2.1 b2.2 n :=
    ⟨⟨rfl, rfl, hd2, by show 8 + (nL2 + 11) + 64 * d2 ≤ Rm.locals; omega, pay_in hts hG, List.mem_cons_self⟩, hts _ l4, hts _ l3, ⟨l5, l6⟩, fun sig h_z => by
      rw [h_z] at l7
      exact (Option.some.inj l7).symm, hts _ l1, hts _ l2⟩
  exact zRun (b2 := b2) (QX2 := fun _ _ => False) C hL hS_z (va_vx (vx_runSW (Ts := zT) (As := As) (rest := rest) ⟨C.1, C.2.1, C.2.2.1, C.2.2.2.1, hts⟩ hM_z cw ⟨zBlind hok, fun U hU hW2 => ⟨rfl, zPre_of rfl C hH hS_z U hU hW2⟩⟩ rfl hn hL.1 rfl (lv_room hW) hd_z ⟨h1, h2⟩)) kk (fun _ _ h_z => absurd h_z id)
end ZW
theorem zc_RL_13 : Cond.classLink RL 13 "java/lang/IllegalArgumentException" ∈ zT := zt3 (List.mem_of_getElem? (i := 224) (by decide +kernel)) (by decide +kernel)
theorem zc_RL_19 : Cond.classLink RL 19 "java/util/NoSuchElementException" ∈ zT := zt5 (List.mem_of_getElem? (i := 94) (by decide +kernel)) (by decide +kernel)
theorem zc_RL_46 : Cond.classLink RL 46 "java/lang/IllegalStateException" ∈ zT := zt5 (List.mem_of_getElem? (i := 194) (by decide +kernel)) (by decide +kernel)
theorem zc_RL_124 : Cond.classLink RL 124 "java/lang/IndexOutOfBoundsException" ∈ zT := zt7 (List.mem_of_getElem? (i := 57) (by decide +kernel)) (by decide +kernel)
theorem zw_napkin : zlW RL 145 yL_napkin cL_napkin 4 (some .int) [(0, 9, 12, 13)] 3 := ⟨zt3 (List.mem_of_getElem? (i := 221) (by decide +kernel)) (by decide +kernel), zt3 (List.mem_of_getElem? (i := 222) (by decide +kernel)) (by decide +kernel), zini_RL, zt3 (List.mem_of_getElem? (i := 223) (by decide +kernel)) (by decide +kernel), by decide +kernel, by decide +kernel, by decide +kernel, by decide⟩
set_option maxHeartbeats 4000000 in
set_option maxRecDepth 100000 in
theorem w_napkin {g : zGT} {w : zW} {X o d : Nat} {x0 : Int32} {b : Nat × Nat} {Q : Option Value → zW → Prop} (G : zGok g) (hX : zK w X = 10) (hM_z : zC g d yX11_napkin cX11_napkin 3 (some .int) [.ref X, .int x0] w b (fun r w2 => ∃ (x : Int32) (w3 : zW) (f : Nat → Nat → Int32) (j : Nat → Nat → Int64), r = some (.int x) ∧ w2 = zM w3 f j ∧ zK w3 o = 25 ∧ zN w3 o = 1 ∧ ∀ (q : Int32) (y : Int64), q.toInt = 0 → y.toInt = x.toInt → Q (some (.int q)) (zM w3 f (zu j o 0 y))) (fun E w2 => (E = "java/lang/IllegalArgumentException" ∧ ∀ q : Int32, q.toInt = 1 → Q (some (.int q)) w2))) : zCW g (d + 1) yL_napkin cL_napkin 4 (some .int) [(0, 9, 12, 13)] [.ref X, .int x0, .ref o] w b Q := by
  refine zCW_of G (by decide +kernel) (Nat.le_of_ble_eq_true rfl) ?_
  refine r_aloadR2 dL_napkin_0 ?_
  refine n_iconst dL_napkin_1 (by decide) (fun r1 e1_z => ?_)
  refine r_aloadR0 dL_napkin_2 ?_
  refine r_iload1 dL_napkin_3 ?_
  refine q_callV1 zm_RL_7 dL_napkin_4 hX (by decide) rfl (by first | exact Nat.le_of_ble_eq_true rfl | (dsimp only [zV, zVh, zVg, zrm]; omega) | omega) (by first | exact Nat.le_of_ble_eq_true rfl | (dsimp only [zV, zVh, zVg, zrm]; omega) | omega) (by first | exact Nat.le_of_ble_eq_true rfl | (dsimp only [zV, zVh, zVg, zrm]; omega) | omega) (by first | exact Nat.le_of_ble_eq_true rfl | (dsimp only [zV, zVh, zVg, zrm]; omega) | omega) (by first | exact Nat.le_of_ble_eq_true rfl | (dsimp only [zV, zVh, zVg, zrm]; omega) | omega) (zC_mono hM_z (fun r w2 hr => ?_) (fun E w2 he => ?_))
  · obtain ⟨x, w3, f, j, rfl, rfl, ho, hn, hq⟩ := hr
    refine n_i2l dL_napkin_7 (fun r7 e7_z => ?_)
    refine m_last (k := 0) dL_napkin_8 ho hn (by omega) (by omega) ?_
    refine r_goto (t := 15) dL_napkin_9 (by decide) ?_
    refine n_iconst dL_napkin_15 (by decide) (fun r15 e15_z => ?_)
    refine r_iret dL_napkin_16 rfl (by first | exact Nat.le_of_ble_eq_true rfl | (dsimp only [zV, zVh, zVg, zrm]; omega) | omega) (by first | exact Nat.le_of_ble_eq_true rfl | (dsimp only [zV, zVh, zVg, zrm]; omega) | omega) ?_
    exact hq _ _ e15_z (by omega)
  · obtain ⟨rfl, hq⟩ := he
    refine x_catch [] { startPc := 0, endPc := 9, handlerPc := 12, catchType := 13 } [] rfl (fun z h_z => by cases h_z) (by decide) (by decide) zc_RL_13 (by decide +kernel) (fun q9_z => ?_)
    refine r_astore3 dL_napkin_12 rfl ?_
    refine n_iconst dL_napkin_13 (by decide) (fun r13 e13_z => ?_)
    refine r_iret dL_napkin_14 rfl (by first | exact Nat.le_of_ble_eq_true rfl | (dsimp only [zV, zVh, zVg, zrm]; omega) | omega) (by first | exact Nat.le_of_ble_eq_true rfl | (dsimp only [zV, zVh, zVg, zrm]; omega) | omega) ?_
    exact hq _ e13_z
theorem zw_cell : zlW RL 158 yL_cell cL_cell 5 (some .int) [(0, 10, 13, 19), (0, 10, 17, 13)] 4 := ⟨zt5 (List.mem_of_getElem? (i := 91) (by decide +kernel)) (by decide +kernel), zt5 (List.mem_of_getElem? (i := 92) (by decide +kernel)) (by decide +kernel), zini_RL, zt5 (List.mem_of_getElem? (i := 93) (by decide +kernel)) (by decide +kernel), by decide +kernel, by decide +kernel, by decide +kernel, by decide⟩
set_option maxHeartbeats 4000000 in
set_option maxRecDepth 100000 in
theorem w_cell {g : zGT} {w : zW} {X o d : Nat} {x0 : Int32} {x1 : Int32} {b : Nat × Nat} {Q : Option Value → zW → Prop} (G : zGok g) (hX : zK w X = 10) (hM_z : zC g d yX11_cell cX11_cell 4 (some .int) [.ref X, .int x0, .int x1] w b (fun r w2 => ∃ (x : Int32) (w3 : zW) (f : Nat → Nat → Int32) (j : Nat → Nat → Int64), r = some (.int x) ∧ w2 = zM w3 f j ∧ zK w3 o = 25 ∧ zN w3 o = 1 ∧ ∀ (q : Int32) (y : Int64), q.toInt = 0 → y.toInt = x.toInt → Q (some (.int q)) (zM w3 f (zu j o 0 y))) (fun E w2 => (E = "java/util/NoSuchElementException" ∧ ∀ q : Int32, q.toInt = 1 → Q (some (.int q)) w2) ∨ (E = "java/lang/IllegalArgumentException" ∧ ∀ q : Int32, q.toInt = 2 → Q (some (.int q)) w2))) : zCW g (d + 1) yL_cell cL_cell 5 (some .int) [(0, 10, 13, 19), (0, 10, 17, 13)] [.ref X, .int x0, .int x1, .ref o] w b Q := by
  refine zCW_of G (by decide +kernel) (Nat.le_of_ble_eq_true rfl) ?_
  refine r_aloadR3 dL_cell_0 ?_
  refine n_iconst dL_cell_1 (by decide) (fun r1 e1_z => ?_)
  refine r_aloadR0 dL_cell_2 ?_
  refine r_iload1 dL_cell_3 ?_
  refine r_iload2 dL_cell_4 ?_
  refine q_callV2 zm_RL_15 dL_cell_5 hX (by decide) rfl (by first | exact Nat.le_of_ble_eq_true rfl | (dsimp only [zV, zVh, zVg, zrm]; omega) | omega) (by first | exact Nat.le_of_ble_eq_true rfl | (dsimp only [zV, zVh, zVg, zrm]; omega) | omega) (by first | exact Nat.le_of_ble_eq_true rfl | (dsimp only [zV, zVh, zVg, zrm]; omega) | omega) (by first | exact Nat.le_of_ble_eq_true rfl | (dsimp only [zV, zVh, zVg, zrm]; omega) | omega) (by first | exact Nat.le_of_ble_eq_true rfl | (dsimp only [zV, zVh, zVg, zrm]; omega) | omega) (zC_mono hM_z (fun r w2 hr => ?_) (fun E w2 he => ?_))
  · obtain ⟨x, w3, f, j, rfl, rfl, ho, hn, hq⟩ := hr
    refine n_i2l dL_cell_8 (fun r8 e8 => ?_)
    refine m_last (k := 0) dL_cell_9 ho hn (by omega) (by omega) ?_
    refine r_goto (t := 21) dL_cell_10 (by decide) ?_
    refine n_iconst dL_cell_21 (by decide) (fun r21 e21_z => ?_)
    refine r_iret dL_cell_22 rfl (by first | exact Nat.le_of_ble_eq_true rfl | (dsimp only [zV, zVh, zVg, zrm]; omega) | omega) (by first | exact Nat.le_of_ble_eq_true rfl | (dsimp only [zV, zVh, zVg, zrm]; omega) | omega) ?_
    exact hq _ _ e21_z (by omega)
  · rcases he with ⟨rfl, hq⟩ | ⟨rfl, hq⟩
    · refine x_catch [] { startPc := 0, endPc := 10, handlerPc := 13, catchType := 19 } [{ startPc := 0, endPc := 10, handlerPc := 17, catchType := 13 }] rfl (fun z h_z => by cases h_z) (by decide) (by decide) zc_RL_19 (by decide +kernel) (fun q9_z => ?_)
      refine r_astore4 dL_cell_13 rfl ?_
      refine n_iconst dL_cell_15 (by decide) (fun r15 e15_z => ?_)
      refine r_iret dL_cell_16 rfl (by first | exact Nat.le_of_ble_eq_true rfl | (dsimp only [zV, zVh, zVg, zrm]; omega) | omega) (by first | exact Nat.le_of_ble_eq_true rfl | (dsimp only [zV, zVh, zVg, zrm]; omega) | omega) ?_
      exact hq _ e15_z
    · refine x_catch [{ startPc := 0, endPc := 10, handlerPc := 13, catchType := 19 }] { startPc := 0, endPc := 10, handlerPc := 17, catchType := 13 } [] rfl (fun z h_z => by rcases List.mem_singleton.mp h_z with rfl; exact ⟨by decide, _, zc_RL_19, by decide +kernel⟩) (by decide) (by decide) zc_RL_13 (by decide +kernel) (fun q9_z => ?_)
      refine r_astore4 dL_cell_17 rfl ?_
      refine n_iconst dL_cell_19 (by decide) (fun r19 e19_z => ?_)
      refine r_iret dL_cell_20 rfl (by first | exact Nat.le_of_ble_eq_true rfl | (dsimp only [zV, zVh, zVg, zrm]; omega) | omega) (by first | exact Nat.le_of_ble_eq_true rfl | (dsimp only [zV, zVh, zVg, zrm]; omega) | omega) ?_
      exact hq _ e19_z
theorem zw_high : zlW RL 162 yL_high cL_high 4 (some .int) [(0, 9, 12, 19)] 3 := ⟨zt5 (List.mem_of_getElem? (i := 128) (by decide +kernel)) (by decide +kernel), zt5 (List.mem_of_getElem? (i := 129) (by decide +kernel)) (by decide +kernel), zini_RL, zt5 (List.mem_of_getElem? (i := 130) (by decide +kernel)) (by decide +kernel), by decide +kernel, by decide +kernel, by decide +kernel, by decide⟩
set_option maxHeartbeats 4000000 in
set_option maxRecDepth 100000 in
theorem w_high {g : zGT} {w : zW} {X o d : Nat} {x0 : Int32} {b : Nat × Nat} {Q : Option Value → zW → Prop} (G : zGok g) (hX : zK w X = 10) (hM_z : zC g d yX11_high cX11_high 2 (some .int) [.ref X, .int x0] w b (fun r w2 => ∃ (x : Int32) (w3 : zW) (f : Nat → Nat → Int32) (j : Nat → Nat → Int64), r = some (.int x) ∧ w2 = zM w3 f j ∧ zK w3 o = 25 ∧ zN w3 o = 1 ∧ ∀ (q : Int32) (y : Int64), q.toInt = 0 → y.toInt = x.toInt → Q (some (.int q)) (zM w3 f (zu j o 0 y))) (fun E w2 => (E = "java/util/NoSuchElementException" ∧ ∀ q : Int32, q.toInt = 1 → Q (some (.int q)) w2))) : zCW g (d + 1) yL_high cL_high 4 (some .int) [(0, 9, 12, 19)] [.ref X, .int x0, .ref o] w b Q := by
  refine zCW_of G (by decide +kernel) (Nat.le_of_ble_eq_true rfl) ?_
  refine r_aloadR2 dL_high_0 ?_
  refine n_iconst dL_high_1 (by decide) (fun r1 e1_z => ?_)
  refine r_aloadR0 dL_high_2 ?_
  refine r_iload1 dL_high_3 ?_
  refine q_callV1 zm_RL_21 dL_high_4 hX (by decide) rfl (by first | exact Nat.le_of_ble_eq_true rfl | (dsimp only [zV, zVh, zVg, zrm]; omega) | omega) (by first | exact Nat.le_of_ble_eq_true rfl | (dsimp only [zV, zVh, zVg, zrm]; omega) | omega) (by first | exact Nat.le_of_ble_eq_true rfl | (dsimp only [zV, zVh, zVg, zrm]; omega) | omega) (by first | exact Nat.le_of_ble_eq_true rfl | (dsimp only [zV, zVh, zVg, zrm]; omega) | omega) (by first | exact Nat.le_of_ble_eq_true rfl | (dsimp only [zV, zVh, zVg, zrm]; omega) | omega) (zC_mono hM_z (fun r w2 hr => ?_) (fun E w2 he => ?_))
  · obtain ⟨x, w3, f, j, rfl, rfl, ho, hn, hq⟩ := hr
    refine n_i2l dL_high_7 (fun r7 e7_z => ?_)
    refine m_last (k := 0) dL_high_8 ho hn (by omega) (by omega) ?_
    refine r_goto (t := 15) dL_high_9 (by decide) ?_
    refine n_iconst dL_high_15 (by decide) (fun r15 e15_z => ?_)
    refine r_iret dL_high_16 rfl (by first | exact Nat.le_of_ble_eq_true rfl | (dsimp only [zV, zVh, zVg, zrm]; omega) | omega) (by first | exact Nat.le_of_ble_eq_true rfl | (dsimp only [zV, zVh, zVg, zrm]; omega) | omega) ?_
    exact hq _ _ e15_z (by omega)
  · obtain ⟨rfl, hq⟩ := he
    refine x_catch [] { startPc := 0, endPc := 9, handlerPc := 12, catchType := 19 } [] rfl (fun z h_z => by cases h_z) (by decide) (by decide) zc_RL_19 (by decide +kernel) (fun q9_z => ?_)
    refine r_astore3 dL_high_12 rfl ?_
    refine n_iconst dL_high_13 (by decide) (fun r13 e13_z => ?_)
    refine r_iret dL_high_14 rfl (by first | exact Nat.le_of_ble_eq_true rfl | (dsimp only [zV, zVh, zVg, zrm]; omega) | omega) (by first | exact Nat.le_of_ble_eq_true rfl | (dsimp only [zV, zVh, zVg, zrm]; omega) | omega) ?_
    exact hq _ e13_z
theorem zw_layer : zlW RL 165 yL_layer cL_layer 5 (some .int) [(0, 10, 13, 19), (0, 10, 17, 13)] 4 := ⟨zt5 (List.mem_of_getElem? (i := 141) (by decide +kernel)) (by decide +kernel), zt5 (List.mem_of_getElem? (i := 142) (by decide +kernel)) (by decide +kernel), zini_RL, zt5 (List.mem_of_getElem? (i := 143) (by decide +kernel)) (by decide +kernel), by decide +kernel, by decide +kernel, by decide +kernel, by decide⟩
set_option maxHeartbeats 4000000 in
set_option maxRecDepth 100000 in
theorem w_layer {g : zGT} {w : zW} {X o d : Nat} {x0 : Int32} {x1 : Int32} {b : Nat × Nat} {Q : Option Value → zW → Prop} (G : zGok g) (hX : zK w X = 10) (hM_z : zC g d yX11_layer cX11_layer 4 (some .int) [.ref X, .int x0, .int x1] w b (fun r w2 => ∃ (x : Int32) (w3 : zW) (f : Nat → Nat → Int32) (j : Nat → Nat → Int64), r = some (.int x) ∧ w2 = zM w3 f j ∧ zK w3 o = 25 ∧ zN w3 o = 1 ∧ ∀ (q : Int32) (y : Int64), q.toInt = 0 → y.toInt = x.toInt → Q (some (.int q)) (zM w3 f (zu j o 0 y))) (fun E w2 => (E = "java/util/NoSuchElementException" ∧ ∀ q : Int32, q.toInt = 1 → Q (some (.int q)) w2) ∨ (E = "java/lang/IllegalArgumentException" ∧ ∀ q : Int32, q.toInt = 2 → Q (some (.int q)) w2))) : zCW g (d + 1) yL_layer cL_layer 5 (some .int) [(0, 10, 13, 19), (0, 10, 17, 13)] [.ref X, .int x0, .int x1, .ref o] w b Q := by
  refine zCW_of G (by decide +kernel) (Nat.le_of_ble_eq_true rfl) ?_
  refine r_aloadR3 dL_layer_0 ?_
  refine n_iconst dL_layer_1 (by decide) (fun r1 e1_z => ?_)
  refine r_aloadR0 dL_layer_2 ?_
  refine r_iload1 dL_layer_3 ?_
  refine r_iload2 dL_layer_4 ?_
  refine q_callV2 zm_RL_24 dL_layer_5 hX (by decide) rfl (by first | exact Nat.le_of_ble_eq_true rfl | (dsimp only [zV, zVh, zVg, zrm]; omega) | omega) (by first | exact Nat.le_of_ble_eq_true rfl | (dsimp only [zV, zVh, zVg, zrm]; omega) | omega) (by first | exact Nat.le_of_ble_eq_true rfl | (dsimp only [zV, zVh, zVg, zrm]; omega) | omega) (by first | exact Nat.le_of_ble_eq_true rfl | (dsimp only [zV, zVh, zVg, zrm]; omega) | omega) (by first | exact Nat.le_of_ble_eq_true rfl | (dsimp only [zV, zVh, zVg, zrm]; omega) | omega) (zC_mono hM_z (fun r w2 hr => ?_) (fun E w2 he => ?_))
  · obtain ⟨x, w3, f, j, rfl, rfl, ho, hn, hq⟩ := hr
    refine n_i2l dL_layer_8 (fun r8 e8 => ?_)
    refine m_last (k := 0) dL_layer_9 ho hn (by omega) (by omega) ?_
    refine r_goto (t := 21) dL_layer_10 (by decide) ?_
    refine n_iconst dL_layer_21 (by decide) (fun r21 e21_z => ?_)
    refine r_iret dL_layer_22 rfl (by first | exact Nat.le_of_ble_eq_true rfl | (dsimp only [zV, zVh, zVg, zrm]; omega) | omega) (by first | exact Nat.le_of_ble_eq_true rfl | (dsimp only [zV, zVh, zVg, zrm]; omega) | omega) ?_
    exact hq _ _ e21_z (by omega)
  · rcases he with ⟨rfl, hq⟩ | ⟨rfl, hq⟩
    · refine x_catch [] { startPc := 0, endPc := 10, handlerPc := 13, catchType := 19 } [{ startPc := 0, endPc := 10, handlerPc := 17, catchType := 13 }] rfl (fun z h_z => by cases h_z) (by decide) (by decide) zc_RL_19 (by decide +kernel) (fun q9_z => ?_)
      refine r_astore4 dL_layer_13 rfl ?_
      refine n_iconst dL_layer_15 (by decide) (fun r15 e15_z => ?_)
      refine r_iret dL_layer_16 rfl (by first | exact Nat.le_of_ble_eq_true rfl | (dsimp only [zV, zVh, zVg, zrm]; omega) | omega) (by first | exact Nat.le_of_ble_eq_true rfl | (dsimp only [zV, zVh, zVg, zrm]; omega) | omega) ?_
      exact hq _ e15_z
    · refine x_catch [{ startPc := 0, endPc := 10, handlerPc := 13, catchType := 19 }] { startPc := 0, endPc := 10, handlerPc := 17, catchType := 13 } [] rfl (fun z h_z => by rcases List.mem_singleton.mp h_z with rfl; exact ⟨by decide, _, zc_RL_19, by decide +kernel⟩) (by decide) (by decide) zc_RL_13 (by decide +kernel) (fun q9_z => ?_)
      refine r_astore4 dL_layer_17 rfl ?_
      refine n_iconst dL_layer_19 (by decide) (fun r19 e19_z => ?_)
      refine r_iret dL_layer_20 rfl (by first | exact Nat.le_of_ble_eq_true rfl | (dsimp only [zV, zVh, zVg, zrm]; omega) | omega) (by first | exact Nat.le_of_ble_eq_true rfl | (dsimp only [zV, zVh, zVg, zrm]; omega) | omega) ?_
      exact hq _ e19_z
theorem zw_above : zlW RL 168 yL_above cL_above 4 (some .int) [(0, 9, 12, 19)] 3 := ⟨zt5 (List.mem_of_getElem? (i := 150) (by decide +kernel)) (by decide +kernel), zt5 (List.mem_of_getElem? (i := 151) (by decide +kernel)) (by decide +kernel), zini_RL, zt5 (List.mem_of_getElem? (i := 152) (by decide +kernel)) (by decide +kernel), by decide +kernel, by decide +kernel, by decide +kernel, by decide⟩
set_option maxHeartbeats 4000000 in
set_option maxRecDepth 100000 in
theorem w_above {g : zGT} {w : zW} {X o d : Nat} {x0 : Int32} {b : Nat × Nat} {Q : Option Value → zW → Prop} (G : zGok g) (hX : zK w X = 10) (hM_z : zC g d yX11_above cX11_above 2 (some .int) [.ref X, .int x0] w b (fun r w2 => ∃ (x : Int32) (w3 : zW) (f : Nat → Nat → Int32) (j : Nat → Nat → Int64), r = some (.int x) ∧ w2 = zM w3 f j ∧ zK w3 o = 25 ∧ zN w3 o = 1 ∧ ∀ (q : Int32) (y : Int64), q.toInt = 0 → y.toInt = x.toInt → Q (some (.int q)) (zM w3 f (zu j o 0 y))) (fun E w2 => (E = "java/util/NoSuchElementException" ∧ ∀ q : Int32, q.toInt = 1 → Q (some (.int q)) w2))) : zCW g (d + 1) yL_above cL_above 4 (some .int) [(0, 9, 12, 19)] [.ref X, .int x0, .ref o] w b Q := by
  refine zCW_of G (by decide +kernel) (Nat.le_of_ble_eq_true rfl) ?_
  refine r_aloadR2 dL_above_0 ?_
  refine n_iconst dL_above_1 (by decide) (fun r1 e1_z => ?_)
  refine r_aloadR0 dL_above_2 ?_
  refine r_iload1 dL_above_3 ?_
  refine q_callV1 zm_RL_27 dL_above_4 hX (by decide) rfl (by first | exact Nat.le_of_ble_eq_true rfl | (dsimp only [zV, zVh, zVg, zrm]; omega) | omega) (by first | exact Nat.le_of_ble_eq_true rfl | (dsimp only [zV, zVh, zVg, zrm]; omega) | omega) (by first | exact Nat.le_of_ble_eq_true rfl | (dsimp only [zV, zVh, zVg, zrm]; omega) | omega) (by first | exact Nat.le_of_ble_eq_true rfl | (dsimp only [zV, zVh, zVg, zrm]; omega) | omega) (by first | exact Nat.le_of_ble_eq_true rfl | (dsimp only [zV, zVh, zVg, zrm]; omega) | omega) (zC_mono hM_z (fun r w2 hr => ?_) (fun E w2 he => ?_))
  · obtain ⟨x, w3, f, j, rfl, rfl, ho, hn, hq⟩ := hr
    refine n_i2l dL_above_7 (fun r7 e7_z => ?_)
    refine m_last (k := 0) dL_above_8 ho hn (by omega) (by omega) ?_
    refine r_goto (t := 15) dL_above_9 (by decide) ?_
    refine n_iconst dL_above_15 (by decide) (fun r15 e15_z => ?_)
    refine r_iret dL_above_16 rfl (by first | exact Nat.le_of_ble_eq_true rfl | (dsimp only [zV, zVh, zVg, zrm]; omega) | omega) (by first | exact Nat.le_of_ble_eq_true rfl | (dsimp only [zV, zVh, zVg, zrm]; omega) | omega) ?_
    exact hq _ _ e15_z (by omega)
  · obtain ⟨rfl, hq⟩ := he
    refine x_catch [] { startPc := 0, endPc := 9, handlerPc := 12, catchType := 19 } [] rfl (fun z h_z => by cases h_z) (by decide) (by decide) zc_RL_19 (by decide +kernel) (fun q9_z => ?_)
    refine r_astore3 dL_above_12 rfl ?_
    refine n_iconst dL_above_13 (by decide) (fun r13 e13_z => ?_)
    refine r_iret dL_above_14 rfl (by first | exact Nat.le_of_ble_eq_true rfl | (dsimp only [zV, zVh, zVg, zrm]; omega) | omega) (by first | exact Nat.le_of_ble_eq_true rfl | (dsimp only [zV, zVh, zVg, zrm]; omega) | omega) ?_
    exact hq _ e13_z
theorem zw_beneath : zlW RL 171 yL_beneath cL_beneath 4 (some .int) [(0, 9, 12, 19)] 3 := ⟨zt5 (List.mem_of_getElem? (i := 158) (by decide +kernel)) (by decide +kernel), zt5 (List.mem_of_getElem? (i := 159) (by decide +kernel)) (by decide +kernel), zini_RL, zt5 (List.mem_of_getElem? (i := 160) (by decide +kernel)) (by decide +kernel), by decide +kernel, by decide +kernel, by decide +kernel, by decide⟩
set_option maxHeartbeats 4000000 in
set_option maxRecDepth 100000 in
theorem w_beneath {g : zGT} {w : zW} {X o d : Nat} {x0 : Int32} {b : Nat × Nat} {Q : Option Value → zW → Prop} (G : zGok g) (hX : zK w X = 10) (hM_z : zC g d yX11_beneath cX11_beneath 2 (some .int) [.ref X, .int x0] w b (fun r w2 => ∃ (x : Int32) (w3 : zW) (f : Nat → Nat → Int32) (j : Nat → Nat → Int64), r = some (.int x) ∧ w2 = zM w3 f j ∧ zK w3 o = 25 ∧ zN w3 o = 1 ∧ ∀ (q : Int32) (y : Int64), q.toInt = 0 → y.toInt = x.toInt → Q (some (.int q)) (zM w3 f (zu j o 0 y))) (fun E w2 => (E = "java/util/NoSuchElementException" ∧ ∀ q : Int32, q.toInt = 1 → Q (some (.int q)) w2))) : zCW g (d + 1) yL_beneath cL_beneath 4 (some .int) [(0, 9, 12, 19)] [.ref X, .int x0, .ref o] w b Q := by
  refine zCW_of G (by decide +kernel) (Nat.le_of_ble_eq_true rfl) ?_
  refine r_aloadR2 dL_beneath_0 ?_
  refine n_iconst dL_beneath_1 (by decide) (fun r1 e1_z => ?_)
  refine r_aloadR0 dL_beneath_2 ?_
  refine r_iload1 dL_beneath_3 ?_
  refine q_callV1 zm_RL_30 dL_beneath_4 hX (by decide) rfl (by first | exact Nat.le_of_ble_eq_true rfl | (dsimp only [zV, zVh, zVg, zrm]; omega) | omega) (by first | exact Nat.le_of_ble_eq_true rfl | (dsimp only [zV, zVh, zVg, zrm]; omega) | omega) (by first | exact Nat.le_of_ble_eq_true rfl | (dsimp only [zV, zVh, zVg, zrm]; omega) | omega) (by first | exact Nat.le_of_ble_eq_true rfl | (dsimp only [zV, zVh, zVg, zrm]; omega) | omega) (by first | exact Nat.le_of_ble_eq_true rfl | (dsimp only [zV, zVh, zVg, zrm]; omega) | omega) (zC_mono hM_z (fun r w2 hr => ?_) (fun E w2 he => ?_))
  · obtain ⟨x, w3, f, j, rfl, rfl, ho, hn, hq⟩ := hr
    refine n_i2l dL_beneath_7 (fun r7 e7_z => ?_)
    refine m_last (k := 0) dL_beneath_8 ho hn (by omega) (by omega) ?_
    refine r_goto (t := 15) dL_beneath_9 (by decide) ?_
    refine n_iconst dL_beneath_15 (by decide) (fun r15 e15_z => ?_)
    refine r_iret dL_beneath_16 rfl (by first | exact Nat.le_of_ble_eq_true rfl | (dsimp only [zV, zVh, zVg, zrm]; omega) | omega) (by first | exact Nat.le_of_ble_eq_true rfl | (dsimp only [zV, zVh, zVg, zrm]; omega) | omega) ?_
    exact hq _ _ e15_z (by omega)
  · obtain ⟨rfl, hq⟩ := he
    refine x_catch [] { startPc := 0, endPc := 9, handlerPc := 12, catchType := 19 } [] rfl (fun z h_z => by cases h_z) (by decide) (by decide) zc_RL_19 (by decide +kernel) (fun q9_z => ?_)
    refine r_astore3 dL_beneath_12 rfl ?_
    refine n_iconst dL_beneath_13 (by decide) (fun r13 e13_z => ?_)
    refine r_iret dL_beneath_14 rfl (by first | exact Nat.le_of_ble_eq_true rfl | (dsimp only [zV, zVh, zVg, zrm]; omega) | omega) (by first | exact Nat.le_of_ble_eq_true rfl | (dsimp only [zV, zVh, zVg, zrm]; omega) | omega) ?_
    exact hq _ e13_z
theorem zw_crease : zlW RL 174 yL_crease cL_crease 4 (some .int) [(0, 9, 12, 19)] 3 := ⟨zt5 (List.mem_of_getElem? (i := 166) (by decide +kernel)) (by decide +kernel), zt5 (List.mem_of_getElem? (i := 167) (by decide +kernel)) (by decide +kernel), zini_RL, zt5 (List.mem_of_getElem? (i := 168) (by decide +kernel)) (by decide +kernel), by decide +kernel, by decide +kernel, by decide +kernel, by decide⟩
set_option maxHeartbeats 4000000 in
set_option maxRecDepth 100000 in
theorem w_crease {g : zGT} {w : zW} {X o d : Nat} {x0 : Int32} {b : Nat × Nat} {Q : Option Value → zW → Prop} (G : zGok g) (hX : zK w X = 10) (hM_z : zC g d yX11_crease cX11_crease 2 (some .int) [.ref X, .int x0] w b (fun r w2 => ∃ (x : Int32) (w3 : zW) (f : Nat → Nat → Int32) (j : Nat → Nat → Int64), r = some (.int x) ∧ w2 = zM w3 f j ∧ zK w3 o = 25 ∧ zN w3 o = 1 ∧ ∀ (q : Int32) (y : Int64), q.toInt = 0 → y.toInt = x.toInt → Q (some (.int q)) (zM w3 f (zu j o 0 y))) (fun E w2 => (E = "java/util/NoSuchElementException" ∧ ∀ q : Int32, q.toInt = 1 → Q (some (.int q)) w2))) : zCW g (d + 1) yL_crease cL_crease 4 (some .int) [(0, 9, 12, 19)] [.ref X, .int x0, .ref o] w b Q := by
  refine zCW_of G (by decide +kernel) (Nat.le_of_ble_eq_true rfl) ?_
  refine r_aloadR2 dL_crease_0 ?_
  refine n_iconst dL_crease_1 (by decide) (fun r1 e1_z => ?_)
  refine r_aloadR0 dL_crease_2 ?_
  refine r_iload1 dL_crease_3 ?_
  refine q_callV1 zm_RL_33 dL_crease_4 hX (by decide) rfl (by first | exact Nat.le_of_ble_eq_true rfl | (dsimp only [zV, zVh, zVg, zrm]; omega) | omega) (by first | exact Nat.le_of_ble_eq_true rfl | (dsimp only [zV, zVh, zVg, zrm]; omega) | omega) (by first | exact Nat.le_of_ble_eq_true rfl | (dsimp only [zV, zVh, zVg, zrm]; omega) | omega) (by first | exact Nat.le_of_ble_eq_true rfl | (dsimp only [zV, zVh, zVg, zrm]; omega) | omega) (by first | exact Nat.le_of_ble_eq_true rfl | (dsimp only [zV, zVh, zVg, zrm]; omega) | omega) (zC_mono hM_z (fun r w2 hr => ?_) (fun E w2 he => ?_))
  · obtain ⟨x, w3, f, j, rfl, rfl, ho, hn, hq⟩ := hr
    refine n_i2l dL_crease_7 (fun r7 e7_z => ?_)
    refine m_last (k := 0) dL_crease_8 ho hn (by omega) (by omega) ?_
    refine r_goto (t := 15) dL_crease_9 (by decide) ?_
    refine n_iconst dL_crease_15 (by decide) (fun r15 e15_z => ?_)
    refine r_iret dL_crease_16 rfl (by first | exact Nat.le_of_ble_eq_true rfl | (dsimp only [zV, zVh, zVg, zrm]; omega) | omega) (by first | exact Nat.le_of_ble_eq_true rfl | (dsimp only [zV, zVh, zVg, zrm]; omega) | omega) ?_
    exact hq _ _ e15_z (by omega)
  · obtain ⟨rfl, hq⟩ := he
    refine x_catch [] { startPc := 0, endPc := 9, handlerPc := 12, catchType := 19 } [] rfl (fun z h_z => by cases h_z) (by decide) (by decide) zc_RL_19 (by decide +kernel) (fun q9_z => ?_)
    refine r_astore3 dL_crease_12 rfl ?_
    refine n_iconst dL_crease_13 (by decide) (fun r13 e13_z => ?_)
    refine r_iret dL_crease_14 rfl (by first | exact Nat.le_of_ble_eq_true rfl | (dsimp only [zV, zVh, zVg, zrm]; omega) | omega) (by first | exact Nat.le_of_ble_eq_true rfl | (dsimp only [zV, zVh, zVg, zrm]; omega) | omega) ?_
    exact hq _ e13_z
theorem zw_folded : zlW RL 177 yL_folded cL_folded 4 (some .int) [(0, 9, 12, 13)] 3 := ⟨zt5 (List.mem_of_getElem? (i := 175) (by decide +kernel)) (by decide +kernel), zt5 (List.mem_of_getElem? (i := 176) (by decide +kernel)) (by decide +kernel), zini_RL, zt5 (List.mem_of_getElem? (i := 177) (by decide +kernel)) (by decide +kernel), by decide +kernel, by decide +kernel, by decide +kernel, by decide⟩
set_option maxHeartbeats 4000000 in
set_option maxRecDepth 100000 in
theorem w_folded {g : zGT} {w : zW} {X o d : Nat} {x0 : Int32} {b : Nat × Nat} {Q : Option Value → zW → Prop} (G : zGok g) (hX : zK w X = 10) (hM_z : zC g d yX11_folded cX11_folded 2 (some .int) [.ref X, .int x0] w b (fun r w2 => ∃ (x : Int32) (w3 : zW) (f : Nat → Nat → Int32) (j : Nat → Nat → Int64), r = some (.int x) ∧ w2 = zM w3 f j ∧ zK w3 o = 25 ∧ zN w3 o = 1 ∧ ∀ (q : Int32) (y : Int64), q.toInt = 0 → y.toInt = x.toInt → Q (some (.int q)) (zM w3 f (zu j o 0 y))) (fun E w2 => (E = "java/lang/IllegalArgumentException" ∧ ∀ q : Int32, q.toInt = 1 → Q (some (.int q)) w2))) : zCW g (d + 1) yL_folded cL_folded 4 (some .int) [(0, 9, 12, 13)] [.ref X, .int x0, .ref o] w b Q := by
  refine zCW_of G (by decide +kernel) (Nat.le_of_ble_eq_true rfl) ?_
  refine r_aloadR2 dL_folded_0 ?_
  refine n_iconst dL_folded_1 (by decide) (fun r1 e1_z => ?_)
  refine r_aloadR0 dL_folded_2 ?_
  refine r_iload1 dL_folded_3 ?_
  refine q_callV1 zm_RL_36 dL_folded_4 hX (by decide) rfl (by first | exact Nat.le_of_ble_eq_true rfl | (dsimp only [zV, zVh, zVg, zrm]; omega) | omega) (by first | exact Nat.le_of_ble_eq_true rfl | (dsimp only [zV, zVh, zVg, zrm]; omega) | omega) (by first | exact Nat.le_of_ble_eq_true rfl | (dsimp only [zV, zVh, zVg, zrm]; omega) | omega) (by first | exact Nat.le_of_ble_eq_true rfl | (dsimp only [zV, zVh, zVg, zrm]; omega) | omega) (by first | exact Nat.le_of_ble_eq_true rfl | (dsimp only [zV, zVh, zVg, zrm]; omega) | omega) (zC_mono hM_z (fun r w2 hr => ?_) (fun E w2 he => ?_))
  · obtain ⟨x, w3, f, j, rfl, rfl, ho, hn, hq⟩ := hr
    refine n_i2l dL_folded_7 (fun r7 e7_z => ?_)
    refine m_last (k := 0) dL_folded_8 ho hn (by omega) (by omega) ?_
    refine r_goto (t := 15) dL_folded_9 (by decide) ?_
    refine n_iconst dL_folded_15 (by decide) (fun r15 e15_z => ?_)
    refine r_iret dL_folded_16 rfl (by first | exact Nat.le_of_ble_eq_true rfl | (dsimp only [zV, zVh, zVg, zrm]; omega) | omega) (by first | exact Nat.le_of_ble_eq_true rfl | (dsimp only [zV, zVh, zVg, zrm]; omega) | omega) ?_
    exact hq _ _ e15_z (by omega)
  · obtain ⟨rfl, hq⟩ := he
    refine x_catch [] { startPc := 0, endPc := 9, handlerPc := 12, catchType := 13 } [] rfl (fun z h_z => by cases h_z) (by decide) (by decide) zc_RL_13 (by decide +kernel) (fun q9_z => ?_)
    refine r_astore3 dL_folded_12 rfl ?_
    refine n_iconst dL_folded_13 (by decide) (fun r13 e13_z => ?_)
    refine r_iret dL_folded_14 rfl (by first | exact Nat.le_of_ble_eq_true rfl | (dsimp only [zV, zVh, zVg, zrm]; omega) | omega) (by first | exact Nat.le_of_ble_eq_true rfl | (dsimp only [zV, zVh, zVg, zrm]; omega) | omega) ?_
    exact hq _ e13_z
theorem zw_likes : zlW RL 189 yL_likes cL_likes 4 (some .int) [(0, 9, 12, 19)] 3 := ⟨zt5 (List.mem_of_getElem? (i := 183) (by decide +kernel)) (by decide +kernel), zt5 (List.mem_of_getElem? (i := 184) (by decide +kernel)) (by decide +kernel), zini_RL, zt5 (List.mem_of_getElem? (i := 185) (by decide +kernel)) (by decide +kernel), by decide +kernel, by decide +kernel, by decide +kernel, by decide⟩
set_option maxHeartbeats 4000000 in
set_option maxRecDepth 100000 in
theorem w_likes {g : zGT} {w : zW} {X o d : Nat} {x0 : Int32} {b : Nat × Nat} {Q : Option Value → zW → Prop} (G : zGok g) (hX : zK w X = 10) (hM_z : zC g d yX11_likes cX11_likes 2 (some .int) [.ref X, .int x0] w b (fun r w2 => ∃ (x : Int32) (w3 : zW) (f : Nat → Nat → Int32) (j : Nat → Nat → Int64), r = some (.int x) ∧ w2 = zM w3 f j ∧ zK w3 o = 25 ∧ zN w3 o = 1 ∧ ∀ (q : Int32) (y : Int64), q.toInt = 0 → y.toInt = x.toInt → Q (some (.int q)) (zM w3 f (zu j o 0 y))) (fun E w2 => (E = "java/util/NoSuchElementException" ∧ ∀ q : Int32, q.toInt = 1 → Q (some (.int q)) w2))) : zCW g (d + 1) yL_likes cL_likes 4 (some .int) [(0, 9, 12, 19)] [.ref X, .int x0, .ref o] w b Q := by
  refine zCW_of G (by decide +kernel) (Nat.le_of_ble_eq_true rfl) ?_
  refine r_aloadR2 dL_likes_0 ?_
  refine n_iconst dL_likes_1 (by decide) (fun r1 e1_z => ?_)
  refine r_aloadR0 dL_likes_2 ?_
  refine r_iload1 dL_likes_3 ?_
  refine q_callV1 zm_RL_39 dL_likes_4 hX (by decide) rfl (by first | exact Nat.le_of_ble_eq_true rfl | (dsimp only [zV, zVh, zVg, zrm]; omega) | omega) (by first | exact Nat.le_of_ble_eq_true rfl | (dsimp only [zV, zVh, zVg, zrm]; omega) | omega) (by first | exact Nat.le_of_ble_eq_true rfl | (dsimp only [zV, zVh, zVg, zrm]; omega) | omega) (by first | exact Nat.le_of_ble_eq_true rfl | (dsimp only [zV, zVh, zVg, zrm]; omega) | omega) (by first | exact Nat.le_of_ble_eq_true rfl | (dsimp only [zV, zVh, zVg, zrm]; omega) | omega) (zC_mono hM_z (fun r w2 hr => ?_) (fun E w2 he => ?_))
  · obtain ⟨x, w3, f, j, rfl, rfl, ho, hn, hq⟩ := hr
    refine n_i2l dL_likes_7 (fun r7 e7_z => ?_)
    refine m_last (k := 0) dL_likes_8 ho hn (by omega) (by omega) ?_
    refine r_goto (t := 15) dL_likes_9 (by decide) ?_
    refine n_iconst dL_likes_15 (by decide) (fun r15 e15_z => ?_)
    refine r_iret dL_likes_16 rfl (by first | exact Nat.le_of_ble_eq_true rfl | (dsimp only [zV, zVh, zVg, zrm]; omega) | omega) (by first | exact Nat.le_of_ble_eq_true rfl | (dsimp only [zV, zVh, zVg, zrm]; omega) | omega) ?_
    exact hq _ _ e15_z (by omega)
  · obtain ⟨rfl, hq⟩ := he
    refine x_catch [] { startPc := 0, endPc := 9, handlerPc := 12, catchType := 19 } [] rfl (fun z h_z => by cases h_z) (by decide) (by decide) zc_RL_19 (by decide +kernel) (fun q9_z => ?_)
    refine r_astore3 dL_likes_12 rfl ?_
    refine n_iconst dL_likes_13 (by decide) (fun r13 e13_z => ?_)
    refine r_iret dL_likes_14 rfl (by first | exact Nat.le_of_ble_eq_true rfl | (dsimp only [zV, zVh, zVg, zrm]; omega) | omega) (by first | exact Nat.le_of_ble_eq_true rfl | (dsimp only [zV, zVh, zVg, zrm]; omega) | omega) ?_
    exact hq _ e13_z
theorem zw_unfold : zlW RL 196 yL_unfold cL_unfold 3 (some .int) [(0, 8, 11, 46)] 2 := ⟨zt5 (List.mem_of_getElem? (i := 191) (by decide +kernel)) (by decide +kernel), zt5 (List.mem_of_getElem? (i := 192) (by decide +kernel)) (by decide +kernel), zini_RL, zt5 (List.mem_of_getElem? (i := 193) (by decide +kernel)) (by decide +kernel), by decide +kernel, by decide +kernel, by decide +kernel, by decide⟩
set_option maxHeartbeats 4000000 in
set_option maxRecDepth 100000 in
theorem w_unfold {g : zGT} {w : zW} {X o d : Nat}  {b : Nat × Nat} {Q : Option Value → zW → Prop} (G : zGok g) (hX : zK w X = 10) (hM_z : zC g d yX11_unfold cX11_unfold 1 (some .int) [.ref X] w b (fun r w2 => ∃ (x : Int32) (w3 : zW) (f : Nat → Nat → Int32) (j : Nat → Nat → Int64), r = some (.int x) ∧ w2 = zM w3 f j ∧ zK w3 o = 25 ∧ zN w3 o = 1 ∧ ∀ (q : Int32) (y : Int64), q.toInt = 0 → y.toInt = x.toInt → Q (some (.int q)) (zM w3 f (zu j o 0 y))) (fun E w2 => (E = "java/lang/IllegalStateException" ∧ ∀ q : Int32, q.toInt = 1 → Q (some (.int q)) w2))) : zCW g (d + 1) yL_unfold cL_unfold 3 (some .int) [(0, 8, 11, 46)] [.ref X, .ref o] w b Q := by
  refine zCW_of G (by decide +kernel) (Nat.le_of_ble_eq_true rfl) ?_
  refine r_aloadR1 dL_unfold_0 ?_
  refine n_iconst dL_unfold_1 (by decide) (fun r1 e1_z => ?_)
  refine r_aloadR0 dL_unfold_2 ?_
  refine q_callV0 zm_RL_42 dL_unfold_3 hX (by decide) rfl (by first | exact Nat.le_of_ble_eq_true rfl | (dsimp only [zV, zVh, zVg, zrm]; omega) | omega) (by first | exact Nat.le_of_ble_eq_true rfl | (dsimp only [zV, zVh, zVg, zrm]; omega) | omega) (by first | exact Nat.le_of_ble_eq_true rfl | (dsimp only [zV, zVh, zVg, zrm]; omega) | omega) (by first | exact Nat.le_of_ble_eq_true rfl | (dsimp only [zV, zVh, zVg, zrm]; omega) | omega) (by first | exact Nat.le_of_ble_eq_true rfl | (dsimp only [zV, zVh, zVg, zrm]; omega) | omega) (zC_mono hM_z (fun r w2 hr => ?_) (fun E w2 he => ?_))
  · obtain ⟨x, w3, f, j, rfl, rfl, ho, hn, hq⟩ := hr
    refine n_i2l dL_unfold_6 (fun r6 e6_z => ?_)
    refine m_last (k := 0) dL_unfold_7 ho hn (by omega) (by omega) ?_
    refine r_goto (t := 14) dL_unfold_8 (by decide) ?_
    refine n_iconst dL_unfold_14 (by decide) (fun r14 e14_z => ?_)
    refine r_iret dL_unfold_15 rfl (by first | exact Nat.le_of_ble_eq_true rfl | (dsimp only [zV, zVh, zVg, zrm]; omega) | omega) (by first | exact Nat.le_of_ble_eq_true rfl | (dsimp only [zV, zVh, zVg, zrm]; omega) | omega) ?_
    exact hq _ _ e14_z (by omega)
  · obtain ⟨rfl, hq⟩ := he
    refine x_catch [] { startPc := 0, endPc := 8, handlerPc := 11, catchType := 46 } [] rfl (fun z h_z => by cases h_z) (by decide) (by decide) zc_RL_46 (by decide +kernel) (fun q9_z => ?_)
    refine r_astore2 dL_unfold_11 rfl ?_
    refine n_iconst dL_unfold_12 (by decide) (fun r12 e12_z => ?_)
    refine r_iret dL_unfold_13 rfl (by first | exact Nat.le_of_ble_eq_true rfl | (dsimp only [zV, zVh, zVg, zrm]; omega) | omega) (by first | exact Nat.le_of_ble_eq_true rfl | (dsimp only [zV, zVh, zVg, zrm]; omega) | omega) ?_
    exact hq _ e12_z
theorem zw_shake : zlW RL 200 yL_shake cL_shake 3 (some .int) [(0, 8, 11, 46)] 2 := ⟨zt5 (List.mem_of_getElem? (i := 219) (by decide +kernel)) (by decide +kernel), zt5 (List.mem_of_getElem? (i := 220) (by decide +kernel)) (by decide +kernel), zini_RL, zt5 (List.mem_of_getElem? (i := 221) (by decide +kernel)) (by decide +kernel), by decide +kernel, by decide +kernel, by decide +kernel, by decide⟩
set_option maxHeartbeats 4000000 in
set_option maxRecDepth 100000 in
theorem w_shake {g : zGT} {w : zW} {X o d : Nat}  {b : Nat × Nat} {Q : Option Value → zW → Prop} (G : zGok g) (hX : zK w X = 10) (hM_z : zC g d yX11_shake cX11_shake 2 (some .int) [.ref X] w b (fun r w2 => ∃ (x : Int32) (w3 : zW) (f : Nat → Nat → Int32) (j : Nat → Nat → Int64), r = some (.int x) ∧ w2 = zM w3 f j ∧ zK w3 o = 25 ∧ zN w3 o = 1 ∧ ∀ (q : Int32) (y : Int64), q.toInt = 0 → y.toInt = x.toInt → Q (some (.int q)) (zM w3 f (zu j o 0 y))) (fun E w2 => (E = "java/lang/IllegalStateException" ∧ ∀ q : Int32, q.toInt = 1 → Q (some (.int q)) w2))) : zCW g (d + 1) yL_shake cL_shake 3 (some .int) [(0, 8, 11, 46)] [.ref X, .ref o] w b Q := by
  refine zCW_of G (by decide +kernel) (Nat.le_of_ble_eq_true rfl) ?_
  refine r_aloadR1 dL_shake_0 ?_
  refine n_iconst dL_shake_1 (by decide) (fun r1 e1_z => ?_)
  refine r_aloadR0 dL_shake_2 ?_
  refine q_callV0 zm_RL_48 dL_shake_3 hX (by decide) rfl (by first | exact Nat.le_of_ble_eq_true rfl | (dsimp only [zV, zVh, zVg, zrm]; omega) | omega) (by first | exact Nat.le_of_ble_eq_true rfl | (dsimp only [zV, zVh, zVg, zrm]; omega) | omega) (by first | exact Nat.le_of_ble_eq_true rfl | (dsimp only [zV, zVh, zVg, zrm]; omega) | omega) (by first | exact Nat.le_of_ble_eq_true rfl | (dsimp only [zV, zVh, zVg, zrm]; omega) | omega) (by first | exact Nat.le_of_ble_eq_true rfl | (dsimp only [zV, zVh, zVg, zrm]; omega) | omega) (zC_mono hM_z (fun r w2 hr => ?_) (fun E w2 he => ?_))
  · obtain ⟨x, w3, f, j, rfl, rfl, ho, hn, hq⟩ := hr
    refine n_i2l dL_shake_6 (fun r6 e6_z => ?_)
    refine m_last (k := 0) dL_shake_7 ho hn (by omega) (by omega) ?_
    refine r_goto (t := 14) dL_shake_8 (by decide) ?_
    refine n_iconst dL_shake_14 (by decide) (fun r14 e14_z => ?_)
    refine r_iret dL_shake_15 rfl (by first | exact Nat.le_of_ble_eq_true rfl | (dsimp only [zV, zVh, zVg, zrm]; omega) | omega) (by first | exact Nat.le_of_ble_eq_true rfl | (dsimp only [zV, zVh, zVg, zrm]; omega) | omega) ?_
    exact hq _ _ e14_z (by omega)
  · obtain ⟨rfl, hq⟩ := he
    refine x_catch [] { startPc := 0, endPc := 8, handlerPc := 11, catchType := 46 } [] rfl (fun z h_z => by cases h_z) (by decide) (by decide) zc_RL_46 (by decide +kernel) (fun q9_z => ?_)
    refine r_astore2 dL_shake_11 rfl ?_
    refine n_iconst dL_shake_12 (by decide) (fun r12 e12_z => ?_)
    refine r_iret dL_shake_13 rfl (by first | exact Nat.le_of_ble_eq_true rfl | (dsimp only [zV, zVh, zVg, zrm]; omega) | omega) (by first | exact Nat.le_of_ble_eq_true rfl | (dsimp only [zV, zVh, zVg, zrm]; omega) | omega) ?_
    exact hq _ e12_z
theorem zw_amend : zlW RL 203 yL_amend cL_amend 6 (some .int) [(0, 12, 15, 19), (0, 12, 19, 13)] 5 := ⟨zt5 (List.mem_of_getElem? (i := 226) (by decide +kernel)) (by decide +kernel), zt5 (List.mem_of_getElem? (i := 227) (by decide +kernel)) (by decide +kernel), zini_RL, zt5 (List.mem_of_getElem? (i := 228) (by decide +kernel)) (by decide +kernel), by decide +kernel, by decide +kernel, by decide +kernel, by decide⟩
set_option maxHeartbeats 4000000 in
set_option maxRecDepth 100000 in
theorem w_amend {g : zGT} {w : zW} {X o d : Nat} {x0 : Int32} {x1 : Int32} {x2 : Int32} {b : Nat × Nat} {Q : Option Value → zW → Prop} (G : zGok g) (hX : zK w X = 10) (hM_z : zC g d yX11_amend cX11_amend 5 (some .int) [.ref X, .int x0, .int x1, .int x2] w b (fun r w2 => ∃ (x : Int32) (w3 : zW) (f : Nat → Nat → Int32) (j : Nat → Nat → Int64), r = some (.int x) ∧ w2 = zM w3 f j ∧ zK w3 o = 25 ∧ zN w3 o = 1 ∧ ∀ (q : Int32) (y : Int64), q.toInt = 0 → y.toInt = x.toInt → Q (some (.int q)) (zM w3 f (zu j o 0 y))) (fun E w2 => (E = "java/util/NoSuchElementException" ∧ ∀ q : Int32, q.toInt = 1 → Q (some (.int q)) w2) ∨ (E = "java/lang/IllegalArgumentException" ∧ ∀ q : Int32, q.toInt = 2 → Q (some (.int q)) w2))) : zCW g (d + 1) yL_amend cL_amend 6 (some .int) [(0, 12, 15, 19), (0, 12, 19, 13)] [.ref X, .int x0, .int x1, .int x2, .ref o] w b Q := by
  refine zCW_of G (by decide +kernel) (Nat.le_of_ble_eq_true rfl) ?_
  refine r_aloadR4 dL_amend_0 ?_
  refine n_iconst dL_amend_2 (by decide) (fun r2 e2_z => ?_)
  refine r_aloadR0 dL_amend_3 ?_
  refine r_iload1 dL_amend_4 ?_
  refine r_iload2 dL_amend_5 ?_
  refine r_iload3 dL_amend_6 ?_
  refine q_callV3 zm_RL_51 dL_amend_7 hX (by decide) rfl (by first | exact Nat.le_of_ble_eq_true rfl | (dsimp only [zV, zVh, zVg, zrm]; omega) | omega) (by first | exact Nat.le_of_ble_eq_true rfl | (dsimp only [zV, zVh, zVg, zrm]; omega) | omega) (by first | exact Nat.le_of_ble_eq_true rfl | (dsimp only [zV, zVh, zVg, zrm]; omega) | omega) (by first | exact Nat.le_of_ble_eq_true rfl | (dsimp only [zV, zVh, zVg, zrm]; omega) | omega) (by first | exact Nat.le_of_ble_eq_true rfl | (dsimp only [zV, zVh, zVg, zrm]; omega) | omega) (zC_mono hM_z (fun r w2 hr => ?_) (fun E w2 he => ?_))
  · obtain ⟨x, w3, f, j, rfl, rfl, ho, hn, hq⟩ := hr
    refine n_i2l dL_amend_10 (fun r10 e10_z => ?_)
    refine m_last (k := 0) dL_amend_11 ho hn (by omega) (by omega) ?_
    refine r_goto (t := 23) dL_amend_12 (by decide) ?_
    refine n_iconst dL_amend_23 (by decide) (fun r23 e23_z => ?_)
    refine r_iret dL_amend_24 rfl (by first | exact Nat.le_of_ble_eq_true rfl | (dsimp only [zV, zVh, zVg, zrm]; omega) | omega) (by first | exact Nat.le_of_ble_eq_true rfl | (dsimp only [zV, zVh, zVg, zrm]; omega) | omega) ?_
    exact hq _ _ e23_z (by omega)
  · rcases he with ⟨rfl, hq⟩ | ⟨rfl, hq⟩
    · refine x_catch [] { startPc := 0, endPc := 12, handlerPc := 15, catchType := 19 } [{ startPc := 0, endPc := 12, handlerPc := 19, catchType := 13 }] rfl (fun z h_z => by cases h_z) (by decide) (by decide) zc_RL_19 (by decide +kernel) (fun q9_z => ?_)
      refine r_astore5 dL_amend_15 rfl ?_
      refine n_iconst dL_amend_17 (by decide) (fun r17 e17_z => ?_)
      refine r_iret dL_amend_18 rfl (by first | exact Nat.le_of_ble_eq_true rfl | (dsimp only [zV, zVh, zVg, zrm]; omega) | omega) (by first | exact Nat.le_of_ble_eq_true rfl | (dsimp only [zV, zVh, zVg, zrm]; omega) | omega) ?_
      exact hq _ e17_z
    · refine x_catch [{ startPc := 0, endPc := 12, handlerPc := 15, catchType := 19 }] { startPc := 0, endPc := 12, handlerPc := 19, catchType := 13 } [] rfl (fun z h_z => by rcases List.mem_singleton.mp h_z with rfl; exact ⟨by decide, _, zc_RL_19, by decide +kernel⟩) (by decide) (by decide) zc_RL_13 (by decide +kernel) (fun q9_z => ?_)
      refine r_astore5 dL_amend_19 rfl ?_
      refine n_iconst dL_amend_21 (by decide) (fun r21 e21_z => ?_)
      refine r_iret dL_amend_22 rfl (by first | exact Nat.le_of_ble_eq_true rfl | (dsimp only [zV, zVh, zVg, zrm]; omega) | omega) (by first | exact Nat.le_of_ble_eq_true rfl | (dsimp only [zV, zVh, zVg, zrm]; omega) | omega) ?_
      exact hq _ e21_z
theorem zw_undo : zlW RL 207 yL_undo cL_undo 4 (some .int) [(0, 9, 12, 13)] 3 := ⟨zt5 (List.mem_of_getElem? (i := 234) (by decide +kernel)) (by decide +kernel), zt5 (List.mem_of_getElem? (i := 235) (by decide +kernel)) (by decide +kernel), zini_RL, zt5 (List.mem_of_getElem? (i := 236) (by decide +kernel)) (by decide +kernel), by decide +kernel, by decide +kernel, by decide +kernel, by decide⟩
set_option maxHeartbeats 4000000 in
set_option maxRecDepth 100000 in
theorem w_undo {g : zGT} {w : zW} {X o d : Nat} {x0 : Int32} {b : Nat × Nat} {Q : Option Value → zW → Prop} (G : zGok g) (hX : zK w X = 10) (hM_z : zC g d yX11_undo cX11_undo 2 (some .int) [.ref X, .int x0] w b (fun r w2 => ∃ (x : Int32) (w3 : zW) (f : Nat → Nat → Int32) (j : Nat → Nat → Int64), r = some (.int x) ∧ w2 = zM w3 f j ∧ zK w3 o = 25 ∧ zN w3 o = 1 ∧ ∀ (q : Int32) (y : Int64), q.toInt = 0 → y.toInt = x.toInt → Q (some (.int q)) (zM w3 f (zu j o 0 y))) (fun E w2 => (E = "java/lang/IllegalArgumentException" ∧ ∀ q : Int32, q.toInt = 1 → Q (some (.int q)) w2))) : zCW g (d + 1) yL_undo cL_undo 4 (some .int) [(0, 9, 12, 13)] [.ref X, .int x0, .ref o] w b Q := by
  refine zCW_of G (by decide +kernel) (Nat.le_of_ble_eq_true rfl) ?_
  refine r_aloadR2 dL_undo_0 ?_
  refine n_iconst dL_undo_1 (by decide) (fun r1 e1_z => ?_)
  refine r_aloadR0 dL_undo_2 ?_
  refine r_iload1 dL_undo_3 ?_
  refine q_callV1 zm_RL_55 dL_undo_4 hX (by decide) rfl (by first | exact Nat.le_of_ble_eq_true rfl | (dsimp only [zV, zVh, zVg, zrm]; omega) | omega) (by first | exact Nat.le_of_ble_eq_true rfl | (dsimp only [zV, zVh, zVg, zrm]; omega) | omega) (by first | exact Nat.le_of_ble_eq_true rfl | (dsimp only [zV, zVh, zVg, zrm]; omega) | omega) (by first | exact Nat.le_of_ble_eq_true rfl | (dsimp only [zV, zVh, zVg, zrm]; omega) | omega) (by first | exact Nat.le_of_ble_eq_true rfl | (dsimp only [zV, zVh, zVg, zrm]; omega) | omega) (zC_mono hM_z (fun r w2 hr => ?_) (fun E w2 he => ?_))
  · obtain ⟨x, w3, f, j, rfl, rfl, ho, hn, hq⟩ := hr
    refine n_i2l dL_undo_7 (fun r7 e7_z => ?_)
    refine m_last (k := 0) dL_undo_8 ho hn (by omega) (by omega) ?_
    refine r_goto (t := 15) dL_undo_9 (by decide) ?_
    refine n_iconst dL_undo_15 (by decide) (fun r15 e15_z => ?_)
    refine r_iret dL_undo_16 rfl (by first | exact Nat.le_of_ble_eq_true rfl | (dsimp only [zV, zVh, zVg, zrm]; omega) | omega) (by first | exact Nat.le_of_ble_eq_true rfl | (dsimp only [zV, zVh, zVg, zrm]; omega) | omega) ?_
    exact hq _ _ e15_z (by omega)
  · obtain ⟨rfl, hq⟩ := he
    refine x_catch [] { startPc := 0, endPc := 9, handlerPc := 12, catchType := 13 } [] rfl (fun z h_z => by cases h_z) (by decide) (by decide) zc_RL_13 (by decide +kernel) (fun q9_z => ?_)
    refine r_astore3 dL_undo_12 rfl ?_
    refine n_iconst dL_undo_13 (by decide) (fun r13 e13_z => ?_)
    refine r_iret dL_undo_14 rfl (by first | exact Nat.le_of_ble_eq_true rfl | (dsimp only [zV, zVh, zVg, zrm]; omega) | omega) (by first | exact Nat.le_of_ble_eq_true rfl | (dsimp only [zV, zVh, zVg, zrm]; omega) | omega) ?_
    exact hq _ e13_z
theorem zw_judge : zlW RL 210 yL_judge cL_judge 5 (some .int) [(0, 10, 13, 19), (0, 10, 17, 46), (0, 10, 21, 13)] 4 := ⟨zt6 (List.mem_of_getElem? (i := 6) (by decide +kernel)) (by decide +kernel), zt6 (List.mem_of_getElem? (i := 7) (by decide +kernel)) (by decide +kernel), zini_RL, zt6 (List.mem_of_getElem? (i := 8) (by decide +kernel)) (by decide +kernel), by decide +kernel, by decide +kernel, by decide +kernel, by decide⟩
set_option maxHeartbeats 4000000 in
set_option maxRecDepth 100000 in
theorem w_judge {g : zGT} {w : zW} {X o d : Nat} {x0 : Int32} {x1 : Int32} {b : Nat × Nat} {Q : Option Value → zW → Prop} (G : zGok g) (hX : zK w X = 10) (hM_z : zC g d yX11_judge cX11_judge 6 (some .int) [.ref X, .int x0, .int x1] w b (fun r w2 => ∃ (x : Int32) (w3 : zW) (f : Nat → Nat → Int32) (j : Nat → Nat → Int64), r = some (.int x) ∧ w2 = zM w3 f j ∧ zK w3 o = 25 ∧ zN w3 o = 1 ∧ ∀ (q : Int32) (y : Int64), q.toInt = 0 → y.toInt = x.toInt → Q (some (.int q)) (zM w3 f (zu j o 0 y))) (fun E w2 => (E = "java/util/NoSuchElementException" ∧ ∀ q : Int32, q.toInt = 1 → Q (some (.int q)) w2) ∨ (E = "java/lang/IllegalStateException" ∧ ∀ q : Int32, q.toInt = 2 → Q (some (.int q)) w2) ∨ (E = "java/lang/IllegalArgumentException" ∧ ∀ q : Int32, q.toInt = 3 → Q (some (.int q)) w2))) : zCW g (d + 1) yL_judge cL_judge 5 (some .int) [(0, 10, 13, 19), (0, 10, 17, 46), (0, 10, 21, 13)] [.ref X, .int x0, .int x1, .ref o] w b Q := by
  refine zCW_of G (by decide +kernel) (Nat.le_of_ble_eq_true rfl) ?_
  refine r_aloadR3 dL_judge_0 ?_
  refine n_iconst dL_judge_1 (by decide) (fun r1 e1_z => ?_)
  refine r_aloadR0 dL_judge_2 ?_
  refine r_iload1 dL_judge_3 ?_
  refine r_iload2 dL_judge_4 ?_
  refine q_callV2 zm_RL_58 dL_judge_5 hX (by decide) rfl (by first | exact Nat.le_of_ble_eq_true rfl | (dsimp only [zV, zVh, zVg, zrm]; omega) | omega) (by first | exact Nat.le_of_ble_eq_true rfl | (dsimp only [zV, zVh, zVg, zrm]; omega) | omega) (by first | exact Nat.le_of_ble_eq_true rfl | (dsimp only [zV, zVh, zVg, zrm]; omega) | omega) (by first | exact Nat.le_of_ble_eq_true rfl | (dsimp only [zV, zVh, zVg, zrm]; omega) | omega) (by first | exact Nat.le_of_ble_eq_true rfl | (dsimp only [zV, zVh, zVg, zrm]; omega) | omega) (zC_mono hM_z (fun r w2 hr => ?_) (fun E w2 he => ?_))
  · obtain ⟨x, w3, f, j, rfl, rfl, ho, hn, hq⟩ := hr
    refine n_i2l dL_judge_8 (fun r8 e8 => ?_)
    refine m_last (k := 0) dL_judge_9 ho hn (by omega) (by omega) ?_
    refine r_goto (t := 25) dL_judge_10 (by decide) ?_
    refine n_iconst dL_judge_25 (by decide) (fun r25 e25_z => ?_)
    refine r_iret dL_judge_26 rfl (by first | exact Nat.le_of_ble_eq_true rfl | (dsimp only [zV, zVh, zVg, zrm]; omega) | omega) (by first | exact Nat.le_of_ble_eq_true rfl | (dsimp only [zV, zVh, zVg, zrm]; omega) | omega) ?_
    exact hq _ _ e25_z (by omega)
  · rcases he with ⟨rfl, hq⟩ | ⟨rfl, hq⟩ | ⟨rfl, hq⟩
    · refine x_catch [] { startPc := 0, endPc := 10, handlerPc := 13, catchType := 19 } [{ startPc := 0, endPc := 10, handlerPc := 17, catchType := 46 }, { startPc := 0, endPc := 10, handlerPc := 21, catchType := 13 }] rfl (fun z h_z => by cases h_z) (by decide) (by decide) zc_RL_19 (by decide +kernel) (fun q9_z => ?_)
      refine r_astore4 dL_judge_13 rfl ?_
      refine n_iconst dL_judge_15 (by decide) (fun r15 e15_z => ?_)
      refine r_iret dL_judge_16 rfl (by first | exact Nat.le_of_ble_eq_true rfl | (dsimp only [zV, zVh, zVg, zrm]; omega) | omega) (by first | exact Nat.le_of_ble_eq_true rfl | (dsimp only [zV, zVh, zVg, zrm]; omega) | omega) ?_
      exact hq _ e15_z
    · refine x_catch [{ startPc := 0, endPc := 10, handlerPc := 13, catchType := 19 }] { startPc := 0, endPc := 10, handlerPc := 17, catchType := 46 } [{ startPc := 0, endPc := 10, handlerPc := 21, catchType := 13 }] rfl (fun z h_z => by rcases List.mem_singleton.mp h_z with rfl; exact ⟨by decide, _, zc_RL_19, by decide +kernel⟩) (by decide) (by decide) zc_RL_46 (by decide +kernel) (fun q9_z => ?_)
      refine r_astore4 dL_judge_17 rfl ?_
      refine n_iconst dL_judge_19 (by decide) (fun r19 e19_z => ?_)
      refine r_iret dL_judge_20 rfl (by first | exact Nat.le_of_ble_eq_true rfl | (dsimp only [zV, zVh, zVg, zrm]; omega) | omega) (by first | exact Nat.le_of_ble_eq_true rfl | (dsimp only [zV, zVh, zVg, zrm]; omega) | omega) ?_
      exact hq _ e19_z
    · refine x_catch [{ startPc := 0, endPc := 10, handlerPc := 13, catchType := 19 }, { startPc := 0, endPc := 10, handlerPc := 17, catchType := 46 }] { startPc := 0, endPc := 10, handlerPc := 21, catchType := 13 } [] rfl (fun z h_z => (List.mem_cons.mp h_z).elim (fun e9_z => by subst e9_z; exact ⟨by decide, _, zc_RL_19, by decide +kernel⟩) (fun h8 => by rcases List.mem_singleton.mp h8 with rfl; exact ⟨by decide, _, zc_RL_46, by decide +kernel⟩)) (by decide) (by decide) zc_RL_13 (by decide +kernel) (fun q9_z => ?_)
      refine r_astore4 dL_judge_21 rfl ?_
      refine n_iconst dL_judge_23 (by decide) (fun r23 e23_z => ?_)
      refine r_iret dL_judge_24 rfl (by first | exact Nat.le_of_ble_eq_true rfl | (dsimp only [zV, zVh, zVg, zrm]; omega) | omega) (by first | exact Nat.le_of_ble_eq_true rfl | (dsimp only [zV, zVh, zVg, zrm]; omega) | omega) ?_
      exact hq _ e23_z
theorem zw_perform : zlW RL 213 yL_perform cL_perform 4 (some .int) [(0, 9, 12, 19), (0, 9, 15, 46)] 3 := ⟨zt6 (List.mem_of_getElem? (i := 46) (by decide +kernel)) (by decide +kernel), zt6 (List.mem_of_getElem? (i := 47) (by decide +kernel)) (by decide +kernel), zini_RL, zt6 (List.mem_of_getElem? (i := 48) (by decide +kernel)) (by decide +kernel), by decide +kernel, by decide +kernel, by decide +kernel, by decide⟩
set_option maxHeartbeats 4000000 in
set_option maxRecDepth 100000 in
theorem w_perform {g : zGT} {w : zW} {X o d : Nat} {x0 : Int32} {b : Nat × Nat} {Q : Option Value → zW → Prop} (G : zGok g) (hX : zK w X = 10) (hM_z : zC g d yX11_perform cX11_perform 6 (some .int) [.ref X, .int x0] w b (fun r w2 => ∃ (x : Int32) (w3 : zW) (f : Nat → Nat → Int32) (j : Nat → Nat → Int64), r = some (.int x) ∧ w2 = zM w3 f j ∧ zK w3 o = 25 ∧ zN w3 o = 1 ∧ ∀ (q : Int32) (y : Int64), q.toInt = 0 → y.toInt = x.toInt → Q (some (.int q)) (zM w3 f (zu j o 0 y))) (fun E w2 => (E = "java/util/NoSuchElementException" ∧ ∀ q : Int32, q.toInt = 1 → Q (some (.int q)) w2) ∨ (E = "java/lang/IllegalStateException" ∧ ∀ q : Int32, q.toInt = 2 → Q (some (.int q)) w2))) : zCW g (d + 1) yL_perform cL_perform 4 (some .int) [(0, 9, 12, 19), (0, 9, 15, 46)] [.ref X, .int x0, .ref o] w b Q := by
  refine zCW_of G (by decide +kernel) (Nat.le_of_ble_eq_true rfl) ?_
  refine r_aloadR2 dL_perform_0 ?_
  refine n_iconst dL_perform_1 (by decide) (fun r1 e1_z => ?_)
  refine r_aloadR0 dL_perform_2 ?_
  refine r_iload1 dL_perform_3 ?_
  refine q_callV1 zm_RL_61 dL_perform_4 hX (by decide) rfl (by first | exact Nat.le_of_ble_eq_true rfl | (dsimp only [zV, zVh, zVg, zrm]; omega) | omega) (by first | exact Nat.le_of_ble_eq_true rfl | (dsimp only [zV, zVh, zVg, zrm]; omega) | omega) (by first | exact Nat.le_of_ble_eq_true rfl | (dsimp only [zV, zVh, zVg, zrm]; omega) | omega) (by first | exact Nat.le_of_ble_eq_true rfl | (dsimp only [zV, zVh, zVg, zrm]; omega) | omega) (by first | exact Nat.le_of_ble_eq_true rfl | (dsimp only [zV, zVh, zVg, zrm]; omega) | omega) (zC_mono hM_z (fun r w2 hr => ?_) (fun E w2 he => ?_))
  · obtain ⟨x, w3, f, j, rfl, rfl, ho, hn, hq⟩ := hr
    refine n_i2l dL_perform_7 (fun r7 e7_z => ?_)
    refine m_last (k := 0) dL_perform_8 ho hn (by omega) (by omega) ?_
    refine r_goto (t := 18) dL_perform_9 (by decide) ?_
    refine n_iconst dL_perform_18 (by decide) (fun r18 e18_z => ?_)
    refine r_iret dL_perform_19 rfl (by first | exact Nat.le_of_ble_eq_true rfl | (dsimp only [zV, zVh, zVg, zrm]; omega) | omega) (by first | exact Nat.le_of_ble_eq_true rfl | (dsimp only [zV, zVh, zVg, zrm]; omega) | omega) ?_
    exact hq _ _ e18_z (by omega)
  · rcases he with ⟨rfl, hq⟩ | ⟨rfl, hq⟩
    · refine x_catch [] { startPc := 0, endPc := 9, handlerPc := 12, catchType := 19 } [{ startPc := 0, endPc := 9, handlerPc := 15, catchType := 46 }] rfl (fun z h_z => by cases h_z) (by decide) (by decide) zc_RL_19 (by decide +kernel) (fun q9_z => ?_)
      refine r_astore3 dL_perform_12 rfl ?_
      refine n_iconst dL_perform_13 (by decide) (fun r13 e13_z => ?_)
      refine r_iret dL_perform_14 rfl (by first | exact Nat.le_of_ble_eq_true rfl | (dsimp only [zV, zVh, zVg, zrm]; omega) | omega) (by first | exact Nat.le_of_ble_eq_true rfl | (dsimp only [zV, zVh, zVg, zrm]; omega) | omega) ?_
      exact hq _ e13_z
    · refine x_catch [{ startPc := 0, endPc := 9, handlerPc := 12, catchType := 19 }] { startPc := 0, endPc := 9, handlerPc := 15, catchType := 46 } [] rfl (fun z h_z => by rcases List.mem_singleton.mp h_z with rfl; exact ⟨by decide, _, zc_RL_19, by decide +kernel⟩) (by decide) (by decide) zc_RL_46 (by decide +kernel) (fun q9_z => ?_)
      refine r_astore3 dL_perform_15 rfl ?_
      refine n_iconst dL_perform_16 (by decide) (fun r16 e16_z => ?_)
      refine r_iret dL_perform_17 rfl (by first | exact Nat.le_of_ble_eq_true rfl | (dsimp only [zV, zVh, zVg, zrm]; omega) | omega) (by first | exact Nat.le_of_ble_eq_true rfl | (dsimp only [zV, zVh, zVg, zrm]; omega) | omega) ?_
      exact hq _ e16_z
theorem zw_evening : zlW RL 216 yL_evening cL_evening 5 (some .int) [(0, 10, 13, 13)] 4 := ⟨zt6 (List.mem_of_getElem? (i := 53) (by decide +kernel)) (by decide +kernel), zt6 (List.mem_of_getElem? (i := 54) (by decide +kernel)) (by decide +kernel), zini_RL, zt6 (List.mem_of_getElem? (i := 55) (by decide +kernel)) (by decide +kernel), by decide +kernel, by decide +kernel, by decide +kernel, by decide⟩
set_option maxHeartbeats 4000000 in
set_option maxRecDepth 100000 in
theorem w_evening {g : zGT} {w : zW} {X o d : Nat} {x0 : Int32} {x1 : Int32} {b : Nat × Nat} {Q : Option Value → zW → Prop} (G : zGok g) (hX : zK w X = 10) (hM_z : zC g d yX11_evening cX11_evening 7 (some .int) [.ref X, .int x0, .int x1] w b (fun r w2 => ∃ (x : Int32) (w3 : zW) (f : Nat → Nat → Int32) (j : Nat → Nat → Int64), r = some (.int x) ∧ w2 = zM w3 f j ∧ zK w3 o = 25 ∧ zN w3 o = 1 ∧ ∀ (q : Int32) (y : Int64), q.toInt = 0 → y.toInt = x.toInt → Q (some (.int q)) (zM w3 f (zu j o 0 y))) (fun E w2 => (E = "java/lang/IllegalArgumentException" ∧ ∀ q : Int32, q.toInt = 1 → Q (some (.int q)) w2))) : zCW g (d + 1) yL_evening cL_evening 5 (some .int) [(0, 10, 13, 13)] [.ref X, .int x0, .int x1, .ref o] w b Q := by
  refine zCW_of G (by decide +kernel) (Nat.le_of_ble_eq_true rfl) ?_
  refine r_aloadR3 dL_evening_0 ?_
  refine n_iconst dL_evening_1 (by decide) (fun r1 e1_z => ?_)
  refine r_aloadR0 dL_evening_2 ?_
  refine r_iload1 dL_evening_3 ?_
  refine r_iload2 dL_evening_4 ?_
  refine q_callV2 zm_RL_64 dL_evening_5 hX (by decide) rfl (by first | exact Nat.le_of_ble_eq_true rfl | (dsimp only [zV, zVh, zVg, zrm]; omega) | omega) (by first | exact Nat.le_of_ble_eq_true rfl | (dsimp only [zV, zVh, zVg, zrm]; omega) | omega) (by first | exact Nat.le_of_ble_eq_true rfl | (dsimp only [zV, zVh, zVg, zrm]; omega) | omega) (by first | exact Nat.le_of_ble_eq_true rfl | (dsimp only [zV, zVh, zVg, zrm]; omega) | omega) (by first | exact Nat.le_of_ble_eq_true rfl | (dsimp only [zV, zVh, zVg, zrm]; omega) | omega) (zC_mono hM_z (fun r w2 hr => ?_) (fun E w2 he => ?_))
  · obtain ⟨x, w3, f, j, rfl, rfl, ho, hn, hq⟩ := hr
    refine n_i2l dL_evening_8 (fun r8 e8 => ?_)
    refine m_last (k := 0) dL_evening_9 ho hn (by omega) (by omega) ?_
    refine r_goto (t := 17) dL_evening_10 (by decide) ?_
    refine n_iconst dL_evening_17 (by decide) (fun r17 e17_z => ?_)
    refine r_iret dL_evening_18 rfl (by first | exact Nat.le_of_ble_eq_true rfl | (dsimp only [zV, zVh, zVg, zrm]; omega) | omega) (by first | exact Nat.le_of_ble_eq_true rfl | (dsimp only [zV, zVh, zVg, zrm]; omega) | omega) ?_
    exact hq _ _ e17_z (by omega)
  · obtain ⟨rfl, hq⟩ := he
    refine x_catch [] { startPc := 0, endPc := 10, handlerPc := 13, catchType := 13 } [] rfl (fun z h_z => by cases h_z) (by decide) (by decide) zc_RL_13 (by decide +kernel) (fun q9_z => ?_)
    refine r_astore4 dL_evening_13 rfl ?_
    refine n_iconst dL_evening_15 (by decide) (fun r15 e15_z => ?_)
    refine r_iret dL_evening_16 rfl (by first | exact Nat.le_of_ble_eq_true rfl | (dsimp only [zV, zVh, zVg, zrm]; omega) | omega) (by first | exact Nat.le_of_ble_eq_true rfl | (dsimp only [zV, zVh, zVg, zrm]; omega) | omega) ?_
    exact hq _ e15_z
theorem zw_rows : zlW RL 219 yL_rows cL_rows 4 (some .int) [(0, 9, 12, 13)] 3 := ⟨zt6 (List.mem_of_getElem? (i := 79) (by decide +kernel)) (by decide +kernel), zt6 (List.mem_of_getElem? (i := 80) (by decide +kernel)) (by decide +kernel), zini_RL, zt6 (List.mem_of_getElem? (i := 81) (by decide +kernel)) (by decide +kernel), by decide +kernel, by decide +kernel, by decide +kernel, by decide⟩
set_option maxHeartbeats 4000000 in
set_option maxRecDepth 100000 in
theorem w_rows {g : zGT} {w : zW} {X o d : Nat} {x0 : Int32} {b : Nat × Nat} {Q : Option Value → zW → Prop} (G : zGok g) (hX : zK w X = 10) (hM_z : zC g d yX11_rows cX11_rows 5 (some .int) [.ref X, .int x0] w b (fun r w2 => ∃ (x : Int32) (w3 : zW) (f : Nat → Nat → Int32) (j : Nat → Nat → Int64), r = some (.int x) ∧ w2 = zM w3 f j ∧ zK w3 o = 25 ∧ zN w3 o = 1 ∧ ∀ (q : Int32) (y : Int64), q.toInt = 0 → y.toInt = x.toInt → Q (some (.int q)) (zM w3 f (zu j o 0 y))) (fun E w2 => (E = "java/lang/IllegalArgumentException" ∧ ∀ q : Int32, q.toInt = 1 → Q (some (.int q)) w2))) : zCW g (d + 1) yL_rows cL_rows 4 (some .int) [(0, 9, 12, 13)] [.ref X, .int x0, .ref o] w b Q := by
  refine zCW_of G (by decide +kernel) (Nat.le_of_ble_eq_true rfl) ?_
  refine r_aloadR2 dL_rows_0 ?_
  refine n_iconst dL_rows_1 (by decide) (fun r1 e1_z => ?_)
  refine r_aloadR0 dL_rows_2 ?_
  refine r_iload1 dL_rows_3 ?_
  refine q_callV1 zm_RL_67 dL_rows_4 hX (by decide) rfl (by first | exact Nat.le_of_ble_eq_true rfl | (dsimp only [zV, zVh, zVg, zrm]; omega) | omega) (by first | exact Nat.le_of_ble_eq_true rfl | (dsimp only [zV, zVh, zVg, zrm]; omega) | omega) (by first | exact Nat.le_of_ble_eq_true rfl | (dsimp only [zV, zVh, zVg, zrm]; omega) | omega) (by first | exact Nat.le_of_ble_eq_true rfl | (dsimp only [zV, zVh, zVg, zrm]; omega) | omega) (by first | exact Nat.le_of_ble_eq_true rfl | (dsimp only [zV, zVh, zVg, zrm]; omega) | omega) (zC_mono hM_z (fun r w2 hr => ?_) (fun E w2 he => ?_))
  · obtain ⟨x, w3, f, j, rfl, rfl, ho, hn, hq⟩ := hr
    refine n_i2l dL_rows_7 (fun r7 e7_z => ?_)
    refine m_last (k := 0) dL_rows_8 ho hn (by omega) (by omega) ?_
    refine r_goto (t := 15) dL_rows_9 (by decide) ?_
    refine n_iconst dL_rows_15 (by decide) (fun r15 e15_z => ?_)
    refine r_iret dL_rows_16 rfl (by first | exact Nat.le_of_ble_eq_true rfl | (dsimp only [zV, zVh, zVg, zrm]; omega) | omega) (by first | exact Nat.le_of_ble_eq_true rfl | (dsimp only [zV, zVh, zVg, zrm]; omega) | omega) ?_
    exact hq _ _ e15_z (by omega)
  · obtain ⟨rfl, hq⟩ := he
    refine x_catch [] { startPc := 0, endPc := 9, handlerPc := 12, catchType := 13 } [] rfl (fun z h_z => by cases h_z) (by decide) (by decide) zc_RL_13 (by decide +kernel) (fun q9_z => ?_)
    refine r_astore3 dL_rows_12 rfl ?_
    refine n_iconst dL_rows_13 (by decide) (fun r13 e13_z => ?_)
    refine r_iret dL_rows_14 rfl (by first | exact Nat.le_of_ble_eq_true rfl | (dsimp only [zV, zVh, zVg, zrm]; omega) | omega) (by first | exact Nat.le_of_ble_eq_true rfl | (dsimp only [zV, zVh, zVg, zrm]; omega) | omega) ?_
    exact hq _ e13_z
theorem zw_looks : zlW RL 222 yL_looks cL_looks 4 (some .int) [(0, 9, 12, 13)] 3 := ⟨zt6 (List.mem_of_getElem? (i := 94) (by decide +kernel)) (by decide +kernel), zt6 (List.mem_of_getElem? (i := 95) (by decide +kernel)) (by decide +kernel), zini_RL, zt6 (List.mem_of_getElem? (i := 96) (by decide +kernel)) (by decide +kernel), by decide +kernel, by decide +kernel, by decide +kernel, by decide⟩
set_option maxHeartbeats 4000000 in
set_option maxRecDepth 100000 in
theorem w_looks {g : zGT} {w : zW} {X o d : Nat} {x0 : Int32} {b : Nat × Nat} {Q : Option Value → zW → Prop} (G : zGok g) (hX : zK w X = 10) (hM_z : zC g d yX11_looks cX11_looks 5 (some .int) [.ref X, .int x0] w b (fun r w2 => ∃ (x : Int32) (w3 : zW) (f : Nat → Nat → Int32) (j : Nat → Nat → Int64), r = some (.int x) ∧ w2 = zM w3 f j ∧ zK w3 o = 25 ∧ zN w3 o = 1 ∧ ∀ (q : Int32) (y : Int64), q.toInt = 0 → y.toInt = x.toInt → Q (some (.int q)) (zM w3 f (zu j o 0 y))) (fun E w2 => (E = "java/lang/IllegalArgumentException" ∧ ∀ q : Int32, q.toInt = 1 → Q (some (.int q)) w2))) : zCW g (d + 1) yL_looks cL_looks 4 (some .int) [(0, 9, 12, 13)] [.ref X, .int x0, .ref o] w b Q := by
  refine zCW_of G (by decide +kernel) (Nat.le_of_ble_eq_true rfl) ?_
  refine r_aloadR2 dL_looks_0 ?_
  refine n_iconst dL_looks_1 (by decide) (fun r1 e1_z => ?_)
  refine r_aloadR0 dL_looks_2 ?_
  refine r_iload1 dL_looks_3 ?_
  refine q_callV1 zm_RL_70 dL_looks_4 hX (by decide) rfl (by first | exact Nat.le_of_ble_eq_true rfl | (dsimp only [zV, zVh, zVg, zrm]; omega) | omega) (by first | exact Nat.le_of_ble_eq_true rfl | (dsimp only [zV, zVh, zVg, zrm]; omega) | omega) (by first | exact Nat.le_of_ble_eq_true rfl | (dsimp only [zV, zVh, zVg, zrm]; omega) | omega) (by first | exact Nat.le_of_ble_eq_true rfl | (dsimp only [zV, zVh, zVg, zrm]; omega) | omega) (by first | exact Nat.le_of_ble_eq_true rfl | (dsimp only [zV, zVh, zVg, zrm]; omega) | omega) (zC_mono hM_z (fun r w2 hr => ?_) (fun E w2 he => ?_))
  · obtain ⟨x, w3, f, j, rfl, rfl, ho, hn, hq⟩ := hr
    refine n_i2l dL_looks_7 (fun r7 e7_z => ?_)
    refine m_last (k := 0) dL_looks_8 ho hn (by omega) (by omega) ?_
    refine r_goto (t := 15) dL_looks_9 (by decide) ?_
    refine n_iconst dL_looks_15 (by decide) (fun r15 e15_z => ?_)
    refine r_iret dL_looks_16 rfl (by first | exact Nat.le_of_ble_eq_true rfl | (dsimp only [zV, zVh, zVg, zrm]; omega) | omega) (by first | exact Nat.le_of_ble_eq_true rfl | (dsimp only [zV, zVh, zVg, zrm]; omega) | omega) ?_
    exact hq _ _ e15_z (by omega)
  · obtain ⟨rfl, hq⟩ := he
    refine x_catch [] { startPc := 0, endPc := 9, handlerPc := 12, catchType := 13 } [] rfl (fun z h_z => by cases h_z) (by decide) (by decide) zc_RL_13 (by decide +kernel) (fun q9_z => ?_)
    refine r_astore3 dL_looks_12 rfl ?_
    refine n_iconst dL_looks_13 (by decide) (fun r13 e13_z => ?_)
    refine r_iret dL_looks_14 rfl (by first | exact Nat.le_of_ble_eq_true rfl | (dsimp only [zV, zVh, zVg, zrm]; omega) | omega) (by first | exact Nat.le_of_ble_eq_true rfl | (dsimp only [zV, zVh, zVg, zrm]; omega) | omega) ?_
    exact hq _ e13_z
theorem zw_soonest : zlW RL 225 yL_soonest cL_soonest 4 (some .int) [(0, 9, 12, 13)] 3 := ⟨zt6 (List.mem_of_getElem? (i := 109) (by decide +kernel)) (by decide +kernel), zt6 (List.mem_of_getElem? (i := 110) (by decide +kernel)) (by decide +kernel), zini_RL, zt6 (List.mem_of_getElem? (i := 111) (by decide +kernel)) (by decide +kernel), by decide +kernel, by decide +kernel, by decide +kernel, by decide⟩
set_option maxHeartbeats 4000000 in
set_option maxRecDepth 100000 in
theorem w_soonest {g : zGT} {w : zW} {X o d : Nat} {x0 : Int32} {b : Nat × Nat} {Q : Option Value → zW → Prop} (G : zGok g) (hX : zK w X = 10) (hM_z : zC g d yX11_soonest cX11_soonest 4 (some .int) [.ref X, .int x0] w b (fun r w2 => ∃ (x : Int32) (w3 : zW) (f : Nat → Nat → Int32) (j : Nat → Nat → Int64), r = some (.int x) ∧ w2 = zM w3 f j ∧ zK w3 o = 25 ∧ zN w3 o = 1 ∧ ∀ (q : Int32) (y : Int64), q.toInt = 0 → y.toInt = x.toInt → Q (some (.int q)) (zM w3 f (zu j o 0 y))) (fun E w2 => (E = "java/lang/IllegalArgumentException" ∧ ∀ q : Int32, q.toInt = 1 → Q (some (.int q)) w2))) : zCW g (d + 1) yL_soonest cL_soonest 4 (some .int) [(0, 9, 12, 13)] [.ref X, .int x0, .ref o] w b Q := by
  refine zCW_of G (by decide +kernel) (Nat.le_of_ble_eq_true rfl) ?_
  refine r_aloadR2 dL_soonest_0 ?_
  refine n_iconst dL_soonest_1 (by decide) (fun r1 e1_z => ?_)
  refine r_aloadR0 dL_soonest_2 ?_
  refine r_iload1 dL_soonest_3 ?_
  refine q_callV1 zm_RL_73 dL_soonest_4 hX (by decide) rfl (by first | exact Nat.le_of_ble_eq_true rfl | (dsimp only [zV, zVh, zVg, zrm]; omega) | omega) (by first | exact Nat.le_of_ble_eq_true rfl | (dsimp only [zV, zVh, zVg, zrm]; omega) | omega) (by first | exact Nat.le_of_ble_eq_true rfl | (dsimp only [zV, zVh, zVg, zrm]; omega) | omega) (by first | exact Nat.le_of_ble_eq_true rfl | (dsimp only [zV, zVh, zVg, zrm]; omega) | omega) (by first | exact Nat.le_of_ble_eq_true rfl | (dsimp only [zV, zVh, zVg, zrm]; omega) | omega) (zC_mono hM_z (fun r w2 hr => ?_) (fun E w2 he => ?_))
  · obtain ⟨x, w3, f, j, rfl, rfl, ho, hn, hq⟩ := hr
    refine n_i2l dL_soonest_7 (fun r7 e7_z => ?_)
    refine m_last (k := 0) dL_soonest_8 ho hn (by omega) (by omega) ?_
    refine r_goto (t := 15) dL_soonest_9 (by decide) ?_
    refine n_iconst dL_soonest_15 (by decide) (fun r15 e15_z => ?_)
    refine r_iret dL_soonest_16 rfl (by first | exact Nat.le_of_ble_eq_true rfl | (dsimp only [zV, zVh, zVg, zrm]; omega) | omega) (by first | exact Nat.le_of_ble_eq_true rfl | (dsimp only [zV, zVh, zVg, zrm]; omega) | omega) ?_
    exact hq _ _ e15_z (by omega)
  · obtain ⟨rfl, hq⟩ := he
    refine x_catch [] { startPc := 0, endPc := 9, handlerPc := 12, catchType := 13 } [] rfl (fun z h_z => by cases h_z) (by decide) (by decide) zc_RL_13 (by decide +kernel) (fun q9_z => ?_)
    refine r_astore3 dL_soonest_12 rfl ?_
    refine n_iconst dL_soonest_13 (by decide) (fun r13 e13_z => ?_)
    refine r_iret dL_soonest_14 rfl (by first | exact Nat.le_of_ble_eq_true rfl | (dsimp only [zV, zVh, zVg, zrm]; omega) | omega) (by first | exact Nat.le_of_ble_eq_true rfl | (dsimp only [zV, zVh, zVg, zrm]; omega) | omega) ?_
    exact hq _ e13_z
theorem zw_holding : zlW RL 228 yL_holding cL_holding 4 (some .int) [(0, 9, 12, 13)] 3 := ⟨zt6 (List.mem_of_getElem? (i := 123) (by decide +kernel)) (by decide +kernel), zt6 (List.mem_of_getElem? (i := 124) (by decide +kernel)) (by decide +kernel), zini_RL, zt6 (List.mem_of_getElem? (i := 125) (by decide +kernel)) (by decide +kernel), by decide +kernel, by decide +kernel, by decide +kernel, by decide⟩
set_option maxHeartbeats 4000000 in
set_option maxRecDepth 100000 in
theorem w_holding {g : zGT} {w : zW} {X o d : Nat} {x0 : Int32} {b : Nat × Nat} {Q : Option Value → zW → Prop} (G : zGok g) (hX : zK w X = 10) (hM_z : zC g d yX11_holding cX11_holding 5 (some .int) [.ref X, .int x0] w b (fun r w2 => ∃ (x : Int32) (w3 : zW) (f : Nat → Nat → Int32) (j : Nat → Nat → Int64), r = some (.int x) ∧ w2 = zM w3 f j ∧ zK w3 o = 25 ∧ zN w3 o = 1 ∧ ∀ (q : Int32) (y : Int64), q.toInt = 0 → y.toInt = x.toInt → Q (some (.int q)) (zM w3 f (zu j o 0 y))) (fun E w2 => (E = "java/lang/IllegalArgumentException" ∧ ∀ q : Int32, q.toInt = 1 → Q (some (.int q)) w2))) : zCW g (d + 1) yL_holding cL_holding 4 (some .int) [(0, 9, 12, 13)] [.ref X, .int x0, .ref o] w b Q := by
  refine zCW_of G (by decide +kernel) (Nat.le_of_ble_eq_true rfl) ?_
  refine r_aloadR2 dL_holding_0 ?_
  refine n_iconst dL_holding_1 (by decide) (fun r1 e1_z => ?_)
  refine r_aloadR0 dL_holding_2 ?_
  refine r_iload1 dL_holding_3 ?_
  refine q_callV1 zm_RL_76 dL_holding_4 hX (by decide) rfl (by first | exact Nat.le_of_ble_eq_true rfl | (dsimp only [zV, zVh, zVg, zrm]; omega) | omega) (by first | exact Nat.le_of_ble_eq_true rfl | (dsimp only [zV, zVh, zVg, zrm]; omega) | omega) (by first | exact Nat.le_of_ble_eq_true rfl | (dsimp only [zV, zVh, zVg, zrm]; omega) | omega) (by first | exact Nat.le_of_ble_eq_true rfl | (dsimp only [zV, zVh, zVg, zrm]; omega) | omega) (by first | exact Nat.le_of_ble_eq_true rfl | (dsimp only [zV, zVh, zVg, zrm]; omega) | omega) (zC_mono hM_z (fun r w2 hr => ?_) (fun E w2 he => ?_))
  · obtain ⟨x, w3, f, j, rfl, rfl, ho, hn, hq⟩ := hr
    refine n_i2l dL_holding_7 (fun r7 e7_z => ?_)
    refine m_last (k := 0) dL_holding_8 ho hn (by omega) (by omega) ?_
    refine r_goto (t := 15) dL_holding_9 (by decide) ?_
    refine n_iconst dL_holding_15 (by decide) (fun r15 e15_z => ?_)
    refine r_iret dL_holding_16 rfl (by first | exact Nat.le_of_ble_eq_true rfl | (dsimp only [zV, zVh, zVg, zrm]; omega) | omega) (by first | exact Nat.le_of_ble_eq_true rfl | (dsimp only [zV, zVh, zVg, zrm]; omega) | omega) ?_
    exact hq _ _ e15_z (by omega)
  · obtain ⟨rfl, hq⟩ := he
    refine x_catch [] { startPc := 0, endPc := 9, handlerPc := 12, catchType := 13 } [] rfl (fun z h_z => by cases h_z) (by decide) (by decide) zc_RL_13 (by decide +kernel) (fun q9_z => ?_)
    refine r_astore3 dL_holding_12 rfl ?_
    refine n_iconst dL_holding_13 (by decide) (fun r13 e13_z => ?_)
    refine r_iret dL_holding_14 rfl (by first | exact Nat.le_of_ble_eq_true rfl | (dsimp only [zV, zVh, zVg, zrm]; omega) | omega) (by first | exact Nat.le_of_ble_eq_true rfl | (dsimp only [zV, zVh, zVg, zrm]; omega) | omega) ?_
    exact hq _ e13_z
theorem zw_best : zlW RL 231 yL_best cL_best 5 (some .int) [(0, 10, 13, 13)] 4 := ⟨zt6 (List.mem_of_getElem? (i := 130) (by decide +kernel)) (by decide +kernel), zt6 (List.mem_of_getElem? (i := 131) (by decide +kernel)) (by decide +kernel), zini_RL, zt6 (List.mem_of_getElem? (i := 132) (by decide +kernel)) (by decide +kernel), by decide +kernel, by decide +kernel, by decide +kernel, by decide⟩
set_option maxHeartbeats 4000000 in
set_option maxRecDepth 100000 in
theorem w_best {g : zGT} {w : zW} {X o d : Nat} {x0 : Int32} {x1 : Int32} {b : Nat × Nat} {Q : Option Value → zW → Prop} (G : zGok g) (hX : zK w X = 10) (hM_z : zC g d yX11_best cX11_best 5 (some .int) [.ref X, .int x0, .int x1] w b (fun r w2 => ∃ (x : Int32) (w3 : zW) (f : Nat → Nat → Int32) (j : Nat → Nat → Int64), r = some (.int x) ∧ w2 = zM w3 f j ∧ zK w3 o = 25 ∧ zN w3 o = 1 ∧ ∀ (q : Int32) (y : Int64), q.toInt = 0 → y.toInt = x.toInt → Q (some (.int q)) (zM w3 f (zu j o 0 y))) (fun E w2 => (E = "java/lang/IllegalArgumentException" ∧ ∀ q : Int32, q.toInt = 1 → Q (some (.int q)) w2))) : zCW g (d + 1) yL_best cL_best 5 (some .int) [(0, 10, 13, 13)] [.ref X, .int x0, .int x1, .ref o] w b Q := by
  refine zCW_of G (by decide +kernel) (Nat.le_of_ble_eq_true rfl) ?_
  refine r_aloadR3 dL_best_0 ?_
  refine n_iconst dL_best_1 (by decide) (fun r1 e1_z => ?_)
  refine r_aloadR0 dL_best_2 ?_
  refine r_iload1 dL_best_3 ?_
  refine r_iload2 dL_best_4 ?_
  refine q_callV2 zm_RL_79 dL_best_5 hX (by decide) rfl (by first | exact Nat.le_of_ble_eq_true rfl | (dsimp only [zV, zVh, zVg, zrm]; omega) | omega) (by first | exact Nat.le_of_ble_eq_true rfl | (dsimp only [zV, zVh, zVg, zrm]; omega) | omega) (by first | exact Nat.le_of_ble_eq_true rfl | (dsimp only [zV, zVh, zVg, zrm]; omega) | omega) (by first | exact Nat.le_of_ble_eq_true rfl | (dsimp only [zV, zVh, zVg, zrm]; omega) | omega) (by first | exact Nat.le_of_ble_eq_true rfl | (dsimp only [zV, zVh, zVg, zrm]; omega) | omega) (zC_mono hM_z (fun r w2 hr => ?_) (fun E w2 he => ?_))
  · obtain ⟨x, w3, f, j, rfl, rfl, ho, hn, hq⟩ := hr
    refine n_i2l dL_best_8 (fun r8 e8 => ?_)
    refine m_last (k := 0) dL_best_9 ho hn (by omega) (by omega) ?_
    refine r_goto (t := 17) dL_best_10 (by decide) ?_
    refine n_iconst dL_best_17 (by decide) (fun r17 e17_z => ?_)
    refine r_iret dL_best_18 rfl (by first | exact Nat.le_of_ble_eq_true rfl | (dsimp only [zV, zVh, zVg, zrm]; omega) | omega) (by first | exact Nat.le_of_ble_eq_true rfl | (dsimp only [zV, zVh, zVg, zrm]; omega) | omega) ?_
    exact hq _ _ e17_z (by omega)
  · obtain ⟨rfl, hq⟩ := he
    refine x_catch [] { startPc := 0, endPc := 10, handlerPc := 13, catchType := 13 } [] rfl (fun z h_z => by cases h_z) (by decide) (by decide) zc_RL_13 (by decide +kernel) (fun q9_z => ?_)
    refine r_astore4 dL_best_13 rfl ?_
    refine n_iconst dL_best_15 (by decide) (fun r15 e15_z => ?_)
    refine r_iret dL_best_16 rfl (by first | exact Nat.le_of_ble_eq_true rfl | (dsimp only [zV, zVh, zVg, zrm]; omega) | omega) (by first | exact Nat.le_of_ble_eq_true rfl | (dsimp only [zV, zVh, zVg, zrm]; omega) | omega) ?_
    exact hq _ e15_z
theorem zw_reads : zlW RL 234 yL_reads cL_reads 5 (some .int) [(0, 10, 13, 19), (0, 10, 17, 46), (0, 10, 21, 13)] 4 := ⟨zt6 (List.mem_of_getElem? (i := 144) (by decide +kernel)) (by decide +kernel), zt6 (List.mem_of_getElem? (i := 145) (by decide +kernel)) (by decide +kernel), zini_RL, zt6 (List.mem_of_getElem? (i := 146) (by decide +kernel)) (by decide +kernel), by decide +kernel, by decide +kernel, by decide +kernel, by decide⟩
set_option maxHeartbeats 4000000 in
set_option maxRecDepth 100000 in
theorem w_reads {g : zGT} {w : zW} {X o d : Nat} {x0 : Int32} {x1 : Int32} {b : Nat × Nat} {Q : Option Value → zW → Prop} (G : zGok g) (hX : zK w X = 10) (hM_z : zC g d yX11_reads cX11_reads 6 (some .int) [.ref X, .int x0, .int x1] w b (fun r w2 => ∃ (x : Int32) (w3 : zW) (f : Nat → Nat → Int32) (j : Nat → Nat → Int64), r = some (.int x) ∧ w2 = zM w3 f j ∧ zK w3 o = 25 ∧ zN w3 o = 1 ∧ ∀ (q : Int32) (y : Int64), q.toInt = 0 → y.toInt = x.toInt → Q (some (.int q)) (zM w3 f (zu j o 0 y))) (fun E w2 => (E = "java/util/NoSuchElementException" ∧ ∀ q : Int32, q.toInt = 1 → Q (some (.int q)) w2) ∨ (E = "java/lang/IllegalStateException" ∧ ∀ q : Int32, q.toInt = 2 → Q (some (.int q)) w2) ∨ (E = "java/lang/IllegalArgumentException" ∧ ∀ q : Int32, q.toInt = 3 → Q (some (.int q)) w2))) : zCW g (d + 1) yL_reads cL_reads 5 (some .int) [(0, 10, 13, 19), (0, 10, 17, 46), (0, 10, 21, 13)] [.ref X, .int x0, .int x1, .ref o] w b Q := by
  refine zCW_of G (by decide +kernel) (Nat.le_of_ble_eq_true rfl) ?_
  refine r_aloadR3 dL_reads_0 ?_
  refine n_iconst dL_reads_1 (by decide) (fun r1 e1_z => ?_)
  refine r_aloadR0 dL_reads_2 ?_
  refine r_iload1 dL_reads_3 ?_
  refine r_iload2 dL_reads_4 ?_
  refine q_callV2 zm_RL_82 dL_reads_5 hX (by decide) rfl (by first | exact Nat.le_of_ble_eq_true rfl | (dsimp only [zV, zVh, zVg, zrm]; omega) | omega) (by first | exact Nat.le_of_ble_eq_true rfl | (dsimp only [zV, zVh, zVg, zrm]; omega) | omega) (by first | exact Nat.le_of_ble_eq_true rfl | (dsimp only [zV, zVh, zVg, zrm]; omega) | omega) (by first | exact Nat.le_of_ble_eq_true rfl | (dsimp only [zV, zVh, zVg, zrm]; omega) | omega) (by first | exact Nat.le_of_ble_eq_true rfl | (dsimp only [zV, zVh, zVg, zrm]; omega) | omega) (zC_mono hM_z (fun r w2 hr => ?_) (fun E w2 he => ?_))
  · obtain ⟨x, w3, f, j, rfl, rfl, ho, hn, hq⟩ := hr
    refine n_i2l dL_reads_8 (fun r8 e8 => ?_)
    refine m_last (k := 0) dL_reads_9 ho hn (by omega) (by omega) ?_
    refine r_goto (t := 25) dL_reads_10 (by decide) ?_
    refine n_iconst dL_reads_25 (by decide) (fun r25 e25_z => ?_)
    refine r_iret dL_reads_26 rfl (by first | exact Nat.le_of_ble_eq_true rfl | (dsimp only [zV, zVh, zVg, zrm]; omega) | omega) (by first | exact Nat.le_of_ble_eq_true rfl | (dsimp only [zV, zVh, zVg, zrm]; omega) | omega) ?_
    exact hq _ _ e25_z (by omega)
  · rcases he with ⟨rfl, hq⟩ | ⟨rfl, hq⟩ | ⟨rfl, hq⟩
    · refine x_catch [] { startPc := 0, endPc := 10, handlerPc := 13, catchType := 19 } [{ startPc := 0, endPc := 10, handlerPc := 17, catchType := 46 }, { startPc := 0, endPc := 10, handlerPc := 21, catchType := 13 }] rfl (fun z h_z => by cases h_z) (by decide) (by decide) zc_RL_19 (by decide +kernel) (fun q9_z => ?_)
      refine r_astore4 dL_reads_13 rfl ?_
      refine n_iconst dL_reads_15 (by decide) (fun r15 e15_z => ?_)
      refine r_iret dL_reads_16 rfl (by first | exact Nat.le_of_ble_eq_true rfl | (dsimp only [zV, zVh, zVg, zrm]; omega) | omega) (by first | exact Nat.le_of_ble_eq_true rfl | (dsimp only [zV, zVh, zVg, zrm]; omega) | omega) ?_
      exact hq _ e15_z
    · refine x_catch [{ startPc := 0, endPc := 10, handlerPc := 13, catchType := 19 }] { startPc := 0, endPc := 10, handlerPc := 17, catchType := 46 } [{ startPc := 0, endPc := 10, handlerPc := 21, catchType := 13 }] rfl (fun z h_z => by rcases List.mem_singleton.mp h_z with rfl; exact ⟨by decide, _, zc_RL_19, by decide +kernel⟩) (by decide) (by decide) zc_RL_46 (by decide +kernel) (fun q9_z => ?_)
      refine r_astore4 dL_reads_17 rfl ?_
      refine n_iconst dL_reads_19 (by decide) (fun r19 e19_z => ?_)
      refine r_iret dL_reads_20 rfl (by first | exact Nat.le_of_ble_eq_true rfl | (dsimp only [zV, zVh, zVg, zrm]; omega) | omega) (by first | exact Nat.le_of_ble_eq_true rfl | (dsimp only [zV, zVh, zVg, zrm]; omega) | omega) ?_
      exact hq _ e19_z
    · refine x_catch [{ startPc := 0, endPc := 10, handlerPc := 13, catchType := 19 }, { startPc := 0, endPc := 10, handlerPc := 17, catchType := 46 }] { startPc := 0, endPc := 10, handlerPc := 21, catchType := 13 } [] rfl (fun z h_z => (List.mem_cons.mp h_z).elim (fun e9_z => by subst e9_z; exact ⟨by decide, _, zc_RL_19, by decide +kernel⟩) (fun h8 => by rcases List.mem_singleton.mp h8 with rfl; exact ⟨by decide, _, zc_RL_46, by decide +kernel⟩)) (by decide) (by decide) zc_RL_13 (by decide +kernel) (fun q9_z => ?_)
      refine r_astore4 dL_reads_21 rfl ?_
      refine n_iconst dL_reads_23 (by decide) (fun r23 e23_z => ?_)
      refine r_iret dL_reads_24 rfl (by first | exact Nat.le_of_ble_eq_true rfl | (dsimp only [zV, zVh, zVg, zrm]; omega) | omega) (by first | exact Nat.le_of_ble_eq_true rfl | (dsimp only [zV, zVh, zVg, zrm]; omega) | omega) ?_
      exact hq _ e23_z
theorem zw_stands : zlW RL 241 yL_stands cL_stands 4 (some .int) [(0, 16, 19, 19), (0, 16, 22, 46), (0, 16, 25, 13)] 3 := ⟨zt6 (List.mem_of_getElem? (i := 166) (by decide +kernel)) (by decide +kernel), zt6 (List.mem_of_getElem? (i := 167) (by decide +kernel)) (by decide +kernel), zini_RL, zt6 (List.mem_of_getElem? (i := 168) (by decide +kernel)) (by decide +kernel), by decide +kernel, by decide +kernel, by decide +kernel, by decide⟩
set_option maxHeartbeats 4000000 in
set_option maxRecDepth 100000 in
theorem w_stands {g : zGT} {w : zW} {X o d : Nat} {x0 : Int32} {b : Nat × Nat} {Q : Option Value → zW → Prop} (G : zGok g) (hX : zK w X = 10) (hM_z : zC g d yX11_stands cX11_stands 5 (some .boolean) [.ref X, .int x0] w b (fun r w2 => ∃ (x : Int32) (w3 : zW) (f : Nat → Nat → Int32) (j : Nat → Nat → Int64), r = some (.int x) ∧ w2 = zM w3 f j ∧ zK w3 o = 25 ∧ zN w3 o = 1 ∧ (∀ (q : Int32) (y : Int64), q.toInt = 0 → y.toInt = (if x.toInt = 0 then 0 else 1) → Q (some (.int q)) (zM w3 f (zu j o 0 y)))) (fun E w2 => (E = "java/util/NoSuchElementException" ∧ ∀ q : Int32, q.toInt = 1 → Q (some (.int q)) w2) ∨ (E = "java/lang/IllegalStateException" ∧ ∀ q : Int32, q.toInt = 2 → Q (some (.int q)) w2) ∨ (E = "java/lang/IllegalArgumentException" ∧ ∀ q : Int32, q.toInt = 3 → Q (some (.int q)) w2))) : zCW g (d + 1) yL_stands cL_stands 4 (some .int) [(0, 16, 19, 19), (0, 16, 22, 46), (0, 16, 25, 13)] [.ref X, .int x0, .ref o] w b Q := by
  refine zCW_of G (by decide +kernel) (Nat.le_of_ble_eq_true rfl) ?_
  refine r_aloadR2 dL_stands_0 ?_
  refine n_iconst dL_stands_1 (by decide) (fun r1 e1_z => ?_)
  refine r_aloadR0 dL_stands_2 ?_
  refine r_iload1 dL_stands_3 ?_
  refine q_callV1 zm_RL_85 dL_stands_4 hX (by decide) rfl (by first | exact Nat.le_of_ble_eq_true rfl | (dsimp only [zV, zVh, zVg, zrm]; omega) | omega) (by first | exact Nat.le_of_ble_eq_true rfl | (dsimp only [zV, zVh, zVg, zrm]; omega) | omega) (by first | exact Nat.le_of_ble_eq_true rfl | (dsimp only [zV, zVh, zVg, zrm]; omega) | omega) (by first | exact Nat.le_of_ble_eq_true rfl | (dsimp only [zV, zVh, zVg, zrm]; omega) | omega) (by first | exact Nat.le_of_ble_eq_true rfl | (dsimp only [zV, zVh, zVg, zrm]; omega) | omega) (zC_mono hM_z (fun r w2 hr => ?_) (fun E w2 he => ?_))
  · obtain ⟨x, w3, f, j, rfl, rfl, ho, hn, hq⟩ := hr
    by_cases hx0 : x.toInt = 0
    · refine t_ifeq (t := 14) dL_stands_7 (by decide) (fun h7 => ?_) (fun h7 => False.elim (by omega))
      refine n_lconst (q := 0) dL_stands_14 rfl (by decide) (fun r14 e14_z => ?_)
      refine m_last (k := 0) dL_stands_15 ho hn (by omega) (by omega) ?_
      refine r_goto (t := 28) dL_stands_16 (by decide) ?_
      refine n_iconst dL_stands_28 (by decide) (fun r28 e28_z => ?_)
      refine r_iret dL_stands_29 rfl (by first | exact Nat.le_of_ble_eq_true rfl | (dsimp only [zV, zVh, zVg, zrm]; omega) | omega) (by first | exact Nat.le_of_ble_eq_true rfl | (dsimp only [zV, zVh, zVg, zrm]; omega) | omega) ?_
      exact hq _ _ e28_z (by rw [if_pos hx0]; omega)
    · refine t_ifeq (t := 14) dL_stands_7 (by decide) (fun h7 => False.elim (by omega)) (fun h7 => ?_)
      refine n_lconst (q := 1) dL_stands_10 rfl (by decide) (fun r10 e10_z => ?_)
      refine r_goto (t := 15) dL_stands_11 (by decide) ?_
      refine m_last (k := 0) dL_stands_15 ho hn (by omega) (by omega) ?_
      refine r_goto (t := 28) dL_stands_16 (by decide) ?_
      refine n_iconst dL_stands_28 (by decide) (fun r28 e28_z => ?_)
      refine r_iret dL_stands_29 rfl (by first | exact Nat.le_of_ble_eq_true rfl | (dsimp only [zV, zVh, zVg, zrm]; omega) | omega) (by first | exact Nat.le_of_ble_eq_true rfl | (dsimp only [zV, zVh, zVg, zrm]; omega) | omega) ?_
      exact hq _ _ e28_z (by rw [if_neg hx0]; omega)
  · rcases he with ⟨rfl, hq⟩ | ⟨rfl, hq⟩ | ⟨rfl, hq⟩
    · refine x_catch [] { startPc := 0, endPc := 16, handlerPc := 19, catchType := 19 } [{ startPc := 0, endPc := 16, handlerPc := 22, catchType := 46 }, { startPc := 0, endPc := 16, handlerPc := 25, catchType := 13 }] rfl (fun z h_z => by cases h_z) (by decide) (by decide) zc_RL_19 (by decide +kernel) (fun q9_z => ?_)
      refine r_astore3 dL_stands_19 rfl ?_
      refine n_iconst dL_stands_20 (by decide) (fun r20 e20 => ?_)
      refine r_iret dL_stands_21 rfl (by first | exact Nat.le_of_ble_eq_true rfl | (dsimp only [zV, zVh, zVg, zrm]; omega) | omega) (by first | exact Nat.le_of_ble_eq_true rfl | (dsimp only [zV, zVh, zVg, zrm]; omega) | omega) ?_
      exact hq _ e20
    · refine x_catch [{ startPc := 0, endPc := 16, handlerPc := 19, catchType := 19 }] { startPc := 0, endPc := 16, handlerPc := 22, catchType := 46 } [{ startPc := 0, endPc := 16, handlerPc := 25, catchType := 13 }] rfl (fun z h_z => by rcases List.mem_singleton.mp h_z with rfl; exact ⟨by decide, _, zc_RL_19, by decide +kernel⟩) (by decide) (by decide) zc_RL_46 (by decide +kernel) (fun q9_z => ?_)
      refine r_astore3 dL_stands_22 rfl ?_
      refine n_iconst dL_stands_23 (by decide) (fun r23 e23_z => ?_)
      refine r_iret dL_stands_24 rfl (by first | exact Nat.le_of_ble_eq_true rfl | (dsimp only [zV, zVh, zVg, zrm]; omega) | omega) (by first | exact Nat.le_of_ble_eq_true rfl | (dsimp only [zV, zVh, zVg, zrm]; omega) | omega) ?_
      exact hq _ e23_z
    · refine x_catch [{ startPc := 0, endPc := 16, handlerPc := 19, catchType := 19 }, { startPc := 0, endPc := 16, handlerPc := 22, catchType := 46 }] { startPc := 0, endPc := 16, handlerPc := 25, catchType := 13 } [] rfl (fun z h_z => (List.mem_cons.mp h_z).elim (fun e9_z => by subst e9_z; exact ⟨by decide, _, zc_RL_19, by decide +kernel⟩) (fun h8 => by rcases List.mem_singleton.mp h8 with rfl; exact ⟨by decide, _, zc_RL_46, by decide +kernel⟩)) (by decide) (by decide) zc_RL_13 (by decide +kernel) (fun q9_z => ?_)
      refine r_astore3 dL_stands_25 rfl ?_
      refine n_iconst dL_stands_26 (by decide) (fun r26 e26_z => ?_)
      refine r_iret dL_stands_27 rfl (by first | exact Nat.le_of_ble_eq_true rfl | (dsimp only [zV, zVh, zVg, zrm]; omega) | omega) (by first | exact Nat.le_of_ble_eq_true rfl | (dsimp only [zV, zVh, zVg, zrm]; omega) | omega) ?_
      exact hq _ e26_z
theorem zw_stack : zlW RL 248 yL_stack cL_stack 4 (some .int) [(0, 9, 12, 19), (0, 9, 15, 46), (0, 9, 18, 13)] 3 := ⟨zt6 (List.mem_of_getElem? (i := 186) (by decide +kernel)) (by decide +kernel), zt6 (List.mem_of_getElem? (i := 187) (by decide +kernel)) (by decide +kernel), zini_RL, zt6 (List.mem_of_getElem? (i := 188) (by decide +kernel)) (by decide +kernel), by decide +kernel, by decide +kernel, by decide +kernel, by decide⟩
set_option maxHeartbeats 4000000 in
set_option maxRecDepth 100000 in
theorem w_stack {g : zGT} {w : zW} {X o d : Nat} {x0 : Int32} {b : Nat × Nat} {Q : Option Value → zW → Prop} (G : zGok g) (hX : zK w X = 10) (hM_z : zC g d yX11_stack cX11_stack 5 (some .int) [.ref X, .int x0] w b (fun r w2 => ∃ (x : Int32) (w3 : zW) (f : Nat → Nat → Int32) (j : Nat → Nat → Int64), r = some (.int x) ∧ w2 = zM w3 f j ∧ zK w3 o = 25 ∧ zN w3 o = 1 ∧ ∀ (q : Int32) (y : Int64), q.toInt = 0 → y.toInt = x.toInt → Q (some (.int q)) (zM w3 f (zu j o 0 y))) (fun E w2 => (E = "java/util/NoSuchElementException" ∧ ∀ q : Int32, q.toInt = 1 → Q (some (.int q)) w2) ∨ (E = "java/lang/IllegalStateException" ∧ ∀ q : Int32, q.toInt = 2 → Q (some (.int q)) w2) ∨ (E = "java/lang/IllegalArgumentException" ∧ ∀ q : Int32, q.toInt = 3 → Q (some (.int q)) w2))) : zCW g (d + 1) yL_stack cL_stack 4 (some .int) [(0, 9, 12, 19), (0, 9, 15, 46), (0, 9, 18, 13)] [.ref X, .int x0, .ref o] w b Q := by
  refine zCW_of G (by decide +kernel) (Nat.le_of_ble_eq_true rfl) ?_
  refine r_aloadR2 dL_stack_0 ?_
  refine n_iconst dL_stack_1 (by decide) (fun r1 e1_z => ?_)
  refine r_aloadR0 dL_stack_2 ?_
  refine r_iload1 dL_stack_3 ?_
  refine q_callV1 zm_RL_89 dL_stack_4 hX (by decide) rfl (by first | exact Nat.le_of_ble_eq_true rfl | (dsimp only [zV, zVh, zVg, zrm]; omega) | omega) (by first | exact Nat.le_of_ble_eq_true rfl | (dsimp only [zV, zVh, zVg, zrm]; omega) | omega) (by first | exact Nat.le_of_ble_eq_true rfl | (dsimp only [zV, zVh, zVg, zrm]; omega) | omega) (by first | exact Nat.le_of_ble_eq_true rfl | (dsimp only [zV, zVh, zVg, zrm]; omega) | omega) (by first | exact Nat.le_of_ble_eq_true rfl | (dsimp only [zV, zVh, zVg, zrm]; omega) | omega) (zC_mono hM_z (fun r w2 hr => ?_) (fun E w2 he => ?_))
  · obtain ⟨x, w3, f, j, rfl, rfl, ho, hn, hq⟩ := hr
    refine n_i2l dL_stack_7 (fun r7 e7_z => ?_)
    refine m_last (k := 0) dL_stack_8 ho hn (by omega) (by omega) ?_
    refine r_goto (t := 21) dL_stack_9 (by decide) ?_
    refine n_iconst dL_stack_21 (by decide) (fun r21 e21_z => ?_)
    refine r_iret dL_stack_22 rfl (by first | exact Nat.le_of_ble_eq_true rfl | (dsimp only [zV, zVh, zVg, zrm]; omega) | omega) (by first | exact Nat.le_of_ble_eq_true rfl | (dsimp only [zV, zVh, zVg, zrm]; omega) | omega) ?_
    exact hq _ _ e21_z (by omega)
  · rcases he with ⟨rfl, hq⟩ | ⟨rfl, hq⟩ | ⟨rfl, hq⟩
    · refine x_catch [] { startPc := 0, endPc := 9, handlerPc := 12, catchType := 19 } [{ startPc := 0, endPc := 9, handlerPc := 15, catchType := 46 }, { startPc := 0, endPc := 9, handlerPc := 18, catchType := 13 }] rfl (fun z h_z => by cases h_z) (by decide) (by decide) zc_RL_19 (by decide +kernel) (fun q9_z => ?_)
      refine r_astore3 dL_stack_12 rfl ?_
      refine n_iconst dL_stack_13 (by decide) (fun r13 e13_z => ?_)
      refine r_iret dL_stack_14 rfl (by first | exact Nat.le_of_ble_eq_true rfl | (dsimp only [zV, zVh, zVg, zrm]; omega) | omega) (by first | exact Nat.le_of_ble_eq_true rfl | (dsimp only [zV, zVh, zVg, zrm]; omega) | omega) ?_
      exact hq _ e13_z
    · refine x_catch [{ startPc := 0, endPc := 9, handlerPc := 12, catchType := 19 }] { startPc := 0, endPc := 9, handlerPc := 15, catchType := 46 } [{ startPc := 0, endPc := 9, handlerPc := 18, catchType := 13 }] rfl (fun z h_z => by rcases List.mem_singleton.mp h_z with rfl; exact ⟨by decide, _, zc_RL_19, by decide +kernel⟩) (by decide) (by decide) zc_RL_46 (by decide +kernel) (fun q9_z => ?_)
      refine r_astore3 dL_stack_15 rfl ?_
      refine n_iconst dL_stack_16 (by decide) (fun r16 e16_z => ?_)
      refine r_iret dL_stack_17 rfl (by first | exact Nat.le_of_ble_eq_true rfl | (dsimp only [zV, zVh, zVg, zrm]; omega) | omega) (by first | exact Nat.le_of_ble_eq_true rfl | (dsimp only [zV, zVh, zVg, zrm]; omega) | omega) ?_
      exact hq _ e16_z
    · refine x_catch [{ startPc := 0, endPc := 9, handlerPc := 12, catchType := 19 }, { startPc := 0, endPc := 9, handlerPc := 15, catchType := 46 }] { startPc := 0, endPc := 9, handlerPc := 18, catchType := 13 } [] rfl (fun z h_z => (List.mem_cons.mp h_z).elim (fun e9_z => by subst e9_z; exact ⟨by decide, _, zc_RL_19, by decide +kernel⟩) (fun h8 => by rcases List.mem_singleton.mp h8 with rfl; exact ⟨by decide, _, zc_RL_46, by decide +kernel⟩)) (by decide) (by decide) zc_RL_13 (by decide +kernel) (fun q9_z => ?_)
      refine r_astore3 dL_stack_18 rfl ?_
      refine n_iconst dL_stack_19 (by decide) (fun r19 e19_z => ?_)
      refine r_iret dL_stack_20 rfl (by first | exact Nat.le_of_ble_eq_true rfl | (dsimp only [zV, zVh, zVg, zrm]; omega) | omega) (by first | exact Nat.le_of_ble_eq_true rfl | (dsimp only [zV, zVh, zVg, zrm]; omega) | omega) ?_
      exact hq _ e19_z
theorem zw_made : zlW RL 255 yL_made cL_made 4 (some .int) [(0, 9, 12, 19), (0, 9, 15, 46), (0, 9, 18, 13)] 3 := ⟨zt6 (List.mem_of_getElem? (i := 196) (by decide +kernel)) (by decide +kernel), zt6 (List.mem_of_getElem? (i := 197) (by decide +kernel)) (by decide +kernel), zini_RL, zt6 (List.mem_of_getElem? (i := 198) (by decide +kernel)) (by decide +kernel), by decide +kernel, by decide +kernel, by decide +kernel, by decide⟩
set_option maxHeartbeats 4000000 in
set_option maxRecDepth 100000 in
theorem w_made {g : zGT} {w : zW} {X o d : Nat} {x0 : Int32} {b : Nat × Nat} {Q : Option Value → zW → Prop} (G : zGok g) (hX : zK w X = 10) (hM_z : zC g d yX11_made cX11_made 6 (some .int) [.ref X, .int x0] w b (fun r w2 => ∃ (x : Int32) (w3 : zW) (f : Nat → Nat → Int32) (j : Nat → Nat → Int64), r = some (.int x) ∧ w2 = zM w3 f j ∧ zK w3 o = 25 ∧ zN w3 o = 1 ∧ ∀ (q : Int32) (y : Int64), q.toInt = 0 → y.toInt = x.toInt → Q (some (.int q)) (zM w3 f (zu j o 0 y))) (fun E w2 => (E = "java/util/NoSuchElementException" ∧ ∀ q : Int32, q.toInt = 1 → Q (some (.int q)) w2) ∨ (E = "java/lang/IllegalStateException" ∧ ∀ q : Int32, q.toInt = 2 → Q (some (.int q)) w2) ∨ (E = "java/lang/IllegalArgumentException" ∧ ∀ q : Int32, q.toInt = 3 → Q (some (.int q)) w2))) : zCW g (d + 1) yL_made cL_made 4 (some .int) [(0, 9, 12, 19), (0, 9, 15, 46), (0, 9, 18, 13)] [.ref X, .int x0, .ref o] w b Q := by
  refine zCW_of G (by decide +kernel) (Nat.le_of_ble_eq_true rfl) ?_
  refine r_aloadR2 dL_made_0 ?_
  refine n_iconst dL_made_1 (by decide) (fun r1 e1_z => ?_)
  refine r_aloadR0 dL_made_2 ?_
  refine r_iload1 dL_made_3 ?_
  refine q_callV1 zm_RL_92 dL_made_4 hX (by decide) rfl (by first | exact Nat.le_of_ble_eq_true rfl | (dsimp only [zV, zVh, zVg, zrm]; omega) | omega) (by first | exact Nat.le_of_ble_eq_true rfl | (dsimp only [zV, zVh, zVg, zrm]; omega) | omega) (by first | exact Nat.le_of_ble_eq_true rfl | (dsimp only [zV, zVh, zVg, zrm]; omega) | omega) (by first | exact Nat.le_of_ble_eq_true rfl | (dsimp only [zV, zVh, zVg, zrm]; omega) | omega) (by first | exact Nat.le_of_ble_eq_true rfl | (dsimp only [zV, zVh, zVg, zrm]; omega) | omega) (zC_mono hM_z (fun r w2 hr => ?_) (fun E w2 he => ?_))
  · obtain ⟨x, w3, f, j, rfl, rfl, ho, hn, hq⟩ := hr
    refine n_i2l dL_made_7 (fun r7 e7_z => ?_)
    refine m_last (k := 0) dL_made_8 ho hn (by omega) (by omega) ?_
    refine r_goto (t := 21) dL_made_9 (by decide) ?_
    refine n_iconst dL_made_21 (by decide) (fun r21 e21_z => ?_)
    refine r_iret dL_made_22 rfl (by first | exact Nat.le_of_ble_eq_true rfl | (dsimp only [zV, zVh, zVg, zrm]; omega) | omega) (by first | exact Nat.le_of_ble_eq_true rfl | (dsimp only [zV, zVh, zVg, zrm]; omega) | omega) ?_
    exact hq _ _ e21_z (by omega)
  · rcases he with ⟨rfl, hq⟩ | ⟨rfl, hq⟩ | ⟨rfl, hq⟩
    · refine x_catch [] { startPc := 0, endPc := 9, handlerPc := 12, catchType := 19 } [{ startPc := 0, endPc := 9, handlerPc := 15, catchType := 46 }, { startPc := 0, endPc := 9, handlerPc := 18, catchType := 13 }] rfl (fun z h_z => by cases h_z) (by decide) (by decide) zc_RL_19 (by decide +kernel) (fun q9_z => ?_)
      refine r_astore3 dL_made_12 rfl ?_
      refine n_iconst dL_made_13 (by decide) (fun r13 e13_z => ?_)
      refine r_iret dL_made_14 rfl (by first | exact Nat.le_of_ble_eq_true rfl | (dsimp only [zV, zVh, zVg, zrm]; omega) | omega) (by first | exact Nat.le_of_ble_eq_true rfl | (dsimp only [zV, zVh, zVg, zrm]; omega) | omega) ?_
      exact hq _ e13_z
    · refine x_catch [{ startPc := 0, endPc := 9, handlerPc := 12, catchType := 19 }] { startPc := 0, endPc := 9, handlerPc := 15, catchType := 46 } [{ startPc := 0, endPc := 9, handlerPc := 18, catchType := 13 }] rfl (fun z h_z => by rcases List.mem_singleton.mp h_z with rfl; exact ⟨by decide, _, zc_RL_19, by decide +kernel⟩) (by decide) (by decide) zc_RL_46 (by decide +kernel) (fun q9_z => ?_)
      refine r_astore3 dL_made_15 rfl ?_
      refine n_iconst dL_made_16 (by decide) (fun r16 e16_z => ?_)
      refine r_iret dL_made_17 rfl (by first | exact Nat.le_of_ble_eq_true rfl | (dsimp only [zV, zVh, zVg, zrm]; omega) | omega) (by first | exact Nat.le_of_ble_eq_true rfl | (dsimp only [zV, zVh, zVg, zrm]; omega) | omega) ?_
      exact hq _ e16_z
    · refine x_catch [{ startPc := 0, endPc := 9, handlerPc := 12, catchType := 19 }, { startPc := 0, endPc := 9, handlerPc := 15, catchType := 46 }] { startPc := 0, endPc := 9, handlerPc := 18, catchType := 13 } [] rfl (fun z h_z => (List.mem_cons.mp h_z).elim (fun e9_z => by subst e9_z; exact ⟨by decide, _, zc_RL_19, by decide +kernel⟩) (fun h8 => by rcases List.mem_singleton.mp h8 with rfl; exact ⟨by decide, _, zc_RL_46, by decide +kernel⟩)) (by decide) (by decide) zc_RL_13 (by decide +kernel) (fun q9_z => ?_)
      refine r_astore3 dL_made_18 rfl ?_
      refine n_iconst dL_made_19 (by decide) (fun r19 e19_z => ?_)
      refine r_iret dL_made_20 rfl (by first | exact Nat.le_of_ble_eq_true rfl | (dsimp only [zV, zVh, zVg, zrm]; omega) | omega) (by first | exact Nat.le_of_ble_eq_true rfl | (dsimp only [zV, zVh, zVg, zrm]; omega) | omega) ?_
      exact hq _ e19_z
theorem zw_madeBy : zlW RL 258 yL_madeBy cL_madeBy 5 (some .int) [(0, 10, 13, 19), (0, 10, 17, 46), (0, 10, 21, 13)] 4 := ⟨zt6 (List.mem_of_getElem? (i := 213) (by decide +kernel)) (by decide +kernel), zt6 (List.mem_of_getElem? (i := 214) (by decide +kernel)) (by decide +kernel), zini_RL, zt6 (List.mem_of_getElem? (i := 215) (by decide +kernel)) (by decide +kernel), by decide +kernel, by decide +kernel, by decide +kernel, by decide⟩
set_option maxHeartbeats 4000000 in
set_option maxRecDepth 100000 in
theorem w_madeBy {g : zGT} {w : zW} {X o d : Nat} {x0 : Int32} {x1 : Int32} {b : Nat × Nat} {Q : Option Value → zW → Prop} (G : zGok g) (hX : zK w X = 10) (hM_z : zC g d yX11_madeBy cX11_madeBy 6 (some .int) [.ref X, .int x0, .int x1] w b (fun r w2 => ∃ (x : Int32) (w3 : zW) (f : Nat → Nat → Int32) (j : Nat → Nat → Int64), r = some (.int x) ∧ w2 = zM w3 f j ∧ zK w3 o = 25 ∧ zN w3 o = 1 ∧ ∀ (q : Int32) (y : Int64), q.toInt = 0 → y.toInt = x.toInt → Q (some (.int q)) (zM w3 f (zu j o 0 y))) (fun E w2 => (E = "java/util/NoSuchElementException" ∧ ∀ q : Int32, q.toInt = 1 → Q (some (.int q)) w2) ∨ (E = "java/lang/IllegalStateException" ∧ ∀ q : Int32, q.toInt = 2 → Q (some (.int q)) w2) ∨ (E = "java/lang/IllegalArgumentException" ∧ ∀ q : Int32, q.toInt = 3 → Q (some (.int q)) w2))) : zCW g (d + 1) yL_madeBy cL_madeBy 5 (some .int) [(0, 10, 13, 19), (0, 10, 17, 46), (0, 10, 21, 13)] [.ref X, .int x0, .int x1, .ref o] w b Q := by
  refine zCW_of G (by decide +kernel) (Nat.le_of_ble_eq_true rfl) ?_
  refine r_aloadR3 dL_madeBy_0 ?_
  refine n_iconst dL_madeBy_1 (by decide) (fun r1 e1_z => ?_)
  refine r_aloadR0 dL_madeBy_2 ?_
  refine r_iload1 dL_madeBy_3 ?_
  refine r_iload2 dL_madeBy_4 ?_
  refine q_callV2 zm_RL_95 dL_madeBy_5 hX (by decide) rfl (by first | exact Nat.le_of_ble_eq_true rfl | (dsimp only [zV, zVh, zVg, zrm]; omega) | omega) (by first | exact Nat.le_of_ble_eq_true rfl | (dsimp only [zV, zVh, zVg, zrm]; omega) | omega) (by first | exact Nat.le_of_ble_eq_true rfl | (dsimp only [zV, zVh, zVg, zrm]; omega) | omega) (by first | exact Nat.le_of_ble_eq_true rfl | (dsimp only [zV, zVh, zVg, zrm]; omega) | omega) (by first | exact Nat.le_of_ble_eq_true rfl | (dsimp only [zV, zVh, zVg, zrm]; omega) | omega) (zC_mono hM_z (fun r w2 hr => ?_) (fun E w2 he => ?_))
  · obtain ⟨x, w3, f, j, rfl, rfl, ho, hn, hq⟩ := hr
    refine n_i2l dL_madeBy_8 (fun r8 e8 => ?_)
    refine m_last (k := 0) dL_madeBy_9 ho hn (by omega) (by omega) ?_
    refine r_goto (t := 25) dL_madeBy_10 (by decide) ?_
    refine n_iconst dL_madeBy_25 (by decide) (fun r25 e25_z => ?_)
    refine r_iret dL_madeBy_26 rfl (by first | exact Nat.le_of_ble_eq_true rfl | (dsimp only [zV, zVh, zVg, zrm]; omega) | omega) (by first | exact Nat.le_of_ble_eq_true rfl | (dsimp only [zV, zVh, zVg, zrm]; omega) | omega) ?_
    exact hq _ _ e25_z (by omega)
  · rcases he with ⟨rfl, hq⟩ | ⟨rfl, hq⟩ | ⟨rfl, hq⟩
    · refine x_catch [] { startPc := 0, endPc := 10, handlerPc := 13, catchType := 19 } [{ startPc := 0, endPc := 10, handlerPc := 17, catchType := 46 }, { startPc := 0, endPc := 10, handlerPc := 21, catchType := 13 }] rfl (fun z h_z => by cases h_z) (by decide) (by decide) zc_RL_19 (by decide +kernel) (fun q9_z => ?_)
      refine r_astore4 dL_madeBy_13 rfl ?_
      refine n_iconst dL_madeBy_15 (by decide) (fun r15 e15_z => ?_)
      refine r_iret dL_madeBy_16 rfl (by first | exact Nat.le_of_ble_eq_true rfl | (dsimp only [zV, zVh, zVg, zrm]; omega) | omega) (by first | exact Nat.le_of_ble_eq_true rfl | (dsimp only [zV, zVh, zVg, zrm]; omega) | omega) ?_
      exact hq _ e15_z
    · refine x_catch [{ startPc := 0, endPc := 10, handlerPc := 13, catchType := 19 }] { startPc := 0, endPc := 10, handlerPc := 17, catchType := 46 } [{ startPc := 0, endPc := 10, handlerPc := 21, catchType := 13 }] rfl (fun z h_z => by rcases List.mem_singleton.mp h_z with rfl; exact ⟨by decide, _, zc_RL_19, by decide +kernel⟩) (by decide) (by decide) zc_RL_46 (by decide +kernel) (fun q9_z => ?_)
      refine r_astore4 dL_madeBy_17 rfl ?_
      refine n_iconst dL_madeBy_19 (by decide) (fun r19 e19_z => ?_)
      refine r_iret dL_madeBy_20 rfl (by first | exact Nat.le_of_ble_eq_true rfl | (dsimp only [zV, zVh, zVg, zrm]; omega) | omega) (by first | exact Nat.le_of_ble_eq_true rfl | (dsimp only [zV, zVh, zVg, zrm]; omega) | omega) ?_
      exact hq _ e19_z
    · refine x_catch [{ startPc := 0, endPc := 10, handlerPc := 13, catchType := 19 }, { startPc := 0, endPc := 10, handlerPc := 17, catchType := 46 }] { startPc := 0, endPc := 10, handlerPc := 21, catchType := 13 } [] rfl (fun z h_z => (List.mem_cons.mp h_z).elim (fun e9_z => by subst e9_z; exact ⟨by decide, _, zc_RL_19, by decide +kernel⟩) (fun h8 => by rcases List.mem_singleton.mp h8 with rfl; exact ⟨by decide, _, zc_RL_46, by decide +kernel⟩)) (by decide) (by decide) zc_RL_13 (by decide +kernel) (fun q9_z => ?_)
      refine r_astore4 dL_madeBy_21 rfl ?_
      refine n_iconst dL_madeBy_23 (by decide) (fun r23 e23_z => ?_)
      refine r_iret dL_madeBy_24 rfl (by first | exact Nat.le_of_ble_eq_true rfl | (dsimp only [zV, zVh, zVg, zrm]; omega) | omega) (by first | exact Nat.le_of_ble_eq_true rfl | (dsimp only [zV, zVh, zVg, zrm]; omega) | omega) ?_
      exact hq _ e23_z
theorem zw_fairest : zlW RL 269 yL_fairest cL_fairest 5 (some .int) [(0, 10, 13, 13)] 4 := ⟨zt6 (List.mem_of_getElem? (i := 220) (by decide +kernel)) (by decide +kernel), zt6 (List.mem_of_getElem? (i := 221) (by decide +kernel)) (by decide +kernel), zini_RL, zt6 (List.mem_of_getElem? (i := 222) (by decide +kernel)) (by decide +kernel), by decide +kernel, by decide +kernel, by decide +kernel, by decide⟩
set_option maxHeartbeats 4000000 in
set_option maxRecDepth 100000 in
theorem w_fairest {g : zGT} {w : zW} {X o d : Nat} {x0 : Int32} {x1 : Int32} {b : Nat × Nat} {Q : Option Value → zW → Prop} (G : zGok g) (hX : zK w X = 10) (hM_z : zC g d yX11_fairest cX11_fairest 5 (some .int) [.ref X, .int x0, .int x1] w b (fun r w2 => ∃ (x : Int32) (w3 : zW) (f : Nat → Nat → Int32) (j : Nat → Nat → Int64), r = some (.int x) ∧ w2 = zM w3 f j ∧ zK w3 o = 25 ∧ zN w3 o = 1 ∧ ∀ (q : Int32) (y : Int64), q.toInt = 0 → y.toInt = x.toInt → Q (some (.int q)) (zM w3 f (zu j o 0 y))) (fun E w2 => (E = "java/lang/IllegalArgumentException" ∧ ∀ q : Int32, q.toInt = 1 → Q (some (.int q)) w2))) : zCW g (d + 1) yL_fairest cL_fairest 5 (some .int) [(0, 10, 13, 13)] [.ref X, .int x0, .int x1, .ref o] w b Q := by
  refine zCW_of G (by decide +kernel) (Nat.le_of_ble_eq_true rfl) ?_
  refine r_aloadR3 dL_fairest_0 ?_
  refine n_iconst dL_fairest_1 (by decide) (fun r1 e1_z => ?_)
  refine r_aloadR0 dL_fairest_2 ?_
  refine r_iload1 dL_fairest_3 ?_
  refine r_iload2 dL_fairest_4 ?_
  refine q_callV2 zm_RL_98 dL_fairest_5 hX (by decide) rfl (by first | exact Nat.le_of_ble_eq_true rfl | (dsimp only [zV, zVh, zVg, zrm]; omega) | omega) (by first | exact Nat.le_of_ble_eq_true rfl | (dsimp only [zV, zVh, zVg, zrm]; omega) | omega) (by first | exact Nat.le_of_ble_eq_true rfl | (dsimp only [zV, zVh, zVg, zrm]; omega) | omega) (by first | exact Nat.le_of_ble_eq_true rfl | (dsimp only [zV, zVh, zVg, zrm]; omega) | omega) (by first | exact Nat.le_of_ble_eq_true rfl | (dsimp only [zV, zVh, zVg, zrm]; omega) | omega) (zC_mono hM_z (fun r w2 hr => ?_) (fun E w2 he => ?_))
  · obtain ⟨x, w3, f, j, rfl, rfl, ho, hn, hq⟩ := hr
    refine n_i2l dL_fairest_8 (fun r8 e8 => ?_)
    refine m_last (k := 0) dL_fairest_9 ho hn (by omega) (by omega) ?_
    refine r_goto (t := 17) dL_fairest_10 (by decide) ?_
    refine n_iconst dL_fairest_17 (by decide) (fun r17 e17_z => ?_)
    refine r_iret dL_fairest_18 rfl (by first | exact Nat.le_of_ble_eq_true rfl | (dsimp only [zV, zVh, zVg, zrm]; omega) | omega) (by first | exact Nat.le_of_ble_eq_true rfl | (dsimp only [zV, zVh, zVg, zrm]; omega) | omega) ?_
    exact hq _ _ e17_z (by omega)
  · obtain ⟨rfl, hq⟩ := he
    refine x_catch [] { startPc := 0, endPc := 10, handlerPc := 13, catchType := 13 } [] rfl (fun z h_z => by cases h_z) (by decide) (by decide) zc_RL_13 (by decide +kernel) (fun q9_z => ?_)
    refine r_astore4 dL_fairest_13 rfl ?_
    refine n_iconst dL_fairest_15 (by decide) (fun r15 e15_z => ?_)
    refine r_iret dL_fairest_16 rfl (by first | exact Nat.le_of_ble_eq_true rfl | (dsimp only [zV, zVh, zVg, zrm]; omega) | omega) (by first | exact Nat.le_of_ble_eq_true rfl | (dsimp only [zV, zVh, zVg, zrm]; omega) | omega) ?_
    exact hq _ e15_z
theorem zw_better : zlW RL 272 yL_better cL_better 4 (some .int) [(0, 9, 12, 13)] 3 := ⟨zt6 (List.mem_of_getElem? (i := 227) (by decide +kernel)) (by decide +kernel), zt6 (List.mem_of_getElem? (i := 228) (by decide +kernel)) (by decide +kernel), zini_RL, zt6 (List.mem_of_getElem? (i := 229) (by decide +kernel)) (by decide +kernel), by decide +kernel, by decide +kernel, by decide +kernel, by decide⟩
set_option maxHeartbeats 4000000 in
set_option maxRecDepth 100000 in
theorem w_better {g : zGT} {w : zW} {X o d : Nat} {x0 : Int32} {b : Nat × Nat} {Q : Option Value → zW → Prop} (G : zGok g) (hX : zK w X = 10) (hM_z : zC g d yX11_better cX11_better 5 (some .int) [.ref X, .int x0] w b (fun r w2 => ∃ (x : Int32) (w3 : zW) (f : Nat → Nat → Int32) (j : Nat → Nat → Int64), r = some (.int x) ∧ w2 = zM w3 f j ∧ zK w3 o = 25 ∧ zN w3 o = 1 ∧ ∀ (q : Int32) (y : Int64), q.toInt = 0 → y.toInt = x.toInt → Q (some (.int q)) (zM w3 f (zu j o 0 y))) (fun E w2 => (E = "java/lang/IllegalArgumentException" ∧ ∀ q : Int32, q.toInt = 1 → Q (some (.int q)) w2))) : zCW g (d + 1) yL_better cL_better 4 (some .int) [(0, 9, 12, 13)] [.ref X, .int x0, .ref o] w b Q := by
  refine zCW_of G (by decide +kernel) (Nat.le_of_ble_eq_true rfl) ?_
  refine r_aloadR2 dL_better_0 ?_
  refine n_iconst dL_better_1 (by decide) (fun r1 e1_z => ?_)
  refine r_aloadR0 dL_better_2 ?_
  refine r_iload1 dL_better_3 ?_
  refine q_callV1 zm_RL_101 dL_better_4 hX (by decide) rfl (by first | exact Nat.le_of_ble_eq_true rfl | (dsimp only [zV, zVh, zVg, zrm]; omega) | omega) (by first | exact Nat.le_of_ble_eq_true rfl | (dsimp only [zV, zVh, zVg, zrm]; omega) | omega) (by first | exact Nat.le_of_ble_eq_true rfl | (dsimp only [zV, zVh, zVg, zrm]; omega) | omega) (by first | exact Nat.le_of_ble_eq_true rfl | (dsimp only [zV, zVh, zVg, zrm]; omega) | omega) (by first | exact Nat.le_of_ble_eq_true rfl | (dsimp only [zV, zVh, zVg, zrm]; omega) | omega) (zC_mono hM_z (fun r w2 hr => ?_) (fun E w2 he => ?_))
  · obtain ⟨x, w3, f, j, rfl, rfl, ho, hn, hq⟩ := hr
    refine n_i2l dL_better_7 (fun r7 e7_z => ?_)
    refine m_last (k := 0) dL_better_8 ho hn (by omega) (by omega) ?_
    refine r_goto (t := 15) dL_better_9 (by decide) ?_
    refine n_iconst dL_better_15 (by decide) (fun r15 e15_z => ?_)
    refine r_iret dL_better_16 rfl (by first | exact Nat.le_of_ble_eq_true rfl | (dsimp only [zV, zVh, zVg, zrm]; omega) | omega) (by first | exact Nat.le_of_ble_eq_true rfl | (dsimp only [zV, zVh, zVg, zrm]; omega) | omega) ?_
    exact hq _ _ e15_z (by omega)
  · obtain ⟨rfl, hq⟩ := he
    refine x_catch [] { startPc := 0, endPc := 9, handlerPc := 12, catchType := 13 } [] rfl (fun z h_z => by cases h_z) (by decide) (by decide) zc_RL_13 (by decide +kernel) (fun q9_z => ?_)
    refine r_astore3 dL_better_12 rfl ?_
    refine n_iconst dL_better_13 (by decide) (fun r13 e13_z => ?_)
    refine r_iret dL_better_14 rfl (by first | exact Nat.le_of_ble_eq_true rfl | (dsimp only [zV, zVh, zVg, zrm]; omega) | omega) (by first | exact Nat.le_of_ble_eq_true rfl | (dsimp only [zV, zVh, zVg, zrm]; omega) | omega) ?_
    exact hq _ e13_z
theorem zw_keenest : zlW RL 275 yL_keenest cL_keenest 4 (some .int) [(0, 9, 12, 13)] 3 := ⟨zt6 (List.mem_of_getElem? (i := 238) (by decide +kernel)) (by decide +kernel), zt6 (List.mem_of_getElem? (i := 239) (by decide +kernel)) (by decide +kernel), zini_RL, zt7 (List.mem_of_getElem? (i := 0) (by decide +kernel)) (by decide +kernel), by decide +kernel, by decide +kernel, by decide +kernel, by decide⟩
set_option maxHeartbeats 4000000 in
set_option maxRecDepth 100000 in
theorem w_keenest {g : zGT} {w : zW} {X o d : Nat} {x0 : Int32} {b : Nat × Nat} {Q : Option Value → zW → Prop} (G : zGok g) (hX : zK w X = 10) (hM_z : zC g d yX11_keenest cX11_keenest 8 (some .int) [.ref X, .int x0] w b (fun r w2 => ∃ (x : Int32) (w3 : zW) (f : Nat → Nat → Int32) (j : Nat → Nat → Int64), r = some (.int x) ∧ w2 = zM w3 f j ∧ zK w3 o = 25 ∧ zN w3 o = 1 ∧ ∀ (q : Int32) (y : Int64), q.toInt = 0 → y.toInt = x.toInt → Q (some (.int q)) (zM w3 f (zu j o 0 y))) (fun E w2 => (E = "java/lang/IllegalArgumentException" ∧ ∀ q : Int32, q.toInt = 1 → Q (some (.int q)) w2))) : zCW g (d + 1) yL_keenest cL_keenest 4 (some .int) [(0, 9, 12, 13)] [.ref X, .int x0, .ref o] w b Q := by
  refine zCW_of G (by decide +kernel) (Nat.le_of_ble_eq_true rfl) ?_
  refine r_aloadR2 dL_keenest_0 ?_
  refine n_iconst dL_keenest_1 (by decide) (fun r1 e1_z => ?_)
  refine r_aloadR0 dL_keenest_2 ?_
  refine r_iload1 dL_keenest_3 ?_
  refine q_callV1 zm_RL_104 dL_keenest_4 hX (by decide) rfl (by first | exact Nat.le_of_ble_eq_true rfl | (dsimp only [zV, zVh, zVg, zrm]; omega) | omega) (by first | exact Nat.le_of_ble_eq_true rfl | (dsimp only [zV, zVh, zVg, zrm]; omega) | omega) (by first | exact Nat.le_of_ble_eq_true rfl | (dsimp only [zV, zVh, zVg, zrm]; omega) | omega) (by first | exact Nat.le_of_ble_eq_true rfl | (dsimp only [zV, zVh, zVg, zrm]; omega) | omega) (by first | exact Nat.le_of_ble_eq_true rfl | (dsimp only [zV, zVh, zVg, zrm]; omega) | omega) (zC_mono hM_z (fun r w2 hr => ?_) (fun E w2 he => ?_))
  · obtain ⟨x, w3, f, j, rfl, rfl, ho, hn, hq⟩ := hr
    refine n_i2l dL_keenest_7 (fun r7 e7_z => ?_)
    refine m_last (k := 0) dL_keenest_8 ho hn (by omega) (by omega) ?_
    refine r_goto (t := 15) dL_keenest_9 (by decide) ?_
    refine n_iconst dL_keenest_15 (by decide) (fun r15 e15_z => ?_)
    refine r_iret dL_keenest_16 rfl (by first | exact Nat.le_of_ble_eq_true rfl | (dsimp only [zV, zVh, zVg, zrm]; omega) | omega) (by first | exact Nat.le_of_ble_eq_true rfl | (dsimp only [zV, zVh, zVg, zrm]; omega) | omega) ?_
    exact hq _ _ e15_z (by omega)
  · obtain ⟨rfl, hq⟩ := he
    refine x_catch [] { startPc := 0, endPc := 9, handlerPc := 12, catchType := 13 } [] rfl (fun z h_z => by cases h_z) (by decide) (by decide) zc_RL_13 (by decide +kernel) (fun q9_z => ?_)
    refine r_astore3 dL_keenest_12 rfl ?_
    refine n_iconst dL_keenest_13 (by decide) (fun r13 e13_z => ?_)
    refine r_iret dL_keenest_14 rfl (by first | exact Nat.le_of_ble_eq_true rfl | (dsimp only [zV, zVh, zVg, zrm]; omega) | omega) (by first | exact Nat.le_of_ble_eq_true rfl | (dsimp only [zV, zVh, zVg, zrm]; omega) | omega) ?_
    exact hq _ e13_z
theorem zw_seen : zlW RL 278 yL_seen cL_seen 5 (some .int) [(0, 10, 13, 19), (0, 10, 17, 46), (0, 10, 21, 13)] 4 := ⟨zt7 (List.mem_of_getElem? (i := 5) (by decide +kernel)) (by decide +kernel), zt7 (List.mem_of_getElem? (i := 6) (by decide +kernel)) (by decide +kernel), zini_RL, zt7 (List.mem_of_getElem? (i := 7) (by decide +kernel)) (by decide +kernel), by decide +kernel, by decide +kernel, by decide +kernel, by decide⟩
set_option maxHeartbeats 4000000 in
set_option maxRecDepth 100000 in
theorem w_seen {g : zGT} {w : zW} {X o d : Nat} {x0 : Int32} {x1 : Int32} {b : Nat × Nat} {Q : Option Value → zW → Prop} (G : zGok g) (hX : zK w X = 10) (hM_z : zC g d yX11_seen cX11_seen 7 (some .int) [.ref X, .int x0, .int x1] w b (fun r w2 => ∃ (x : Int32) (w3 : zW) (f : Nat → Nat → Int32) (j : Nat → Nat → Int64), r = some (.int x) ∧ w2 = zM w3 f j ∧ zK w3 o = 25 ∧ zN w3 o = 1 ∧ ∀ (q : Int32) (y : Int64), q.toInt = 0 → y.toInt = x.toInt → Q (some (.int q)) (zM w3 f (zu j o 0 y))) (fun E w2 => (E = "java/util/NoSuchElementException" ∧ ∀ q : Int32, q.toInt = 1 → Q (some (.int q)) w2) ∨ (E = "java/lang/IllegalStateException" ∧ ∀ q : Int32, q.toInt = 2 → Q (some (.int q)) w2) ∨ (E = "java/lang/IllegalArgumentException" ∧ ∀ q : Int32, q.toInt = 3 → Q (some (.int q)) w2))) : zCW g (d + 1) yL_seen cL_seen 5 (some .int) [(0, 10, 13, 19), (0, 10, 17, 46), (0, 10, 21, 13)] [.ref X, .int x0, .int x1, .ref o] w b Q := by
  refine zCW_of G (by decide +kernel) (Nat.le_of_ble_eq_true rfl) ?_
  refine r_aloadR3 dL_seen_0 ?_
  refine n_iconst dL_seen_1 (by decide) (fun r1 e1_z => ?_)
  refine r_aloadR0 dL_seen_2 ?_
  refine r_iload1 dL_seen_3 ?_
  refine r_iload2 dL_seen_4 ?_
  refine q_callV2 zm_RL_107 dL_seen_5 hX (by decide) rfl (by first | exact Nat.le_of_ble_eq_true rfl | (dsimp only [zV, zVh, zVg, zrm]; omega) | omega) (by first | exact Nat.le_of_ble_eq_true rfl | (dsimp only [zV, zVh, zVg, zrm]; omega) | omega) (by first | exact Nat.le_of_ble_eq_true rfl | (dsimp only [zV, zVh, zVg, zrm]; omega) | omega) (by first | exact Nat.le_of_ble_eq_true rfl | (dsimp only [zV, zVh, zVg, zrm]; omega) | omega) (by first | exact Nat.le_of_ble_eq_true rfl | (dsimp only [zV, zVh, zVg, zrm]; omega) | omega) (zC_mono hM_z (fun r w2 hr => ?_) (fun E w2 he => ?_))
  · obtain ⟨x, w3, f, j, rfl, rfl, ho, hn, hq⟩ := hr
    refine n_i2l dL_seen_8 (fun r8 e8 => ?_)
    refine m_last (k := 0) dL_seen_9 ho hn (by omega) (by omega) ?_
    refine r_goto (t := 25) dL_seen_10 (by decide) ?_
    refine n_iconst dL_seen_25 (by decide) (fun r25 e25_z => ?_)
    refine r_iret dL_seen_26 rfl (by first | exact Nat.le_of_ble_eq_true rfl | (dsimp only [zV, zVh, zVg, zrm]; omega) | omega) (by first | exact Nat.le_of_ble_eq_true rfl | (dsimp only [zV, zVh, zVg, zrm]; omega) | omega) ?_
    exact hq _ _ e25_z (by omega)
  · rcases he with ⟨rfl, hq⟩ | ⟨rfl, hq⟩ | ⟨rfl, hq⟩
    · refine x_catch [] { startPc := 0, endPc := 10, handlerPc := 13, catchType := 19 } [{ startPc := 0, endPc := 10, handlerPc := 17, catchType := 46 }, { startPc := 0, endPc := 10, handlerPc := 21, catchType := 13 }] rfl (fun z h_z => by cases h_z) (by decide) (by decide) zc_RL_19 (by decide +kernel) (fun q9_z => ?_)
      refine r_astore4 dL_seen_13 rfl ?_
      refine n_iconst dL_seen_15 (by decide) (fun r15 e15_z => ?_)
      refine r_iret dL_seen_16 rfl (by first | exact Nat.le_of_ble_eq_true rfl | (dsimp only [zV, zVh, zVg, zrm]; omega) | omega) (by first | exact Nat.le_of_ble_eq_true rfl | (dsimp only [zV, zVh, zVg, zrm]; omega) | omega) ?_
      exact hq _ e15_z
    · refine x_catch [{ startPc := 0, endPc := 10, handlerPc := 13, catchType := 19 }] { startPc := 0, endPc := 10, handlerPc := 17, catchType := 46 } [{ startPc := 0, endPc := 10, handlerPc := 21, catchType := 13 }] rfl (fun z h_z => by rcases List.mem_singleton.mp h_z with rfl; exact ⟨by decide, _, zc_RL_19, by decide +kernel⟩) (by decide) (by decide) zc_RL_46 (by decide +kernel) (fun q9_z => ?_)
      refine r_astore4 dL_seen_17 rfl ?_
      refine n_iconst dL_seen_19 (by decide) (fun r19 e19_z => ?_)
      refine r_iret dL_seen_20 rfl (by first | exact Nat.le_of_ble_eq_true rfl | (dsimp only [zV, zVh, zVg, zrm]; omega) | omega) (by first | exact Nat.le_of_ble_eq_true rfl | (dsimp only [zV, zVh, zVg, zrm]; omega) | omega) ?_
      exact hq _ e19_z
    · refine x_catch [{ startPc := 0, endPc := 10, handlerPc := 13, catchType := 19 }, { startPc := 0, endPc := 10, handlerPc := 17, catchType := 46 }] { startPc := 0, endPc := 10, handlerPc := 21, catchType := 13 } [] rfl (fun z h_z => (List.mem_cons.mp h_z).elim (fun e9_z => by subst e9_z; exact ⟨by decide, _, zc_RL_19, by decide +kernel⟩) (fun h8 => by rcases List.mem_singleton.mp h8 with rfl; exact ⟨by decide, _, zc_RL_46, by decide +kernel⟩)) (by decide) (by decide) zc_RL_13 (by decide +kernel) (fun q9_z => ?_)
      refine r_astore4 dL_seen_21 rfl ?_
      refine n_iconst dL_seen_23 (by decide) (fun r23 e23_z => ?_)
      refine r_iret dL_seen_24 rfl (by first | exact Nat.le_of_ble_eq_true rfl | (dsimp only [zV, zVh, zVg, zrm]; omega) | omega) (by first | exact Nat.le_of_ble_eq_true rfl | (dsimp only [zV, zVh, zVg, zrm]; omega) | omega) ?_
      exact hq _ e23_z
theorem zw_sure : zlW RL 281 yL_sure cL_sure 5 (some .int) [(0, 10, 13, 19), (0, 10, 17, 46), (0, 10, 21, 13)] 4 := ⟨zt7 (List.mem_of_getElem? (i := 17) (by decide +kernel)) (by decide +kernel), zt7 (List.mem_of_getElem? (i := 18) (by decide +kernel)) (by decide +kernel), zini_RL, zt7 (List.mem_of_getElem? (i := 19) (by decide +kernel)) (by decide +kernel), by decide +kernel, by decide +kernel, by decide +kernel, by decide⟩
set_option maxHeartbeats 4000000 in
set_option maxRecDepth 100000 in
theorem w_sure {g : zGT} {w : zW} {X o d : Nat} {x0 : Int32} {x1 : Int32} {b : Nat × Nat} {Q : Option Value → zW → Prop} (G : zGok g) (hX : zK w X = 10) (hM_z : zC g d yX11_sure cX11_sure 9 (some .int) [.ref X, .int x0, .int x1] w b (fun r w2 => ∃ (x : Int32) (w3 : zW) (f : Nat → Nat → Int32) (j : Nat → Nat → Int64), r = some (.int x) ∧ w2 = zM w3 f j ∧ zK w3 o = 25 ∧ zN w3 o = 1 ∧ ∀ (q : Int32) (y : Int64), q.toInt = 0 → y.toInt = x.toInt → Q (some (.int q)) (zM w3 f (zu j o 0 y))) (fun E w2 => (E = "java/util/NoSuchElementException" ∧ ∀ q : Int32, q.toInt = 1 → Q (some (.int q)) w2) ∨ (E = "java/lang/IllegalStateException" ∧ ∀ q : Int32, q.toInt = 2 → Q (some (.int q)) w2) ∨ (E = "java/lang/IllegalArgumentException" ∧ ∀ q : Int32, q.toInt = 3 → Q (some (.int q)) w2))) : zCW g (d + 1) yL_sure cL_sure 5 (some .int) [(0, 10, 13, 19), (0, 10, 17, 46), (0, 10, 21, 13)] [.ref X, .int x0, .int x1, .ref o] w b Q := by
  refine zCW_of G (by decide +kernel) (Nat.le_of_ble_eq_true rfl) ?_
  refine r_aloadR3 dL_sure_0 ?_
  refine n_iconst dL_sure_1 (by decide) (fun r1 e1_z => ?_)
  refine r_aloadR0 dL_sure_2 ?_
  refine r_iload1 dL_sure_3 ?_
  refine r_iload2 dL_sure_4 ?_
  refine q_callV2 zm_RL_110 dL_sure_5 hX (by decide) rfl (by first | exact Nat.le_of_ble_eq_true rfl | (dsimp only [zV, zVh, zVg, zrm]; omega) | omega) (by first | exact Nat.le_of_ble_eq_true rfl | (dsimp only [zV, zVh, zVg, zrm]; omega) | omega) (by first | exact Nat.le_of_ble_eq_true rfl | (dsimp only [zV, zVh, zVg, zrm]; omega) | omega) (by first | exact Nat.le_of_ble_eq_true rfl | (dsimp only [zV, zVh, zVg, zrm]; omega) | omega) (by first | exact Nat.le_of_ble_eq_true rfl | (dsimp only [zV, zVh, zVg, zrm]; omega) | omega) (zC_mono hM_z (fun r w2 hr => ?_) (fun E w2 he => ?_))
  · obtain ⟨x, w3, f, j, rfl, rfl, ho, hn, hq⟩ := hr
    refine n_i2l dL_sure_8 (fun r8 e8 => ?_)
    refine m_last (k := 0) dL_sure_9 ho hn (by omega) (by omega) ?_
    refine r_goto (t := 25) dL_sure_10 (by decide) ?_
    refine n_iconst dL_sure_25 (by decide) (fun r25 e25_z => ?_)
    refine r_iret dL_sure_26 rfl (by first | exact Nat.le_of_ble_eq_true rfl | (dsimp only [zV, zVh, zVg, zrm]; omega) | omega) (by first | exact Nat.le_of_ble_eq_true rfl | (dsimp only [zV, zVh, zVg, zrm]; omega) | omega) ?_
    exact hq _ _ e25_z (by omega)
  · rcases he with ⟨rfl, hq⟩ | ⟨rfl, hq⟩ | ⟨rfl, hq⟩
    · refine x_catch [] { startPc := 0, endPc := 10, handlerPc := 13, catchType := 19 } [{ startPc := 0, endPc := 10, handlerPc := 17, catchType := 46 }, { startPc := 0, endPc := 10, handlerPc := 21, catchType := 13 }] rfl (fun z h_z => by cases h_z) (by decide) (by decide) zc_RL_19 (by decide +kernel) (fun q9_z => ?_)
      refine r_astore4 dL_sure_13 rfl ?_
      refine n_iconst dL_sure_15 (by decide) (fun r15 e15_z => ?_)
      refine r_iret dL_sure_16 rfl (by first | exact Nat.le_of_ble_eq_true rfl | (dsimp only [zV, zVh, zVg, zrm]; omega) | omega) (by first | exact Nat.le_of_ble_eq_true rfl | (dsimp only [zV, zVh, zVg, zrm]; omega) | omega) ?_
      exact hq _ e15_z
    · refine x_catch [{ startPc := 0, endPc := 10, handlerPc := 13, catchType := 19 }] { startPc := 0, endPc := 10, handlerPc := 17, catchType := 46 } [{ startPc := 0, endPc := 10, handlerPc := 21, catchType := 13 }] rfl (fun z h_z => by rcases List.mem_singleton.mp h_z with rfl; exact ⟨by decide, _, zc_RL_19, by decide +kernel⟩) (by decide) (by decide) zc_RL_46 (by decide +kernel) (fun q9_z => ?_)
      refine r_astore4 dL_sure_17 rfl ?_
      refine n_iconst dL_sure_19 (by decide) (fun r19 e19_z => ?_)
      refine r_iret dL_sure_20 rfl (by first | exact Nat.le_of_ble_eq_true rfl | (dsimp only [zV, zVh, zVg, zrm]; omega) | omega) (by first | exact Nat.le_of_ble_eq_true rfl | (dsimp only [zV, zVh, zVg, zrm]; omega) | omega) ?_
      exact hq _ e19_z
    · refine x_catch [{ startPc := 0, endPc := 10, handlerPc := 13, catchType := 19 }, { startPc := 0, endPc := 10, handlerPc := 17, catchType := 46 }] { startPc := 0, endPc := 10, handlerPc := 21, catchType := 13 } [] rfl (fun z h_z => (List.mem_cons.mp h_z).elim (fun e9_z => by subst e9_z; exact ⟨by decide, _, zc_RL_19, by decide +kernel⟩) (fun h8 => by rcases List.mem_singleton.mp h8 with rfl; exact ⟨by decide, _, zc_RL_46, by decide +kernel⟩)) (by decide) (by decide) zc_RL_13 (by decide +kernel) (fun q9_z => ?_)
      refine r_astore4 dL_sure_21 rfl ?_
      refine n_iconst dL_sure_23 (by decide) (fun r23 e23_z => ?_)
      refine r_iret dL_sure_24 rfl (by first | exact Nat.le_of_ble_eq_true rfl | (dsimp only [zV, zVh, zVg, zrm]; omega) | omega) (by first | exact Nat.le_of_ble_eq_true rfl | (dsimp only [zV, zVh, zVg, zrm]; omega) | omega) ?_
      exact hq _ e23_z
theorem zw_look : zlW RL 284 yL_look cL_look 5 (some .int) [(0, 10, 13, 19), (0, 10, 17, 46), (0, 10, 21, 13)] 4 := ⟨zt7 (List.mem_of_getElem? (i := 28) (by decide +kernel)) (by decide +kernel), zt7 (List.mem_of_getElem? (i := 29) (by decide +kernel)) (by decide +kernel), zini_RL, zt7 (List.mem_of_getElem? (i := 30) (by decide +kernel)) (by decide +kernel), by decide +kernel, by decide +kernel, by decide +kernel, by decide⟩
set_option maxHeartbeats 4000000 in
set_option maxRecDepth 100000 in
theorem w_look {g : zGT} {w : zW} {X o d : Nat} {x0 : Int32} {x1 : Int32} {b : Nat × Nat} {Q : Option Value → zW → Prop} (G : zGok g) (hX : zK w X = 10) (hM_z : zC g d yX11_look cX11_look 9 (some .int) [.ref X, .int x0, .int x1] w b (fun r w2 => ∃ (x : Int32) (w3 : zW) (f : Nat → Nat → Int32) (j : Nat → Nat → Int64), r = some (.int x) ∧ w2 = zM w3 f j ∧ zK w3 o = 25 ∧ zN w3 o = 1 ∧ ∀ (q : Int32) (y : Int64), q.toInt = 0 → y.toInt = x.toInt → Q (some (.int q)) (zM w3 f (zu j o 0 y))) (fun E w2 => (E = "java/util/NoSuchElementException" ∧ ∀ q : Int32, q.toInt = 1 → Q (some (.int q)) w2) ∨ (E = "java/lang/IllegalStateException" ∧ ∀ q : Int32, q.toInt = 2 → Q (some (.int q)) w2) ∨ (E = "java/lang/IllegalArgumentException" ∧ ∀ q : Int32, q.toInt = 3 → Q (some (.int q)) w2))) : zCW g (d + 1) yL_look cL_look 5 (some .int) [(0, 10, 13, 19), (0, 10, 17, 46), (0, 10, 21, 13)] [.ref X, .int x0, .int x1, .ref o] w b Q := by
  refine zCW_of G (by decide +kernel) (Nat.le_of_ble_eq_true rfl) ?_
  refine r_aloadR3 dL_look_0 ?_
  refine n_iconst dL_look_1 (by decide) (fun r1 e1_z => ?_)
  refine r_aloadR0 dL_look_2 ?_
  refine r_iload1 dL_look_3 ?_
  refine r_iload2 dL_look_4 ?_
  refine q_callV2 zm_RL_113 dL_look_5 hX (by decide) rfl (by first | exact Nat.le_of_ble_eq_true rfl | (dsimp only [zV, zVh, zVg, zrm]; omega) | omega) (by first | exact Nat.le_of_ble_eq_true rfl | (dsimp only [zV, zVh, zVg, zrm]; omega) | omega) (by first | exact Nat.le_of_ble_eq_true rfl | (dsimp only [zV, zVh, zVg, zrm]; omega) | omega) (by first | exact Nat.le_of_ble_eq_true rfl | (dsimp only [zV, zVh, zVg, zrm]; omega) | omega) (by first | exact Nat.le_of_ble_eq_true rfl | (dsimp only [zV, zVh, zVg, zrm]; omega) | omega) (zC_mono hM_z (fun r w2 hr => ?_) (fun E w2 he => ?_))
  · obtain ⟨x, w3, f, j, rfl, rfl, ho, hn, hq⟩ := hr
    refine n_i2l dL_look_8 (fun r8 e8 => ?_)
    refine m_last (k := 0) dL_look_9 ho hn (by omega) (by omega) ?_
    refine r_goto (t := 25) dL_look_10 (by decide) ?_
    refine n_iconst dL_look_25 (by decide) (fun r25 e25_z => ?_)
    refine r_iret dL_look_26 rfl (by first | exact Nat.le_of_ble_eq_true rfl | (dsimp only [zV, zVh, zVg, zrm]; omega) | omega) (by first | exact Nat.le_of_ble_eq_true rfl | (dsimp only [zV, zVh, zVg, zrm]; omega) | omega) ?_
    exact hq _ _ e25_z (by omega)
  · rcases he with ⟨rfl, hq⟩ | ⟨rfl, hq⟩ | ⟨rfl, hq⟩
    · refine x_catch [] { startPc := 0, endPc := 10, handlerPc := 13, catchType := 19 } [{ startPc := 0, endPc := 10, handlerPc := 17, catchType := 46 }, { startPc := 0, endPc := 10, handlerPc := 21, catchType := 13 }] rfl (fun z h_z => by cases h_z) (by decide) (by decide) zc_RL_19 (by decide +kernel) (fun q9_z => ?_)
      refine r_astore4 dL_look_13 rfl ?_
      refine n_iconst dL_look_15 (by decide) (fun r15 e15_z => ?_)
      refine r_iret dL_look_16 rfl (by first | exact Nat.le_of_ble_eq_true rfl | (dsimp only [zV, zVh, zVg, zrm]; omega) | omega) (by first | exact Nat.le_of_ble_eq_true rfl | (dsimp only [zV, zVh, zVg, zrm]; omega) | omega) ?_
      exact hq _ e15_z
    · refine x_catch [{ startPc := 0, endPc := 10, handlerPc := 13, catchType := 19 }] { startPc := 0, endPc := 10, handlerPc := 17, catchType := 46 } [{ startPc := 0, endPc := 10, handlerPc := 21, catchType := 13 }] rfl (fun z h_z => by rcases List.mem_singleton.mp h_z with rfl; exact ⟨by decide, _, zc_RL_19, by decide +kernel⟩) (by decide) (by decide) zc_RL_46 (by decide +kernel) (fun q9_z => ?_)
      refine r_astore4 dL_look_17 rfl ?_
      refine n_iconst dL_look_19 (by decide) (fun r19 e19_z => ?_)
      refine r_iret dL_look_20 rfl (by first | exact Nat.le_of_ble_eq_true rfl | (dsimp only [zV, zVh, zVg, zrm]; omega) | omega) (by first | exact Nat.le_of_ble_eq_true rfl | (dsimp only [zV, zVh, zVg, zrm]; omega) | omega) ?_
      exact hq _ e19_z
    · refine x_catch [{ startPc := 0, endPc := 10, handlerPc := 13, catchType := 19 }, { startPc := 0, endPc := 10, handlerPc := 17, catchType := 46 }] { startPc := 0, endPc := 10, handlerPc := 21, catchType := 13 } [] rfl (fun z h_z => (List.mem_cons.mp h_z).elim (fun e9_z => by subst e9_z; exact ⟨by decide, _, zc_RL_19, by decide +kernel⟩) (fun h8 => by rcases List.mem_singleton.mp h8 with rfl; exact ⟨by decide, _, zc_RL_46, by decide +kernel⟩)) (by decide) (by decide) zc_RL_13 (by decide +kernel) (fun q9_z => ?_)
      refine r_astore4 dL_look_21 rfl ?_
      refine n_iconst dL_look_23 (by decide) (fun r23 e23_z => ?_)
      refine r_iret dL_look_24 rfl (by first | exact Nat.le_of_ble_eq_true rfl | (dsimp only [zV, zVh, zVg, zrm]; omega) | omega) (by first | exact Nat.le_of_ble_eq_true rfl | (dsimp only [zV, zVh, zVg, zrm]; omega) | omega) ?_
      exact hq _ e23_z
theorem zw_tray : zlW RL 287 yL_tray cL_tray 5 (some .int) [(0, 7, 10, 19), (0, 7, 14, 13)] 4 := ⟨zt7 (List.mem_of_getElem? (i := 39) (by decide +kernel)) (by decide +kernel), zt7 (List.mem_of_getElem? (i := 40) (by decide +kernel)) (by decide +kernel), zini_RL, zt7 (List.mem_of_getElem? (i := 41) (by decide +kernel)) (by decide +kernel), by decide +kernel, by decide +kernel, by decide +kernel, by decide⟩
set_option maxHeartbeats 4000000 in
set_option maxRecDepth 100000 in
theorem w_tray {g : zGT} {w : zW} {X d : Nat} {x0 : Int32} {x1 : Int32} {x2 : Int32} {b : Nat × Nat} {Q : Option Value → zW → Prop} (G : zGok g) (hX : zK w X = 10) (hM_z : zC g d yX11_tray cX11_tray 5 none [.ref X, .int x0, .int x1, .int x2] w b (fun r w2 => r = none ∧ ∀ q : Int32, q.toInt = 0 → Q (some (.int q)) w2) (fun E w2 => (E = "java/util/NoSuchElementException" ∧ ∀ q : Int32, q.toInt = 1 → Q (some (.int q)) w2) ∨ (E = "java/lang/IllegalArgumentException" ∧ ∀ q : Int32, q.toInt = 2 → Q (some (.int q)) w2))) : zCW g (d + 1) yL_tray cL_tray 5 (some .int) [(0, 7, 10, 19), (0, 7, 14, 13)] [.ref X, .int x0, .int x1, .int x2] w b Q := by
  refine zCW_of G (by decide +kernel) (Nat.le_of_ble_eq_true rfl) ?_
  refine r_aloadR0 dL_tray_0 ?_
  refine r_iload1 dL_tray_1 ?_
  refine r_iload2 dL_tray_2 ?_
  refine r_iload3 dL_tray_3 ?_
  refine q_callV3 zm_RL_116 dL_tray_4 hX (by decide) rfl (by first | exact Nat.le_of_ble_eq_true rfl | (dsimp only [zV, zVh, zVg, zrm]; omega) | omega) (by first | exact Nat.le_of_ble_eq_true rfl | (dsimp only [zV, zVh, zVg, zrm]; omega) | omega) (by first | exact Nat.le_of_ble_eq_true rfl | (dsimp only [zV, zVh, zVg, zrm]; omega) | omega) (by first | exact Nat.le_of_ble_eq_true rfl | (dsimp only [zV, zVh, zVg, zrm]; omega) | omega) (by first | exact Nat.le_of_ble_eq_true rfl | (dsimp only [zV, zVh, zVg, zrm]; omega) | omega) (zC_mono hM_z (fun r w2 hr => ?_) (fun E w2 he => ?_))
  · obtain ⟨rfl, hq⟩ := hr
    refine r_goto (t := 18) dL_tray_7 (by decide) ?_
    refine n_iconst dL_tray_18 (by decide) (fun r18 e18_z => ?_)
    refine r_iret dL_tray_19 rfl (by first | exact Nat.le_of_ble_eq_true rfl | (dsimp only [zV, zVh, zVg, zrm]; omega) | omega) (by first | exact Nat.le_of_ble_eq_true rfl | (dsimp only [zV, zVh, zVg, zrm]; omega) | omega) ?_
    exact hq _ e18_z
  · rcases he with ⟨rfl, hq⟩ | ⟨rfl, hq⟩
    · refine x_catch [] { startPc := 0, endPc := 7, handlerPc := 10, catchType := 19 } [{ startPc := 0, endPc := 7, handlerPc := 14, catchType := 13 }] rfl (fun z h_z => by cases h_z) (by decide) (by decide) zc_RL_19 (by decide +kernel) (fun q9_z => ?_)
      refine r_astore4 dL_tray_10 rfl ?_
      refine n_iconst dL_tray_12 (by decide) (fun r12 e12_z => ?_)
      refine r_iret dL_tray_13 rfl (by first | exact Nat.le_of_ble_eq_true rfl | (dsimp only [zV, zVh, zVg, zrm]; omega) | omega) (by first | exact Nat.le_of_ble_eq_true rfl | (dsimp only [zV, zVh, zVg, zrm]; omega) | omega) ?_
      exact hq _ e12_z
    · refine x_catch [{ startPc := 0, endPc := 7, handlerPc := 10, catchType := 19 }] { startPc := 0, endPc := 7, handlerPc := 14, catchType := 13 } [] rfl (fun z h_z => by rcases List.mem_singleton.mp h_z with rfl; exact ⟨by decide, _, zc_RL_19, by decide +kernel⟩) (by decide) (by decide) zc_RL_13 (by decide +kernel) (fun q9_z => ?_)
      refine r_astore4 dL_tray_14 rfl ?_
      refine n_iconst dL_tray_16 (by decide) (fun r16 e16_z => ?_)
      refine r_iret dL_tray_17 rfl (by first | exact Nat.le_of_ble_eq_true rfl | (dsimp only [zV, zVh, zVg, zrm]; omega) | omega) (by first | exact Nat.le_of_ble_eq_true rfl | (dsimp only [zV, zVh, zVg, zrm]; omega) | omega) ?_
      exact hq _ e16_z
theorem zw_write : zlW RL 293 yL_write cL_write 7 (some .int) [(0, 11, 14, 19), (0, 11, 18, 46), (0, 11, 22, 124)] 5 := ⟨zt7 (List.mem_of_getElem? (i := 54) (by decide +kernel)) (by decide +kernel), zt7 (List.mem_of_getElem? (i := 55) (by decide +kernel)) (by decide +kernel), zini_RL, zt7 (List.mem_of_getElem? (i := 56) (by decide +kernel)) (by decide +kernel), by decide +kernel, by decide +kernel, by decide +kernel, by decide⟩
set_option maxHeartbeats 4000000 in
set_option maxRecDepth 100000 in
theorem w_write {g : zGT} {w : zW} {X o d : Nat} {x0 : Int32} {x1 : Int32} {x2 : Int64} {b : Nat × Nat} {Q : Option Value → zW → Prop} (G : zGok g) (hX : zK w X = 10) (hM_z : zC g d yX11_write cX11_write 6 (some .long) [.ref X, .int x0, .int x1, .long x2] w b (fun r w2 => ∃ (x : Int64) (w3 : zW) (f : Nat → Nat → Int32) (j : Nat → Nat → Int64), r = some (.long x) ∧ w2 = zM w3 f j ∧ zK w3 o = 25 ∧ zN w3 o = 1 ∧ ∀ q : Int32, q.toInt = 0 → Q (some (.int q)) (zM w3 f (zu j o 0 x))) (fun E w2 => (E = "java/util/NoSuchElementException" ∧ ∀ q : Int32, q.toInt = 1 → Q (some (.int q)) w2) ∨ (E = "java/lang/IllegalStateException" ∧ ∀ q : Int32, q.toInt = 2 → Q (some (.int q)) w2) ∨ (E = "java/lang/IndexOutOfBoundsException" ∧ ∀ q : Int32, q.toInt = 3 → Q (some (.int q)) w2))) : zCW g (d + 1) yL_write cL_write 7 (some .int) [(0, 11, 14, 19), (0, 11, 18, 46), (0, 11, 22, 124)] [.ref X, .int x0, .int x1, .long x2, .ref o] w b Q := by
  refine zCW_of G (by decide +kernel) (Nat.le_of_ble_eq_true rfl) ?_
  refine r_aloadR5 dL_write_0 ?_
  refine n_iconst dL_write_2 (by decide) (fun r2 e2_z => ?_)
  refine r_aloadR0 dL_write_3 ?_
  refine r_iload1 dL_write_4 ?_
  refine r_iload2 dL_write_5 ?_
  refine r_lload3 dL_write_6 ?_
  refine q_callV3 zm_RL_120 dL_write_7 hX (by decide) rfl (by first | exact Nat.le_of_ble_eq_true rfl | (dsimp only [zV, zVh, zVg, zrm]; omega) | omega) (by first | exact Nat.le_of_ble_eq_true rfl | (dsimp only [zV, zVh, zVg, zrm]; omega) | omega) (by first | exact Nat.le_of_ble_eq_true rfl | (dsimp only [zV, zVh, zVg, zrm]; omega) | omega) (by first | exact Nat.le_of_ble_eq_true rfl | (dsimp only [zV, zVh, zVg, zrm]; omega) | omega) (by first | exact Nat.le_of_ble_eq_true rfl | (dsimp only [zV, zVh, zVg, zrm]; omega) | omega) (zC_mono hM_z (fun r w2 hr => ?_) (fun E w2 he => ?_))
  · obtain ⟨x, w3, f, j, rfl, rfl, ho, hn, hq⟩ := hr
    refine m_last (k := 0) dL_write_10 ho hn (by omega) (by omega) ?_
    refine r_goto (t := 26) dL_write_11 (by decide) ?_
    refine n_iconst dL_write_26 (by decide) (fun r26 e26_z => ?_)
    refine r_iret dL_write_27 rfl (by first | exact Nat.le_of_ble_eq_true rfl | (dsimp only [zV, zVh, zVg, zrm]; omega) | omega) (by first | exact Nat.le_of_ble_eq_true rfl | (dsimp only [zV, zVh, zVg, zrm]; omega) | omega) ?_
    exact hq _ e26_z
  · rcases he with ⟨rfl, hq⟩ | ⟨rfl, hq⟩ | ⟨rfl, hq⟩
    · refine x_catch [] { startPc := 0, endPc := 11, handlerPc := 14, catchType := 19 } [{ startPc := 0, endPc := 11, handlerPc := 18, catchType := 46 }, { startPc := 0, endPc := 11, handlerPc := 22, catchType := 124 }] rfl (fun z h_z => by cases h_z) (by decide) (by decide) zc_RL_19 (by decide +kernel) (fun q9_z => ?_)
      refine r_astore6 dL_write_14 rfl ?_
      refine n_iconst dL_write_16 (by decide) (fun r16 e16_z => ?_)
      refine r_iret dL_write_17 rfl (by first | exact Nat.le_of_ble_eq_true rfl | (dsimp only [zV, zVh, zVg, zrm]; omega) | omega) (by first | exact Nat.le_of_ble_eq_true rfl | (dsimp only [zV, zVh, zVg, zrm]; omega) | omega) ?_
      exact hq _ e16_z
    · refine x_catch [{ startPc := 0, endPc := 11, handlerPc := 14, catchType := 19 }] { startPc := 0, endPc := 11, handlerPc := 18, catchType := 46 } [{ startPc := 0, endPc := 11, handlerPc := 22, catchType := 124 }] rfl (fun z h_z => by rcases List.mem_singleton.mp h_z with rfl; exact ⟨by decide, _, zc_RL_19, by decide +kernel⟩) (by decide) (by decide) zc_RL_46 (by decide +kernel) (fun q9_z => ?_)
      refine r_astore6 dL_write_18 rfl ?_
      refine n_iconst dL_write_20 (by decide) (fun r20 e20 => ?_)
      refine r_iret dL_write_21 rfl (by first | exact Nat.le_of_ble_eq_true rfl | (dsimp only [zV, zVh, zVg, zrm]; omega) | omega) (by first | exact Nat.le_of_ble_eq_true rfl | (dsimp only [zV, zVh, zVg, zrm]; omega) | omega) ?_
      exact hq _ e20
    · refine x_catch [{ startPc := 0, endPc := 11, handlerPc := 14, catchType := 19 }, { startPc := 0, endPc := 11, handlerPc := 18, catchType := 46 }] { startPc := 0, endPc := 11, handlerPc := 22, catchType := 124 } [] rfl (fun z h_z => (List.mem_cons.mp h_z).elim (fun e9_z => by subst e9_z; exact ⟨by decide, _, zc_RL_19, by decide +kernel⟩) (fun h8 => by rcases List.mem_singleton.mp h8 with rfl; exact ⟨by decide, _, zc_RL_46, by decide +kernel⟩)) (by decide) (by decide) zc_RL_124 (by decide +kernel) (fun q9_z => ?_)
      refine r_astore6 dL_write_22 rfl ?_
      refine n_iconst dL_write_24 (by decide) (fun r24 e24_z => ?_)
      refine r_iret dL_write_25 rfl (by first | exact Nat.le_of_ble_eq_true rfl | (dsimp only [zV, zVh, zVg, zrm]; omega) | omega) (by first | exact Nat.le_of_ble_eq_true rfl | (dsimp only [zV, zVh, zVg, zrm]; omega) | omega) ?_
      exact hq _ e24_z
theorem zw_copy : zlW RL 297 yL_copy cL_copy 4 (some .int) [(0, 9, 12, 19), (0, 9, 15, 46)] 3 := ⟨zt7 (List.mem_of_getElem? (i := 86) (by decide +kernel)) (by decide +kernel), zt7 (List.mem_of_getElem? (i := 87) (by decide +kernel)) (by decide +kernel), zini_RL, zt7 (List.mem_of_getElem? (i := 88) (by decide +kernel)) (by decide +kernel), by decide +kernel, by decide +kernel, by decide +kernel, by decide⟩
set_option maxHeartbeats 4000000 in
set_option maxRecDepth 100000 in
theorem w_copy {g : zGT} {w : zW} {X o d : Nat} {x0 : Int32} {b : Nat × Nat} {Q : Option Value → zW → Prop} (G : zGok g) (hX : zK w X = 10) (hM_z : zC g d yX11_copy cX11_copy 6 (some .int) [.ref X, .int x0] w b (fun r w2 => ∃ (x : Int32) (w3 : zW) (f : Nat → Nat → Int32) (j : Nat → Nat → Int64), r = some (.int x) ∧ w2 = zM w3 f j ∧ zK w3 o = 25 ∧ zN w3 o = 1 ∧ ∀ (q : Int32) (y : Int64), q.toInt = 0 → y.toInt = x.toInt → Q (some (.int q)) (zM w3 f (zu j o 0 y))) (fun E w2 => (E = "java/util/NoSuchElementException" ∧ ∀ q : Int32, q.toInt = 1 → Q (some (.int q)) w2) ∨ (E = "java/lang/IllegalStateException" ∧ ∀ q : Int32, q.toInt = 2 → Q (some (.int q)) w2))) : zCW g (d + 1) yL_copy cL_copy 4 (some .int) [(0, 9, 12, 19), (0, 9, 15, 46)] [.ref X, .int x0, .ref o] w b Q := by
  refine zCW_of G (by decide +kernel) (Nat.le_of_ble_eq_true rfl) ?_
  refine r_aloadR2 dL_copy_0 ?_
  refine n_iconst dL_copy_1 (by decide) (fun r1 e1_z => ?_)
  refine r_aloadR0 dL_copy_2 ?_
  refine r_iload1 dL_copy_3 ?_
  refine q_callV1 zm_RL_126 dL_copy_4 hX (by decide) rfl (by first | exact Nat.le_of_ble_eq_true rfl | (dsimp only [zV, zVh, zVg, zrm]; omega) | omega) (by first | exact Nat.le_of_ble_eq_true rfl | (dsimp only [zV, zVh, zVg, zrm]; omega) | omega) (by first | exact Nat.le_of_ble_eq_true rfl | (dsimp only [zV, zVh, zVg, zrm]; omega) | omega) (by first | exact Nat.le_of_ble_eq_true rfl | (dsimp only [zV, zVh, zVg, zrm]; omega) | omega) (by first | exact Nat.le_of_ble_eq_true rfl | (dsimp only [zV, zVh, zVg, zrm]; omega) | omega) (zC_mono hM_z (fun r w2 hr => ?_) (fun E w2 he => ?_))
  · obtain ⟨x, w3, f, j, rfl, rfl, ho, hn, hq⟩ := hr
    refine n_i2l dL_copy_7 (fun r7 e7_z => ?_)
    refine m_last (k := 0) dL_copy_8 ho hn (by omega) (by omega) ?_
    refine r_goto (t := 18) dL_copy_9 (by decide) ?_
    refine n_iconst dL_copy_18 (by decide) (fun r18 e18_z => ?_)
    refine r_iret dL_copy_19 rfl (by first | exact Nat.le_of_ble_eq_true rfl | (dsimp only [zV, zVh, zVg, zrm]; omega) | omega) (by first | exact Nat.le_of_ble_eq_true rfl | (dsimp only [zV, zVh, zVg, zrm]; omega) | omega) ?_
    exact hq _ _ e18_z (by omega)
  · rcases he with ⟨rfl, hq⟩ | ⟨rfl, hq⟩
    · refine x_catch [] { startPc := 0, endPc := 9, handlerPc := 12, catchType := 19 } [{ startPc := 0, endPc := 9, handlerPc := 15, catchType := 46 }] rfl (fun z h_z => by cases h_z) (by decide) (by decide) zc_RL_19 (by decide +kernel) (fun q9_z => ?_)
      refine r_astore3 dL_copy_12 rfl ?_
      refine n_iconst dL_copy_13 (by decide) (fun r13 e13_z => ?_)
      refine r_iret dL_copy_14 rfl (by first | exact Nat.le_of_ble_eq_true rfl | (dsimp only [zV, zVh, zVg, zrm]; omega) | omega) (by first | exact Nat.le_of_ble_eq_true rfl | (dsimp only [zV, zVh, zVg, zrm]; omega) | omega) ?_
      exact hq _ e13_z
    · refine x_catch [{ startPc := 0, endPc := 9, handlerPc := 12, catchType := 19 }] { startPc := 0, endPc := 9, handlerPc := 15, catchType := 46 } [] rfl (fun z h_z => by rcases List.mem_singleton.mp h_z with rfl; exact ⟨by decide, _, zc_RL_19, by decide +kernel⟩) (by decide) (by decide) zc_RL_46 (by decide +kernel) (fun q9_z => ?_)
      refine r_astore3 dL_copy_15 rfl ?_
      refine n_iconst dL_copy_16 (by decide) (fun r16 e16_z => ?_)
      refine r_iret dL_copy_17 rfl (by first | exact Nat.le_of_ble_eq_true rfl | (dsimp only [zV, zVh, zVg, zrm]; omega) | omega) (by first | exact Nat.le_of_ble_eq_true rfl | (dsimp only [zV, zVh, zVg, zrm]; omega) | omega) ?_
      exact hq _ e16_z
theorem zw_image : zlW RL 300 yL_image cL_image 3 (some .int) [(0, 5, 8, 19)] 2 := ⟨zt7 (List.mem_of_getElem? (i := 93) (by decide +kernel)) (by decide +kernel), zt7 (List.mem_of_getElem? (i := 94) (by decide +kernel)) (by decide +kernel), zini_RL, zt7 (List.mem_of_getElem? (i := 95) (by decide +kernel)) (by decide +kernel), by decide +kernel, by decide +kernel, by decide +kernel, by decide⟩
set_option maxHeartbeats 4000000 in
set_option maxRecDepth 100000 in
theorem w_image {g : zGT} {w : zW} {X d : Nat} {x0 : Int32} {b : Nat × Nat} {Q : Option Value → zW → Prop} (G : zGok g) (hX : zK w X = 10) (hM_z : zC g d yX11_image cX11_image 3 none [.ref X, .int x0] w b (fun r w2 => r = none ∧ ∀ q : Int32, q.toInt = 0 → Q (some (.int q)) w2) (fun E w2 => (E = "java/util/NoSuchElementException" ∧ ∀ q : Int32, q.toInt = 1 → Q (some (.int q)) w2))) : zCW g (d + 1) yL_image cL_image 3 (some .int) [(0, 5, 8, 19)] [.ref X, .int x0] w b Q := by
  refine zCW_of G (by decide +kernel) (Nat.le_of_ble_eq_true rfl) ?_
  refine r_aloadR0 dL_image_0 ?_
  refine r_iload1 dL_image_1 ?_
  refine q_callV1 zm_RL_129 dL_image_2 hX (by decide) rfl (by first | exact Nat.le_of_ble_eq_true rfl | (dsimp only [zV, zVh, zVg, zrm]; omega) | omega) (by first | exact Nat.le_of_ble_eq_true rfl | (dsimp only [zV, zVh, zVg, zrm]; omega) | omega) (by first | exact Nat.le_of_ble_eq_true rfl | (dsimp only [zV, zVh, zVg, zrm]; omega) | omega) (by first | exact Nat.le_of_ble_eq_true rfl | (dsimp only [zV, zVh, zVg, zrm]; omega) | omega) (by first | exact Nat.le_of_ble_eq_true rfl | (dsimp only [zV, zVh, zVg, zrm]; omega) | omega) (zC_mono hM_z (fun r w2 hr => ?_) (fun E w2 he => ?_))
  · obtain ⟨rfl, hq⟩ := hr
    refine r_goto (t := 11) dL_image_5 (by decide) ?_
    refine n_iconst dL_image_11 (by decide) (fun r11 e11_z => ?_)
    refine r_iret dL_image_12 rfl (by first | exact Nat.le_of_ble_eq_true rfl | (dsimp only [zV, zVh, zVg, zrm]; omega) | omega) (by first | exact Nat.le_of_ble_eq_true rfl | (dsimp only [zV, zVh, zVg, zrm]; omega) | omega) ?_
    exact hq _ e11_z
  · obtain ⟨rfl, hq⟩ := he
    refine x_catch [] { startPc := 0, endPc := 5, handlerPc := 8, catchType := 19 } [] rfl (fun z h_z => by cases h_z) (by decide) (by decide) zc_RL_19 (by decide +kernel) (fun q9_z => ?_)
    refine r_astore2 dL_image_8 rfl ?_
    refine n_iconst dL_image_9 (by decide) (fun r9 e9_z => ?_)
    refine r_iret dL_image_10 rfl (by first | exact Nat.le_of_ble_eq_true rfl | (dsimp only [zV, zVh, zVg, zrm]; omega) | omega) (by first | exact Nat.le_of_ble_eq_true rfl | (dsimp only [zV, zVh, zVg, zrm]; omega) | omega) ?_
    exact hq _ e9_z
theorem zw_restore : zlW RL 304 yL_restore cL_restore 3 (some .int) [(0, 5, 8, 19), (0, 5, 11, 46)] 2 := ⟨zt7 (List.mem_of_getElem? (i := 109) (by decide +kernel)) (by decide +kernel), zt7 (List.mem_of_getElem? (i := 110) (by decide +kernel)) (by decide +kernel), zini_RL, zt7 (List.mem_of_getElem? (i := 111) (by decide +kernel)) (by decide +kernel), by decide +kernel, by decide +kernel, by decide +kernel, by decide⟩
set_option maxHeartbeats 4000000 in
set_option maxRecDepth 100000 in
theorem w_restore {g : zGT} {w : zW} {X d : Nat} {x0 : Int32} {b : Nat × Nat} {Q : Option Value → zW → Prop} (G : zGok g) (hX : zK w X = 10) (hM_z : zC g d yX11_restore cX11_restore 3 none [.ref X, .int x0] w b (fun r w2 => r = none ∧ ∀ q : Int32, q.toInt = 0 → Q (some (.int q)) w2) (fun E w2 => (E = "java/util/NoSuchElementException" ∧ ∀ q : Int32, q.toInt = 1 → Q (some (.int q)) w2) ∨ (E = "java/lang/IllegalStateException" ∧ ∀ q : Int32, q.toInt = 2 → Q (some (.int q)) w2))) : zCW g (d + 1) yL_restore cL_restore 3 (some .int) [(0, 5, 8, 19), (0, 5, 11, 46)] [.ref X, .int x0] w b Q := by
  refine zCW_of G (by decide +kernel) (Nat.le_of_ble_eq_true rfl) ?_
  refine r_aloadR0 dL_restore_0 ?_
  refine r_iload1 dL_restore_1 ?_
  refine q_callV1 zm_RL_133 dL_restore_2 hX (by decide) rfl (by first | exact Nat.le_of_ble_eq_true rfl | (dsimp only [zV, zVh, zVg, zrm]; omega) | omega) (by first | exact Nat.le_of_ble_eq_true rfl | (dsimp only [zV, zVh, zVg, zrm]; omega) | omega) (by first | exact Nat.le_of_ble_eq_true rfl | (dsimp only [zV, zVh, zVg, zrm]; omega) | omega) (by first | exact Nat.le_of_ble_eq_true rfl | (dsimp only [zV, zVh, zVg, zrm]; omega) | omega) (by first | exact Nat.le_of_ble_eq_true rfl | (dsimp only [zV, zVh, zVg, zrm]; omega) | omega) (zC_mono hM_z (fun r w2 hr => ?_) (fun E w2 he => ?_))
  · obtain ⟨rfl, hq⟩ := hr
    refine r_goto (t := 14) dL_restore_5 (by decide) ?_
    refine n_iconst dL_restore_14 (by decide) (fun r14 e14_z => ?_)
    refine r_iret dL_restore_15 rfl (by first | exact Nat.le_of_ble_eq_true rfl | (dsimp only [zV, zVh, zVg, zrm]; omega) | omega) (by first | exact Nat.le_of_ble_eq_true rfl | (dsimp only [zV, zVh, zVg, zrm]; omega) | omega) ?_
    exact hq _ e14_z
  · rcases he with ⟨rfl, hq⟩ | ⟨rfl, hq⟩
    · refine x_catch [] { startPc := 0, endPc := 5, handlerPc := 8, catchType := 19 } [{ startPc := 0, endPc := 5, handlerPc := 11, catchType := 46 }] rfl (fun z h_z => by cases h_z) (by decide) (by decide) zc_RL_19 (by decide +kernel) (fun q9_z => ?_)
      refine r_astore2 dL_restore_8 rfl ?_
      refine n_iconst dL_restore_9 (by decide) (fun r9 e9_z => ?_)
      refine r_iret dL_restore_10 rfl (by first | exact Nat.le_of_ble_eq_true rfl | (dsimp only [zV, zVh, zVg, zrm]; omega) | omega) (by first | exact Nat.le_of_ble_eq_true rfl | (dsimp only [zV, zVh, zVg, zrm]; omega) | omega) ?_
      exact hq _ e9_z
    · refine x_catch [{ startPc := 0, endPc := 5, handlerPc := 8, catchType := 19 }] { startPc := 0, endPc := 5, handlerPc := 11, catchType := 46 } [] rfl (fun z h_z => by rcases List.mem_singleton.mp h_z with rfl; exact ⟨by decide, _, zc_RL_19, by decide +kernel⟩) (by decide) (by decide) zc_RL_46 (by decide +kernel) (fun q9_z => ?_)
      refine r_astore2 dL_restore_11 rfl ?_
      refine n_iconst dL_restore_12 (by decide) (fun r12 e12_z => ?_)
      refine r_iret dL_restore_13 rfl (by first | exact Nat.le_of_ble_eq_true rfl | (dsimp only [zV, zVh, zVg, zrm]; omega) | omega) (by first | exact Nat.le_of_ble_eq_true rfl | (dsimp only [zV, zVh, zVg, zrm]; omega) | omega) ?_
      exact hq _ e12_z
