/-! throws of the class, and their catching by the law's wrappers -/
def zNms : List String := ["java/lang/RuntimeException", "java/lang/Exception"]
/-- a kind of throw: the class's own numbers of the exception's class and its constructor -/
def zth (ow : String) (ik ic : Nat) (E : String) : Prop := Bundle.fit E = true ∧ Cond.classLink ow ik E ∈ zT ∧ Cond.initialized E ∈ zT ∧ (∀ w ∈ (vx_atS ow ic E zNms).filter goodWord, w ∈ zT) ∧ (∀ w ∈ (vx_atS ow ic E zNms).filter (fun w => !goodWord w), w ∈ zDecl) ∧ ∀ w ∈ Cond.classLink ow ik E :: Cond.initialized E :: vx_atS ow ic E zNms, vx_ot w = true
theorem zDecl_use {args : Array Value} {s : State} (h : ∀ w ∈ zDecl, va_Nw w s) : ∀ w ∈ zDecl, w.before args s = true := by
  intro w hw
  have h1 : w.onTables = true := List.all_eq_true.mp (show zDecl.all Cond.onTables = true by decide +kernel) w hw
  exact va_Nw.use h1 (h w hw)
section ZT
variable {g : zGT} {d : Nat} {y : MethodName} {nL : Nat} {ret : Option FieldType} {bt : Nat × Nat} {Q : Option Value → zW → Prop} {QX : String → zW → Prop} {hh : List (Nat × Nat × Nat × Nat)}
variable {cd : ByteArray} {ow : String} {pc : Nat} {ls : List (Option Value)} {st : List Value} {w : zW} {b : Nat × Nat}
theorem zXC_after {B : Nat} {E : String} {s t : State} {H : Heap} {locs : List Loc} (hH : zH g.2.1 g.2.2.1 w s H) (hS : va_S (zA g.2.2.1) s.heap H locs) (hq : ∀ n, zS w ≤ n → QX E (zsS w n)) (hvm : s.vm.Alike t.vm) (hz : H.size ≤ t.heap.size) (ho : ∀ q : Nat, q < H.size → t.heap[q]? = H[q]?) : zXC g QX E s t := by
  refine ⟨⟨zsS w t.heap.size, hq _ (by rw [hH.2.2]; exact hz), fun a => ?_, fun a ha => hH.2.1 a ha, rfl⟩, Nat.le_trans hS.1 hz, fun q h1 h2 => ?_⟩
  · have h9 : zat g.2.1 t w a H := zat_moved hvm (hH.1 a)
    by_cases hk : zK w a = 0
    · unfold zat
      rw [if_pos (show zK (zsS w t.heap.size) a = 0 from hk)]
      trivial
    · have hlt : a < H.size := by
        have h1 := h9
        unfold zat at h1
        rw [if_neg hk] at h1
        split at h1
        · exact h1.lt
        · obtain ⟨cA, -, h2⟩ := h1
          exact (Array.getElem?_eq_some_iff.mp h2).1
      exact zat_congr (w := w) (zat_keep h9 (ho a hlt)) rfl rfl rfl rfl rfl
  · rw [ho q (Nat.lt_of_lt_of_le h1 hS.1)]
    exact hS.2.1 q h1 h2
theorem r_throw {ik is ic : Nat} {E text : String} (ht : zth ow ik ic E) (hm : (ow, is, text) ∈ zMsg) (d0 : decode cd pc = .ok (.new ik, 3)) (d3 : decode cd (pc + 3) = .ok (.dup, 1)) (d4 : decode cd (pc + 4) = .ok (.ldc is, 2)) (d6 : decode cd (pc + 6) = .ok (.invokespecial ic, 3)) (d9 : decode cd (pc + 9) = .ok (.athrow, 1))
    (hd : 6 ≤ d) (hr : (st.map fun v => v.category).sum ≤ 200) (h1 : b.1 + 1 ≤ bt.1) (h2 : b.2 + 6 ≤ bt.2) (hq : ∀ n, zS w ≤ n → QX E (zsS w n)) : zR (zV g d y nL ret bt Q QX) cd ow pc ls st w b := by
  intro p e s m args below meth c C H locs lsA hL hH hS
  obtain ⟨t1, t2, t3, t4, t5, t6⟩ := ht
  have hts : ∀ w ∈ zT, w.before args s = true := C.2.2.2.2.1
  have hst9 : g.2.2.2 s ∧ zGok g := C.2.2.2.2.2.2.2.2.2.2.1
  have hS1 := hst9.2.2.2 s hst9.1
  obtain ⟨sa, hsa⟩ := hS1.2.2.2.2.2.1 _ hm
  have hex : c.exceptionTable.toList = tableOf [] := C.2.2.2.2.2.2.2.1
  refine vx_throwS (names := zNms) C.1 C.2.1 C.2.2.2.2.2.2.2.2.2.2.2.2 C.2.2.2.1 t1 (by decide +kernel) (hts _ t2) (hts _ t3) hsa (vx_hat (fun w hw => hts w (t4 w hw)) t5 (zDecl_use hS1.2.1)) t6 hS1.2.2.2.1 hS1.2.2.2.2.1 hS (hL.1.trans C.2.2.1.symm) d0 d3 d4 d6 d9 (by rw [hex]; intro x h; cases h) (by show 2 + 3 < d; omega) (by show _ + (13 * (2 + 1) + 43) ≤ 64 * d; omega) h1 h2 C.2.2.2.2.2.2.1 (fun t hvm hz ho => zXC_after (B := 0) hH hS hq hvm hz ho) hS.2.2 h1 h2
theorem r_throwW {ik is ic : Nat} {E text : String} (ht : zth ow ik ic E) (hm : (ow, is, text) ∈ zMsg) (d0 : decode cd pc = .ok (.new ik, 3)) (d3 : decode cd (pc + 3) = .ok (.dup, 1)) (d4 : decode cd (pc + 4) = .ok (.ldc_w is, 3)) (d7 : decode cd (pc + 7) = .ok (.invokespecial ic, 3)) (d10 : decode cd (pc + 10) = .ok (.athrow, 1))
    (hd : 6 ≤ d) (hr : (st.map fun v => v.category).sum ≤ 200) (h1 : b.1 + 1 ≤ bt.1) (h2 : b.2 + 6 ≤ bt.2) (hq : ∀ n, zS w ≤ n → QX E (zsS w n)) : zR (zV g d y nL ret bt Q QX) cd ow pc ls st w b := by
  intro p e s m args below meth c C H locs lsA hL hH hS
  obtain ⟨t1, t2, t3, t4, t5, t6⟩ := ht
  have hts : ∀ w ∈ zT, w.before args s = true := C.2.2.2.2.1
  have hst9 : g.2.2.2 s ∧ zGok g := C.2.2.2.2.2.2.2.2.2.2.1
  have hS1 := hst9.2.2.2 s hst9.1
  obtain ⟨sa, hsa⟩ := hS1.2.2.2.2.2.1 _ hm
  have hex : c.exceptionTable.toList = tableOf [] := C.2.2.2.2.2.2.2.1
  refine vx_throwSW (names := zNms) C.1 C.2.1 C.2.2.2.2.2.2.2.2.2.2.2.2 C.2.2.2.1 t1 (by decide +kernel) (hts _ t2) (hts _ t3) hsa (vx_hat (fun w hw => hts w (t4 w hw)) t5 (zDecl_use hS1.2.1)) t6 hS1.2.2.2.1 hS1.2.2.2.2.1 hS (hL.1.trans C.2.2.1.symm) d0 d3 d4 d7 d10 (by rw [hex]; intro x h; cases h) (by show 2 + 3 < d; omega) (by show _ + (13 * (2 + 1) + 43) ≤ 64 * d; omega) h1 h2 C.2.2.2.2.2.2.1 (fun t hvm hz ho => zXC_after (B := 0) hH hS hq hvm hz ho) hS.2.2 h1 h2
end ZT
section ZU
variable {g : zGT} {Rm : Room} {QQ : List Frame → Array Value → State → State → Prop} {hh : List (Nat × Nat × Nat × Nat)} {nm : String} {nL : Nat} {ret : Option FieldType}
variable {cd : ByteArray} {ow : String} {pc : Nat} {ls : List (Option Value)} {w : zW} {b : Nat × Nat}
/-- caught here, past the rows ahead -/
theorem x_catch {E nmC : String} (pre : List ExceptionTableEntry) (x : ExceptionTableEntry) (suf : List ExceptionTableEntry) (hsp : tableOf hh = pre ++ x :: suf) (hpass : ∀ z ∈ pre, z.catchType ≠ 0 ∧ ∃ nm2 : String, Cond.classLink ow z.catchType nm2 ∈ zT ∧ (E, nm2) ∈ zNcl) (hx : covers x pc = true) (h0 : x.catchType ≠ 0) (hlink : Cond.classLink ow x.catchType nmC ∈ zT) (hcast : Cond.castable E nmC ∈ zDecl)
    (kk : ∀ q : Nat, zR (zVg g Rm QQ hh nm nL ret) cd ow x.handlerPc ls [.ref q] w b) : zX (zVg g Rm QQ hh nm nL ret) cd ow pc ls w b E := by
  intro p e s m args below meth c C H locs lsA rest q ce hL hH hS hq hv hcl
  have hts : ∀ w ∈ zT, w.before args s = true := C.2.2.2.2.1
  have hst9 : g.2.2.2 s ∧ zGok g := C.2.2.2.2.2.2.2.2.2.2.1
  have hS1 := hst9.2.2.2 s hst9.1
  have hex : c.exceptionTable.toList = tableOf hh := C.2.2.2.2.2.2.2.1
  refine vx_catch (own := ow) (name := nmC) C.2.2.2.1 pre x suf (hex.trans hsp) (fun z hz => ?_) hx h0 (hts _ hlink) (zDecl_use hS1.2.1 _ hcast) hq hv hcl (kk q p e s m args below meth c C H locs lsA hL hH hS)
  obtain ⟨z1, nm2, z2, z3⟩ := hpass z hz
  exact Or.inr ⟨z1, nm2, hts _ z2, hS1.2.2.2.2.2.2 _ z3⟩
end ZU
