/-! Math.max, Math.min -/
section ZM
variable {g : zGT} {Rm : Room} {QQ : List Frame → Array Value → State → State → Prop} {hh : List (Nat × Nat × Nat × Nat)} {nm : String} {nL : Nat} {ret : Option FieldType}
variable {cd : ByteArray} {ow : String} {pc : Nat} {ls : List (Option Value)} {st : List Value} {w : zW} {b : Nat × Nat}
theorem r_mmax {ix : Nat} {x y : Int32} (hl : zlS ow ix yJ9_max_7cf53 cJ9_max_7cf53 2 (some .int) 2) (hd : decode cd pc = .ok (.invokestatic ix, 3)) (hW : (st.map fun v => v.category).sum ≤ 8) (hf : 1 ≤ Rm.frames) (hlo : 64 ≤ Rm.locals) (h1 : b.1 ≤ Rm.cells) (h2 : b.2 ≤ Rm.slots) (kk : ∀ r : Int32, r.toInt = max x.toInt y.toInt → zR (zVg g Rm QQ hh nm nL ret) cd ow (pc + 3) ls (.int r :: st) w b) : zR (zVg g Rm QQ hh nm nL ret) cd ow pc ls (.int y :: .int x :: st) w b := by
  intro p e s m args below meth c C H locs lsA hL hH hS
  obtain ⟨l1, l2, l3, l4, _⟩ := hl
  have hc : Lib.Math.max.code = cJ9_max_7cf53 := by decide +kernel
  have hts : ∀ w ∈ zT, w.before args s = true := C.2.2.2.2.1
  have hk := hts _ l4
  rw [← hc] at hk
  refine va_mmax C.1 C.2.1 (C.2.2.1.trans hL.1.symm) C.2.2.2.1 (hts _ l1) (hts _ l2) (hts _ l3) hk hf (by omega) h1 h2 hd (kk _ ?_ p e s m args below meth c C H locs lsA hL hH hS)
  split
  · rename_i h
    rw [Int32.lt_iff_toInt_lt] at h
    omega
  · rename_i h
    rw [Int32.lt_iff_toInt_lt] at h
    omega
theorem r_mmin {ix : Nat} {x y : Int32} (hl : zlS ow ix yJ9_min_7cf53 cJ9_min_7cf53 2 (some .int) 2) (hd : decode cd pc = .ok (.invokestatic ix, 3)) (hW : (st.map fun v => v.category).sum ≤ 8) (hf : 1 ≤ Rm.frames) (hlo : 64 ≤ Rm.locals) (h1 : b.1 ≤ Rm.cells) (h2 : b.2 ≤ Rm.slots) (kk : ∀ r : Int32, r.toInt = min x.toInt y.toInt → zR (zVg g Rm QQ hh nm nL ret) cd ow (pc + 3) ls (.int r :: st) w b) : zR (zVg g Rm QQ hh nm nL ret) cd ow pc ls (.int y :: .int x :: st) w b := by
  intro p e s m args below meth c C H locs lsA hL hH hS
  obtain ⟨l1, l2, l3, l4, _⟩ := hl
  have hc : Lib.Math.min.code = cJ9_min_7cf53 := by decide +kernel
  have hts : ∀ w ∈ zT, w.before args s = true := C.2.2.2.2.1
  have hk := hts _ l4
  rw [← hc] at hk
  refine va_mmin C.1 C.2.1 (C.2.2.1.trans hL.1.symm) C.2.2.2.1 (hts _ l1) (hts _ l2) (hts _ l3) hk hf (by omega) h1 h2 hd (kk _ ?_ p e s m args below meth c C H locs lsA hL hH hS)
  split
  · rename_i h
    rw [Int32.lt_iff_toInt_lt] at h
    omega
  · rename_i h
    rw [Int32.lt_iff_toInt_lt] at h
    omega
theorem r_mmaxL {ix : Nat} {x y : Int64} (hl : zlS ow ix yJ9_max_f86c9 cJ9_max_f86c9 4 (some .long) 2) (hd : decode cd pc = .ok (.invokestatic ix, 3)) (hW : (st.map fun v => v.category).sum ≤ 8) (hf : 1 ≤ Rm.frames) (hlo : 64 ≤ Rm.locals) (h1 : b.1 ≤ Rm.cells) (h2 : b.2 ≤ Rm.slots) (kk : ∀ r : Int64, r.toInt = max x.toInt y.toInt → zR (zVg g Rm QQ hh nm nL ret) cd ow (pc + 3) ls (.long r :: st) w b) : zR (zVg g Rm QQ hh nm nL ret) cd ow pc ls (.long y :: .long x :: st) w b := by
  intro p e s m args below meth c C H locs lsA hL hH hS
  obtain ⟨l1, l2, l3, l4, _⟩ := hl
  have hc : Lib.MathLoose.max_long.code = cJ9_max_f86c9 := by decide +kernel
  have hts : ∀ w ∈ zT, w.before args s = true := C.2.2.2.2.1
  have hk := hts _ l4
  rw [← hc] at hk
  refine va_mmax_long C.1 C.2.1 (C.2.2.1.trans hL.1.symm) C.2.2.2.1 (hts _ l1) (hts _ l2) (hts _ l3) hk hf (by omega) h1 h2 hd (kk _ ?_ p e s m args below meth c C H locs lsA hL hH hS)
  split
  · rename_i h
    rw [Int64.lt_iff_toInt_lt] at h
    omega
  · rename_i h
    rw [Int64.lt_iff_toInt_lt] at h
    omega
theorem r_mminL {ix : Nat} {x y : Int64} (hl : zlS ow ix yJ9_min_f86c9 cJ9_min_f86c9 4 (some .long) 2) (hd : decode cd pc = .ok (.invokestatic ix, 3)) (hW : (st.map fun v => v.category).sum ≤ 8) (hf : 1 ≤ Rm.frames) (hlo : 64 ≤ Rm.locals) (h1 : b.1 ≤ Rm.cells) (h2 : b.2 ≤ Rm.slots) (kk : ∀ r : Int64, r.toInt = min x.toInt y.toInt → zR (zVg g Rm QQ hh nm nL ret) cd ow (pc + 3) ls (.long r :: st) w b) : zR (zVg g Rm QQ hh nm nL ret) cd ow pc ls (.long y :: .long x :: st) w b := by
  intro p e s m args below meth c C H locs lsA hL hH hS
  obtain ⟨l1, l2, l3, l4, _⟩ := hl
  have hc : Lib.MathLoose.min_long.code = cJ9_min_f86c9 := by decide +kernel
  have hts : ∀ w ∈ zT, w.before args s = true := C.2.2.2.2.1
  have hk := hts _ l4
  rw [← hc] at hk
  refine va_mmin_long C.1 C.2.1 (C.2.2.1.trans hL.1.symm) C.2.2.2.1 (hts _ l1) (hts _ l2) (hts _ l3) hk hf (by omega) h1 h2 hd (kk _ ?_ p e s m args below meth c C H locs lsA hL hH hS)
  split
  · rename_i h
    rw [Int64.lt_iff_toInt_lt] at h
    omega
  · rename_i h
    rw [Int64.lt_iff_toInt_lt] at h
    omega
end ZM
theorem zge {k n : Nat} (h : k = n) (hn : 21 ≤ n) : 21 ≤ k := by rw [h]; exact hn
