/-! Math.max, Math.min -/
section ZM
variable {g : zGT} {Rm : Room} {QQ : List Frame → Array Value → State → State → Prop} {hh : List (Nat × Nat × Nat × Nat)} {nm : String} {nL : Nat} {ret : Option FieldType}
variable {cd : ByteArray} {ow : String} {pc : Nat} {ls : List (Option Value)} {st : List Value} {w : zW} {b : Nat × Nat}
theorem r_mmax {ix : Nat} {x y : Int32} (hl : zlS ow ix yJ9_max_7cf53 cJ9_max_7cf53 2 (some .int) 2) (hd : decode cd pc = .ok (.invokestatic ix, 3)) (hW : (st.map fun v => v.category).sum ≤ 8) (hf : 1 ≤ Rm.frames) (hlo : 64 ≤ Rm.locals) (h1 : b.1 ≤ Rm.cells) (h2 : b.2 ≤ Rm.slots) (kk : ∀ r : Int32, r.toInt = max x.toInt y.toInt → zR (zVg g Rm QQ hh nm nL ret) cd ow (pc + 3) ls (.int r :: st) w b) : zR (zVg g Rm QQ hh nm nL ret) cd ow pc ls (.int y :: .int x :: st) w b := by
  intro p e s m args below meth c C H locs lsA hL hH hS
  obtain ⟨l1, l2, l3, l4, _⟩ := hl
  have hc : Lib.Math.max.code = cJ9_max_7cf53 := by decide +kernel
  have hts : ∀ w ∈ zT, w.before args s = true := C.2.2.2.2.1
  have hk := hts _ l4
  rw [← hc] at hk
  refine va_mmax C.1 C.2.1 (C.2.2.1.trans hL.1.symm) C.2.2.2.1 (hts _ l1) (hts _ l2) (hts _ l3) hk hf (by omega) h1 h2 hd (kk _ ?_ p e s m args below meth c C H locs lsA hL hH hS)
  split
  · rename_i h
    rw [Int32.lt_iff_toInt_lt] at h
    omega
  · rename_i h
    rw [Int32.lt_iff_toInt_lt] at h
    omega
theorem r_mmin {ix : Nat} {x y : Int32} (hl : zlS ow ix yJ9_min_7cf53 cJ9_min_7cf53 2 (some .int) 2) (hd : decode cd pc = .ok (.invokestatic ix, 3)) (hW : (st.map fun v => v.category).sum ≤ 8) (hf : 1 ≤ Rm.frames) (hlo : 64 ≤ Rm.locals) (h1 : b.1 ≤ Rm.cells) (h2 : b.2 ≤ Rm.slots) (kk : ∀ r : Int32, r.toInt = min x.toInt y.toInt → zR (zVg g Rm QQ hh nm nL ret) cd ow (pc + 3) ls (.int r :: st) w b) : zR (zVg g Rm QQ hh nm nL ret) cd ow pc ls (.int y :: .int x :: st) w b := by
  intro p e s m args below meth c C H locs lsA hL hH hS
  obtain ⟨l1, l2, l3, l4, _⟩ := hl
  have hc : Lib.Math.min.code = cJ9_min_7cf53 := by decide +kernel
  have hts : ∀ w ∈ zT, w.before args s = true := C.2.2.2.2.1
  have hk := hts _ l4
  rw [← hc] at hk
  refine va_mmin C.1 C.2.1 (C.2.2.1.trans hL.1.symm) C.2.2.2.1 (hts _ l1) (hts _ l2) (hts _ l3) hk hf (by omega) h1 h2 hd (kk _ ?_ p e s m args below meth c C H locs lsA hL hH hS)
  split
  · rename_i h
    rw [Int32.lt_iff_toInt_lt] at h
    omega
  · rename_i h
    rw [Int32.lt_iff_toInt_lt] at h
    omega
theorem r_mmaxL {ix : Nat} {x y : Int64} (hl : zlS ow ix yJ9_max_f86c9 cJ9_max_f86c9 4 (some .long) 2) (hd : decode cd pc = .ok (.invokestatic ix, 3)) (hW : (st.map fun v => v.category).sum ≤ 8) (hf : 1 ≤ Rm.frames) (hlo : 64 ≤ Rm.locals) (h1 : b.1 ≤ Rm.cells) (h2 : b.2 ≤ Rm.slots) (kk : ∀ r : Int64, r.toInt = max x.toInt y.toInt → zR (zVg g Rm QQ hh nm nL ret) cd ow (pc + 3) ls (.long r :: st) w b) : zR (zVg g Rm QQ hh nm nL ret) cd ow pc ls (.long y :: .long x :: st) w b := by
  intro p e s m args below meth c C H locs lsA hL hH hS
  obtain ⟨l1, l2, l3, l4, _⟩ := hl
  have hc : Lib.MathLoose.max_long.code = cJ9_max_f86c9 := by decide +kernel
  have hts : ∀ w ∈ zT, w.before args s = true := C.2.2.2.2.1
  have hk := hts _ l4
  rw [← hc] at hk
  refine va_mmax_long C.1 C.2.1 (C.2.2.1.trans hL.1.symm) C.2.2.2.1 (hts _ l1) (hts _ l2) (hts _ l3) hk hf (by omega) h1 h2 hd (kk _ ?_ p e s m args below meth c C H locs lsA hL hH hS)
  split
  · rename_i h
    rw [Int64.lt_iff_toInt_lt] at h
    omega
  · rename_i h
    rw [Int64.lt_iff_toInt_lt] at h
    omega
theorem r_mminL {ix : Nat} {x y : Int64} (hl : zlS ow ix yJ9_min_f86c9 cJ9_min_f86c9 4 (some .long) 2) (hd : decode cd pc = .ok (.invokestatic ix, 3)) (hW : (st.map fun v => v.category).sum ≤ 8) (hf : 1 ≤ Rm.frames) (hlo : 64 ≤ Rm.locals) (h1 : b.1 ≤ Rm.cells) (h2 : b.2 ≤ Rm.slots) (kk : ∀ r : Int64, r.toInt = min x.toInt y.toInt → zR (zVg g Rm QQ hh nm nL ret) cd ow (pc + 3) ls (.long r :: st) w b) : zR (zVg g Rm QQ hh nm nL ret) cd ow pc ls (.long y :: .long x :: st) w b := by
  intro p e s m args below meth c C H locs lsA hL hH hS
  obtain ⟨l1, l2, l3, l4, _⟩ := hl
  have hc : Lib.MathLoose.min_long.code = cJ9_min_f86c9 := by decide +kernel
  have hts : ∀ w ∈ zT, w.before args s = true := C.2.2.2.2.1
  have hk := hts _ l4
  rw [← hc] at hk
  refine va_mmin_long C.1 C.2.1 (C.2.2.1.trans hL.1.symm) C.2.2.2.1 (hts _ l1) (hts _ l2) (hts _ l3) hk hf (by omega) h1 h2 hd (kk _ ?_ p e s m args below meth c C H locs lsA hL hH hS)
  split
  · rename_i h
    rw [Int64.lt_iff_toInt_lt] at h
    omega
  · rename_i h
    rw [Int64.lt_iff_toInt_lt] at h
    omega
end ZM
theorem zge {k n : Nat} (h : k = n) (hn : 21 ≤ n) : 21 ≤ k := by rw [h]; exact hn
/-! switches by case; numbers by name, with what their integers are -/
section ZNM
variable {V : zVT} {cd : ByteArray} {ow : String} {pc : Nat} {ls : List (Option Value)} {st : List Value} {w : zW} {b : Nat × Nat}
theorem n_tabC {dflt lo hi : Int} {offs : Array Int} {len : Nat} {x : Int32} {k off : Int} {t : Nat} (hd : decode cd pc = .ok (.tableswitch dflt lo hi offs, len)) (hk : lo ≤ k ∧ k ≤ hi) (ho : offs[(k - lo).toNat]? = some off) (ht : (pc : Int) + off = (t : Int)) (kt : x.toInt = k → zR V cd ow t ls st w b) (kf : x.toInt ≠ k → zR V cd ow pc ls (.int x :: st) w b) : zR V cd ow pc ls (.int x :: st) w b := by
  by_cases h : x.toInt = k
  · exact r_tabIn hd (by omega) (by omega) (by rw [h]; exact ho) ht (kt h)
  · exact kf h
theorem n_tabD {dflt lo hi : Int} {offs : Array Int} {len : Nat} {x : Int32} {t : Nat} (hd : decode cd pc = .ok (.tableswitch dflt lo hi offs, len)) (ht : (pc : Int) + dflt = (t : Int)) (h : x.toInt < lo ∨ hi < x.toInt) (k : zR V cd ow t ls st w b) : zR V cd ow pc ls (.int x :: st) w b := r_tabOut hd h ht k
def zcmp (r : Int32) (x y : Int) : Prop := x < y ∧ r.toInt = -1 ∨ x = y ∧ r.toInt = 0 ∨ y < x ∧ r.toInt = 1
theorem zl_lt {x y : Int64} : x < y ↔ x.toInt < y.toInt := Int64.lt_iff_toInt_lt
theorem zl_eq {x y : Int64} : x = y ↔ x.toInt = y.toInt := ⟨fun h => by rw [h], fun h => Int64.toInt_inj.mp h⟩
theorem zl_cmp {x y : Int64} : zcmp (lg_cmp x y) x.toInt y.toInt := by
  unfold zcmp lg_cmp
  by_cases h1 : x > y
  · rw [if_pos h1]
    have := zl_lt.mp h1
    exact Or.inr (Or.inr ⟨this, rfl⟩)
  · rw [if_neg h1]
    have h2 : ¬ y.toInt < x.toInt := fun e => h1 (zl_lt.mpr e)
    by_cases h3 : x = y
    · rw [if_pos h3, h3]
      exact Or.inr (Or.inl ⟨rfl, rfl⟩)
    · rw [if_neg h3]
      have h4 : x.toInt ≠ y.toInt := fun e => h3 (zl_eq.mpr e)
      exact Or.inl ⟨by omega, rfl⟩
theorem n_lcmp {x y : Int64} (hd : decode cd pc = .ok (.lcmp, 1)) (k : ∀ r : Int32, zcmp r x.toInt y.toInt → zR V cd ow (pc + 1) ls (.int r :: st) w b) : zR V cd ow pc ls (.long y :: .long x :: st) w b := r_lcmp hd (k _ zl_cmp)
theorem n_iadd {x y : Int32} (hd : decode cd pc = .ok (.iadd, 1)) (h : -2147483648 ≤ x.toInt + y.toInt ∧ x.toInt + y.toInt < 2147483648) (k : ∀ r : Int32, r.toInt = x.toInt + y.toInt → zR V cd ow (pc + 1) ls (.int r :: st) w b) : zR V cd ow pc ls (.int y :: .int x :: st) w b := r_iadd hd (k _ (zi_add h))
theorem n_isub {x y : Int32} (hd : decode cd pc = .ok (.isub, 1)) (h : -2147483648 ≤ x.toInt - y.toInt ∧ x.toInt - y.toInt < 2147483648) (k : ∀ r : Int32, r.toInt = x.toInt - y.toInt → zR V cd ow (pc + 1) ls (.int r :: st) w b) : zR V cd ow pc ls (.int y :: .int x :: st) w b := r_isub hd (k _ (zi_sub h))
theorem n_imul {x y : Int32} (hd : decode cd pc = .ok (.imul, 1)) (h : -2147483648 ≤ x.toInt * y.toInt ∧ x.toInt * y.toInt < 2147483648) (k : ∀ r : Int32, r.toInt = x.toInt * y.toInt → zR V cd ow (pc + 1) ls (.int r :: st) w b) : zR V cd ow pc ls (.int y :: .int x :: st) w b := r_imul hd (k _ (zi_mul h))
/-- a constant times x, x times a constant -/
theorem n_imulc {x y : Int32} {c : Int} (hd : decode cd pc = .ok (.imul, 1)) (hc : x.toInt = c) (h : -2147483648 ≤ c * y.toInt ∧ c * y.toInt < 2147483648) (k : ∀ r : Int32, r.toInt = c * y.toInt → zR V cd ow (pc + 1) ls (.int r :: st) w b) : zR V cd ow pc ls (.int y :: .int x :: st) w b := n_imul hd (by rw [hc]; exact h) (fun r hr => k r (by rw [hr, hc]))
theorem n_iconst {n : Int} (hd : decode cd pc = .ok (.iconst n, 1)) (h : (Int32.ofInt n).toInt = n) (k : ∀ r : Int32, r.toInt = n → zR V cd ow (pc + 1) ls (.int r :: st) w b) : zR V cd ow pc ls st w b := r_iconst hd rfl (k _ h)
theorem n_bipush {n : Int} (hd : decode cd pc = .ok (.bipush n, 2)) (h : ((Int8.ofInt n).toInt32).toInt = n) (k : ∀ r : Int32, r.toInt = n → zR V cd ow (pc + 2) ls (.int r :: st) w b) : zR V cd ow pc ls st w b := r_bipush hd rfl (k _ h)
theorem n_sipush {n : Int} (hd : decode cd pc = .ok (.sipush n, 3)) (h : ((Int16.ofInt n).toInt32).toInt = n) (k : ∀ r : Int32, r.toInt = n → zR V cd ow (pc + 3) ls (.int r :: st) w b) : zR V cd ow pc ls st w b := r_sipush hd rfl (k _ h)
theorem n_lconst {n : Fin 2} {v : Int64} {q : Int} (hd : decode cd pc = .ok (.lconst n, 1)) (hv : Int64.ofNat (n : Nat) = v) (h : v.toInt = q) (k : ∀ r : Int64, r.toInt = q → zR V cd ow (pc + 1) ls (.long r :: st) w b) : zR V cd ow pc ls st w b := r_lconst hd hv (k _ h)
theorem n_ldc {ix : Nat} {v : Int32} {n : Int} (hw : Cond.constant ow ix v ∈ zT) (hd : decode cd pc = .ok (.ldc ix, 2)) (h : v.toInt = n) (k : ∀ r : Int32, r.toInt = n → zR V cd ow (pc + 2) ls (.int r :: st) w b) : zR V cd ow pc ls st w b := r_ldc hw hd (k _ h)
theorem n_ldc2 {ix : Nat} {v : Int64} {n : Int} (hw : Cond.constantLong ow ix v ∈ zT) (hd : decode cd pc = .ok (.ldc2_w ix, 3)) (h : v.toInt = n) (k : ∀ r : Int64, r.toInt = n → zR V cd ow (pc + 3) ls (.long r :: st) w b) : zR V cd ow pc ls st w b := r_ldc2 hw hd (k _ h)
theorem zl_add {x y : Int64} (h : -9223372036854775808 ≤ x.toInt + y.toInt ∧ x.toInt + y.toInt < 9223372036854775808) : (x + y).toInt = x.toInt + y.toInt := by
  rw [Int64.toInt_add]
  exact Int.bmod_eq_of_le (by omega) (by omega)
theorem zl_sub {x y : Int64} (h : -9223372036854775808 ≤ x.toInt - y.toInt ∧ x.toInt - y.toInt < 9223372036854775808) : (x - y).toInt = x.toInt - y.toInt := by
  rw [Int64.toInt_sub]
  exact Int.bmod_eq_of_le (by omega) (by omega)
theorem zl_mul {x y : Int64} (h : -9223372036854775808 ≤ x.toInt * y.toInt ∧ x.toInt * y.toInt < 9223372036854775808) : (x * y).toInt = x.toInt * y.toInt := by
  rw [Int64.toInt_mul]
  exact Int.bmod_eq_of_le (by omega) (by omega)
theorem n_ladd {x y : Int64} (hd : decode cd pc = .ok (.ladd, 1)) (h : -9223372036854775808 ≤ x.toInt + y.toInt ∧ x.toInt + y.toInt < 9223372036854775808) (k : ∀ r : Int64, r.toInt = x.toInt + y.toInt → zR V cd ow (pc + 1) ls (.long r :: st) w b) : zR V cd ow pc ls (.long y :: .long x :: st) w b := r_ladd hd (k _ (zl_add h))
theorem n_lsub {x y : Int64} (hd : decode cd pc = .ok (.lsub, 1)) (h : -9223372036854775808 ≤ x.toInt - y.toInt ∧ x.toInt - y.toInt < 9223372036854775808) (k : ∀ r : Int64, r.toInt = x.toInt - y.toInt → zR V cd ow (pc + 1) ls (.long r :: st) w b) : zR V cd ow pc ls (.long y :: .long x :: st) w b := r_lsub hd (k _ (zl_sub h))
theorem n_lmul {x y : Int64} (hd : decode cd pc = .ok (.lmul, 1)) (h : -9223372036854775808 ≤ x.toInt * y.toInt ∧ x.toInt * y.toInt < 9223372036854775808) (k : ∀ r : Int64, r.toInt = x.toInt * y.toInt → zR V cd ow (pc + 1) ls (.long r :: st) w b) : zR V cd ow pc ls (.long y :: .long x :: st) w b := r_lmul hd (k _ (zl_mul h))
theorem n_i2l {x : Int32} (hd : decode cd pc = .ok (.i2l, 1)) (k : ∀ r : Int64, r.toInt = x.toInt → zR V cd ow (pc + 1) ls (.long r :: st) w b) : zR V cd ow pc ls (.int x :: st) w b := r_i2l hd (k _ (Int32.toInt_toInt64 x))
theorem zl_i {x : Int64} (h : -2147483648 ≤ x.toInt ∧ x.toInt < 2147483648) : x.toInt32.toInt = x.toInt := by
  rw [Int64.toInt_toInt32]
  exact Int.bmod_eq_of_le (by omega) (by omega)
theorem n_l2i {x : Int64} (hd : decode cd pc = .ok (.l2i, 1)) (h : -2147483648 ≤ x.toInt ∧ x.toInt < 2147483648) (k : ∀ r : Int32, r.toInt = x.toInt → zR V cd ow (pc + 1) ls (.int r :: st) w b) : zR V cd ow pc ls (.long x :: st) w b := r_l2i hd (k _ (zl_i h))
/-- quotients and rests of numbers that are not negative -/
theorem zi_div {x y : Int32} {n m : Nat} (hx : x.toInt = n) (hy : y.toInt = m) (h0 : 0 < m) : (x / y).toInt = (n / m : Nat) := by
  have h1 := Int32.toInt_lt x
  have h2 := Int32.toInt_lt y
  have hne : y ≠ -1 := by
    intro e
    rw [e] at hy
    have : ((-1 : Int32)).toInt = -1 := rfl
    omega
  rw [Int32.toInt_div_of_ne_right _ _ hne, hx, hy]
  exact (Int.ofNat_tdiv n m).symm
theorem zi_rem {x y : Int32} {n m : Nat} (hx : x.toInt = n) (hy : y.toInt = m) (h0 : 0 < m) : (x - x / y * y).toInt = (n % m : Nat) := by
  have h1 := Int32.toInt_lt x
  have h3 : n / m * m ≤ n := Nat.div_mul_le_self n m
  have hd := zi_div hx hy h0
  have e : (((n / m * m : Nat)) : Int) = ((n / m : Nat) : Int) * (m : Int) := Int.natCast_mul _ _
  have hm : (x / y * y).toInt = (n / m * m : Nat) := by
    rw [zi_mul, hd, hy, e]
    rw [hd, hy, ← e]
    omega
  rw [zi_sub (by rw [hm]; omega), hm, hx]
  have := Nat.div_add_mod n m
  rw [Nat.mul_comm] at this
  omega
theorem n_idiv {x y : Int32} {n m : Nat} (hd : decode cd pc = .ok (.idiv, 1)) (hx : x.toInt = n) (hy : y.toInt = m) (h0 : 0 < m) (k : ∀ r : Int32, r.toInt = (n / m : Nat) → zR V cd ow (pc + 1) ls (.int r :: st) w b) : zR V cd ow pc ls (.int y :: .int x :: st) w b := r_idiv hd (fun e => by rw [e] at hy; have : ((0 : Int32)).toInt = 0 := rfl; omega) (k _ (zi_div hx hy h0))
theorem n_irem {x y : Int32} {n m : Nat} (hd : decode cd pc = .ok (.irem, 1)) (hx : x.toInt = n) (hy : y.toInt = m) (h0 : 0 < m) (k : ∀ r : Int32, r.toInt = (n % m : Nat) → zR V cd ow (pc + 1) ls (.int r :: st) w b) : zR V cd ow pc ls (.int y :: .int x :: st) w b := r_irem hd (fun e => by rw [e] at hy; have : ((0 : Int32)).toInt = 0 := rfl; omega) (k _ (zi_rem hx hy h0))
end ZNM
