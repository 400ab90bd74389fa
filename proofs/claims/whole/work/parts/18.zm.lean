/-! worlds by their ints and longs; rows that name every number by its integer -/
def zM (w : zW) (f : Nat → Nat → Int32) (j : Nat → Nat → Int64) : zW := (w.1, w.2.1, w.2.2.1, f, j, w.2.2.2.2.2)
theorem zM_self {w : zW} : zM w (zI w) (zJ w) = w := rfl
theorem zM_zM {w : zW} {f f2 : Nat → Nat → Int32} {j j2 : Nat → Nat → Int64} : zM (zM w f j) f2 j2 = zM w f2 j2 := rfl
theorem zu_nn {α : Type} {f : Nat → Nat → α} {a i q k : Nat} {x : α} (h : q ≠ a ∨ k ≠ i) : zu f a i x q k = f q k := by
  unfold zu
  rw [if_neg (fun e => h.elim (fun h1 => h1 e.1) (fun h2 => h2 e.2))]
theorem zcl_of {i : Int32} {k : Nat} (h : i.toInt = (k : Nat)) : i.toNatClampNeg = k := by
  rw [← Int32.toNat_toInt, h]
  rfl
theorem z01_of {x : Int32} (h : x.toInt = 0 ∨ x.toInt = 1) : x = 0 ∨ x = 1 := h.imp (fun e => zi_eq.mpr e) (fun e => zi_eq.mpr e)
section ZMR
variable {V : zVT} {cd : ByteArray} {ow : String} {pc : Nat} {ls : List (Option Value)} {st : List Value} {w : zW} {f : Nat → Nat → Int32} {j : Nat → Nat → Int64} {b : Nat × Nat}
theorem n_name {x : Int32} (k : ∀ r : Int32, r = x → zR V cd ow pc ls (.int r :: st) w b) : zR V cd ow pc ls (.int x :: st) w b := k x rfl
theorem n_nameJ {x : Int64} (k : ∀ r : Int64, r = x → zR V cd ow pc ls (.long r :: st) w b) : zR V cd ow pc ls (.long x :: st) w b := k x rfl
theorem n_ldcw {ix : Nat} {v : Int32} {n : Int} (hw : Cond.constant ow ix v ∈ zT) (hd : decode cd pc = .ok (.ldc_w ix, 3)) (h : v.toInt = n) (k : ∀ r : Int32, r.toInt = n → zR V cd ow (pc + 3) ls (.int r :: st) w b) : zR V cd ow pc ls st w b := r_ldcw hw hd (k _ h)
theorem n_imuld {x y : Int32} {c : Int} (hd : decode cd pc = .ok (.imul, 1)) (hc : y.toInt = c) (h : -2147483648 ≤ x.toInt * c ∧ x.toInt * c < 2147483648) (k : ∀ r : Int32, r.toInt = x.toInt * c → zR V cd ow (pc + 1) ls (.int r :: st) w b) : zR V cd ow pc ls (.int y :: .int x :: st) w b := n_imul hd (by rw [hc]; exact h) (fun r hr => k r (by rw [hr, hc]))
theorem n_lmulc {x y : Int64} {c : Int} (hd : decode cd pc = .ok (.lmul, 1)) (hc : x.toInt = c) (h : -9223372036854775808 ≤ c * y.toInt ∧ c * y.toInt < 9223372036854775808) (k : ∀ r : Int64, r.toInt = c * y.toInt → zR V cd ow (pc + 1) ls (.long r :: st) w b) : zR V cd ow pc ls (.long y :: .long x :: st) w b := n_lmul hd (by rw [hc]; exact h) (fun r hr => k r (by rw [hr, hc]))
theorem zi_divc {x y : Int32} {c : Int} (hy : y.toInt = c) (hc : 0 < c) (hx : 0 ≤ x.toInt) : (x / y).toInt = x.toInt / c := by
  have hne : y ≠ -1 := by
    intro e
    rw [e] at hy
    have : ((-1 : Int32)).toInt = -1 := rfl
    omega
  rw [Int32.toInt_div_of_ne_right _ _ hne, hy]
  exact Int.tdiv_eq_ediv_of_nonneg hx
theorem zi_remc {x y : Int32} {c : Int} (hy : y.toInt = c) (hc : 0 < c) (hx : 0 ≤ x.toInt) : (x - x / y * y).toInt = x.toInt % c := by
  have hd := zi_divc hy hc hx
  have h1 := Int32.toInt_lt x
  have h2 : x.toInt / c * c ≤ x.toInt := Int.ediv_mul_le _ (by omega)
  have h3 : 0 ≤ x.toInt / c := Int.ediv_nonneg hx (by omega)
  have h4 : 0 ≤ x.toInt / c * c := Int.mul_nonneg h3 (by omega)
  have hm : (x / y * y).toInt = x.toInt / c * c := by
    rw [zi_mul, hd, hy]
    rw [hd, hy]
    omega
  rw [zi_sub (by rw [hm]; omega), hm, Int.emod_def, Int.mul_comm]
theorem n_idivc {x y : Int32} {c : Int} (hd : decode cd pc = .ok (.idiv, 1)) (hy : y.toInt = c) (hc : 0 < c) (hx : 0 ≤ x.toInt) (k : ∀ r : Int32, r.toInt = x.toInt / c → zR V cd ow (pc + 1) ls (.int r :: st) w b) : zR V cd ow pc ls (.int y :: .int x :: st) w b := r_idiv hd (fun e => by rw [e] at hy; have : ((0 : Int32)).toInt = 0 := rfl; omega) (k _ (zi_divc hy hc hx))
theorem n_iremc {x y : Int32} {c : Int} (hd : decode cd pc = .ok (.irem, 1)) (hy : y.toInt = c) (hc : 0 < c) (hx : 0 ≤ x.toInt) (k : ∀ r : Int32, r.toInt = x.toInt % c → zR V cd ow (pc + 1) ls (.int r :: st) w b) : zR V cd ow pc ls (.int y :: .int x :: st) w b := r_irem hd (fun e => by rw [e] at hy; have : ((0 : Int32)).toInt = 0 := rfl; omega) (k _ (zi_remc hy hc hx))
theorem zl_divc {x y : Int64} {c : Int} (hy : y.toInt = c) (hc : 0 < c) (hx : 0 ≤ x.toInt) : (x / y).toInt = x.toInt / c := by
  have hne : y ≠ -1 := by
    intro e
    rw [e] at hy
    have : ((-1 : Int64)).toInt = -1 := rfl
    omega
  rw [Int64.toInt_div_of_ne_right _ _ hne, hy]
  exact Int.tdiv_eq_ediv_of_nonneg hx
theorem zl_remc {x y : Int64} {c : Int} (hy : y.toInt = c) (hc : 0 < c) (hx : 0 ≤ x.toInt) : (x - x / y * y).toInt = x.toInt % c := by
  have hd := zl_divc hy hc hx
  have h1 := Int64.toInt_lt x
  have h2 : x.toInt / c * c ≤ x.toInt := Int.ediv_mul_le _ (by omega)
  have h3 : 0 ≤ x.toInt / c := Int.ediv_nonneg hx (by omega)
  have h4 : 0 ≤ x.toInt / c * c := Int.mul_nonneg h3 (by omega)
  have hm : (x / y * y).toInt = x.toInt / c * c := by
    rw [zl_mul, hd, hy]
    rw [hd, hy]
    omega
  rw [zl_sub (by rw [hm]; omega), hm, Int.emod_def, Int.mul_comm]
theorem n_ldivc {x y : Int64} {c : Int} (hd : decode cd pc = .ok (.ldiv, 1)) (hy : y.toInt = c) (hc : 0 < c) (hx : 0 ≤ x.toInt) (k : ∀ r : Int64, r.toInt = x.toInt / c → zR V cd ow (pc + 1) ls (.long r :: st) w b) : zR V cd ow pc ls (.long y :: .long x :: st) w b := r_ldiv hd (fun e => by rw [e] at hy; have : ((0 : Int64)).toInt = 0 := rfl; omega) (k _ (zl_divc hy hc hx))
theorem n_lremc {x y : Int64} {c : Int} (hd : decode cd pc = .ok (.lrem, 1)) (hy : y.toInt = c) (hc : 0 < c) (hx : 0 ≤ x.toInt) (k : ∀ r : Int64, r.toInt = x.toInt % c → zR V cd ow (pc + 1) ls (.long r :: st) w b) : zR V cd ow pc ls (.long y :: .long x :: st) w b := r_lrem hd (fun e => by rw [e] at hy; have : ((0 : Int64)).toInt = 0 := rfl; omega) (k _ (zl_remc hy hc hx))
theorem m_getV {ix ci k a : Nat} {x : Int32} (hf : zfl ow ix ci k) (ht : ztI (zft ci k) = true) (hd : decode cd pc = .ok (.getfield ix, 3)) (hk : zK w a = ci + 1) (hv : f a k = x) (kk : zR V cd ow (pc + 3) ls (.int x :: st) (zM w f j) b) : zR V cd ow pc ls (.ref a :: st) (zM w f j) b := r_getV (w := zM w f j) hf ht hd hk hv kk
theorem m_getR {ix ci k a q : Nat} (hf : zfl ow ix ci k) (ht : ztP (zft ci k) = true) (hd : decode cd pc = .ok (.getfield ix, 3)) (hk : zK w a = ci + 1) (hp : zP w a k = some q) (kk : zR V cd ow (pc + 3) ls (.ref q :: st) (zM w f j) b) : zR V cd ow pc ls (.ref a :: st) (zM w f j) b := r_getR (w := zM w f j) hf ht hd hk hp kk
theorem m_putI {ix ci k a : Nat} {x : Int32} (hf : zfl ow ix ci k) (hfin : ∀ C T N, vwCl[ci]? = some (C, T, N) → (T k).2.2.2 = false) (ht : zft ci k = .int) (hd : decode cd pc = .ok (.putfield ix, 3)) (hk : zK w a = ci + 1) (kk : zR V cd ow (pc + 3) ls st (zM w (zu f a k x) j) b) : zR V cd ow pc ls (.int x :: .ref a :: st) (zM w f j) b := r_putI (w := zM w f j) hf hfin ht hd hk kk
theorem m_putZ {ix ci k a : Nat} {x : Int32} (hf : zfl ow ix ci k) (hfin : ∀ C T N, vwCl[ci]? = some (C, T, N) → (T k).2.2.2 = false) (ht : zft ci k = .boolean) (h01 : x.toInt = 0 ∨ x.toInt = 1) (hd : decode cd pc = .ok (.putfield ix, 3)) (hk : zK w a = ci + 1) (kk : zR V cd ow (pc + 3) ls st (zM w (zu f a k x) j) b) : zR V cd ow pc ls (.int x :: .ref a :: st) (zM w f j) b := r_putZ (w := zM w f j) hf hfin ht (z01_of h01) hd hk kk
theorem m_iald {a n k : Nat} {i : Int32} {x : Int32} (hd : decode cd pc = .ok (.iaload, 1)) (hk : zK w a = 21) (hn : zN w a = n) (hi : i.toInt = (k : Nat)) (hlt : k < n) (hv : f a k = x) (kk : zR V cd ow (pc + 1) ls (.int x :: st) (zM w f j) b) : zR V cd ow pc ls (.int i :: .ref a :: st) (zM w f j) b := by
  refine r_iald (w := zM w f j) hd hk (by show vp_in i (zN w a); rw [hn]; exact zi_in (by omega) (by omega)) ?_
  rw [zcl_of hi]
  show zR V cd ow (pc + 1) ls (.int (f a k) :: st) (zM w f j) b
  rw [hv]
  exact kk
theorem m_bald {a n k : Nat} {i : Int32} {x : Int32} (hd : decode cd pc = .ok (.baload, 1)) (hk : zK w a = 22) (hn : zN w a = n) (hi : i.toInt = (k : Nat)) (hlt : k < n) (hv : f a k = x) (kk : zR V cd ow (pc + 1) ls (.int x :: st) (zM w f j) b) : zR V cd ow pc ls (.int i :: .ref a :: st) (zM w f j) b := by
  refine r_bald (w := zM w f j) hd hk (by show vp_in i (zN w a); rw [hn]; exact zi_in (by omega) (by omega)) ?_
  rw [zcl_of hi]
  show zR V cd ow (pc + 1) ls (.int (f a k) :: st) (zM w f j) b
  rw [hv]
  exact kk
theorem m_zald {a n k : Nat} {i : Int32} {x : Int32} (hd : decode cd pc = .ok (.baload, 1)) (hk : zK w a = 23) (hn : zN w a = n) (hi : i.toInt = (k : Nat)) (hlt : k < n) (hv : f a k = x) (kk : zR V cd ow (pc + 1) ls (.int x :: st) (zM w f j) b) : zR V cd ow pc ls (.int i :: .ref a :: st) (zM w f j) b := by
  refine r_zald (w := zM w f j) hd hk (by show vp_in i (zN w a); rw [hn]; exact zi_in (by omega) (by omega)) ?_
  rw [zcl_of hi]
  show zR V cd ow (pc + 1) ls (.int (f a k) :: st) (zM w f j) b
  rw [hv]
  exact kk
theorem m_lald {a n k : Nat} {i : Int32} {x : Int64} (hd : decode cd pc = .ok (.laload, 1)) (hk : zK w a = 25) (hn : zN w a = n) (hi : i.toInt = (k : Nat)) (hlt : k < n) (hv : j a k = x) (kk : zR V cd ow (pc + 1) ls (.long x :: st) (zM w f j) b) : zR V cd ow pc ls (.int i :: .ref a :: st) (zM w f j) b := by
  refine r_lald (w := zM w f j) hd hk (by show vp_in i (zN w a); rw [hn]; exact zi_in (by omega) (by omega)) ?_
  rw [zcl_of hi]
  show zR V cd ow (pc + 1) ls (.long (j a k) :: st) (zM w f j) b
  rw [hv]
  exact kk
theorem m_aald {a n k ci q : Nat} {i : Int32} (hd : decode cd pc = .ok (.aaload, 1)) (hk : zK w a = 30 + ci) (hn : zN w a = n) (hi : i.toInt = (k : Nat)) (hlt : k < n) (hv : zP w a k = some q) (kk : zR V cd ow (pc + 1) ls (.ref q :: st) (zM w f j) b) : zR V cd ow pc ls (.int i :: .ref a :: st) (zM w f j) b := by
  refine r_aald (w := zM w f j) hd hk (by show vp_in i (zN w a); rw [hn]; exact zi_in (by omega) (by omega)) ?_
  rw [zcl_of hi]
  show zR V cd ow (pc + 1) ls (va_rf (zP w a k) :: st) (zM w f j) b
  rw [hv]
  exact kk
theorem m_iast {a n k : Nat} {i : Int32} {x : Int32} (hd : decode cd pc = .ok (.iastore, 1)) (hk : zK w a = 21) (hn : zN w a = n) (hi : i.toInt = (k : Nat)) (hlt : k < n) (kk : zR V cd ow (pc + 1) ls st (zM w (zu f a k x) j) b) : zR V cd ow pc ls (.int x :: .int i :: .ref a :: st) (zM w f j) b := by
  refine r_iast (w := zM w f j) hd hk (by show vp_in i (zN w a); rw [hn]; exact zi_in (by omega) (by omega)) ?_
  rw [zcl_of hi]
  exact kk
theorem m_bast {a n k : Nat} {i : Int32} {x : Int32} (hd : decode cd pc = .ok (.bastore, 1)) (hk : zK w a = 22) (hn : zN w a = n) (hi : i.toInt = (k : Nat)) (hlt : k < n) (kk : zR V cd ow (pc + 1) ls st (zM w (zu f a k (vp_nar .byte x)) j) b) : zR V cd ow pc ls (.int x :: .int i :: .ref a :: st) (zM w f j) b := by
  refine r_bast (w := zM w f j) hd hk (by show vp_in i (zN w a); rw [hn]; exact zi_in (by omega) (by omega)) ?_
  rw [zcl_of hi]
  exact kk
theorem m_zast {a n k : Nat} {i : Int32} {x : Int32} (hd : decode cd pc = .ok (.bastore, 1)) (hk : zK w a = 23) (hn : zN w a = n) (hi : i.toInt = (k : Nat)) (hlt : k < n) (h01 : x.toInt = 0 ∨ x.toInt = 1) (kk : zR V cd ow (pc + 1) ls st (zM w (zu f a k x) j) b) : zR V cd ow pc ls (.int x :: .int i :: .ref a :: st) (zM w f j) b := by
  refine r_zast (w := zM w f j) hd hk (by show vp_in i (zN w a); rw [hn]; exact zi_in (by omega) (by omega)) ?_
  rw [zcl_of hi]
  rw [show vp_nar .boolean x = x from by rcases z01_of h01 with rfl | rfl <;> rfl]
  exact kk
theorem m_last {a n k : Nat} {i : Int32} {x : Int64} (hd : decode cd pc = .ok (.lastore, 1)) (hk : zK w a = 25) (hn : zN w a = n) (hi : i.toInt = (k : Nat)) (hlt : k < n) (kk : zR V cd ow (pc + 1) ls st (zM w f (zu j a k x)) b) : zR V cd ow pc ls (.long x :: .int i :: .ref a :: st) (zM w f j) b := by
  refine r_last (w := zM w f j) hd hk (by show vp_in i (zN w a); rw [hn]; exact zi_in (by omega) (by omega)) ?_
  rw [zcl_of hi]
  exact kk
theorem m_alen {a n : Nat} (hd : decode cd pc = .ok (.arraylength, 1)) (hk : 21 ≤ zK w a) (hn : zN w a = n) (hb : n < 2 ^ 31) (kk : ∀ r : Int32, r.toInt = (n : Nat) → zR V cd ow (pc + 1) ls (.int r :: st) (zM w f j) b) : zR V cd ow pc ls (.ref a :: st) (zM w f j) b := r_alen (w := zM w f j) hd hk (by rw [show zN (zM w f j) a = n from hn]; exact kk _ (zi_n hb))
theorem n_iinc0 {n : Int} {x : Int32} (hd : decode cd pc = .ok (.iinc 0 n, 3)) (hn : (Int32.ofInt n).toInt = n) (h : -2147483648 ≤ x.toInt + n ∧ x.toInt + n < 2147483648) (k : ∀ r : Int32, r.toInt = x.toInt + n → zR V cd ow (pc + 3) (some (.int r) :: ls) st w b) : zR V cd ow pc (some (.int x) :: ls) st w b := r_iinc0 hd rfl (k _ (by rw [zi_add (by rw [hn]; exact h), hn]))
theorem n_iinc1 {v0 : Option Value} {n : Int} {x : Int32} (hd : decode cd pc = .ok (.iinc 1 n, 3)) (hn : (Int32.ofInt n).toInt = n) (hc : zc1 v0 = true) (h : -2147483648 ≤ x.toInt + n ∧ x.toInt + n < 2147483648) (k : ∀ r : Int32, r.toInt = x.toInt + n → zR V cd ow (pc + 3) (v0 :: some (.int r) :: ls) st w b) : zR V cd ow pc (v0 :: some (.int x) :: ls) st w b := r_iinc1 hd rfl hc (k _ (by rw [zi_add (by rw [hn]; exact h), hn]))
theorem n_iinc2 {v0 v1 : Option Value} {n : Int} {x : Int32} (hd : decode cd pc = .ok (.iinc 2 n, 3)) (hn : (Int32.ofInt n).toInt = n) (hc : zc1 v1 = true) (h : -2147483648 ≤ x.toInt + n ∧ x.toInt + n < 2147483648) (k : ∀ r : Int32, r.toInt = x.toInt + n → zR V cd ow (pc + 3) (v0 :: v1 :: some (.int r) :: ls) st w b) : zR V cd ow pc (v0 :: v1 :: some (.int x) :: ls) st w b := r_iinc2 hd rfl hc (k _ (by rw [zi_add (by rw [hn]; exact h), hn]))
theorem n_iinc3 {v0 v1 v2 : Option Value} {n : Int} {x : Int32} (hd : decode cd pc = .ok (.iinc 3 n, 3)) (hn : (Int32.ofInt n).toInt = n) (hc : zc1 v2 = true) (h : -2147483648 ≤ x.toInt + n ∧ x.toInt + n < 2147483648) (k : ∀ r : Int32, r.toInt = x.toInt + n → zR V cd ow (pc + 3) (v0 :: v1 :: v2 :: some (.int r) :: ls) st w b) : zR V cd ow pc (v0 :: v1 :: v2 :: some (.int x) :: ls) st w b := r_iinc3 hd rfl hc (k _ (by rw [zi_add (by rw [hn]; exact h), hn]))
theorem n_iinc4 {v0 v1 v2 v3 : Option Value} {n : Int} {x : Int32} (hd : decode cd pc = .ok (.iinc 4 n, 3)) (hn : (Int32.ofInt n).toInt = n) (hc : zc1 v3 = true) (h : -2147483648 ≤ x.toInt + n ∧ x.toInt + n < 2147483648) (k : ∀ r : Int32, r.toInt = x.toInt + n → zR V cd ow (pc + 3) (v0 :: v1 :: v2 :: v3 :: some (.int r) :: ls) st w b) : zR V cd ow pc (v0 :: v1 :: v2 :: v3 :: some (.int x) :: ls) st w b := r_iinc4 hd rfl hc (k _ (by rw [zi_add (by rw [hn]; exact h), hn]))
theorem n_iinc5 {v0 v1 v2 v3 v4 : Option Value} {n : Int} {x : Int32} (hd : decode cd pc = .ok (.iinc 5 n, 3)) (hn : (Int32.ofInt n).toInt = n) (hc : zc1 v4 = true) (h : -2147483648 ≤ x.toInt + n ∧ x.toInt + n < 2147483648) (k : ∀ r : Int32, r.toInt = x.toInt + n → zR V cd ow (pc + 3) (v0 :: v1 :: v2 :: v3 :: v4 :: some (.int r) :: ls) st w b) : zR V cd ow pc (v0 :: v1 :: v2 :: v3 :: v4 :: some (.int x) :: ls) st w b := r_iinc5 hd rfl hc (k _ (by rw [zi_add (by rw [hn]; exact h), hn]))
theorem n_iinc6 {v0 v1 v2 v3 v4 v5 : Option Value} {n : Int} {x : Int32} (hd : decode cd pc = .ok (.iinc 6 n, 3)) (hn : (Int32.ofInt n).toInt = n) (hc : zc1 v5 = true) (h : -2147483648 ≤ x.toInt + n ∧ x.toInt + n < 2147483648) (k : ∀ r : Int32, r.toInt = x.toInt + n → zR V cd ow (pc + 3) (v0 :: v1 :: v2 :: v3 :: v4 :: v5 :: some (.int r) :: ls) st w b) : zR V cd ow pc (v0 :: v1 :: v2 :: v3 :: v4 :: v5 :: some (.int x) :: ls) st w b := r_iinc6 hd rfl hc (k _ (by rw [zi_add (by rw [hn]; exact h), hn]))
theorem n_iinc7 {v0 v1 v2 v3 v4 v5 v6 : Option Value} {n : Int} {x : Int32} (hd : decode cd pc = .ok (.iinc 7 n, 3)) (hn : (Int32.ofInt n).toInt = n) (hc : zc1 v6 = true) (h : -2147483648 ≤ x.toInt + n ∧ x.toInt + n < 2147483648) (k : ∀ r : Int32, r.toInt = x.toInt + n → zR V cd ow (pc + 3) (v0 :: v1 :: v2 :: v3 :: v4 :: v5 :: v6 :: some (.int r) :: ls) st w b) : zR V cd ow pc (v0 :: v1 :: v2 :: v3 :: v4 :: v5 :: v6 :: some (.int x) :: ls) st w b := r_iinc7 hd rfl hc (k _ (by rw [zi_add (by rw [hn]; exact h), hn]))
theorem n_iinc8 {v0 v1 v2 v3 v4 v5 v6 v7 : Option Value} {n : Int} {x : Int32} (hd : decode cd pc = .ok (.iinc 8 n, 3)) (hn : (Int32.ofInt n).toInt = n) (hc : zc1 v7 = true) (h : -2147483648 ≤ x.toInt + n ∧ x.toInt + n < 2147483648) (k : ∀ r : Int32, r.toInt = x.toInt + n → zR V cd ow (pc + 3) (v0 :: v1 :: v2 :: v3 :: v4 :: v5 :: v6 :: v7 :: some (.int r) :: ls) st w b) : zR V cd ow pc (v0 :: v1 :: v2 :: v3 :: v4 :: v5 :: v6 :: v7 :: some (.int x) :: ls) st w b := r_iinc8 hd rfl hc (k _ (by rw [zi_add (by rw [hn]; exact h), hn]))
theorem n_iinc9 {v0 v1 v2 v3 v4 v5 v6 v7 v8 : Option Value} {n : Int} {x : Int32} (hd : decode cd pc = .ok (.iinc 9 n, 3)) (hn : (Int32.ofInt n).toInt = n) (hc : zc1 v8 = true) (h : -2147483648 ≤ x.toInt + n ∧ x.toInt + n < 2147483648) (k : ∀ r : Int32, r.toInt = x.toInt + n → zR V cd ow (pc + 3) (v0 :: v1 :: v2 :: v3 :: v4 :: v5 :: v6 :: v7 :: v8 :: some (.int r) :: ls) st w b) : zR V cd ow pc (v0 :: v1 :: v2 :: v3 :: v4 :: v5 :: v6 :: v7 :: v8 :: some (.int x) :: ls) st w b := r_iinc9 hd rfl hc (k _ (by rw [zi_add (by rw [hn]; exact h), hn]))
theorem n_iinc10 {v0 v1 v2 v3 v4 v5 v6 v7 v8 v9 : Option Value} {n : Int} {x : Int32} (hd : decode cd pc = .ok (.iinc 10 n, 3)) (hn : (Int32.ofInt n).toInt = n) (hc : zc1 v9 = true) (h : -2147483648 ≤ x.toInt + n ∧ x.toInt + n < 2147483648) (k : ∀ r : Int32, r.toInt = x.toInt + n → zR V cd ow (pc + 3) (v0 :: v1 :: v2 :: v3 :: v4 :: v5 :: v6 :: v7 :: v8 :: v9 :: some (.int r) :: ls) st w b) : zR V cd ow pc (v0 :: v1 :: v2 :: v3 :: v4 :: v5 :: v6 :: v7 :: v8 :: v9 :: some (.int x) :: ls) st w b := r_iinc10 hd rfl hc (k _ (by rw [zi_add (by rw [hn]; exact h), hn]))
theorem n_iinc11 {v0 v1 v2 v3 v4 v5 v6 v7 v8 v9 v10 : Option Value} {n : Int} {x : Int32} (hd : decode cd pc = .ok (.iinc 11 n, 3)) (hn : (Int32.ofInt n).toInt = n) (hc : zc1 v10 = true) (h : -2147483648 ≤ x.toInt + n ∧ x.toInt + n < 2147483648) (k : ∀ r : Int32, r.toInt = x.toInt + n → zR V cd ow (pc + 3) (v0 :: v1 :: v2 :: v3 :: v4 :: v5 :: v6 :: v7 :: v8 :: v9 :: v10 :: some (.int r) :: ls) st w b) : zR V cd ow pc (v0 :: v1 :: v2 :: v3 :: v4 :: v5 :: v6 :: v7 :: v8 :: v9 :: v10 :: some (.int x) :: ls) st w b := r_iinc11 hd rfl hc (k _ (by rw [zi_add (by rw [hn]; exact h), hn]))
end ZMR
section ZMD
variable {g : zGT} {d : Nat} {hh : List (Nat × Nat × Nat × Nat)} {y : MethodName} {nL : Nat} {ret : Option FieldType} {bt : Nat × Nat} {Q : Option Value → zW → Prop} {QX : String → zW → Prop}
variable {cd : ByteArray} {ow : String} {pc : Nat} {ls : List (Option Value)} {w : zW} {b : Nat × Nat}
theorem m_zret {x : Int32} (hd : decode cd pc = .ok (.ireturn, 1)) (hr : ret = some .boolean) (h01 : x.toInt = 0 ∨ x.toInt = 1) (h1 : b.1 ≤ bt.1) (h2 : b.2 ≤ bt.2) (hq : Q (some (.int x)) w) : zR (zVh g d hh y nL ret bt Q QX) cd ow pc ls [.int x] w b := r_zret hd hr (z01_of h01) h1 h2 hq
end ZMD
