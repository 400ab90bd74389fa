/-! branches by the integers -/
section ZT9
variable {V : zVT} {cd : ByteArray} {ow : String} {pc : Nat} {ls : List (Option Value)} {st : List Value} {w : zW} {b : Nat × Nat}
theorem t_iceq {x y : Int32} {off : Int} {t : Nat} (hd : decode cd pc = .ok (.if_icmp .eq off, 3)) (ht : (pc : Int) + off = (t : Int)) (kt : x.toInt = y.toInt → zR V cd ow t ls st w b) (kf : x.toInt ≠ y.toInt → zR V cd ow (pc + 3) ls st w b) : zR V cd ow pc ls (.int y :: .int x :: st) w b := r_iceq hd ht (fun h => kt (zi_eq.mp h)) (fun h => kf (fun e => h (zi_eq.mpr e)))
theorem t_ifeq {x : Int32} {off : Int} {t : Nat} (hd : decode cd pc = .ok (.ifCond .eq off, 3)) (ht : (pc : Int) + off = (t : Int)) (kt : x.toInt = 0 → zR V cd ow t ls st w b) (kf : x.toInt ≠ 0 → zR V cd ow (pc + 3) ls st w b) : zR V cd ow pc ls (.int x :: st) w b := r_ifeq hd ht (fun h => kt (zi_eq.mp h)) (fun h => kf (fun e => h (zi_eq.mpr e)))
theorem t_icne {x y : Int32} {off : Int} {t : Nat} (hd : decode cd pc = .ok (.if_icmp .ne off, 3)) (ht : (pc : Int) + off = (t : Int)) (kt : x.toInt ≠ y.toInt → zR V cd ow t ls st w b) (kf : x.toInt = y.toInt → zR V cd ow (pc + 3) ls st w b) : zR V cd ow pc ls (.int y :: .int x :: st) w b := r_icne hd ht (fun h => kt (fun e => h (zi_eq.mpr e))) (fun h => kf (zi_eq.mp h))
theorem t_ifne {x : Int32} {off : Int} {t : Nat} (hd : decode cd pc = .ok (.ifCond .ne off, 3)) (ht : (pc : Int) + off = (t : Int)) (kt : x.toInt ≠ 0 → zR V cd ow t ls st w b) (kf : x.toInt = 0 → zR V cd ow (pc + 3) ls st w b) : zR V cd ow pc ls (.int x :: st) w b := r_ifne hd ht (fun h => kt (fun e => h (zi_eq.mpr e))) (fun h => kf (zi_eq.mp h))
theorem t_iclt {x y : Int32} {off : Int} {t : Nat} (hd : decode cd pc = .ok (.if_icmp .lt off, 3)) (ht : (pc : Int) + off = (t : Int)) (kt : x.toInt < y.toInt → zR V cd ow t ls st w b) (kf : y.toInt ≤ x.toInt → zR V cd ow (pc + 3) ls st w b) : zR V cd ow pc ls (.int y :: .int x :: st) w b := r_iclt hd ht (fun h => kt (zi_lt.mp h)) (fun h => kf (Int.not_lt.mp (fun e => h (zi_lt.mpr e))))
theorem t_iflt {x : Int32} {off : Int} {t : Nat} (hd : decode cd pc = .ok (.ifCond .lt off, 3)) (ht : (pc : Int) + off = (t : Int)) (kt : x.toInt < 0 → zR V cd ow t ls st w b) (kf : 0 ≤ x.toInt → zR V cd ow (pc + 3) ls st w b) : zR V cd ow pc ls (.int x :: st) w b := r_iflt hd ht (fun h => kt (zi_lt.mp h)) (fun h => kf (Int.not_lt.mp (fun e => h (zi_lt.mpr e))))
theorem t_icge {x y : Int32} {off : Int} {t : Nat} (hd : decode cd pc = .ok (.if_icmp .ge off, 3)) (ht : (pc : Int) + off = (t : Int)) (kt : y.toInt ≤ x.toInt → zR V cd ow t ls st w b) (kf : x.toInt < y.toInt → zR V cd ow (pc + 3) ls st w b) : zR V cd ow pc ls (.int y :: .int x :: st) w b := r_icge hd ht (fun h => kt (zi_le.mp h)) (fun h => kf (Int.not_le.mp (fun e => h (zi_le.mpr e))))
theorem t_ifge {x : Int32} {off : Int} {t : Nat} (hd : decode cd pc = .ok (.ifCond .ge off, 3)) (ht : (pc : Int) + off = (t : Int)) (kt : 0 ≤ x.toInt → zR V cd ow t ls st w b) (kf : x.toInt < 0 → zR V cd ow (pc + 3) ls st w b) : zR V cd ow pc ls (.int x :: st) w b := r_ifge hd ht (fun h => kt (zi_le.mp h)) (fun h => kf (Int.not_le.mp (fun e => h (zi_le.mpr e))))
theorem t_icgt {x y : Int32} {off : Int} {t : Nat} (hd : decode cd pc = .ok (.if_icmp .gt off, 3)) (ht : (pc : Int) + off = (t : Int)) (kt : y.toInt < x.toInt → zR V cd ow t ls st w b) (kf : x.toInt ≤ y.toInt → zR V cd ow (pc + 3) ls st w b) : zR V cd ow pc ls (.int y :: .int x :: st) w b := r_icgt hd ht (fun h => kt (zi_lt.mp h)) (fun h => kf (Int.not_lt.mp (fun e => h (zi_lt.mpr e))))
theorem t_ifgt {x : Int32} {off : Int} {t : Nat} (hd : decode cd pc = .ok (.ifCond .gt off, 3)) (ht : (pc : Int) + off = (t : Int)) (kt : 0 < x.toInt → zR V cd ow t ls st w b) (kf : x.toInt ≤ 0 → zR V cd ow (pc + 3) ls st w b) : zR V cd ow pc ls (.int x :: st) w b := r_ifgt hd ht (fun h => kt (zi_lt.mp h)) (fun h => kf (Int.not_lt.mp (fun e => h (zi_lt.mpr e))))
theorem t_icle {x y : Int32} {off : Int} {t : Nat} (hd : decode cd pc = .ok (.if_icmp .le off, 3)) (ht : (pc : Int) + off = (t : Int)) (kt : x.toInt ≤ y.toInt → zR V cd ow t ls st w b) (kf : y.toInt < x.toInt → zR V cd ow (pc + 3) ls st w b) : zR V cd ow pc ls (.int y :: .int x :: st) w b := r_icle hd ht (fun h => kt (zi_le.mp h)) (fun h => kf (Int.not_le.mp (fun e => h (zi_le.mpr e))))
theorem t_ifle {x : Int32} {off : Int} {t : Nat} (hd : decode cd pc = .ok (.ifCond .le off, 3)) (ht : (pc : Int) + off = (t : Int)) (kt : x.toInt ≤ 0 → zR V cd ow t ls st w b) (kf : 0 < x.toInt → zR V cd ow (pc + 3) ls st w b) : zR V cd ow pc ls (.int x :: st) w b := r_ifle hd ht (fun h => kt (zi_le.mp h)) (fun h => kf (Int.not_le.mp (fun e => h (zi_le.mpr e))))
theorem r_getV {ix ci k a : Nat} {x : Int32} (hf : zfl ow ix ci k) (ht : ztI (zft ci k) = true) (hd : decode cd pc = .ok (.getfield ix, 3)) (hk : zK w a = ci + 1) (hv : zI w a k = x) (kk : zR V cd ow (pc + 3) ls (.int x :: st) w b) : zR V cd ow pc ls (.ref a :: st) w b := r_get hf hd hk (by rw [zfv_I ht, hv]) kk
theorem r_ialdV {a : Nat} {i x : Int32} (hd : decode cd pc = .ok (.iaload, 1)) (hk : zK w a = 21) (hi : vp_in i (zN w a)) (hv : zI w a i.toNatClampNeg = x) (kk : zR V cd ow (pc + 1) ls (.int x :: st) w b) : zR V cd ow pc ls (.int i :: .ref a :: st) w b := r_iald hd hk hi (by rw [hv]; exact kk)
theorem r_baldV {a : Nat} {i x : Int32} (hd : decode cd pc = .ok (.baload, 1)) (hk : zK w a = 22) (hi : vp_in i (zN w a)) (hv : zI w a i.toNatClampNeg = x) (kk : zR V cd ow (pc + 1) ls (.int x :: st) w b) : zR V cd ow pc ls (.int i :: .ref a :: st) w b := r_bald hd hk hi (by rw [hv]; exact kk)
theorem r_zaldV {a : Nat} {i x : Int32} (hd : decode cd pc = .ok (.baload, 1)) (hk : zK w a = 23) (hi : vp_in i (zN w a)) (hv : zI w a i.toNatClampNeg = x) (kk : zR V cd ow (pc + 1) ls (.int x :: st) w b) : zR V cd ow pc ls (.int i :: .ref a :: st) w b := r_zald hd hk hi (by rw [hv]; exact kk)
theorem r_laldV {a : Nat} {i : Int32} {x : Int64} (hd : decode cd pc = .ok (.laload, 1)) (hk : zK w a = 25) (hi : vp_in i (zN w a)) (hv : zJ w a i.toNatClampNeg = x) (kk : zR V cd ow (pc + 1) ls (.long x :: st) w b) : zR V cd ow pc ls (.int i :: .ref a :: st) w b := r_lald hd hk hi (by rw [hv]; exact kk)
theorem r_aaldV {a ci : Nat} {i : Int32} {q : Option Nat} (hd : decode cd pc = .ok (.aaload, 1)) (hk : zK w a = 30 + ci) (hi : vp_in i (zN w a)) (hv : zP w a i.toNatClampNeg = q) (kk : zR V cd ow (pc + 1) ls (va_rf q :: st) w b) : zR V cd ow pc ls (.int i :: .ref a :: st) w b := r_aald hd hk hi (by rw [hv]; exact kk)
theorem zu_ne2 {α : Type} {f : Nat → Nat → α} {a i q j : Nat} {x : α} (h : q ≠ a) : zu f a i x q j = f q j := by rw [zu_ne h]
end ZT9
/-! System.arraycopy between two rows of ints -/
section ZCP
variable {V : zVT} {cd : ByteArray} {ow : String} {pc : Nat} {ls : List (Option Value)} {st : List Value} {w : zW} {b : Nat × Nat}
theorem r_copyI {ix a0 a : Nat} {sp dp n : Int32} (hl : Cond.methodLink ow ix arraycopyName ∈ zT) (hnat : Cond.native arraycopyName ∈ zT) (hstat : Cond.static arraycopyName ∈ zT) (hini : Cond.initialized "java/lang/System" ∈ zT) (hd : decode cd pc = .ok (.invokestatic ix, 3))
    (hk0 : zK w a0 = 21) (hk : zK w a = 21) (h1 : ¬ sp < 0) (h2 : ¬ dp < 0) (h3 : ¬ n < 0) (h4 : sp.toNatClampNeg + n.toNatClampNeg ≤ zN w a0) (h5 : dp.toNatClampNeg + n.toNatClampNeg ≤ zN w a) (hfr : 1 ≤ V.2.2.2.2.1.frames) (hlo : (st.map fun v => v.category).sum + (nativeFrameWords "java/lang/System" "arraycopy" 5 + 11) ≤ V.2.2.2.2.1.locals)
    (kk : zR V cd ow (pc + 3) ls st (zsI w (zr (zI w) a (va_cpy (zI w a0) (zI w a) sp.toNatClampNeg dp.toNatClampNeg n.toNatClampNeg))) b) : zR V cd ow pc ls (.int n :: .int dp :: .ref a :: .int sp :: .ref a0 :: st) w b := by
  intro p e s m args below meth c C H locs lsA hL hH hS
  have hts := C.2.2.2.2.1
  have nn : ∀ z : Int32, ¬ z < 0 → z.toInt = (z.toNatClampNeg : Int) := by
    intro z hz
    have hz0 : (0 : Int) ≤ z.toInt := Int.not_lt.mp (fun e => hz (zi_lt.mpr e))
    have := Int32.toNat_toInt z
    omega
  obtain ⟨c0, p1, p2⟩ := zat_arr (hH.1 a0) (by omega)
  obtain ⟨c1, q1, q2⟩ := zat_arr (hH.1 a) (by omega)
  have q1' := q1
  rw [show zty (zK w a0) = .int by rw [hk0]; rfl] at p1
  rw [show zty (zK w a) = .int by rw [hk]; rfl] at q1
  have e0 : zar w a0 = (zN w a0, .inl (zI w a0)) := by unfold zar; rw [if_pos (by omega)]
  have e1 : zar w a = (zN w a, .inl (zI w a)) := by unfold zar; rw [if_pos (by omega)]
  rw [e0] at p2
  rw [e1] at q2
  obtain ⟨-, k0, hk0', cm0, hkk0⟩ := p1.1 (zN w a0) (fun j => .int (zI w a0 j))
  obtain ⟨-, k1, hk1', cm1, hkk1⟩ := q1.1 (zN w a) (fun j => .int (zI w a j))
  intro T hT X
  obtain ⟨vm', X', step⟩ := X.arraycopy C.1 C.2.2.2.1 (hts _ hl) (hts _ hnat) (hts _ hstat) (hts _ hini) (src := a0) (dst := a) (cs := vp_cell c0 (zN w a0, .inl (zI w a0))) (cd := vp_cell c1 (zN w a, .inl (zI w a))) (srcPos := sp) (destPos := dp) (n := n) (by rw [hT]; exact p2) (by rw [hT]; exact q2)
    (fun _ h => by cases h) (fun _ h => by cases h) (fun h => by cases h) (fun h => by cases h) hk0' hk1' hkk0 hkk1 (by simp [refKind]) h1 h2 h3
    (by rw [nn sp h1, nn n h3]; show ¬ _ > ((arrV c0 (zN w a0) (fun j => .int (zI w a0 j))).slots.size : Int); rw [arrV_size]; omega)
    (by rw [nn dp h2, nn n h3]; show ¬ _ > ((arrV c1 (zN w a) (fun j => .int (zI w a j))).slots.size : Int); rw [arrV_size]; omega)
    (fun vm₁ _ i hi => by
      have e : (vp_cell c0 (zN w a0, .inl (zI w a0))).slots.getD (sp.toNatClampNeg + i) .null = .int (zI w a0 (sp.toNatClampNeg + i)) := by
        show (arrV c0 (zN w a0) (fun j => .int (zI w a0 j))).slots.getD _ _ = _
        rw [Array.getD_eq_getD_getElem?, arrV_read _ _ (by omega)]
        rfl
      refine ⟨?_, ?_⟩
      · rw [e]
        rfl
      · rw [e]
        exact trivial)
    (g := F0 m pc lsA (.int n :: .int dp :: .ref a :: .int sp :: .ref a0 :: st)) rfl (hL.1.trans C.2.2.1.symm) (rest := st) rfl (by rw [C.2.1]; exact hd) hfr (by show 2 * 0 + _ + _ ≤ _; omega)
  have e1 : copied (vp_cell c0 (zN w a0, .inl (zI w a0))) (vp_cell c1 (zN w a, .inl (zI w a))) sp dp n = vp_cell c1 (zN w a, .inl (va_cpy (zI w a0) (zI w a) sp.toNatClampNeg dp.toNatClampNeg n.toNatClampNeg)) := va_copied (fun z => .int z) c0 c1 (zI w a0) (zI w a) h4
  rw [e1] at X' step
  have hlt : a < H.size := (Array.getElem?_eq_some_iff.mp q2).1
  have hheap : ((T.setVm vm').setCell a (vp_cell c1 (zN w a, .inl (va_cpy (zI w a0) (zI w a) sp.toNatClampNeg dp.toNatClampNeg n.toNatClampNeg)))).heap = H.setIfInBounds a (vp_cell c1 (zN w a, .inl (va_cpy (zI w a0) (zI w a) sp.toNatClampNeg dp.toNatClampNeg n.toNatClampNeg))) := by rw [← hT]; rfl
  have oq : ∀ q : Nat, q ≠ a → (H.setIfInBounds a (vp_cell c1 (zN w a, .inl (va_cpy (zI w a0) (zI w a) sp.toNatClampNeg dp.toNatClampNeg n.toNatClampNeg))))[q]? = H[q]? := fun q hq => by simp [Array.getElem?_setIfInBounds, Ne.symm hq]
  have hB : V.2.2.1 ≤ a := hH.2.1 a (by omega)
  have hz : (H.setIfInBounds a (vp_cell c1 (zN w a, .inl (va_cpy (zI w a0) (zI w a) sp.toNatClampNeg dp.toNatClampNeg n.toNatClampNeg)))).size = H.size := by simp
  obtain ⟨t, a1, b1⟩ := kk p e s m args below meth c C _ _ lsA hL (zH_put (a := a) hH rfl rfl rfl (fun q h => zr_ne h) (fun _ _ => rfl) (fun _ _ => rfl) hz oq (zat_arrI (w := w) (n := zN w a) (f := va_cpy (zI w a0) (zI w a) sp.toNatClampNeg dp.toNatClampNeg n.toNatClampNeg) rfl (by omega) (by omega) rfl zr_self q1' (by simp [hlt])))
    ⟨by rw [hz]; exact hS.1, fun q g1 g2 => by rw [oq q (fun e => g2 (by rw [e]; exact hB))]; exact hS.2.1 q g1 g2, fun q hq => by
      rcases List.mem_append.mp hq with h | h
      · exact hS.2.2 q h
      · obtain ⟨z, -, hz⟩ := List.mem_map.mp h
        rw [← hz]
        exact hB⟩ _ hheap X'
  exact ⟨t, step t a1, b1⟩
end ZCP
