/-! the rows that read and write the world -/
theorem zat_keep {D : va_G} {U : State} {w : zW} {a : Nat} {H H1 : Heap} (h : zat D U w a H) (hq : H1[a]? = H[a]?) : zat D U w a H1 := by
  unfold zat at h ⊢
  split
  · trivial
  · rename_i h0
    rw [if_neg h0] at h
    split
    · rename_i h1
      rw [if_pos h1] at h
      exact h.kept hq
    · rename_i h1
      rw [if_neg h1] at h
      obtain ⟨cA, h2, h3⟩ := h
      exact ⟨cA, h2, hq.trans h3⟩
theorem zfs_congr {w w2 : zW} {a ci : Nat} (hi : zI w2 a = zI w a) (hj : zJ w2 a = zJ w a) (hp : zP w2 a = zP w a) : zfs w2 a ci = zfs w a ci := by
  unfold zfs
  congr 1
  funext k
  unfold zfv
  rw [hi, hj, hp]
theorem zat_congr {D : va_G} {U : State} {w w2 : zW} {a : Nat} {H : Heap} (h : zat D U w a H) (hk : zK w2 a = zK w a) (hn : zN w2 a = zN w a) (hi : zI w2 a = zI w a) (hj : zJ w2 a = zJ w a) (hp : zP w2 a = zP w a) : zat D U w2 a H := by
  unfold zat at h ⊢
  rw [hk, zfs_congr hi hj hp]
  have e : zar w2 a = zar w a := by
    unfold zar
    rw [hk, hn, hi, hj, hp]
  rw [e]
  exact h
theorem zat_moved {D : va_G} {u U : State} {w : zW} {a : Nat} {H : Heap} (hvm : u.vm.Alike U.vm) (h : zat D u w a H) : zat D U w a H := by
  unfold zat at h ⊢
  split
  · trivial
  · rename_i h0
    rw [if_neg h0] at h
    split
    · rename_i h1
      rw [if_pos h1] at h
      exact h
    · rename_i h1
      rw [if_neg h1] at h
      obtain ⟨cA, h2, h3⟩ := h
      exact ⟨cA, ⟨arrOfT_moved hvm h2.1, h2.2.moved hvm⟩, h3⟩
theorem zH_moved {D : va_G} {B : Nat} {w : zW} {u U : State} {H : Heap} (hvm : u.vm.Alike U.vm) (h : zH D B w u H) : zH D B w U H := ⟨fun a => zat_moved hvm (h.1 a), h.2⟩
/-- a field's link: the class of ci, its k-th field, under the number ix of the class ow -/
def zfl (ow : String) (ix ci k : Nat) : Prop := ∃ (C : String) (T : u_T) (N : Nat), vwCl[ci]? = some (C, T, N) ∧ k < N ∧ ci < 20 ∧ Cond.fieldLink ow ix (T k).1 (T k).2.1 (T k).2.2.1 ∈ zT ∧ (∀ w ∈ u_ws C T N, w ∈ zT) ∧ (∀ j, j < N → parseFieldDescriptor (T j).2.2.1 = some (zft ci j)) ∧ (∀ a, a < N → ∀ b, b < N → a ≠ b → (T a).2.1 ≠ (T b).2.1)
theorem zfs_at {w : zW} {a ci k N : Nat} {C : String} {T : u_T} (hc : vwCl[ci]? = some (C, T, N)) (hk : k < N) : (zfs w a ci)[k]? = some (zfv w a ci k) := by
  have hN : zcf ci = N := by
    unfold zcf
    rw [hc]
    rfl
  unfold zfs
  rw [hN, List.getElem?_map, List.getElem?_range hk]
  rfl
theorem zfs_len {w : zW} {a ci N : Nat} {C : String} {T : u_T} (hc : vwCl[ci]? = some (C, T, N)) : (zfs w a ci).length = N := by
  have hN : zcf ci = N := by
    unfold zcf
    rw [hc]
    rfl
  unfold zfs
  rw [List.length_map, List.length_range, hN]
theorem zat_obj {D : va_G} {U : State} {w : zW} {a ci : Nat} {H : Heap} (h : zat D U w a H) (hk : zK w a = ci + 1) (hci : ci < 20) : va_at D vwCl (a, .inr (ci, zfs w a ci)) H := by
  unfold zat at h
  rw [if_neg (by omega), if_pos (by omega), show zK w a - 1 = ci by omega] at h
  exact h
theorem zat_arr {D : va_G} {U : State} {w : zW} {a : Nat} {H : Heap} (h : zat D U w a H) (hk : 21 ≤ zK w a) : ∃ cA : ClassId, (ArrOfT U cA (zty (zK w a)) ∧ va_RA U cA (zty (zK w a))) ∧ H[a]? = some (vp_cell cA (zar w a)) := by
  unfold zat at h
  rw [if_neg (by omega), if_neg (by omega)] at h
  exact h
theorem zP1 {D : va_G} {cl : List vw_C} {a : Nat} {e : va_E} {H : Heap} (h : va_at D cl (a, e) H) : va_P D cl [(a, e)] H := by
  intro k q hk
  have hz : k < 1 := (List.getElem?_eq_some_iff.mp hk).1
  rw [show k = 0 by omega] at hk
  cases hk
  exact h
theorem zK1 {D : va_G} {U : State} {cA : ClassId} {ty : FieldType} (h : va_K D vwCl [] U) (h2 : ArrOfT U cA ty ∧ va_RA U cA ty) : va_K D vwCl [(cA, ty)] U := by
  refine ⟨h.1, fun k q hk => ?_⟩
  have hz : k < 1 := (List.getElem?_eq_some_iff.mp hk).1
  rw [show k = 0 by omega] at hk
  cases hk
  exact h2
section ZH
variable {V : zVT} {cd : ByteArray} {ow : String} {pc : Nat} {ls : List (Option Value)} {st : List Value} {w : zW} {b : Nat × Nat}
theorem zCx_hK {p : Program} {s : State} {m : MethodId} {args : Array Value} {meth : Method} {c : Code} (C : zCx V cd ow p s m args meth c) : va_K V.2.1 vwCl [] s := C.2.2.2.2.2.2.2.2.2.1
/-- getfield -/
theorem r_get {ix ci k a : Nat} {v : Value} (hf : zfl ow ix ci k) (hd : decode cd pc = .ok (.getfield ix, 3)) (hk : zK w a = ci + 1) (hv : zfv w a ci k = v) (kk : zR V cd ow (pc + 3) ls (v :: st) w b) : zR V cd ow pc ls (.ref a :: st) w b := by
  intro p e s m args below meth c C H locs lsA hL hH hS
  obtain ⟨Cn, T, N, hc, hkN, hci, hlink, hin, -, -⟩ := hf
  have hat := zat_obj (hH.1 a) hk hci
  exact va_get C.1 C.2.1 C.2.2.2.2.1 hin C.2.2.2.1 (zCx_hK C) (zP1 hat) 0 rfl hc k hkN (C.2.2.2.2.1 _ hlink) (fun _ h => h) (by rw [zfs_at hc hkN, hv]) hd (kk p e s m args below meth c C H locs lsA hL hH hS)
/-- what a store leaves: the cell a is new, the others as they were -/
theorem zH_put {D : va_G} {B : Nat} {w w2 : zW} {U : State} {H H1 : Heap} {a : Nat} (h : zH D B w U H) (hk : zK w2 = zK w) (hn : zN w2 = zN w) (hs : zS w2 = zS w) (hi : ∀ q, q ≠ a → zI w2 q = zI w q) (hj : ∀ q, q ≠ a → zJ w2 q = zJ w q) (hp : ∀ q, q ≠ a → zP w2 q = zP w q) (hz : H1.size = H.size) (oq : ∀ q : Nat, q ≠ a → H1[q]? = H[q]?) (ha : zat D U w2 a H1) : zH D B w2 U H1 := by
  refine ⟨fun q => ?_, fun q hq => h.2.1 q (by rw [← hk]; exact hq), by rw [hs, hz]; exact h.2.2⟩
  by_cases hqa : q = a
  · rw [hqa]; exact ha
  · exact zat_congr (zat_keep (h.1 q) (oq q hqa)) (by rw [hk]) (by rw [hn]) (hi q hqa) (hj q hqa) (hp q hqa)
/-- putfield, any value; the new world by its rows -/
theorem r_putg {ix ci k a : Nat} {v : Value} {w2 : zW} (hf : zfl ow ix ci k) (hfin : ∀ C T N, vwCl[ci]? = some (C, T, N) → (T k).2.2.2 = false) (hd : decode cd pc = .ok (.putfield ix, 3)) (hk : zK w a = ci + 1) (hn : narrow (zft ci k) v = v) (hfit : fits (zft ci k) v = true)
    (e1 : zK w2 = zK w) (e2 : zN w2 = zN w) (e3 : zS w2 = zS w) (e4 : ∀ q, q ≠ a → zI w2 q = zI w q) (e5 : ∀ q, q ≠ a → zJ w2 q = zJ w q) (e6 : ∀ q, q ≠ a → zP w2 q = zP w q) (e7 : zfs w2 a ci = (zfs w a ci).set k v)
    (kk : zR V cd ow (pc + 3) ls st w2 b) : zR V cd ow pc ls (v :: .ref a :: st) w b := by
  intro p e s m args below meth c C H locs lsA hL hH hS
  obtain ⟨Cn, T, N, hc, hkN, hci, hlink, hin, hty, hnm⟩ := hf
  have hat := zat_obj (hH.1 a) hk hci
  have hts := C.2.2.2.2.1
  have hown := C.2.2.2.1
  have hK := zCx_hK C
  have hap := va_apart (own := ow) hts hin (zft ci) hty hnm hK hc
  obtain ⟨r, h1, cell, q1, q2, q3, q4⟩ := hat
  have hr : r = (Cn, T, N) := Option.some.inj (h1.symm.trans hc)
  subst hr
  obtain ⟨hS1, hfc, kC, hkC, hkind⟩ := hK.1 ci _ hc
  obtain ⟨cf, kf, fi, f, hi, hsl⟩ := hS1 k hkN
  have hlay := hts _ (hin _ (u_in_lay hkN))
  unfold u_lay at hlay
  rw [if_neg (by rw [hfin _ _ _ hc]; decide)] at hlay
  have hst := (u_facts hfc hkC (u_lays hts hin hkN) hi).1
  have h6 := u_store hfc hkC hkind hlay hi (hty k hkN) hn hfit
  refine W.putK C.1 C.2.1 (f := f) ⟨hown, hts _ hlink, ⟨_, _, _, hi⟩, hst⟩ (by rw [q2]; exact h6) q1 q3 (by rw [hsl]; exact k2_hasslot (q4 k hkN)) rfl rfl hd fun H' x1 x2 x3 => ?_
  rw [hsl] at x1 ⊢
  refine kk p e s m args below meth c C H' _ lsA hL (zH_put hH e1 e2 e3 e4 e5 e6 x2 x3 ?_) (hS.put x2 x3 (hH.2.1 a (by rw [hk]; omega)))
  have hk2 : zK w2 a = ci + 1 := by rw [e1]; exact hk
  unfold zat
  rw [if_neg (by omega), if_pos (by omega), show zK w2 a - 1 = ci by omega, e7]
  exact ⟨_, hc, t_OB.to (V := updV (vp_V (zfs w a ci)) k v) ⟨_, x1, q2, q3, t_set q4 hap hkN v⟩ (fun j _ => vp_updV_set (by rw [zfs_len hc]; exact hkN) v j)⟩
/-- a final field, in a constructor -/
theorem r_putF {ix ci k a : Nat} {v : Value} {w2 : zW} (hf : zfl ow ix ci k) (hfin : ∀ C T N, vwCl[ci]? = some (C, T, N) → (T k).2.2.2 = true ∧ (T k).1 = ow) (hnm9 : V.2.2.2.2.2.2.2.1 = "<init>") (hd : decode cd pc = .ok (.putfield ix, 3)) (hk : zK w a = ci + 1) (hn : narrow (zft ci k) v = v) (hfit : fits (zft ci k) v = true)
    (e1 : zK w2 = zK w) (e2 : zN w2 = zN w) (e3 : zS w2 = zS w) (e4 : ∀ q, q ≠ a → zI w2 q = zI w q) (e5 : ∀ q, q ≠ a → zJ w2 q = zJ w q) (e6 : ∀ q, q ≠ a → zP w2 q = zP w q) (e7 : zfs w2 a ci = (zfs w a ci).set k v)
    (kk : zR V cd ow (pc + 3) ls st w2 b) : zR V cd ow pc ls (v :: .ref a :: st) w b := by
  intro p e s m args below meth c C H locs lsA hL hH hS
  obtain ⟨Cn, T, N, hc, hkN, hci, hlink, hin, hty, hnm⟩ := hf
  have hat := zat_obj (hH.1 a) hk hci
  have hts := C.2.2.2.2.1
  have hown := C.2.2.2.1
  have hK := zCx_hK C
  have hap := va_apart (own := ow) hts hin (zft ci) hty hnm hK hc
  obtain ⟨r, h1, cell, q1, q2, q3, q4⟩ := hat
  have hr : r = (Cn, T, N) := Option.some.inj (h1.symm.trans hc)
  subst hr
  obtain ⟨hS1, hfc, kC, hkC, hkind⟩ := hK.1 ci _ hc
  obtain ⟨cf, kf, fi, f, hi, hsl⟩ := hS1 k hkN
  have hlay := hts _ (hin _ (u_in_lay hkN))
  unfold u_lay at hlay
  rw [if_pos (hfin _ _ _ hc).1] at hlay
  have hst := (u_facts hfc hkC (u_lays hts hin hkN) hi).1
  have hcf : m.cls = cf := by
    obtain ⟨_, _, c', _, _, _, -, -, hf', -, -, -, hown2, -⟩ := Cond.laysFinal_spec hlay
    have e1 : c' = cf := by have := hi.symm.trans hf'; simp at this; exact this.1.symm
    rw [(hfin _ _ _ hc).2] at hown2
    rw [← e1]; exact Option.some.inj (hown.symm.trans hown2)
  have h6 := u_fits hfc hkC hkind (Or.inr hlay) hi (hty k hkN) hn hfit
  refine W.putFinK C.1 C.2.1 hown (hts _ hlink) hi hst hcf (C.2.2.2.2.2.2.2.2.1.trans hnm9) (by rw [q2]; exact h6) q1 q3 (by rw [hsl]; exact k2_hasslot (q4 k hkN)) rfl rfl hd fun H' x1 x2 x3 => ?_
  rw [hsl] at x1 ⊢
  refine kk p e s m args below meth c C H' _ lsA hL (zH_put hH e1 e2 e3 e4 e5 e6 x2 x3 ?_) (hS.put x2 x3 (hH.2.1 a (by rw [hk]; omega)))
  have hk2 : zK w2 a = ci + 1 := by rw [e1]; exact hk
  unfold zat
  rw [if_neg (by omega), if_pos (by omega), show zK w2 a - 1 = ci by omega, e7]
  exact ⟨_, hc, t_OB.to (V := updV (vp_V (zfs w a ci)) k v) ⟨_, x1, q2, q3, t_set q4 hap hkN v⟩ (fun j _ => vp_updV_set (by rw [zfs_len hc]; exact hkN) v j)⟩
theorem zu_ne {α : Type} {f : Nat → Nat → α} {a i q : Nat} {x : α} (h : q ≠ a) : zu f a i x q = f q := by
  funext j
  unfold zu
  rw [if_neg (fun e => h e.1)]
theorem zu_self {α : Type} {f : Nat → Nat → α} {a i : Nat} {x : α} : zu f a i x a = fun j => if j = i then x else f a j := by
  funext j
  unfold zu
  by_cases h : j = i
  · rw [if_pos ⟨rfl, h⟩, if_pos h]
  · rw [if_neg (fun e => h e.2), if_neg h]
theorem zfs_set {w w2 : zW} {a ci k N : Nat} {C : String} {T : u_T} {v : Value} (hc : vwCl[ci]? = some (C, T, N)) (hk : zfv w2 a ci k = v) (ho : ∀ j, j ≠ k → zfv w2 a ci j = zfv w a ci j) : zfs w2 a ci = (zfs w a ci).set k v := by
  apply List.ext_getElem?
  intro j
  unfold zfs
  rw [List.getElem?_set, List.getElem?_map, List.getElem?_map]
  by_cases hjk : k = j
  · subst hjk
    by_cases hl : k < zcf ci
    · rw [if_pos rfl, if_pos (by rw [List.length_map, List.length_range]; exact hl), List.getElem?_range hl]
      exact congrArg some hk
    · rw [if_pos rfl, if_neg (by rw [List.length_map, List.length_range]; exact hl), List.getElem?_eq_none (by rw [List.length_range]; omega)]
      rfl
  · rw [if_neg hjk]
    cases h : (List.range (zcf ci))[j]? with
    | none => rfl
    | some i =>
      have : i = j := by
        have h2 := (List.getElem?_eq_some_iff.mp h)
        obtain ⟨h3, h4⟩ := h2
        rw [List.getElem_range] at h4
        exact h4.symm
      subst this
      exact congrArg some (ho i (fun e => hjk e.symm))
/-- what a field of a kind of type holds -/
def ztI (t : FieldType) : Bool := match t with
  | .int => true
  | .boolean => true
  | .byte => true
  | .char => true
  | .short => true
  | _ => false
def ztP (t : FieldType) : Bool := match t with
  | .object _ => true
  | .array _ => true
  | _ => false
theorem zfv_I {w : zW} {a ci k : Nat} (h : ztI (zft ci k) = true) : zfv w a ci k = .int (zI w a k) := by
  unfold zfv
  cases hz : zft ci k <;> rw [hz] at h <;> first | rfl | cases h
theorem zfv_P {w : zW} {a ci k : Nat} (h : ztP (zft ci k) = true) : zfv w a ci k = va_rf (zP w a k) := by
  unfold zfv
  cases hz : zft ci k <;> rw [hz] at h <;> first | rfl | cases h
theorem r_getI {ix ci k a : Nat} (hf : zfl ow ix ci k) (ht : ztI (zft ci k) = true) (hd : decode cd pc = .ok (.getfield ix, 3)) (hk : zK w a = ci + 1) (kk : zR V cd ow (pc + 3) ls (.int (zI w a k) :: st) w b) : zR V cd ow pc ls (.ref a :: st) w b := r_get hf hd hk (zfv_I ht) kk
theorem r_getP {ix ci k a : Nat} (hf : zfl ow ix ci k) (ht : ztP (zft ci k) = true) (hd : decode cd pc = .ok (.getfield ix, 3)) (hk : zK w a = ci + 1) (kk : zR V cd ow (pc + 3) ls (va_rf (zP w a k) :: st) w b) : zR V cd ow pc ls (.ref a :: st) w b := r_get hf hd hk (zfv_P ht) kk
theorem r_getR {ix ci k a q : Nat} (hf : zfl ow ix ci k) (ht : ztP (zft ci k) = true) (hd : decode cd pc = .ok (.getfield ix, 3)) (hk : zK w a = ci + 1) (hp : zP w a k = some q) (kk : zR V cd ow (pc + 3) ls (.ref q :: st) w b) : zR V cd ow pc ls (.ref a :: st) w b := r_get hf hd hk (by rw [zfv_P ht, hp]; rfl) kk
theorem r_putI {ix ci k a : Nat} {x : Int32} (hf : zfl ow ix ci k) (hfin : ∀ C T N, vwCl[ci]? = some (C, T, N) → (T k).2.2.2 = false) (ht : zft ci k = .int) (hd : decode cd pc = .ok (.putfield ix, 3)) (hk : zK w a = ci + 1) (kk : zR V cd ow (pc + 3) ls st (zsI w (zu (zI w) a k x)) b) : zR V cd ow pc ls (.int x :: .ref a :: st) w b := by
  have hf9 := hf
  obtain ⟨Cn, T, N, hc, -⟩ := hf
  refine r_putg (w2 := zsI w (zu (zI w) a k x)) hf9 hfin hd hk (by rw [ht]; rfl) (by rw [ht]; rfl) rfl rfl rfl (fun q h => zu_ne h) (fun _ _ => rfl) (fun _ _ => rfl) (zfs_set hc ?_ (fun j hj => ?_)) kk
  · rw [zfv_I (by rw [ht]; rfl)]
    show Value.int (zu (zI w) a k x a k) = _
    rw [zu_self]
    simp
  · unfold zfv
    cases zft ci j <;> first | rfl | (show Value.int (zu (zI w) a k x a j) = _; rw [zu_self]; simp [hj])
/-- a boolean field: 0 or 1 -/
theorem r_putZ {ix ci k a : Nat} {x : Int32} (hf : zfl ow ix ci k) (hfin : ∀ C T N, vwCl[ci]? = some (C, T, N) → (T k).2.2.2 = false) (ht : zft ci k = .boolean) (h01 : x = 0 ∨ x = 1) (hd : decode cd pc = .ok (.putfield ix, 3)) (hk : zK w a = ci + 1) (kk : zR V cd ow (pc + 3) ls st (zsI w (zu (zI w) a k x)) b) : zR V cd ow pc ls (.int x :: .ref a :: st) w b := by
  have hf9 := hf
  obtain ⟨Cn, T, N, hc, -⟩ := hf
  refine r_putg (w2 := zsI w (zu (zI w) a k x)) hf9 hfin hd hk (by rw [ht]; rcases h01 with rfl | rfl <;> rfl) (by rw [ht]; rcases h01 with rfl | rfl <;> rfl) rfl rfl rfl (fun q h => zu_ne h) (fun _ _ => rfl) (fun _ _ => rfl) (zfs_set hc ?_ (fun j hj => ?_)) kk
  · rw [zfv_I (by rw [ht]; rfl)]
    show Value.int (zu (zI w) a k x a k) = _
    rw [zu_self]
    simp
  · unfold zfv
    cases zft ci j <;> first | rfl | (show Value.int (zu (zI w) a k x a j) = _; rw [zu_self]; simp [hj])
theorem z_nfP {t : FieldType} {r : Option Nat} (h : ztP t = true) : narrow t (va_rf r) = va_rf r ∧ fits t (va_rf r) = true := by
  cases t <;> first | (cases r <;> exact ⟨rfl, rfl⟩) | (exfalso; revert h; unfold ztP; decide)
theorem zfvP_set {w : zW} {a ci k : Nat} {r : Option Nat} (ht : ztP (zft ci k) = true) : zfv (zsP w (zu (zP w) a k r)) a ci k = va_rf r := by
  rw [zfv_P ht]
  show va_rf (zu (zP w) a k r a k) = _
  rw [zu_self]
  simp
theorem zfvP_ne {w : zW} {a ci k j : Nat} {r : Option Nat} (hj : j ≠ k) : zfv (zsP w (zu (zP w) a k r)) a ci j = zfv w a ci j := by
  unfold zfv
  cases zft ci j <;> first | rfl | (show va_rf (zu (zP w) a k r a j) = _; rw [zu_self]; simp [hj])
theorem r_putP {ix ci k a : Nat} {r : Option Nat} (hf : zfl ow ix ci k) (hfin : ∀ C T N, vwCl[ci]? = some (C, T, N) → (T k).2.2.2 = false) (ht : ztP (zft ci k) = true) (hd : decode cd pc = .ok (.putfield ix, 3)) (hk : zK w a = ci + 1) (kk : zR V cd ow (pc + 3) ls st (zsP w (zu (zP w) a k r)) b) : zR V cd ow pc ls (va_rf r :: .ref a :: st) w b := by
  have hf9 := hf
  obtain ⟨Cn, T, N, hc, -⟩ := hf
  exact r_putg (w2 := zsP w (zu (zP w) a k r)) hf9 hfin hd hk (z_nfP ht).1 (z_nfP ht).2 rfl rfl rfl (fun _ _ => rfl) (fun _ _ => rfl) (fun q h => zu_ne h) (zfs_set hc (zfvP_set ht) (fun j hj => zfvP_ne hj)) kk
theorem r_putPF {ix ci k a : Nat} {r : Option Nat} (hf : zfl ow ix ci k) (hfin : ∀ C T N, vwCl[ci]? = some (C, T, N) → (T k).2.2.2 = true ∧ (T k).1 = ow) (hnm9 : V.2.2.2.2.2.2.2.1 = "<init>") (ht : ztP (zft ci k) = true) (hd : decode cd pc = .ok (.putfield ix, 3)) (hk : zK w a = ci + 1) (kk : zR V cd ow (pc + 3) ls st (zsP w (zu (zP w) a k r)) b) : zR V cd ow pc ls (va_rf r :: .ref a :: st) w b := by
  have hf9 := hf
  obtain ⟨Cn, T, N, hc, -⟩ := hf
  exact r_putF (w2 := zsP w (zu (zP w) a k r)) hf9 hfin hnm9 hd hk (z_nfP ht).1 (z_nfP ht).2 rfl rfl rfl (fun _ _ => rfl) (fun _ _ => rfl) (fun q h => zu_ne h) (zfs_set hc (zfvP_set ht) (fun j hj => zfvP_ne hj)) kk
/-- arrays: reading -/
theorem r_iald {a : Nat} {i : Int32} (hd : decode cd pc = .ok (.iaload, 1)) (hk : zK w a = 21) (hi : vp_in i (zN w a)) (kk : zR V cd ow (pc + 1) ls (.int (zI w a i.toNatClampNeg) :: st) w b) : zR V cd ow pc ls (.int i :: .ref a :: st) w b := by
  intro p e s m args below meth c C H locs lsA hL hH hS
  obtain ⟨cA, h1, h2⟩ := zat_arr (hH.1 a) (by omega)
  rw [show zty (zK w a) = .int by rw [hk]; rfl] at h1
  have e1 : zar w a = (zN w a, .inl (zI w a)) := by unfold zar; rw [if_pos (by omega)]
  rw [e1] at h2
  exact va_iald C.1 C.2.1 (zK1 (zCx_hK C) h1) (zP1 (cl := vwCl) (D := V.2.1) (e := .inl (cA, zN w a, .inl (zI w a))) h2) 0 0 rfl rfl hi hd (kk p e s m args below meth c C H locs lsA hL hH hS)
theorem r_bald {a : Nat} {i : Int32} (hd : decode cd pc = .ok (.baload, 1)) (hk : zK w a = 22) (hi : vp_in i (zN w a)) (kk : zR V cd ow (pc + 1) ls (.int (zI w a i.toNatClampNeg) :: st) w b) : zR V cd ow pc ls (.int i :: .ref a :: st) w b := by
  intro p e s m args below meth c C H locs lsA hL hH hS
  obtain ⟨cA, h1, h2⟩ := zat_arr (hH.1 a) (by omega)
  rw [show zty (zK w a) = .byte by rw [hk]; rfl] at h1
  have e1 : zar w a = (zN w a, .inl (zI w a)) := by unfold zar; rw [if_pos (by omega)]
  rw [e1] at h2
  exact va_bald C.1 C.2.1 (zK1 (zCx_hK C) h1) (zP1 (cl := vwCl) (D := V.2.1) (e := .inl (cA, zN w a, .inl (zI w a))) h2) 0 0 rfl rfl hi hd (kk p e s m args below meth c C H locs lsA hL hH hS)
theorem r_zald {a : Nat} {i : Int32} (hd : decode cd pc = .ok (.baload, 1)) (hk : zK w a = 23) (hi : vp_in i (zN w a)) (kk : zR V cd ow (pc + 1) ls (.int (zI w a i.toNatClampNeg) :: st) w b) : zR V cd ow pc ls (.int i :: .ref a :: st) w b := by
  intro p e s m args below meth c C H locs lsA hL hH hS
  obtain ⟨cA, h1, h2⟩ := zat_arr (hH.1 a) (by omega)
  rw [show zty (zK w a) = .boolean by rw [hk]; rfl] at h1
  have e1 : zar w a = (zN w a, .inl (zI w a)) := by unfold zar; rw [if_pos (by omega)]
  rw [e1] at h2
  exact va_zald C.1 C.2.1 (zK1 (zCx_hK C) h1) (zP1 (cl := vwCl) (D := V.2.1) (e := .inl (cA, zN w a, .inl (zI w a))) h2) 0 0 rfl rfl hi hd (kk p e s m args below meth c C H locs lsA hL hH hS)
theorem r_lald {a : Nat} {i : Int32} (hd : decode cd pc = .ok (.laload, 1)) (hk : zK w a = 25) (hi : vp_in i (zN w a)) (kk : zR V cd ow (pc + 1) ls (.long (zJ w a i.toNatClampNeg) :: st) w b) : zR V cd ow pc ls (.int i :: .ref a :: st) w b := by
  intro p e s m args below meth c C H locs lsA hL hH hS
  obtain ⟨cA, h1, h2⟩ := zat_arr (hH.1 a) (by omega)
  rw [show zty (zK w a) = .long by rw [hk]; rfl] at h1
  have e1 : zar w a = (zN w a, .inr (.inl (zJ w a))) := by unfold zar; rw [if_neg (by omega), if_pos hk]
  rw [e1] at h2
  exact va_lald C.1 C.2.1 (zK1 (zCx_hK C) h1) (zP1 (cl := vwCl) (D := V.2.1) (e := .inl (cA, zN w a, .inr (.inl (zJ w a)))) h2) 0 0 rfl rfl hi hd (kk p e s m args below meth c C H locs lsA hL hH hS)
theorem r_aald {a ci : Nat} {i : Int32} (hd : decode cd pc = .ok (.aaload, 1)) (hk : zK w a = 30 + ci) (hi : vp_in i (zN w a)) (kk : zR V cd ow (pc + 1) ls (va_rf (zP w a i.toNatClampNeg) :: st) w b) : zR V cd ow pc ls (.int i :: .ref a :: st) w b := by
  intro p e s m args below meth c C H locs lsA hL hH hS
  obtain ⟨cA, h1, h2⟩ := zat_arr (hH.1 a) (by omega)
  rw [show zty (zK w a) = .object (zcn ci) by rw [hk]; unfold zty; rw [if_neg (by omega), if_neg (by omega), if_neg (by omega), if_neg (by omega), Nat.add_sub_cancel_left]] at h1
  have e1 : zar w a = (zN w a, .inr (.inr (.inr (.inr (zP w a))))) := by unfold zar; rw [if_neg (by omega), if_neg (by omega)]
  rw [e1] at h2
  exact va_aldq C.1 C.2.1 (zK1 (zCx_hK C) h1) (zP1 (cl := vwCl) (D := V.2.1) (e := .inl (cA, zN w a, .inr (.inr (.inr (.inr (zP w a)))))) h2) 0 0 rfl rfl hi hd (kk p e s m args below meth c C H locs lsA hL hH hS)
theorem r_alen {a : Nat} (hd : decode cd pc = .ok (.arraylength, 1)) (hk : 21 ≤ zK w a) (kk : zR V cd ow (pc + 1) ls (.int (nI (zN w a)) :: st) w b) : zR V cd ow pc ls (.ref a :: st) w b := by
  intro p e s m args below meth c C H locs lsA hL hH hS
  obtain ⟨cA, h1, h2⟩ := zat_arr (hH.1 a) hk
  exact va_alen C.1 C.2.1 (zK1 (zCx_hK C) h1) (zP1 (cl := vwCl) (D := V.2.1) (e := .inl (cA, zar w a)) h2) 0 0 rfl rfl rfl hd (kk p e s m args below meth c C H locs lsA hL hH hS)
/-- arrays: writing -/
theorem zat_arrI {D : va_G} {U : State} {w w2 : zW} {a n : Nat} {cA : ClassId} {f : Nat → Int32} {H : Heap} (hk0 : zK w2 = zK w) (hk : 21 ≤ zK w a) (hk1 : zK w a < 25) (hn : zN w2 a = n) (hi : zI w2 a = f) (h1 : ArrOfT U cA (zty (zK w a)) ∧ va_RA U cA (zty (zK w a))) (h2 : H[a]? = some (vp_cell cA (n, .inl f))) : zat D U w2 a H := by
  unfold zat
  rw [hk0, if_neg (by omega), if_neg (by omega)]
  refine ⟨cA, h1, ?_⟩
  unfold zar
  rw [hk0, if_pos hk1, hn, hi]
  exact h2
theorem z_upd {f : Nat → Nat → Int32} {a i : Nat} {x : Int32} : zu f a i x a = upd (f a) i x := by rw [zu_self]; rfl
theorem r_iast {a : Nat} {i x : Int32} (hd : decode cd pc = .ok (.iastore, 1)) (hk : zK w a = 21) (hi : vp_in i (zN w a)) (kk : zR V cd ow (pc + 1) ls st (zsI w (zu (zI w) a i.toNatClampNeg x)) b) : zR V cd ow pc ls (.int x :: .int i :: .ref a :: st) w b := by
  intro p e s m args below meth c C H locs lsA hL hH hS
  obtain ⟨cA, h1, h2⟩ := zat_arr (hH.1 a) (by omega)
  have h1' := h1
  rw [show zty (zK w a) = .int by rw [hk]; rfl] at h1'
  have e1 : zar w a = (zN w a, .inl (zI w a)) := by unfold zar; rw [if_pos (by omega)]
  rw [e1] at h2
  refine W.iast C.1 C.2.1 h2 (h1'.1 (zN w a) (fun j => .int (zI w a j))) (fun q => by cases q) (by show ¬ (i < 0 ∨ (arrV _ _ _).slots.size ≤ _); rw [arrV_size]; exact hi) rfl rfl hd fun H1 x1 z oq => ?_
  refine kk p e s m args below meth c C H1 _ lsA hL (zH_put (a := a) hH rfl rfl rfl (fun q h => zu_ne h) (fun _ _ => rfl) (fun _ _ => rfl) z oq (zat_arrI (w := w) (n := zN w a) (f := upd (zI w a) i.toNatClampNeg x) rfl (by omega) (by omega) rfl z_upd h1 ?_)) (hS.put z oq (hH.2.1 a (by rw [hk]; omega)))
  rw [x1, vp_cell_i, vp_cell_i, arrV_store]
  congr 2
  funext q
  by_cases hq : q = i.toNatClampNeg
  · subst hq
    simp [updV, upd]
  · simp [updV, upd, hq]
theorem r_bast {a : Nat} {i x : Int32} (hd : decode cd pc = .ok (.bastore, 1)) (hk : zK w a = 22) (hi : vp_in i (zN w a)) (kk : zR V cd ow (pc + 1) ls st (zsI w (zu (zI w) a i.toNatClampNeg (vp_nar .byte x))) b) : zR V cd ow pc ls (.int x :: .int i :: .ref a :: st) w b := by
  intro p e s m args below meth c C H locs lsA hL hH hS
  obtain ⟨cA, h1, h2⟩ := zat_arr (hH.1 a) (by omega)
  have h1' := h1
  rw [show zty (zK w a) = .byte by rw [hk]; rfl] at h1'
  have e1 : zar w a = (zN w a, .inl (zI w a)) := by unfold zar; rw [if_pos (by omega)]
  rw [e1] at h2
  refine W.bast C.1 C.2.1 h2 (h1'.1 (zN w a) (fun j => .int (zI w a j))) (fun q => by cases q) (by show ¬ (i < 0 ∨ (arrV _ _ _).slots.size ≤ _); rw [arrV_size]; exact hi) rfl rfl hd fun H1 x1 z oq => ?_
  refine kk p e s m args below meth c C H1 _ lsA hL (zH_put (a := a) hH rfl rfl rfl (fun q h => zu_ne h) (fun _ _ => rfl) (fun _ _ => rfl) z oq (zat_arrI (w := w) (n := zN w a) (f := upd (zI w a) i.toNatClampNeg (vp_nar .byte x)) rfl (by omega) (by omega) rfl z_upd h1 ?_)) (hS.put z oq (hH.2.1 a (by rw [hk]; omega)))
  rw [x1, vp_cell_i, vp_cell_i, arrV_store]
  congr 2
  funext q
  by_cases hq : q = i.toNatClampNeg
  · subst hq
    simp [updV, upd, vp_nar]
    try rfl
  · simp [updV, upd, hq]
theorem r_zast {a : Nat} {i x : Int32} (hd : decode cd pc = .ok (.bastore, 1)) (hk : zK w a = 23) (hi : vp_in i (zN w a)) (kk : zR V cd ow (pc + 1) ls st (zsI w (zu (zI w) a i.toNatClampNeg (vp_nar .boolean x))) b) : zR V cd ow pc ls (.int x :: .int i :: .ref a :: st) w b := by
  intro p e s m args below meth c C H locs lsA hL hH hS
  obtain ⟨cA, h1, h2⟩ := zat_arr (hH.1 a) (by omega)
  have h1' := h1
  rw [show zty (zK w a) = .boolean by rw [hk]; rfl] at h1'
  have e1 : zar w a = (zN w a, .inl (zI w a)) := by unfold zar; rw [if_pos (by omega)]
  rw [e1] at h2
  refine W.zast C.1 C.2.1 h2 (h1'.1 (zN w a) (fun j => .int (zI w a j))) (fun q => by cases q) (by show ¬ (i < 0 ∨ (arrV _ _ _).slots.size ≤ _); rw [arrV_size]; exact hi) rfl rfl hd fun H1 x1 z oq => ?_
  refine kk p e s m args below meth c C H1 _ lsA hL (zH_put (a := a) hH rfl rfl rfl (fun q h => zu_ne h) (fun _ _ => rfl) (fun _ _ => rfl) z oq (zat_arrI (w := w) (n := zN w a) (f := upd (zI w a) i.toNatClampNeg (vp_nar .boolean x)) rfl (by omega) (by omega) rfl z_upd h1 ?_)) (hS.put z oq (hH.2.1 a (by rw [hk]; omega)))
  rw [x1, vp_cell_i, vp_cell_i, arrV_store]
  congr 2
  funext q
  by_cases hq : q = i.toNatClampNeg
  · subst hq
    simp [updV, upd, vp_nar]
    try rfl
  · simp [updV, upd, hq]
theorem r_last {a : Nat} {i : Int32} {x : Int64} (hd : decode cd pc = .ok (.lastore, 1)) (hk : zK w a = 25) (hi : vp_in i (zN w a)) (kk : zR V cd ow (pc + 1) ls st (zsJ w (zu (zJ w) a i.toNatClampNeg x)) b) : zR V cd ow pc ls (.long x :: .int i :: .ref a :: st) w b := by
  intro p e s m args below meth c C H locs lsA hL hH hS
  obtain ⟨cA, h1, h2⟩ := zat_arr (hH.1 a) (by omega)
  have h1' := h1
  rw [show zty (zK w a) = .long by rw [hk]; rfl] at h1'
  have e1 : zar w a = (zN w a, .inr (.inl (zJ w a))) := by unfold zar; rw [if_neg (by omega), if_pos hk]
  rw [e1] at h2
  refine W.last C.1 C.2.1 h2 (h1'.1 (zN w a) (fun j => .long (zJ w a j))) (fun q => by cases q) (by show ¬ (i < 0 ∨ (arrV _ _ _).slots.size ≤ _); rw [arrV_size]; exact hi) rfl rfl hd fun H1 x1 z oq => ?_
  refine kk p e s m args below meth c C H1 _ lsA hL (zH_put (a := a) hH rfl rfl rfl (fun _ _ => rfl) (fun q h => zu_ne h) (fun _ _ => rfl) z oq ?_) (hS.put z oq (hH.2.1 a (by rw [hk]; omega)))
  unfold zat
  show if zK w a = 0 then _ else if zK w a < 21 then _ else _
  rw [if_neg (by omega), if_neg (by omega)]
  refine ⟨cA, h1, ?_⟩
  show H1[a]? = some (vp_cell cA (zN w a, if zK w a < 25 then _ else if zK w a = 25 then .inr (.inl (zu (zJ w) a i.toNatClampNeg x a)) else _))
  rw [if_neg (by omega), if_pos hk, x1, vp_cell_l, vp_cell_l, arrV_store, zu_self]
  congr 2
  funext q
  by_cases hq : q = i.toNatClampNeg
  · subst hq
    simp [updV]
  · simp [updV, hq]
end ZH
