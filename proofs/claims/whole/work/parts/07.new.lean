/-! making objects and arrays, constructors, throws -/
/-- types whose default the world's 0 or none is -/
def zdf (t : FieldType) : Bool := match t with
  | .float => false
  | .double => false
  | _ => true
theorem zdf_val {w : zW} {ci k n kd : Nat} (h : zdf (zft ci k) = true) : zfv (zNew w kd n) (zS w) ci k = defaultValue (zft ci k) := by
  unfold zfv
  have e1 : zI (zNew w kd n) (zS w) k = 0 := by
    show zr w.2.2.2.1 w.2.2.2.2.2 (fun _ => 0) w.2.2.2.2.2 k = 0
    unfold zr
    rw [if_pos rfl]
  have e2 : zJ (zNew w kd n) (zS w) k = 0 := by
    show zr w.2.2.2.2.1 w.2.2.2.2.2 (fun _ => 0) w.2.2.2.2.2 k = 0
    unfold zr
    rw [if_pos rfl]
  have e3 : zP (zNew w kd n) (zS w) k = none := by
    show zr w.2.2.1 w.2.2.2.2.2 (fun _ => none) w.2.2.2.2.2 k = none
    unfold zr
    rw [if_pos rfl]
  rw [e1, e2, e3]
  cases hz : zft ci k <;> rw [hz] at h <;> first | rfl | cases h
theorem zNew_K {w : zW} {kd n : Nat} : zK (zNew w kd n) (zS w) = kd := by
  show (if w.2.2.2.2.2 = w.2.2.2.2.2 then kd else _) = kd
  rw [if_pos rfl]
theorem zNew_Kne {w : zW} {kd n q : Nat} (h : q ≠ zS w) : zK (zNew w kd n) q = zK w q := by
  show (if q = w.2.2.2.2.2 then kd else _) = _
  rw [if_neg h]
theorem zNew_N {w : zW} {kd n : Nat} : zN (zNew w kd n) (zS w) = n := by
  show (if w.2.2.2.2.2 = w.2.2.2.2.2 then n else _) = n
  rw [if_pos rfl]
theorem zNew_Nne {w : zW} {kd n q : Nat} (h : q ≠ zS w) : zN (zNew w kd n) q = zN w q := by
  show (if q = w.2.2.2.2.2 then n else _) = _
  rw [if_neg h]
theorem zr_self {α : Type} {f : Nat → Nat → α} {a : Nat} {r : Nat → α} : zr f a r a = r := by
  unfold zr
  rw [if_pos rfl]
theorem zr_ne {α : Type} {f : Nat → Nat → α} {a q : Nat} {r : Nat → α} (h : q ≠ a) : zr f a r q = f q := by
  unfold zr
  rw [if_neg h]
/-- the world with a new cell at the heap's end -/
theorem zH_new {D : va_G} {B kd n : Nat} {w : zW} {U : State} {H H1 : Heap} (h : zH D B w U H) (hB : B ≤ H.size) (hz : H1.size = H.size + 1) (oq : ∀ q : Nat, q < H.size → H1[q]? = H[q]?) (ha : zat D U (zNew w kd n) (zS w) H1) : zH D B (zNew w kd n) U H1 := by
  have hs : zS w = H.size := h.2.2
  refine ⟨fun q => ?_, fun q hq => ?_, ?_⟩
  · by_cases hqa : q = zS w
    · rw [hqa]; exact ha
    · by_cases hk : zK w q = 0
      · unfold zat
        rw [if_pos (by rw [zNew_Kne hqa]; exact hk)]
        trivial
      · have hlt : q < H.size := by
          have h1 := h.1 q
          unfold zat at h1
          rw [if_neg hk] at h1
          split at h1
          · exact h1.lt
          · obtain ⟨cA, -, h2⟩ := h1
            exact (Array.getElem?_eq_some_iff.mp h2).1
        exact zat_congr (zat_keep (h.1 q) (oq q hlt)) (zNew_Kne hqa) (zNew_Nne hqa) (zr_ne hqa) (zr_ne hqa) (zr_ne hqa)
  · by_cases hqa : q = zS w
    · rw [hqa, hs]; exact hB
    · rw [zNew_Kne hqa] at hq
      exact h.2.1 q hq
  · show w.2.2.2.2.2 + 1 = H1.size
    rw [hz, ← hs]
/-- a class that is made under the number ix -/
def zln (ow : String) (ix ci : Nat) (N : Nat) : Prop := ∃ (C : String) (T : u_T), vwCl[ci]? = some (C, T, N) ∧ ci < 20 ∧ Cond.classLink ow ix C ∈ zT ∧ Cond.instantiable C N ∈ zT ∧ Cond.initialized C ∈ zT ∧ (∀ w ∈ u_ws C T N, w ∈ zT) ∧ (∀ j, j < N → parseFieldDescriptor (T j).2.2.1 = some (zft ci j)) ∧ ∀ j, j < N → zdf (zft ci j) = true
theorem zS_put {B : Nat} {H0 H H1 : Heap} {locs : List Loc} (h : va_S (zA B) H0 H locs) (hz : H1.size = H.size + 1) (oq : ∀ q : Nat, q < H.size → H1[q]? = H[q]?) : va_S (zA B) H0 H1 locs := ⟨Nat.le_trans h.1 (by omega), fun x h1 h2 => (oq x (Nat.lt_of_lt_of_le h1 h.1)).trans (h.2.1 x h1 h2), h.2.2⟩
section ZN
variable {g : zGT} {Rm : Room} {QQ : List Frame → Array Value → State → State → Prop} {hh : List (Nat × Nat × Nat × Nat)} {nm : String} {nL : Nat} {ret : Option FieldType}
variable {cd : ByteArray} {ow : String} {pc : Nat} {ls : List (Option Value)} {st : List Value} {w : zW} {b : Nat × Nat}
variable {V : zVT}
theorem r_new {ix ci N : Nat} (hl : zln ow ix ci N) (hd : decode cd pc = .ok (.new ix, 3)) (h1 : b.1 + 1 ≤ V.2.2.2.2.1.cells) (h2 : b.2 + N ≤ V.2.2.2.2.1.slots) (kk : zR V cd ow (pc + 3) ls (.ref (zS w) :: st) (zNew w (ci + 1) 0) (b.1 + 1, b.2 + N)) : zR V cd ow pc ls st w b := by
  intro p e s m args below meth c C H locs lsA hL hH hS
  obtain ⟨Cn, T, hc, hci, l1, l2, l3, hin, hty, hdf⟩ := hl
  have hts := C.2.2.2.2.1
  have hKn := (zCx_hK C).1 ci _ hc
  have hB : V.2.2.1 ≤ H.size := Nat.le_trans C.2.2.2.2.2.2.2.2.2.2.2.1 hS.1
  have hs : zS w = H.size := hH.2.2
  refine W.newcK C.1 C.2.1 C.2.2.2.1 (hts _ l1) (hts _ l2) (hts _ l3) rfl hd h1 h2 hKn.2.1 hs.symm fun H1 kC hkC e1 z1 o1 => ?_
  have z1' : H1.size = H.size + 1 := by rw [z1, hs]
  have o1' : ∀ q : Nat, q < H.size → H1[q]? = H[q]? := fun q hq => o1 q (by rw [hs]; exact hq)
  refine kk p e s m args below meth c C H1 locs lsA hL (zH_new hH hB z1' o1' ?_) (zS_put hS z1' o1')
  unfold zat
  rw [zNew_K, if_neg (by omega), if_pos (by omega), Nat.add_sub_cancel]
  refine ⟨_, hc, (u_born (zft ci) hts hin hKn hkC e1 hty).to fun k hk => ?_⟩
  rw [← zdf_val (w := w) (kd := ci + 1) (n := 0) (hdf k hk)]
  show _ = (zfs (zNew w (ci + 1) 0) (zS w) ci).getD k .null
  rw [List.getD_eq_getElem?_getD, zfs_at hc hk]
  rfl
/-- a new row of numbers -/
theorem r_newa {at9 : ArrayType} {n : Int32} {N kd : Nat} (hw : Cond.arrayClass (newarray.typeOf at9) ∈ zT) (hkd : 21 ≤ kd ∧ kd < 26 ∧ newarray.typeOf at9 = zty kd) (hd : decode cd pc = .ok (.newarray at9, 2)) (hn : ¬ n < 0) (hN : n.toNatClampNeg = N) (hby : N * componentBytes (newarray.typeOf at9) ≤ 536870912) (hdv : kd < 25 ∧ defaultValue (newarray.typeOf at9) = .int 0 ∨ kd = 25 ∧ defaultValue (newarray.typeOf at9) = .long 0)
    (hra : ∀ (U : State) (cA : ClassId), U.vm.findClass ("[" ++ (newarray.typeOf at9).toString) = some cA → va_RA U cA (newarray.typeOf at9))
    (h1 : b.1 + 1 ≤ V.2.2.2.2.1.cells) (h2 : b.2 + N ≤ V.2.2.2.2.1.slots) (kk : zR V cd ow (pc + 2) ls (.ref (zS w) :: st) (zNew w kd N) (b.1 + 1, b.2 + N)) : zR V cd ow pc ls (.int n :: st) w b := by
  intro p e s m args below meth c C H locs lsA hL hH hS
  have hts := C.2.2.2.2.1
  have hB : V.2.2.1 ≤ H.size := Nat.le_trans C.2.2.2.2.2.2.2.2.2.2.2.1 hS.1
  have hs : zS w = H.size := hH.2.2
  refine va_newaK C.1 C.2.1 (hts _ hw) rfl hd rfl hn hN hby h1 h2 hs.symm fun H1 cA e1 z1 o1 hAr hNm => ?_
  have z1' : H1.size = H.size + 1 := by rw [z1, hs]
  have o1' : ∀ q : Nat, q < H.size → H1[q]? = H[q]? := fun q hq => o1 q (by rw [hs]; exact hq)
  refine kk p e s m args below meth c C H1 locs lsA hL (zH_new hH hB z1' o1' ?_) (zS_put hS z1' o1')
  unfold zat
  rw [zNew_K, if_neg (by omega), if_neg (by omega), ← hkd.2.2]
  refine ⟨cA, ⟨hAr, hra _ _ hNm⟩, ?_⟩
  rw [e1]
  unfold zar
  rw [zNew_K, zNew_N]
  rcases hdv with ⟨q1, q2⟩ | ⟨q1, q2⟩
  · rw [if_pos q1, vp_cell_i, q2]
    congr 2
    funext j
    show Value.int 0 = .int (zr w.2.2.2.1 w.2.2.2.2.2 (fun _ => 0) w.2.2.2.2.2 j)
    rw [zr_self]
  · rw [if_neg (by omega), if_pos q1, vp_cell_l, q2]
    congr 2
    funext j
    show Value.long 0 = .long (zr w.2.2.2.2.1 w.2.2.2.2.2 (fun _ => 0) w.2.2.2.2.2 j)
    rw [zr_self]
theorem r_newI {n : Int32} {N : Nat} (hw : Cond.arrayClass .int ∈ zT) (hd : decode cd pc = .ok (.newarray .int, 2)) (hn : ¬ n < 0) (hN : n.toNatClampNeg = N) (hby : N ≤ 100000) (h1 : b.1 + 1 ≤ V.2.2.2.2.1.cells) (h2 : b.2 + N ≤ V.2.2.2.2.1.slots) (kk : zR V cd ow (pc + 2) ls (.ref (zS w) :: st) (zNew w 21 N) (b.1 + 1, b.2 + N)) : zR V cd ow pc ls (.int n :: st) w b :=
  r_newa (at9 := .int) hw ⟨by decide, by decide, rfl⟩ hd hn hN (by show N * 4 ≤ 536870912; omega) (Or.inl ⟨by decide, rfl⟩) (fun _ _ h => h) h1 h2 kk
theorem r_newB {n : Int32} {N : Nat} (hw : Cond.arrayClass .byte ∈ zT) (hd : decode cd pc = .ok (.newarray .byte, 2)) (hn : ¬ n < 0) (hN : n.toNatClampNeg = N) (hby : N ≤ 100000) (h1 : b.1 + 1 ≤ V.2.2.2.2.1.cells) (h2 : b.2 + N ≤ V.2.2.2.2.1.slots) (kk : zR V cd ow (pc + 2) ls (.ref (zS w) :: st) (zNew w 22 N) (b.1 + 1, b.2 + N)) : zR V cd ow pc ls (.int n :: st) w b :=
  r_newa (at9 := .byte) hw ⟨by decide, by decide, rfl⟩ hd hn hN (by show N * 1 ≤ 536870912; omega) (Or.inl ⟨by decide, rfl⟩) (fun _ _ h => h) h1 h2 kk
theorem r_newZ {n : Int32} {N : Nat} (hw : Cond.arrayClass .boolean ∈ zT) (hd : decode cd pc = .ok (.newarray .boolean, 2)) (hn : ¬ n < 0) (hN : n.toNatClampNeg = N) (hby : N ≤ 100000) (h1 : b.1 + 1 ≤ V.2.2.2.2.1.cells) (h2 : b.2 + N ≤ V.2.2.2.2.1.slots) (kk : zR V cd ow (pc + 2) ls (.ref (zS w) :: st) (zNew w 23 N) (b.1 + 1, b.2 + N)) : zR V cd ow pc ls (.int n :: st) w b :=
  r_newa (at9 := .boolean) hw ⟨by decide, by decide, rfl⟩ hd hn hN (by show N * 1 ≤ 536870912; omega) (Or.inl ⟨by decide, rfl⟩) (fun _ _ h => h) h1 h2 kk
theorem r_newJ {n : Int32} {N : Nat} (hw : Cond.arrayClass .long ∈ zT) (hd : decode cd pc = .ok (.newarray .long, 2)) (hn : ¬ n < 0) (hN : n.toNatClampNeg = N) (hby : N ≤ 100000) (h1 : b.1 + 1 ≤ V.2.2.2.2.1.cells) (h2 : b.2 + N ≤ V.2.2.2.2.1.slots) (kk : zR V cd ow (pc + 2) ls (.ref (zS w) :: st) (zNew w 25 N) (b.1 + 1, b.2 + N)) : zR V cd ow pc ls (.int n :: st) w b :=
  r_newa (at9 := .long) hw ⟨by decide, by decide, rfl⟩ hd hn hN (by show N * 8 ≤ 536870912; omega) (Or.inr ⟨rfl, rfl⟩) (fun _ _ h => h) h1 h2 kk
/-- a new row of references -/
theorem r_newQ {ix ci : Nat} {n : Int32} {N : Nat} (hw : Cond.classLink ow ix (zcn ci) ∈ zT) (hao : zcn ci ∈ zAOl) (hd : decode cd pc = .ok (.anewarray ix, 3)) (hn : ¬ n < 0) (hN : n.toNatClampNeg = N) (hby : N ≤ 100000) (h1 : b.1 + 1 ≤ Rm.cells) (h2 : b.2 + N ≤ Rm.slots)
    (kk : zR (zVg g Rm QQ hh nm nL ret) cd ow (pc + 3) ls (.ref (zS w) :: st) (zNew w (30 + ci) N) (b.1 + 1, b.2 + N)) : zR (zVg g Rm QQ hh nm nL ret) cd ow pc ls (.int n :: st) w b := by
  intro p e s m args below meth c C H locs lsA hL hH hS
  have hts := C.2.2.2.2.1
  have hB : g.2.2.1 ≤ H.size := Nat.le_trans C.2.2.2.2.2.2.2.2.2.2.2.1 hS.1
  have hs : zS w = H.size := hH.2.2
  have hst : g.2.2.2 s ∧ zGok g := C.2.2.2.2.2.2.2.2.2.2.1
  have hover := (hst.2.2.2 s hst.1).2.2.1 _ hao
  refine W.anew C.1 C.2.1 C.2.2.2.1 (hts _ hw) (va_AO.use hover) rfl hd rfl hn (by rw [hN]; omega) h1 (by rw [hN]; exact h2) fun cA kA comp f1 f2 f3 f4 => ?_
  rw [hN]
  generalize hH1 : H.push ({ cls := cA, slots := Array.replicate N .null, vm := .none } : Cell) = H1
  have z1 : H1.size = H.size + 1 := by rw [← hH1, Array.size_push]
  have e1 : H1[H.size]? = some (arrV cA N (fun _ => .null)) := by rw [← hH1, Array.getElem?_push_size, ← arrV_new]
  have o1 : ∀ q : Nat, q < H.size → H1[q]? = H[q]? := fun q hq => by rw [← hH1, Array.getElem?_push, if_neg (Nat.ne_of_lt hq)]
  have hAr : ArrOfT s cA (.object (zcn ci)) := fun N z => ⟨(fun k h => by cases h), kA, f2, comp, f3⟩
  rw [← hs]
  refine kk p e s m args below meth c C H1 locs lsA hL (zH_new hH hB z1 o1 ?_) (zS_put hS z1 o1)
  have hty : zty (30 + ci) = .object (zcn ci) := by unfold zty; rw [if_neg (by omega), if_neg (by omega), if_neg (by omega), if_neg (by omega), Nat.add_sub_cancel_left]
  unfold zat
  rw [zNew_K, if_neg (by omega), if_neg (by omega), hty]
  refine ⟨cA, ⟨hAr, kA, comp, f2, f3, f4, f1⟩, ?_⟩
  rw [hs, e1, ← hs]
  unfold zar
  rw [zNew_K, zNew_N, if_neg (by omega), if_neg (by omega), vp_cell_q]
  congr 2
  funext j
  show Value.null = va_rf (zr w.2.2.1 w.2.2.2.2.2 (fun _ => none) w.2.2.2.2.2 j)
  rw [zr_self]
  rfl
/-- a reference comes into a row -/
theorem r_aast {a ci v : Nat} {i : Int32} (hd : decode cd pc = .ok (.aastore, 1)) (hci : ci < 11) (hk : zK w a = 30 + ci) (hi : vp_in i (zN w a)) (hv : zK w v = ci + 1) (kk : zR V cd ow (pc + 1) ls st (zsP w (zu (zP w) a i.toNatClampNeg (some v))) b) : zR V cd ow pc ls (.ref v :: .int i :: .ref a :: st) w b := by
  intro p e s m args below meth c C H locs lsA hL hH hS
  obtain ⟨cA, h1, h2⟩ := zat_arr (hH.1 a) (by omega)
  have hty : zty (zK w a) = .object (zcn ci) := by rw [hk]; unfold zty; rw [if_neg (by omega), if_neg (by omega), if_neg (by omega), if_neg (by omega), Nat.add_sub_cancel_left]
  have h1' := h1
  rw [hty] at h1'
  have e1 : zar w a = (zN w a, .inr (.inr (.inr (.inr (zP w a))))) := by unfold zar; rw [if_neg (by omega), if_neg (by omega)]
  rw [e1] at h2
  have hlt : i.toNatClampNeg < zN w a := Nat.not_le.mp fun q => hi (Or.inr q)
  have h0 : ¬ i < 0 := fun q => hi (Or.inl q)
  obtain ⟨q, hq⟩ : ∃ q, vwCl[ci]? = some q := ⟨_, List.getElem?_eq_getElem (show ci < vwCl.length from hci)⟩
  have hqn : q.1 = zcn ci := by
    unfold zcn
    rw [hq]
    rfl
  obtain ⟨r', hr', cellV, g1, g2, g3, -⟩ := zat_obj (hH.1 v) hv (by omega)
  have hcls := ((zCx_hK C).1 ci q hq).2
  obtain ⟨kA, comp, k1, k2, k3, -⟩ := h1'.2
  have hcomp : comp = V.2.1.1 ci := Option.some.inj (k3.symm.trans (by rw [← hqn]; exact hcls.1))
  subst hcomp
  obtain ⟨kC, hkC, -⟩ := hcls.2
  refine W.aast C.1 C.2.1 h2 (fun q h => by cases h) (fun h => by cases h) k1 k2 rfl hkC ⟨h0, by show _ < (arrV _ _ _).slots.size; rw [arrV_size]; exact hlt⟩ g1 (fun q h => by rw [g3] at h; cases h) (by rw [g2]; exact hkC) (by rw [g2]; exact va_assign hcls) rfl rfl hd fun H1 x1 z oq => ?_
  refine kk p e s m args below meth c C H1 _ lsA hL (zH_put (a := a) hH rfl rfl rfl (fun _ _ => rfl) (fun _ _ => rfl) (fun q h => zu_ne h) z oq ?_) (hS.put z oq (hH.2.1 a (by rw [hk]; omega)))
  unfold zat
  show if zK w a = 0 then _ else if zK w a < 21 then _ else _
  rw [if_neg (by omega), if_neg (by omega)]
  refine ⟨cA, h1, ?_⟩
  show H1[a]? = some (vp_cell cA (zN w a, if zK w a < 25 then _ else if zK w a = 25 then _ else .inr (.inr (.inr (.inr (zu (zP w) a i.toNatClampNeg (some v) a))))))
  rw [if_neg (by omega), if_neg (by omega), x1, vp_cell_q, vp_cell_q, arrV_store, zu_self]
  congr 2
  funext j
  by_cases hj : j = i.toNatClampNeg
  · subst hj
    simp [updV, va_rf]
  · simp [updV, hj]
/-- Object's constructor -/
theorem r_obj {ix a : Nat} (hw : Cond.methodLink ow ix Lib.objectInit ∈ zT) (hw2 : Cond.instanceMethod Lib.objectInit ∈ zT) (hw3 : Cond.code Lib.objectInit ⟨#[0xb1]⟩ 1 none ∈ zT) (hd : decode cd pc = .ok (.invokespecial ix, 3)) (h1 : 1 ≤ V.2.2.2.2.1.frames) (h2 : (st.map fun v => v.category).sum + 12 ≤ V.2.2.2.2.1.locals) (kk : zR V cd ow (pc + 3) ls st w b) : zR V cd ow pc ls (.ref a :: st) w b := by
  intro p e s m args below meth c C H locs lsA hL hH hS
  have hts := C.2.2.2.2.1
  refine W.objInit C.1 C.2.1 C.2.2.2.1 (hts _ hw) (hts _ hw2) (hts _ hw3) rfl (hL.1.trans C.2.2.1.symm) rfl hd h1 (by show 2 * 0 + _ + 12 ≤ _; omega) ?_
  exact kk p e s m args below meth c C H locs lsA hL hH hS
theorem va_vx {p : Program} {l : Launch} {e : Env} {R : Room} {s : State} {m : MethodId} {args : Array Value} {below : List Frame} {meth : Method} {c : Code} {H : Heap} {locs : List Loc} {cells slots mc ms : Nat} {gf : JFrame} {rest : List Value} {Qa : State → Outcome → State → Prop} {XC : String → State → State → Prop} {free : Addr → Prop} (h : va_Run p l e R s m args below meth c H locs cells slots mc ms gf rest Qa free) : vx_Run p l e R s m args below meth c H locs cells slots mc ms gf rest Qa XC free := fun T hT X => Or.inl (h T hT X)
/-- a constructor of a class of its own kind, or of a nest mate -/
theorem r_callI {ix n d2 a : Nat} {y2 : MethodName} {cd2 : ByteArray} {nL2 : Nat} {As rest : List Value} {b2 : Nat × Nat} {Q2 : Option Value → zW → Prop}
    (hl : Cond.methodLink ow ix y2 ∈ zT ∨ ∃ host, Cond.methodLinkNest ow ix y2 host ∈ zNest) (hi9 : Cond.instanceMethod y2 ∈ zT) (hini : Cond.initialized y2.cls ∈ zT) (hcode : Cond.code y2 cd2 nL2 none ∈ zT) (hnm : y2.name = "<init>") (hy : y2.cls ≠ "java/lang/invoke/MethodHandle" ∧ y2.cls ≠ "java/lang/invoke/VarHandle" ∧ (parseMethodDescriptor y2.desc).map (fun d => d.parameters.length) = some n) (hnl : nL2 ≤ 45)
    (hd : decode cd pc = .ok (.invokespecial ix, 3)) (hM : zC g d2 y2 cd2 nL2 none (.ref a :: As) w b2 Q2 (fun _ _ => False)) (hst : st = As.reverse ++ .ref a :: rest) (hn : As.length = n) (hW : (rest.map fun v => v.category).sum ≤ 8) (hd2 : d2 + 1 ≤ Rm.frames) (hd3 : 64 * (d2 + 1) ≤ Rm.locals) (h1 : b.1 + b2.1 ≤ Rm.cells) (h2 : b.2 + b2.2 ≤ Rm.slots)
    (kk : ∀ r w2, Q2 r w2 → zR (zVg g Rm QQ hh nm nL ret) cd ow (pc + 3) ls (r.toList ++ rest) w2 (b.1 + b2.1, b.2 + b2.2)) : zR (zVg g Rm QQ hh nm nL ret) cd ow pc ls st w b := by
  subst hst
  intro p e s m args below meth c C H locs lsA hL hH hS
  have hts : ∀ w ∈ zT, w.before args s = true := C.2.2.2.2.1
  have hst9 : g.2.2.2 s ∧ zGok g := C.2.2.2.2.2.2.2.2.2.2.1
  have hok : zSok g.2.2.1 g.2.2.2 := hst9.2.2.1
  have hR : (zrm d2 b2).frames + 1 ≤ Rm.frames ∧ 8 + (nL2 + 11) + (zrm d2 b2).locals ≤ Rm.locals := ⟨hd2, by show 8 + (nL2 + 11) + 64 * d2 ≤ Rm.locals; omega⟩
  have hP : PreS s H (va_Pc (.ref a :: As) (zPre g w)) (.ref a :: As) := ⟨zBlind hok, fun U hU hW2 => ⟨rfl, zPre_of rfl C hH hS U hU hW2⟩⟩
  have hFix : CallFix p m c cd nL s args zT ow := ⟨C.1, C.2.1, C.2.2.1, C.2.2.2.1, hts⟩
  rcases hl with hl | ⟨host, hl⟩
  · have cw : CallB Rm s args ow ix y2 cd2 nL2 none (zws y2 cd2 nL2 none) (zrm d2 b2) b2.1 b2.2 n ∧ y2.name = "<init>" ∧ (Cond.instanceMethod y2).before args s = true :=
      ⟨callB_of n hts (zws_good hcode) rfl rfl rfl (hts _ hini) (hts _ hl) hy hR, hnm, hts _ hi9⟩
    exact zRun (b2 := b2) (QX2 := fun _ _ => False) C hL hS (va_vx (va_runI (Ts := zT) (As := As) (rest := rest) hFix (zC_met hM) cw hP rfl hn hL.1 rfl (lv_room hW) hd ⟨h1, h2⟩)) kk (fun _ _ h => absurd h id)
  · have hl2 : va_Nw (.methodLinkNest ow ix y2 host) s := (hst9.2.2.2 s hst9.1).1 _ hl
    have cw : va_CN Rm s args ow ix y2 host cd2 nL2 none (zws y2 cd2 nL2 none) (zrm d2 b2) b2.1 b2.2 n ∧ y2.name = "<init>" ∧ (Cond.instanceMethod y2).before args s = true :=
      ⟨va_cnB n hts (zws_good hcode) rfl rfl rfl hl2 (hts _ hini) hy hR, hnm, hts _ hi9⟩
    exact zRun (b2 := b2) (QX2 := fun _ _ => False) C hL hS (va_vx (va_runIN (Ts := zT) (As := As) (rest := rest) hFix (zC_met hM) cw hP rfl hn hL.1 rfl (lv_room hW) hd ⟨h1, h2⟩)) kk (fun _ _ h => absurd h id)
end ZN
