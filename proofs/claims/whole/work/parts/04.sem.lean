/-- a world: kinds, lengths, references, ints, longs by address and place, the next address -/
abbrev zW : Type := (Nat → Nat) × (Nat → Nat) × (Nat → Nat → Option Nat) × (Nat → Nat → Int32) × (Nat → Nat → Int64) × Nat
abbrev zK (w : zW) : Nat → Nat := w.1
abbrev zN (w : zW) : Nat → Nat := w.2.1
abbrev zP (w : zW) : Nat → Nat → Option Nat := w.2.2.1
abbrev zI (w : zW) : Nat → Nat → Int32 := w.2.2.2.1
abbrev zJ (w : zW) : Nat → Nat → Int64 := w.2.2.2.2.1
abbrev zS (w : zW) : Nat := w.2.2.2.2.2
/-- one place of a function of two arguments is changed -/
def zu {α : Type} (f : Nat → Nat → α) (a i : Nat) (x : α) : Nat → Nat → α := fun q j => if q = a ∧ j = i then x else f q j
/-- a whole row of it -/
def zr {α : Type} (f : Nat → Nat → α) (a : Nat) (r : Nat → α) : Nat → Nat → α := fun q => if q = a then r else f q
def zsI (w : zW) (f : Nat → Nat → Int32) : zW := (w.1, w.2.1, w.2.2.1, f, w.2.2.2.2.1, w.2.2.2.2.2)
def zsJ (w : zW) (f : Nat → Nat → Int64) : zW := (w.1, w.2.1, w.2.2.1, w.2.2.2.1, f, w.2.2.2.2.2)
def zsP (w : zW) (f : Nat → Nat → Option Nat) : zW := (w.1, w.2.1, f, w.2.2.2.1, w.2.2.2.2.1, w.2.2.2.2.2)
def zsS (w : zW) (n : Nat) : zW := (w.1, w.2.1, w.2.2.1, w.2.2.2.1, w.2.2.2.2.1, n)
/-- a new cell of kind k and length n at the next address -/
def zNew (w : zW) (k n : Nat) : zW := (fun q => if q = w.2.2.2.2.2 then k else w.1 q, fun q => if q = w.2.2.2.2.2 then n else w.2.1 q, zr w.2.2.1 w.2.2.2.2.2 (fun _ => none), zr w.2.2.2.1 w.2.2.2.2.2 (fun _ => 0), zr w.2.2.2.2.1 w.2.2.2.2.2 (fun _ => 0), w.2.2.2.2.2 + 1)
/-- the classes' names by the places of vwCl; the types of their fields -/
def zcn : Nat → String := fun ci => ((vwCl[ci]?).map (fun q => q.1)).getD ""
def zcf : Nat → Nat := fun ci => ((vwCl[ci]?).map (fun q => q.2.2)).getD 0
def zft : Nat → Nat → FieldType := fun ci => match ci with
  | 0 => tyX1
  | 1 => tyX2
  | 2 => tyX3
  | 3 => tyX4
  | 4 => tyX5
  | 5 => tyX6
  | 6 => tyX7
  | 7 => tyX8
  | 8 => tyX9
  | 9 => tyX11
  | _ => tyX12
/-- what a field holds -/
def zfv (w : zW) (a ci k : Nat) : Value := match zft ci k with
  | .long => .long (zJ w a k)
  | .object _ => va_rf (zP w a k)
  | .array _ => va_rf (zP w a k)
  | _ => .int (zI w a k)
def zfs (w : zW) (a ci : Nat) : List Value := (List.range (zcf ci)).map (zfv w a ci)
/-- arrays: kinds 21 int, 22 byte, 23 boolean, 25 long, 30 and on: of references to objects of a class -/
def zty (k : Nat) : FieldType := if k = 21 then .int else if k = 22 then .byte else if k = 23 then .boolean else if k = 25 then .long else .object (zcn (k - 30))
def zar (w : zW) (a : Nat) : vp_A := (zN w a, if zK w a < 25 then .inl (zI w a) else if zK w a = 25 then .inr (.inl (zJ w a)) else .inr (.inr (.inr (.inr (zP w a)))))
/-- how a cell of the world lies in a heap -/
def zat (D : va_G) (U : State) (w : zW) (a : Nat) (H : Heap) : Prop :=
  if zK w a = 0 then True
  else if zK w a < 21 then va_at D vwCl (a, .inr (zK w a - 1, zfs w a (zK w a - 1))) H
  else ∃ cA : ClassId, (ArrOfT U cA (zty (zK w a)) ∧ va_RA U cA (zty (zK w a))) ∧ H[a]? = some (vp_cell cA (zar w a))
/-- what may be written: all from B on -/
abbrev zA (B : Nat) : Nat → Prop := fun q => B ≤ q
def zH (D : va_G) (B : Nat) (w : zW) (U : State) (H : Heap) : Prop := (∀ a, zat D U w a H) ∧ (∀ a, zK w a ≠ 0 → B ≤ a) ∧ zS w = H.size
/-- the words of the tables that keep -/
def zT : List Cond := lw_tbl.filter goodWord
/-- what lies below B and is never written: statics' values, fields and rows of constant objects, texts -/
abbrev zE : Type := (Nat → Value) × (Nat → Nat → Option Value) × (Nat → Option (FieldType × Nat × (Nat → Value))) × (Nat → Nat) × (Nat → Option String)
abbrev zVT : Type := Launch × va_G × Nat × (State → Prop) × Room × (List Frame → Array Value → State → State → Prop) × List (Nat × Nat × Nat × Nat) × String × Nat × Option FieldType
/-- what holds through a method's body -/
def zCx (V : zVT) (cd : ByteArray) (ow : String) (p : Program) (s : State) (m : MethodId) (args : Array Value) (meth : Method) (c : Code) : Prop :=
  p.tables.exec = Jvm.exec ∧ c.code = cd ∧ c.maxLocals = V.2.2.2.2.2.2.2.2.1 ∧ s.vm.findClass ow = some m.cls ∧ (∀ w ∈ zT, w.before args s = true) ∧ meth.sig.returnType = V.2.2.2.2.2.2.2.2.2 ∧ meth.locks = false ∧ c.exceptionTable.toList = tableOf V.2.2.2.2.2.2.1 ∧ meth.name = V.2.2.2.2.2.2.2.1 ∧ va_K V.2.1 vwCl [] s ∧ V.2.2.2.1 s ∧ V.2.2.1 ≤ s.heap.size ∧ V.1.stackTraces = false
def zL (lsA : Array Slot) (n : Nat) (ls : List (Option Value)) : Prop := lsA.size = n ∧ lv_wf lsA ∧ ls.length ≤ n ∧ ∀ (i : Nat) (v : Value), ls[i]? = some (some v) → lsA[i]? = some (.val v)
/-- THE JUDGEMENT: from here the body comes to its end, on every heap that holds the world -/
def zR (V : zVT) (cd : ByteArray) (ow : String) (pc : Nat) (ls : List (Option Value)) (st : List Value) (w : zW) (b : Nat × Nat) : Prop :=
  ∀ (p : Program) (e : Env) (s : State) (m : MethodId) (args : Array Value) (below : List Frame) (meth : Method) (c : Code), zCx V cd ow p s m args meth c →
    ∀ (H : Heap) (locs : List Loc) (lsA : Array Slot), zL lsA V.2.2.2.2.2.2.2.2.1 ls → zH V.2.1 V.2.2.1 w s H → va_S (zA V.2.2.1) s.heap H locs →
      W p V.1 e V.2.2.2.2.1 s m args below meth c H locs b.1 b.2 (V.2.2.2.2.2.1 below args s) (F0 m pc lsA st)
/-- one word each in a place -/
def zc1 : Option Value → Bool
  | some (.long _) => false
  | some (.double _) => false
  | _ => true
theorem zc1_cat {v : Value} (h : zc1 (some v) = true) : v.category = 1 := by cases v <;> simp_all [zc1, Value.category]
theorem zc1_rf {r : Option Nat} : zc1 (some (va_rf r)) = true := by cases r <;> rfl
theorem zcat_rf {r : Option Nat} : (va_rf r).category = 1 := by cases r <;> rfl
def zrf (v : Value) : Prop := v = .null ∨ ∃ a, v = .ref a
theorem zrf_r {a : Nat} : zrf (.ref a) := Or.inr ⟨a, rfl⟩
theorem zrf_n : zrf .null := Or.inl rfl
theorem zrf_o {r : Option Nat} : zrf (va_rf r) := by cases r <;> first | exact Or.inl rfl | exact Or.inr ⟨_, rfl⟩
def zpr (ls : List (Option Value)) : List (Nat × Value) := (List.range ls.length).filterMap (fun i => match ls[i]? with
  | some (some v) => some (i, v)
  | _ => none)
theorem zpr_mem {ls : List (Option Value)} {i : Nat} {v : Value} : (i, v) ∈ zpr ls ↔ ls[i]? = some (some v) := by
  unfold zpr
  rw [List.mem_filterMap]
  constructor
  · rintro ⟨j, -, hj⟩
    split at hj
    · rename_i u hu
      cases hj
      exact hu
    · cases hj
  · intro h
    have hi := (List.getElem?_eq_some_iff.mp h).1
    exact ⟨i, List.mem_range.mpr hi, by rw [h]⟩
theorem zL_has {lsA : Array Slot} {n : Nat} {ls : List (Option Value)} (h : zL lsA n ls) : lv_has lsA n (zpr ls) := ⟨h.1, h.2.1, fun q hq => h.2.2.2 q.1 q.2 (zpr_mem.mp hq)⟩
theorem zL_at {lsA : Array Slot} {n i : Nat} {ls : List (Option Value)} {v : Value} (h : zL lsA n ls) (hi : ls[i]? = some (some v)) : lsA[i]? = some (.val v) := h.2.2.2 i v hi
theorem zL_st1 {lsA lsB : Array Slot} {n i : Nat} {ls : List (Option Value)} {v : Value} (h : zL lsA n ls) (hi : i < ls.length) (hc : ∀ u, ls[i - 1]? = some u → i = 0 ∨ zc1 u = true)
    (h2 : lv_has lsB n ((i, v) :: (zpr ls).filter (fun q => !(q.1 == i) && !(q.1 + 1 == i && q.2.category == 2)))) : zL lsB n (ls.set i (some v)) := by
  refine ⟨h2.1, h2.2.1, by rw [List.length_set]; exact h.2.2.1, fun j u hj => ?_⟩
  by_cases hji : j = i
  · subst hji
    rw [List.getElem?_set_self hi] at hj
    cases hj
    exact h2.2.2 _ List.mem_cons_self
  · rw [List.getElem?_set_ne (Ne.symm hji)] at hj
    refine h2.2.2 (j, u) (List.mem_cons_of_mem _ (List.mem_filter.mpr ⟨zpr_mem.mpr hj, ?_⟩))
    have h1 : ¬ (j + 1 = i ∧ u.category = 2) := by
      rintro ⟨e1, e2⟩
      subst e1
      rcases hc _ (by rw [Nat.add_sub_cancel]; exact hj) with e | e
      · omega
      · rw [zc1_cat e] at e2; cases e2
    simp only [Bool.and_eq_true, Bool.not_eq_true', beq_eq_false_iff_ne, Bool.and_eq_false_iff]
    refine ⟨hji, ?_⟩
    by_cases e1 : j + 1 = i
    · exact Or.inr (fun e2 => h1 ⟨e1, e2⟩)
    · exact Or.inl e1
theorem zL_st2 {lsA lsB : Array Slot} {n i : Nat} {ls : List (Option Value)} {v : Value} (h : zL lsA n ls) (hi : i + 1 < ls.length) (hc : ∀ u, ls[i - 1]? = some u → i = 0 ∨ zc1 u = true)
    (h2 : lv_has lsB n ((i, v) :: (zpr ls).filter (fun q => !(q.1 == i) && (!(q.1 == i + 1) && !(q.1 + 1 == i && q.2.category == 2))))) : zL lsB n ((ls.set i (some v)).set (i + 1) none) := by
  refine ⟨h2.1, h2.2.1, by rw [List.length_set, List.length_set]; exact h.2.2.1, fun j u hj => ?_⟩
  by_cases hj2 : j = i + 1
  · subst hj2
    rw [List.getElem?_set_self (by rw [List.length_set]; exact hi)] at hj
    cases hj
  rw [List.getElem?_set_ne (Ne.symm hj2)] at hj
  by_cases hji : j = i
  · subst hji
    rw [List.getElem?_set_self (by omega)] at hj
    cases hj
    exact h2.2.2 _ List.mem_cons_self
  · rw [List.getElem?_set_ne (Ne.symm hji)] at hj
    refine h2.2.2 (j, u) (List.mem_cons_of_mem _ (List.mem_filter.mpr ⟨zpr_mem.mpr hj, ?_⟩))
    have h1 : ¬ (j + 1 = i ∧ u.category = 2) := by
      rintro ⟨e1, e2⟩
      subst e1
      rcases hc _ (by rw [Nat.add_sub_cancel]; exact hj) with e | e
      · omega
      · rw [zc1_cat e] at e2; cases e2
    simp only [Bool.and_eq_true, Bool.not_eq_true', beq_eq_false_iff_ne, Bool.and_eq_false_iff]
    refine ⟨hji, hj2, ?_⟩
    by_cases e1 : j + 1 = i
    · exact Or.inr (fun e2 => h1 ⟨e1, e2⟩)
    · exact Or.inl e1
section ZR
variable {V : zVT} {cd : ByteArray} {ow : String} {pc : Nat} {ls : List (Option Value)} {st : List Value} {w : zW} {b : Nat × Nat}

theorem r_iconst {n : Int} {v : Int32} (hd : decode cd pc = .ok (.iconst n, 1)) (hv : Int32.ofInt n = v) (k : zR V cd ow (pc + 1) ls (.int v :: st) w b) : zR V cd ow pc ls (st) w b := by
  intro p e s m args below meth c C H locs lsA hL hH hS
  exact lv_iconst C.1 C.2.1 hd hv (k p e s m args below meth c C H locs lsA hL hH hS)
theorem r_bipush {n : Int} {v : Int32} (hd : decode cd pc = .ok (.bipush n, 2)) (hv : (Int8.ofInt n).toInt32 = v) (k : zR V cd ow (pc + 2) ls (.int v :: st) w b) : zR V cd ow pc ls (st) w b := by
  intro p e s m args below meth c C H locs lsA hL hH hS
  exact lv_bipush C.1 C.2.1 hd hv (k p e s m args below meth c C H locs lsA hL hH hS)
theorem r_sipush {n : Int} {v : Int32} (hd : decode cd pc = .ok (.sipush n, 3)) (hv : (Int16.ofInt n).toInt32 = v) (k : zR V cd ow (pc + 3) ls (.int v :: st) w b) : zR V cd ow pc ls (st) w b := by
  intro p e s m args below meth c C H locs lsA hL hH hS
  exact lv_sipush C.1 C.2.1 hd hv (k p e s m args below meth c C H locs lsA hL hH hS)
theorem r_lconst {n : Fin 2} {v : Int64} (hd : decode cd pc = .ok (.lconst n, 1)) (hv : Int64.ofNat (n : Nat) = v) (k : zR V cd ow (pc + 1) ls (.long v :: st) w b) : zR V cd ow pc ls (st) w b := by
  intro p e s m args below meth c C H locs lsA hL hH hS
  exact lv_lconst C.1 C.2.1 hd hv (k p e s m args below meth c C H locs lsA hL hH hS)
theorem r_null (hd : decode cd pc = .ok (.aconst_null, 1)) (k : zR V cd ow (pc + 1) ls (.null :: st) w b) : zR V cd ow pc ls (st) w b := by
  intro p e s m args below meth c C H locs lsA hL hH hS
  exact lv_null C.1 C.2.1 hd (k p e s m args below meth c C H locs lsA hL hH hS)
theorem r_ldc {ix : Nat} {v : Int32} (hw : Cond.constant ow ix v ∈ zT) (hd : decode cd pc = .ok (.ldc ix, 2)) (k : zR V cd ow (pc + 2) ls (.int v :: st) w b) : zR V cd ow pc ls (st) w b := by
  intro p e s m args below meth c C H locs lsA hL hH hS
  exact lv_ldc C.1 C.2.1 C.2.2.2.1 (C.2.2.2.2.1 _ hw) hd (k p e s m args below meth c C H locs lsA hL hH hS)
theorem r_ldcw {ix : Nat} {v : Int32} (hw : Cond.constant ow ix v ∈ zT) (hd : decode cd pc = .ok (.ldc_w ix, 3)) (k : zR V cd ow (pc + 3) ls (.int v :: st) w b) : zR V cd ow pc ls (st) w b := by
  intro p e s m args below meth c C H locs lsA hL hH hS
  exact lv_ldcw C.1 C.2.1 C.2.2.2.1 (C.2.2.2.2.1 _ hw) hd (k p e s m args below meth c C H locs lsA hL hH hS)
theorem r_ldc2 {ix : Nat} {v : Int64} (hw : Cond.constantLong ow ix v ∈ zT) (hd : decode cd pc = .ok (.ldc2_w ix, 3)) (k : zR V cd ow (pc + 3) ls (.long v :: st) w b) : zR V cd ow pc ls (st) w b := by
  intro p e s m args below meth c C H locs lsA hL hH hS
  exact lv_ldc2 C.1 C.2.1 C.2.2.2.1 (C.2.2.2.2.1 _ hw) hd (k p e s m args below meth c C H locs lsA hL hH hS)
theorem r_iadd {x y : Int32} (hd : decode cd pc = .ok (.iadd, 1)) (k : zR V cd ow (pc + 1) ls (.int (x + y) :: st) w b) : zR V cd ow pc ls (.int y :: .int x :: st) w b := by
  intro p e s m args below meth c C H locs lsA hL hH hS
  exact lv_iadd C.1 C.2.1 hd (k p e s m args below meth c C H locs lsA hL hH hS)
theorem r_isub {x y : Int32} (hd : decode cd pc = .ok (.isub, 1)) (k : zR V cd ow (pc + 1) ls (.int (x - y) :: st) w b) : zR V cd ow pc ls (.int y :: .int x :: st) w b := by
  intro p e s m args below meth c C H locs lsA hL hH hS
  exact lv_isub C.1 C.2.1 hd (k p e s m args below meth c C H locs lsA hL hH hS)
theorem r_imul {x y : Int32} (hd : decode cd pc = .ok (.imul, 1)) (k : zR V cd ow (pc + 1) ls (.int (x * y) :: st) w b) : zR V cd ow pc ls (.int y :: .int x :: st) w b := by
  intro p e s m args below meth c C H locs lsA hL hH hS
  exact lv_imul C.1 C.2.1 hd (k p e s m args below meth c C H locs lsA hL hH hS)
theorem r_iand {x y : Int32} (hd : decode cd pc = .ok (.iand, 1)) (k : zR V cd ow (pc + 1) ls (.int (x &&& y) :: st) w b) : zR V cd ow pc ls (.int y :: .int x :: st) w b := by
  intro p e s m args below meth c C H locs lsA hL hH hS
  exact lv_iand C.1 C.2.1 hd (k p e s m args below meth c C H locs lsA hL hH hS)
theorem r_ior {x y : Int32} (hd : decode cd pc = .ok (.ior, 1)) (k : zR V cd ow (pc + 1) ls (.int (x ||| y) :: st) w b) : zR V cd ow pc ls (.int y :: .int x :: st) w b := by
  intro p e s m args below meth c C H locs lsA hL hH hS
  exact lv_ior C.1 C.2.1 hd (k p e s m args below meth c C H locs lsA hL hH hS)
theorem r_ixor {x y : Int32} (hd : decode cd pc = .ok (.ixor, 1)) (k : zR V cd ow (pc + 1) ls (.int (x ^^^ y) :: st) w b) : zR V cd ow pc ls (.int y :: .int x :: st) w b := by
  intro p e s m args below meth c C H locs lsA hL hH hS
  exact lv_ixor C.1 C.2.1 hd (k p e s m args below meth c C H locs lsA hL hH hS)
theorem r_ishl {x y : Int32} (hd : decode cd pc = .ok (.ishl, 1)) (k : zR V cd ow (pc + 1) ls (.int (x <<< (y &&& 31)) :: st) w b) : zR V cd ow pc ls (.int y :: .int x :: st) w b := by
  intro p e s m args below meth c C H locs lsA hL hH hS
  exact lv_ishl C.1 C.2.1 hd (k p e s m args below meth c C H locs lsA hL hH hS)
theorem r_ishr {x y : Int32} (hd : decode cd pc = .ok (.ishr, 1)) (k : zR V cd ow (pc + 1) ls (.int (x >>> (y &&& 31)) :: st) w b) : zR V cd ow pc ls (.int y :: .int x :: st) w b := by
  intro p e s m args below meth c C H locs lsA hL hH hS
  exact lv_ishr C.1 C.2.1 hd (k p e s m args below meth c C H locs lsA hL hH hS)
theorem r_iushr {x y : Int32} (hd : decode cd pc = .ok (.iushr, 1)) (k : zR V cd ow (pc + 1) ls (.int ((x.toUInt32 >>> (y.toUInt32 &&& Int32.toUInt32 31)).toInt32) :: st) w b) : zR V cd ow pc ls (.int y :: .int x :: st) w b := by
  intro p e s m args below meth c C H locs lsA hL hH hS
  exact lv_iushr C.1 C.2.1 hd rfl (k p e s m args below meth c C H locs lsA hL hH hS)
theorem r_idiv {x y : Int32} (hd : decode cd pc = .ok (.idiv, 1)) (h0 : ¬ y = 0) (k : zR V cd ow (pc + 1) ls (.int (x / y) :: st) w b) : zR V cd ow pc ls (.int y :: .int x :: st) w b := by
  intro p e s m args below meth c C H locs lsA hL hH hS
  exact lv_idiv C.1 C.2.1 hd h0 (k p e s m args below meth c C H locs lsA hL hH hS)
theorem r_irem {x y : Int32} (hd : decode cd pc = .ok (.irem, 1)) (h0 : ¬ y = 0) (k : zR V cd ow (pc + 1) ls (.int (x - x / y * y) :: st) w b) : zR V cd ow pc ls (.int y :: .int x :: st) w b := by
  intro p e s m args below meth c C H locs lsA hL hH hS
  exact lv_irem C.1 C.2.1 hd h0 (k p e s m args below meth c C H locs lsA hL hH hS)
theorem r_ladd {x y : Int64} (hd : decode cd pc = .ok (.ladd, 1)) (k : zR V cd ow (pc + 1) ls (.long (x + y) :: st) w b) : zR V cd ow pc ls (.long y :: .long x :: st) w b := by
  intro p e s m args below meth c C H locs lsA hL hH hS
  exact lv_ladd C.1 C.2.1 hd (k p e s m args below meth c C H locs lsA hL hH hS)
theorem r_lsub {x y : Int64} (hd : decode cd pc = .ok (.lsub, 1)) (k : zR V cd ow (pc + 1) ls (.long (x - y) :: st) w b) : zR V cd ow pc ls (.long y :: .long x :: st) w b := by
  intro p e s m args below meth c C H locs lsA hL hH hS
  exact lv_lsub C.1 C.2.1 hd (k p e s m args below meth c C H locs lsA hL hH hS)
theorem r_lmul {x y : Int64} (hd : decode cd pc = .ok (.lmul, 1)) (k : zR V cd ow (pc + 1) ls (.long (x * y) :: st) w b) : zR V cd ow pc ls (.long y :: .long x :: st) w b := by
  intro p e s m args below meth c C H locs lsA hL hH hS
  exact lv_lmul C.1 C.2.1 hd (k p e s m args below meth c C H locs lsA hL hH hS)
theorem r_land {x y : Int64} (hd : decode cd pc = .ok (.land, 1)) (k : zR V cd ow (pc + 1) ls (.long (x &&& y) :: st) w b) : zR V cd ow pc ls (.long y :: .long x :: st) w b := by
  intro p e s m args below meth c C H locs lsA hL hH hS
  exact lv_land C.1 C.2.1 hd (k p e s m args below meth c C H locs lsA hL hH hS)
theorem r_lor {x y : Int64} (hd : decode cd pc = .ok (.lor, 1)) (k : zR V cd ow (pc + 1) ls (.long (x ||| y) :: st) w b) : zR V cd ow pc ls (.long y :: .long x :: st) w b := by
  intro p e s m args below meth c C H locs lsA hL hH hS
  exact lv_lor C.1 C.2.1 hd (k p e s m args below meth c C H locs lsA hL hH hS)
theorem r_lxor {x y : Int64} (hd : decode cd pc = .ok (.lxor, 1)) (k : zR V cd ow (pc + 1) ls (.long (x ^^^ y) :: st) w b) : zR V cd ow pc ls (.long y :: .long x :: st) w b := by
  intro p e s m args below meth c C H locs lsA hL hH hS
  exact lv_lxor C.1 C.2.1 hd (k p e s m args below meth c C H locs lsA hL hH hS)
theorem r_ldiv {x y : Int64} (hd : decode cd pc = .ok (.ldiv, 1)) (h0 : ¬ y = 0) (k : zR V cd ow (pc + 1) ls (.long (x / y) :: st) w b) : zR V cd ow pc ls (.long y :: .long x :: st) w b := by
  intro p e s m args below meth c C H locs lsA hL hH hS
  exact lv_ldiv C.1 C.2.1 hd h0 (k p e s m args below meth c C H locs lsA hL hH hS)
theorem r_lrem {x y : Int64} (hd : decode cd pc = .ok (.lrem, 1)) (h0 : ¬ y = 0) (k : zR V cd ow (pc + 1) ls (.long (x - x / y * y) :: st) w b) : zR V cd ow pc ls (.long y :: .long x :: st) w b := by
  intro p e s m args below meth c C H locs lsA hL hH hS
  exact lv_lrem C.1 C.2.1 hd h0 (k p e s m args below meth c C H locs lsA hL hH hS)
theorem r_lshl {x : Int64} {y : Int32} (hd : decode cd pc = .ok (.lshl, 1)) (k : zR V cd ow (pc + 1) ls (.long (x <<< (y.toInt64 &&& 63)) :: st) w b) : zR V cd ow pc ls (.int y :: .long x :: st) w b := by
  intro p e s m args below meth c C H locs lsA hL hH hS
  exact lv_lshl C.1 C.2.1 hd rfl (k p e s m args below meth c C H locs lsA hL hH hS)
theorem r_lshr {x : Int64} {y : Int32} (hd : decode cd pc = .ok (.lshr, 1)) (k : zR V cd ow (pc + 1) ls (.long (x >>> (y.toInt64 &&& 63)) :: st) w b) : zR V cd ow pc ls (.int y :: .long x :: st) w b := by
  intro p e s m args below meth c C H locs lsA hL hH hS
  exact lv_lshr C.1 C.2.1 hd rfl (k p e s m args below meth c C H locs lsA hL hH hS)
theorem r_lushr {x : Int64} {y : Int32} (hd : decode cd pc = .ok (.lushr, 1)) (k : zR V cd ow (pc + 1) ls (.long ((x.toUInt64 >>> (y.toInt64.toUInt64 &&& Int64.toUInt64 63)).toInt64) :: st) w b) : zR V cd ow pc ls (.int y :: .long x :: st) w b := by
  intro p e s m args below meth c C H locs lsA hL hH hS
  exact lv_lushr C.1 C.2.1 hd rfl (k p e s m args below meth c C H locs lsA hL hH hS)
theorem r_lcmp {x y : Int64} (hd : decode cd pc = .ok (.lcmp, 1)) (k : zR V cd ow (pc + 1) ls (.int (lg_cmp x y) :: st) w b) : zR V cd ow pc ls (.long y :: .long x :: st) w b := by
  intro p e s m args below meth c C H locs lsA hL hH hS
  exact W.lcmp C.1 C.2.1 hd (k p e s m args below meth c C H locs lsA hL hH hS)
theorem r_ineg {x : Int32} (hd : decode cd pc = .ok (.ineg, 1)) (k : zR V cd ow (pc + 1) ls (.int (-x) :: st) w b) : zR V cd ow pc ls (.int x :: st) w b := by
  intro p e s m args below meth c C H locs lsA hL hH hS
  exact lv_ineg C.1 C.2.1 hd (k p e s m args below meth c C H locs lsA hL hH hS)
theorem r_lneg {x : Int64} (hd : decode cd pc = .ok (.lneg, 1)) (k : zR V cd ow (pc + 1) ls (.long (-x) :: st) w b) : zR V cd ow pc ls (.long x :: st) w b := by
  intro p e s m args below meth c C H locs lsA hL hH hS
  exact lv_lneg C.1 C.2.1 hd (k p e s m args below meth c C H locs lsA hL hH hS)
theorem r_i2l {x : Int32} (hd : decode cd pc = .ok (.i2l, 1)) (k : zR V cd ow (pc + 1) ls (.long x.toInt64 :: st) w b) : zR V cd ow pc ls (.int x :: st) w b := by
  intro p e s m args below meth c C H locs lsA hL hH hS
  exact lv_i2l C.1 C.2.1 hd rfl (k p e s m args below meth c C H locs lsA hL hH hS)
theorem r_l2i {x : Int64} (hd : decode cd pc = .ok (.l2i, 1)) (k : zR V cd ow (pc + 1) ls (.int x.toInt32 :: st) w b) : zR V cd ow pc ls (.long x :: st) w b := by
  intro p e s m args below meth c C H locs lsA hL hH hS
  exact lv_l2i C.1 C.2.1 hd rfl (k p e s m args below meth c C H locs lsA hL hH hS)
theorem r_i2b {x : Int32} (hd : decode cd pc = .ok (.i2b, 1)) (k : zR V cd ow (pc + 1) ls (.int x.toInt8.toInt32 :: st) w b) : zR V cd ow pc ls (.int x :: st) w b := by
  intro p e s m args below meth c C H locs lsA hL hH hS
  exact lv_i2b C.1 C.2.1 hd rfl (k p e s m args below meth c C H locs lsA hL hH hS)
theorem r_i2s {x : Int32} (hd : decode cd pc = .ok (.i2s, 1)) (k : zR V cd ow (pc + 1) ls (.int x.toInt16.toInt32 :: st) w b) : zR V cd ow pc ls (.int x :: st) w b := by
  intro p e s m args below meth c C H locs lsA hL hH hS
  exact lv_i2s C.1 C.2.1 hd rfl (k p e s m args below meth c C H locs lsA hL hH hS)
theorem r_i2c {x : Int32} (hd : decode cd pc = .ok (.i2c, 1)) (k : zR V cd ow (pc + 1) ls (.int (x.toUInt32 % 65536).toInt32 :: st) w b) : zR V cd ow pc ls (.int x :: st) w b := by
  intro p e s m args below meth c C H locs lsA hL hH hS
  exact lv_i2c C.1 C.2.1 hd rfl (k p e s m args below meth c C H locs lsA hL hH hS)
theorem r_dup {v : Value} (hd : decode cd pc = .ok (.dup, 1)) (hc : v.category = 1) (k : zR V cd ow (pc + 1) ls (v :: v :: st) w b) : zR V cd ow pc ls (v :: st) w b := by
  intro p e s m args below meth c C H locs lsA hL hH hS
  exact lv_dup C.1 C.2.1 hd hc (k p e s m args below meth c C H locs lsA hL hH hS)
theorem r_pop {v : Value} (hd : decode cd pc = .ok (.pop, 1)) (hc : v.category = 1) (k : zR V cd ow (pc + 1) ls (st) w b) : zR V cd ow pc ls (v :: st) w b := by
  intro p e s m args below meth c C H locs lsA hL hH hS
  exact lv_pop C.1 C.2.1 hd hc (k p e s m args below meth c C H locs lsA hL hH hS)
theorem r_dup_x1 {v u : Value} (hd : decode cd pc = .ok (.dup_x1, 1)) (hc : v.category = 1) (hc2 : u.category = 1) (k : zR V cd ow (pc + 1) ls (v :: u :: v :: st) w b) : zR V cd ow pc ls (v :: u :: st) w b := by
  intro p e s m args below meth c C H locs lsA hL hH hS
  exact lv_dup_x1 C.1 C.2.1 hd hc hc2 (k p e s m args below meth c C H locs lsA hL hH hS)
theorem r_dup2 {v u : Value} (hd : decode cd pc = .ok (.dup2, 1)) (hc : v.category = 1) (hc2 : u.category = 1) (k : zR V cd ow (pc + 1) ls (v :: u :: v :: u :: st) w b) : zR V cd ow pc ls (v :: u :: st) w b := by
  intro p e s m args below meth c C H locs lsA hL hH hS
  exact lv_dup2_11 C.1 C.2.1 hd hc hc2 (k p e s m args below meth c C H locs lsA hL hH hS)
theorem r_dup2L {v : Value} (hd : decode cd pc = .ok (.dup2, 1)) (hc : v.category = 2) (k : zR V cd ow (pc + 1) ls (v :: v :: st) w b) : zR V cd ow pc ls (v :: st) w b := by
  intro p e s m args below meth c C H locs lsA hL hH hS
  exact lv_dup2_2 C.1 C.2.1 hd hc (k p e s m args below meth c C H locs lsA hL hH hS)
theorem r_pop2L {v : Value} (hd : decode cd pc = .ok (.pop2, 1)) (hc : v.category = 2) (k : zR V cd ow (pc + 1) ls (st) w b) : zR V cd ow pc ls (v :: st) w b := by
  intro p e s m args below meth c C H locs lsA hL hH hS
  exact lv_pop2_2 C.1 C.2.1 hd hc (k p e s m args below meth c C H locs lsA hL hH hS)
theorem r_goto {off : Int} {t : Nat} (hd : decode cd pc = .ok (.goto off, 3)) (ht : (pc : Int) + off = (t : Int)) (k : zR V cd ow (t) ls (st) w b) : zR V cd ow pc ls (st) w b := by
  intro p e s m args below meth c C H locs lsA hL hH hS
  exact lv_goto C.1 C.2.1 hd ht (k p e s m args below meth c C H locs lsA hL hH hS)
theorem r_iloadg {x : Int32}{i : Nat} (hd : decode cd pc = .ok (.iload i, 2)) (hl : ls[i]? = some (some (.int x))) (k : zR V cd ow (pc + 2) ls (.int x :: st) w b) : zR V cd ow pc ls (st) w b := by
  intro p e s m args below meth c C H locs lsA hL hH hS
  exact lv_iload C.1 C.2.1 hd (zL_at hL hl) (k p e s m args below meth c C H locs lsA hL hH hS)
theorem r_iloadn {x : Int32}{i : Nat} {q : Fin 4} (hd : decode cd pc = .ok (.iload_n q, 1)) (hi : (q : Nat) = i) (hl : ls[i]? = some (some (.int x))) (k : zR V cd ow (pc + 1) ls (.int x :: st) w b) : zR V cd ow pc ls (st) w b := by
  intro p e s m args below meth c C H locs lsA hL hH hS
  exact lv_iload_n C.1 C.2.1 hd hi (zL_at hL hl) (k p e s m args below meth c C H locs lsA hL hH hS)
theorem r_lloadg {x : Int64}{i : Nat} (hd : decode cd pc = .ok (.lload i, 2)) (hl : ls[i]? = some (some (.long x))) (k : zR V cd ow (pc + 2) ls (.long x :: st) w b) : zR V cd ow pc ls (st) w b := by
  intro p e s m args below meth c C H locs lsA hL hH hS
  exact lv_lload C.1 C.2.1 hd (zL_at hL hl) (k p e s m args below meth c C H locs lsA hL hH hS)
theorem r_lloadn {x : Int64}{i : Nat} {q : Fin 4} (hd : decode cd pc = .ok (.lload_n q, 1)) (hi : (q : Nat) = i) (hl : ls[i]? = some (some (.long x))) (k : zR V cd ow (pc + 1) ls (.long x :: st) w b) : zR V cd ow pc ls (st) w b := by
  intro p e s m args below meth c C H locs lsA hL hH hS
  exact lv_lload_n C.1 C.2.1 hd hi (zL_at hL hl) (k p e s m args below meth c C H locs lsA hL hH hS)
theorem r_aloadg {v : Value} {i : Nat} (hv : zrf v) (hd : decode cd pc = .ok (.aload i, 2)) (hl : ls[i]? = some (some v)) (k : zR V cd ow (pc + 2) ls (v :: st) w b) : zR V cd ow pc ls st w b := by
  intro p e s m args below meth c C H locs lsA hL hH hS
  rcases hv with rfl | ⟨a, rfl⟩
  · exact lv_aloadN C.1 C.2.1 hd (zL_at hL hl) (k p e s m args below meth c C H locs lsA hL hH hS)
  · exact lv_aload C.1 C.2.1 hd (zL_at hL hl) (k p e s m args below meth c C H locs lsA hL hH hS)
theorem r_aloadn {v : Value} {i : Nat} {q : Fin 4} (hv : zrf v) (hd : decode cd pc = .ok (.aload_n q, 1)) (hi : (q : Nat) = i) (hl : ls[i]? = some (some v)) (k : zR V cd ow (pc + 1) ls (v :: st) w b) : zR V cd ow pc ls st w b := by
  intro p e s m args below meth c C H locs lsA hL hH hS
  rcases hv with rfl | ⟨a, rfl⟩
  · exact lv_aload_nN C.1 C.2.1 hd hi (zL_at hL hl) (k p e s m args below meth c C H locs lsA hL hH hS)
  · exact lv_aload_n C.1 C.2.1 hd hi (zL_at hL hl) (k p e s m args below meth c C H locs lsA hL hH hS)
theorem r_istoreg {x : Int32} {i : Nat} (hd : decode cd pc = .ok (.istore i, 2)) (hi : i < ls.length) (hc : ∀ u, ls[i - 1]? = some u → i = 0 ∨ zc1 u = true) (k : zR V cd ow (pc + 2) (ls.set i (some (.int x))) st w b) : zR V cd ow pc ls (.int x :: st) w b := by
  intro p e s m args below meth c C H locs lsA hL hH hS
  exact lv_istore C.1 C.2.1 hd (zL_has hL) (Nat.lt_of_lt_of_le hi hL.2.2.1) rfl (fun lsB h2 => k p e s m args below meth c C H locs lsB (zL_st1 hL hi hc h2) hH hS)
theorem r_istoren {x : Int32} {i : Nat} {q : Fin 4} (hd : decode cd pc = .ok (.istore_n q, 1)) (hq : (q : Nat) = i) (hi : i < ls.length) (hc : ∀ u, ls[i - 1]? = some u → i = 0 ∨ zc1 u = true) (k : zR V cd ow (pc + 1) (ls.set i (some (.int x))) st w b) : zR V cd ow pc ls (.int x :: st) w b := by
  intro p e s m args below meth c C H locs lsA hL hH hS
  exact lv_istore_n C.1 C.2.1 hd hq (zL_has hL) (Nat.lt_of_lt_of_le hi hL.2.2.1) rfl (fun lsB h2 => k p e s m args below meth c C H locs lsB (zL_st1 hL hi hc h2) hH hS)
theorem r_lstoreg {x : Int64} {i : Nat} (hd : decode cd pc = .ok (.lstore i, 2)) (hi : i + 1 < ls.length) (hc : ∀ u, ls[i - 1]? = some u → i = 0 ∨ zc1 u = true) (k : zR V cd ow (pc + 2) ((ls.set i (some (.long x))).set (i + 1) none) st w b) : zR V cd ow pc ls (.long x :: st) w b := by
  intro p e s m args below meth c C H locs lsA hL hH hS
  exact lv_lstore C.1 C.2.1 hd (zL_has hL) (Nat.lt_of_lt_of_le hi hL.2.2.1) rfl (fun lsB h2 => k p e s m args below meth c C H locs lsB (zL_st2 hL hi hc h2) hH hS)
theorem r_lstoren {x : Int64} {i : Nat} {q : Fin 4} (hd : decode cd pc = .ok (.lstore_n q, 1)) (hq : (q : Nat) = i) (hi : i + 1 < ls.length) (hc : ∀ u, ls[i - 1]? = some u → i = 0 ∨ zc1 u = true) (k : zR V cd ow (pc + 1) ((ls.set i (some (.long x))).set (i + 1) none) st w b) : zR V cd ow pc ls (.long x :: st) w b := by
  intro p e s m args below meth c C H locs lsA hL hH hS
  exact lv_lstore_n C.1 C.2.1 hd hq (zL_has hL) (Nat.lt_of_lt_of_le hi hL.2.2.1) rfl (fun lsB h2 => k p e s m args below meth c C H locs lsB (zL_st2 hL hi hc h2) hH hS)
theorem r_astoreg {x : Nat} {i : Nat} (hd : decode cd pc = .ok (.astore i, 2)) (hi : i < ls.length) (hc : ∀ u, ls[i - 1]? = some u → i = 0 ∨ zc1 u = true) (k : zR V cd ow (pc + 2) (ls.set i (some (.ref x))) st w b) : zR V cd ow pc ls (.ref x :: st) w b := by
  intro p e s m args below meth c C H locs lsA hL hH hS
  exact lv_astore C.1 C.2.1 hd (zL_has hL) (Nat.lt_of_lt_of_le hi hL.2.2.1) rfl (fun lsB h2 => k p e s m args below meth c C H locs lsB (zL_st1 hL hi hc h2) hH hS)
theorem r_astoren {x : Nat} {i : Nat} {q : Fin 4} (hd : decode cd pc = .ok (.astore_n q, 1)) (hq : (q : Nat) = i) (hi : i < ls.length) (hc : ∀ u, ls[i - 1]? = some u → i = 0 ∨ zc1 u = true) (k : zR V cd ow (pc + 1) (ls.set i (some (.ref x))) st w b) : zR V cd ow pc ls (.ref x :: st) w b := by
  intro p e s m args below meth c C H locs lsA hL hH hS
  exact lv_astore_n C.1 C.2.1 hd hq (zL_has hL) (Nat.lt_of_lt_of_le hi hL.2.2.1) rfl (fun lsB h2 => k p e s m args below meth c C H locs lsB (zL_st1 hL hi hc h2) hH hS)
theorem r_astoregN {i : Nat} (hd : decode cd pc = .ok (.astore i, 2)) (hi : i < ls.length) (hc : ∀ u, ls[i - 1]? = some u → i = 0 ∨ zc1 u = true) (k : zR V cd ow (pc + 2) (ls.set i (some (.null))) st w b) : zR V cd ow pc ls (.null :: st) w b := by
  intro p e s m args below meth c C H locs lsA hL hH hS
  exact lv_astoreN C.1 C.2.1 hd (zL_has hL) (Nat.lt_of_lt_of_le hi hL.2.2.1) rfl (fun lsB h2 => k p e s m args below meth c C H locs lsB (zL_st1 hL hi hc h2) hH hS)
theorem r_astorenN {i : Nat} {q : Fin 4} (hd : decode cd pc = .ok (.astore_n q, 1)) (hq : (q : Nat) = i) (hi : i < ls.length) (hc : ∀ u, ls[i - 1]? = some u → i = 0 ∨ zc1 u = true) (k : zR V cd ow (pc + 1) (ls.set i (some (.null))) st w b) : zR V cd ow pc ls (.null :: st) w b := by
  intro p e s m args below meth c C H locs lsA hL hH hS
  exact lv_astore_nN C.1 C.2.1 hd hq (zL_has hL) (Nat.lt_of_lt_of_le hi hL.2.2.1) rfl (fun lsB h2 => k p e s m args below meth c C H locs lsB (zL_st1 hL hi hc h2) hH hS)
theorem r_iincg {i : Nat} {n : Int} {x v : Int32} (hd : decode cd pc = .ok (.iinc i n, 3)) (hl : ls[i]? = some (some (.int x))) (hv : x + Int32.ofInt n = v) (hc : ∀ u, ls[i - 1]? = some u → i = 0 ∨ zc1 u = true) (k : zR V cd ow (pc + 3) (ls.set i (some (.int v))) st w b) : zR V cd ow pc ls st w b := by
  intro p e s m args below meth c C H locs lsA hL hH hS
  have hi := (List.getElem?_eq_some_iff.mp hl).1
  obtain ⟨j, hj⟩ := List.getElem?_of_mem (zpr_mem.mpr hl)
  exact lv_iinc C.1 C.2.1 hd (zL_has hL) hj hv (Nat.lt_of_lt_of_le hi hL.2.2.1) rfl (fun lsB h2 => k p e s m args below meth c C H locs lsB (zL_st1 hL hi hc h2) hH hS)
theorem r_ifeq {x : Int32} {off : Int} {t : Nat} (hd : decode cd pc = .ok (.ifCond .eq off, 3)) (ht : (pc : Int) + off = (t : Int)) (kt : x = 0 → zR V cd ow t ls st w b) (kf : ¬ x = 0 → zR V cd ow (pc + 3) ls st w b) : zR V cd ow pc ls (.int x :: st) w b := by
  intro p e s m args below meth c C H locs lsA hL hH hS
  exact lv_if_eq C.1 C.2.1 hd ht (fun q => kt q p e s m args below meth c C H locs lsA hL hH hS) (fun q => kf q p e s m args below meth c C H locs lsA hL hH hS)
theorem r_iceq {x y : Int32} {off : Int} {t : Nat} (hd : decode cd pc = .ok (.if_icmp .eq off, 3)) (ht : (pc : Int) + off = (t : Int)) (kt : x = y → zR V cd ow t ls st w b) (kf : ¬ x = y → zR V cd ow (pc + 3) ls st w b) : zR V cd ow pc ls (.int y :: .int x :: st) w b := by
  intro p e s m args below meth c C H locs lsA hL hH hS
  exact lv_icmp_eq C.1 C.2.1 hd ht (fun q => kt q p e s m args below meth c C H locs lsA hL hH hS) (fun q => kf q p e s m args below meth c C H locs lsA hL hH hS)
theorem r_ifne {x : Int32} {off : Int} {t : Nat} (hd : decode cd pc = .ok (.ifCond .ne off, 3)) (ht : (pc : Int) + off = (t : Int)) (kt : ¬ x = 0 → zR V cd ow t ls st w b) (kf : x = 0 → zR V cd ow (pc + 3) ls st w b) : zR V cd ow pc ls (.int x :: st) w b := by
  intro p e s m args below meth c C H locs lsA hL hH hS
  exact lv_if_ne C.1 C.2.1 hd ht (fun q => kt q p e s m args below meth c C H locs lsA hL hH hS) (fun q => kf q p e s m args below meth c C H locs lsA hL hH hS)
theorem r_icne {x y : Int32} {off : Int} {t : Nat} (hd : decode cd pc = .ok (.if_icmp .ne off, 3)) (ht : (pc : Int) + off = (t : Int)) (kt : ¬ x = y → zR V cd ow t ls st w b) (kf : x = y → zR V cd ow (pc + 3) ls st w b) : zR V cd ow pc ls (.int y :: .int x :: st) w b := by
  intro p e s m args below meth c C H locs lsA hL hH hS
  exact lv_icmp_ne C.1 C.2.1 hd ht (fun q => kt q p e s m args below meth c C H locs lsA hL hH hS) (fun q => kf q p e s m args below meth c C H locs lsA hL hH hS)
theorem r_iflt {x : Int32} {off : Int} {t : Nat} (hd : decode cd pc = .ok (.ifCond .lt off, 3)) (ht : (pc : Int) + off = (t : Int)) (kt : x < 0 → zR V cd ow t ls st w b) (kf : ¬ x < 0 → zR V cd ow (pc + 3) ls st w b) : zR V cd ow pc ls (.int x :: st) w b := by
  intro p e s m args below meth c C H locs lsA hL hH hS
  exact lv_if_lt C.1 C.2.1 hd ht (fun q => kt q p e s m args below meth c C H locs lsA hL hH hS) (fun q => kf q p e s m args below meth c C H locs lsA hL hH hS)
theorem r_iclt {x y : Int32} {off : Int} {t : Nat} (hd : decode cd pc = .ok (.if_icmp .lt off, 3)) (ht : (pc : Int) + off = (t : Int)) (kt : x < y → zR V cd ow t ls st w b) (kf : ¬ x < y → zR V cd ow (pc + 3) ls st w b) : zR V cd ow pc ls (.int y :: .int x :: st) w b := by
  intro p e s m args below meth c C H locs lsA hL hH hS
  exact lv_icmp_lt C.1 C.2.1 hd ht (fun q => kt q p e s m args below meth c C H locs lsA hL hH hS) (fun q => kf q p e s m args below meth c C H locs lsA hL hH hS)
theorem r_ifge {x : Int32} {off : Int} {t : Nat} (hd : decode cd pc = .ok (.ifCond .ge off, 3)) (ht : (pc : Int) + off = (t : Int)) (kt : 0 ≤ x → zR V cd ow t ls st w b) (kf : ¬ 0 ≤ x → zR V cd ow (pc + 3) ls st w b) : zR V cd ow pc ls (.int x :: st) w b := by
  intro p e s m args below meth c C H locs lsA hL hH hS
  exact lv_if_ge C.1 C.2.1 hd ht (fun q => kt q p e s m args below meth c C H locs lsA hL hH hS) (fun q => kf q p e s m args below meth c C H locs lsA hL hH hS)
theorem r_icge {x y : Int32} {off : Int} {t : Nat} (hd : decode cd pc = .ok (.if_icmp .ge off, 3)) (ht : (pc : Int) + off = (t : Int)) (kt : y ≤ x → zR V cd ow t ls st w b) (kf : ¬ y ≤ x → zR V cd ow (pc + 3) ls st w b) : zR V cd ow pc ls (.int y :: .int x :: st) w b := by
  intro p e s m args below meth c C H locs lsA hL hH hS
  exact lv_icmp_ge C.1 C.2.1 hd ht (fun q => kt q p e s m args below meth c C H locs lsA hL hH hS) (fun q => kf q p e s m args below meth c C H locs lsA hL hH hS)
theorem r_ifgt {x : Int32} {off : Int} {t : Nat} (hd : decode cd pc = .ok (.ifCond .gt off, 3)) (ht : (pc : Int) + off = (t : Int)) (kt : 0 < x → zR V cd ow t ls st w b) (kf : ¬ 0 < x → zR V cd ow (pc + 3) ls st w b) : zR V cd ow pc ls (.int x :: st) w b := by
  intro p e s m args below meth c C H locs lsA hL hH hS
  exact lv_if_gt C.1 C.2.1 hd ht (fun q => kt q p e s m args below meth c C H locs lsA hL hH hS) (fun q => kf q p e s m args below meth c C H locs lsA hL hH hS)
theorem r_icgt {x y : Int32} {off : Int} {t : Nat} (hd : decode cd pc = .ok (.if_icmp .gt off, 3)) (ht : (pc : Int) + off = (t : Int)) (kt : y < x → zR V cd ow t ls st w b) (kf : ¬ y < x → zR V cd ow (pc + 3) ls st w b) : zR V cd ow pc ls (.int y :: .int x :: st) w b := by
  intro p e s m args below meth c C H locs lsA hL hH hS
  exact lv_icmp_gt C.1 C.2.1 hd ht (fun q => kt q p e s m args below meth c C H locs lsA hL hH hS) (fun q => kf q p e s m args below meth c C H locs lsA hL hH hS)
theorem r_ifle {x : Int32} {off : Int} {t : Nat} (hd : decode cd pc = .ok (.ifCond .le off, 3)) (ht : (pc : Int) + off = (t : Int)) (kt : x ≤ 0 → zR V cd ow t ls st w b) (kf : ¬ x ≤ 0 → zR V cd ow (pc + 3) ls st w b) : zR V cd ow pc ls (.int x :: st) w b := by
  intro p e s m args below meth c C H locs lsA hL hH hS
  exact lv_if_le C.1 C.2.1 hd ht (fun q => kt q p e s m args below meth c C H locs lsA hL hH hS) (fun q => kf q p e s m args below meth c C H locs lsA hL hH hS)
theorem r_icle {x y : Int32} {off : Int} {t : Nat} (hd : decode cd pc = .ok (.if_icmp .le off, 3)) (ht : (pc : Int) + off = (t : Int)) (kt : x ≤ y → zR V cd ow t ls st w b) (kf : ¬ x ≤ y → zR V cd ow (pc + 3) ls st w b) : zR V cd ow pc ls (.int y :: .int x :: st) w b := by
  intro p e s m args below meth c C H locs lsA hL hH hS
  exact lv_icmp_le C.1 C.2.1 hd ht (fun q => kt q p e s m args below meth c C H locs lsA hL hH hS) (fun q => kf q p e s m args below meth c C H locs lsA hL hH hS)
theorem r_aceq {rx ry : Option Nat} {off : Int} {t : Nat} (hd : decode cd pc = .ok (.if_acmp .eq off, 3)) (ht : (pc : Int) + off = (t : Int)) (kt : rx = ry → zR V cd ow t ls st w b) (kf : ¬ rx = ry → zR V cd ow (pc + 3) ls st w b) : zR V cd ow pc ls (va_rf ry :: va_rf rx :: st) w b := by
  intro p e s m args below meth c C H locs lsA hL hH hS
  exact lv_acmp_eq C.1 C.2.1 hd ht (fun q => kt q p e s m args below meth c C H locs lsA hL hH hS) (fun q => kf q p e s m args below meth c C H locs lsA hL hH hS)
theorem r_acne {rx ry : Option Nat} {off : Int} {t : Nat} (hd : decode cd pc = .ok (.if_acmp .ne off, 3)) (ht : (pc : Int) + off = (t : Int)) (kt : ¬ rx = ry → zR V cd ow t ls st w b) (kf : rx = ry → zR V cd ow (pc + 3) ls st w b) : zR V cd ow pc ls (va_rf ry :: va_rf rx :: st) w b := by
  intro p e s m args below meth c C H locs lsA hL hH hS
  exact lv_acmp_ne C.1 C.2.1 hd ht (fun q => kt q p e s m args below meth c C H locs lsA hL hH hS) (fun q => kf q p e s m args below meth c C H locs lsA hL hH hS)
theorem r_ifnull {r : Option Nat} {off : Int} {t : Nat} (hd : decode cd pc = .ok (.ifnull off, 3)) (ht : (pc : Int) + off = (t : Int)) (kt : r = none → zR V cd ow t ls st w b) (kf : ∀ a, r = some a → zR V cd ow (pc + 3) ls st w b) : zR V cd ow pc ls (va_rf r :: st) w b := by
  intro p e s m args below meth c C H locs lsA hL hH hS
  cases r with
  | none => exact lv_ifnullN C.1 C.2.1 hd ht (kt rfl p e s m args below meth c C H locs lsA hL hH hS)
  | some a => exact lv_ifnull C.1 C.2.1 hd (kf a rfl p e s m args below meth c C H locs lsA hL hH hS)
theorem r_ifnonnull {r : Option Nat} {off : Int} {t : Nat} (hd : decode cd pc = .ok (.ifnonnull off, 3)) (ht : (pc : Int) + off = (t : Int)) (kt : ∀ a, r = some a → zR V cd ow t ls st w b) (kf : r = none → zR V cd ow (pc + 3) ls st w b) : zR V cd ow pc ls (va_rf r :: st) w b := by
  intro p e s m args below meth c C H locs lsA hL hH hS
  cases r with
  | none => exact lv_ifnonnullN C.1 C.2.1 hd (kf rfl p e s m args below meth c C H locs lsA hL hH hS)
  | some a => exact lv_ifnonnull C.1 C.2.1 hd ht (kt a rfl p e s m args below meth c C H locs lsA hL hH hS)
theorem r_tabIn {dflt lo hi : Int} {offs : Array Int} {len : Nat} {x : Int32} {off : Int} {t : Nat} (hd : decode cd pc = .ok (.tableswitch dflt lo hi offs, len)) (h1 : ¬ x.toInt < lo) (h2 : ¬ hi < x.toInt) (ho : offs[(x.toInt - lo).toNat]? = some off) (ht : (pc : Int) + off = (t : Int)) (k : zR V cd ow t ls st w b) : zR V cd ow pc ls (.int x :: st) w b := by
  intro p e s m args below meth c C H locs lsA hL hH hS
  exact lv_tableIn C.1 C.2.1 hd h1 h2 ho ht (k p e s m args below meth c C H locs lsA hL hH hS)
theorem r_tabOut {dflt lo hi : Int} {offs : Array Int} {len : Nat} {x : Int32} {t : Nat} (hd : decode cd pc = .ok (.tableswitch dflt lo hi offs, len)) (h : x.toInt < lo ∨ hi < x.toInt) (ht : (pc : Int) + dflt = (t : Int)) (k : zR V cd ow t ls st w b) : zR V cd ow pc ls (.int x :: st) w b := by
  intro p e s m args below meth c C H locs lsA hL hH hS
  exact lv_tableOut C.1 C.2.1 hd h ht (k p e s m args below meth c C H locs lsA hL hH hS)
theorem r_look {dflt : Int} {ps : Array (Int × Int)} {len : Nat} {x : Int32} {off : Int} {t : Nat} (hd : decode cd pc = .ok (.lookupswitch dflt ps, len)) (hp : (ps.toList.zip (ps.toList.drop 1)).all (fun (a, next) => a.1 < next.1) = true) (ho : Op.lookupswitch.offset ps.toList dflt x.toInt = off) (ht : (pc : Int) + off = (t : Int)) (k : zR V cd ow t ls st w b) : zR V cd ow pc ls (.int x :: st) w b := by
  intro p e s m args below meth c C H locs lsA hL hH hS
  exact lv_lookup C.1 C.2.1 hd hp ho ht (k p e s m args below meth c C H locs lsA hL hH hS)
/-- a number gets a name -/
theorem r_nmi {x : Int32} (k : ∀ y : Int32, y = x → zR V cd ow pc ls (.int y :: st) w b) : zR V cd ow pc ls (.int x :: st) w b := k x rfl
theorem r_nml {x : Int64} (k : ∀ y : Int64, y = x → zR V cd ow pc ls (.long y :: st) w b) : zR V cd ow pc ls (.long x :: st) w b := k x rfl
theorem r_eq {pc2 : Nat} {ls2 : List (Option Value)} {st2 : List Value} {w2 : zW} (k : zR V cd ow pc2 ls2 st2 w2 b) (h1 : pc2 = pc) (h2 : ls2 = ls) (h3 : st2 = st) (h4 : w2 = w) : zR V cd ow pc ls st w b := by
  subst h1; subst h2; subst h3; subst h4
  exact k
theorem r_wid {b2 : Nat × Nat} (h1 : b.1 ≤ b2.1) (h2 : b.2 ≤ b2.2) (k : zR V cd ow pc ls st w b2) : zR V cd ow pc ls st w b := by
  intro p e s m args below meth c C H locs lsA hL hH hS
  exact W.widen h1 h2 (k p e s m args below meth c C H locs lsA hL hH hS)
end ZR
