/-! contracts: a method from its entry; calls -/
/-- the fixed things: the launch, the classes' numbers, the base, what holds below it -/
abbrev zGT : Type := Launch × va_G × Nat × (State → Prop)
/-- what lies below the base stays -/
def zSok (B : Nat) (ST : State → Prop) : Prop := ∀ U U2 : State, U.WarmedH U2.vm → (∀ q : Nat, q < B → U2.heap[q]? = U.heap[q]?) → ST U → ST U2
/-- words of the tables that want a premise of their own; the texts of the throws -/
def zNest : List Cond := [(Jvm.Cond.methodLinkNest "NapkinDeeds" (25 : Nat) ({ cls := "NapkinDeeds$Reade\x72", name := "<init>", desc := "()V" } : Jvm.MethodName) "NapkinDeeds"), (Jvm.Cond.methodLinkNest "NapkinDeeds$Reade\x72" (42 : Nat) ({ cls := "NapkinDeeds$Napkin", name := "<init>", desc := "()V" } : Jvm.MethodName) "NapkinDeeds"), (Jvm.Cond.methodLinkNest "NapkinDeeds$Table" (11 : Nat) ({ cls := "NapkinDeeds$Napkin", name := "<init>", desc := "()V" } : Jvm.MethodName) "NapkinDeeds"), (Jvm.Cond.methodLinkNest "NapkinDeeds$Table" (20 : Nat) ({ cls := "NapkinDeeds$Moment", name := "<init>", desc := "()V" } : Jvm.MethodName) "NapkinDeeds"), (Jvm.Cond.methodLinkNest "NapkinDeeds" (49 : Nat) ({ cls := "NapkinDeeds$Scale", name := "<init>", desc := "()V" } : Jvm.MethodName) "NapkinDeeds"), (Jvm.Cond.methodLinkNest "NapkinDeeds" (56 : Nat) ({ cls := "NapkinDeeds$Ways", name := "<init>", desc := "()V" } : Jvm.MethodName) "NapkinDeeds"), (Jvm.Cond.methodLinkNest "NapkinDeeds$Ways" (41 : Nat) ({ cls := "NapkinDeeds$Lay", name := "<init>", desc := "()V" } : Jvm.MethodName) "NapkinDeeds"), (Jvm.Cond.methodLinkNest "NapkinDeeds" (66 : Nat) ({ cls := "NapkinDeeds$Lay", name := "<init>", desc := "()V" } : Jvm.MethodName) "NapkinDeeds"), (Jvm.Cond.methodLinkNest "NapkinDeeds" (76 : Nat) ({ cls := "NapkinDeeds$Moment", name := "<init>", desc := "()V" } : Jvm.MethodName) "NapkinDeeds"), (Jvm.Cond.methodLinkNest "NapkinDeeds" (94 : Nat) ({ cls := "NapkinDeeds$Tray", name := "<init>", desc := "()V" } : Jvm.MethodName) "NapkinDeeds"), (Jvm.Cond.fieldLinkNest "NapkinDeeds$Reade\x72" (222 : Nat) "NapkinDeeds$Word" "ALL" "[LNapkinDeeds$Word;" "NapkinDeeds")]
def zDecl : List Cond := [.declares ⟨"java/lang/RuntimeException", "<init>", "(Ljava/lang/String;)V"⟩, .declares ⟨"java/lang/Exception", "<init>", "(Ljava/lang/String;)V"⟩, .declares ⟨"java/lang/Throwable", "<init>", "(Ljava/lang/String;)V"⟩, .castable "java/lang/IllegalArgumentException" "java/lang/IllegalArgumentException", .castable "java/util/NoSuchElementException" "java/util/NoSuchElementException", .castable "java/lang/IllegalStateException" "java/lang/IllegalStateException", .castable "java/lang/IndexOutOfBoundsException" "java/lang/IndexOutOfBoundsException"]
def zAOl : List String := ["NapkinDeeds$Moment", "NapkinDeeds$Table", "NapkinDeeds$Tray"]
def zMsg : List (String × Nat × String) := [("NapkinDeeds", 101, "so many bytes are not on the tape"), ("NapkinDeeds$Reade\x72", 242, ";:+-*()[]=<>"), ("NapkinDeeds", 129, "no such cell"), ("NapkinDeeds", 132, "nothing such is told of a cell"), ("NapkinDeeds", 220, "no such column"), ("NapkinDeeds", 166, "a layer below the lowest one"), ("NapkinDeeds", 188, "no such crease"), ("NapkinDeeds", 193, "a fold before the first"), ("NapkinDeeds", 212, "no such guest"), ("NapkinDeeds", 324, "there is no fold"), ("NapkinDeeds", 270, "no such face or mark"), ("NapkinDeeds", 275, "so many deeds can not be undone"), ("NapkinDeeds", 544, "no such tray"), ("NapkinDeeds", 549, "the tray is missing"), ("NapkinDeeds", 284, "nothing such is judged"), ("NapkinDeeds", 309, "not so many times"), ("NapkinDeeds", 418, "not so many folds"), ("NapkinDeeds", 376, "nothing such is told of a row"), ("NapkinDeeds", 392, "not so many folds, or nothing such is told"), ("NapkinDeeds", 406, "no marks to read, or nothing such is told"), ("NapkinDeeds", 465, "not each cell once"), ("NapkinDeeds", 473, "not the numbers of all creases"), ("NapkinDeeds", 506, "nothing seen, or not so many folds"), ("NapkinDeeds", 511, "no such sort, or not so many numbers"), ("NapkinDeeds", 518, "no such place"), ("NapkinDeeds", 551, "no such image"), ("NapkinDeeds", 536, "no image was made"), ("NapkinDeedsModel", 223, "cell"), ("NapkinDeedsModel", 217, "back"), ("NapkinDeedsModel", 202, "guest"), ("NapkinDeedsModel", 231, "worth"), ("NapkinDeedsModel", 190, "wide"), ("NapkinDeedsModel", 192, "high"), ("NapkinDeedsModel", 194, "folds"), ("NapkinDeedsModel", 196, "top"), ("NapkinDeedsModel", 198, "unde\x72"), ("NapkinDeedsModel", 200, "hidden"), ("NapkinDeedsModel", 204, "want"), ("NapkinDeedsModel", 237, "holds"), ("NapkinDeedsModel", 170, "not"), ("NapkinDeedsModel", 168, "and"), ("NapkinDeedsModel", 160, "o\x72"), ("NapkinDeedsModel", 239, "likes"), ("NapkinDeeds$Word", 136, ""), ("NapkinDeeds$Word", 91, "back"), ("NapkinDeeds$Word", 103, "likes"), ("NapkinDeeds$Word", 100, "holds"), ("NapkinDeeds$Word", 112, "not"), ("NapkinDeeds$Word", 94, "guest"), ("NapkinDeeds$Word", 133, "want"), ("NapkinDeeds$Word", 109, "and"), ("NapkinDeeds$Word", 106, "o\x72"), ("NapkinDeeds$Word", 85, "cell"), ("NapkinDeeds$Word", 97, "worth"), ("NapkinDeeds$Word", 115, "wide"), ("NapkinDeeds$Word", 118, "high"), ("NapkinDeeds$Word", 121, "folds"), ("NapkinDeeds$Word", 124, "top"), ("NapkinDeeds$Word", 127, "unde\x72"), ("NapkinDeeds$Word", 130, "hidden")]
def zNcl : List (String × String) := [("java/lang/IllegalStateException", "java/util/NoSuchElementException"), ("java/lang/IllegalArgumentException", "java/util/NoSuchElementException"), ("java/lang/IllegalArgumentException", "java/lang/IllegalStateException"), ("java/lang/IndexOutOfBoundsException", "java/util/NoSuchElementException"), ("java/lang/IndexOutOfBoundsException", "java/lang/IllegalStateException")]
def zST1 (B : Nat) (U : State) : Prop := (∀ w ∈ zNest, va_Nw w U) ∧ (∀ w ∈ zDecl, va_Nw w U) ∧ (∀ C ∈ zAOl, va_AO C U) ∧ vx_Zq Bundle.tN "UNASSIGNED_STACK" Bundle.steD (zA B) U U.heap ∧ vx_Zq Bundle.tN "SUPPRESSED_SENTINEL" Bundle.listD (zA B) U U.heap ∧ (∀ q ∈ zMsg, ∃ a : Nat, vk_R q.1 q.2.1 q.2.2 a U) ∧ ∀ q ∈ zNcl, va_Nc q.1 q.2 U
/-- what is taken of the fixed things -/
def zGok (g : zGT) : Prop := g.1.stackTraces = false ∧ zSok g.2.2.1 g.2.2.2 ∧ ∀ U, g.2.2.2 U → zST1 g.2.2.1 U
def zPre (g : zGT) (w : zW) (U : State) : Prop := zH g.2.1 g.2.2.1 w U U.heap ∧ va_K g.2.1 vwCl [] U ∧ g.2.2.2 U ∧ g.2.2.1 ≤ U.heap.size
def zrm (d : Nat) (b : Nat × Nat) : Room := { frames := d, cells := b.1, slots := b.2, locals := 64 * d }
def zws (y : MethodName) (cd : ByteArray) (nL : Nat) (ret : Option FieldType) : List Cond := Cond.code y cd nL ret :: zT
def zQc (g : zGT) (Q : Option Value → zW → Prop) : Array Value → State → Outcome → State → Prop := fun _ st o t => (∃ (r : Option Value) (w2 : zW), o = .returned r ∧ Q r w2 ∧ zH g.2.1 g.2.2.1 w2 t t.heap) ∧ va_F (zA g.2.2.1) st t
def zXC (g : zGT) (QX : String → zW → Prop) : String → State → State → Prop := fun E st t => (∃ w2 : zW, QX E w2 ∧ zH g.2.1 g.2.2.1 w2 t t.heap) ∧ va_F (zA g.2.2.1) st t
/-- THE CONTRACT: called with these arguments on this world, it returns with Q or throws with QX -/
def zC (g : zGT) (d : Nat) (y : MethodName) (cd : ByteArray) (nL : Nat) (ret : Option FieldType) (args : List Value) (w : zW) (b : Nat × Nat) (Q : Option Value → zW → Prop) (QX : String → zW → Prop) : Prop :=
  vx_Met g.1 y (zws y cd nL ret) (zrm d b) (va_Pc args (zPre g w)) (zQc g Q) (zXC g QX) b.1 b.2 (zA g.2.2.1)
/-- the values of a run: the fixed things, the room, what is owed at the end, the handlers, the method's name, its locals, its type -/
abbrev zVg (g : zGT) (Rm : Room) (QQ : List Frame → Array Value → State → State → Prop) (hh : List (Nat × Nat × Nat × Nat)) (nm : String) (nL : Nat) (ret : Option FieldType) : zVT :=
  (g.1, g.2.1, g.2.2.1, fun s => g.2.2.2 s ∧ zGok g, Rm, QQ, hh, nm, nL, ret)
abbrev zVh (g : zGT) (d : Nat) (hh : List (Nat × Nat × Nat × Nat)) (y : MethodName) (nL : Nat) (ret : Option FieldType) (b : Nat × Nat) (Q : Option Value → zW → Prop) (QX : String → zW → Prop) : zVT :=
  zVg g (zrm d b) (fun below args s => vx_MQ below (zQc g Q) (zXC g QX) args s b.1 b.2 (zA g.2.2.1)) hh y.name nL ret
abbrev zV (g : zGT) (d : Nat) (y : MethodName) (nL : Nat) (ret : Option FieldType) (b : Nat × Nat) (Q : Option Value → zW → Prop) (QX : String → zW → Prop) : zVT := zVh g d [] y nL ret b Q QX
/-- a method's first locals -/
def zLs (n : Nat) (args : List Value) : List (Option Value) := ((args.flatMap fun (v : Value) => if v.category = 2 then [some v, none] else [some v]) ++ List.replicate n none).take n
theorem zL_entry {args : List Value} {n : Nat} (h : (lg_sl args).length ≤ n) : zL ((lg_sl args ++ List.replicate (n - (lg_sl args).length) Slot.unset).toArray) n (zLs n args) := by
  have h0 := lv_entry args h
  refine ⟨h0.1, h0.2.1, ?_, fun i v hv => ?_⟩
  · unfold zLs
    rw [List.length_take]
    omega
  · have key : ∀ (as : List Value) (i : Nat) (v : Value), (as.flatMap fun (v : Value) => if v.category = 2 then [some v, none] else [some v])[i]? = some (some v) → (lg_sl as)[i]? = some (.val v) := by
      intro as
      induction as with
      | nil => intro i v h; simp at h
      | cons u as ih =>
        intro i v h
        unfold lg_sl at ih ⊢
        rw [List.flatMap_cons] at h ⊢
        by_cases hc : u.category = 2
        · rw [if_pos hc] at h ⊢
          match i, h with
          | 0, h => simp at h ⊢; exact h
          | 1, h => simp at h
          | i + 2, h => exact ih i v (by simpa using h)
        · rw [if_neg hc] at h ⊢
          match i, h with
          | 0, h => simp at h ⊢; exact h
          | i + 1, h => exact ih i v (by simpa using h)
    unfold zLs at hv
    have h1 : i < n := by
      have := (List.getElem?_eq_some_iff.mp hv).1
      rw [List.length_take] at this
      omega
    rw [List.getElem?_take_of_lt h1] at hv
    have h2 : (args.flatMap fun (v : Value) => if v.category = 2 then [some v, none] else [some v])[i]? = some (some v) := by
      by_cases hl : i < (args.flatMap fun (v : Value) => if v.category = 2 then [some v, none] else [some v]).length
      · rw [List.getElem?_append_left hl] at hv
        exact hv
      · rw [List.getElem?_append_right (by omega)] at hv
        have := List.mem_of_getElem? hv
        rw [List.mem_replicate] at this
        cases this.2
    have h3 := key args i v h2
    rw [List.getElem?_toArray, List.getElem?_append_left (List.getElem?_eq_some_iff.mp h3).1]
    exact h3
/-- a contract, from its body -/
theorem zC_of {g : zGT} {d : Nat} {y : MethodName} {cd : ByteArray} {nL : Nat} {ret : Option FieldType} {args : List Value} {w : zW} {b : Nat × Nat} {Q : Option Value → zW → Prop} {QX : String → zW → Prop}
    (hok : zGok g) (hy : plainName y.cls = true) (hn : (lg_sl args).length ≤ nL)
    (body : zR (zV g d y nL ret b Q QX) cd y.cls 0 (zLs nL args) [] w (0, 0)) : zC g d y cd nL ret args w b Q QX := by
  refine vx_ofW (cc := cd) (maxL := nL) (ret := ret) hy rfl ?_
  intro p e s m av below meth c s₁ B9 hml ht hv
  obtain ⟨rfl, hP⟩ := hv
  have hts := atoms_spec (ws := zws y cd nL ret) B9.pre
  have C : zCx (zV g d y nL ret b Q QX) cd y.cls p s m args.toArray meth c := by
    refine ⟨B9.exec, B9.bytes, hml, findClass_of_methodNamed B9.named, fun w hw => hts w (List.mem_cons_of_mem _ hw), B9.returns, B9.notSynchronized, ?_, (name_of_methodNamed B9.named B9.method).1, hP.2.1, ⟨hP.2.2.1, hok⟩, hP.2.2.2, hok.1⟩
    show c.exceptionTable.toList = tableOf []
    cases hc : c.exceptionTable.toList with
    | nil => rfl
    | cons x l => exact absurd (ht x (by rw [hc]; exact List.mem_cons_self)) id
  rw [lg_entry_eq]
  exact body p e s m args.toArray below meth c C s.heap [] _ (zL_entry hn) hP.1 va_S.rf
section ZC
variable {V : zVT} {cd : ByteArray} {ow : String} {pc : Nat} {ls : List (Option Value)} {st : List Value} {w : zW} {b : Nat × Nat}
/-- an exception stands at pc -/
def zX (V : zVT) (cd : ByteArray) (ow : String) (pc : Nat) (ls : List (Option Value)) (w : zW) (b : Nat × Nat) (E : String) : Prop :=
  ∀ (p : Program) (e : Env) (s : State) (m : MethodId) (args : Array Value) (below : List Frame) (meth : Method) (c : Code), zCx V cd ow p s m args meth c →
    ∀ (H : Heap) (locs : List Loc) (lsA : Array Slot) (rest : List Value) (q : Addr) (ce : Cell), zL lsA V.2.2.2.2.2.2.2.2.1 ls → zH V.2.1 V.2.2.1 w s H → va_S (zA V.2.2.1) s.heap H locs → H[q]? = some ce → ce.vm = .none → s.vm.findClass E = some ce.cls →
      vx_W p V.1 e V.2.2.2.2.1 s m args below meth c H locs b.1 b.2 (V.2.2.2.2.2.1 below args s) (F0 m pc lsA rest) q
end ZC
section ZD
variable {g : zGT} {d : Nat} {hh : List (Nat × Nat × Nat × Nat)} {y : MethodName} {nL : Nat} {ret : Option FieldType} {bt : Nat × Nat} {Q : Option Value → zW → Prop} {QX : String → zW → Prop}
variable {cd : ByteArray} {ow : String} {pc : Nat} {ls : List (Option Value)} {st : List Value} {w : zW} {b : Nat × Nat}
/-- an exception leaves the method -/
theorem x_out {E : String} (hx : QX E w) (h1 : b.1 ≤ bt.1) (h2 : b.2 ≤ bt.2) : zX (zV g d y nL ret bt Q QX) cd ow pc ls w b E := by
  intro p e s m args below meth c C H locs lsA rest q ce hL hH hS hq hv hcl
  have ht : c.exceptionTable.toList = tableOf [] := C.2.2.2.2.2.2.2.1
  refine vx_out (by rw [ht]; intro x h; cases h) C.2.2.2.2.2.2.1 hq hv hcl (fun t ht2 hvm => ⟨⟨w, hx, zH_moved hvm (by rw [ht2]; exact hH)⟩, hS.F ht2⟩) hS.2.2 h1 h2
theorem zMQ_wid {below : List Frame} {Qc : Array Value → State → Outcome → State → Prop} {XC : String → State → State → Prop} {p : Program} {l : Launch} {e : Env} {R : Room} {s : State} {m : MethodId} {args : Array Value} {meth : Method} {c : Code} {H : Heap} {locs : List Loc} {gf : JFrame} {b bt : Nat × Nat} {free : Addr → Prop}
    (h1 : b.1 ≤ bt.1) (h2 : b.2 ≤ bt.2) (k : W p l e R s m args below meth c H locs bt.1 bt.2 (MQ below Qc args s bt.1 bt.2 free) gf) : W p l e R s m args below meth c H locs b.1 b.2 (vx_MQ below Qc XC args s bt.1 bt.2 free) gf := W.widen h1 h2 (vx_ret k)
/-- returns -/
theorem r_vret (hd : decode cd pc = .ok (.return_, 1)) (hr : ret = none) (h1 : b.1 ≤ bt.1) (h2 : b.2 ≤ bt.2) (hq : Q none w) : zR (zVh g d hh y nL ret bt Q QX) cd ow pc ls [] w b := by
  intro p e s m args below meth c C H locs lsA hL hH hS
  exact zMQ_wid h1 h2 (W.vret C.1 C.2.1 (C.2.2.2.2.2.1.trans hr) (fun t ht hW => ⟨⟨none, w, rfl, hq, zH_moved hW.alike (by rw [ht]; exact hH)⟩, hS.F ht⟩) hS.2.2 hd C.2.2.2.2.2.2.1)
theorem r_iret {x : Int32} (hd : decode cd pc = .ok (.ireturn, 1)) (hr : ret = some .int) (h1 : b.1 ≤ bt.1) (h2 : b.2 ≤ bt.2) (hq : Q (some (.int x)) w) : zR (zVh g d hh y nL ret bt Q QX) cd ow pc ls [.int x] w b := by
  intro p e s m args below meth c C H locs lsA hL hH hS
  exact zMQ_wid h1 h2 (W.iret C.1 C.2.1 (C.2.2.2.2.2.1.trans hr) (fun t ht hW => ⟨⟨_, w, rfl, hq, zH_moved hW.alike (by rw [ht]; exact hH)⟩, hS.F ht⟩) hS.2.2 hd C.2.2.2.2.2.2.1)
theorem r_zret {x : Int32} (hd : decode cd pc = .ok (.ireturn, 1)) (hr : ret = some .boolean) (h01 : x = 0 ∨ x = 1) (h1 : b.1 ≤ bt.1) (h2 : b.2 ≤ bt.2) (hq : Q (some (.int x)) w) : zR (zVh g d hh y nL ret bt Q QX) cd ow pc ls [.int x] w b := by
  intro p e s m args below meth c C H locs lsA hL hH hS
  exact zMQ_wid h1 h2 (W.zret C.1 C.2.1 (C.2.2.2.2.2.1.trans hr) (by rcases h01 with rfl | rfl <;> rfl) (fun t ht hW => ⟨⟨_, w, rfl, hq, zH_moved hW.alike (by rw [ht]; exact hH)⟩, hS.F ht⟩) hS.2.2 hd C.2.2.2.2.2.2.1)
theorem r_cret {x : Int32} (hd : decode cd pc = .ok (.ireturn, 1)) (hr : ret = some .char) (hx : narrow .char (.int x) = .int x) (h1 : b.1 ≤ bt.1) (h2 : b.2 ≤ bt.2) (hq : Q (some (.int x)) w) : zR (zVh g d hh y nL ret bt Q QX) cd ow pc ls [.int x] w b := by
  intro p e s m args below meth c C H locs lsA hL hH hS
  exact zMQ_wid h1 h2 (W.zret C.1 C.2.1 (C.2.2.2.2.2.1.trans hr) hx (fun t ht hW => ⟨⟨_, w, rfl, hq, zH_moved hW.alike (by rw [ht]; exact hH)⟩, hS.F ht⟩) hS.2.2 hd C.2.2.2.2.2.2.1)
theorem r_lret {x : Int64} (hd : decode cd pc = .ok (.lreturn, 1)) (hr : ret = some .long) (h1 : b.1 ≤ bt.1) (h2 : b.2 ≤ bt.2) (hq : Q (some (.long x)) w) : zR (zVh g d hh y nL ret bt Q QX) cd ow pc ls [.long x] w b := by
  intro p e s m args below meth c C H locs lsA hL hH hS
  exact zMQ_wid h1 h2 (W.lret C.1 C.2.1 (C.2.2.2.2.2.1.trans hr) (fun t ht hW => ⟨⟨_, w, rfl, hq, zH_moved hW.alike (by rw [ht]; exact hH)⟩, hS.F ht⟩) hS.2.2 hd C.2.2.2.2.2.2.1)
theorem r_aret {v : Value} {rt : FieldType} (hd : decode cd pc = .ok (.areturn, 1)) (hr : ret = some rt) (hrt : (∃ n, rt = .object n) ∨ ∃ t, rt = .array t) (hv : zrf v) (h1 : b.1 ≤ bt.1) (h2 : b.2 ≤ bt.2) (hq : Q (some v) w) : zR (zVh g d hh y nL ret bt Q QX) cd ow pc ls [v] w b := by
  intro p e s m args below meth c C H locs lsA hL hH hS
  exact zMQ_wid h1 h2 (W.aret C.1 C.2.1 (C.2.2.2.2.2.1.trans hr) hrt hv (fun t ht hW => ⟨⟨_, w, rfl, hq, zH_moved hW.alike (by rw [ht]; exact hH)⟩, hS.F ht⟩) hS.2.2 hd C.2.2.2.2.2.2.1)
end ZD
/-! calls -/
theorem zT_good {w : Cond} (h : w ∈ zT) : goodWord w = true := (List.mem_filter.mp h).2
theorem zws_good {y : MethodName} {cd : ByteArray} {nL : Nat} {ret : Option FieldType} (h : Cond.code y cd nL ret ∈ zT) : GoodIn zT (zws y cd nL ret) := by
  intro w hw
  rcases List.mem_cons.mp hw with rfl | hw
  · exact ⟨h, good_of_word (zT_good h)⟩
  · exact ⟨hw, good_of_word (zT_good hw)⟩
/-- a link to a method: by its class (V), static (S) -/
def zlV (ow : String) (ix : Nat) (y : MethodName) (cd : ByteArray) (nL : Nat) (ret : Option FieldType) (n : Nat) : Prop :=
  Cond.methodLink ow ix y ∈ zT ∧ Cond.instanceMethod y ∈ zT ∧ Cond.selects y.cls y y ∈ zT ∧ Cond.initialized y.cls ∈ zT ∧ Cond.code y cd nL ret ∈ zT ∧ y.cls ≠ "java/lang/invoke/MethodHandle" ∧ y.cls ≠ "java/lang/invoke/VarHandle" ∧ (parseMethodDescriptor y.desc).map (fun d => d.parameters.length) = some n ∧ nL ≤ 45
def zlS (ow : String) (ix : Nat) (y : MethodName) (cd : ByteArray) (nL : Nat) (ret : Option FieldType) (n : Nat) : Prop :=
  Cond.methodLink ow ix y ∈ zT ∧ Cond.static y ∈ zT ∧ Cond.initialized y.cls ∈ zT ∧ Cond.code y cd nL ret ∈ zT ∧ y.cls ≠ "java/lang/invoke/MethodHandle" ∧ y.cls ≠ "java/lang/invoke/VarHandle" ∧ (parseMethodDescriptor y.desc).map (fun d => d.parameters.length) = some n ∧ nL ≤ 45
theorem zBlind {g : zGT} {args : List Value} {w : zW} (hok : zSok g.2.2.1 g.2.2.2) : FrameBlind (va_Pc args (zPre g w)) := by
  intro a U gf mk q
  obtain ⟨q1, q2, q3, q4, q5⟩ := q
  exact ⟨q1, zH_moved (U := U.calling gf mk a) (Vm.Alike.refl U.vm) q2, va_K.moved (u := U) (U := U.calling gf mk a) (Vm.Alike.refl U.vm) q3, hok U (U.calling gf mk a) (State.WarmedH.refl U) (fun _ _ => rfl) q4, q5⟩
section ZE
variable {g : zGT} {Rm : Room} {QQ : List Frame → Array Value → State → State → Prop} {hh : List (Nat × Nat × Nat × Nat)} {nm : String} {nL : Nat} {ret : Option FieldType}
variable {cd : ByteArray} {ow : String} {pc : Nat} {ls : List (Option Value)} {st : List Value} {w : zW} {b : Nat × Nat}
theorem zPre_of {V : zVT} {p : Program} {s : State} {m : MethodId} {args : Array Value} {meth : Method} {c : Code} {H : Heap} {locs : List Loc} (hV : V = zVg g Rm QQ hh nm nL ret) (C : zCx V cd ow p s m args meth c) (hH : zH g.2.1 g.2.2.1 w s H) (hS : va_S (zA g.2.2.1) s.heap H locs) :
    ∀ U : State, U.heap = H → s.WarmedH U.vm → zPre g w U := by
  subst hV
  intro U hU hW
  have hB : g.2.2.1 ≤ s.heap.size := C.2.2.2.2.2.2.2.2.2.2.2.1
  refine ⟨zH_moved hW.alike (by rw [hU]; exact hH), va_K.moved hW.alike (zCx_hK C), ?_, by rw [hU]; exact Nat.le_trans hB hS.1⟩
  have hst : g.2.2.2 s ∧ zGok g := C.2.2.2.2.2.2.2.2.2.2.1
  exact hst.2.2.1 s U hW (fun q hq => by rw [hU]; exact hS.2.1 q (Nat.lt_of_lt_of_le hq hB) (Nat.not_le.mpr hq)) hst.1
/-- behind a call -/
theorem zRun {p : Program} {e : Env} {s : State} {m : MethodId} {args : Array Value} {below : List Frame} {meth : Method} {c : Code} {H : Heap} {locs : List Loc} {lsA : Array Slot} {st0 rest : List Value} {Q2 : Option Value → zW → Prop} {QX2 : String → zW → Prop} {b2 : Nat × Nat}
    (C : zCx (zVg g Rm QQ hh nm nL ret) cd ow p s m args meth c) (hL : zL lsA nL ls) (hS : va_S (zA g.2.2.1) s.heap H locs)
    (hr : vx_Run p g.1 e Rm s m args below meth c H locs b.1 b.2 b2.1 b2.2 (F0 m pc lsA st0) rest (zQc g Q2 args) (zXC g QX2) (zA g.2.2.1))
    (kk : ∀ r w2, Q2 r w2 → zR (zVg g Rm QQ hh nm nL ret) cd ow (pc + 3) ls (r.toList ++ rest) w2 (b.1 + b2.1, b.2 + b2.2)) (kx : ∀ E w2, QX2 E w2 → zX (zVg g Rm QQ hh nm nL ret) cd ow pc ls w2 (b.1 + b2.1, b.2 + b2.2) E) :
    W p g.1 e Rm s m args below meth c H locs b.1 b.2 (QQ below args s) (F0 m pc lsA st0) := by
  intro T hT X
  rcases hr T hT X with ⟨v, st₀, t, T', L, h0, X', hLL, e1, e2, ⟨⟨r, w2, hv, hp, hb⟩, hF⟩, stp⟩ | ⟨q, st₀, t, T', L, E, ce, h0, X', hLL, e1, e2, ⟨⟨w2, hp, hb⟩, hF⟩, hce, hcv, hcl, stp⟩
  · cases hv
    obtain ⟨k1, k2, k3⟩ := vx_keep h0 e1 hS (fun _ _ h => h) (fun _ h => h) hLL hF
    have hvm : t.vm.Alike s.vm := by rw [← e2]; exact X'.warmed.alike.symm
    obtain ⟨t2, a1, b1⟩ := kk v w2 hp p e s m args below meth c C T'.heap (locs ++ L) lsA hL (by rw [e1]; exact zH_moved hvm hb) k3 T' rfl X'
    exact ⟨t2, stp t2 a1, b1⟩
  · obtain ⟨k1, k2, k3⟩ := vx_keep h0 e1 hS (fun _ _ h => h) (fun _ h => h) hLL hF
    have hvm : t.vm.Alike s.vm := by rw [← e2]; exact X'.warmed.alike.symm
    obtain ⟨t2, a1, b1⟩ := kx E w2 hp p e s m args below meth c C T'.heap (locs ++ L) lsA rest q ce hL (by rw [e1]; exact zH_moved hvm hb) k3 (by rw [e1]; exact hce) hcv hcl T' rfl X'
    exact ⟨t2, stp.trans a1, b1⟩
/-- invokestatic -/
theorem r_callS {ix n d2 : Nat} {y2 : MethodName} {cd2 : ByteArray} {nL2 : Nat} {ret2 : Option FieldType} {As rest : List Value} {b2 : Nat × Nat} {Q2 : Option Value → zW → Prop} {QX2 : String → zW → Prop}
    (hl : zlS ow ix y2 cd2 nL2 ret2 n) (hd : decode cd pc = .ok (.invokestatic ix, 3)) (hM : zC g d2 y2 cd2 nL2 ret2 As w b2 Q2 QX2) (hst : st = As.reverse ++ rest) (hn : As.length = n) (hW : (rest.map fun v => v.category).sum ≤ 8) (hd2 : d2 + 1 ≤ Rm.frames) (hd3 : 64 * (d2 + 1) ≤ Rm.locals) (h1 : b.1 + b2.1 ≤ Rm.cells) (h2 : b.2 + b2.2 ≤ Rm.slots)
    (kk : ∀ r w2, Q2 r w2 → zR (zVg g Rm QQ hh nm nL ret) cd ow (pc + 3) ls (r.toList ++ rest) w2 (b.1 + b2.1, b.2 + b2.2)) (kx : ∀ E w2, QX2 E w2 → zX (zVg g Rm QQ hh nm nL ret) cd ow pc ls w2 (b.1 + b2.1, b.2 + b2.2) E) : zR (zVg g Rm QQ hh nm nL ret) cd ow pc ls st w b := by
  subst hst
  intro p e s m args below meth c C H locs lsA hL hH hS
  obtain ⟨l1, l2, l3, l4, l5, l6, l7, l8⟩ := hl
  have hts : ∀ w ∈ zT, w.before args s = true := C.2.2.2.2.1
  have hok : zSok g.2.2.1 g.2.2.2 := C.2.2.2.2.2.2.2.2.2.2.1.2.2.1
  have cw : CallB Rm s args ow ix y2 cd2 nL2 ret2 (zws y2 cd2 nL2 ret2) (zrm d2 b2) b2.1 b2.2 n ∧ (Cond.static y2).before args s = true :=
    ⟨callB_of n hts (zws_good l4) rfl rfl rfl (hts _ l3) (hts _ l1) ⟨l5, l6, l7⟩ ⟨hd2, by show 8 + (nL2 + 11) + 64 * d2 ≤ Rm.locals; omega⟩, hts _ l2⟩
  exact zRun (b2 := b2) C hL hS (vx_runS (Ts := zT) (As := As) (rest := rest) ⟨C.1, C.2.1, C.2.2.1, C.2.2.2.1, hts⟩ hM cw ⟨zBlind hok, fun U hU hW2 => ⟨rfl, zPre_of rfl C hH hS U hU hW2⟩⟩ rfl hn hL.1 rfl (lv_room hW) hd ⟨h1, h2⟩) kk kx
/-- invokevirtual of a method of the receiver's own class -/
theorem r_callV {ix n d2 ci a : Nat} {y2 : MethodName} {cd2 : ByteArray} {nL2 : Nat} {ret2 : Option FieldType} {As rest : List Value} {b2 : Nat × Nat} {Q2 : Option Value → zW → Prop} {QX2 : String → zW → Prop}
    (hl : zlV ow ix y2 cd2 nL2 ret2 n) (hd : decode cd pc = .ok (.invokevirtual ix, 3)) (hM : zC g d2 y2 cd2 nL2 ret2 (.ref a :: As) w b2 Q2 QX2) (hst : st = As.reverse ++ .ref a :: rest) (hn : As.length = n) (hk : zK w a = ci + 1) (hci : ci < 11) (hcn : zcn ci = y2.cls) (hW : (rest.map fun v => v.category).sum ≤ 8) (hd2 : d2 + 1 ≤ Rm.frames) (hd3 : 64 * (d2 + 1) ≤ Rm.locals) (h1 : b.1 + b2.1 ≤ Rm.cells) (h2 : b.2 + b2.2 ≤ Rm.slots)
    (kk : ∀ r w2, Q2 r w2 → zR (zVg g Rm QQ hh nm nL ret) cd ow (pc + 3) ls (r.toList ++ rest) w2 (b.1 + b2.1, b.2 + b2.2)) (kx : ∀ E w2, QX2 E w2 → zX (zVg g Rm QQ hh nm nL ret) cd ow pc ls w2 (b.1 + b2.1, b.2 + b2.2) E) : zR (zVg g Rm QQ hh nm nL ret) cd ow pc ls st w b := by
  subst hst
  intro p e s m args below meth c C H locs lsA hL hH hS
  obtain ⟨l1, l2, l3, l4, l5, l6, l7, l8, l9⟩ := hl
  have hts : ∀ w ∈ zT, w.before args s = true := C.2.2.2.2.1
  have hok : zSok g.2.2.1 g.2.2.2 := C.2.2.2.2.2.2.2.2.2.2.1.2.2.1
  have cw : CallW Rm s args ow y2.cls ix y2 cd2 nL2 ret2 (zws y2 cd2 nL2 ret2) (zrm d2 b2) b2.1 b2.2 n :=
    ⟨callB_of n hts (zws_good l5) rfl rfl rfl (hts _ l4) (hts _ l1) ⟨l6, l7, l8⟩ ⟨hd2, by show 8 + (nL2 + 11) + 64 * d2 ≤ Rm.locals; omega⟩, hts _ l2, hts _ l3⟩
  obtain ⟨q, hq⟩ : ∃ q, vwCl[ci]? = some q := ⟨_, List.getElem?_eq_getElem (show ci < vwCl.length from hci)⟩
  have hrec := va_recv (zCx_hK C) (zP1 (zat_obj (hH.1 a) hk (by omega))) (q0 := 0) hq rfl
  have hqn : q.1 = y2.cls := by
    rw [← hcn]
    unfold zcn
    rw [hq]
    rfl
  rw [hqn] at hrec
  exact zRun (b2 := b2) C hL hS (vx_runV (Ts := zT) (As := As) (rest := rest) ⟨C.1, C.2.1, C.2.2.1, C.2.2.2.1, hts⟩ hM cw ⟨zBlind hok, hrec, fun U hU hW2 => ⟨rfl, zPre_of rfl C hH hS U hU hW2⟩⟩ rfl hn hL.1 rfl (lv_room hW) hd ⟨h1, h2⟩) kk kx
end ZE
/-- a contract says more than it must -/
theorem zC_mono {g : zGT} {d : Nat} {y : MethodName} {cd : ByteArray} {nL : Nat} {ret : Option FieldType} {args : List Value} {w : zW} {b : Nat × Nat} {Q Q2 : Option Value → zW → Prop} {QX QX2 : String → zW → Prop} (h : zC g d y cd nL ret args w b Q QX) (hq : ∀ r w2, Q r w2 → Q2 r w2) (hx : ∀ E w2, QX E w2 → QX2 E w2) : zC g d y cd nL ret args w b Q2 QX2 := by
  intro p e h1 h2 h3 s m a below h4 h5 h6 h7
  obtain ⟨n, o, k1, k2, k3, k4⟩ := h p e h1 h2 h3 s m a below h4 h5 h6 h7
  refine ⟨n, o, k1, k2, k3, ?_⟩
  rcases k4 with ⟨⟨⟨r, w2, z1, z2, z3⟩, z4⟩, z5⟩ | ⟨q, z1, E, ce, L, ⟨⟨w2, z2, z3⟩, z4⟩, z5⟩
  · exact Or.inl ⟨⟨⟨r, w2, z1, hq _ _ z2, z3⟩, z4⟩, z5⟩
  · exact Or.inr ⟨q, z1, E, ce, L, ⟨⟨w2, hx _ _ z2, z3⟩, z4⟩, z5⟩
/-- one that throws nothing, in the form that constructors' calls want -/
theorem zC_met {g : zGT} {d : Nat} {y : MethodName} {cd : ByteArray} {nL : Nat} {ret : Option FieldType} {args : List Value} {w : zW} {b : Nat × Nat} {Q : Option Value → zW → Prop} (h : zC g d y cd nL ret args w b Q (fun _ _ => False)) : Met g.1 y (zws y cd nL ret) (zrm d b) (va_Pc args (zPre g w)) (zQc g Q) b.1 b.2 (zA g.2.2.1) := by
  intro p e h1 h2 h3 s m a below h4 h5 h6 h7
  obtain ⟨n, o, k1, k2, k3, k4⟩ := h p e h1 h2 h3 s m a below h4 h5 h6 h7
  refine ⟨n, o, k1, k2, k3, ?_⟩
  rcases k4 with z | ⟨q, z1, E, ce, L, ⟨⟨w2, z2, z3⟩, z4⟩, z5⟩
  · exact z
  · exact absurd z2 id
/-- the contract of a method with handlers, that throws nothing -/
def zCW (g : zGT) (d : Nat) (y : MethodName) (cd : ByteArray) (nL : Nat) (ret : Option FieldType) (hh : List (Nat × Nat × Nat × Nat)) (args : List Value) (w : zW) (b : Nat × Nat) (Q : Option Value → zW → Prop) : Prop :=
  Met g.1 y (Cond.codeWith y cd nL ret hh :: zT) (zrm d b) (va_Pc args (zPre g w)) (zQc g Q) b.1 b.2 (zA g.2.2.1)
theorem zCW_of {g : zGT} {d : Nat} {y : MethodName} {cd : ByteArray} {nL : Nat} {ret : Option FieldType} {hh : List (Nat × Nat × Nat × Nat)} {args : List Value} {w : zW} {b : Nat × Nat} {Q : Option Value → zW → Prop}
    (hok : zGok g) (hy : plainName y.cls = true) (hn : (lg_sl args).length ≤ nL)
    (body : zR (zVh g d hh y nL ret b Q (fun _ _ => False)) cd y.cls 0 (zLs nL args) [] w (0, 0)) : zCW g d y cd nL ret hh args w b Q := by
  have h : vx_Met g.1 y (Cond.codeWith y cd nL ret hh :: zT) (zrm d b) (va_Pc args (zPre g w)) (zQc g Q) (zXC g (fun _ _ => False)) b.1 b.2 (zA g.2.2.1) := by
    refine vx_ofWH (cc := cd) (maxL := nL) (ret := ret) (hh := hh) hy rfl ?_
    intro p e s m av below meth c s₁ B9 hml hv
    obtain ⟨rfl, hP⟩ := hv
    have hts := atoms_spec (ws := Cond.codeWith y cd nL ret hh :: zT) B9.pre
    have C : zCx (zVh g d hh y nL ret b Q (fun _ _ => False)) cd y.cls p s m args.toArray meth c :=
      ⟨B9.exec, B9.bytes, hml, findClass_of_methodNamed B9.named, fun w hw => hts w (List.mem_cons_of_mem _ hw), B9.returns, B9.notSynchronized, vx_table (x := y) B9 (hts _ List.mem_cons_self), (name_of_methodNamed B9.named B9.method).1, hP.2.1, ⟨hP.2.2.1, hok⟩, hP.2.2.2, hok.1⟩
    rw [lg_entry_eq]
    exact body p e s m args.toArray below meth c C s.heap [] _ (zL_entry hn) hP.1 va_S.rf
  intro p e h1 h2 h3 s m a below h4 h5 h6 h7
  obtain ⟨n, o, k1, k2, k3, k4⟩ := h p e h1 h2 h3 s m a below h4 h5 h6 h7
  refine ⟨n, o, k1, k2, k3, ?_⟩
  rcases k4 with z | ⟨q, z1, E, ce, L, ⟨⟨w2, z2, z3⟩, z4⟩, z5⟩
  · exact z
  · exact absurd z2 id
