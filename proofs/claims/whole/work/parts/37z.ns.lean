/-! the throw of NoSuchElementException: its constructor names its super's by another number than the kit's chain rows take -/
def nsB : ByteArray := ⟨#[0x2a, 0x2b, 0xb7, 0x00, 0x0d, 0xb1]⟩
theorem nsB_0 : decode nsB 0 = .ok (.aload_n 0, 1) := by decide +kernel
theorem nsB_1 : decode nsB 1 = .ok (.aload_n 1, 1) := by decide +kernel
theorem nsB_2 : decode nsB 2 = .ok (.invokespecial 13, 3) := by decide +kernel
theorem nsB_5 : decode nsB 5 = .ok (.return_, 1) := by decide +kernel
section NS
/-- the words of such a throw -/
def nsW (own : String) (ic : Nat) (E Y : String) (r : List String) : List Cond :=
  Bundle.throwableAtoms ++ (Bundle.throwableSAtoms ++ (Bundle.passSAtoms E Y 13 nsB ++ (Bundle.chainSAtoms Y r ++
  [.methodLink own ic (Bundle.initS E), .instantiable E 6, .castable E E, .selects E Bundle.tFill0 Bundle.tFill0, .selects E Bundle.tFill Bundle.tFill, .lays E Bundle.tN "cause" "Ljava/lang/Throwable;", .lays E Bundle.tN "stackTrace" Bundle.steD, .lays E Bundle.tN "suppressedExceptions" Bundle.listD, .lays E Bundle.tN "detailMessage" "Ljava/lang/String;", .isRef (.static Bundle.tN "UNASSIGNED_STACK" Bundle.steD), .isRef (.static Bundle.tN "SUPPRESSED_SENTINEL" Bundle.listD), .fieldLink Bundle.tN 198 Bundle.tN "backtrace" "Ljava/lang/Object;", .lays Bundle.tN Bundle.tN "backtrace" "Ljava/lang/Object;", .lays E Bundle.tN "backtrace" "Ljava/lang/Object;"])))
def nsS (own : String) (ic : Nat) (E Y : String) (r : List String) : List Cond := (nsW own ic E Y r).filter vx_no
set_option maxHeartbeats 4000000 in
theorem ns_ctor {p : Program} {l : Launch} {e : Env} {R : Room} {s : State} {m : MethodId} {args : Array Value} {below : List Frame} {meth : Method} {c : Code} {W : State} {locs : List Loc} {cells slots : Nat} (X : Stand p l e R s m args below meth c W locs cells slots) (hexec : p.tables.exec = Jvm.exec) (htr : e.platform.stackTraces = false) {own E Y : String} {r : List String} {ic : Nat}
    (hown : s.vm.findClass own = some m.cls) (hE : Bundle.fit E = true) (hY : Bundle.fit Y = true) (hr : ∀ n ∈ r, Bundle.fit n = true) (h : ∀ w ∈ nsW own ic E Y r, w.before args s = true)
    (hlocs : ∀ x ∈ locs, ∀ cell, s.heap[x.base]? = some cell → cell.vm.isStatics = false)
    {a : Addr} {cX : ClassId} {kX : Class} (hfX : s.vm.findClass E = some cX) (hkX : s.vm.classes[cX]? = some kX) (hcell : W.heap[a]? = some (freshCell cX kX)) (hnew : s.heap.size ≤ a) {msg : Value} (hmsg : msg.isRef = true)
    {g : JFrame} (hg : g.method = m) (hsize : g.locals.size = c.maxLocals) (hlocked : g.locked = none) (hent : g.entered = []) {rest : List Value} (hst : g.stack = msg :: .ref a :: .ref a :: rest)
    (hd6 : decode c.code g.pc = .ok (.invokespecial ic, 3)) (hd9 : decode c.code (g.pc + 3) = .ok (.athrow, 1)) (hout : ∀ x ∈ c.exceptionTable.toList, covers x (g.pc + 3) = false)
    (hRf : r.length + 4 < R.frames) (hRl : 2 * g.monitorRoom + ((Value.ref a :: rest).map fun v => v.category).sum + (13 * (r.length + 2) + 42) ≤ R.locals) (hlocks : meth.locks = false) :
    ∃ U : State, Steps p.tables e below (W.setTop g) U ∧ U.status = .running ∧ Ended U below (.threw a) ∧ s.WarmedH U.vm ∧ s.sameButNew ({ U with vm := s.vm } : State) locs cells slots ∧ ∃ ce, U.heap[a]? = some ce ∧ ce.cls = cX ∧ ce.vm = .none := by
  have hpf := X.admits.platform
  have howns : e.platform.frameOwnsMonitors = true := by rw [hpf]
  have hfin : e.platform.finalization = false := by rw [hpf]
  have hpl : e.platform.magicAccessors = ({} : Platform).magicAccessors := by rw [hpf]
  have hold : ∀ x, x ∈ nsW own ic E Y r → x.holds args s none s [] = true := fun x hx => h x hx
  obtain ⟨T, Z0, L, -, F⟩ := ThrowableC.of_atoms (args := args) howns hfin hpl (fun x hx => h x (by simp [nsW, hx]))
  obtain ⟨Z, M, LZ, LM, hnZ⟩ := Init0T.ofS_atoms (args := args) hpl L F (fun x hx => h x (by simp [nsW, hx]))
  obtain ⟨P0, K0, hm0, hs0⟩ := PassC.ofS_atoms (args := args) (s := s) hpl (X := E) (Y := Y) (Bundle.fit_spec hE).1 (Bundle.fit_spec hY).2 nsB_0 nsB_1 nsB_2 nsB_5 (fun x hx => h x (by simp [nsW, hx]))
  obtain ⟨P1, Ps, hlen, K1, hK, hm1, hl1, hl2⟩ := Bundle.chainS (args := args) hpl hnZ r Y hY hr (fun x hx => h x (by simp [nsW, hx]))
  have hl0 : P0.sup = P1.m := Option.some.inj (hs0.symm.trans hm1)
  have hf0 : s.vm.findClass E = some P0.m.cls := findClass_of_methodNamed hm0
  cases Option.some.inj (hfX.symm.trans hf0)
  obtain ⟨c1, k1, hc1, hk, hord, -, -, -⟩ := Cond.instantiable_spec (hold (.instantiable E 6) (by simp [nsW]))
  cases Option.some.inj (hc1.symm.trans hf0)
  cases Option.some.inj (hkX.symm.trans hk)
  have sel0 : selectMethod e.platform s.vm P0.m.cls T.fill0 = .method T.fill0 := by
    obtain ⟨c2, r2, m2, q1, q2, q3, q4, -⟩ := Cond.selects_spec (hold (.selects E Bundle.tFill0 Bundle.tFill0) (by simp [nsW]))
    cases Option.some.inj (q1.symm.trans hf0)
    cases Option.some.inj (q2.symm.trans (State.methodFound?_of_named F.fill0 (by decide)))
    cases Option.some.inj (q3.symm.trans F.fill0)
    rw [Launch.admits_selectMethod X.admits]
    exact q4
  have selF : selectMethod e.platform s.vm P0.m.cls T.fill = .method T.fill := by
    obtain ⟨c2, r2, m2, q1, q2, q3, q4, -⟩ := Cond.selects_spec (hold (.selects E Bundle.tFill Bundle.tFill) (by simp [nsW]))
    cases Option.some.inj (q1.symm.trans hf0)
    cases Option.some.inj (q2.symm.trans (State.methodFound?_of_named F.fill (by decide)))
    cases Option.some.inj (q3.symm.trans F.fill)
    rw [Launch.admits_selectMethod X.admits]
    exact q4
  obtain ⟨b0, hb0, hbs⟩ := F.statics
  obtain ⟨u0, hu0⟩ := Cond.staticRefV F.unassigned L.unassignedStatic L.statics hb0 hbs (hold (.isRef (.static Bundle.tN "UNASSIGNED_STACK" Bundle.steD)) (by simp [nsW]))
  obtain ⟨sen, hsen⟩ := Cond.staticRefV F.sentinel L.sentinelStatic L.statics hb0 hbs (hold (.isRef (.static Bundle.tN "SUPPRESSED_SENTINEL" Bundle.listD)) (by simp [nsW]))
  obtain ⟨ci, ix, fB, y1, y2, y3, y4, -, y5, y6, y7⟩ := Cond.ownField (t := .object "java/lang/Object") F.found L.cls (by decide +kernel) (hold (.fieldLink Bundle.tN 198 Bundle.tN "backtrace" "Ljava/lang/Object;") (by simp [nsW])) (hold (.lays Bundle.tN Bundle.tN "backtrace" "Ljava/lang/Object;") (by simp [nsW])) e.platform hpl
  obtain ⟨b1, hb1, heS, -, keep⟩ := X.same.2.2.2.2.2 T.aS b0 hb0
  have hbS : W.heap[T.aS]? = some b1 := hb1
  have away : ∀ i, (⟨T.aS, i⟩ : Loc) ∉ locs := fun i hmem => by
    have h9 := hlocs _ hmem b0 hb0
    rw [hbs] at h9
    cases h9
  have known : b1.vm ≠ .unknown := by
    rw [heS]
    intro hu
    rw [show b0.vm = .unknown from hu] at hbs
    cases hbs
  have apart : T.aS ≠ a := Nat.ne_of_lt (Nat.lt_of_lt_of_le (Array.getElem?_eq_some_iff.mp hb0).1 hnew)
  obtain ⟨iM, hffM⟩ := F.msg
  obtain ⟨tyC, dC, hdC, hnC⟩ := Cond.laysAt hf0 hk F.cause (hold (.lays E Bundle.tN "cause" "Ljava/lang/Throwable;") (by simp [nsW]))
  obtain ⟨tyS, dS, hdS, hnS⟩ := Cond.laysAt hf0 hk F.stack (hold (.lays E Bundle.tN "stackTrace" Bundle.steD) (by simp [nsW]))
  obtain ⟨tyP, dP, hdP, hnP⟩ := Cond.laysAt hf0 hk F.supp (hold (.lays E Bundle.tN "suppressedExceptions" Bundle.listD) (by simp [nsW]))
  obtain ⟨tyM, dM, hdM, hnM⟩ := Cond.laysAt hf0 hk hffM (hold (.lays E Bundle.tN "detailMessage" "Ljava/lang/String;") (by simp [nsW]))
  obtain ⟨tyB, dB, hdB, hnB⟩ := Cond.laysAt hf0 hk y7 (hold (.lays E Bundle.tN "backtrace" "Ljava/lang/Object;") (by simp [nsW]))
  have bC := Cond.laysApart hdB hdC hnB hnC (by rw [y5, F.causeName]; decide)
  have bS := Cond.laysApart hdB hdS hnB hnS (by rw [y5, F.stackName]; decide)
  have bP := Cond.laysApart hdB hdP hnB hnP (by rw [y5, F.suppName]; decide)
  have skip : SkipFacts T e.platform s (fun u => u) u0 ((preparedCellV T.toThrowableT (freshCell P0.m.cls kX) a u0 sen).withEntry W.cur) :=
    ⟨{ ci198 := ci, i198 := ix, fBack := fB }, ⟨y1, y2, y3, y4⟩, by
      have h9 := fresh_default (c := P0.m.cls) tyB
      rw [y6] at h9
      simpa [preparedCellV, Cell.setSlot, Cell.withEntry, Array.getElem?_setIfInBounds, bC, bS, bP, bC.symm, bS.symm, bP.symm, defaultValue] using h9, fun _ _ => rfl⟩
  obtain ⟨tm, mC, cdC, kC, v1, hn1, -, -, -, -, -, -, -, hW1, st1⟩ := Steps.initColdS (tb := p.tables) (e := e) (below := below) (s := s) (U := W) X.here hexec X.warmed hpl hown (t := Bundle.initS E) rfl rfl (Bundle.fit_spec hE).2
    (hold (.methodLink own ic (Bundle.initS E)) (by simp [nsW])) (h (.instanceMethod (Bundle.initS E)) (by simp [nsW, Bundle.passSAtoms])) (bytes := nsB) (maxL := 2) (h (.code (Bundle.initS E) nsB 2 none) (by simp [nsW, Bundle.passSAtoms]))
    (f := g) hg (a := a) (msg := msg) (rest := .ref a :: rest) hst hd6
  cases Option.some.inj (hn1.symm.trans hm0)
  have X1 := X.noted hW1
  obtain ⟨v2, X2, st2⟩ := X1.ctorMessageOffV hexec (g := { g with stack := .ref a :: rest }) hg hsize T L Z LZ M LM (P0 :: P1 :: Ps)
    (fun P hP => by
      rcases List.mem_cons.mp hP with rfl | hP
      · exact K0
      · rcases List.mem_cons.mp hP with rfl | hP
        · exact K1
        · exact hK P hP) ⟨hl0, hl1, hl2⟩ (u0 := u0) (sen := sen) (self := a) hmsg (cell := freshCell P0.m.cls kX) (cellS := b1)
    hcell (fun _ => by simp) (by simp) rfl rfl sel0 selF hbS apart known (by rw [keep _ (away _)]; exact hu0) (by rw [keep _ (away _)]; exact hsen)
    (Takes.of_laid hk hord tyC (by rw [F.causeType]; rfl)) (Takes.of_laid hk hord tyS (by rw [F.stackType]; exact fits_refV_array _ u0)) (Takes.of_laid hk hord tyP (by rw [F.suppType]; exact fits_refV_object _ sen))
    (Takes.of_laid hk hord tyM (by rw [F.msgType]; exact fits_refV_object _ ⟨msg, hmsg⟩)) F.objLocals skip htr [] hd6
    (by simp only [List.length_cons, hlen]; omega) (by simp only [List.length_cons, hlen]; exact hRl)
  obtain ⟨hwalk, hrun, hend, hWU, hsame⟩ := X2.athrowLeaves hexec (g := { g with stack := .ref a :: rest, pc := g.pc + 3 }) hg hlocked hent hout (a := a) (rest := rest) rfl hd9
  have hlt : a < ((W.setVm v1).setVm v2).heap.size := (Array.getElem?_eq_some_iff.mp hcell).1
  have hU := heapAt_setCell_self (s := (W.setVm v1).setVm v2) (plainBareV T.toThrowableT (freshCell P0.m.cls kX) a u0 sen msg) hlt
  refine ⟨_, st1 _ (fun acts => ?_), hrun, hend, hWU, hsame.weaken (fun y hy hlt2 => ?_) (Nat.le_refl _) (Nat.le_refl _), _, hU, rfl, rfl⟩
  · rw [doInvoke_state]
    exact st2 _ hwalk
  · rcases List.mem_append.mp hy with h1 | h1
    · exact h1
    · exfalso
      have hb : y.base = a := by
        simp only [List.mem_cons, List.not_mem_nil, or_false] at h1
        rcases h1 with rfl | rfl | rfl | rfl | rfl <;> rfl
      rw [hb] at hlt2
      exact Nat.not_lt.mpr hnew hlt2
set_option maxHeartbeats 4000000 in
theorem ns_throw {p : Program} {l : Launch} {e : Env} {R : Room} {s : State} {m : MethodId} {args : Array Value} {below : List Frame} {meth : Method} {c : Code} {H : Heap} {locs : List Loc} {cells slots : Nat} {mc ms : Nat} {free : Addr → Prop} {ls : Array Slot} {rest : List Value} {Qc : Array Value → State → Outcome → State → Prop} {XC : String → State → State → Prop} {cc : ByteArray} {pc : Nat} (hexec : p.tables.exec = Jvm.exec) (hb : c.code = cc) (hl : l.stackTraces = false) {own E Y text : String} {r : List String} {ik is ic sa : Nat} {A : Nat → Prop}
    (hown : s.vm.findClass own = some m.cls) (hE : Bundle.fit E = true) (hY : Bundle.fit Y = true) (hr : ∀ n ∈ r, Bundle.fit n = true) (hk : (Cond.classLink own ik E).before args s = true) (hini : (Cond.initialized E).before args s = true) (hstr : vk_R own is text sa s) (hat : ∀ w ∈ nsS own ic E Y r, w.before args s = true)
    (hgood : ∀ w ∈ Cond.classLink own ik E :: Cond.initialized E :: nsS own ic E Y r, vx_ot w = true)
    (hU : vx_Zq Bundle.tN "UNASSIGNED_STACK" Bundle.steD A s s.heap) (hN : vx_Zq Bundle.tN "SUPPRESSED_SENTINEL" Bundle.listD A s s.heap) (hS : va_S A s.heap H locs) (hsize : ls.size = c.maxLocals)
    (d0 : decode cc pc = .ok (.new ik, 3)) (d3 : decode cc (pc + 3) = .ok (.dup, 1)) (d4 : decode cc (pc + 4) = .ok (.ldc is, 2)) (d6 : decode cc (pc + 6) = .ok (.invokespecial ic, 3)) (d9 : decode cc (pc + 9) = .ok (.athrow, 1))
    (hout : ∀ x ∈ c.exceptionTable.toList, covers x (pc + 9) = false) (hRf : r.length + 4 < R.frames) (hRl : (rest.map fun v => v.category).sum + (13 * (r.length + 2) + 43) ≤ R.locals) (hRc : cells + 1 ≤ R.cells) (hRs : slots + 6 ≤ R.slots) (hlocks : meth.locks = false)
    (hx : ∀ t : State, s.vm.Alike t.vm → H.size ≤ t.heap.size → (∀ q : Nat, q < H.size → t.heap[q]? = H[q]?) → XC E s t) (hf : ∀ z ∈ locs, free z.base) (hc : cells + 1 ≤ mc) (hs : slots + 6 ≤ ms) :
    W p l e R s m args below meth c H locs cells slots (vx_MQ below Qc XC args s mc ms free) (F0 m pc ls rest) := by
  intro T hT X
  have htr : e.platform.stackTraces = false := (show e.platform.stackTraces = l.stackTraces by rw [X.admits.platform]).trans hl
  have X0 := vx_rebase X (R' := { frames := R.frames, locals := R.locals, cells := 1, slots := 6 }) (Nat.le_refl _) (Nat.le_refl _) hRc hRs
  obtain ⟨s', hA⟩ : ∃ z, z = (T.setVm s.vm).setFrames (.invoking m args :: below) := ⟨_, rfl⟩
  rw [← hA] at X0
  have hvm : s'.vm = s.vm := by rw [hA]; rfl
  have hhp : s'.heap = H := by rw [hA]; exact hT
  have hW0 : s.WarmedH s'.vm := by rw [hvm]; exact State.WarmedH.refl s
  have up : ∀ w, vx_ot w = true → w.before args s = true → w.before args s' = true := fun w h1 h2 => vx_ot_at hW0 hvm.symm h1 h2
  have hat' : ∀ w ∈ nsS own ic E Y r, w.before args s' = true := fun w hw => up w (hgood w (List.mem_cons_of_mem _ (List.mem_cons_of_mem _ hw))) (hat w hw)
  have hk' := up _ (hgood _ List.mem_cons_self) hk
  have hini' := up _ (hgood _ (List.mem_cons_of_mem _ List.mem_cons_self)) hini
  have hU' : vx_Zq Bundle.tN "UNASSIGNED_STACK" Bundle.steD A s' s'.heap := by rw [hhp]; exact vx_Zq.moved hW0.alike (hU.kept hS.2.1)
  have hN' : vx_Zq Bundle.tN "SUPPRESSED_SENTINEL" Bundle.listD A s' s'.heap := by rw [hhp]; exact vx_Zq.moved hW0.alike (hN.kept hS.2.1)
  have h : ∀ w ∈ nsW own ic E Y r, w.before args s' = true := vx_own hat' (vx_isRefq hU'.1) (vx_isRefq hN'.1) hU'.2.word hN'.2.word
  have hown' : s'.vm.findClass own = some m.cls := by rw [hvm]; exact hown
  have hins : (Cond.instantiable E 6).before args s' = true := h _ (by simp [nsW])
  obtain ⟨v1, cX, kX, hfX, hkX, -, -, X1, st1⟩ := X0.newCold hexec (own := own) (C := E) (index := ik) (n := 6) hown' hk' hins hini' (g := F0 m pc ls rest) rfl (by rw [hb]; exact d0) (Nat.le_refl _) (Nat.le_refl _)
  generalize hT1 : (T.setVm v1).pushCell { cls := cX, slots := kX.instanceTypes.map defaultValue, vm := .none } = T1 at X1 st1
  have hcat : (Value.ref T.heap.size).category = 1 := rfl
  have hcA : T1.heap[T.heap.size]? = some (freshCell cX kX) := by rw [← hT1]; exact State.heap_pushCell_size _ _
  have d3' : decode c.code (pc + 3) = .ok (.dup, 1) := by rw [hb]; exact d3
  have d4' : decode c.code (pc + 4) = .ok (.ldc is, 2) := by rw [hb]; exact d4
  have hstr' : vk_R own is text sa s' := vk_R.warm hW0 hstr
  obtain ⟨U, hsteps, hrun, hend, hW, hsame, ce, hce, hcc, hcv⟩ := ns_ctor X1 hexec htr (own := own) (E := E) (Y := Y) (r := r) (ic := ic) hown' hE hY hr h (fun x hx => nomatch hx) hfX hkX hcA (by rw [hhp, hT]; exact Nat.le_refl _) (msg := .ref sa) rfl
    (g := { method := m, pc := pc + 6, locals := ls, stack := .ref sa :: .ref T.heap.size :: .ref T.heap.size :: rest, locked := none }) rfl hsize rfl rfl (rest := rest) rfl
    (by rw [hb]; exact d6) (by rw [hb]; exact d9) hout hRf (by simp only [List.map_cons, List.sum_cons, hcat]; omega) hlocks
  obtain ⟨f1, f2⟩ := vx_frame hsame
  rw [hhp] at f1 f2
  have hWs : s.WarmedH U.vm := State.WarmedH.trans hW0 hW
  have hcl : s.vm.findClass E = some ce.cls := by
    have h9 := hfX
    rw [hvm] at h9
    rw [hcc]
    exact h9
  have hall : s.sameButNew ({ U with vm := s.vm } : State) locs mc ms := by
    subst hA
    obtain ⟨e1, e2⟩ := hsame
    rw [State.setFrames_setFrames] at e1
    have h2 : (T.setVm s.vm).sameButNew ({ U with vm := s.vm } : State) [] (0 + 1) (0 + 6) := ⟨e1, e2⟩
    have h3 := X.same.trans h2
    rw [List.append_nil] at h3
    exact h3.mono hc hs
  refine ⟨U, ?_, .threw T.heap.size, hrun, hend, Or.inr ⟨T.heap.size, rfl, E, ce, locs, hx U hWs.alike f1 (fun q hq => f2 q hq (fun z hz => nomatch hz)), hce, hcv, hcl, hWs, hall, hf⟩⟩
  refine st1 _ ?_
  show Steps p.tables e below (T1.setTop { method := m, pc := pc + 3, locals := ls, stack := .ref T.heap.size :: rest, locked := none }) _
  jvm_step X1.here [X1.here.top, hexec, d3', Value.category]
  exact X1.ldcString hexec (own := own) (text := text) (index := is) (a := sa) hown' hstr'.1 hstr'.2
    (g := { method := m, pc := pc + 4, locals := ls, stack := .ref T.heap.size :: .ref T.heap.size :: rest, locked := none }) rfl d4' _ hsteps
set_option maxHeartbeats 4000000 in
theorem ns_throwW {p : Program} {l : Launch} {e : Env} {R : Room} {s : State} {m : MethodId} {args : Array Value} {below : List Frame} {meth : Method} {c : Code} {H : Heap} {locs : List Loc} {cells slots : Nat} {mc ms : Nat} {free : Addr → Prop} {ls : Array Slot} {rest : List Value} {Qc : Array Value → State → Outcome → State → Prop} {XC : String → State → State → Prop} {cc : ByteArray} {pc : Nat} (hexec : p.tables.exec = Jvm.exec) (hb : c.code = cc) (hl : l.stackTraces = false) {own E Y text : String} {r : List String} {ik is ic sa : Nat} {A : Nat → Prop}
    (hown : s.vm.findClass own = some m.cls) (hE : Bundle.fit E = true) (hY : Bundle.fit Y = true) (hr : ∀ n ∈ r, Bundle.fit n = true) (hk : (Cond.classLink own ik E).before args s = true) (hini : (Cond.initialized E).before args s = true) (hstr : vk_R own is text sa s) (hat : ∀ w ∈ nsS own ic E Y r, w.before args s = true)
    (hgood : ∀ w ∈ Cond.classLink own ik E :: Cond.initialized E :: nsS own ic E Y r, vx_ot w = true)
    (hU : vx_Zq Bundle.tN "UNASSIGNED_STACK" Bundle.steD A s s.heap) (hN : vx_Zq Bundle.tN "SUPPRESSED_SENTINEL" Bundle.listD A s s.heap) (hS : va_S A s.heap H locs) (hsize : ls.size = c.maxLocals)
    (d0 : decode cc pc = .ok (.new ik, 3)) (d3 : decode cc (pc + 3) = .ok (.dup, 1)) (d4 : decode cc (pc + 4) = .ok (.ldc_w is, 3)) (d6 : decode cc (pc + 7) = .ok (.invokespecial ic, 3)) (d9 : decode cc (pc + 10) = .ok (.athrow, 1))
    (hout : ∀ x ∈ c.exceptionTable.toList, covers x (pc + 10) = false) (hRf : r.length + 4 < R.frames) (hRl : (rest.map fun v => v.category).sum + (13 * (r.length + 2) + 43) ≤ R.locals) (hRc : cells + 1 ≤ R.cells) (hRs : slots + 6 ≤ R.slots) (hlocks : meth.locks = false)
    (hx : ∀ t : State, s.vm.Alike t.vm → H.size ≤ t.heap.size → (∀ q : Nat, q < H.size → t.heap[q]? = H[q]?) → XC E s t) (hf : ∀ z ∈ locs, free z.base) (hc : cells + 1 ≤ mc) (hs : slots + 6 ≤ ms) :
    W p l e R s m args below meth c H locs cells slots (vx_MQ below Qc XC args s mc ms free) (F0 m pc ls rest) := by
  intro T hT X
  have htr : e.platform.stackTraces = false := (show e.platform.stackTraces = l.stackTraces by rw [X.admits.platform]).trans hl
  have X0 := vx_rebase X (R' := { frames := R.frames, locals := R.locals, cells := 1, slots := 6 }) (Nat.le_refl _) (Nat.le_refl _) hRc hRs
  obtain ⟨s', hA⟩ : ∃ z, z = (T.setVm s.vm).setFrames (.invoking m args :: below) := ⟨_, rfl⟩
  rw [← hA] at X0
  have hvm : s'.vm = s.vm := by rw [hA]; rfl
  have hhp : s'.heap = H := by rw [hA]; exact hT
  have hW0 : s.WarmedH s'.vm := by rw [hvm]; exact State.WarmedH.refl s
  have up : ∀ w, vx_ot w = true → w.before args s = true → w.before args s' = true := fun w h1 h2 => vx_ot_at hW0 hvm.symm h1 h2
  have hat' : ∀ w ∈ nsS own ic E Y r, w.before args s' = true := fun w hw => up w (hgood w (List.mem_cons_of_mem _ (List.mem_cons_of_mem _ hw))) (hat w hw)
  have hk' := up _ (hgood _ List.mem_cons_self) hk
  have hini' := up _ (hgood _ (List.mem_cons_of_mem _ List.mem_cons_self)) hini
  have hU' : vx_Zq Bundle.tN "UNASSIGNED_STACK" Bundle.steD A s' s'.heap := by rw [hhp]; exact vx_Zq.moved hW0.alike (hU.kept hS.2.1)
  have hN' : vx_Zq Bundle.tN "SUPPRESSED_SENTINEL" Bundle.listD A s' s'.heap := by rw [hhp]; exact vx_Zq.moved hW0.alike (hN.kept hS.2.1)
  have h : ∀ w ∈ nsW own ic E Y r, w.before args s' = true := vx_own hat' (vx_isRefq hU'.1) (vx_isRefq hN'.1) hU'.2.word hN'.2.word
  have hown' : s'.vm.findClass own = some m.cls := by rw [hvm]; exact hown
  have hins : (Cond.instantiable E 6).before args s' = true := h _ (by simp [nsW])
  obtain ⟨v1, cX, kX, hfX, hkX, -, -, X1, st1⟩ := X0.newCold hexec (own := own) (C := E) (index := ik) (n := 6) hown' hk' hins hini' (g := F0 m pc ls rest) rfl (by rw [hb]; exact d0) (Nat.le_refl _) (Nat.le_refl _)
  generalize hT1 : (T.setVm v1).pushCell { cls := cX, slots := kX.instanceTypes.map defaultValue, vm := .none } = T1 at X1 st1
  have hcat : (Value.ref T.heap.size).category = 1 := rfl
  have hcA : T1.heap[T.heap.size]? = some (freshCell cX kX) := by rw [← hT1]; exact State.heap_pushCell_size _ _
  have d3' : decode c.code (pc + 3) = .ok (.dup, 1) := by rw [hb]; exact d3
  have d4' : decode c.code (pc + 4) = .ok (.ldc_w is, 3) := by rw [hb]; exact d4
  have hstr' : vk_R own is text sa s' := vk_R.warm hW0 hstr
  obtain ⟨U, hsteps, hrun, hend, hW, hsame, ce, hce, hcc, hcv⟩ := ns_ctor X1 hexec htr (own := own) (E := E) (Y := Y) (r := r) (ic := ic) hown' hE hY hr h (fun x hx => nomatch hx) hfX hkX hcA (by rw [hhp, hT]; exact Nat.le_refl _) (msg := .ref sa) rfl
    (g := { method := m, pc := pc + 7, locals := ls, stack := .ref sa :: .ref T.heap.size :: .ref T.heap.size :: rest, locked := none }) rfl hsize rfl rfl (rest := rest) rfl
    (by rw [hb]; exact d6) (by rw [hb]; exact d9) hout hRf (by simp only [List.map_cons, List.sum_cons, hcat]; omega) hlocks
  obtain ⟨f1, f2⟩ := vx_frame hsame
  rw [hhp] at f1 f2
  have hWs : s.WarmedH U.vm := State.WarmedH.trans hW0 hW
  have hcl : s.vm.findClass E = some ce.cls := by
    have h9 := hfX
    rw [hvm] at h9
    rw [hcc]
    exact h9
  have hall : s.sameButNew ({ U with vm := s.vm } : State) locs mc ms := by
    subst hA
    obtain ⟨e1, e2⟩ := hsame
    rw [State.setFrames_setFrames] at e1
    have h2 : (T.setVm s.vm).sameButNew ({ U with vm := s.vm } : State) [] (0 + 1) (0 + 6) := ⟨e1, e2⟩
    have h3 := X.same.trans h2
    rw [List.append_nil] at h3
    exact h3.mono hc hs
  refine ⟨U, ?_, .threw T.heap.size, hrun, hend, Or.inr ⟨T.heap.size, rfl, E, ce, locs, hx U hWs.alike f1 (fun q hq => f2 q hq (fun z hz => nomatch hz)), hce, hcv, hcl, hWs, hall, hf⟩⟩
  refine st1 _ ?_
  show Steps p.tables e below (T1.setTop { method := m, pc := pc + 3, locals := ls, stack := .ref T.heap.size :: rest, locked := none }) _
  jvm_step X1.here [X1.here.top, hexec, d3', Value.category]
  exact X1.ldcStringW hexec (own := own) (text := text) (index := is) (a := sa) hown' hstr'.1 hstr'.2
    (g := { method := m, pc := pc + 4, locals := ls, stack := .ref T.heap.size :: .ref T.heap.size :: rest, locked := none }) rfl d4' _ hsteps
theorem ns_words : Cond.classLink RX11 127 "java/util/NoSuchElementException" ∈ zT ∧ Cond.initialized "java/util/NoSuchElementException" ∈ zT ∧ (∀ w ∈ (nsS RX11 131 "java/util/NoSuchElementException" "java/lang/RuntimeException" ["java/lang/Exception"]).filter goodWord, w ∈ zT) ∧ (∀ w ∈ (nsS RX11 131 "java/util/NoSuchElementException" "java/lang/RuntimeException" ["java/lang/Exception"]).filter (fun w => !goodWord w), w ∈ zDecl) ∧ ∀ w ∈ Cond.classLink RX11 127 "java/util/NoSuchElementException" :: Cond.initialized "java/util/NoSuchElementException" :: nsS RX11 131 "java/util/NoSuchElementException" "java/lang/RuntimeException" ["java/lang/Exception"], vx_ot w = true := by
  refine ⟨List.mem_filter.mpr ⟨by decide +kernel, by decide +kernel⟩, List.mem_filter.mpr ⟨by decide +kernel, by decide +kernel⟩, fun w hw => ?_, by decide +kernel, by decide +kernel⟩
  exact List.mem_filter.mpr ⟨(show ∀ w ∈ (nsS RX11 131 "java/util/NoSuchElementException" "java/lang/RuntimeException" ["java/lang/Exception"]).filter goodWord, w ∈ lw_tbl by decide +kernel) w hw, (List.mem_filter.mp hw).2⟩
end NS
theorem r_throwNE {g : zGT} {d : Nat} {y : MethodName} {nL : Nat} {ret : Option FieldType} {bt : Nat × Nat} {Q : Option Value → zW → Prop} {QX : String → zW → Prop} {cd : ByteArray} {pc : Nat} {ls : List (Option Value)} {st : List Value} {w : zW} {b : Nat × Nat} {is : Nat} {text : String} (hm : (RX11, is, text) ∈ zMsg) (d0 : decode cd pc = .ok (.new 127, 3)) (d3 : decode cd (pc + 3) = .ok (.dup, 1)) (d4 : decode cd (pc + 4) = .ok (.ldc is, 2)) (d6 : decode cd (pc + 6) = .ok (.invokespecial 131, 3)) (d9 : decode cd (pc + 9) = .ok (.athrow, 1))
    (hd : 6 ≤ d) (hr : (st.map fun v => v.category).sum ≤ 200) (h1 : b.1 + 1 ≤ bt.1) (h2 : b.2 + 6 ≤ bt.2) (hq : ∀ n, zS w ≤ n → QX "java/util/NoSuchElementException" (zsS w n)) : zR (zV g d y nL ret bt Q QX) cd RX11 pc ls st w b := by
  intro p e s m args below meth c C H locs lsA hL hH hS
  obtain ⟨t2, t3, t4, t5, t6⟩ := ns_words
  have hts : ∀ w ∈ zT, w.before args s = true := C.2.2.2.2.1
  have hst9 : g.2.2.2 s ∧ zGok g := C.2.2.2.2.2.2.2.2.2.2.1
  have hS1 := hst9.2.2.2 s hst9.1
  obtain ⟨sa, hsa⟩ := hS1.2.2.2.2.2.1 _ hm
  have hex : c.exceptionTable.toList = tableOf [] := C.2.2.2.2.2.2.2.1
  refine ns_throw (E := "java/util/NoSuchElementException") (Y := "java/lang/RuntimeException") (r := ["java/lang/Exception"]) C.1 C.2.1 C.2.2.2.2.2.2.2.2.2.2.2.2 C.2.2.2.1 (by decide +kernel) (by decide +kernel) (by decide +kernel) (hts _ t2) (hts _ t3) hsa (vx_hat (fun w hw => hts w (t4 w hw)) t5 (zDecl_use hS1.2.1)) t6 hS1.2.2.2.1 hS1.2.2.2.2.1 hS (hL.1.trans C.2.2.1.symm) d0 d3 d4 d6 d9 (by rw [hex]; intro x h; cases h) (by show 1 + 4 < d; omega) (by show _ + (13 * (1 + 2) + 43) ≤ 64 * d; omega) h1 h2 C.2.2.2.2.2.2.1 (fun t hvm hz ho => zXC_after (B := 0) hH hS hq hvm hz ho) hS.2.2 h1 h2
theorem r_throwWNE {g : zGT} {d : Nat} {y : MethodName} {nL : Nat} {ret : Option FieldType} {bt : Nat × Nat} {Q : Option Value → zW → Prop} {QX : String → zW → Prop} {cd : ByteArray} {pc : Nat} {ls : List (Option Value)} {st : List Value} {w : zW} {b : Nat × Nat} {is : Nat} {text : String} (hm : (RX11, is, text) ∈ zMsg) (d0 : decode cd pc = .ok (.new 127, 3)) (d3 : decode cd (pc + 3) = .ok (.dup, 1)) (d4 : decode cd (pc + 4) = .ok (.ldc_w is, 3)) (d6 : decode cd (pc + 7) = .ok (.invokespecial 131, 3)) (d9 : decode cd (pc + 10) = .ok (.athrow, 1))
    (hd : 6 ≤ d) (hr : (st.map fun v => v.category).sum ≤ 200) (h1 : b.1 + 1 ≤ bt.1) (h2 : b.2 + 6 ≤ bt.2) (hq : ∀ n, zS w ≤ n → QX "java/util/NoSuchElementException" (zsS w n)) : zR (zV g d y nL ret bt Q QX) cd RX11 pc ls st w b := by
  intro p e s m args below meth c C H locs lsA hL hH hS
  obtain ⟨t2, t3, t4, t5, t6⟩ := ns_words
  have hts : ∀ w ∈ zT, w.before args s = true := C.2.2.2.2.1
  have hst9 : g.2.2.2 s ∧ zGok g := C.2.2.2.2.2.2.2.2.2.2.1
  have hS1 := hst9.2.2.2 s hst9.1
  obtain ⟨sa, hsa⟩ := hS1.2.2.2.2.2.1 _ hm
  have hex : c.exceptionTable.toList = tableOf [] := C.2.2.2.2.2.2.2.1
  refine ns_throwW (E := "java/util/NoSuchElementException") (Y := "java/lang/RuntimeException") (r := ["java/lang/Exception"]) C.1 C.2.1 C.2.2.2.2.2.2.2.2.2.2.2.2 C.2.2.2.1 (by decide +kernel) (by decide +kernel) (by decide +kernel) (hts _ t2) (hts _ t3) hsa (vx_hat (fun w hw => hts w (t4 w hw)) t5 (zDecl_use hS1.2.1)) t6 hS1.2.2.2.1 hS1.2.2.2.2.1 hS (hL.1.trans C.2.2.1.symm) d0 d3 d4 d6 d9 (by rw [hex]; intro x h; cases h) (by show 1 + 4 < d; omega) (by show _ + (13 * (1 + 2) + 43) ≤ 64 * d; omega) h1 h2 C.2.2.2.2.2.2.1 (fun t hvm hz ho => zXC_after (B := 0) hH hS hq hvm hz ho) hS.2.2 h1 h2
