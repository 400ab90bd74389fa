section
variable {p : Program} {l : Launch} {e : Env} {R : Room} {s : State} {m : MethodId} {args : Array Value} {below : List Frame} {meth : Method} {c : Code} {H : Heap} {locs : List Loc} {cells slots : Nat}
theorem vx_callVU {T : State} {locs : List Loc} {cells slots : Nat} (X : Stand p l e R s m args below meth c T locs cells slots) (hexec : p.tables.exec = Jvm.exec) {own C owner : String} {index : Nat} {x y : MethodName} {bytes : ByteArray} {maxL : Nat} {ret : Option FieldType}
    (hown : s.vm.findClass own = some m.cls) (hlink : (Cond.methodLink own index x).before args s = true) (hsame : (Cond.sameMethod x.cls owner x.name x.desc).before args s = true)
    (hd0 : va_Decl s ⟨owner, x.name, x.desc⟩) (howner : owner ≠ "java/lang/invoke/MethodHandle" ∧ owner ≠ "java/lang/invoke/VarHandle")
    (hsel : (Cond.selects C x y).before args s = true) (hinst : (Cond.instanceMethod y).before args s = true) (hcode : (Cond.code y bytes maxL ret).before args s = true)
    {W : Nat} {Pre : Pt → Array Value → Prop} {Post : Pt → Array Value → Option Value → Pt → Prop} {PostX : Pt → Array Value → Addr → Pt → Prop} (hK_z : vx_Back l R p e below s args y 3 W Pre Post PostX)
    {b : Addr} {cellB : Cell} (hcell : T.heap[b]? = some cellB) (hobj : cellB.vm.isStatics = false) (hcls : s.vm.findClass C = some cellB.cls)
    {g : JFrame} (hg : g.method = m) (hsize : g.locals.size = c.maxLocals) {argsL rest : List Value} (hlen : ∀ sig, parseMethodDescriptor x.desc = some sig → argsL.length = sig.parameters.length)
    (hstack : g.stack = argsL.reverse ++ .ref b :: rest) (hW : 2 * g.monitorRoom + (rest.map fun v => v.category).sum ≤ W) (hdg : decode c.code g.pc = .ok (.invokevirtual index, 3))
    (hpre : ∀ vm₁, s.WarmedH vm₁ → Pre ⟨T.setVm vm₁, locs, cells, slots⟩ (Value.ref b :: argsL).toArray) :
    (∃ (v : Option Value) (vm₁ : Vm) (B : Pt), s.WarmedH vm₁ ∧ Stand p l e R s m args below meth c B.U B.locs B.cells B.slots ∧ Post ⟨T.setVm vm₁, locs, cells, slots⟩ (Value.ref b :: argsL).toArray v B ∧
      ∀ target, Steps p.tables e below (B.U.setTop { g with pc := g.pc + 3, stack := v.toList ++ rest }) target → Steps p.tables e below (T.setTop g) target) ∨
    (∃ (q : Addr) (vm₁ : Vm) (B : Pt), s.WarmedH vm₁ ∧ Stand p l e R s m args below meth c B.U B.locs B.cells B.slots ∧ PostX ⟨T.setVm vm₁, locs, cells, slots⟩ (Value.ref b :: argsL).toArray q B ∧
      Steps p.tables e below (T.setTop g) ((B.U.setTop { g with stack := rest }).pushFrame (.throwing q))) := by
  obtain ⟨r0, r, hn, hrm, hstR, hsigR⟩ := hd0
  obtain ⟨cn, ck, r1, hcn, hck, hni, hf, hn1⟩ := Cond.sameMethod_found hsame
  cases hn.symm.trans hn1
  obtain ⟨mk, methM, hnamed, hmethM, -, habM⟩ := Cond.instanceMethod_spec hinst
  obtain ⟨c2_z, r2, m2_z, q1_z, q2_z, q3_z, q4_z, kP, hkP, hkPi⟩ := Cond.selects_spec hsel
  cases hcls.symm.trans q1_z
  cases hf.symm.trans q2_z
  cases hnamed.symm.trans q3_z
  have hselP : selectMethod e.platform s.vm cellB.cls r0 = .method mk := by rw [Launch.admits_selectMethod X.admits]; exact q4_z
  obtain ⟨vm₁, X₁, hstep₁⟩ := X.invokevirtualUp hexec hown hlink hsame howner hn hrm hstR (a := b) (cell := cellB) hcell
    (fun z h_z => by rw [h_z] at hobj; cases hobj) hselP hmethM habM hkP hkPi (g := g) hg (argsL := argsL) (rest := rest) (hlen _ hsigR) hstack hdg
  rcases hK_z m meth c ⟨T.setVm vm₁, locs, cells, slots⟩ { g with stack := rest } (.invokevirtual index) mk (Value.ref b :: argsL).toArray X₁ hg hsize hdg hW (X₁.named hnamed) (hpre vm₁ X₁.warmed) with ⟨v, B, X', hpost, hsteps⟩ | ⟨q, B, X', hpost, hsteps⟩
  · exact Or.inl ⟨v, vm₁, B, X₁.warmed, X', hpost, fun target h_z => hstep₁ _ fun acts => by rw [doInvoke_state]; exact hsteps.trans h_z⟩
  · exact Or.inr ⟨q, vm₁, B, X₁.warmed, X', hpost, hstep₁ _ fun acts => by rw [doInvoke_state]; exact hsteps⟩
theorem vx_runU {x y : MethodName} {bytes cc : ByteArray} {maxL nL mc ms n index : Nat} {ret : Option FieldType} {ws : List Cond} {rm : Room} {Pc : Array Value → State → Prop} {Qc : Array Value → State → Outcome → State → Prop} {XC : String → State → State → Prop} {free : Addr → Prop} {Ts : List Cond} {own C owner : String} {b : Addr} {As rest : List Value} {g : JFrame}
    (S : CallFix p m c cc nL s args Ts own) (hM_z : vx_Met l y ws rm Pc Qc XC mc ms free) (cw : va_CU R s args own C owner index x y bytes maxL ret ws rm mc ms n) (hp : PreV s H C b Pc As)
    (hg : g.method = m) (hn : As.length = n) (hsize : g.locals.size = nL) (hstack : g.stack = As.reverse ++ .ref b :: rest) (hW : 2 * g.monitorRoom + (rest.map fun v => v.category).sum ≤ 8) (hdg : decode cc g.pc = .ok (.invokevirtual index, 3)) (hf : cells + mc ≤ R.cells ∧ slots + ms ≤ R.slots) :
    vx_Run p l e R s m args below meth c H locs cells slots mc ms g rest (Qc (Value.ref b :: As).toArray) XC free := by
  obtain ⟨hrc, hrs, hfr, hlo, hws, hcw⟩ := cw.back
  have hini := cw.init
  have hK_z : vx_Back l R p e below s args y 3 8 (PreOf R mc ms Pc) (PostOf Qc mc ms free) (vx_Post XC mc ms free) := vx_back (bytes := bytes) (maxL := maxL) (ret := ret) hM_z hp.1 hrc hrs hfr hlo hws hcw (fun a' U hW => word_at hW (Or.inl (by first | rfl | simp [Cond.onTables, Cond.keeps, Cond.steady])) hini)
  obtain ⟨hx, hb_z, hml, ho, -⟩ := S
  obtain ⟨-, ⟨cellB, hcB, hoB, hclB⟩, hPc⟩ := hp
  intro T hT_z X
  rcases vx_callVU X hx (C := C) (owner := owner) (bytes := bytes) (maxL := maxL) (ret := ret) ho cw.link cw.same cw.decl cw.notMH cw.sel cw.inst cw.code hK_z (by rw [hT_z]; exact hcB) hoB hclB hg (hsize.trans hml.symm) (argsL := As) (rest := rest) (fun sig h_z => hn.trans (cw.len sig h_z)) hstack hW (by rw [hb_z]; exact hdg)
    (fun vm₁ hW₁ => ⟨hf.1, hf.2, hPc (T.setVm vm₁) hT_z hW₁⟩) with ⟨v, vm₁, ⟨U', l2, c2_z, s2⟩, hW₁, X', ⟨g', mk, t, L, e1_z, e2_z, hq, h1, hL, h2, h3⟩, st⟩ | ⟨q, vm₁, ⟨U', l2, c2_z, s2⟩, hW₁, X', ⟨g', mk, t, L, E, ce, e1_z, e2_z, hq, hce, hcv, hcl, h1, hL, h2, h3⟩, st⟩
  · dsimp only [Pt.U, Pt.locs, Pt.cells, Pt.slots] at X' e1_z e2_z h1 h2 h3 st
    subst h1; subst h2; subst h3
    exact Or.inl ⟨v, (T.setVm vm₁).calling g' mk (Value.ref b :: As).toArray, t, U', L, hT_z, X', hL, e1_z, e2_z, hq, st⟩
  · dsimp only [Pt.U, Pt.locs, Pt.cells, Pt.slots] at X' e1_z e2_z h1 h2 h3 st hcl
    subst h1; subst h2; subst h3
    exact Or.inr ⟨q, (T.setVm vm₁).calling g' mk (Value.ref b :: As).toArray, t, U', L, E, ce, hT_z, X', hL, e1_z, e2_z, hq, hce, hcv, vx_cls hW₁ hcl, st⟩
end
/-! the class's Reader: its words, its text, its small methods -/
section ZU
variable {g : zGT} {Rm : Room} {QQ : List Frame → Array Value → State → State → Prop} {hh : List (Nat × Nat × Nat × Nat)} {nm : String} {nL : Nat} {ret : Option FieldType} {cd : ByteArray} {pc : Nat} {ls : List (Option Value)} {rest : List Value} {w : zW} {b : Nat × Nat}
theorem k_ord {a : Nat} {x : Int32} (G : zGok g) (hdc : decode cd pc = .ok (.invokevirtual 88, 3)) (hO : ∀ U, g.2.2.2 U → va_O RX10 a (zA g.2.2.1) U U.heap) (hF : ∀ U, g.2.2.2 U → va_OF "java/lang/Enum" "ordinal" "I" (.int x) a (zA g.2.2.1) U U.heap) (hW : (rest.map fun v => v.category).sum ≤ 8) (hfr : 2 ≤ Rm.frames) (hlo : 128 ≤ Rm.locals) (h1 : b.1 ≤ Rm.cells) (h2 : b.2 ≤ Rm.slots) (kk : zR (zVg g Rm QQ hh nm nL ret) cd RX5 (pc + 3) ls (.int x :: rest) w b) : zR (zVg g Rm QQ hh nm nL ret) cd RX5 pc ls (.ref a :: rest) w b := by
  intro p e s m args below meth c C9 H locs lsA hL hH hS_z
  have hts : ∀ w ∈ zT, w.before args s = true := C9.2.2.2.2.1
  have hok : zSok g.2.2.1 g.2.2.2 := C9.2.2.2.2.2.2.2.2.2.2.1.2.2.1
  have hM_z : zC g 1 yJx29ce0_ordinal_8abf5 cJx29ce0_ordinal_8abf5 1 (some .int) [.ref a] w (0, 0) (fun r w2 => r = some (.int x) ∧ w2 = w) (fun _ _ => False) := by
    refine zC_of G (by decide +kernel) (Nat.le_of_ble_eq_true rfl) ?_
    refine r_aloadR0 dJx29ce0_ordinal_8abf5_0 ?_
    refine k_getf hF zg_RJx29ce0_7 dJx29ce0_ordinal_8abf5_1 ?_
    exact r_iret dJx29ce0_ordinal_8abf5_4 rfl (Nat.le_of_ble_eq_true rfl) (Nat.le_of_ble_eq_true rfl) ⟨rfl, rfl⟩
  have m1_z : Cond.methodLink RX5 88 ⟨RX10, "ordinal", "()I"⟩ ∈ zT := zt4 (List.mem_of_getElem? (i := 213) (by decide +kernel)) (by decide +kernel)
  have m2_z : Cond.sameMethod RX10 RJx29ce0 "ordinal" "()I" ∈ zT := zt4 (List.mem_of_getElem? (i := 214) (by decide +kernel)) (by decide +kernel)
  have m3_z : Cond.selects RX10 ⟨RX10, "ordinal", "()I"⟩ yJx29ce0_ordinal_8abf5 ∈ zT := zt4 (List.mem_of_getElem? (i := 216) (by decide +kernel)) (by decide +kernel)
  have m4_z : Cond.instanceMethod yJx29ce0_ordinal_8abf5 ∈ zT := zt4 (List.mem_of_getElem? (i := 217) (by decide +kernel)) (by decide +kernel)
  have m5_z : Cond.initialized RJx29ce0 ∈ zT := zt1 (List.mem_of_getElem? (i := 3) (by decide +kernel)) (by decide +kernel)
  have m6_z : Cond.code yJx29ce0_ordinal_8abf5 cJx29ce0_ordinal_8abf5 1 (some .int) ∈ zT := zt4 (List.mem_of_getElem? (i := 218) (by decide +kernel)) (by decide +kernel)
  have hG : GoodIn zT (va_wsU RX5 88 RX10 RJx29ce0 ⟨RX10, "ordinal", "()I"⟩ yJx29ce0_ordinal_8abf5 (zws yJx29ce0_ordinal_8abf5 cJx29ce0_ordinal_8abf5 1 (some .int))) := by
    intro u hu
    rcases List.mem_append.mp hu with h_z | h_z
    · have h9 : u ∈ zT := by
        simp only [List.mem_cons, List.not_mem_nil, or_false] at h_z
        rcases h_z with rfl | rfl | rfl | rfl | rfl
        · exact m1_z
        · exact m2_z
        · exact m3_z
        · exact m4_z
        · exact m5_z
      exact ⟨h9, good_of_word (zT_good h9)⟩
    · exact zws_good m6_z u h_z
  have cw : va_CU Rm s args RX5 RX10 RJx29ce0 88 ⟨RX10, "ordinal", "()I"⟩ yJx29ce0_ordinal_8abf5 cJx29ce0_ordinal_8abf5 1 (some .int) (zws yJx29ce0_ordinal_8abf5 cJx29ce0_ordinal_8abf5 1 (some .int)) (zrm 1 (0, 0)) 0 0 0 :=
    va_cwU 0 hts hG rfl rfl rfl rfl ⟨by decide, by decide, by decide +kernel⟩ ⟨hfr, by show 8 + (1 + 11) + 64 * 1 ≤ Rm.locals; omega⟩
  obtain ⟨cell, r1, r2, r3, -⟩ := (hO s C9.2.2.2.2.2.2.2.2.2.2.1.1).kept hS_z.2.1
  refine zRun (b2 := (0, 0)) C9 hL hS_z (vx_runU (Ts := zT) (As := []) (rest := rest) ⟨C9.1, C9.2.1, C9.2.2.1, C9.2.2.2.1, hts⟩ hM_z cw ⟨zBlind hok, ⟨cell, r1, r2, r3⟩, fun U hU hW2 => ⟨rfl, zPre_of rfl C9 hH hS_z U hU hW2⟩⟩ rfl rfl hL.1 rfl (lv_room hW) hdc ⟨h1, h2⟩) ?_ (fun E w2 h_z => h_z.elim)
  rintro r w2 ⟨rfl, rfl⟩
  exact kk
theorem k_callV2 {ix d2 a : Nat} {x0 x1 : Value} {y2 : MethodName} {cd2 : ByteArray} {nL2 : Nat} {ret2 : Option FieldType} {b2 : Nat × Nat} {ow : String} (hl : zlV ow ix y2 cd2 nL2 ret2 2) (hdc : decode cd pc = .ok (.invokevirtual ix, 3)) (hO : ∀ U, g.2.2.2 U → va_O y2.cls a (zA g.2.2.1) U U.heap) (hW : (rest.map fun v => v.category).sum ≤ 8) (hd2 : d2 + 1 ≤ Rm.frames) (hd3 : 64 * (d2 + 1) ≤ Rm.locals) (h1 : b.1 + b2.1 ≤ Rm.cells) (h2 : b.2 + b2.2 ≤ Rm.slots) (hM_z : zC g d2 y2 cd2 nL2 ret2 (.ref a :: [x0, x1]) w b2 (fun r w2 => zR (zVg g Rm QQ hh nm nL ret) cd ow (pc + 3) ls (r.toList ++ rest) w2 (b.1 + b2.1, b.2 + b2.2)) (fun E w2 => zX (zVg g Rm QQ hh nm nL ret) cd ow pc ls w2 (b.1 + b2.1, b.2 + b2.2) E)) : zR (zVg g Rm QQ hh nm nL ret) cd ow pc ls (x1 :: x0 :: .ref a :: rest) w b := k_callV (As := [x0, x1]) hl hdc hM_z rfl rfl hO hW hd2 hd3 h1 h2 (fun _ _ h_z => h_z) (fun _ _ h_z => h_z)
end ZU
/-- the world with another word -/
abbrev wW (w : zW) (A : Nat) (v : Option Nat) : zW := zsP w (zu (zP w) A 6 v)
theorem zu_zu {α : Type} {f : Nat → Nat → α} {a i : Nat} {x y : α} : zu (zu f a i x) a i y = zu f a i y := by
  funext q k
  by_cases h_z : q = a ∧ k = i
  · show (if q = a ∧ k = i then y else _) = (if q = a ∧ k = i then y else _)
    rw [if_pos h_z, if_pos h_z]
  · show (if q = a ∧ k = i then y else (if q = a ∧ k = i then x else f q k)) = (if q = a ∧ k = i then y else f q k)
    rw [if_neg h_z, if_neg h_z, if_neg h_z]
theorem zu_id {α : Type} {f : Nat → Nat → α} {a i : Nat} : zu f a i (f a i) = f := by
  funext q k
  show (if q = a ∧ k = i then f a i else f q k) = f q k
  by_cases h_z : q = a ∧ k = i
  · rw [if_pos h_z, h_z.1, h_z.2]
  · rw [if_neg h_z]
theorem wW_w {w : zW} {A : Nat} {v u : Option Nat} : zsP (wW w A v) (zu (zP (wW w A v)) A 6 u) = wW w A u := by
  show zsP w (zu (zu (zP w) A 6 v) A 6 u) = zsP w (zu (zP w) A 6 u)
  rw [zu_zu]
theorem wW_id {w : zW} {A : Nat} : wW w A (zP w A 6) = w := by
  show zsP w (zu (zP w) A 6 (zP w A 6)) = w
  rw [zu_id]
  rfl
def shRd (w : zW) (A tq nq : Nat) : Prop := zK w A = 5 ∧ zP w A 0 = some tq ∧ zP w A 7 = some nq ∧ zP w A 8 = some (A + 8) ∧ (zK w tq = 22 ∧ zN w tq = 900) ∧ (zK w (A + 8) = 21 ∧ zN w (A + 8) = 900) ∧ tq < A
section ZW
variable {w : zW} {A tq nq : Nat} {v : Option Nat}
theorem shRd_k (h_z : shRd w A tq nq) : zK (wW w A v) A = 5 := h_z.1
theorem shRd_p0 (h_z : shRd w A tq nq) : zP (wW w A v) A 0 = some tq := (zu_ni (by decide)).trans h_z.2.1
theorem shRd_p7 (h_z : shRd w A tq nq) : zP (wW w A v) A 7 = some nq := (zu_ni (by decide)).trans h_z.2.2.1
theorem shRd_p8 (h_z : shRd w A tq nq) : zP (wW w A v) A 8 = some (A + 8) := (zu_ni (by decide)).trans h_z.2.2.2.1
theorem shRd_k0 (h_z : shRd w A tq nq) : zK (wW w A v) tq = 22 := h_z.2.2.2.2.1.1
theorem shRd_n0 (h_z : shRd w A tq nq) : zN (wW w A v) tq = 900 := h_z.2.2.2.2.1.2
theorem shRd_k8 (h_z : shRd w A tq nq) : zK (wW w A v) (A + 8) = 21 := h_z.2.2.2.2.2.1.1
theorem shRd_n8 (h_z : shRd w A tq nq) : zN (wW w A v) (A + 8) = 900 := h_z.2.2.2.2.2.1.2
theorem shRd_t (h_z : shRd w A tq nq) : tq < A := h_z.2.2.2.2.2.2
theorem shRd_na (h_z : shRd w A tq nq) (hn : shNa w nq) : shNa (wW w A v) nq := by
  have hne : nq ≠ A := fun e => by have h1 := h_z.1; have h2 := hn.1; rw [e, h1] at h2; exact absurd h2 (by decide)
  obtain ⟨a1, a2, a3, a4⟩ := hn
  exact ⟨a1, (congrFun (zu_ne hne) 3).trans a2, (congrFun (zu_ne hne) 4).trans a3, a4⟩
end ZW
/-- the words, as constants -/
def fcI (i : Nat) : Int32 := if fcP i = 8 then -1 else nI (fcP i)
def smI (i : Nat) : Int32 := if i = 0 then 1 else if i = 2 then 2 else if i = 3 then 3 else if i = 4 then 4 else if i = 5 then 5 else 0
def kWs : List (String × Nat) := [("UNKNOWN", 16), ("BACK", 1), ("LIKES", 5), ("HOLDS", 4), ("NOT", 8), ("GUEST", 2), ("WANT", 15), ("AND", 7), ("OR", 6)]
def sgL : List Nat := [59, 58, 43, 45, 42, 40, 41, 91, 93, 61, 60, 62]
def kWo (g : zGT) (ca wa wv : Nat → Nat) (ta sm gq gv : Nat) : Prop := (∀ i k, i < 17 → k < 17 → ca i = ca k → i = k) ∧ (∀ e ∈ kWs, ∀ U, g.2.2.2 U → va_Z "NapkinDeeds$Word" e.1 "LNapkinDeeds$Word;" (.ref (ca e.2)) (zA g.2.2.1) U U.heap) ∧ (∀ U, g.2.2.2 U → va_Z "NapkinDeeds$Word" "ALL" "[LNapkinDeeds$Word;" (.ref ta) (zA g.2.2.1) U U.heap) ∧ (∀ U, g.2.2.2 U → va_T (.object "NapkinDeeds$Word") ta 17 (fun i => .ref (ca i)) (zA g.2.2.1) U U.heap) ∧ (∀ i, i < 17 → ∀ U, g.2.2.2 U → va_O RX10 (ca i) (zA g.2.2.1) U U.heap ∧ va_OF "NapkinDeeds$Word" "letters" "Ljava/lang/String;" (.ref (wa i)) (ca i) (zA g.2.2.1) U U.heap ∧ va_OF "NapkinDeeds$Word" "fact" "I" (.int (fcI i)) (ca i) (zA g.2.2.1) U U.heap ∧ va_OF "java/lang/Enum" "ordinal" "I" (.int (nI i)) (ca i) (zA g.2.2.1) U U.heap) ∧ (∀ U, g.2.2.2 U → va_Z "NapkinDeeds$1" "$SwitchMap$NapkinDeeds$Word" "[I" (.ref sm) (zA g.2.2.1) U U.heap) ∧ (∀ U, g.2.2.2 U → va_T .int sm 17 (fun i => .int (smI i)) (zA g.2.2.1) U U.heap) ∧ kTx g (wa 16) (wv 16) [] ∧ (∀ U, g.2.2.2 U → vk_R RX5 242 ";:+-*()[]=<>" gq U) ∧ kTx g gq gv sgL
/-- bytes as they stand on the class's tape -/
def btO (x : Int32) (b : Nat) : Prop := x.toInt = if b < 128 then (b : Int) else (b : Int) - 256
theorem and255 : ∀ k : Nat, k < 256 → (Int32.ofInt (if k < 128 then (k : Int) else (k : Int) - 256) &&& 255).toInt = (k : Int) := by decide +kernel
theorem btO_and {x : Int32} {b : Nat} (h_z : btO x b) (hb_z : b ≤ 255) : (x &&& 255).toInt = (b : Int) := by
  have h1 := and255 b (by omega)
  rw [← h_z, Int32.ofInt_toInt] at h1
  exact h1
def tpR (B : Nat → Nat) (n : Nat) (f : Nat → Nat → Int32) (A tq : Nat) : Prop := (f A 1).toInt = (n : Nat) ∧ n ≤ 900 ∧ (∀ q, q < n → btO (f tq q) (B q)) ∧ ∀ q, B q ≤ 255
theorem tpR_of {B : Nat → Nat} {n A tq : Nat} {f f2_z : Nat → Nat → Int32} {S K : List Nat} (h_z : tpR B n f A tq) (ht : tq < A) (o : frM A S K f f2_z) (h1 : 1 ∉ K) : tpR B n f2_z A tq := ⟨by rw [o.2.2 1 h1]; exact h_z.1, h_z.2.1, by rw [o.1 tq (Or.inl ht)]; exact h_z.2.2.1, h_z.2.2.2⟩
def bAt (B : Nat → Nat) (n i : Nat) : Nat := if i < n then B i else 0
def tkR (ca : Nat → Nat) (B : Nat → Nat) (n : Nat) (f : Nat → Nat → Int32) (v : Option Nat) (A s : Nat) : Prop := s ≤ n ∧ (f A 2).toInt = (teP B n s : Nat) ∧ (f A 3).toInt = (s : Nat) ∧ (f A 4).toInt = (tkP B n s : Nat) ∧ (tkP B n s = 2 → (f A 5).toInt = (nmP B n s : Nat)) ∧ (tkP B n s = 3 → v = some (ca (wdP B n s))) ∧ (f A 11).toInt = 0 ∧ (f A 12).toInt = -1
theorem tkR_of {ca B : Nat → Nat} {n A s : Nat} {f f2_z : Nat → Nat → Int32} {v : Option Nat} {S K : List Nat} (h_z : tkR ca B n f v A s) (o : frM A S K f f2_z) (h2 : 2 ∉ K ∧ 11 ∉ K) (h3 : 3 ∉ K ∧ 12 ∉ K) (h4 : 4 ∉ K) (h5 : 5 ∉ K) : tkR ca B n f2_z v A s := ⟨h_z.1, by rw [o.2.2 2 h2.1]; exact h_z.2.1, by rw [o.2.2 3 h3.1]; exact h_z.2.2.1, by rw [o.2.2 4 h4]; exact h_z.2.2.2.1, by rw [o.2.2 5 h5]; exact h_z.2.2.2.2.1, h_z.2.2.2.2.2.1, by rw [o.2.2 11 h2.2]; exact h_z.2.2.2.2.2.2.1, by rw [o.2.2 12 h3.2]; exact h_z.2.2.2.2.2.2.2⟩
theorem sg_ne : ∀ c, c < 128 → (isSg c = true ↔ c ∈ sgL) := by decide +kernel
theorem wd_le {B : Nat → Nat} {n s : Nat} : wdP B n s ≤ 16 := by
  have : wdP B n s ≤ wdL.length := List.idxOf_le_length
  exact this
set_option maxHeartbeats 4000000 in
set_option maxRecDepth 100000 in
theorem s_X5_isDigit {g : zGT} {w : zW} {f : Nat → Nat → Int32} {j : Nat → Nat → Int64} {x : Int32} {Q : Option Value → zW → Prop} {QX : String → zW → Prop} (G : zGok g)  (hQ : ∀ r : Int32, (r.toInt = 1 ∧ (48 ≤ x.toInt ∧ x.toInt ≤ 57) ∨ r.toInt = 0 ∧ ¬ (48 ≤ x.toInt ∧ x.toInt ≤ 57)) → Q (some (.int r)) (zM w f j)) : zC g 1 yX5_isDigit cX5_isDigit 1 (some .boolean) [.int x] (zM w f j) (0, 0) Q QX := by
  refine zC_of G (by decide +kernel) (Nat.le_of_ble_eq_true rfl) ?_
  refine r_iload0 dX5_isDigit_0 ?_
  refine n_bipush dX5_isDigit_1 (by decide) (fun r1 e1_z => ?_)
  refine t_iclt (t := 16) dX5_isDigit_3 (by decide) (fun h3 => ?_) (fun h3 => ?_)
  · refine n_iconst dX5_isDigit_16 (by decide) (fun r16 e16_z => ?_)
    refine m_zret dX5_isDigit_17 rfl (by omega) (Nat.le_of_ble_eq_true rfl) (Nat.le_of_ble_eq_true rfl) ?_
    exact hQ _ (by omega)
  · refine r_iload0 dX5_isDigit_6 ?_
    refine n_bipush dX5_isDigit_7 (by decide) (fun r7 e7_z => ?_)
    refine t_icgt (t := 16) dX5_isDigit_9 (by decide) (fun h9 => ?_) (fun h9 => ?_)
    · refine n_iconst dX5_isDigit_16 (by decide) (fun r16 e16_z => ?_)
      refine m_zret dX5_isDigit_17 rfl (by omega) (Nat.le_of_ble_eq_true rfl) (Nat.le_of_ble_eq_true rfl) ?_
      exact hQ _ (by omega)
    · refine n_iconst dX5_isDigit_12 (by decide) (fun r12 e12_z => ?_)
      refine r_goto (t := 17) dX5_isDigit_13 (by decide) ?_
      refine m_zret dX5_isDigit_17 rfl (by omega) (Nat.le_of_ble_eq_true rfl) (Nat.le_of_ble_eq_true rfl) ?_
      exact hQ _ (by omega)
set_option maxHeartbeats 4000000 in
set_option maxRecDepth 100000 in
theorem s_X5_isLetter {g : zGT} {w : zW} {f : Nat → Nat → Int32} {j : Nat → Nat → Int64} {x : Int32} {Q : Option Value → zW → Prop} {QX : String → zW → Prop} (G : zGok g)  (hQ : ∀ r : Int32, (r.toInt = 1 ∧ (97 ≤ x.toInt ∧ x.toInt ≤ 122) ∨ r.toInt = 0 ∧ ¬ (97 ≤ x.toInt ∧ x.toInt ≤ 122)) → Q (some (.int r)) (zM w f j)) : zC g 1 yX5_isLetter cX5_isLetter 1 (some .boolean) [.int x] (zM w f j) (0, 0) Q QX := by
  refine zC_of G (by decide +kernel) (Nat.le_of_ble_eq_true rfl) ?_
  refine r_iload0 dX5_isLetter_0 ?_
  refine n_bipush dX5_isLetter_1 (by decide) (fun r1 e1_z => ?_)
  refine t_iclt (t := 16) dX5_isLetter_3 (by decide) (fun h3 => ?_) (fun h3 => ?_)
  · refine n_iconst dX5_isLetter_16 (by decide) (fun r16 e16_z => ?_)
    refine m_zret dX5_isLetter_17 rfl (by omega) (Nat.le_of_ble_eq_true rfl) (Nat.le_of_ble_eq_true rfl) ?_
    exact hQ _ (by omega)
  · refine r_iload0 dX5_isLetter_6 ?_
    refine n_bipush dX5_isLetter_7 (by decide) (fun r7 e7_z => ?_)
    refine t_icgt (t := 16) dX5_isLetter_9 (by decide) (fun h9 => ?_) (fun h9 => ?_)
    · refine n_iconst dX5_isLetter_16 (by decide) (fun r16 e16_z => ?_)
      refine m_zret dX5_isLetter_17 rfl (by omega) (Nat.le_of_ble_eq_true rfl) (Nat.le_of_ble_eq_true rfl) ?_
      exact hQ _ (by omega)
    · refine n_iconst dX5_isLetter_12 (by decide) (fun r12 e12_z => ?_)
      refine r_goto (t := 17) dX5_isLetter_13 (by decide) ?_
      refine m_zret dX5_isLetter_17 rfl (by omega) (Nat.le_of_ble_eq_true rfl) (Nat.le_of_ble_eq_true rfl) ?_
      exact hQ _ (by omega)
set_option maxHeartbeats 4000000 in
set_option maxRecDepth 100000 in
theorem s_X5_byteAt {g : zGT} {w : zW} {f : Nat → Nat → Int32} {j : Nat → Nat → Int64} {A tq nq : Nat} {v : Option Nat} {B : Nat → Nat} {n : Nat} {x : Int32} {k : Nat} {Q : Option Value → zW → Prop} {QX : String → zW → Prop} (G : zGok g) (hr : shRd w A tq nq) (htp : tpR B n f A tq) (hx : x.toInt = (k : Nat)) (hQ : ∀ r : Int32, r.toInt = (bAt B n k : Nat) → Q (some (.int r)) (zM (wW w A v) f j)) : zC g 1 yX5_byteAt cX5_byteAt 2 (some .int) [.ref A, .int x] (zM (wW w A v) f j) (0, 0) Q QX := by
  refine zC_of G (by decide +kernel) (Nat.le_of_ble_eq_true rfl) ?_
  have h1 := htp.1
  have h900 := htp.2.1
  rcases Nat.lt_or_ge k n with hk | hk
  · refine r_iload1 dX5_byteAt_0 ?_
    refine t_iflt (t := 34) dX5_byteAt_1 (by decide) (fun h1 => False.elim (by omega)) (fun h1 => ?_)
    refine r_iload1 dX5_byteAt_4 ?_
    refine r_aloadR0 dX5_byteAt_5 ?_
    refine m_getV (x := (f A 1)) zf_RX5_15 rfl dX5_byteAt_6 (shRd_k hr) (rfl) ?_
    refine t_icge (t := 34) dX5_byteAt_9 (by decide) (fun h9 => False.elim (by omega)) (fun h9 => ?_)
    refine r_iload1 dX5_byteAt_12 ?_
    refine r_aloadR0 dX5_byteAt_13 ?_
    refine m_getR (q := tq) zf_RX5_9 rfl dX5_byteAt_14 (shRd_k hr) (shRd_p0 hr) ?_
    refine m_alen dX5_byteAt_17 (zge (shRd_k0 hr) (by decide)) (shRd_n0 hr) (by first | decide | omega) (fun r17 e17_z => ?_)
    refine t_icge (t := 34) dX5_byteAt_18 (by decide) (fun h18 => False.elim (by omega)) (fun h18 => ?_)
    refine r_aloadR0 dX5_byteAt_21 ?_
    refine m_getR (q := tq) zf_RX5_9 rfl dX5_byteAt_22 (shRd_k hr) (shRd_p0 hr) ?_
    refine r_iload1 dX5_byteAt_25 ?_
    refine m_bald (k := k) (x := (f tq k)) dX5_byteAt_26 (shRd_k0 hr) (shRd_n0 hr) (by omega) (by omega) (rfl) ?_
    refine n_sipush dX5_byteAt_27 (by decide) (fun r27 e27_z => ?_)
    refine r_iand dX5_byteAt_30 ?_
    refine n_name (fun r30 e30 => ?_)
    refine r_goto (t := 35) dX5_byteAt_31 (by decide) ?_
    refine r_iret dX5_byteAt_35 rfl (Nat.le_of_ble_eq_true rfl) (Nat.le_of_ble_eq_true rfl) ?_
    refine hQ _ ?_
    have hb_z := btO_and (htp.2.2.1 k hk) (htp.2.2.2 k)
    unfold bAt
    rw [if_pos hk, e30, show r27 = 255 from zi_eq.mpr (e27_z.trans (by decide))]
    exact hb_z
  · refine r_iload1 dX5_byteAt_0 ?_
    refine t_iflt (t := 34) dX5_byteAt_1 (by decide) (fun h1 => False.elim (by omega)) (fun h1 => ?_)
    refine r_iload1 dX5_byteAt_4 ?_
    refine r_aloadR0 dX5_byteAt_5 ?_
    refine m_getV (x := (f A 1)) zf_RX5_15 rfl dX5_byteAt_6 (shRd_k hr) (rfl) ?_
    refine t_icge (t := 34) dX5_byteAt_9 (by decide) (fun h9 => ?_) (fun h9 => False.elim (by omega))
    refine n_iconst dX5_byteAt_34 (by decide) (fun r34 e34 => ?_)
    refine r_iret dX5_byteAt_35 rfl (Nat.le_of_ble_eq_true rfl) (Nat.le_of_ble_eq_true rfl) ?_
    refine hQ _ ?_
    unfold bAt
    rw [if_neg (Nat.not_lt.mpr hk)]
    exact e34
set_option maxHeartbeats 4000000 in
set_option maxRecDepth 100000 in
theorem s_J1_canEncode_9a6ad {g : zGT} {w : zW} {f : Nat → Nat → Int32} {j : Nat → Nat → Int64} {x : Int32} {Q : Option Value → zW → Prop} {QX : String → zW → Prop} (G : zGok g) (h0 : 0 ≤ x.toInt ∧ x.toInt ≤ 255) (hQ : ∀ r : Int32, r.toInt = 1 → Q (some (.int r)) (zM w f j)) : zC g 1 yJ1_canEncode_9a6ad cJ1_canEncode_9a6ad 1 (some .boolean) [.int x] (zM w f j) (0, 0) Q QX := by
  refine zC_of G (by decide +kernel) (Nat.le_of_ble_eq_true rfl) ?_
  refine r_iload0 dJ1_canEncode_9a6ad_0 ?_
  refine t_iflt (t := 15) dJ1_canEncode_9a6ad_1 (by decide) (fun h1 => False.elim (by omega)) (fun h1 => ?_)
  refine r_iload0 dJ1_canEncode_9a6ad_4 ?_
  refine n_sipush dJ1_canEncode_9a6ad_5 (by decide) (fun r5 e5_z => ?_)
  refine t_icgt (t := 15) dJ1_canEncode_9a6ad_8 (by decide) (fun h8 => False.elim (by omega)) (fun h8 => ?_)
  refine n_iconst dJ1_canEncode_9a6ad_11 (by decide) (fun r11 e11_z => ?_)
  refine r_goto (t := 16) dJ1_canEncode_9a6ad_12 (by decide) ?_
  refine m_zret dJ1_canEncode_9a6ad_16 rfl (by omega) (Nat.le_of_ble_eq_true rfl) (Nat.le_of_ble_eq_true rfl) ?_
  exact hQ _ (by omega)
theorem i2b_id : ∀ k, k < 256 → ∀ c, c < 128 → (((nI k).toInt8.toInt32 = nI c) ↔ k = c) := by decide +kernel
set_option maxHeartbeats 4000000 in
set_option maxRecDepth 100000 in
theorem s_J1_indexOfChar_4cfef {g : zGT} {w : zW} {f : Nat → Nat → Int32} {j : Nat → Nat → Int64} {a vv : Nat} {L : List Nat} {x y z : Int32} {c : Nat} {Q : Option Value → zW → Prop} {QX : String → zW → Prop} (G : zGok g) (ht : kTx g a vv L) (hx : x.toInt = (c : Nat)) (hc_z : c ≤ 255) (hy : y.toInt = 0) (hz : z.toInt = (L.length : Nat)) (hQ : ∀ r : Int32, (0 ≤ r.toInt ∧ c ∈ L ∨ r.toInt = -1 ∧ c ∉ L) → Q (some (.int r)) (zM w f j)) : zC g 1 yJ1_indexOfChar_4cfef cJ1_indexOfChar_4cfef 6 (some .int) [.ref vv, .int x, .int y, .int z] (zM w f j) (0, 0) Q QX := by
  refine zC_of G (by decide +kernel) (Nat.le_of_ble_eq_true rfl) ?_
  have h9 := ht.1
  have hx9 : x = nI c := zi_of hx (by omega)
  refine r_iload1 dJ1_indexOfChar_4cfef_0 ?_
  refine r_i2b dJ1_indexOfChar_4cfef_1 ?_
  refine n_name (fun r1 e1_z => ?_)
  have hr2 : r1 = (nI c).toInt8.toInt32 := by rw [e1_z, hx9]
  have lp : ∀ (mz : Nat) (u : Int32) (k : Nat), u.toInt = (k : Nat) → k ≤ L.length → (∀ q, q < k → c ≠ L.getD q 0) → L.length - k < mz → zR (zV g 1 yJ1_indexOfChar_4cfef 6 (some .int) (0, 0) Q QX) cJ1_indexOfChar_4cfef yJ1_indexOfChar_4cfef.cls 7 [some (.ref vv), some (.int x), some (.int y), some (.int z), some (.int r1), some (.int u)] [] (zM w f j) (0, 0) := by
    intro mz
    induction mz with
    | zero =>
      intro u k huk hk hno hmz
      exact absurd hmz (Nat.not_lt_zero _)
    | succ mz ih =>
      intro u k huk hk hno hmz
      rcases Nat.lt_or_ge k L.length with hkl | hkl
      · have hlt : L[k] < 128 := ht.2.1 _ (List.getElem_mem hkl)
        have hgd : L.getD k 0 = L[k] := by rw [List.getD_eq_getElem?_getD, List.getElem?_eq_getElem hkl]; rfl
        have hib := i2b_id c (by omega) L[k] hlt
        by_cases hck : c = L[k]
        · refine r_iload5 dJ1_indexOfChar_4cfef_7 ?_
          refine r_iload3 dJ1_indexOfChar_4cfef_9 ?_
          refine t_icge (t := 31) dJ1_indexOfChar_4cfef_10 (by decide) (fun h10 => False.elim (by omega)) (fun h10 => ?_)
          refine r_aloadR0 dJ1_indexOfChar_4cfef_13 ?_
          refine r_iload5 dJ1_indexOfChar_4cfef_14 ?_
          refine k_bald (k := k) (v := .int (nI L[k])) (fun U hU => (ht.2.2 U hU).2.2.2) huk hkl (by omega) (by show Value.int (nI (L.getD k 0)) = _; rw [hgd]) dJ1_indexOfChar_4cfef_16 ?_
          refine r_iload4 dJ1_indexOfChar_4cfef_17 ?_
          refine t_icne (t := 25) dJ1_indexOfChar_4cfef_19 (by decide) (fun h19 => False.elim (h19 (by rw [hr2]; rw [hib.mpr hck]))) (fun h19 => ?_)
          refine r_iload5 dJ1_indexOfChar_4cfef_22 ?_
          refine r_iret dJ1_indexOfChar_4cfef_24 rfl (Nat.le_of_ble_eq_true rfl) (Nat.le_of_ble_eq_true rfl) ?_
          exact hQ _ (Or.inl ⟨by omega, by rw [hck]; exact List.getElem_mem hkl⟩)
        · refine r_iload5 dJ1_indexOfChar_4cfef_7 ?_
          refine r_iload3 dJ1_indexOfChar_4cfef_9 ?_
          refine t_icge (t := 31) dJ1_indexOfChar_4cfef_10 (by decide) (fun h10 => False.elim (by omega)) (fun h10 => ?_)
          refine r_aloadR0 dJ1_indexOfChar_4cfef_13 ?_
          refine r_iload5 dJ1_indexOfChar_4cfef_14 ?_
          refine k_bald (k := k) (v := .int (nI L[k])) (fun U hU => (ht.2.2 U hU).2.2.2) huk hkl (by omega) (by show Value.int (nI (L.getD k 0)) = _; rw [hgd]) dJ1_indexOfChar_4cfef_16 ?_
          refine r_iload4 dJ1_indexOfChar_4cfef_17 ?_
          refine t_icne (t := 25) dJ1_indexOfChar_4cfef_19 (by decide) (fun h19 => ?_) (fun h19 => False.elim (hck (hib.mp (by rw [← hr2]; exact zi_eq.mpr (by omega)))))
          refine n_iinc5 dJ1_indexOfChar_4cfef_25 (by decide) rfl (by omega) (fun r25 e25_z => ?_)
          refine r_goto (t := 7) dJ1_indexOfChar_4cfef_28 (by decide) ?_
          refine ih _ (k + 1) (by omega) (by omega) (fun q hq => ?_) (by omega)
          rcases Nat.lt_or_ge q k with h7 | h7
          · exact hno q h7
          · rw [show q = k by omega, List.getD_eq_getElem?_getD, List.getElem?_eq_getElem hkl]; exact hck
      · refine r_iload5 dJ1_indexOfChar_4cfef_7 ?_
        refine r_iload3 dJ1_indexOfChar_4cfef_9 ?_
        refine t_icge (t := 31) dJ1_indexOfChar_4cfef_10 (by decide) (fun h10 => ?_) (fun h10 => False.elim (by omega))
        refine n_iconst dJ1_indexOfChar_4cfef_31 (by decide) (fun r31 e31_z => ?_)
        refine r_iret dJ1_indexOfChar_4cfef_32 rfl (Nat.le_of_ble_eq_true rfl) (Nat.le_of_ble_eq_true rfl) ?_
        refine hQ _ (Or.inr ⟨by omega, fun hm_z => ?_⟩)
        obtain ⟨i, hi_z, h8⟩ := List.getElem_of_mem hm_z
        exact hno i (by omega) (by rw [List.getD_eq_getElem?_getD, List.getElem?_eq_getElem hi_z]; exact h8.symm)
  refine r_istore4 dJ1_indexOfChar_4cfef_2 rfl ?_
  refine r_iload2 dJ1_indexOfChar_4cfef_4 ?_
  refine r_istore5 dJ1_indexOfChar_4cfef_5 rfl ?_
  exact lp _ _ 0 (by omega) (Nat.zero_le _) (fun q hq => absurd hq (Nat.not_lt_zero q)) (Nat.lt_succ_self _)
set_option maxHeartbeats 4000000 in
set_option maxRecDepth 100000 in
theorem s_J1_indexOf_4cfef {g : zGT} {w : zW} {f : Nat → Nat → Int32} {j : Nat → Nat → Int64} {a vv : Nat} {L : List Nat} {x y z : Int32} {c : Nat} {Q : Option Value → zW → Prop} {QX : String → zW → Prop} (G : zGok g) (ht : kTx g a vv L) (hx : x.toInt = (c : Nat)) (hc_z : c ≤ 255) (hy : y.toInt = 0) (hz : z.toInt = (L.length : Nat)) (hL : 0 < L.length) (hQ : ∀ r : Int32, (0 ≤ r.toInt ∧ c ∈ L ∨ r.toInt = -1 ∧ c ∉ L) → Q (some (.int r)) (zM w f j)) : zC g 2 yJ1_indexOf_4cfef cJ1_indexOf_4cfef 4 (some .int) [.ref vv, .int x, .int y, .int z] (zM w f j) (0, 0) Q QX := by
  refine zC_of G (by decide +kernel) (Nat.le_of_ble_eq_true rfl) ?_
  have h9 := ht.1
  have hln : (Int32.ofNat L.length).toInt = (L.length : Nat) := zi_n (by omega)
  refine r_iload1 dJ1_indexOf_4cfef_0 ?_
  refine q_callS1 zm_RJ1_88 dJ1_indexOf_4cfef_1 (Nat.le_of_ble_eq_true rfl) (Nat.le_of_ble_eq_true rfl) (Nat.le_of_ble_eq_true rfl) (Nat.le_of_ble_eq_true rfl) (Nat.le_of_ble_eq_true rfl) (s_J1_canEncode_9a6ad G (by omega) (fun r1 e1_z => ?_))
  refine t_ifne (t := 9) dJ1_indexOf_4cfef_4 (by decide) (fun h4 => ?_) (fun h4 => False.elim (by omega))
  refine r_iload2 dJ1_indexOf_4cfef_9 ?_
  refine n_iconst dJ1_indexOf_4cfef_10 (by decide) (fun r10 e10_z => ?_)
  refine r_mmax zm_RJ1_92 dJ1_indexOf_4cfef_11 (Nat.le_of_ble_eq_true rfl) (Nat.le_of_ble_eq_true rfl) (Nat.le_of_ble_eq_true rfl) (Nat.le_of_ble_eq_true rfl) (Nat.le_of_ble_eq_true rfl) (fun r11 e11_z => ?_)
  refine r_istore2 dJ1_indexOf_4cfef_14 rfl ?_
  refine r_iload3 dJ1_indexOf_4cfef_15 ?_
  refine r_aloadR0 dJ1_indexOf_4cfef_16 ?_
  refine k_alen (fun U hU => (ht.2.2 U hU).2.2.2) dJ1_indexOf_4cfef_17 ?_
  refine r_mmin zm_RJ1_38 dJ1_indexOf_4cfef_18 (Nat.le_of_ble_eq_true rfl) (Nat.le_of_ble_eq_true rfl) (Nat.le_of_ble_eq_true rfl) (Nat.le_of_ble_eq_true rfl) (Nat.le_of_ble_eq_true rfl) (fun r18 e18_z => ?_)
  refine r_istore3 dJ1_indexOf_4cfef_21 rfl ?_
  refine r_iload2 dJ1_indexOf_4cfef_22 ?_
  refine r_iload3 dJ1_indexOf_4cfef_23 ?_
  refine t_iclt (t := 29) dJ1_indexOf_4cfef_24 (by decide) (fun h24 => ?_) (fun h24 => False.elim (by omega))
  refine r_aloadR0 dJ1_indexOf_4cfef_29 ?_
  refine r_iload1 dJ1_indexOf_4cfef_30 ?_
  refine r_iload2 dJ1_indexOf_4cfef_31 ?_
  refine r_iload3 dJ1_indexOf_4cfef_32 ?_
  refine q_callS4 zm_RJ1_95 dJ1_indexOf_4cfef_33 (Nat.le_of_ble_eq_true rfl) (Nat.le_of_ble_eq_true rfl) (Nat.le_of_ble_eq_true rfl) (Nat.le_of_ble_eq_true rfl) (Nat.le_of_ble_eq_true rfl) (s_J1_indexOfChar_4cfef G ht hx hc_z (by omega) (by omega) (fun r33 e33_z => ?_))
  refine r_iret dJ1_indexOf_4cfef_36 rfl (Nat.le_of_ble_eq_true rfl) (Nat.le_of_ble_eq_true rfl) ?_
  exact hQ _ e33_z
set_option maxHeartbeats 4000000 in
set_option maxRecDepth 100000 in
theorem s_J0_indexOf_7cf53 {g : zGT} {w : zW} {f : Nat → Nat → Int32} {j : Nat → Nat → Int64} {a vv : Nat} {L : List Nat} {x y : Int32} {c : Nat} {Q : Option Value → zW → Prop} {QX : String → zW → Prop} (G : zGok g) (ht : kTx g a vv L) (kc : kCS g) (hx : x.toInt = (c : Nat)) (hc_z : c ≤ 255) (hy : y.toInt = 0) (hL : 0 < L.length) (hQ : ∀ r : Int32, (0 ≤ r.toInt ∧ c ∈ L ∨ r.toInt = -1 ∧ c ∉ L) → Q (some (.int r)) (zM w f j)) : zC g 4 yJ0_indexOf_7cf53 cJ0_indexOf_7cf53 3 (some .int) [.ref a, .int x, .int y] (zM w f j) (0, 0) Q QX := by
  refine zC_of G (by decide +kernel) (Nat.le_of_ble_eq_true rfl) ?_
  have one : (1 : Int32).toInt = 1 := rfl
  refine r_aloadR0 dJ0_indexOf_7cf53_0 ?_
  refine k_callV0 zm_RJ0_492 dJ0_indexOf_7cf53_1 (fun U hU => (ht.2.2 U hU).1) (Nat.le_of_ble_eq_true rfl) (Nat.le_of_ble_eq_true rfl) (Nat.le_of_ble_eq_true rfl) (Nat.le_of_ble_eq_true rfl) (Nat.le_of_ble_eq_true rfl) (s_isLatin1 G ht kc ?_)
  refine t_ifeq (t := 23) dJ0_indexOf_7cf53_4 (by decide) (fun h4 => False.elim (by omega)) (fun h4 => ?_)
  refine r_aloadR0 dJ0_indexOf_7cf53_7 ?_
  refine k_getf (fun U hU => (ht.2.2 U hU).2.2.1) zg_RJ0_9 dJ0_indexOf_7cf53_8 ?_
  refine r_iload1 dJ0_indexOf_7cf53_11 ?_
  refine r_iload2 dJ0_indexOf_7cf53_12 ?_
  refine r_aloadR0 dJ0_indexOf_7cf53_13 ?_
  refine k_callV0 zm_RJ0_505 dJ0_indexOf_7cf53_14 (fun U hU => (ht.2.2 U hU).1) (Nat.le_of_ble_eq_true rfl) (Nat.le_of_ble_eq_true rfl) (Nat.le_of_ble_eq_true rfl) (Nat.le_of_ble_eq_true rfl) (Nat.le_of_ble_eq_true rfl) (s_length G ht kc (fun r14 e14_z => ?_))
  refine q_callS4 zm_RJ0_637 dJ0_indexOf_7cf53_17 (Nat.le_of_ble_eq_true rfl) (Nat.le_of_ble_eq_true rfl) (Nat.le_of_ble_eq_true rfl) (Nat.le_of_ble_eq_true rfl) (Nat.le_of_ble_eq_true rfl) (s_J1_indexOf_4cfef G ht hx hc_z hy e14_z hL (fun r17 e17_z => ?_))
  refine r_goto (t := 36) dJ0_indexOf_7cf53_20 (by decide) ?_
  refine r_iret dJ0_indexOf_7cf53_36 rfl (Nat.le_of_ble_eq_true rfl) (Nat.le_of_ble_eq_true rfl) ?_
  exact hQ _ e17_z
set_option maxHeartbeats 4000000 in
set_option maxRecDepth 100000 in
theorem s_J0_indexOf_0f7a4 {g : zGT} {w : zW} {f : Nat → Nat → Int32} {j : Nat → Nat → Int64} {a vv : Nat} {L : List Nat} {x : Int32} {c : Nat} {Q : Option Value → zW → Prop} {QX : String → zW → Prop} (G : zGok g) (ht : kTx g a vv L) (kc : kCS g) (hx : x.toInt = (c : Nat)) (hc_z : c ≤ 255) (hL : 0 < L.length) (hQ : ∀ r : Int32, (0 ≤ r.toInt ∧ c ∈ L ∨ r.toInt = -1 ∧ c ∉ L) → Q (some (.int r)) (zM w f j)) : zC g 5 yJ0_indexOf_0f7a4 cJ0_indexOf_0f7a4 2 (some .int) [.ref a, .int x] (zM w f j) (0, 0) Q QX := by
  refine zC_of G (by decide +kernel) (Nat.le_of_ble_eq_true rfl) ?_
  refine r_aloadR0 dJ0_indexOf_0f7a4_0 ?_
  refine r_iload1 dJ0_indexOf_0f7a4_1 ?_
  refine n_iconst dJ0_indexOf_0f7a4_2 (by decide) (fun r2 e2_z => ?_)
  refine k_callV2 zm_RJ0_633 dJ0_indexOf_0f7a4_3 (fun U hU => (ht.2.2 U hU).1) (Nat.le_of_ble_eq_true rfl) (Nat.le_of_ble_eq_true rfl) (Nat.le_of_ble_eq_true rfl) (Nat.le_of_ble_eq_true rfl) (Nat.le_of_ble_eq_true rfl) (s_J0_indexOf_7cf53 G ht kc hx hc_z e2_z hL (fun r3 e3_z => ?_))
  refine r_iret dJ0_indexOf_0f7a4_6 rfl (Nat.le_of_ble_eq_true rfl) (Nat.le_of_ble_eq_true rfl) ?_
  exact hQ _ e3_z
theorem i2c_id : ∀ k, k < 256 → ((nI k).toUInt32 % 65536).toInt32 = nI k := by decide +kernel
set_option maxHeartbeats 4000000 in
set_option maxRecDepth 100000 in
theorem s_X5_isSign {g : zGT} {w : zW} {f : Nat → Nat → Int32} {j : Nat → Nat → Int64} {ca wa wv : Nat → Nat} {kq ta sm gq gv : Nat} {x : Int32} {c : Nat} {Q : Option Value → zW → Prop} {QX : String → zW → Prop} (G : zGok g) (kw : kWd g wa wv kq) (ko : kWo g ca wa wv ta sm gq gv) (hx : x.toInt = (c : Nat)) (hc_z : c ≤ 255) (hQ : ∀ r : Int32, (r.toInt = 1 ∧ isSg c = true ∨ r.toInt = 0 ∧ ¬ isSg c = true) → Q (some (.int r)) (zM w f j)) : zC g 6 yX5_isSign cX5_isSign 1 (some .boolean) [.int x] (zM w f j) (0, 0) Q QX := by
  refine zC_of G (by decide +kernel) (Nat.le_of_ble_eq_true rfl) ?_
  have hx9 : x = nI c := zi_of hx (by omega)
  have hkg := ko.2.2.2.2.2.2.2.2.2
  have hsg : isSg c = true ↔ c ∈ sgL := ⟨fun h_z => isSg_mem h_z, fun h_z => decide_eq_true h_z⟩
  refine k_ldc ko.2.2.2.2.2.2.2.2.1 dX5_isSign_0 ?_
  refine r_iload0 dX5_isSign_2 ?_
  refine r_i2c dX5_isSign_3 ?_
  refine n_name (fun r3 e3_z => ?_)
  refine k_callV1 zm_RX5_244 dX5_isSign_4 (fun U hU => (hkg.2.2 U hU).1) (Nat.le_of_ble_eq_true rfl) (Nat.le_of_ble_eq_true rfl) (Nat.le_of_ble_eq_true rfl) (Nat.le_of_ble_eq_true rfl) (Nat.le_of_ble_eq_true rfl) (s_J0_indexOf_0f7a4 (c := c) G hkg kw.1 (by rw [e3_z, hx9, i2c_id c (by omega)]; exact zi_n (by omega)) hc_z (by decide) (fun r4 e4_z => ?_))
  refine t_iflt (t := 14) dX5_isSign_7 (by decide) (fun h7 => ?_) (fun h7 => ?_)
  · refine n_iconst dX5_isSign_14 (by decide) (fun r14 e14_z => ?_)
    refine m_zret dX5_isSign_15 rfl (by omega) (Nat.le_of_ble_eq_true rfl) (Nat.le_of_ble_eq_true rfl) ?_
    rcases e4_z with ⟨a1, a2⟩ | ⟨a1, a2⟩
    · first | exact hQ _ (Or.inl ⟨by omega, hsg.mpr a2⟩) | (exfalso; omega)
    · first | exact hQ _ (Or.inr ⟨by omega, fun h_z => a2 (hsg.mp h_z)⟩) | (exfalso; omega)
  · refine n_iconst dX5_isSign_10 (by decide) (fun r10 e10_z => ?_)
    refine r_goto (t := 15) dX5_isSign_11 (by decide) ?_
    refine m_zret dX5_isSign_15 rfl (by omega) (Nat.le_of_ble_eq_true rfl) (Nat.le_of_ble_eq_true rfl) ?_
    rcases e4_z with ⟨a1, a2⟩ | ⟨a1, a2⟩
    · first | exact hQ _ (Or.inl ⟨by omega, hsg.mpr a2⟩) | (exfalso; omega)
    · first | exact hQ _ (Or.inr ⟨by omega, fun h_z => a2 (hsg.mp h_z)⟩) | (exfalso; omega)
