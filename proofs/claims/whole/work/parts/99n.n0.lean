/-! things made -/
def nwW (s : Nat) (w w2 : zW) (k n : Nat) : Prop := zS w2 = s + 1 ∧ zK w2 s = k ∧ zN w2 s = n ∧ ∀ q, q ≠ s → zK w2 q = zK w q ∧ zN w2 q = zN w q ∧ zP w2 q = zP w q
def nwI (s : Nat) (f f2_z : Nat → Nat → Int32) : Prop := (∀ q, q ≠ s → f2_z q = f q) ∧ ∀ i, f2_z s i = 0
def nwJ (s : Nat) (j j2 : Nat → Nat → Int64) : Prop := (∀ q, q ≠ s → j2 q = j q) ∧ ∀ i, j2 s i = 0
theorem nwW_of {w : zW} {k n : Nat} : nwW (zS w) w (zNew w k n) k n := ⟨rfl, zNew_K, zNew_N, fun q hq => ⟨zNew_Kne hq, zNew_Nne hq, zr_ne hq⟩⟩
theorem nwI_of {s : Nat} {f : Nat → Nat → Int32} : nwI s f (zr f s (fun _ => 0)) := ⟨fun q hq => zr_ne hq, fun i => by rw [zr_self]⟩
theorem nwJ_of {s : Nat} {f : Nat → Nat → Int64} : nwJ s f (zr f s (fun _ => 0)) := ⟨fun q hq => zr_ne hq, fun i => by rw [zr_self]⟩
section ZNM
variable {g : zGT} {Rm : Room} {QQ : List Frame → Array Value → State → State → Prop} {hh : List (Nat × Nat × Nat × Nat)} {nm : String} {nL : Nat} {ret : Option FieldType}
variable {cd : ByteArray} {ow : String} {pc : Nat} {ls : List (Option Value)} {st : List Value} {w : zW} {b : Nat × Nat} {f : Nat → Nat → Int32} {j : Nat → Nat → Int64} {V : zVT}
theorem m_new {ix ci N s : Nat} (hs : zS w = s) (hl : zln ow ix ci N) (hdc : decode cd pc = .ok (.new ix, 3)) (h1 : b.1 + 1 ≤ V.2.2.2.2.1.cells) (h2 : b.2 + N ≤ V.2.2.2.2.1.slots) (kk : ∀ w2 f2_z j2, nwW s w w2 (ci + 1) 0 → nwI s f f2_z → nwJ s j j2 → zR V cd ow (pc + 3) ls (.ref s :: st) (zM w2 f2_z j2) (b.1 + 1, b.2 + N)) : zR V cd ow pc ls st (zM w f j) b := by
  subst hs
  exact r_new hl hdc h1 h2 (kk _ _ _ nwW_of nwI_of nwJ_of)
theorem m_newQ {ix ci s : Nat} {n : Int32} {N : Nat} (hs : zS w = s) (hw : Cond.classLink ow ix (zcn ci) ∈ zT) (hao : zcn ci ∈ zAOl) (hdc : decode cd pc = .ok (.anewarray ix, 3)) (hn : n.toInt = (N : Nat)) (hby : N ≤ 100000) (h1 : b.1 + 1 ≤ Rm.cells) (h2 : b.2 + N ≤ Rm.slots)
    (kk : ∀ w2 f2_z j2, nwW s w w2 (30 + ci) N → nwI s f f2_z → nwJ s j j2 → zR (zVg g Rm QQ hh nm nL ret) cd ow (pc + 3) ls (.ref s :: st) (zM w2 f2_z j2) (b.1 + 1, b.2 + N)) : zR (zVg g Rm QQ hh nm nL ret) cd ow pc ls (.int n :: st) (zM w f j) b := by
  subst hs
  exact r_newQ hw hao hdc (by rw [Int32.lt_iff_toInt_lt, hn]; exact Int.not_lt.mpr (Int.natCast_nonneg N)) (zcl_of hn) hby h1 h2 (kk _ _ _ nwW_of nwI_of nwJ_of)
theorem m_newI {n : Int32} {N s : Nat} (hs : zS w = s) (hdc : decode cd pc = .ok (.newarray .int, 2)) (hn : n.toInt = (N : Nat)) (hby : N ≤ 100000) (h1 : b.1 + 1 ≤ V.2.2.2.2.1.cells) (h2 : b.2 + N ≤ V.2.2.2.2.1.slots) (kk : ∀ w2 f2_z j2, nwW s w w2 21 N → nwI s f f2_z → nwJ s j j2 → zR V cd ow (pc + 2) ls (.ref s :: st) (zM w2 f2_z j2) (b.1 + 1, b.2 + N)) : zR V cd ow pc ls (.int n :: st) (zM w f j) b := by
  subst hs
  exact r_newI (zt1 (List.mem_of_getElem? (i := 91) (by decide +kernel)) (by decide +kernel)) hdc (by rw [Int32.lt_iff_toInt_lt, hn]; exact Int.not_lt.mpr (Int.natCast_nonneg N)) (zcl_of hn) hby h1 h2 (kk _ _ _ nwW_of nwI_of nwJ_of)
theorem m_newB {n : Int32} {N s : Nat} (hs : zS w = s) (hdc : decode cd pc = .ok (.newarray .byte, 2)) (hn : n.toInt = (N : Nat)) (hby : N ≤ 100000) (h1 : b.1 + 1 ≤ V.2.2.2.2.1.cells) (h2 : b.2 + N ≤ V.2.2.2.2.1.slots) (kk : ∀ w2 f2_z j2, nwW s w w2 22 N → nwI s f f2_z → nwJ s j j2 → zR V cd ow (pc + 2) ls (.ref s :: st) (zM w2 f2_z j2) (b.1 + 1, b.2 + N)) : zR V cd ow pc ls (.int n :: st) (zM w f j) b := by
  subst hs
  exact r_newB (zt1 (List.mem_of_getElem? (i := 90) (by decide +kernel)) (by decide +kernel)) hdc (by rw [Int32.lt_iff_toInt_lt, hn]; exact Int.not_lt.mpr (Int.natCast_nonneg N)) (zcl_of hn) hby h1 h2 (kk _ _ _ nwW_of nwI_of nwJ_of)
theorem m_newZ {n : Int32} {N s : Nat} (hs : zS w = s) (hdc : decode cd pc = .ok (.newarray .boolean, 2)) (hn : n.toInt = (N : Nat)) (hby : N ≤ 100000) (h1 : b.1 + 1 ≤ V.2.2.2.2.1.cells) (h2 : b.2 + N ≤ V.2.2.2.2.1.slots) (kk : ∀ w2 f2_z j2, nwW s w w2 23 N → nwI s f f2_z → nwJ s j j2 → zR V cd ow (pc + 2) ls (.ref s :: st) (zM w2 f2_z j2) (b.1 + 1, b.2 + N)) : zR V cd ow pc ls (.int n :: st) (zM w f j) b := by
  subst hs
  exact r_newZ (zt1 (List.mem_of_getElem? (i := 228) (by decide +kernel)) (by decide +kernel)) hdc (by rw [Int32.lt_iff_toInt_lt, hn]; exact Int.not_lt.mpr (Int.natCast_nonneg N)) (zcl_of hn) hby h1 h2 (kk _ _ _ nwW_of nwI_of nwJ_of)
theorem m_newJ {n : Int32} {N s : Nat} (hs : zS w = s) (hdc : decode cd pc = .ok (.newarray .long, 2)) (hn : n.toInt = (N : Nat)) (hby : N ≤ 100000) (h1 : b.1 + 1 ≤ V.2.2.2.2.1.cells) (h2 : b.2 + N ≤ V.2.2.2.2.1.slots) (kk : ∀ w2 f2_z j2, nwW s w w2 25 N → nwI s f f2_z → nwJ s j j2 → zR V cd ow (pc + 2) ls (.ref s :: st) (zM w2 f2_z j2) (b.1 + 1, b.2 + N)) : zR V cd ow pc ls (.int n :: st) (zM w f j) b := by
  subst hs
  exact r_newJ (zt2 (List.mem_of_getElem? (i := 54) (by decide +kernel)) (by decide +kernel)) hdc (by rw [Int32.lt_iff_toInt_lt, hn]; exact Int.not_lt.mpr (Int.natCast_nonneg N)) (zcl_of hn) hby h1 h2 (kk _ _ _ nwW_of nwI_of nwJ_of)
end ZNM
/-- what a constructor has_z made so far: from a on so many cells; kinds and lengths, pointers, ints, rows of zeros -/
abbrev zL3 : Type := List (Nat × Nat × Nat)
abbrev zLV : Type := List (Nat × Nat × Int32)
def ctS (w : zW) (f : Nat → Nat → Int32) (j : Nat → Nat → Int64) (w0 : zW) (f0_z : Nat → Nat → Int32) (j0 : Nat → Nat → Int64) (a c : Nat) (L PL : zL3) (VL : zLV) (ZL : List Nat) : Prop :=
  ((zS w = a + c ∧ ∀ q, a + c ≤ q → zK w q = zK w0 q) ∧ 0 < c) ∧ (∀ q, q < a → (zK w q = zK w0 q ∧ zN w q = zN w0 q ∧ zP w q = zP w0 q) ∧ f q = f0_z q ∧ j q = j0 q) ∧ (∀ e ∈ L, e.1 < c ∧ zK w (a + e.1) = e.2.1 ∧ zN w (a + e.1) = e.2.2) ∧ (∀ e ∈ PL, e.1 < c ∧ zP w (a + e.1) e.2.1 = some (a + e.2.2)) ∧ (∀ e ∈ VL, e.1 < c ∧ f (a + e.1) e.2.1 = e.2.2) ∧ ∀ z ∈ ZL, z < c ∧ ∀ i, f (a + z) i = 0 ∧ j (a + z) i = 0
section CTS
variable {w w2 w0 w3 : zW} {f f2_z f0_z f3_z : Nat → Nat → Int32} {j j2 j0 j3 : Nat → Nat → Int64} {a c k n : Nat} {L PL : zL3} {VL : zLV} {ZL : List Nat}
theorem ctS_S (h_z : ctS w f j w0 f0_z j0 a c L PL VL ZL) : zS w = a + c := h_z.1.1.1
theorem ctS_0 {m : Nat} (h1 : zS w = a + 1) (h2 : zK w a = k) (h3 : zN w a = 0) (h4 : ∀ i, f a i = 0) : ctS w f j w f j a 1 [(0, k, 0)] [] ((List.range m).map (fun k => (0, k, 0))) [] := by
  refine ⟨⟨⟨h1, fun _ _ => rfl⟩, Nat.one_pos⟩, fun q _ => ⟨⟨rfl, rfl, rfl⟩, rfl, rfl⟩, fun e he => ?_, fun e he => absurd he List.not_mem_nil, fun e he => ?_, fun z hz => absurd hz List.not_mem_nil⟩
  · rw [List.mem_singleton] at he
    subst he
    exact ⟨Nat.one_pos, h2, h3⟩
  · obtain ⟨q, _, rfl⟩ := List.mem_map.mp he
    exact ⟨Nat.one_pos, h4 q⟩
theorem ctS_new (h_z : ctS w f j w0 f0_z j0 a c L PL VL ZL) (nw : nwW (a + c) w w2 k n) (ni : nwI (a + c) f f2_z) (nj : nwJ (a + c) j j2) : ctS w2 f2_z j2 w0 f0_z j0 a (c + 1) (L ++ [(c, k, n)]) PL VL (ZL ++ [c]) := by
  obtain ⟨⟨⟨h1, h1z⟩, h1b⟩, h2, h3, h4, h5, h6⟩ := h_z
  obtain ⟨a1, a2, a3, a4⟩ := nw
  refine ⟨⟨⟨by rw [a1, Nat.add_assoc], fun q hq => (a4 q (by omega)).1.trans (h1z q (by omega))⟩, Nat.succ_pos c⟩, fun q hq => ?_, fun e he => ?_, fun e he => ?_, fun e he => ?_, fun z hz => ?_⟩
  · obtain ⟨b1, b2, b3⟩ := a4 q (by omega)
    rw [b1, b2, b3, ni.1 q (by omega), nj.1 q (by omega)]
    exact h2 q hq
  · rcases List.mem_append.mp he with he | he
    · obtain ⟨b1, b2, b3⟩ := h3 e he
      obtain ⟨c1_z, c2_z, c3_z⟩ := a4 (a + e.1) (by omega)
      exact ⟨by omega, by rw [c1_z]; exact b2, by rw [c2_z]; exact b3⟩
    · rw [List.mem_singleton] at he
      subst he
      exact ⟨Nat.lt_succ_self c, a2, a3⟩
  · obtain ⟨b1, b2⟩ := h4 e he
    exact ⟨by omega, by rw [(a4 (a + e.1) (by omega)).2.2]; exact b2⟩
  · obtain ⟨b1, b2⟩ := h5 e he
    exact ⟨by omega, by rw [ni.1 (a + e.1) (by omega)]; exact b2⟩
  · rcases List.mem_append.mp hz with hz | hz
    · obtain ⟨b1, b2⟩ := h6 z hz
      exact ⟨by omega, fun i => by rw [ni.1 (a + z) (by omega), nj.1 (a + z) (by omega)]; exact b2 i⟩
    · rw [List.mem_singleton] at hz
      subst hz
      exact ⟨Nat.lt_succ_self _, fun i => ⟨ni.2 i, nj.2 i⟩⟩
theorem ctS_sub {c2_z : Nat} {L2 PL2 : zL3} {VL2 : zLV} {ZL2 : List Nat} (h_z : ctS w f j w0 f0_z j0 a c L PL VL ZL) (nw : nwW (a + c) w w2 k n) (ni : nwI (a + c) f f2_z) (nj : nwJ (a + c) j j2) (hs : ctS w3 f3_z j3 w2 f2_z j2 (a + c) c2_z L2 PL2 VL2 ZL2) : ctS w3 f3_z j3 w0 f0_z j0 a (c + c2_z) (L ++ L2.map (fun e => (c + e.1, e.2))) (PL ++ PL2.map (fun e => (c + e.1, e.2.1, c + e.2.2))) (VL ++ VL2.map (fun e => (c + e.1, e.2))) (ZL ++ ZL2.map (fun z => c + z)) := by
  obtain ⟨⟨⟨h1, h1z⟩, h1b⟩, h2, h3, h4, h5, h6⟩ := h_z
  obtain ⟨a1, a2, a3, a4⟩ := nw
  obtain ⟨⟨⟨s1, s1z⟩, s1b⟩, s2, s3, s4, s5, s6⟩ := hs
  refine ⟨⟨⟨by rw [s1, Nat.add_assoc], fun q hq => (s1z q (by omega)).trans ((a4 q (by omega)).1.trans (h1z q (by omega)))⟩, by omega⟩, fun q hq => ?_, fun e he => ?_, fun e he => ?_, fun e he => ?_, fun z hz => ?_⟩
  · obtain ⟨⟨b1, b2, b3⟩, b4, b5⟩ := s2 q (by omega)
    obtain ⟨c1_z, c2_z, c3_z⟩ := a4 q (by omega)
    rw [b1, b2, b3, b4, b5, c1_z, c2_z, c3_z, ni.1 q (by omega), nj.1 q (by omega)]
    exact h2 q hq
  · rcases List.mem_append.mp he with he | he
    · obtain ⟨b1, b2, b3⟩ := h3 e he
      obtain ⟨⟨d1, d2, d3⟩, d4, d5⟩ := s2 (a + e.1) (by omega)
      obtain ⟨c1_z, c2_z, c3_z⟩ := a4 (a + e.1) (by omega)
      exact ⟨by omega, by rw [d1, c1_z]; exact b2, by rw [d2, c2_z]; exact b3⟩
    · obtain ⟨e2_z, he2, rfl⟩ := List.mem_map.mp he
      obtain ⟨b1, b2, b3⟩ := s3 e2_z he2
      exact ⟨Nat.add_lt_add_left b1 c, by show zK w3 (a + (c + e2_z.1)) = _; rw [← Nat.add_assoc]; exact b2, by show zN w3 (a + (c + e2_z.1)) = _; rw [← Nat.add_assoc]; exact b3⟩
  · rcases List.mem_append.mp he with he | he
    · obtain ⟨b1, b2⟩ := h4 e he
      exact ⟨by omega, by rw [(s2 (a + e.1) (by omega)).1.2.2, (a4 (a + e.1) (by omega)).2.2]; exact b2⟩
    · obtain ⟨e2_z, he2, rfl⟩ := List.mem_map.mp he
      obtain ⟨b1, b2⟩ := s4 e2_z he2
      exact ⟨Nat.add_lt_add_left b1 c, by show zP w3 (a + (c + e2_z.1)) e2_z.2.1 = some (a + (c + e2_z.2.2)); rw [← Nat.add_assoc, ← Nat.add_assoc]; exact b2⟩
  · rcases List.mem_append.mp he with he | he
    · obtain ⟨b1, b2⟩ := h5 e he
      exact ⟨by omega, by rw [(s2 (a + e.1) (by omega)).2.1, ni.1 (a + e.1) (by omega)]; exact b2⟩
    · obtain ⟨e2_z, he2, rfl⟩ := List.mem_map.mp he
      obtain ⟨b1, b2⟩ := s5 e2_z he2
      exact ⟨Nat.add_lt_add_left b1 c, by show f3_z (a + (c + e2_z.1)) e2_z.2.1 = _; rw [← Nat.add_assoc]; exact b2⟩
  · rcases List.mem_append.mp hz with hz | hz
    · obtain ⟨b1, b2⟩ := h6 z hz
      exact ⟨by omega, fun i => by rw [(s2 (a + z) (by omega)).2.1, (s2 (a + z) (by omega)).2.2, ni.1 (a + z) (by omega), nj.1 (a + z) (by omega)]; exact b2 i⟩
    · obtain ⟨z2, hz2, rfl⟩ := List.mem_map.mp hz
      obtain ⟨b1, b2⟩ := s6 z2 hz2
      exact ⟨Nat.add_lt_add_left b1 c, fun i => by rw [← Nat.add_assoc]; exact b2 i⟩
theorem ctS_putP {o t : Nat} (h_z : ctS w f j w0 f0_z j0 a c L PL VL ZL) (ho : o < c) (hno : PL.all (fun e => !(e.1 == o && e.2.1 == k)) = true) : ctS (zsP w (zu (zP w) (a + o) k (some (a + t)))) f j w0 f0_z j0 a c L (PL ++ [(o, k, t)]) VL ZL := by
  obtain ⟨⟨⟨h1, h1z⟩, h1b⟩, h2, h3, h4, h5, h6⟩ := h_z
  refine ⟨⟨⟨h1, h1z⟩, h1b⟩, fun q hq => ?_, h3, fun e he => ?_, h5, h6⟩
  · obtain ⟨⟨b1, b2, b3⟩, b4, b5⟩ := h2 q hq
    exact ⟨⟨b1, b2, (zu_ne (by omega)).trans b3⟩, b4, b5⟩
  · rcases List.mem_append.mp he with he | he
    · obtain ⟨b1, b2⟩ := h4 e he
      have h9 := List.all_eq_true.mp hno e he
      simp only [Bool.not_eq_true', Bool.and_eq_false_iff, beq_eq_false_iff_ne, ne_eq] at h9
      refine ⟨b1, Eq.trans ?_ b2⟩
      show zu (zP w) (a + o) k (some (a + t)) (a + e.1) e.2.1 = zP w (a + e.1) e.2.1
      unfold zu
      rw [if_neg (fun h_z => by rcases h9 with h9 | h9 <;> omega)]
    · rw [List.mem_singleton] at he
      subst he
      exact ⟨ho, zu_at⟩
theorem ctS_putK {o q : Nat} (h_z : ctS w f j w0 f0_z j0 a c L PL VL ZL) (hno : PL.all (fun e => !(e.1 == o && e.2.1 == k)) = true) : ctS (zsP w (zu (zP w) (a + o) k (some q))) f j w0 f0_z j0 a c L PL VL ZL := by
  obtain ⟨⟨⟨h1, h1z⟩, h1b⟩, h2, h3, h4, h5, h6⟩ := h_z
  refine ⟨⟨⟨h1, h1z⟩, h1b⟩, fun q hq => ?_, h3, fun e he => ?_, h5, h6⟩
  · obtain ⟨⟨b1, b2, b3⟩, b4, b5⟩ := h2 q hq
    exact ⟨⟨b1, b2, (zu_ne (by omega)).trans b3⟩, b4, b5⟩
  · obtain ⟨b1, b2⟩ := h4 e he
    have h9 := List.all_eq_true.mp hno e he
    simp only [Bool.not_eq_true', Bool.and_eq_false_iff, beq_eq_false_iff_ne, ne_eq] at h9
    refine ⟨b1, Eq.trans ?_ b2⟩
    show zu (zP w) (a + o) k (some q) (a + e.1) e.2.1 = zP w (a + e.1) e.2.1
    unfold zu
    rw [if_neg (fun h_z => by rcases h9 with h9 | h9 <;> omega)]
theorem ctS_putI {o : Nat} {x v : Int32} (h_z : ctS w f j w0 f0_z j0 a c L PL VL ZL) (ho : o < c) (hx : x = v) (hz9 : ZL.all (fun z => !(z == o)) = true) : ctS w (zu f (a + o) k x) j w0 f0_z j0 a c L PL (VL.map (fun e => if e.1 = o ∧ e.2.1 = k then (o, k, v) else e)) ZL := by
  obtain ⟨⟨⟨h1, h1z⟩, h1b⟩, h2, h3, h4, h5, h6⟩ := h_z
  refine ⟨⟨⟨h1, h1z⟩, h1b⟩, fun q hq => ?_, h3, h4, fun e he => ?_, fun z hz => ?_⟩
  · obtain ⟨b1, b4, b5⟩ := h2 q hq
    exact ⟨b1, (zu_ne (by omega)).trans b4, b5⟩
  · obtain ⟨e2_z, he2, rfl⟩ := List.mem_map.mp he
    obtain ⟨b1, b2⟩ := h5 e2_z he2
    by_cases h9 : e2_z.1 = o ∧ e2_z.2.1 = k
    · rw [if_pos h9]
      exact ⟨ho, by show zu f (a + o) k x (a + o) k = v; rw [zu_at, hx]⟩
    · rw [if_neg h9]
      refine ⟨b1, Eq.trans ?_ b2⟩
      unfold zu
      rw [if_neg (fun h_z => h9 ⟨by omega, h_z.2⟩)]
  · obtain ⟨b1, b2⟩ := h6 z hz
    have h9 := List.all_eq_true.mp hz9 z hz
    simp only [Bool.not_eq_true', beq_eq_false_iff_ne, ne_eq] at h9
    exact ⟨b1, fun i => by rw [zu_ne (by omega)]; exact b2 i⟩
/-- a row is filled: it leaves the rows of zeros, its places become ints told -/
theorem ctS_open {o m : Nat} (h_z : ctS w f j w0 f0_z j0 a c L PL VL ZL) (ho : o ∈ ZL) : ctS w f j w0 f0_z j0 a c L PL (VL ++ (List.range m).map (fun k => (o, k, 0))) (ZL.filter (fun z => !(z == o))) := by
  obtain ⟨h1, h2, h3, h4, h5, h6⟩ := h_z
  refine ⟨h1, h2, h3, h4, fun e he => ?_, fun z hz => h6 z (List.mem_filter.mp hz).1⟩
  rcases List.mem_append.mp he with he | he
  · exact h5 e he
  · obtain ⟨q, _, rfl⟩ := List.mem_map.mp he
    obtain ⟨b1, b2⟩ := h6 o ho
    exact ⟨b1, (b2 q).1⟩
end CTS
theorem zn_RL_8 : zln RL 8 9 18 := ⟨RX11, TX11, rfl, by decide, zt1 (List.mem_of_getElem? (i := 30) (by decide +kernel)) (by decide +kernel), zt1 (List.mem_of_getElem? (i := 31) (by decide +kernel)) (by decide +kernel), zini_RX11, zuw_RX11, by decide +kernel, by decide +kernel⟩
theorem zn_RX11_23 : zln RX11 23 4 13 := ⟨RX5, TX5, rfl, by decide, zt1 (List.mem_of_getElem? (i := 38) (by decide +kernel)) (by decide +kernel), zt1 (List.mem_of_getElem? (i := 39) (by decide +kernel)) (by decide +kernel), zini_RX5, zuw_RX5, by decide +kernel, by decide +kernel⟩
theorem zn_RX5_40 : zln RX5 40 3 8 := ⟨RX4, TX4, rfl, by decide, zt1 (List.mem_of_getElem? (i := 46) (by decide +kernel)) (by decide +kernel), zt1 (List.mem_of_getElem? (i := 47) (by decide +kernel)) (by decide +kernel), zini_RX4, zuw_RX4, by decide +kernel, by decide +kernel⟩
theorem zn_RX11_30 : zln RX11 30 6 5 := ⟨RX7, TX7, rfl, by decide, zt1 (List.mem_of_getElem? (i := 134) (by decide +kernel)) (by decide +kernel), zt1 (List.mem_of_getElem? (i := 135) (by decide +kernel)) (by decide +kernel), zini_RX7, zuw_RX7, by decide +kernel, by decide +kernel⟩
theorem zn_RX7_9 : zln RX7 9 3 8 := ⟨RX4, TX4, rfl, by decide, zt1 (List.mem_of_getElem? (i := 140) (by decide +kernel)) (by decide +kernel), zt1 (List.mem_of_getElem? (i := 47) (by decide +kernel)) (by decide +kernel), zini_RX4, zuw_RX4, by decide +kernel, by decide +kernel⟩
theorem zn_RX7_18 : zln RX7 18 2 3 := ⟨RX3, TX3, rfl, by decide, zt1 (List.mem_of_getElem? (i := 142) (by decide +kernel)) (by decide +kernel), zt1 (List.mem_of_getElem? (i := 143) (by decide +kernel)) (by decide +kernel), zini_RX3, zuw_RX3, by decide +kernel, by decide +kernel⟩
theorem zn_RX11_41 : zln RX11 41 7 4 := ⟨RX8, TX8, rfl, by decide, zt1 (List.mem_of_getElem? (i := 182) (by decide +kernel)) (by decide +kernel), zt2 (List.mem_of_getElem? (i := 34) (by decide +kernel)) (by decide +kernel), zini_RX8, zuw_RX8, by decide +kernel, by decide +kernel⟩
theorem zn_RX11_47 : zln RX11 47 5 2 := ⟨RX6, TX6, rfl, by decide, zt1 (List.mem_of_getElem? (i := 184) (by decide +kernel)) (by decide +kernel), zt1 (List.mem_of_getElem? (i := 185) (by decide +kernel)) (by decide +kernel), zini_RX6, zuw_RX6, by decide +kernel, by decide +kernel⟩
theorem zn_RX11_54 : zln RX11 54 8 13 := ⟨RX9, TX9, rfl, by decide, zt1 (List.mem_of_getElem? (i := 197) (by decide +kernel)) (by decide +kernel), zt1 (List.mem_of_getElem? (i := 198) (by decide +kernel)) (by decide +kernel), zini_RX9, zuw_RX9, by decide +kernel, by decide +kernel⟩
theorem zn_RX9_39 : zln RX9 39 1 5 := ⟨RX2, TX2, rfl, by decide, zt1 (List.mem_of_getElem? (i := 203) (by decide +kernel)) (by decide +kernel), zt1 (List.mem_of_getElem? (i := 204) (by decide +kernel)) (by decide +kernel), zini_RX2, zuw_RX2, by decide +kernel, by decide +kernel⟩
theorem zn_RX11_64 : zln RX11 64 1 5 := ⟨RX2, TX2, rfl, by decide, zt2 (List.mem_of_getElem? (i := 30) (by decide +kernel)) (by decide +kernel), zt1 (List.mem_of_getElem? (i := 204) (by decide +kernel)) (by decide +kernel), zini_RX2, zuw_RX2, by decide +kernel, by decide +kernel⟩
theorem zn_RX11_74 : zln RX11 74 2 3 := ⟨RX3, TX3, rfl, by decide, zt2 (List.mem_of_getElem? (i := 32) (by decide +kernel)) (by decide +kernel), zt1 (List.mem_of_getElem? (i := 143) (by decide +kernel)) (by decide +kernel), zini_RX3, zuw_RX3, by decide +kernel, by decide +kernel⟩
theorem zn_RX11_311 : zln RX11 311 0 1 := ⟨RX1, TX1, rfl, by decide, zt6 (List.mem_of_getElem? (i := 61) (by decide +kernel)) (by decide +kernel), zt6 (List.mem_of_getElem? (i := 62) (by decide +kernel)) (by decide +kernel), zini_RX1, zuw_RX1, by decide +kernel, by decide +kernel⟩
theorem zn_RL_137 : zln RL 137 10 43 := ⟨RX12, TX12, rfl, by decide, zt7 (List.mem_of_getElem? (i := 117) (by decide +kernel)) (by decide +kernel), zt7 (List.mem_of_getElem? (i := 118) (by decide +kernel)) (by decide +kernel), zini_RX12, zuw_RX12, by decide +kernel, by decide +kernel⟩
theorem zo_in : Cond.instanceMethod Lib.objectInit ∈ zT := zt1 (List.mem_of_getElem? (i := 36) (by decide +kernel)) (by decide +kernel)
theorem zo_cd : Cond.code Lib.objectInit ⟨#[0xb1]⟩ 1 none ∈ zT := zt1 (List.mem_of_getElem? (i := 37) (by decide +kernel)) (by decide +kernel)
theorem zo_RX11 : Cond.methodLink RX11 1 Lib.objectInit ∈ zT := zt1 (List.mem_of_getElem? (i := 35) (by decide +kernel)) (by decide +kernel)
theorem zo_RX5 : Cond.methodLink RX5 3 Lib.objectInit ∈ zT := zt1 (List.mem_of_getElem? (i := 43) (by decide +kernel)) (by decide +kernel)
theorem zo_RX4 : Cond.methodLink RX4 3 Lib.objectInit ∈ zT := zt1 (List.mem_of_getElem? (i := 51) (by decide +kernel)) (by decide +kernel)
theorem zo_RX7 : Cond.methodLink RX7 3 Lib.objectInit ∈ zT := zt1 (List.mem_of_getElem? (i := 139) (by decide +kernel)) (by decide +kernel)
theorem zo_RX3 : Cond.methodLink RX3 3 Lib.objectInit ∈ zT := zt1 (List.mem_of_getElem? (i := 147) (by decide +kernel)) (by decide +kernel)
theorem zo_RX6 : Cond.methodLink RX6 3 Lib.objectInit ∈ zT := zt1 (List.mem_of_getElem? (i := 189) (by decide +kernel)) (by decide +kernel)
theorem zo_RX9 : Cond.methodLink RX9 3 Lib.objectInit ∈ zT := zt1 (List.mem_of_getElem? (i := 202) (by decide +kernel)) (by decide +kernel)
theorem zo_RX2 : Cond.methodLink RX2 3 Lib.objectInit ∈ zT := zt1 (List.mem_of_getElem? (i := 208) (by decide +kernel)) (by decide +kernel)
theorem zo_RX8 : Cond.methodLink RX8 3 Lib.objectInit ∈ zT := zt2 (List.mem_of_getElem? (i := 38) (by decide +kernel)) (by decide +kernel)
theorem zo_RX1 : Cond.methodLink RX1 1 Lib.objectInit ∈ zT := zt6 (List.mem_of_getElem? (i := 66) (by decide +kernel)) (by decide +kernel)
theorem zo_RX12 : Cond.methodLink RX12 1 Lib.objectInit ∈ zT := zt7 (List.mem_of_getElem? (i := 122) (by decide +kernel)) (by decide +kernel)
theorem zR_b {V : zVT} {cd : ByteArray} {ow : String} {pc : Nat} {ls : List (Option Value)} {st : List Value} {w : zW} {b b2 : Nat × Nat} (h_z : b = b2) (k : zR V cd ow pc ls st w b2) : zR V cd ow pc ls st w b := by
  rw [h_z]
  exact k
theorem ctS_cv {w w0 : zW} {f f0_z : Nat → Nat → Int32} {j j0 : Nat → Nat → Int64} {a c c2_z : Nat} {L PL L2 PL2 : zL3} {VL VL2 : zLV} {ZL ZL2 : List Nat} (h_z : ctS w f j w0 f0_z j0 a c L PL VL ZL) (e1_z : (c = c2_z ∧ L = L2)) (e2_z : PL = PL2) (e3_z : VL = VL2) (e4_z : ZL = ZL2) : ctS w f j w0 f0_z j0 a c2_z L2 PL2 VL2 ZL2 := by
  rw [← e1_z.1, ← e1_z.2, ← e2_z, ← e3_z, ← e4_z]
  exact h_z
section ZPF
variable {V : zVT} {cd : ByteArray} {ow : String} {pc : Nat} {ls : List (Option Value)} {st : List Value} {w : zW} {b : Nat × Nat} {f : Nat → Nat → Int32} {j : Nat → Nat → Int64}
theorem m_putPF {ix ci k a q : Nat} (hf : zfl ow ix ci k) (hfin : ∀ C T N, vwCl[ci]? = some (C, T, N) → (T k).2.2.2 = true ∧ (T k).1 = ow) (hnm9 : V.2.2.2.2.2.2.2.1 = "<init>") (ht : ztP (zft ci k) = true) (hdc : decode cd pc = .ok (.putfield ix, 3)) (hk : zK w a = ci + 1) (kk : zR V cd ow (pc + 3) ls st (zM (zsP w (zu (zP w) a k (some q))) f j) b) : zR V cd ow pc ls (.ref q :: .ref a :: st) (zM w f j) b := r_putPF (r := some q) (w := zM w f j) hf hfin hnm9 ht hdc hk kk
end ZPF
