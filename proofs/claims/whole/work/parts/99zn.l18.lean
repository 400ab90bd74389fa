/-! the law: what its constructors leave holds its relation -/
def cL_W : zL3 := (cL_X11 ++ cL_X12.map (fun e => (239 + e.1, e.2))) ++ [(260, 25, 1)]
def cP_W : zL3 := cP_X11 ++ cP_X12.map (fun e => (239 + e.1, e.2.1, 239 + e.2.2))
def cV_W : zLV := cV_X11 ++ cV_X12.map (fun e => (239 + e.1, e.2))
def cZ_W : List Nat := (cZ_X11 ++ cZ_X12.map (fun z => 239 + z)) ++ [260]
section BW
variable {w w0 : zW} {f f0_z : Nat → Nat → Int32} {j j0 : Nat → Nat → Int64} {a c : Nat} {L PL : zL3} {VL : zLV} {ZL : List Nat} {r k n t q u : Nat} {v : Int32}
theorem b_L (h_z : ctS w f j w0 f0_z j0 a c L PL VL ZL) (hm_z : L.contains (r, k, n) = true) (hq : q = a + r) : zK w q = k ∧ zN w q = n := by
  subst hq
  exact (h_z.2.2.1 _ (List.contains_iff_mem.mp hm_z)).2
theorem b_P (h_z : ctS w f j w0 f0_z j0 a c L PL VL ZL) (hm_z : PL.contains (r, k, t) = true) (hq : q = a + r) (hu : u = a + t) : zP w q k = some u := by
  subst hq
  subst hu
  exact (h_z.2.2.2.1 _ (List.contains_iff_mem.mp hm_z)).2
theorem b_V (h_z : ctS w f j w0 f0_z j0 a c L PL VL ZL) (hm_z : VL.contains (r, k, v) = true) (hq : q = a + r) : f q k = v := by
  subst hq
  exact (h_z.2.2.2.2.1 _ (List.contains_iff_mem.mp hm_z)).2
theorem b_Z (h_z : ctS w f j w0 f0_z j0 a c L PL VL ZL) (hm_z : ZL.contains r = true) (hq : q = a + r) (i : Nat) : f q i = 0 := by
  subst hq
  exact ((h_z.2.2.2.2.2 _ (List.contains_iff_mem.mp hm_z)).2 i).1
def iLay (L PL : zL3) (r : Nat) : Prop := L.contains (r, 2, 0) = true ∧ PL.contains (r, 0, r + 1) = true ∧ PL.contains (r, 1, r + 2) = true ∧ PL.contains (r, 2, r + 3) = true ∧ L.contains (r + 1, 21, 6) = true ∧ L.contains (r + 2, 23, 6) = true ∧ L.contains (r + 3, 21, 6) = true
def iMo (L PL : zL3) (r : Nat) : Prop := L.contains (r, 3, 0) = true ∧ PL.contains (r, 0, r + 1) = true ∧ PL.contains (r, 1, r + 2) = true ∧ L.contains (r + 1, 21, 12) = true ∧ L.contains (r + 2, 21, 5) = true
def iTb (L PL : zL3) (r : Nat) : Prop := L.contains (r, 7, 0) = true ∧ PL.contains (r, 1, r + 7) = true ∧ PL.contains (r, 2, r + 10) = true ∧ L.contains (r + 10, 32, 10) = true ∧ iMo L PL (r + 7) ∧ ∀ i, i < 10 → iMo L PL (r + 11 + 3 * i)
def iTr (L PL : zL3) (r : Nat) : Prop := L.contains (r, 8, 0) = true ∧ PL.contains (r, 0, r + 1) = true ∧ L.contains (r + 1, 25, 30) = true
def iWy (L PL : zL3) (r : Nat) : Prop := L.contains (r, 9, 0) = true ∧ (∀ k, k < 9 → PL.contains (r, k, r + 1 + k) = true ∧ L.contains (r + 1 + k, 21, if k = 8 then 2048 else 1024) = true) ∧ PL.contains (r, 9, r + 10) = true ∧ PL.contains (r, 10, r + 14) = true ∧ iLay L PL (r + 10) ∧ iLay L PL (r + 14)
def iTc (PL : zL3) (VL : zLV) (ZL : List Nat) (r : Nat) : Prop := VL.contains (r, 3, 0) = true ∧ (∀ k, k < 10 → PL.contains (r + 10, k, r + 11 + 3 * k) = true) ∧ (VL.contains (r + 7, 2, 0) = true ∧ ZL.contains (r + 8) = true) ∧ ∀ k, k < 10 → VL.contains (r + 11 + 3 * k, 2, 0) = true ∧ ZL.contains (r + 12 + 3 * k) = true
theorem b_Lay (h_z : ctS w f j w0 f0_z j0 a c L PL VL ZL) (hm_z : iLay L PL r) (hq : q = a + r) : shLay w q := by
  obtain ⟨m1_z, m2_z, m3_z, m4_z, m5_z, m6_z, m7_z⟩ := hm_z
  exact ⟨(b_L h_z m1_z hq).1, b_P h_z m2_z hq (by omega), b_P h_z m3_z hq (by omega), b_P h_z m4_z hq (by omega), (b_L h_z m5_z (by omega)).1, (b_L h_z m6_z (by omega)).1, (b_L h_z m7_z (by omega)).1, (b_L h_z m5_z (by omega)).2, (b_L h_z m6_z (by omega)).2, (b_L h_z m7_z (by omega)).2⟩
theorem b_Mo (h_z : ctS w f j w0 f0_z j0 a c L PL VL ZL) (hm_z : iMo L PL r) (hq : q = a + r) : shMo w q := by
  obtain ⟨m1_z, m2_z, m3_z, m4_z, m5_z⟩ := hm_z
  exact ⟨(b_L h_z m1_z hq).1, b_P h_z m2_z hq (by omega), b_P h_z m3_z hq (by omega), (b_L h_z m4_z (by omega)).1, (b_L h_z m5_z (by omega)).1, (b_L h_z m4_z (by omega)).2, (b_L h_z m5_z (by omega)).2⟩
theorem b_Tb (h_z : ctS w f j w0 f0_z j0 a c L PL VL ZL) (hm_z : iTb L PL r) (hq : q = a + r) : shTb w q := by
  obtain ⟨m1_z, m2_z, m3_z, m4_z, m5_z, m6_z⟩ := hm_z
  exact ⟨(b_L h_z m1_z hq).1, b_P h_z m2_z hq (by omega), b_P h_z m3_z hq (by omega), (b_L h_z m4_z (by omega)).1, (b_L h_z m4_z (by omega)).2, b_Mo h_z m5_z (by omega), fun i hi_z => b_Mo h_z (m6_z i hi_z) (by omega)⟩
theorem b_Tr (h_z : ctS w f j w0 f0_z j0 a c L PL VL ZL) (hm_z : iTr L PL r) (hq : q = a + r) : shTr w q := by
  obtain ⟨m1_z, m2_z, m3_z⟩ := hm_z
  exact ⟨(b_L h_z m1_z hq).1, b_P h_z m2_z hq (by omega), (b_L h_z m3_z (by omega)).1, (b_L h_z m3_z (by omega)).2⟩
theorem b_Wy (h_z : ctS w f j w0 f0_z j0 a c L PL VL ZL) (hm_z : iWy L PL r) (hq : q = a + r) : shWy w q := by
  obtain ⟨m1_z, m2_z, m3_z, m4_z, m5_z, m6_z⟩ := hm_z
  exact ⟨(b_L h_z m1_z hq).1, fun k hk => ⟨b_P h_z (m2_z k hk).1 hq (by omega), (b_L h_z (m2_z k hk).2 (by omega)).1, (b_L h_z (m2_z k hk).2 (by omega)).2⟩, b_P h_z m3_z hq (by omega), b_P h_z m4_z hq (by omega), b_Lay h_z m5_z (by omega), b_Lay h_z m6_z (by omega)⟩
/-- a moment with no mark and no fold; the table without a napkin -/
def moO : zMo := (fun _ => 0, [])
def tbO : zTb := ((0, [], []), ([], [], []), moO, [])
theorem b_ctMo (e1_z : f q 2 = 0) (ex2 : ∀ i, f (q + 1) i = 0) : ctMo f q moO := ⟨e1_z, Nat.zero_le _, fun i _ => ex2 i, fun i d hd_z => absurd hd_z (by rw [show moO.2 = [] from rfl, List.getElem?_nil]; exact fun h_z => by cases h_z)⟩
theorem b_Tc (h_z : ctS w f j w0 f0_z j0 a c L PL VL ZL) (hm_z : iTc PL VL ZL r) (hq : q = a + r) : ppOk (zP w) q (fun i => i) ∧ ctTb f q (fun i => i) moO (fun _ => moO) 0 := by
  obtain ⟨m1_z, m2_z, m3_z, m4_z⟩ := hm_z
  refine ⟨⟨fun i hi_z => ⟨b_P h_z (m2_z i hi_z) (by first | omega | (dsimp only; omega)) (by first | omega | (dsimp only; omega)), hi_z⟩, fun i k _ _ e => e⟩, by rw [b_V h_z m1_z hq]; rfl, Nat.zero_le _, b_ctMo (b_V h_z m3_z.1 (by first | omega | (dsimp only; omega))) (fun i => b_Z h_z m3_z.2 (by first | omega | (dsimp only; omega)) i), fun i hi_z => b_ctMo (b_V h_z (m4_z i hi_z).1 (by first | omega | (dsimp only; omega))) (fun k => b_Z h_z (m4_z i hi_z).2 (by first | omega | (dsimp only; omega)) k)⟩
end BW
theorem tbO_wf : wfT tbO := ⟨Nat.zero_le _, Nat.zero_le _, Nat.zero_le _, fun v hv => absurd hv List.not_mem_nil, ⟨Nat.zero_le _, fun o ho => absurd ho List.not_mem_nil, Or.inl rfl⟩, ⟨Nat.zero_le _, fun o ho => absurd ho List.not_mem_nil, Or.inl rfl⟩, ⟨Nat.zero_le _, fun o ho => absurd ho List.not_mem_nil, Or.inl rfl⟩, ⟨trivial, Nat.zero_le _, fun _ => Nat.zero_le _⟩, Nat.zero_le _, fun M hM_z => absurd hM_z List.not_mem_nil⟩
theorem i_tb : iTb cL_W cP_W 11 ∧ ∀ i, i < 3 → iTb cL_W cP_W (108 + 41 * i) ∧ cP_W.contains (52, i, 108 + 41 * i) = true := ⟨(by unfold iTb iMo; decide +kernel), (by unfold iTb iMo; decide +kernel)⟩
theorem i_tr : ∀ i, i < 4 → iTr cL_W cP_W (231 + 2 * i) ∧ cP_W.contains (53, i, 231 + 2 * i) = true ∧ cV_W.contains (231 + 2 * i, 3, 1) = true ∧ cV_W.contains (231 + 2 * i, 2, 0) = true := (by unfold iTr; decide +kernel)
theorem i_wy : (iWy cL_W cP_W 57 ∧ iWy cL_W cP_W 75) ∧ (iLay cL_W cP_W 93 ∧ iLay cL_W cP_W 97) ∧ iMo cL_W cP_W 101 := ⟨⟨(by unfold iWy iLay; decide +kernel), (by unfold iWy iLay; decide +kernel)⟩, ⟨(by unfold iLay; decide +kernel), (by unfold iLay; decide +kernel)⟩, (by unfold iMo; decide +kernel)⟩
theorem i_tc : iTc cP_W cV_W cZ_W 11 ∧ ∀ i, i < 3 → iTc cP_W cV_W cZ_W (108 + 41 * i) := ⟨(by unfold iTc; decide +kernel), (by unfold iTc; decide +kernel)⟩
theorem i_sc : cL_W.contains (54, 6, 0) = true ∧ cP_W.contains (54, 0, 55) = true ∧ cP_W.contains (54, 1, 56) = true ∧ cL_W.contains (55, 21, 8) = true ∧ cL_W.contains (56, 21, 64) = true := by decide +kernel
theorem i_x : cL_W.contains (0, 10, 0) = true ∧ (∀ e ∈ pXl, cP_W.contains (0, e.1, e.2) = true) ∧ (∀ e ∈ kXl, cL_W.contains e = true) ∧ cL_W.contains (2, 5, 0) = true ∧ cP_W.contains (2, 8, 10) = true := by decide +kernel
theorem i_m : cL_W.contains (239, 11, 0) = true ∧ (∀ r, r < 21 → 1 ≤ r → cL_W.contains (239 + r, mK r, mN r) = true) ∧ ∀ e ∈ mFd, cP_W.contains (239, e.1, 239 + e.2) = true := by decide +kernel
theorem i_na : (cL_W.contains (12, 4, 0) = true ∧ cP_W.contains (12, 3, 13) = true ∧ cP_W.contains (12, 4, 14) = true ∧ cL_W.contains (13, 21, 12) = true ∧ cL_W.contains (14, 21, 4) = true ∧ cP_W.contains (11, 0, 12) = true) ∧ (cV_W.contains (12, 0, 0) = true ∧ cV_W.contains (12, 1, 0) = true ∧ cV_W.contains (12, 2, 0) = true ∧ cZ_W.contains (13) = true ∧ cZ_W.contains (14) = true) ∧ ∀ k, k < 3 → cP_W.contains (12, 5 + k, 15 + k) = true ∧ cL_W.contains (15 + k, 21, 0) = true := ⟨by decide +kernel, by decide +kernel, by decide +kernel⟩
theorem i_v : (cV_W.contains (0, 1, 0) = true ∧ cV_W.contains (0, 2, 0) = true ∧ cV_W.contains (0, 3, -1) = true ∧ cV_W.contains (57, 12, 0) = true ∧ cV_W.contains (75, 12, 0) = true ∧ ∀ i, i < 3 → cV_W.contains (108 + 41 * i, 4, 0) = true) ∧ (cV_W.contains (239, 6, 0) = true ∧ cV_W.contains (239, 14, 0) = true ∧ cV_W.contains (239, 15, -1) = true ∧ cV_W.contains (239, 37, 0) = true ∧ cZ_W.contains (240) = true ∧ cZ_W.contains (243) = true ∧ cZ_W.contains (254) = true) ∧ ∀ t, t < 4 → cV_W.contains (257, t, -1) = true := ⟨by decide +kernel, by decide +kernel, by decide +kernel⟩
theorem i_o : cL_W.contains (260, 25, 1) = true := by decide +kernel
theorem z9 {x : Int32} (h_z : x = 0) : x.toInt = 0 := by
  rw [h_z]
  rfl
theorem z8 {x v : Int32} {n : Int} (h_z : x = v) (hv : v.toInt = n) : x.toInt = n := by
  rw [h_z]
  exact hv
theorem nn9 {α : Type} {i : Nat} {x : α} {P : Prop} (h_z : ([] : List α)[i]? = some x) : P := by
  rw [List.getElem?_nil] at h_z
  cases h_z
set_option maxHeartbeats 4000000 in
set_option maxRecDepth 100000 in
theorem lw_0 {w w0 : zW} {f f0_z : Nat → Nat → Int32} {j j0 : Nat → Nat → Int64} {X : Nat} (h_z : ctS w f j w0 f0_z j0 X 261 cL_W cP_W cV_W cZ_W) (hz : ∀ q, X + 261 ≤ q → zK w0 q = 0) : lwI w f j X tbO (fun _ => none) (fun _ => none) 0 (fun _ => 0) 0 (-1) 0 := by
  have hS_z := ctS_S h_z
  have hx : shX w X := ⟨(b_L h_z i_x.1 (by omega)).1, fun e he => b_P h_z (i_x.2.1 e he) (by omega) rfl, fun e he => b_L h_z (i_x.2.2.1 e he) rfl, ⟨(b_L h_z i_x.2.2.2.1 rfl).1, b_P h_z i_x.2.2.2.2 rfl rfl⟩, b_Tb h_z i_tb.1 rfl, fun i hi_z => ⟨b_Tb h_z (i_tb.2 i hi_z).1 (by omega), b_P h_z (i_tb.2 i hi_z).2 rfl (by omega)⟩, fun i hi_z => ⟨b_Tr h_z (i_tr i hi_z).1 (by omega), b_P h_z (i_tr i hi_z).2.1 rfl (by omega)⟩, ⟨(b_L h_z i_sc.1 rfl).1, b_P h_z i_sc.2.1 rfl (by omega), b_P h_z i_sc.2.2.1 rfl (by omega), (b_L h_z i_sc.2.2.2.1 (by omega)).1, (b_L h_z i_sc.2.2.2.2 (by omega)).1, (b_L h_z i_sc.2.2.2.1 (by omega)).2, (b_L h_z i_sc.2.2.2.2 (by omega)).2⟩, b_Wy h_z i_wy.1.1 rfl, b_Wy h_z i_wy.1.2 rfl, b_Lay h_z i_wy.2.1.1 rfl, b_Lay h_z i_wy.2.1.2 rfl, b_Mo h_z i_wy.2.2 rfl⟩
  have hm_z : shM w (X + 239) := ⟨(b_L h_z i_m.1 rfl).1, fun r h1 h2 => b_L h_z (i_m.2.1 r (by omega) h1) (by omega), fun q hq => b_P h_z (i_m.2.2 q hq) rfl (by omega)⟩
  have hlaw : ∀ k, k < 3 → lawAt w f X (X + 12) (5 + k) [] := fun k hk => ⟨X + 15 + k, b_P h_z (i_na.2.2 k hk).1 rfl (by omega), (b_L h_z (i_na.2.2 k hk).2 (by omega)).1, (b_L h_z (i_na.2.2 k hk).2 (by omega)).2, by unfold zoneX; omega, fun i o ho => nn9 ho⟩
  have hna : naAt w f X (X + 12) tbO := by
    refine ⟨⟨(b_L h_z i_na.1.1 rfl).1, b_P h_z i_na.1.2.1 rfl (by omega), b_P h_z i_na.1.2.2.1 rfl (by omega), (b_L h_z i_na.1.2.2.2.1 (by omega)).1, (b_L h_z i_na.1.2.2.2.2.1 (by omega)).1, (b_L h_z i_na.1.2.2.2.1 (by omega)).2, (b_L h_z i_na.1.2.2.2.2.1 (by omega)).2⟩, ⟨b_V h_z i_na.2.1.1 rfl, b_V h_z i_na.2.1.2.1 rfl, b_V h_z i_na.2.1.2.2.1 rfl, Nat.zero_le _, Nat.zero_le _, fun i p hp => nn9 hp, fun i _ _ => b_Z h_z i_na.2.1.2.2.2.1 (by omega) i, fun i v hv => nn9 hv, fun i _ _ => b_Z h_z i_na.2.1.2.2.2.2 (by omega) i⟩, ⟨by unfold zoneX; omega, by unfold zoneX; omega, by unfold zoneX; omega⟩, hlaw 0 (by decide), hlaw 1 (by decide), hlaw 2 (by decide)⟩
  have htc := b_Tc h_z i_tc.1 (q := X + 11) rfl
  have htb : tbAt w f X (X + 11) tbO := ⟨X + 12, _, _, 0, b_P h_z i_na.1.2.2.2.2.2 rfl (by omega), hna, htc.1, htc.2, rfl, tbO_wf⟩
  refine ⟨⟨hx, by omega, fun q hq => (h_z.1.1.2 q (by omega)).trans (hz q (by omega)), b_L h_z i_o rfl, hm_z, htb, Or.inl (z9 (b_V h_z i_v.1.2.2.2.1 rfl)), Or.inl (z9 (b_V h_z i_v.1.2.2.2.2.1 rfl)), fun i hi_z => ⟨z8 (b_V h_z (i_tr i hi_z).2.2.1 (by omega)) (by decide), z9 (b_V h_z (i_tr i hi_z).2.2.2 (by omega))⟩, fun i hi_z => z9 (b_V h_z (i_v.1.2.2.2.2.2 i hi_z) (by omega)), fun i hi_z => ⟨_, _, _, _, (b_Tc h_z (i_tc.2 i hi_z) (by omega)).1, (b_Tc h_z (i_tc.2 i hi_z) (by omega)).2⟩, z9 (b_V h_z i_v.1.1 (by omega)), Nat.zero_le _, fun q hq => absurd hq (Nat.not_lt_zero _), fun _ => Nat.zero_le _, z9 (b_V h_z i_v.1.2.1 (by omega)), z8 (b_V h_z i_v.1.2.2.1 (by omega)) (by decide)⟩, ?_⟩
  have k0_z : ∀ i, f (X + 239 + 1) i = 0 := fun i => b_Z h_z i_v.2.1.2.2.2.2.1 (by omega) i
  refine ⟨⟨⟨z9 (k0_z 0), z9 (k0_z 1), z9 (k0_z 2), z9 (k0_z 3), z9 (k0_z 4), z9 (k0_z 5), z9 (k0_z 6)⟩, ⟨z9 (k0_z 7), fun i d hd_z => nn9 hd_z, fun c _ => ⟨z9 (k0_z _), z9 (k0_z _)⟩⟩, fun i v hv => nn9 hv, fun i M hM_z => nn9 hM_z, fun i o ho => nn9 ho, fun i o ho => nn9 ho, fun i o ho => nn9 ho⟩, fun t ht => ?_, fun i hi_z => z9 (b_Z h_z i_v.2.1.2.2.2.2.2.1 (by omega) i), fun i hi_z => ?_, ?_, z9 (b_V h_z i_v.2.1.1 rfl), fun q hq => absurd hq (Nat.not_lt_zero _), z9 (b_V h_z i_v.2.1.2.1 rfl), z8 (b_V h_z i_v.2.1.2.2.1 rfl) (by decide)⟩
  · show (f (X + 239 + 18) t).toInt = -1
    exact z8 (b_V h_z (i_v.2.2 t ht) (by omega)) (by decide)
  · exact Int.le_of_eq ((z9 (b_Z h_z i_v.2.1.2.2.2.2.2.2 (by omega) i)).trans (z9 (b_V h_z i_v.2.1.2.2.2.1 rfl)).symm)
  · exact Int.le_of_eq (z9 (b_V h_z i_v.2.1.2.2.2.1 rfl))
