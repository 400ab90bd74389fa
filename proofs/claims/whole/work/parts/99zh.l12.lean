/-! the law: the cases, twelfth part: what holds when the tape, the table, trays, images change -/
theorem shr_i {x c : Int32} {k : Nat} (hc_z : (c.toBitVec.smod 32).toNat = k) : (x >>> c).toInt = x.toInt / (2 ^ k : Nat) := by
  show (x >>> c).toBitVec.toInt = _
  rw [Int32.toBitVec_shiftRight, BitVec.toInt_sshiftRight']
  have e2_z : (c.toBitVec.smod (OfNat.ofNat 32)).toNat = k := hc_z
  rw [e2_z, Int.shiftRight_eq_div_pow]
  first | done | rfl
theorem shr_u {x c : UInt32} {k : Nat} (hc_z : c.toNat % 32 = k) : (x >>> c).toNat = x.toNat / 2 ^ k := by
  rw [UInt32.toNat_shiftRight, hc_z, Nat.shiftRight_eq_div_pow]
theorem and_u {v : UInt32} : (v.toInt32 &&& 255).toInt = ((v.toNat % 256 : Nat) : Int) := by
  show (v.toInt32 &&& 255).toBitVec.toInt = _
  rw [Int32.toBitVec_and, BitVec.toInt_eq_toNat_cond, BitVec.toNat_and]
  have h1 : v.toInt32.toBitVec.toNat = v.toNat := rfl
  have h2 : (255 : Int32).toBitVec.toNat = 2 ^ 8 - 1 := by decide
  rw [h1, h2, Nat.and_two_pow_sub_one_eq_mod]
  have h3 : v.toNat % 2 ^ 8 < 2 ^ 8 := Nat.mod_lt _ (by decide)
  rw [if_pos (by omega)]
theorem rby_b {x : Int32} {i : Nat} : 0 ≤ (rbyW x i).toInt ∧ (rbyW x i).toInt ≤ 255 := by
  unfold rbyW
  rw [and_u]
  have h3 : ∀ a : Nat, a % 256 < 256 := fun a => Nat.mod_lt _ (by decide)
  have h4 := h3 (x.toUInt32 >>> ((nI (24 - 8 * i)).toUInt32 &&& Int32.toUInt32 31)).toNat
  omega
theorem byt_v {x : Int32} {i k : Nat} (hc_z : ((nI (24 - 8 * i) &&& 31).toBitVec.smod 32).toNat = k) : (bytW x i).toInt = (x.toInt / (2 ^ k : Nat)).bmod 256 := by
  unfold bytW
  rw [vp_nar_byte, Int8.toInt_toInt32, Int32.toInt_toInt8, Int8.toInt_toInt32, Int32.toInt_toInt8, shr_i hc_z]
  show Int.bmod (Int.bmod _ 256) 256 = _
  rw [Int.bmod_bmod_of_dvd (Nat.dvd_refl 256)]
theorem rby_v {x : Int32} {i k : Nat} (hc_z : (((nI (24 - 8 * i)).toUInt32 &&& Int32.toUInt32 31)).toNat % 32 = k) : (rbyW x i).toInt = (((x.toUInt32.toNat / 2 ^ k) % 256 : Nat) : Int) := by
  unfold rbyW
  rw [and_u, shr_u hc_z]
theorem u32_c (x : Int32) : x.toInt = (x.toUInt32.toNat : Int) ∧ x.toUInt32.toNat < 2147483648 ∨ x.toInt = (x.toUInt32.toNat : Int) - 4294967296 ∧ 2147483648 ≤ x.toUInt32.toNat ∧ x.toUInt32.toNat < 4294967296 := by
  have h1 : x.toInt = x.toBitVec.toInt := rfl
  have h2 : x.toUInt32.toNat = x.toBitVec.toNat := rfl
  have h3 := BitVec.toInt_eq_toNat_cond x.toBitVec
  have h4 := x.toBitVec.isLt
  rw [h1, h2, h3]
  split
  · exact Or.inl ⟨rfl, by omega⟩
  · exact Or.inr ⟨by omega, by omega, by omega⟩
theorem bm256 (a : Int) : a.bmod 256 = if a % 256 < 128 then a % 256 else a % 256 - 256 := by
  unfold Int.bmod
  simp only []
  split <;> split <;> omega
theorem byt_o {x : Int32} {i : Nat} (hi_z : i < 4) : btO (bytW x i) (rbyW x i).toInt.toNat := by
  have hu := u32_c x
  unfold btO
  rcases (show i = 0 ∨ i = 1 ∨ i = 2 ∨ i = 3 by omega) with rfl | rfl | rfl | rfl
  · rw [byt_v (k := 24) (by decide +kernel), rby_v (k := 24) (by decide +kernel), bm256]
    simp only [Int.toNat_natCast]
    split <;> split <;> omega
  · rw [byt_v (k := 16) (by decide +kernel), rby_v (k := 16) (by decide +kernel), bm256]
    simp only [Int.toNat_natCast]
    split <;> split <;> omega
  · rw [byt_v (k := 8) (by decide +kernel), rby_v (k := 8) (by decide +kernel), bm256]
    simp only [Int.toNat_natCast]
    split <;> split <;> omega
  · rw [byt_v (k := 0) (by decide +kernel), rby_v (k := 0) (by decide +kernel), bm256]
    simp only [Int.toNat_natCast]
    split <;> split <;> omega
/-- the tape when five ints have been fed -/
def fdB (p : Nat) (B : Nat → Nat) (a b c d e : Int32) : Nat → Nat := fun q => if q < p then B q else (rfdG a b c d e (q - p)).toInt.toNat
theorem lwC_fed {w : zW} {f f2_z : Nat → Nat → Int32} {j : Nat → Nat → Int64} {X : Nat} {a b c d e : Int32} {T : zTb} {ty : Nat → zTy} {im : Nat → Option zTb} {p : Nat} {B : Nat → Nat} {th pl : Int} (h_z : lwC w f j X T ty im p B th pl) (hp : p + 20 ≤ 900) (o : tpS X f f2_z p 20 (fedG a b c d e)) : lwC w f2_z j X T ty im (p + 20) (fdB p B a b c d e) th pl := by
  obtain ⟨a1, a2, a3, a4, a5, a6, a7, a8, a9, a10, a11, a12, a13, a14, a15, a16, a17⟩ := h_z
  obtain ⟨o1, o2, o3, o4, o5⟩ := o
  have oz : ∀ q, zoneX X q → f2_z q = f q := fun q hq => o1 q (by unfold zoneX at hq; omega) (by unfold zoneX at hq; omega)
  refine ⟨a1, a2, a3, a4, a5, tbAt_q a6 oz (fun q hq => o1 q (by omega) (by omega)), wyI_e a7 (fun r h1 h2 => o1 _ (by omega) (by omega)), wyI_e a8 (fun r h1 h2 => o1 _ (by omega) (by omega)), fun i hi_z => ctTr_of (a9 i hi_z) (o1 _ (by omega) (by omega)) rfl, fun i hi_z => ?_, fun i hi_z => ?_, o3, hp, fun q hq => ?_, fun q => ?_, by rw [o2 2 (by decide)]; exact a16, by rw [o2 3 (by decide)]; exact a17⟩
  · have h9 := a10 i hi_z
    cases hm_z : im i with
    | none =>
      rw [hm_z] at h9
      unfold imAt at h9 ⊢
      rw [o1 (X + 108 + 41 * i) (by omega) (by omega)]
      exact h9
    | some T2 =>
      rw [hm_z] at h9
      obtain ⟨b1, b2⟩ := h9
      exact ⟨by rw [o1 (X + 108 + 41 * i) (by omega) (by omega)]; exact b1, tbAt_q b2 oz (fun q hq => o1 q (by omega) (by omega))⟩
  · obtain ⟨pp, M, g0, p0, b1, b2⟩ := a11 i hi_z
    exact ⟨pp, M, g0, p0, b1, ctTb_q b2 b1 (fun q hq => o1 q (by omega) (by omega))⟩
  · unfold fdB
    by_cases h9 : q < p
    · rw [if_pos h9, o5 q (Or.inl h9)]
      exact a14 q h9
    · rw [if_neg h9, show f2_z (X + 1) q = f2_z (X + 1) (p + (q - p)) by rw [show p + (q - p) = q by omega], o4 (q - p) (by omega)]
      exact byt_o (Nat.mod_lt _ (by decide))
  · unfold fdB
    by_cases h9 : q < p
    · rw [if_pos h9]
      exact a15 q
    · rw [if_neg h9]
      have h8 : 0 ≤ (rfdG a b c d e (q - p)).toInt ∧ (rfdG a b c d e (q - p)).toInt ≤ 255 := rby_b
      omega
theorem lwM_fed {f f2_z : Nat → Nat → Int32} {j : Nat → Nat → Int64} {A N : Nat} {a b c d e : Int32} {T : zTb} {ty : Nat → zTy} {im : Nat → Option zTb} {p : Nat} {B : Nat → Nat} {th pl : Int} (h_z : lwM f j A T ty im p B th pl N) (o : frM A [5] [4, 6] f f2_z) (o1 : (f2_z A 6).toInt = ((p + 20 : Nat) : Int)) (o2 : ∀ i, i < 20 → f2_z (A + 5) (p + i) = rfdG a b c d e i) (o3 : ∀ i, i < p → f2_z (A + 5) i = f (A + 5) i) : lwM f2_z j A T ty im (p + 20) (fdB p B a b c d e) th pl N := by
  obtain ⟨a1, a2, a3, a4, a5, a6, a7, a8, a9⟩ := h_z
  have e1_z : f2_z (A + 1) = f (A + 1) := o.2.1 1 (by decide) (by decide) (by decide)
  have e3_z : f2_z (A + 3) = f (A + 3) := o.2.1 3 (by decide) (by decide) (by decide)
  have e4_z : f2_z (A + 4) = f (A + 4) := o.2.1 4 (by decide) (by decide) (by decide)
  have e15_z : f2_z (A + 15) = f (A + 15) := o.2.1 15 (by decide) (by decide) (by decide)
  have e18_z : f2_z (A + 18) = f (A + 18) := o.2.1 18 (by decide) (by decide) (by decide)
  have e19_z : f2_z (A + 19) = f (A + 19) := o.2.1 19 (by decide) (by decide) (by decide)
  have e37 : f2_z A 37 = f A 37 := o.2.2 37 (by decide)
  refine ⟨by rw [e1_z]; exact a1, fun t ht => ctTm_of (a2 t ht) (congrFun e18_z t) (congrFun e19_z t) (fun _ _ => rfl), fun i hi_z => imM_of (a3 i hi_z) (congrFun e4_z i) (fun k _ => congrFun e3_z _), fun i hi_z => by rw [e15_z, e37]; exact a4 i hi_z, by rw [e37]; exact a5, o1, fun q hq => ?_, by rw [o.2.2 14 (by decide)]; exact a8, by rw [o.2.2 15 (by decide)]; exact a9⟩
  unfold fdB
  by_cases h9 : q < p
  · rw [if_pos h9, o3 q h9]
    exact a7 q h9
  · rw [if_neg h9, show f2_z (A + 5) q = f2_z (A + 5) (p + (q - p)) by rw [show p + (q - p) = q by omega], o2 (q - p) (by omega)]
    have h8 : 0 ≤ (rfdG a b c d e (q - p)).toInt ∧ (rfdG a b c d e (q - p)).toInt ≤ 255 := rby_b
    omega
/-- the class's own table, its tape's length and what was wrong change; more may lie behind -/
theorem lwC_g {w w2 : zW} {f f2_z : Nat → Nat → Int32} {j j2 : Nat → Nat → Int64} {X : Nat} {T2 : zTb} {p2 : Nat} {th2 pl2 : Int} {T : zTb} {ty : Nat → zTy} {im : Nat → Option zTb} {p : Nat} {B : Nat → Nat} {th pl : Int} (h_z : lwC w f j X T ty im p B th pl) (hS_z : zS w ≤ zS w2) (hk : ∀ q, q < zS w → zK w2 q = zK w q ∧ zN w2 q = zN w q) (hP : ∀ q k, q < zS w → q ≠ X + 2 → q ≠ X + 11 → q ≠ X + 21 → zP w2 q k = zP w q k) (hz : ∀ q, zS w2 ≤ q → zK w2 q = zK w q) (hf : ∀ q, q < zS w → q ≠ X → q ≠ X + 2 → q ≠ X + 10 → ¬ (q = X + 11 ∨ X + 18 ≤ q ∧ q < X + 52) → f2_z q = f q) (hj : ∀ q, q < zS w → j2 q = j q) (hx2 : shX w2 X) (ht2 : tbAt w2 f2_z X (X + 11) T2) (e1_z : (f2_z X 1).toInt = (p2 : Nat)) (hp2 : p2 ≤ p) (e2_z : (f2_z X 2).toInt = th2) (e3_z : (f2_z X 3).toInt = pl2) : lwC w2 f2_z j2 X T2 ty im p2 B th2 pl2 := by
  obtain ⟨a1, a2, a3, a4, a5, a6, a7, a8, a9, a10, a11, a12, a13, a14, a15, a16, a17⟩ := h_z
  refine ⟨hx2, by omega, fun q hq => (hz q hq).trans (a3 q (by omega)), ⟨(hk _ (by omega)).1.trans a4.1, (hk _ (by omega)).2.trans a4.2⟩, ⟨(hk _ (by omega)).1.trans a5.1, fun r b1 b2 => ⟨(hk _ (by omega)).1.trans (a5.2.1 r b1 b2).1, (hk _ (by omega)).2.trans (a5.2.1 r b1 b2).2⟩, fun q hq => (hP _ _ (by omega) (by omega) (by omega) (by omega)).trans (a5.2.2 q hq)⟩, ht2, wyI_e a7 (fun r b1 b2 => hf _ (by omega) (by omega) (by omega) (by omega) (by omega)), wyI_e a8 (fun r b1 b2 => hf _ (by omega) (by omega) (by omega) (by omega) (by omega)), fun i hi_z => ctTr_of (a9 i hi_z) (hf _ (by omega) (by omega) (by omega) (by omega) (by omega)) (hj _ (by omega)), fun i hi_z => ?_, fun i hi_z => ?_, e1_z, by omega, fun q hq => by rw [hf (X + 1) (by omega) (by omega) (by omega) (by omega) (by omega)]; exact a14 q (by omega), a15, e2_z, e3_z⟩
  · have h9 := a10 i hi_z
    cases hm_z : im i with
    | none =>
      rw [hm_z] at h9
      unfold imAt at h9 ⊢
      rw [hf (X + 108 + 41 * i) (by omega) (by omega) (by omega) (by omega) (by omega)]
      exact h9
    | some T9 =>
      rw [hm_z] at h9
      obtain ⟨b1, b2⟩ := h9
      exact ⟨by rw [hf (X + 108 + 41 * i) (by omega) (by omega) (by omega) (by omega) (by omega)]; exact b1, tbAt_g b2 a3 hk (fun q k c1_z c2_z => hP q k c1_z (by unfold zoneX at c2_z; omega) (by unfold zoneX at c2_z; omega) (by unfold zoneX at c2_z; omega)) (fun q c1_z c2_z => hf q c1_z (by unfold zoneX at c2_z; omega) (by unfold zoneX at c2_z; omega) (by unfold zoneX at c2_z; omega) (by unfold zoneX at c2_z; omega)) (by omega)⟩
  · obtain ⟨pp, M, g0, p0, b1, b2⟩ := a11 i hi_z
    have b1b : ppOk (zP w2) (X + 108 + 41 * i) pp := ⟨fun k hk => ⟨(hP (X + 108 + 41 * i + 10) k (by omega) (by omega) (by omega) (by omega)).trans (b1.1 k hk).1, (b1.1 k hk).2⟩, b1.2⟩
    exact ⟨pp, M, g0, p0, b1b, ctTb_q b2 b1 (fun q hq => hf q (by omega) (by omega) (by omega) (by omega) (by omega))⟩
/-- the same for the reference -/
theorem lwM_g {f f2_z : Nat → Nat → Int32} {j : Nat → Nat → Int64} {A N : Nat} {T2 : zTb} {p2 : Nat} {th2 pl2 : Int} {T : zTb} {ty : Nat → zTy} {im : Nat → Option zTb} {p : Nat} {B : Nat → Nat} {th pl : Int} (h_z : lwM f j A T ty im p B th pl N) (o : frM A [1, 2, 6] [4, 6, 7, 8, 9, 10, 11, 12, 13, 14, 15, 16, 17, 18, 24] f f2_z) (hk : ctKn (f2_z (A + 1)) T2) (e6_z : (f2_z A 6).toInt = (p2 : Nat)) (hp2 : p2 ≤ p) (e14_z : (f2_z A 14).toInt = th2) (ex15 : (f2_z A 15).toInt = pl2) : lwM f2_z j A T2 ty im p2 B th2 pl2 N := by
  obtain ⟨a1, a2, a3, a4, a5, a6, a7, a8, a9⟩ := h_z
  have e3_z : f2_z (A + 3) = f (A + 3) := o.2.1 3 (by decide) (by decide) (by decide)
  have e4_z : f2_z (A + 4) = f (A + 4) := o.2.1 4 (by decide) (by decide) (by decide)
  have e5_z : f2_z (A + 5) = f (A + 5) := o.2.1 5 (by decide) (by decide) (by decide)
  have e15_z : f2_z (A + 15) = f (A + 15) := o.2.1 15 (by decide) (by decide) (by decide)
  have e18_z : f2_z (A + 18) = f (A + 18) := o.2.1 18 (by decide) (by decide) (by decide)
  have e19_z : f2_z (A + 19) = f (A + 19) := o.2.1 19 (by decide) (by decide) (by decide)
  have e37 : f2_z A 37 = f A 37 := o.2.2 37 (by decide)
  exact ⟨hk, fun t ht => ctTm_of (a2 t ht) (congrFun e18_z t) (congrFun e19_z t) (fun _ _ => rfl), fun i hi_z => imM_of (a3 i hi_z) (congrFun e4_z i) (fun k _ => congrFun e3_z _), fun i hi_z => by rw [e15_z, e37]; exact a4 i hi_z, by rw [e37]; exact a5, e6_z, fun q hq => by rw [e5_z]; exact a7 q (by omega), e14_z, ex15⟩
