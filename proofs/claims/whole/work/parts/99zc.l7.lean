/-! the law: the cases, seventh part: deeds -/
theorem tbAt_P1 {w : zW} {P2 : Nat → Nat → Option Nat} {f f2_z : Nat → Nat → Int32} {X a : Nat} {T : zTb} (h_z : tbAt w f X a T) (ha_z : X + 108 ≤ a ∧ a + 41 ≤ X + 231) (e : ∀ q, q ≠ X + 21 → P2 q = zP w q) (o : frT X f f2_z) : tbAt (zsP w P2) f2_z X a T := by
  obtain ⟨nq, pp, g0, p0, h1, h2, h3, h4, h5⟩ := h_z
  refine ⟨nq, pp, g0, p0, (congrFun (e a (by omega)) 0).trans h1, naAt_P (naAt_q h2 (fun q hq => frT_z o hq)) (fun q hq => e q (by unfold zoneX at hq; omega)), ⟨fun i hi_z => ⟨(congrFun (e (a + 10) (by omega)) i).trans (h3.1 i hi_z).1, (h3.1 i hi_z).2⟩, h3.2⟩, ctTb_q h4 h3 (fun q hq => o q (by omega)), h5⟩
theorem lwC_st {w : zW} {f f2_z : Nat → Nat → Int32} {j : Nat → Nat → Int64} {X : Nat} {T T2 : zTb} {P2 : Nat → Nat → Option Nat} {ty : Nat → zTy} {im : Nat → Option zTb} {p : Nat} {B : Nat → Nat} {th pl : Int} (h_z : lwC w f j X T ty im p B th pl) (o : stX w P2 f f2_z X T2) : lwC (zsP w P2) f2_z j X T2 ty im p B th pl := by
  obtain ⟨a1, a2, a3, a4, a5, a6, a7, a8, a9, a10, a11, a12, a13, a14, a15, a16, a17⟩ := h_z
  obtain ⟨o1, o2, o3⟩ := o
  have oX : f2_z X = f X := o2 X (by omega)
  refine ⟨shX_P1 a1 o1, a2, a3, a4, ⟨a5.1, a5.2.1, fun q hq => ?_⟩, o3, wyI_e a7 (fun r h1 h2 => o2 _ (by omega)), wyI_e a8 (fun r h1 h2 => o2 _ (by omega)), fun i hi_z => ctTr_of (a9 i hi_z) (o2 _ (by omega)) rfl, fun i hi_z => ?_, fun i hi_z => ?_, by rw [oX]; exact a12, a13, fun q hq => by rw [o2 (X + 1) (by omega)]; exact a14 q hq, a15, by rw [oX]; exact a16, by rw [oX]; exact a17⟩
  · exact (congrFun (o1 (X + 239) (by omega)) q.1).trans (a5.2.2 q hq)
  · have h9 := a10 i hi_z
    cases hm_z : im i with
    | none =>
      rw [hm_z] at h9
      unfold imAt at h9 ⊢
      rw [o2 (X + 108 + 41 * i) (by omega)]
      exact h9
    | some T9 =>
      rw [hm_z] at h9
      obtain ⟨b1, b2⟩ := h9
      exact ⟨by rw [o2 (X + 108 + 41 * i) (by omega)]; exact b1, tbAt_P1 b2 (by omega) o1 o2⟩
  · obtain ⟨pp, M, g0, p0, b1, b2⟩ := a11 i hi_z
    exact ⟨pp, M, g0, p0, ⟨fun k hk => ⟨(congrFun (o1 (X + 108 + 41 * i + 10) (by omega)) k).trans (b1.1 k hk).1, (b1.1 k hk).2⟩, b1.2⟩, ctTb_q b2 b1 (fun q hq => o2 q (by omega))⟩
/-- the reference does the same deed: its known row changes alone -/
theorem lwM_kn {f f2_z : Nat → Nat → Int32} {j : Nat → Nat → Int64} {A N : Nat} {T T2 : zTb} {ty : Nat → zTy} {im : Nat → Option zTb} {p : Nat} {B : Nat → Nat} {th pl : Int} (h_z : lwM f j A T ty im p B th pl N) (o : frM A [1, 6] [4] f f2_z) (hk : ctKn (f2_z (A + 1)) T2) : lwM f2_z j A T2 ty im p B th pl N := by
  obtain ⟨a1, a2, a3, a4, a5, a6, a7, a8, a9⟩ := h_z
  have e3_z : f2_z (A + 3) = f (A + 3) := o.2.1 3 (by decide) (by decide) (by decide)
  have e4_z : f2_z (A + 4) = f (A + 4) := o.2.1 4 (by decide) (by decide) (by decide)
  have e5_z : f2_z (A + 5) = f (A + 5) := o.2.1 5 (by decide) (by decide) (by decide)
  have e15_z : f2_z (A + 15) = f (A + 15) := o.2.1 15 (by decide) (by decide) (by decide)
  have e18_z : f2_z (A + 18) = f (A + 18) := o.2.1 18 (by decide) (by decide) (by decide)
  have e19_z : f2_z (A + 19) = f (A + 19) := o.2.1 19 (by decide) (by decide) (by decide)
  have e37 : f2_z A 37 = f A 37 := o.2.2 37 (by decide)
  exact ⟨hk, fun t ht => ctTm_of (a2 t ht) (congrFun e18_z t) (congrFun e19_z t) (fun _ _ => rfl), fun i hi_z => imM_of (a3 i hi_z) (congrFun e4_z i) (fun k _ => congrFun e3_z _), fun i hi_z => by rw [e15_z, e37]; exact a4 i hi_z, by rw [e37]; exact a5, by rw [o.2.2 6 (by decide)]; exact a6, fun q hq => by rw [e5_z]; exact a7 q hq, by rw [o.2.2 14 (by decide)]; exact a8, by rw [o.2.2 15 (by decide)]; exact a9⟩
