/-! Ways: a node comes to its list -/
def samL (NL NL2 : List zRw) : Prop := ∀ i : Nat, (NL2[i]?).map (fun y => (y.1, y.2.1)) = (NL[i]?).map (fun y => (y.1, y.2.1))
theorem samL_at {NL NL2 : List zRw} (h_z : samL NL NL2) {i : Nat} {y : zRw} (hy : NL[i]? = some y) : ∃ z, NL2[i]? = some z ∧ z.1 = y.1 ∧ z.2.1 = y.2.1 := by
  have e := h_z i
  rw [hy] at e
  cases hz : NL2[i]? with
  | none => rw [hz] at e; cases e
  | some z =>
    rw [hz] at e
    have e2_z : (z.1, z.2.1) = (y.1, y.2.1) := Option.some.inj e
    exact ⟨z, rfl, (Prod.mk.inj e2_z).1, (Prod.mk.inj e2_z).2⟩
theorem samL_sy {NL NL2 : List zRw} (h_z : samL NL NL2) : samL NL2 NL := fun i => (h_z i).symm
theorem isF_sam {NL NL2 : List zRw} (h_z : samL NL NL2) {L : zLy} {i : Nat} (hi_z : isF NL L i) : isF NL2 L i := by
  obtain ⟨y, a1, a2, a3⟩ := hi_z
  obtain ⟨z, b1, b2, -⟩ := samL_at h_z a1
  refine ⟨z, b1, b2.trans a2, fun k u hk hu => ?_⟩
  obtain ⟨v, c1_z, c2_z, -⟩ := samL_at (samL_sy h_z) hu
  rw [← c2_z]
  exact a3 k v hk c1_z
theorem isL_sam {NL NL2 : List zRw} (h_z : samL NL NL2) {L : zLy} {i : Nat} (hi_z : isL NL L i) : isL NL2 L i := by
  obtain ⟨y, a1, a2, a3⟩ := hi_z
  obtain ⟨z, b1, b2, -⟩ := samL_at h_z a1
  refine ⟨z, b1, b2.trans a2, fun k u hk hu => ?_⟩
  obtain ⟨v, c1_z, c2_z, -⟩ := samL_at (samL_sy h_z) hu
  rw [← c2_z]
  exact a3 k v hk c1_z
/-- a look that is there: its count grows -/
theorem insR_upd {B : List zRw} {x : zRw} (h_z : hasR B x.1) : ∃ (t : Nat) (y : zRw), B[t]? = some y ∧ y.1 = x.1 ∧ insR B x = B.set t (y.1, y.2.1, y.2.2 + x.2.2) := by
  induction B with
  | nil => exact absurd h_z hasR_nil
  | cons y t ih =>
    by_cases e : y.1 = x.1
    · refine ⟨0, y, rfl, e, ?_⟩
      show (if y.1 = x.1 then _ else _) = _
      rw [if_pos e]
      rfl
    · obtain ⟨i, z, h1, h2, h3⟩ := ih ((hasR_cons.mp h_z).resolve_left e)
      refine ⟨i + 1, z, by simpa using h1, h2, ?_⟩
      show (if y.1 = x.1 then _ else _) = _
      rw [if_neg e, h3]
      rfl
theorem wy_cnt {f : Nat → Nat → Int32} {a n : Nat} {NL : List zRw} {p c : Nat} {y : zRw} {v : Int32} (hc_z : ctWy f a n NL) (hp : NL[p]? = some y) (hv : v.toInt = ((y.2.2 + c : Nat) : Int)) : ctWy (zu f (a + 5) p v) a n (NL.set p (y.1, y.2.1, y.2.2 + c)) := by
  obtain ⟨⟨a1, a2, a3, a4⟩, hN_z, ⟨hF1, hF2⟩, ⟨s1, s2, occ, s3, s4⟩, hR⟩ := hc_z
  have hpl := (List.getElem?_eq_some_iff.mp hp).1
  have hsam : samL NL (NL.set p (y.1, y.2.1, y.2.2 + c)) := by
    intro i
    rw [List.getElem?_set]
    by_cases e : p = i
    · subst e
      rw [if_pos rfl, if_pos hpl, hp]
      rfl
    · rw [if_neg e]
  have hget : ∀ i z, (NL.set p (y.1, y.2.1, y.2.2 + c))[i]? = some z → ∃ u, NL[i]? = some u ∧ u.1 = z.1 ∧ u.2.1 = z.2.1 ∧ (i = p ∧ z.2.2 = y.2.2 + c ∨ i ≠ p ∧ u = z) := by
    intro i z hz
    rw [List.getElem?_set] at hz
    by_cases e : p = i
    · subst e
      rw [if_pos rfl, if_pos hpl] at hz
      cases hz
      exact ⟨y, hp, rfl, rfl, Or.inl ⟨rfl, rfl⟩⟩
    · rw [if_neg e] at hz
      exact ⟨z, hz, rfl, rfl, Or.inr ⟨fun h_z => e h_z.symm, rfl⟩⟩
  have r5 : ∀ r, r ≠ 5 → zu f (a + 5) p v (a + r) = f (a + r) := fun r hr => zu_ne (by omega)
  have r0 : zu f (a + 5) p v a = f a := zu_ne (by omega)
  refine ⟨⟨by rw [r0, List.length_set]; exact a1, by rw [r0]; exact a2, by rw [List.length_set]; exact a3, a4⟩, fun i z hz => ?_, ⟨fun i z hz => ?_, fun i L hi_z => ?_⟩, ⟨fun q hq => ?_, fun i L hi_z => ?_, occ, by rw [List.length_set]; exact s3, fun q hq => by rw [r5 9 (by decide)]; exact s4 q hq⟩, fun z hz => ?_⟩
  · obtain ⟨u, u1, u2, u3, u4⟩ := hget i z hz
    obtain ⟨n1, n2, n3, n4⟩ := hN_z i u u1
    rw [r5 1 (by decide), r5 4 (by decide), r5 2 (by decide), r5 3 (by decide), ← u2, ← u3]
    refine ⟨n1, n2, ?_, ?_⟩
    · rcases u4 with ⟨g1, g2⟩ | ⟨g1, g2⟩
      · rw [g1, zu_at, hv, g2]
      · rw [zu_ni g1, ← g2]
        exact n3
    · rcases n4 with n4 | ⟨q, z2, d, m1_z, m2_z, m3_z, m4_z, m5_z⟩
      · exact Or.inl n4
      · obtain ⟨z3, c1_z, c2_z, c3_z⟩ := samL_at hsam m1_z
        exact Or.inr ⟨q, z3, d, c1_z, m2_z, by rw [c3_z]; exact m3_z, m4_z, m5_z⟩
  · obtain ⟨u, u1, u2, u3, u4⟩ := hget i z hz
    obtain ⟨q, g1, g2⟩ := hF1 i u u1
    refine ⟨q, by rw [r5 6 (by decide)]; exact g1, ?_⟩
    rw [← u2]
    exact isF_sam hsam g2
  · obtain ⟨q, g1, g2⟩ := hF2 i L (isF_sam (samL_sy hsam) hi_z)
    exact ⟨q, by rw [r5 7 (by decide)]; exact g1, isL_sam hsam g2⟩
  · rw [r5 9 (by decide)]
    rcases s1 q hq with g | ⟨i, L, g1, g2⟩
    · exact Or.inl g
    · exact Or.inr ⟨i, L, g1, isF_sam hsam g2⟩
  · rw [r5 9 (by decide)]
    exact s2 i L (isF_sam (samL_sy hsam) hi_z)
  · obtain ⟨i, hi_z⟩ := List.mem_iff_getElem?.mp hz
    obtain ⟨u, u1, u2, -⟩ := hget i z hi_z
    rw [← u2]
    exact hR u (List.mem_of_getElem? u1)
/-- a node comes behind -/
theorem isF_app {NL : List zRw} {x : zRw} {L : zLy} {i : Nat} : isF (NL ++ [x]) L i ↔ isF NL L i ∨ (i = NL.length ∧ L = x.1 ∧ ¬ hasR NL x.1) := by
  constructor
  · rintro ⟨y, h1, h2, h3⟩
    by_cases hi_z : i < NL.length
    · rw [List.getElem?_append_left hi_z] at h1
      refine Or.inl ⟨y, h1, h2, fun k z hk hz => h3 k z hk ?_⟩
      rw [List.getElem?_append_left (by omega)]
      exact hz
    · have hl := (List.getElem?_eq_some_iff.mp h1).1
      rw [List.length_append] at hl
      simp at hl
      have e : i = NL.length := by omega
      subst e
      rw [List.getElem?_append_right (Nat.le_refl _), Nat.sub_self] at h1
      cases h1
      refine Or.inr ⟨rfl, h2.symm, ?_⟩
      rintro ⟨z, hz, e⟩
      obtain ⟨k, hk⟩ := List.mem_iff_getElem?.mp hz
      have hkl := (List.getElem?_eq_some_iff.mp hk).1
      exact h3 k z hkl (by rw [List.getElem?_append_left hkl]; exact hk) (e.trans h2)
  · rintro (⟨y, h1, h2, h3⟩ | ⟨rfl, rfl, h_z⟩)
    · have hl := (List.getElem?_eq_some_iff.mp h1).1
      refine ⟨y, by rw [List.getElem?_append_left hl]; exact h1, h2, fun k z hk hz => ?_⟩
      rw [List.getElem?_append_left (by omega)] at hz
      exact h3 k z hk hz
    · refine ⟨x, by rw [List.getElem?_append_right (Nat.le_refl _), Nat.sub_self]; rfl, rfl, fun k z hk hz e => h_z ?_⟩
      rw [List.getElem?_append_left hk] at hz
      exact ⟨z, List.mem_of_getElem? hz, e⟩
theorem isL_app {NL : List zRw} {x : zRw} : isL (NL ++ [x]) x.1 NL.length := by
  refine ⟨x, by rw [List.getElem?_append_right (Nat.le_refl _), Nat.sub_self]; rfl, rfl, fun k z hk hz => ?_⟩
  have := (List.getElem?_eq_some_iff.mp hz).1
  rw [List.length_append] at this
  simp at this
  omega
theorem isL_apn {NL : List zRw} {x : zRw} {L : zLy} {i : Nat} (h_z : isL NL L i) (hne : L ≠ x.1) : isL (NL ++ [x]) L i := by
  obtain ⟨y, h1, h2, h3⟩ := h_z
  have hl := (List.getElem?_eq_some_iff.mp h1).1
  refine ⟨y, by rw [List.getElem?_append_left hl]; exact h1, h2, fun k z hk hz => ?_⟩
  by_cases hkl : k < NL.length
  · rw [List.getElem?_append_left hkl] at hz
    exact h3 k z hk hz
  · have := (List.getElem?_eq_some_iff.mp hz).1
    rw [List.length_append] at this
    simp at this
    rw [show k = NL.length by omega, List.getElem?_append_right (Nat.le_refl _), Nat.sub_self] at hz
    cases hz
    exact fun e => hne e.symm
/-- what the seven rows hold behind it -/
theorem wy_app {f f2_z : Nat → Nat → Int32} {a n i0_z : Nat} {NL : List zRw} {x : zRw} (hc_z : ctWy f a n NL) (hl : NL.length < 1024) (hr : rch n x.1)
    (hrow : x.2.1 = [] ∧ (f2_z (a + 2) NL.length).toInt = -1 ∧ (f2_z (a + 3) NL.length).toInt = -1 ∨ ∃ (q : Nat) (z : zRw) (d : Nat), NL[q]? = some z ∧ x.2.1 = z.2.1 ++ [d] ∧ (f2_z (a + 2) NL.length).toInt = (q : Nat) ∧ (f2_z (a + 3) NL.length).toInt = (d : Nat))
    (h0 : (f2_z a 12).toInt = (NL.length : Nat) + 1) (h11 : f2_z a 11 = f a 11) (h1 : f2_z (a + 1) NL.length = lyKey x.1) (h4 : (f2_z (a + 4) NL.length).toInt = (x.2.1.length : Nat)) (h5 : (f2_z (a + 5) NL.length).toInt = (x.2.2 : Nat))
    (h6 : (f2_z (a + 6) NL.length).toInt = (i0_z : Nat)) (h7 : (f2_z (a + 7) i0_z).toInt = (NL.length : Nat)) (h7b : ∀ i, i ≠ i0_z → f2_z (a + 7) i = f (a + 7) i)
    (hi0_z : isF (NL ++ [x]) x.1 i0_z) (hrest : ∀ r, 1 ≤ r → r ≤ 6 → ∀ i, i < NL.length → f2_z (a + r) i = f (a + r) i) (hS_z : wyS (f2_z (a + 9)) (NL ++ [x])) : ctWy f2_z a n (NL ++ [x]) := by
  obtain ⟨⟨a1, a2, a3, a4⟩, hN_z, ⟨hF1, hF2⟩, -, hR⟩ := hc_z
  have hlen : (NL ++ [x]).length = NL.length + 1 := by rw [List.length_append]; rfl
  refine ⟨⟨by rw [hlen]; omega, by rw [h11]; exact a2, by rw [hlen]; omega, a4⟩, fun i y hy => ?_, ⟨fun i y hy => ?_, fun i L hi_z => ?_⟩, hS_z, fun y hy => ?_⟩
  · by_cases hi_z : i < NL.length
    · rw [List.getElem?_append_left hi_z] at hy
      obtain ⟨n1, n2, n3, n4⟩ := hN_z i y hy
      rw [hrest 1 (by decide) (by decide) i hi_z, hrest 4 (by decide) (by decide) i hi_z, hrest 5 (by decide) (by decide) i hi_z, hrest 2 (by decide) (by decide) i hi_z, hrest 3 (by decide) (by decide) i hi_z]
      refine ⟨n1, n2, n3, ?_⟩
      rcases n4 with n4 | ⟨q, z, d, m1_z, m2_z, m3_z⟩
      · exact Or.inl n4
      · exact Or.inr ⟨q, z, d, by rw [List.getElem?_append_left (by omega)]; exact m1_z, m2_z, m3_z⟩
    · have hll := (List.getElem?_eq_some_iff.mp hy).1
      have e : i = NL.length := by omega
      subst e
      rw [List.getElem?_append_right (Nat.le_refl _), Nat.sub_self] at hy
      cases hy
      refine ⟨h1, h4, h5, ?_⟩
      rcases hrow with hrow | ⟨q, z, d, m1_z, m2_z, m3_z, m4_z⟩
      · exact Or.inl hrow
      · have := (List.getElem?_eq_some_iff.mp m1_z).1
        exact Or.inr ⟨q, z, d, by rw [List.getElem?_append_left this]; exact m1_z, this, m2_z, m3_z, m4_z⟩
  · by_cases hi_z : i < NL.length
    · rw [List.getElem?_append_left hi_z] at hy
      obtain ⟨p, g1, g2⟩ := hF1 i y hy
      exact ⟨p, by rw [hrest 6 (by decide) (by decide) i hi_z]; exact g1, isF_app.mpr (Or.inl g2)⟩
    · have hll := (List.getElem?_eq_some_iff.mp hy).1
      have e : i = NL.length := by omega
      subst e
      rw [List.getElem?_append_right (Nat.le_refl _), Nat.sub_self] at hy
      cases hy
      exact ⟨i0_z, h6, hi0_z⟩
  · by_cases hL : L = x.1
    · subst hL
      have e := isF_uni hi_z hi0_z
      subst e
      exact ⟨NL.length, h7, isL_app⟩
    · have hi2 : isF NL L i := (isF_app.mp hi_z).resolve_right (fun h_z => hL h_z.2.1)
      obtain ⟨p, g1, g2⟩ := hF2 i L hi2
      refine ⟨p, ?_, isL_apn g2 hL⟩
      rw [h7b i (fun e => ?_)]
      · exact g1
      · subst e
        obtain ⟨y, b1, b2, -⟩ := hi_z
        obtain ⟨z, c1_z, c2_z, -⟩ := hi0_z
        rw [b1] at c1_z
        cases c1_z
        exact hL (b2.symm.trans c2_z)
  · rcases List.mem_append.mp hy with hy | hy
    · exact hR y hy
    · rw [List.mem_singleton.mp hy]
      exact hr
theorem wyS_old {g : Nat → Int32} {NL : List zRw} {x : zRw} (h_z : wyS g NL) (hx : hasR NL x.1) : wyS g (NL ++ [x]) := by
  obtain ⟨s1, s2, occ, s3, s4⟩ := h_z
  have key : ∀ L i, isF (NL ++ [x]) L i ↔ isF NL L i := fun L i => isF_app.trans ⟨fun h_z => h_z.resolve_right (fun h2 => h2.2.2 hx), Or.inl⟩
  refine ⟨fun p hp => ?_, fun i L hi_z => s2 i L ((key L i).mp hi_z), occ, by rw [List.length_append]; omega, s4⟩
  rcases s1 p hp with h_z | ⟨i, L, h1, h2⟩
  · exact Or.inl h_z
  · exact Or.inr ⟨i, L, h1, (key L i).mpr h2⟩
theorem wyS_new {f : Nat → Nat → Int32} {b p : Nat} {v : Int32} {NL : List zRw} {x : zRw} (h_z : wyS (f b) NL) (hx : ¬ hasR NL x.1) (hp : p < 2048) (hv : v.toInt = (NL.length : Nat)) (he : (f b p).toInt = -1) (ht : ∃ t, t < 2048 ∧ p = (hsW (lyKey x.1) + t) % 2048 ∧ ∀ s, s < t → (f b ((hsW (lyKey x.1) + s) % 2048)).toInt ≠ -1) : wyS (zu f b p v b) (NL ++ [x]) := by
  obtain ⟨s1, s2, occ, s3, s4⟩ := h_z
  have hz : ∀ q, zu f b p v b q = if q = p then v else f b q := fun q => by rw [zu_s2]
  have hnn : ∀ q, (f b q).toInt ≠ -1 → (zu f b p v b q).toInt ≠ -1 := by
    intro q hq
    rw [hz]
    split
    · omega
    · exact hq
  refine ⟨fun q hq => ?_, fun i L hi_z => ?_, p :: occ, by rw [List.length_cons, List.length_append]; simp; omega, fun q hq hne => ?_⟩
  · rw [hz]
    split
    · exact Or.inr ⟨NL.length, x.1, hv, isF_app.mpr (Or.inr ⟨rfl, rfl, hx⟩)⟩
    · rcases s1 q hq with h_z | ⟨i, L, h1, h2⟩
      · exact Or.inl h_z
      · exact Or.inr ⟨i, L, h1, isF_app.mpr (Or.inl h2)⟩
  · rcases isF_app.mp hi_z with h_z | ⟨e1_z, e2_z, -⟩
    · obtain ⟨t, t1, t2, t3⟩ := s2 i L h_z
      refine ⟨t, t1, ?_, fun s hs => hnn _ (t3 s hs)⟩
      rw [hz, if_neg (fun e => by rw [e, he] at t2; omega)]
      exact t2
    · obtain ⟨t, t1, t2, t3⟩ := ht
      subst e2_z
      exact ⟨t, t1, by rw [← t2, hz, if_pos rfl, e1_z]; exact hv, fun s hs => hnn _ (t3 s hs)⟩
  · rw [hz] at hne
    by_cases e : q = p
    · rw [e]
      exact List.mem_cons_self
    · rw [if_neg e] at hne
      exact List.mem_cons_of_mem _ (s4 q hq hne)
/-- unchanged by the list's growing -/
def ofW (f f2_z : Nat → Nat → Int32) (a : Nat) : Prop := ∀ q, (q < a ∨ q = a + 8 ∨ a + 18 ≤ q) → f2_z q = f q
theorem ofW_rf {f : Nat → Nat → Int32} {a : Nat} : ofW f f a := fun _ _ => rfl
theorem ofW_tr {f f2_z f3_z : Nat → Nat → Int32} {a : Nat} (h_z : ofW f f2_z a) (h2 : ofW f2_z f3_z a) : ofW f f3_z a := fun q hq => (h2 q hq).trans (h_z q hq)
theorem ofW_zu {f f2_z : Nat → Nat → Int32} {a b i : Nat} {x : Int32} (h_z : ofW f f2_z a) (hb_z : a ≤ b ∧ b < a + 18 ∧ b ≠ a + 8) : ofW f (zu f2_z b i x) a := fun q hq => (zu_ne (by omega)).trans (h_z q hq)
theorem ofW_R {f f2_z : Nat → Nat → Int32} {a b n : Nat} (h_z : ofR f f2_z b n) (hb_z : a + 9 ≤ b ∧ b + n ≤ a + 18) : ofW f f2_z a := fun q hq => h_z q (by omega)
def ofA (f f2_z : Nat → Nat → Int32) (a : Nat) : Prop := ∀ q, (q < a ∨ q = a + 8 ∨ a + 10 ≤ q) → f2_z q = f q
theorem ofA_rf {f : Nat → Nat → Int32} {a : Nat} : ofA f f a := fun _ _ => rfl
theorem ofA_tr {f f2_z f3_z : Nat → Nat → Int32} {a : Nat} (h_z : ofA f f2_z a) (h2 : ofA f2_z f3_z a) : ofA f f3_z a := fun q hq => (h2 q hq).trans (h_z q hq)
theorem ofA_zu {f f2_z : Nat → Nat → Int32} {a b i : Nat} {x : Int32} (h_z : ofA f f2_z a) (hb_z : a ≤ b ∧ b < a + 10 ∧ b ≠ a + 8) : ofA f (zu f2_z b i x) a := fun q hq => (zu_ne (by omega)).trans (h_z q hq)
theorem ofA_W {f f2_z : Nat → Nat → Int32} {a : Nat} (h_z : ofA f f2_z a) : ofW f f2_z a := fun q hq => h_z q (by omega)
theorem hasR_app {A B : List zRw} {L : zLy} : hasR (A ++ B) L ↔ hasR A L ∨ hasR B L := by
  constructor
  · rintro ⟨z, hz, e⟩
    exact (List.mem_append.mp hz).imp (fun h_z => ⟨z, h_z, e⟩) (fun h_z => ⟨z, h_z, e⟩)
  · rintro (⟨z, hz, e⟩ | ⟨z, hz, e⟩)
    · exact ⟨z, List.mem_append_left _ hz, e⟩
    · exact ⟨z, List.mem_append_right _ hz, e⟩
theorem ctWy_rest {f f2_z : Nat → Nat → Int32} {a n : Nat} {NL : List zRw} (h_z : ctWy f a n NL) (e : ∀ r, r ≤ 9 → r ≠ 8 → f2_z (a + r) = f (a + r)) : ctWy f2_z a n NL := by
  have e0_z : f2_z a = f a := e 0 (by decide) (by decide)
  unfold ctWy wyA wyN wyF at *
  rw [e0_z, e 1 (by decide) (by decide), e 2 (by decide) (by decide), e 3 (by decide) (by decide), e 4 (by decide) (by decide), e 5 (by decide) (by decide), e 6 (by decide) (by decide), e 7 (by decide) (by decide), e 9 (by decide) (by decide)]
  exact h_z
set_option maxHeartbeats 4000000 in
set_option maxRecDepth 100000 in
theorem s_X9_add {g : zGT} {w : zW} {f : Nat → Nat → Int32} {j : Nat → Nat → Int64} {a : Nat} {n q d : Nat} {x y v : Int32} {L : zLy} {A B : List zRw} {z : zRw} {Q : Option Value → zW → Prop} {QX : String → zW → Prop} (G : zGok g) (hs : shWy w a) (hc_z : ctWy f a n (A ++ B)) (hA : ∀ y ∈ A, y.2.1.length < z.2.1.length + 1) (hB_z : ∀ y ∈ B, y.2.1.length = z.2.1.length + 1) (hD : ∀ (i k : Nat) (y u : zRw), B[i]? = some y → B[k]? = some u → y.1 = u.1 → i = k) (hr : rch n L) (hx : x = lyKey L) (hq : (A ++ B)[q]? = some z) (hy : y.toInt = (q : Nat)) (hd_z : v.toInt = (d : Nat)) (hroom : (A ++ B).length < 1024 ∨ hasR B L) (hcb : ∀ y ∈ B, y.2.2 + z.2.2 < 2147483648) (hz31 : z.2.2 < 2147483648) (hz9 : z.2.1.length ≤ 10) (hQ : ∀ f2_z, ofA f f2_z a → f2_z a 11 = f a 11 → ctWy f2_z a n (A ++ insR B (L, z.2.1 ++ [d], z.2.2)) → Q none (zM w f2_z j)) : zC g 4 yX9_add cX9_add 10 none [.ref a, .int x, .int y, .int v] (zM w f j) (0, 0) Q QX := by
  refine zC_of G (by decide +kernel) (Nat.le_of_ble_eq_true rfl) ?_
  have hc0 := hc_z
  obtain ⟨⟨a1, a2, a3, a4⟩, hN_z, ⟨hF1, hF2⟩, hS_z, hR⟩ := hc0
  have hql := (List.getElem?_eq_some_iff.mp hq).1
  obtain ⟨m1_z, m2_z, m3_z, -⟩ := hN_z q z hq
  have hq10 : q < 1024 := by omega
  by_cases hBL : hasR B L
  · have hhas : hasR (A ++ B) L := hasR_app.mpr (Or.inr hBL)
    obtain ⟨i0_z, hi0_z⟩ := isF_ex hhas
    obtain ⟨pl, hpl1, yl, hyl1, hyl2, hyl3⟩ := hF2 i0_z L hi0_z
    have hi0l : i0_z < (A ++ B).length := by obtain ⟨u, hu, -⟩ := hi0_z; exact (List.getElem?_eq_some_iff.mp hu).1
    have hpll := (List.getElem?_eq_some_iff.mp hyl1).1
    obtain ⟨t, u, ht1, ht2, ht3⟩ := insR_upd (x := (L, z.2.1 ++ [d], z.2.2)) hBL
    have htl := (List.getElem?_eq_some_iff.mp ht1).1
    rw [List.length_append] at hpll hi0l
    have hpe : pl = A.length + t := by
      have hge : A.length + t ≤ pl := by
        rcases Nat.lt_or_ge pl (A.length + t) with h9 | h9
        · exact absurd ht2 (hyl3 (A.length + t) u h9 (by rw [List.getElem?_append_right (by omega), show A.length + t - A.length = t by omega]; exact ht1))
        · exact h9
      have hyb : B[pl - A.length]? = some yl := by rw [← hyl1, List.getElem?_append_right (by omega)]
      have := hD _ _ _ _ hyb ht1 (hyl2.trans ht2.symm)
      omega
    have hyu : yl = u := by rw [hpe, List.getElem?_append_right (by omega), show A.length + t - A.length = t by omega, ht1] at hyl1; exact (Option.some.inj hyl1).symm
    have hub := List.mem_of_getElem? ht1
    have hcu := hcb u hub
    have hdu := hB_z u hub
    rw [List.length_append] at a3 a1
    refine r_aloadR0 dX9_add_0 ?_
    refine r_iload1 dX9_add_1 ?_
    refine q_callV1 zm_RX9_91 dX9_add_2 (shWy_k hs) (by decide) rfl (Nat.le_of_ble_eq_true rfl) (Nat.le_of_ble_eq_true rfl) (Nat.le_of_ble_eq_true rfl) (Nat.le_of_ble_eq_true rfl) (Nat.le_of_ble_eq_true rfl) (s_X9_slotOf G hs hc_z hr hx (fun r2 p e2_z hp2 hpr hab => ?_))
    refine r_istore4 dX9_add_5 rfl ?_
    refine r_aloadR0 dX9_add_7 ?_
    refine m_getR (q := (a + 9)) zf_RX9_36 rfl dX9_add_8 (shWy_k hs) (shWy_p9 hs) ?_
    refine r_iload4 dX9_add_11 ?_
    refine q_callS2 zm_RX9_94 dX9_add_13 (Nat.le_of_ble_eq_true rfl) (Nat.le_of_ble_eq_true rfl) (Nat.le_of_ble_eq_true rfl) (Nat.le_of_ble_eq_true rfl) (Nat.le_of_ble_eq_true rfl) (s_X9_valueAt G (shWy_k9 hs) (shWy_n9 hs) (by decide) (fun r13 e13_z => ?_))
    have h13 : r13 = f (a + 9) p := by
      rcases e13_z with ⟨p1, p2, p3⟩ | ⟨p1, p2⟩
      · rw [p3, show r2.toInt.toNat = p by omega]
      · exact absurd ⟨by omega, by omega⟩ p1
    have h13v : r13.toInt = (i0_z : Nat) := by rw [h13]; exact hpr i0_z hi0_z
    refine r_istore5 dX9_add_16 rfl ?_
    refine r_iload2 dX9_add_18 ?_
    refine n_iconst dX9_add_19 (by decide) (fun r19 e19_z => ?_)
    refine t_icne (t := 27) dX9_add_20 (by decide) (fun h20 => ?_) (fun h20 => False.elim (by omega))
    refine r_aloadR0 dX9_add_27 ?_
    refine r_iload2 dX9_add_28 ?_
    refine q_callV1 zm_RX9_98 dX9_add_29 (shWy_k hs) (by decide) rfl (Nat.le_of_ble_eq_true rfl) (Nat.le_of_ble_eq_true rfl) (Nat.le_of_ble_eq_true rfl) (Nat.le_of_ble_eq_true rfl) (Nat.le_of_ble_eq_true rfl) (s_X9_depthOf G hs hy (by omega) (fun r29 e29 => ?_))
    have h29 : r29.toInt = (z.2.1.length : Nat) := by rw [e29]; exact m2_z
    refine n_iconst dX9_add_32 (by decide) (fun r32 e32 => ?_)
    refine n_iadd dX9_add_33 (by omega) (fun r33 e33_z => ?_)
    refine r_istore6 dX9_add_34 rfl ?_
    refine r_iload2 dX9_add_36 ?_
    refine n_iconst dX9_add_37 (by decide) (fun r37 e37 => ?_)
    refine t_icne (t := 45) dX9_add_38 (by decide) (fun h38 => ?_) (fun h38 => False.elim (by omega))
    refine r_aloadR0 dX9_add_45 ?_
    refine r_iload2 dX9_add_46 ?_
    refine q_callV1 zm_RX9_101 dX9_add_47 (shWy_k hs) (by decide) rfl (Nat.le_of_ble_eq_true rfl) (Nat.le_of_ble_eq_true rfl) (Nat.le_of_ble_eq_true rfl) (Nat.le_of_ble_eq_true rfl) (Nat.le_of_ble_eq_true rfl) (s_X9_rowsTo G hs hy (by omega) (fun r47 e47 => ?_))
    have h47 : r47.toInt = (z.2.2 : Nat) := by rw [e47]; exact m3_z
    refine r_istore7 dX9_add_50 rfl ?_
    refine r_iload5 dX9_add_52 ?_
    refine n_iconst dX9_add_54 (by decide) (fun r54 e54 => ?_)
    refine t_icne (t := 62) dX9_add_55 (by decide) (fun h55 => ?_) (fun h55 => False.elim (by omega))
    refine r_aloadR0 dX9_add_62 ?_
    refine m_getR (q := (a + 7)) zf_RX9_30 rfl dX9_add_63 (shWy_k hs) (shWy_p7 hs) ?_
    refine r_iload5 dX9_add_66 ?_
    refine q_callS2 zm_RX9_94 dX9_add_68 (Nat.le_of_ble_eq_true rfl) (Nat.le_of_ble_eq_true rfl) (Nat.le_of_ble_eq_true rfl) (Nat.le_of_ble_eq_true rfl) (Nat.le_of_ble_eq_true rfl) (s_X9_valueAt G (shWy_k7 hs) (shWy_n7 hs) (by decide) (fun r68 e68 => ?_))
    have h68 : r68.toInt = (pl : Nat) := by
      rcases e68 with ⟨p1, p2, p3⟩ | ⟨p1, p2⟩
      · rw [p3, show r13.toInt.toNat = i0_z by omega]; exact hpl1
      · exact absurd ⟨by omega, by omega⟩ p1
    refine r_istore8 dX9_add_71 rfl ?_
    refine r_iload8 dX9_add_73 ?_
    refine n_iconst dX9_add_75 (by decide) (fun r75 e75 => ?_)
    refine t_iceq (t := 109) dX9_add_76 (by decide) (fun h76 => False.elim (by omega)) (fun h76 => ?_)
    refine r_aloadR0 dX9_add_79 ?_
    refine r_iload8 dX9_add_80 ?_
    refine q_callV1 zm_RX9_98 dX9_add_82 (shWy_k hs) (by decide) rfl (Nat.le_of_ble_eq_true rfl) (Nat.le_of_ble_eq_true rfl) (Nat.le_of_ble_eq_true rfl) (Nat.le_of_ble_eq_true rfl) (Nat.le_of_ble_eq_true rfl) (s_X9_depthOf G hs h68 (by omega) (fun r82 e82 => ?_))
    have h82 : r82.toInt = (yl.2.1.length : Nat) := by rw [e82]; exact (hN_z pl yl hyl1).2.1
    refine r_iload6 dX9_add_85 ?_
    refine t_icne (t := 109) dX9_add_87 (by decide) (fun h87 => False.elim (by rw [hyu] at h82; omega)) (fun h87 => ?_)
    refine r_aloadR0 dX9_add_90 ?_
    refine m_getR (q := (a + 5)) zf_RX9_24 rfl dX9_add_91 (shWy_k hs) (shWy_p5 hs) ?_
    refine r_iload8 dX9_add_94 ?_
    refine r_aloadR0 dX9_add_96 ?_
    refine r_iload8 dX9_add_97 ?_
    refine q_callV1 zm_RX9_101 dX9_add_99 (shWy_k hs) (by decide) rfl (Nat.le_of_ble_eq_true rfl) (Nat.le_of_ble_eq_true rfl) (Nat.le_of_ble_eq_true rfl) (Nat.le_of_ble_eq_true rfl) (Nat.le_of_ble_eq_true rfl) (s_X9_rowsTo G hs h68 (by omega) (fun r99 e99_z => ?_))
    have h99 : r99.toInt = (u.2.2 : Nat) := by rw [e99_z, ← hyu]; exact (hN_z pl yl hyl1).2.2.1
    refine r_iload7 dX9_add_102 ?_
    refine n_iadd dX9_add_104 (by omega) (fun r104 e104_z => ?_)
    refine q_callS3 zm_RX9_104 dX9_add_105 (Nat.le_of_ble_eq_true rfl) (Nat.le_of_ble_eq_true rfl) (Nat.le_of_ble_eq_true rfl) (Nat.le_of_ble_eq_true rfl) (Nat.le_of_ble_eq_true rfl) (s_X9_put (k := pl) G (shWy_k5 hs) (shWy_n5 hs) (by decide) h68 (by omega) (fun f2_z hf2 => ?_))
    refine r_vret dX9_add_108 rfl (Nat.le_of_ble_eq_true rfl) (Nat.le_of_ble_eq_true rfl) ?_
    subst hf2
    refine hQ _ (ofA_zu ofA_rf (by omega)) (by rw [zu_ne2 (by omega)]) ?_
    have hw := wy_cnt (c := z.2.2) (v := r104) hc_z (hyu ▸ hyl1) (by omega)
    rw [hpe, List.set_append_right _ _ (by omega), show A.length + t - A.length = t by omega, ← ht3, ← hpe] at hw
    exact hw
  · have hl := hroom.resolve_right hBL
    have hins : A ++ insR B (L, z.2.1 ++ [d], z.2.2) = (A ++ B) ++ [(L, z.2.1 ++ [d], z.2.2)] := by rw [insR_no hBL, List.append_assoc]
    rw [hins] at hQ
    by_cases hAL : hasR A L
    · have hhas : hasR (A ++ B) L := hasR_app.mpr (Or.inl hAL)
      obtain ⟨i0_z, hi0_z⟩ := isF_ex hhas
      obtain ⟨pl, hpl1, yl, hyl1, hyl2, hyl3⟩ := hF2 i0_z L hi0_z
      have hi0l : i0_z < (A ++ B).length := by obtain ⟨u, hu, -⟩ := hi0_z; exact (List.getElem?_eq_some_iff.mp hu).1
      have hpll := (List.getElem?_eq_some_iff.mp hyl1).1
      have hylA : yl ∈ A := by
        rcases List.mem_append.mp (List.mem_of_getElem? hyl1) with h9 | h9
        · exact h9
        · exact absurd ⟨yl, h9, hyl2⟩ hBL
      have hdl := hA yl hylA
      refine r_aloadR0 dX9_add_0 ?_
      refine r_iload1 dX9_add_1 ?_
      refine q_callV1 zm_RX9_91 dX9_add_2 (shWy_k hs) (by decide) rfl (Nat.le_of_ble_eq_true rfl) (Nat.le_of_ble_eq_true rfl) (Nat.le_of_ble_eq_true rfl) (Nat.le_of_ble_eq_true rfl) (Nat.le_of_ble_eq_true rfl) (s_X9_slotOf G hs hc_z hr hx (fun r2 p e2_z hp2 hpr hab => ?_))
      refine r_istore4 dX9_add_5 rfl ?_
      refine r_aloadR0 dX9_add_7 ?_
      refine m_getR (q := (a + 9)) zf_RX9_36 rfl dX9_add_8 (shWy_k hs) (shWy_p9 hs) ?_
      refine r_iload4 dX9_add_11 ?_
      refine q_callS2 zm_RX9_94 dX9_add_13 (Nat.le_of_ble_eq_true rfl) (Nat.le_of_ble_eq_true rfl) (Nat.le_of_ble_eq_true rfl) (Nat.le_of_ble_eq_true rfl) (Nat.le_of_ble_eq_true rfl) (s_X9_valueAt G (shWy_k9 hs) (shWy_n9 hs) (by decide) (fun r13 e13_z => ?_))
      have h13 : r13 = f (a + 9) p := by
        rcases e13_z with ⟨p1, p2, p3⟩ | ⟨p1, p2⟩
        · rw [p3, show r2.toInt.toNat = p by omega]
        · exact absurd ⟨by omega, by omega⟩ p1
      have h13v : r13.toInt = (i0_z : Nat) := by rw [h13]; exact hpr i0_z hi0_z
      refine r_istore5 dX9_add_16 rfl ?_
      refine r_iload2 dX9_add_18 ?_
      refine n_iconst dX9_add_19 (by decide) (fun r19 e19_z => ?_)
      refine t_icne (t := 27) dX9_add_20 (by decide) (fun h20 => ?_) (fun h20 => False.elim (by omega))
      refine r_aloadR0 dX9_add_27 ?_
      refine r_iload2 dX9_add_28 ?_
      refine q_callV1 zm_RX9_98 dX9_add_29 (shWy_k hs) (by decide) rfl (Nat.le_of_ble_eq_true rfl) (Nat.le_of_ble_eq_true rfl) (Nat.le_of_ble_eq_true rfl) (Nat.le_of_ble_eq_true rfl) (Nat.le_of_ble_eq_true rfl) (s_X9_depthOf G hs hy (by omega) (fun r29 e29 => ?_))
      have h29 : r29.toInt = (z.2.1.length : Nat) := by rw [e29]; exact m2_z
      refine n_iconst dX9_add_32 (by decide) (fun r32 e32 => ?_)
      refine n_iadd dX9_add_33 (by omega) (fun r33 e33_z => ?_)
      refine r_istore6 dX9_add_34 rfl ?_
      refine r_iload2 dX9_add_36 ?_
      refine n_iconst dX9_add_37 (by decide) (fun r37 e37 => ?_)
      refine t_icne (t := 45) dX9_add_38 (by decide) (fun h38 => ?_) (fun h38 => False.elim (by omega))
      refine r_aloadR0 dX9_add_45 ?_
      refine r_iload2 dX9_add_46 ?_
      refine q_callV1 zm_RX9_101 dX9_add_47 (shWy_k hs) (by decide) rfl (Nat.le_of_ble_eq_true rfl) (Nat.le_of_ble_eq_true rfl) (Nat.le_of_ble_eq_true rfl) (Nat.le_of_ble_eq_true rfl) (Nat.le_of_ble_eq_true rfl) (s_X9_rowsTo G hs hy (by omega) (fun r47 e47 => ?_))
      have h47 : r47.toInt = (z.2.2 : Nat) := by rw [e47]; exact m3_z
      refine r_istore7 dX9_add_50 rfl ?_
      refine r_iload5 dX9_add_52 ?_
      refine n_iconst dX9_add_54 (by decide) (fun r54 e54 => ?_)
      refine t_icne (t := 62) dX9_add_55 (by decide) (fun h55 => ?_) (fun h55 => False.elim (by omega))
      refine r_aloadR0 dX9_add_62 ?_
      refine m_getR (q := (a + 7)) zf_RX9_30 rfl dX9_add_63 (shWy_k hs) (shWy_p7 hs) ?_
      refine r_iload5 dX9_add_66 ?_
      refine q_callS2 zm_RX9_94 dX9_add_68 (Nat.le_of_ble_eq_true rfl) (Nat.le_of_ble_eq_true rfl) (Nat.le_of_ble_eq_true rfl) (Nat.le_of_ble_eq_true rfl) (Nat.le_of_ble_eq_true rfl) (s_X9_valueAt G (shWy_k7 hs) (shWy_n7 hs) (by decide) (fun r68 e68 => ?_))
      have h68 : r68.toInt = (pl : Nat) := by
        rcases e68 with ⟨p1, p2, p3⟩ | ⟨p1, p2⟩
        · rw [p3, show r13.toInt.toNat = i0_z by omega]; exact hpl1
        · exact absurd ⟨by omega, by omega⟩ p1
      refine r_istore8 dX9_add_71 rfl ?_
      refine r_iload8 dX9_add_73 ?_
      refine n_iconst dX9_add_75 (by decide) (fun r75 e75 => ?_)
      refine t_iceq (t := 109) dX9_add_76 (by decide) (fun h76 => False.elim (by omega)) (fun h76 => ?_)
      refine r_aloadR0 dX9_add_79 ?_
      refine r_iload8 dX9_add_80 ?_
      refine q_callV1 zm_RX9_98 dX9_add_82 (shWy_k hs) (by decide) rfl (Nat.le_of_ble_eq_true rfl) (Nat.le_of_ble_eq_true rfl) (Nat.le_of_ble_eq_true rfl) (Nat.le_of_ble_eq_true rfl) (Nat.le_of_ble_eq_true rfl) (s_X9_depthOf G hs h68 (by omega) (fun r82 e82 => ?_))
      have h82 : r82.toInt = (yl.2.1.length : Nat) := by rw [e82]; exact (hN_z pl yl hyl1).2.1
      refine r_iload6 dX9_add_85 ?_
      refine t_icne (t := 109) dX9_add_87 (by decide) (fun h87 => ?_) (fun h87 => False.elim (by omega))
      refine r_aloadR0 dX9_add_109 ?_
      refine m_getV (x := (f a 12)) zf_RX9_53 rfl dX9_add_110 (shWy_k hs) (rfl) ?_
      refine t_iflt (t := 126) dX9_add_113 (by decide) (fun h113 => False.elim (by omega)) (fun h113 => ?_)
      refine r_aloadR0 dX9_add_116 ?_
      refine m_getV (x := (f a 12)) zf_RX9_53 rfl dX9_add_117 (shWy_k hs) (rfl) ?_
      refine n_sipush dX9_add_120 (by decide) (fun r120 e120_z => ?_)
      refine t_iclt (t := 127) dX9_add_123 (by decide) (fun h123 => ?_) (fun h123 => False.elim (by omega))
      refine r_aloadR0 dX9_add_127 ?_
      refine m_getV (x := (f a 12)) zf_RX9_53 rfl dX9_add_128 (shWy_k hs) (rfl) ?_
      refine r_istore9 dX9_add_131 rfl ?_
      refine r_aloadR0 dX9_add_133 ?_
      refine r_dup dX9_add_134 rfl ?_
      refine m_getV (x := (f a 12)) zf_RX9_53 rfl dX9_add_135 (shWy_k hs) (rfl) ?_
      refine n_iconst dX9_add_138 (by decide) (fun r138 e138 => ?_)
      refine n_iadd dX9_add_139 (by omega) (fun r139 e139 => ?_)
      refine m_putI zf_RX9_53 (by intro C T N h_z; cases h_z; rfl) rfl dX9_add_140 (shWy_k hs) ?_
      refine r_aloadR0 dX9_add_143 ?_
      refine m_getR (q := (a + 1)) zf_RX9_11 rfl dX9_add_144 (shWy_k hs) (shWy_p1 hs) ?_
      refine r_iload9 dX9_add_147 ?_
      refine r_iload1 dX9_add_149 ?_
      refine q_callS3 zm_RX9_104 dX9_add_150 (Nat.le_of_ble_eq_true rfl) (Nat.le_of_ble_eq_true rfl) (Nat.le_of_ble_eq_true rfl) (Nat.le_of_ble_eq_true rfl) (Nat.le_of_ble_eq_true rfl) (s_X9_put (k := (A ++ B).length) G (shWy_k1 hs) (shWy_n1 hs) (by decide) a1 (by omega) (fun g0y hg0 => ?_))
      refine r_aloadR0 dX9_add_153 ?_
      refine m_getR (q := (a + 2)) zf_RX9_15 rfl dX9_add_154 (shWy_k hs) (shWy_p2 hs) ?_
      refine r_iload9 dX9_add_157 ?_
      refine r_iload2 dX9_add_159 ?_
      refine q_callS3 zm_RX9_104 dX9_add_160 (Nat.le_of_ble_eq_true rfl) (Nat.le_of_ble_eq_true rfl) (Nat.le_of_ble_eq_true rfl) (Nat.le_of_ble_eq_true rfl) (Nat.le_of_ble_eq_true rfl) (s_X9_put (k := (A ++ B).length) G (shWy_k2 hs) (shWy_n2 hs) (by decide) a1 (by omega) (fun g1y hg1 => ?_))
      refine r_aloadR0 dX9_add_163 ?_
      refine m_getR (q := (a + 3)) zf_RX9_18 rfl dX9_add_164 (shWy_k hs) (shWy_p3 hs) ?_
      refine r_iload9 dX9_add_167 ?_
      refine r_iload3 dX9_add_169 ?_
      refine q_callS3 zm_RX9_104 dX9_add_170 (Nat.le_of_ble_eq_true rfl) (Nat.le_of_ble_eq_true rfl) (Nat.le_of_ble_eq_true rfl) (Nat.le_of_ble_eq_true rfl) (Nat.le_of_ble_eq_true rfl) (s_X9_put (k := (A ++ B).length) G (shWy_k3 hs) (shWy_n3 hs) (by decide) a1 (by omega) (fun g2y hg2 => ?_))
      refine r_aloadR0 dX9_add_173 ?_
      refine m_getR (q := (a + 4)) zf_RX9_21 rfl dX9_add_174 (shWy_k hs) (shWy_p4 hs) ?_
      refine r_iload9 dX9_add_177 ?_
      refine r_iload6 dX9_add_179 ?_
      refine q_callS3 zm_RX9_104 dX9_add_181 (Nat.le_of_ble_eq_true rfl) (Nat.le_of_ble_eq_true rfl) (Nat.le_of_ble_eq_true rfl) (Nat.le_of_ble_eq_true rfl) (Nat.le_of_ble_eq_true rfl) (s_X9_put (k := (A ++ B).length) G (shWy_k4 hs) (shWy_n4 hs) (by decide) a1 (by omega) (fun g3y hg3 => ?_))
      refine r_aloadR0 dX9_add_184 ?_
      refine m_getR (q := (a + 5)) zf_RX9_24 rfl dX9_add_185 (shWy_k hs) (shWy_p5 hs) ?_
      refine r_iload9 dX9_add_188 ?_
      refine r_iload7 dX9_add_190 ?_
      refine q_callS3 zm_RX9_104 dX9_add_192 (Nat.le_of_ble_eq_true rfl) (Nat.le_of_ble_eq_true rfl) (Nat.le_of_ble_eq_true rfl) (Nat.le_of_ble_eq_true rfl) (Nat.le_of_ble_eq_true rfl) (s_X9_put (k := (A ++ B).length) G (shWy_k5 hs) (shWy_n5 hs) (by decide) a1 (by omega) (fun g4y hg4 => ?_))
      refine r_aloadR0 dX9_add_195 ?_
      refine m_getR (q := (a + 6)) zf_RX9_27 rfl dX9_add_196 (shWy_k hs) (shWy_p6 hs) ?_
      refine r_iload9 dX9_add_199 ?_
      refine r_iload5 dX9_add_201 ?_
      refine n_iconst dX9_add_203 (by decide) (fun r203 e203 => ?_)
      refine t_icne (t := 212) dX9_add_204 (by decide) (fun h204 => ?_) (fun h204 => False.elim (by omega))
      refine r_iload5 dX9_add_212 ?_
      refine q_callS3 zm_RX9_104 dX9_add_214 (Nat.le_of_ble_eq_true rfl) (Nat.le_of_ble_eq_true rfl) (Nat.le_of_ble_eq_true rfl) (Nat.le_of_ble_eq_true rfl) (Nat.le_of_ble_eq_true rfl) (s_X9_put (k := (A ++ B).length) G (shWy_k6 hs) (shWy_n6 hs) (by decide) a1 (by omega) (fun g5y hg5 => ?_))
      refine r_aloadR0 dX9_add_217 ?_
      refine m_getR (q := (a + 7)) zf_RX9_30 rfl dX9_add_218 (shWy_k hs) (shWy_p7 hs) ?_
      refine r_iload5 dX9_add_221 ?_
      refine n_iconst dX9_add_223 (by decide) (fun r223 e223 => ?_)
      refine t_icne (t := 232) dX9_add_224 (by decide) (fun h224 => ?_) (fun h224 => False.elim (by omega))
      refine r_iload5 dX9_add_232 ?_
      refine r_iload9 dX9_add_234 ?_
      refine q_callS3 zm_RX9_104 dX9_add_236 (Nat.le_of_ble_eq_true rfl) (Nat.le_of_ble_eq_true rfl) (Nat.le_of_ble_eq_true rfl) (Nat.le_of_ble_eq_true rfl) (Nat.le_of_ble_eq_true rfl) (s_X9_put (k := i0_z) G (shWy_k7 hs) (shWy_n7 hs) (by decide) h13v (by omega) (fun g6y hg6 => ?_))
      refine r_iload5 dX9_add_239 ?_
      refine n_iconst dX9_add_241 (by decide) (fun r241 e241 => ?_)
      refine t_icne (t := 256) dX9_add_242 (by decide) (fun h242 => ?_) (fun h242 => False.elim (by omega))
      refine r_vret dX9_add_256 rfl (Nat.le_of_ble_eq_true rfl) (Nat.le_of_ble_eq_true rfl) ?_
      refine hQ g6y ?_ (by rw [hg6, zu_ne2 (by omega), hg5, zu_ne2 (by omega), hg4, zu_ne2 (by omega), hg3, zu_ne2 (by omega), hg2, zu_ne2 (by omega), hg1, zu_ne2 (by omega), hg0, zu_ne2 (by omega), zu_ni (by decide)]) ?_
      · rw [hg6, hg5, hg4, hg3, hg2, hg1, hg0]; exact ofA_zu (ofA_zu (ofA_zu (ofA_zu (ofA_zu (ofA_zu (ofA_zu (ofA_zu (ofA_rf) (by omega)) (by omega)) (by omega)) (by omega)) (by omega)) (by omega)) (by omega)) (by omega)
      · refine wy_app (i0_z := i0_z) hc_z hl hr (Or.inr ⟨q, z, d, hq, rfl, ?_, ?_⟩) ?_ ?_ ?_ ?_ ?_ ?_ ?_ (fun i hi_z => ?_) ?_ (fun r h1 h2 i hi_z => ?_) ?_
        · rw [hg6, zu_ne2 (by omega), hg5, zu_ne2 (by omega), hg4, zu_ne2 (by omega), hg3, zu_ne2 (by omega), hg2, zu_ne2 (by omega), hg1, zu_at]; exact hy
        · rw [hg6, zu_ne2 (by omega), hg5, zu_ne2 (by omega), hg4, zu_ne2 (by omega), hg3, zu_ne2 (by omega), hg2, zu_at]; exact hd_z
        · rw [hg6, zu_ne2 (by omega), hg5, zu_ne2 (by omega), hg4, zu_ne2 (by omega), hg3, zu_ne2 (by omega), hg2, zu_ne2 (by omega), hg1, zu_ne2 (by omega), hg0, zu_ne2 (by omega), zu_at]; omega
        · rw [hg6, zu_ne2 (by omega), hg5, zu_ne2 (by omega), hg4, zu_ne2 (by omega), hg3, zu_ne2 (by omega), hg2, zu_ne2 (by omega), hg1, zu_ne2 (by omega), hg0, zu_ne2 (by omega), zu_ni (by decide)]
        · rw [hg6, zu_ne2 (by omega), hg5, zu_ne2 (by omega), hg4, zu_ne2 (by omega), hg3, zu_ne2 (by omega), hg2, zu_ne2 (by omega), hg1, zu_ne2 (by omega), hg0, zu_at]; exact hx
        · rw [hg6, zu_ne2 (by omega), hg5, zu_ne2 (by omega), hg4, zu_ne2 (by omega), hg3, zu_at, List.length_append]; show _ = ((z.2.1.length + 1 : Nat) : Int); omega
        · rw [hg6, zu_ne2 (by omega), hg5, zu_ne2 (by omega), hg4, zu_at]; exact h47
        · rw [hg6, zu_ne2 (by omega), hg5, zu_at]; exact h13v
        · rw [hg6, zu_at]; exact a1
        · rw [hg6, zu_ni (by omega), hg5, zu_ne2 (by omega), hg4, zu_ne2 (by omega), hg3, zu_ne2 (by omega), hg2, zu_ne2 (by omega), hg1, zu_ne2 (by omega), hg0, zu_ne2 (by omega), zu_ne2 (by omega)]
        · exact isF_app.mpr (Or.inl hi0_z)
        · rcases (show r = 1 ∨ r = 2 ∨ r = 3 ∨ r = 4 ∨ r = 5 ∨ r = 6 by omega) with rfl | rfl | rfl | rfl | rfl | rfl
          · rw [hg6, zu_ne2 (by omega), hg5, zu_ne2 (by omega), hg4, zu_ne2 (by omega), hg3, zu_ne2 (by omega), hg2, zu_ne2 (by omega), hg1, zu_ne2 (by omega), hg0, zu_ni (by omega), zu_ne2 (by omega)]
          · rw [hg6, zu_ne2 (by omega), hg5, zu_ne2 (by omega), hg4, zu_ne2 (by omega), hg3, zu_ne2 (by omega), hg2, zu_ne2 (by omega), hg1, zu_ni (by omega), hg0, zu_ne2 (by omega), zu_ne2 (by omega)]
          · rw [hg6, zu_ne2 (by omega), hg5, zu_ne2 (by omega), hg4, zu_ne2 (by omega), hg3, zu_ne2 (by omega), hg2, zu_ni (by omega), hg1, zu_ne2 (by omega), hg0, zu_ne2 (by omega), zu_ne2 (by omega)]
          · rw [hg6, zu_ne2 (by omega), hg5, zu_ne2 (by omega), hg4, zu_ne2 (by omega), hg3, zu_ni (by omega), hg2, zu_ne2 (by omega), hg1, zu_ne2 (by omega), hg0, zu_ne2 (by omega), zu_ne2 (by omega)]
          · rw [hg6, zu_ne2 (by omega), hg5, zu_ne2 (by omega), hg4, zu_ni (by omega), hg3, zu_ne2 (by omega), hg2, zu_ne2 (by omega), hg1, zu_ne2 (by omega), hg0, zu_ne2 (by omega), zu_ne2 (by omega)]
          · rw [hg6, zu_ne2 (by omega), hg5, zu_ni (by omega), hg4, zu_ne2 (by omega), hg3, zu_ne2 (by omega), hg2, zu_ne2 (by omega), hg1, zu_ne2 (by omega), hg0, zu_ne2 (by omega), zu_ne2 (by omega)]
        · rw [show g6y (a + 9) = f (a + 9) by rw [hg6, zu_ne (by omega), hg5, zu_ne (by omega), hg4, zu_ne (by omega), hg3, zu_ne (by omega), hg2, zu_ne (by omega), hg1, zu_ne (by omega), hg0, zu_ne (by omega), zu_ne (by omega)]]; exact wyS_old hS_z hhas
    · have hnh : ¬ hasR (A ++ B) L := fun h_z => (hasR_app.mp h_z).elim hAL hBL
      refine r_aloadR0 dX9_add_0 ?_
      refine r_iload1 dX9_add_1 ?_
      refine q_callV1 zm_RX9_91 dX9_add_2 (shWy_k hs) (by decide) rfl (Nat.le_of_ble_eq_true rfl) (Nat.le_of_ble_eq_true rfl) (Nat.le_of_ble_eq_true rfl) (Nat.le_of_ble_eq_true rfl) (Nat.le_of_ble_eq_true rfl) (s_X9_slotOf G hs hc_z hr hx (fun r2 p e2_z hp2 hpr hab => ?_))
      refine r_istore4 dX9_add_5 rfl ?_
      refine r_aloadR0 dX9_add_7 ?_
      refine m_getR (q := (a + 9)) zf_RX9_36 rfl dX9_add_8 (shWy_k hs) (shWy_p9 hs) ?_
      refine r_iload4 dX9_add_11 ?_
      refine q_callS2 zm_RX9_94 dX9_add_13 (Nat.le_of_ble_eq_true rfl) (Nat.le_of_ble_eq_true rfl) (Nat.le_of_ble_eq_true rfl) (Nat.le_of_ble_eq_true rfl) (Nat.le_of_ble_eq_true rfl) (s_X9_valueAt G (shWy_k9 hs) (shWy_n9 hs) (by decide) (fun r13 e13_z => ?_))
      have h13 : r13 = f (a + 9) p := by
        rcases e13_z with ⟨p1, p2, p3⟩ | ⟨p1, p2⟩
        · rw [p3, show r2.toInt.toNat = p by omega]
        · exact absurd ⟨by omega, by omega⟩ p1
      have h13v : r13.toInt = -1 := by rw [h13]; exact (hab (fun ⟨i, u, h1, h2, _⟩ => hnh ⟨u, List.mem_of_getElem? h1, h2⟩)).1
      refine r_istore5 dX9_add_16 rfl ?_
      refine r_iload2 dX9_add_18 ?_
      refine n_iconst dX9_add_19 (by decide) (fun r19 e19_z => ?_)
      refine t_icne (t := 27) dX9_add_20 (by decide) (fun h20 => ?_) (fun h20 => False.elim (by omega))
      refine r_aloadR0 dX9_add_27 ?_
      refine r_iload2 dX9_add_28 ?_
      refine q_callV1 zm_RX9_98 dX9_add_29 (shWy_k hs) (by decide) rfl (Nat.le_of_ble_eq_true rfl) (Nat.le_of_ble_eq_true rfl) (Nat.le_of_ble_eq_true rfl) (Nat.le_of_ble_eq_true rfl) (Nat.le_of_ble_eq_true rfl) (s_X9_depthOf G hs hy (by omega) (fun r29 e29 => ?_))
      have h29 : r29.toInt = (z.2.1.length : Nat) := by rw [e29]; exact m2_z
      refine n_iconst dX9_add_32 (by decide) (fun r32 e32 => ?_)
      refine n_iadd dX9_add_33 (by omega) (fun r33 e33_z => ?_)
      refine r_istore6 dX9_add_34 rfl ?_
      refine r_iload2 dX9_add_36 ?_
      refine n_iconst dX9_add_37 (by decide) (fun r37 e37 => ?_)
      refine t_icne (t := 45) dX9_add_38 (by decide) (fun h38 => ?_) (fun h38 => False.elim (by omega))
      refine r_aloadR0 dX9_add_45 ?_
      refine r_iload2 dX9_add_46 ?_
      refine q_callV1 zm_RX9_101 dX9_add_47 (shWy_k hs) (by decide) rfl (Nat.le_of_ble_eq_true rfl) (Nat.le_of_ble_eq_true rfl) (Nat.le_of_ble_eq_true rfl) (Nat.le_of_ble_eq_true rfl) (Nat.le_of_ble_eq_true rfl) (s_X9_rowsTo G hs hy (by omega) (fun r47 e47 => ?_))
      have h47 : r47.toInt = (z.2.2 : Nat) := by rw [e47]; exact m3_z
      refine r_istore7 dX9_add_50 rfl ?_
      refine r_iload5 dX9_add_52 ?_
      refine n_iconst dX9_add_54 (by decide) (fun r54 e54 => ?_)
      refine t_icne (t := 62) dX9_add_55 (by decide) (fun h55 => False.elim (by omega)) (fun h55 => ?_)
      refine n_iconst dX9_add_58 (by decide) (fun r58 e58 => ?_)
      refine r_goto (t := 71) dX9_add_59 (by decide) ?_
      refine r_istore8 dX9_add_71 rfl ?_
      refine r_iload8 dX9_add_73 ?_
      refine n_iconst dX9_add_75 (by decide) (fun r75 e75 => ?_)
      refine t_iceq (t := 109) dX9_add_76 (by decide) (fun h76 => ?_) (fun h76 => False.elim (by omega))
      refine r_aloadR0 dX9_add_109 ?_
      refine m_getV (x := (f a 12)) zf_RX9_53 rfl dX9_add_110 (shWy_k hs) (rfl) ?_
      refine t_iflt (t := 126) dX9_add_113 (by decide) (fun h113 => False.elim (by omega)) (fun h113 => ?_)
      refine r_aloadR0 dX9_add_116 ?_
      refine m_getV (x := (f a 12)) zf_RX9_53 rfl dX9_add_117 (shWy_k hs) (rfl) ?_
      refine n_sipush dX9_add_120 (by decide) (fun r120 e120_z => ?_)
      refine t_iclt (t := 127) dX9_add_123 (by decide) (fun h123 => ?_) (fun h123 => False.elim (by omega))
      refine r_aloadR0 dX9_add_127 ?_
      refine m_getV (x := (f a 12)) zf_RX9_53 rfl dX9_add_128 (shWy_k hs) (rfl) ?_
      refine r_istore9 dX9_add_131 rfl ?_
      refine r_aloadR0 dX9_add_133 ?_
      refine r_dup dX9_add_134 rfl ?_
      refine m_getV (x := (f a 12)) zf_RX9_53 rfl dX9_add_135 (shWy_k hs) (rfl) ?_
      refine n_iconst dX9_add_138 (by decide) (fun r138 e138 => ?_)
      refine n_iadd dX9_add_139 (by omega) (fun r139 e139 => ?_)
      refine m_putI zf_RX9_53 (by intro C T N h_z; cases h_z; rfl) rfl dX9_add_140 (shWy_k hs) ?_
      refine r_aloadR0 dX9_add_143 ?_
      refine m_getR (q := (a + 1)) zf_RX9_11 rfl dX9_add_144 (shWy_k hs) (shWy_p1 hs) ?_
      refine r_iload9 dX9_add_147 ?_
      refine r_iload1 dX9_add_149 ?_
      refine q_callS3 zm_RX9_104 dX9_add_150 (Nat.le_of_ble_eq_true rfl) (Nat.le_of_ble_eq_true rfl) (Nat.le_of_ble_eq_true rfl) (Nat.le_of_ble_eq_true rfl) (Nat.le_of_ble_eq_true rfl) (s_X9_put (k := (A ++ B).length) G (shWy_k1 hs) (shWy_n1 hs) (by decide) a1 (by omega) (fun g0y hg0 => ?_))
      refine r_aloadR0 dX9_add_153 ?_
      refine m_getR (q := (a + 2)) zf_RX9_15 rfl dX9_add_154 (shWy_k hs) (shWy_p2 hs) ?_
      refine r_iload9 dX9_add_157 ?_
      refine r_iload2 dX9_add_159 ?_
      refine q_callS3 zm_RX9_104 dX9_add_160 (Nat.le_of_ble_eq_true rfl) (Nat.le_of_ble_eq_true rfl) (Nat.le_of_ble_eq_true rfl) (Nat.le_of_ble_eq_true rfl) (Nat.le_of_ble_eq_true rfl) (s_X9_put (k := (A ++ B).length) G (shWy_k2 hs) (shWy_n2 hs) (by decide) a1 (by omega) (fun g1y hg1 => ?_))
      refine r_aloadR0 dX9_add_163 ?_
      refine m_getR (q := (a + 3)) zf_RX9_18 rfl dX9_add_164 (shWy_k hs) (shWy_p3 hs) ?_
      refine r_iload9 dX9_add_167 ?_
      refine r_iload3 dX9_add_169 ?_
      refine q_callS3 zm_RX9_104 dX9_add_170 (Nat.le_of_ble_eq_true rfl) (Nat.le_of_ble_eq_true rfl) (Nat.le_of_ble_eq_true rfl) (Nat.le_of_ble_eq_true rfl) (Nat.le_of_ble_eq_true rfl) (s_X9_put (k := (A ++ B).length) G (shWy_k3 hs) (shWy_n3 hs) (by decide) a1 (by omega) (fun g2y hg2 => ?_))
      refine r_aloadR0 dX9_add_173 ?_
      refine m_getR (q := (a + 4)) zf_RX9_21 rfl dX9_add_174 (shWy_k hs) (shWy_p4 hs) ?_
      refine r_iload9 dX9_add_177 ?_
      refine r_iload6 dX9_add_179 ?_
      refine q_callS3 zm_RX9_104 dX9_add_181 (Nat.le_of_ble_eq_true rfl) (Nat.le_of_ble_eq_true rfl) (Nat.le_of_ble_eq_true rfl) (Nat.le_of_ble_eq_true rfl) (Nat.le_of_ble_eq_true rfl) (s_X9_put (k := (A ++ B).length) G (shWy_k4 hs) (shWy_n4 hs) (by decide) a1 (by omega) (fun g3y hg3 => ?_))
      refine r_aloadR0 dX9_add_184 ?_
      refine m_getR (q := (a + 5)) zf_RX9_24 rfl dX9_add_185 (shWy_k hs) (shWy_p5 hs) ?_
      refine r_iload9 dX9_add_188 ?_
      refine r_iload7 dX9_add_190 ?_
      refine q_callS3 zm_RX9_104 dX9_add_192 (Nat.le_of_ble_eq_true rfl) (Nat.le_of_ble_eq_true rfl) (Nat.le_of_ble_eq_true rfl) (Nat.le_of_ble_eq_true rfl) (Nat.le_of_ble_eq_true rfl) (s_X9_put (k := (A ++ B).length) G (shWy_k5 hs) (shWy_n5 hs) (by decide) a1 (by omega) (fun g4y hg4 => ?_))
      refine r_aloadR0 dX9_add_195 ?_
      refine m_getR (q := (a + 6)) zf_RX9_27 rfl dX9_add_196 (shWy_k hs) (shWy_p6 hs) ?_
      refine r_iload9 dX9_add_199 ?_
      refine r_iload5 dX9_add_201 ?_
      refine n_iconst dX9_add_203 (by decide) (fun r203 e203 => ?_)
      refine t_icne (t := 212) dX9_add_204 (by decide) (fun h204 => False.elim (by omega)) (fun h204 => ?_)
      refine r_iload9 dX9_add_207 ?_
      refine r_goto (t := 214) dX9_add_209 (by decide) ?_
      refine q_callS3 zm_RX9_104 dX9_add_214 (Nat.le_of_ble_eq_true rfl) (Nat.le_of_ble_eq_true rfl) (Nat.le_of_ble_eq_true rfl) (Nat.le_of_ble_eq_true rfl) (Nat.le_of_ble_eq_true rfl) (s_X9_put (k := (A ++ B).length) G (shWy_k6 hs) (shWy_n6 hs) (by decide) a1 (by omega) (fun g5y hg5 => ?_))
      refine r_aloadR0 dX9_add_217 ?_
      refine m_getR (q := (a + 7)) zf_RX9_30 rfl dX9_add_218 (shWy_k hs) (shWy_p7 hs) ?_
      refine r_iload5 dX9_add_221 ?_
      refine n_iconst dX9_add_223 (by decide) (fun r223 e223 => ?_)
      refine t_icne (t := 232) dX9_add_224 (by decide) (fun h224 => False.elim (by omega)) (fun h224 => ?_)
      refine r_iload9 dX9_add_227 ?_
      refine r_goto (t := 234) dX9_add_229 (by decide) ?_
      refine r_iload9 dX9_add_234 ?_
      refine q_callS3 zm_RX9_104 dX9_add_236 (Nat.le_of_ble_eq_true rfl) (Nat.le_of_ble_eq_true rfl) (Nat.le_of_ble_eq_true rfl) (Nat.le_of_ble_eq_true rfl) (Nat.le_of_ble_eq_true rfl) (s_X9_put (k := (A ++ B).length) G (shWy_k7 hs) (shWy_n7 hs) (by decide) a1 (by omega) (fun g6y hg6 => ?_))
      refine r_iload5 dX9_add_239 ?_
      refine n_iconst dX9_add_241 (by decide) (fun r241 e241 => ?_)
      refine t_icne (t := 256) dX9_add_242 (by decide) (fun h242 => False.elim (by omega)) (fun h242 => ?_)
      refine r_aloadR0 dX9_add_245 ?_
      refine m_getR (q := (a + 9)) zf_RX9_36 rfl dX9_add_246 (shWy_k hs) (shWy_p9 hs) ?_
      refine r_iload4 dX9_add_249 ?_
      refine r_iload9 dX9_add_251 ?_
      refine q_callS3 zm_RX9_104 dX9_add_253 (Nat.le_of_ble_eq_true rfl) (Nat.le_of_ble_eq_true rfl) (Nat.le_of_ble_eq_true rfl) (Nat.le_of_ble_eq_true rfl) (Nat.le_of_ble_eq_true rfl) (s_X9_put (k := p) G (shWy_k9 hs) (shWy_n9 hs) (by decide) e2_z hp2 (fun g7y hg7 => ?_))
      refine r_vret dX9_add_256 rfl (Nat.le_of_ble_eq_true rfl) (Nat.le_of_ble_eq_true rfl) ?_
      refine hQ g7y ?_ (by rw [hg7, zu_ne2 (by omega), hg6, zu_ne2 (by omega), hg5, zu_ne2 (by omega), hg4, zu_ne2 (by omega), hg3, zu_ne2 (by omega), hg2, zu_ne2 (by omega), hg1, zu_ne2 (by omega), hg0, zu_ne2 (by omega), zu_ni (by decide)]) ?_
      · rw [hg7, hg6, hg5, hg4, hg3, hg2, hg1, hg0]; exact ofA_zu (ofA_zu (ofA_zu (ofA_zu (ofA_zu (ofA_zu (ofA_zu (ofA_zu (ofA_zu (ofA_rf) (by omega)) (by omega)) (by omega)) (by omega)) (by omega)) (by omega)) (by omega)) (by omega)) (by omega)
      · refine wy_app (i0_z := (A ++ B).length) hc_z hl hr (Or.inr ⟨q, z, d, hq, rfl, ?_, ?_⟩) ?_ ?_ ?_ ?_ ?_ ?_ ?_ (fun i hi_z => ?_) ?_ (fun r h1 h2 i hi_z => ?_) ?_
        · rw [hg7, zu_ne2 (by omega), hg6, zu_ne2 (by omega), hg5, zu_ne2 (by omega), hg4, zu_ne2 (by omega), hg3, zu_ne2 (by omega), hg2, zu_ne2 (by omega), hg1, zu_at]; exact hy
        · rw [hg7, zu_ne2 (by omega), hg6, zu_ne2 (by omega), hg5, zu_ne2 (by omega), hg4, zu_ne2 (by omega), hg3, zu_ne2 (by omega), hg2, zu_at]; exact hd_z
        · rw [hg7, zu_ne2 (by omega), hg6, zu_ne2 (by omega), hg5, zu_ne2 (by omega), hg4, zu_ne2 (by omega), hg3, zu_ne2 (by omega), hg2, zu_ne2 (by omega), hg1, zu_ne2 (by omega), hg0, zu_ne2 (by omega), zu_at]; omega
        · rw [hg7, zu_ne2 (by omega), hg6, zu_ne2 (by omega), hg5, zu_ne2 (by omega), hg4, zu_ne2 (by omega), hg3, zu_ne2 (by omega), hg2, zu_ne2 (by omega), hg1, zu_ne2 (by omega), hg0, zu_ne2 (by omega), zu_ni (by decide)]
        · rw [hg7, zu_ne2 (by omega), hg6, zu_ne2 (by omega), hg5, zu_ne2 (by omega), hg4, zu_ne2 (by omega), hg3, zu_ne2 (by omega), hg2, zu_ne2 (by omega), hg1, zu_ne2 (by omega), hg0, zu_at]; exact hx
        · rw [hg7, zu_ne2 (by omega), hg6, zu_ne2 (by omega), hg5, zu_ne2 (by omega), hg4, zu_ne2 (by omega), hg3, zu_at, List.length_append]; show _ = ((z.2.1.length + 1 : Nat) : Int); omega
        · rw [hg7, zu_ne2 (by omega), hg6, zu_ne2 (by omega), hg5, zu_ne2 (by omega), hg4, zu_at]; exact h47
        · rw [hg7, zu_ne2 (by omega), hg6, zu_ne2 (by omega), hg5, zu_at]; exact a1
        · rw [hg7, zu_ne2 (by omega), hg6, zu_at]; exact a1
        · rw [hg7, zu_ne2 (by omega), hg6, zu_ni (by omega), hg5, zu_ne2 (by omega), hg4, zu_ne2 (by omega), hg3, zu_ne2 (by omega), hg2, zu_ne2 (by omega), hg1, zu_ne2 (by omega), hg0, zu_ne2 (by omega), zu_ne2 (by omega)]
        · exact isF_app.mpr (Or.inr ⟨rfl, rfl, hnh⟩)
        · rcases (show r = 1 ∨ r = 2 ∨ r = 3 ∨ r = 4 ∨ r = 5 ∨ r = 6 by omega) with rfl | rfl | rfl | rfl | rfl | rfl
          · rw [hg7, zu_ne2 (by omega), hg6, zu_ne2 (by omega), hg5, zu_ne2 (by omega), hg4, zu_ne2 (by omega), hg3, zu_ne2 (by omega), hg2, zu_ne2 (by omega), hg1, zu_ne2 (by omega), hg0, zu_ni (by omega), zu_ne2 (by omega)]
          · rw [hg7, zu_ne2 (by omega), hg6, zu_ne2 (by omega), hg5, zu_ne2 (by omega), hg4, zu_ne2 (by omega), hg3, zu_ne2 (by omega), hg2, zu_ne2 (by omega), hg1, zu_ni (by omega), hg0, zu_ne2 (by omega), zu_ne2 (by omega)]
          · rw [hg7, zu_ne2 (by omega), hg6, zu_ne2 (by omega), hg5, zu_ne2 (by omega), hg4, zu_ne2 (by omega), hg3, zu_ne2 (by omega), hg2, zu_ni (by omega), hg1, zu_ne2 (by omega), hg0, zu_ne2 (by omega), zu_ne2 (by omega)]
          · rw [hg7, zu_ne2 (by omega), hg6, zu_ne2 (by omega), hg5, zu_ne2 (by omega), hg4, zu_ne2 (by omega), hg3, zu_ni (by omega), hg2, zu_ne2 (by omega), hg1, zu_ne2 (by omega), hg0, zu_ne2 (by omega), zu_ne2 (by omega)]
          · rw [hg7, zu_ne2 (by omega), hg6, zu_ne2 (by omega), hg5, zu_ne2 (by omega), hg4, zu_ni (by omega), hg3, zu_ne2 (by omega), hg2, zu_ne2 (by omega), hg1, zu_ne2 (by omega), hg0, zu_ne2 (by omega), zu_ne2 (by omega)]
          · rw [hg7, zu_ne2 (by omega), hg6, zu_ne2 (by omega), hg5, zu_ni (by omega), hg4, zu_ne2 (by omega), hg3, zu_ne2 (by omega), hg2, zu_ne2 (by omega), hg1, zu_ne2 (by omega), hg0, zu_ne2 (by omega), zu_ne2 (by omega)]
        · have hb9 : g6y (a + 9) = f (a + 9) := by rw [hg6, zu_ne (by omega), hg5, zu_ne (by omega), hg4, zu_ne (by omega), hg3, zu_ne (by omega), hg2, zu_ne (by omega), hg1, zu_ne (by omega), hg0, zu_ne (by omega), zu_ne (by omega)]
          rw [hg7]
          obtain ⟨b1, b2⟩ := hab (fun ⟨i, u, h1, h2, _⟩ => hnh ⟨u, List.mem_of_getElem? h1, h2⟩)
          exact wyS_new (x := (L, z.2.1 ++ [d], z.2.2)) (by rw [hb9]; exact hS_z) hnh hp2 a1 (by rw [hb9]; exact b1) (by rw [hb9]; exact b2)
