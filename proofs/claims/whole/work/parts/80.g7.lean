/-! the reference: rows that give told creases, rows seen -/
def invM (A : Nat) (tr : Int) (ty : Nat → zTy) (p : zLy → Bool) (f : Nat → Nat → Int32) (j : Nat → Nat → Int64) (ps : List zRo) : Prop := (f A 28).toInt = 11 ∧ (f A 33).toInt = tr ∧ (f A 30).toInt = (ps.countP (fun y => p y.1) : Nat) ∧ (∀ t, t < 4 → ctTm f j A t (ty t)) ∧ (ps.find? (fun y => p y.1) = none → (f A 32).toInt = 0) ∧ ∀ z, ps.find? (fun y => p y.1) = some z → (f A 32).toInt = (z.2.length : Nat) ∧ ∀ i e, z.2[i]? = some e → (f (A + 12) i).toInt = ((e : Nat) : Int)
theorem invM_iv {A : Nat} {tr : Int} {ty : Nat → zTy} {p : zLy → Bool} (f1_z f2_z : Nat → Nat → Int32) (j1 : Nat → Nat → Int64) (ps1 : List zRo) (h_z : frM A [6, 11] [] f1_z f2_z) (hI : invM A tr ty p f1_z j1 ps1) : invM A tr ty p f2_z j1 ps1 := by
  obtain ⟨a1, a2, a3, a4, a5, a6⟩ := hI
  exact ⟨by rw [h_z.2.2 28 (by decide)]; exact a1, by rw [h_z.2.2 33 (by decide)]; exact a2, by rw [h_z.2.2 30 (by decide)]; exact a3, tys_of a4 h_z (by decide) (by decide) (fun _ _ => rfl), by rw [h_z.2.2 32 (by decide)]; exact a5, by rw [h_z.2.2 32 (by decide), h_z.2.1 12 (by decide) (by decide) (by decide)]; exact a6⟩
theorem cnt_find {α : Type} {q : α → Bool} {ps : List α} : ps.countP q = 0 ↔ ps.find? q = none := by
  rw [List.countP_eq_zero, List.find?_eq_none]
theorem cnt_app {α : Type} {q : α → Bool} {ps : List α} {y : α} : (ps ++ [y]).countP q = ps.countP q + if q y = true then 1 else 0 := by
  rw [List.countP_append, List.countP_singleton]
theorem fnd_app {α : Type} {q : α → Bool} {ps : List α} {y : α} : (ps ++ [y]).find? q = (ps.find? q).or (if q y = true then some y else none) := by
  rw [List.find?_append, List.find?_singleton]
set_option maxHeartbeats 4000000 in
set_option maxRecDepth 100000 in
theorem s_X12_seesMade {g : zGT} {w : zW} {f : Nat → Nat → Int32} {j : Nat → Nat → Int64} {A : Nat} {T : zTb} {dd : Nat} {L : zLy} {r : List Nat} {ps : List zRo} {x : Int32} {tr : Int} {ty : Nat → zTy} {tn s : Nat} {l : List Int} {Q : Option Value → zW → Prop} {QX : String → zW → Prop} (G : zGok g) (hs : shM w A) (hw : wfT T) (hdd : dd ≤ 5) (hk : ctKn (f (A + 1)) T) (hgo : goAt f A dd L r) (hr : rch (tbC T) L) (hx : x.toInt = ((dd + r.length : Nat) : Int)) (hB_z : ps.length < 10000000) (htn : tr = (tn : Nat)) (ht4 : tn < 4) (hty : ty tn = some (s, l)) (hln : l.length = tbC T - 1) (hI : (invM A tr ty (fun L => @decide (creC L l) (Classical.propDecidable _))) f j ps) (hQ : ∀ (b : Int32) f2_z, b.toInt = 0 → frM A [7, 12] [30, 31, 32] f f2_z → (invM A tr ty (fun L => @decide (creC L l) (Classical.propDecidable _))) f2_z j (ps ++ [(L, r)]) → Q (some (.int b)) (zM w f2_z j)) : zC g 4 yX12_seesMade cX12_seesMade 2 (some .boolean) [.ref A, .int x] (zM w f j) (0, 0) Q QX := by
  refine zC_of G (by decide +kernel) (Nat.le_of_ble_eq_true rfl) ?_
  have hn6 : tbC T ≤ 6 := hw.2.1
  have hg4 : tbG T ≤ 4 := hw.2.2.1
  have hrc := rch_cell hr
  have hLn : L.length ≤ 6 := Nat.le_trans hrc.2.2.2.2 hn6
  have hm99 := hw.2.2.2.2.2.2.2.1.2.2
  have hrl5 := hgo.2.2.2
  have hd11 : dd + r.length < 11 := by omega
  have hLi := hgo.1
  have h29 := hgo.2.1
  have hrw := hgo.2.2.1
  have hll : (f (A + 6) (43 * (dd + r.length))).toInt = (L.length : Nat) := hLi.1
  have hI9 := hI
  obtain ⟨i1_z, i2_z, i3_z, i4_z, i5_z, i6_z⟩ := hI9
  have hct := i4_z tn ht4
  rw [hty] at hct
  have hcb : ps.countP (fun y => (fun L => @decide (creC L l) (Classical.propDecidable _)) y.1) ≤ ps.length := List.countP_le_length
  refine r_aloadR0 dX12_seesMade_0 ?_
  refine r_iload1 dX12_seesMade_1 ?_
  refine r_aloadR0 dX12_seesMade_2 ?_
  refine m_getV (x := (f A 33)) zf_RX12_449 rfl dX12_seesMade_3 (shM_k hs) (rfl) ?_
  refine q_callV2 zm_RX12_493 dX12_seesMade_6 (shM_k hs) (by decide) rfl (Nat.le_of_ble_eq_true rfl) (Nat.le_of_ble_eq_true rfl) (Nat.le_of_ble_eq_true rfl) (Nat.le_of_ble_eq_true rfl) (Nat.le_of_ble_eq_true rfl) (s_X12_hasCreases (L := L) (T := T) (t := tn) (s := s) (l := l) G hs hk hw hx hd11 hLi hr (by omega) ht4 hct hln (fun r6 g6 e6_z o6 => ?_))
  have w30 : (g6 A 30).toInt = (f A 30).toInt := by rw [o6.2.2 30 (by decide)]
  have w29 : (g6 A 29).toInt = (dd : Nat) := by rw [o6.2.2 29 (by decide)]; exact h29
  have hq9 : (fun L => @decide (creC L l) (Classical.propDecidable _)) L = true ↔ creC L l := @decide_eq_true_iff _ (Classical.propDecidable _)
  refine t_ifne (t := 14) dX12_seesMade_9 (by decide) (fun h9 => ?_) (fun h9 => ?_)
  · refine r_aloadR0 dX12_seesMade_14 ?_
    refine m_getV (x := (g6 A 30)) zf_RX12_452 rfl dX12_seesMade_15 (shM_k hs) (rfl) ?_
    refine t_ifne (t := 32) dX12_seesMade_18 (by decide) (fun h18 => ?_) (fun h18 => ?_)
    · refine r_aloadR0 dX12_seesMade_32 ?_
      refine r_dup dX12_seesMade_33 rfl ?_
      refine m_getV (x := (g6 A 30)) zf_RX12_452 rfl dX12_seesMade_34 (shM_k hs) (rfl) ?_
      refine n_iconst dX12_seesMade_37 (by decide) (fun r37 e37 => ?_)
      refine n_iadd dX12_seesMade_38 (by omega) (fun r38 e38 => ?_)
      refine m_putI zf_RX12_452 (by intro C T N h_z; cases h_z; rfl) rfl dX12_seesMade_39 (shM_k hs) ?_
      refine n_iconst dX12_seesMade_42 (by decide) (fun r42 e42_z => ?_)
      refine m_zret dX12_seesMade_43 rfl (by omega) (Nat.le_of_ble_eq_true rfl) (Nat.le_of_ble_eq_true rfl) ?_
      have hcn : (ps ++ [(L, r)]).countP (fun y => (fun L => @decide (creC L l) (Classical.propDecidable _)) y.1) = ps.countP (fun y => (fun L => @decide (creC L l) (Classical.propDecidable _)) y.1) + if (fun L => @decide (creC L l) (Classical.propDecidable _)) L = true then 1 else 0 := cnt_app
      have hfn : (ps ++ [(L, r)]).find? (fun y => (fun L => @decide (creC L l) (Classical.propDecidable _)) y.1) = (ps.find? (fun y => (fun L => @decide (creC L l) (Classical.propDecidable _)) y.1)).or (if (fun L => @decide (creC L l) (Classical.propDecidable _)) L = true then some (L, r) else none) := fnd_app
      have hyes : (fun L => @decide (creC L l) (Classical.propDecidable _)) L = true := by rcases e6_z with h9 | h9; exact hq9.mpr h9.2; exact absurd h9.1 (by omega)
      rw [if_pos hyes] at hcn hfn
      have hz9 : ps.find? (fun y => (fun L => @decide (creC L l) (Classical.propDecidable _)) y.1) ≠ none := fun e9_z => absurd (cnt_find.mpr e9_z) (by omega)
      have of2 : ∀ xx : Int32, frM A [7, 12] [30, 31, 32] f (zu g6 A 30 xx) := fun xx => frM_zk (k := 30) (frM_su o6 (by decide) (by decide)) (by decide)
      refine hQ _ _ (by omega) (of2 _) ⟨by rw [(of2 _).2.2 28 (by decide)]; exact i1_z, by rw [(of2 _).2.2 33 (by decide)]; exact i2_z, by rw [hcn, zu_at]; omega, tys_of i4_z (of2 _) (by decide) (by decide) (fun _ _ => rfl), fun h9 => ?_, fun z h9 => ?_⟩
      · rw [hfn] at h9
        cases hf9 : ps.find? (fun y => (fun L => @decide (creC L l) (Classical.propDecidable _)) y.1) with
        | none => exact absurd hf9 hz9
        | some z => rw [hf9] at h9; exact absurd h9 (by simp)
      · rw [hfn] at h9
        cases hf9 : ps.find? (fun y => (fun L => @decide (creC L l) (Classical.propDecidable _)) y.1) with
        | none => exact absurd hf9 hz9
        | some z2 => rw [hf9] at h9; rw [← Option.some.inj h9, zu_ni (by decide), zu_ne (by omega), o6.2.2 32 (by decide), o6.2.1 12 (by decide) (by decide) (by decide)]; exact i6_z z2 hf9
    · refine r_aloadR0 dX12_seesMade_21 ?_
      refine r_iload1 dX12_seesMade_22 ?_
      refine r_iload1 dX12_seesMade_23 ?_
      refine r_aloadR0 dX12_seesMade_24 ?_
      refine m_getV (x := (g6 A 29)) zf_RX12_419 rfl dX12_seesMade_25 (shM_k hs) (rfl) ?_
      refine n_isub dX12_seesMade_28 (by omega) (fun r28 e28_z => ?_)
      refine q_callV2 zm_RX12_490 dX12_seesMade_29 (shM_k hs) (by decide) rfl (Nat.le_of_ble_eq_true rfl) (Nat.le_of_ble_eq_true rfl) (Nat.le_of_ble_eq_true rfl) (Nat.le_of_ble_eq_true rfl) (Nat.le_of_ble_eq_true rfl) (s_X12_keepsRow (r := r) (dd := dd) G hs w29 (by rw [o6.2.1 11 (by decide) (by decide) (by decide)]; exact hrw) hrl5 hdd hx (fun g29 o29 a1 a2 a3 => ?_))
      have w30b : (g29 A 30).toInt = (f A 30).toInt := by rw [o29.2.2 30 (by decide)]; exact w30
      refine r_aloadR0 dX12_seesMade_32 ?_
      refine r_dup dX12_seesMade_33 rfl ?_
      refine m_getV (x := (g29 A 30)) zf_RX12_452 rfl dX12_seesMade_34 (shM_k hs) (rfl) ?_
      refine n_iconst dX12_seesMade_37 (by decide) (fun r37 e37 => ?_)
      refine n_iadd dX12_seesMade_38 (by omega) (fun r38 e38 => ?_)
      refine m_putI zf_RX12_452 (by intro C T N h_z; cases h_z; rfl) rfl dX12_seesMade_39 (shM_k hs) ?_
      refine n_iconst dX12_seesMade_42 (by decide) (fun r42 e42_z => ?_)
      refine m_zret dX12_seesMade_43 rfl (by omega) (Nat.le_of_ble_eq_true rfl) (Nat.le_of_ble_eq_true rfl) ?_
      have hcn : (ps ++ [(L, r)]).countP (fun y => (fun L => @decide (creC L l) (Classical.propDecidable _)) y.1) = ps.countP (fun y => (fun L => @decide (creC L l) (Classical.propDecidable _)) y.1) + if (fun L => @decide (creC L l) (Classical.propDecidable _)) L = true then 1 else 0 := cnt_app
      have hfn : (ps ++ [(L, r)]).find? (fun y => (fun L => @decide (creC L l) (Classical.propDecidable _)) y.1) = (ps.find? (fun y => (fun L => @decide (creC L l) (Classical.propDecidable _)) y.1)).or (if (fun L => @decide (creC L l) (Classical.propDecidable _)) L = true then some (L, r) else none) := fnd_app
      have hyes : (fun L => @decide (creC L l) (Classical.propDecidable _)) L = true := by rcases e6_z with h9 | h9; exact hq9.mpr h9.2; exact absurd h9.1 (by omega)
      rw [if_pos hyes] at hcn hfn
      have hz9 : ps.find? (fun y => (fun L => @decide (creC L l) (Classical.propDecidable _)) y.1) = none := cnt_find.mp (by omega)
      rw [hz9] at hfn
      have ofr : frM A [7, 12] [30, 31, 32] f g29 := frM_tr (frM_su o6 (by decide) (by decide)) (frM_su o29 (by decide) (by decide))
      have of2 : ∀ xx : Int32, frM A [7, 12] [30, 31, 32] f (zu g29 A 30 xx) := fun xx => frM_zk (k := 30) ofr (by decide)
      refine hQ _ _ (by omega) (of2 _) ⟨by rw [(of2 _).2.2 28 (by decide)]; exact i1_z, by rw [(of2 _).2.2 33 (by decide)]; exact i2_z, by rw [hcn, zu_at]; omega, tys_of i4_z (of2 _) (by decide) (by decide) (fun _ _ => rfl), fun h9 => ?_, fun z h9 => ?_⟩
      · rw [hfn] at h9; exact absurd h9 (by simp)
      · rw [hfn] at h9
        have h8 : (L, r) = z := Option.some.inj h9
        rw [← h8, zu_ni (by decide), zu_ne (by omega)]
        exact ⟨a2, a3⟩
  · refine n_iconst dX12_seesMade_12 (by decide) (fun r12 e12_z => ?_)
    refine m_zret dX12_seesMade_13 rfl (by omega) (Nat.le_of_ble_eq_true rfl) (Nat.le_of_ble_eq_true rfl) ?_
    have hcn : (ps ++ [(L, r)]).countP (fun y => (fun L => @decide (creC L l) (Classical.propDecidable _)) y.1) = ps.countP (fun y => (fun L => @decide (creC L l) (Classical.propDecidable _)) y.1) + if (fun L => @decide (creC L l) (Classical.propDecidable _)) L = true then 1 else 0 := cnt_app
    have hfn : (ps ++ [(L, r)]).find? (fun y => (fun L => @decide (creC L l) (Classical.propDecidable _)) y.1) = (ps.find? (fun y => (fun L => @decide (creC L l) (Classical.propDecidable _)) y.1)).or (if (fun L => @decide (creC L l) (Classical.propDecidable _)) L = true then some (L, r) else none) := fnd_app
    have hno : ¬ (fun L => @decide (creC L l) (Classical.propDecidable _)) L = true := fun e9_z => by rcases e6_z with h9 | h9; exact absurd h9.1 (by omega); exact h9.2 (hq9.mp e9_z)
    rw [if_neg hno] at hcn hfn
    refine hQ _ g6 (by omega) (frM_su o6 (by decide) (by decide)) ⟨by rw [o6.2.2 28 (by decide)]; exact i1_z, by rw [o6.2.2 33 (by decide)]; exact i2_z, by rw [hcn]; omega, tys_of i4_z o6 (by decide) (by decide) (fun _ _ => rfl), fun h9 => ?_, fun z h9 => ?_⟩
    · rw [o6.2.2 32 (by decide)]
      rw [hfn] at h9
      cases hf9 : ps.find? (fun y => (fun L => @decide (creC L l) (Classical.propDecidable _)) y.1) with
      | none => exact i5_z hf9
      | some z => rw [hf9] at h9; exact absurd h9 (by simp)
    · rw [o6.2.2 32 (by decide), o6.2.1 12 (by decide) (by decide) (by decide)]
      rw [hfn] at h9
      cases hf9 : ps.find? (fun y => (fun L => @decide (creC L l) (Classical.propDecidable _)) y.1) with
      | none => rw [hf9] at h9; exact absurd h9 (by simp)
      | some z2 => rw [hf9] at h9; rw [← Option.some.inj h9]; exact i6_z z2 hf9
set_option maxHeartbeats 4000000 in
set_option maxRecDepth 100000 in
theorem s_X12_sees_mad {g : zGT} {w : zW} {f : Nat → Nat → Int32} {j : Nat → Nat → Int64} {A : Nat} {T : zTb} {dd : Nat} {L : zLy} {r : List Nat} {ps : List zRo} {x : Int32} {tr : Int} {ty : Nat → zTy} {tn s : Nat} {l : List Int} {Q : Option Value → zW → Prop} {QX : String → zW → Prop} (G : zGok g) (hs : shM w A) (hw : wfT T) (hdd : dd ≤ 5) (hk : ctKn (f (A + 1)) T) (hgo : goAt f A dd L r) (hr : rch (tbC T) L) (hx : x.toInt = ((dd + r.length : Nat) : Int)) (hB_z : ps.length < 10000000) (htn : tr = (tn : Nat)) (ht4 : tn < 4) (hty : ty tn = some (s, l)) (hln : l.length = tbC T - 1) (hI : (invM A tr ty (fun L => @decide (creC L l) (Classical.propDecidable _))) f j ps) (hQ : ∀ (b : Int32) f2_z j2, goF A (dd + r.length) r.length f f2_z j j2 → (b.toInt = 1 ∧ (fun _ _ _ _ => False) f2_z j2 ps (L, r) ∨ b.toInt = 0 ∧ (invM A tr ty (fun L => @decide (creC L l) (Classical.propDecidable _))) f2_z j2 (ps ++ [(L, r)])) → Q (some (.int b)) (zM w f2_z j2)) : zC g 9 yX12_sees cX12_sees 3 (some .boolean) [.ref A, .int x] (zM w f j) (0, 0) Q QX := by
  refine zC_of G (by decide +kernel) (Nat.le_of_ble_eq_true rfl) ?_
  have hn6 : tbC T ≤ 6 := hw.2.1
  have hg4 : tbG T ≤ 4 := hw.2.2.1
  have hrc := rch_cell hr
  have hLn : L.length ≤ 6 := Nat.le_trans hrc.2.2.2.2 hn6
  have hm99 := hw.2.2.2.2.2.2.2.1.2.2
  have hrl5 := hgo.2.2.2
  have hd11 : dd + r.length < 11 := by omega
  have hLi := hgo.1
  have h29 := hgo.2.1
  have hrw := hgo.2.2.1
  have hll : (f (A + 6) (43 * (dd + r.length))).toInt = (L.length : Nat) := hLi.1
  have i1_z := hI.1
  refine r_aloadR0 dX12_sees_0 ?_
  refine m_getV (x := (f A 28)) zf_RX12_443 rfl dX12_sees_1 (shM_k hs) (rfl) ?_
  refine n_tabC (k := 11) (t := 273) dX12_sees_4 (by decide) rfl (by decide) (fun h4 => ?_) (fun h4 => False.elim (h4 (by omega)))
  refine r_aloadR0 dX12_sees_273 ?_
  refine r_iload1 dX12_sees_274 ?_
  refine q_callV1 zm_RX12_477 dX12_sees_275 (shM_k hs) (by decide) rfl (Nat.le_of_ble_eq_true rfl) (Nat.le_of_ble_eq_true rfl) (Nat.le_of_ble_eq_true rfl) (Nat.le_of_ble_eq_true rfl) (Nat.le_of_ble_eq_true rfl) (s_X12_seesMade (T := T) (L := L) (r := r) (ps := ps) G hs hw hdd hk hgo hr hx hB_z htn ht4 hty hln hI (fun r275 g275 e275 o275 c275 => ?_))
  refine m_zret dX12_sees_278 rfl (by omega) (Nat.le_of_ble_eq_true rfl) (Nat.le_of_ble_eq_true rfl) ?_
  exact hQ _ g275 j (goF_m0 (frM_su o275 (by decide) (by decide))) (Or.inr ⟨by omega, c275⟩)
theorem see_mad {g : zGT} {w : zW} {A : Nat} {T : zTb} {dd : Nat} {tr : Int} {ty : Nat → zTy} {tn s : Nat} {l : List Int} (G : zGok g) (hs : shM w A) (hw : wfT T) (hdd : dd ≤ 5) (htn : tr = (tn : Nat)) (ht4 : tn < 4) (hty : ty tn = some (s, l)) (hln : l.length = tbC T - 1) : seeC g w A T dd (invM A tr ty (fun L => @decide (creC L l) (Classical.propDecidable _))) ((fun _ _ _ _ => False)) := fun f j ps L r x Q QX hk hgo hr hx hB_z hI hQ => s_X12_sees_mad G hs hw hdd hk hgo hr hx hB_z htn ht4 hty hln hI hQ
def sclK (L : zLy) : Nat → Int32 → Int32
  | 0, s => s
  | k + 1, s => if lyCrease L k = 0 then sclK L k s &&& (((1 : Int32) <<< (nI k &&& 31)) ^^^ (-1)) else sclK L k s
def surE (p : zLy → Bool) (n : Nat) (s0 : Int32) (ps : List zRo) : Int32 := ps.foldl (fun s y => if p y.1 = true then sclK y.1 n s else s) s0
theorem surE_s {p : zLy → Bool} {n : Nat} {s0 : Int32} {ps : List zRo} {L : zLy} {r : List Nat} : surE p n s0 (ps ++ [(L, r)]) = if p L = true then sclK L n (surE p n s0 ps) else surE p n s0 ps := by
  unfold surE
  rw [List.foldl_append]
  rfl
def bnQ (M : Nat → Nat) (p : zLy → Bool) (k v : Nat) (y : zRo) : Bool := p y.1 && (decide (k < y.1.length) && decide (seenB M y.1 k = v))
def invS (A n : Nat) (M : Nat → Nat) (tr : Int) (ty : Nat → zTy) (p : zLy → Bool) (s0 : Int32) (f : Nat → Nat → Int32) (j : Nat → Nat → Int64) (ps : List zRo) : Prop := (f A 28).toInt = 13 ∧ (f A 33).toInt = tr ∧ (f A 30).toInt = (ps.countP (fun y => p y.1) : Nat) ∧ (∀ t, t < 4 → ctTm f j A t (ty t)) ∧ f A 34 = surE p (n - 1) s0 ps ∧ ∀ k v, k < 6 → v < 100 → (f (A + 17) (100 * k + v)).toInt = (ps.countP (bnQ M p k v) : Nat)
theorem invS_iv {A n : Nat} {M : Nat → Nat} {tr : Int} {ty : Nat → zTy} {p : zLy → Bool} {s0 : Int32} (f1_z f2_z : Nat → Nat → Int32) (j1 : Nat → Nat → Int64) (ps1 : List zRo) (h_z : frM A [6, 11] [] f1_z f2_z) (hI : invS A n M tr ty p s0 f1_z j1 ps1) : invS A n M tr ty p s0 f2_z j1 ps1 := by
  obtain ⟨a1, a2, a3, a4, a5, a6⟩ := hI
  exact ⟨by rw [h_z.2.2 28 (by decide)]; exact a1, by rw [h_z.2.2 33 (by decide)]; exact a2, by rw [h_z.2.2 30 (by decide)]; exact a3, tys_of a4 h_z (by decide) (by decide) (fun _ _ => rfl), by rw [h_z.2.2 34 (by decide)]; exact a5, by rw [h_z.2.1 17 (by decide) (by decide) (by decide)]; exact a6⟩
set_option maxHeartbeats 4000000 in
set_option maxRecDepth 100000 in
theorem s_X12_seesOne {g : zGT} {w : zW} {f : Nat → Nat → Int32} {j : Nat → Nat → Int64} {A : Nat} {T : zTb} {dd : Nat} {L : zLy} {r : List Nat} {ps : List zRo} {x : Int32} {Q : Option Value → zW → Prop} {QX : String → zW → Prop} (G : zGok g) (hs : shM w A) (hw : wfT T) (hdd : dd ≤ 5) (hk : ctKn (f (A + 1)) T) (hgo : goAt f A dd L r) (hr : rch (tbC T) L) (hx : x.toInt = ((dd + r.length : Nat) : Int)) (hB_z : ps.length < 10000000) (hb30 : 0 ≤ (f A 30).toInt ∧ (f A 30).toInt < 20000000) (hb17 : ∀ k v, k < 6 → v < 100 → 0 ≤ (f (A + 17) (100 * k + v)).toInt ∧ (f (A + 17) (100 * k + v)).toInt < 20000000) (hQ : ∀ f2_z, frM A [7, 17] [30, 34] f f2_z → (f2_z A 30).toInt = (f A 30).toInt + 1 → f2_z A 34 = sclK L (tbC T - 1) (f A 34) → (∀ k v, k < 6 → v < 100 → (f2_z (A + 17) (100 * k + v)).toInt = (f (A + 17) (100 * k + v)).toInt + (if k < L.length ∧ seenB T.2.2.1.1 L k = v then 1 else 0)) → Q none (zM w f2_z j)) : zC g 3 yX12_seesOne cX12_seesOne 3 none [.ref A, .int x] (zM w f j) (0, 0) Q QX := by
  refine zC_of G (by decide +kernel) (Nat.le_of_ble_eq_true rfl) ?_
  have hn6 : tbC T ≤ 6 := hw.2.1
  have hg4 : tbG T ≤ 4 := hw.2.2.1
  have hrc := rch_cell hr
  have hLn : L.length ≤ 6 := Nat.le_trans hrc.2.2.2.2 hn6
  have hm99 := hw.2.2.2.2.2.2.2.1.2.2
  have hrl5 := hgo.2.2.2
  have hd11 : dd + r.length < 11 := by omega
  have hLi := hgo.1
  have h29 := hgo.2.1
  have hrw := hgo.2.2.1
  have hll : (f (A + 6) (43 * (dd + r.length))).toInt = (L.length : Nat) := hLi.1
  refine r_aloadR0 dX12_seesOne_0 ?_
  refine r_dup dX12_seesOne_1 rfl ?_
  refine m_getV (x := (f A 30)) zf_RX12_452 rfl dX12_seesOne_2 (shM_k hs) (rfl) ?_
  refine n_iconst dX12_seesOne_5 (by decide) (fun r5 e5_z => ?_)
  refine n_iadd dX12_seesOne_6 (by omega) (fun r6 e6_z => ?_)
  refine m_putI zf_RX12_452 (by intro C T N h_z; cases h_z; rfl) rfl dX12_seesOne_7 (shM_k hs) ?_
  obtain ⟨g7, hg7⟩ : ∃ g9, g9 = zu f A 30 r6 := ⟨_, rfl⟩
  rw [← hg7]
  have og7 : frM A [] [30] f g7 := by rw [hg7]; exact frM_zk frM_rf (by decide)
  have vt7 : (g7 A 30).toInt = (f A 30).toInt + 1 := by rw [hg7, zu_at]; omega
  refine r_aloadR0 dX12_seesOne_10 ?_
  refine r_iload1 dX12_seesOne_11 ?_
  refine q_callV1 zm_RX12_302 dX12_seesOne_12 (shM_k hs) (by decide) rfl (Nat.le_of_ble_eq_true rfl) (Nat.le_of_ble_eq_true rfl) (Nat.le_of_ble_eq_true rfl) (Nat.le_of_ble_eq_true rfl) (Nat.le_of_ble_eq_true rfl) (s_X12_laysPlaces (L := L) (n := tbC T) G hs hx hd11 (by rw [og7.2.1 6 (by decide) (by decide) (by decide)]; exact hLi) hr (fun g12 o12 c12 => ?_))
  have ofg : frM A [7] [30] f g12 := frM_tr (frM_su og7 (by decide) (by decide)) (frM_su o12 (by decide) (by decide))
  have lp : ∀ (mz : Nat) (c : Int32) (k : Nat) (f2_z : Nat → Nat → Int32), c.toInt = (k : Nat) → k ≤ tbC T - 1 → (∀ q, q ≠ A → f2_z q = g12 q) → (∀ k9, k9 ≠ 34 → f2_z A k9 = g12 A k9) → f2_z A 34 = sclK L k (f A 34) → 6 - k < mz → zR (zV g 3 yX12_seesOne 3 none (0, 0) Q QX) cX12_seesOne yX12_seesOne.cls 17 [some (.ref A), some (.int x), some (.int c)] [] (zM w f2_z j) (0, 0) := by
    intro mz
    induction mz with
    | zero =>
      intro c k f2_z hck hk8 hoq hok9 h34 hmz
      exact absurd hmz (Nat.not_lt_zero _)
    | succ mz ih =>
      intro c k f2_z hck hk8 hoq hok9 h34 hmz
      have ofr : frM A [7] [30, 34] f f2_z := frM_tr (frM_su ofg (by decide) (by decide)) (show frM A [7] [30, 34] g12 f2_z from ⟨fun q hq => hoq q (by omega), fun r h2 h3 h4 => hoq _ (by omega), fun k9 h9 => hok9 k9 (fun e9_z => h9 (by simp [e9_z]))⟩)
      have hk2 : ctKn (f2_z (A + 1)) T := by rw [ofr.2.1 1 (by decide) (by decide) (by decide)]; exact hk
      have c2_z : ∀ c, c < tbC T → (f2_z (A + 7) c).toInt = (plcN L c : Nat) := by rw [hoq (A + 7) (by omega)]; exact c12
      rcases Nat.lt_or_ge (k + 1) (tbC T) with hkl | hkl
      · have hsk : sclK L (k + 1) (f A 34) = if lyCrease L k = 0 then sclK L k (f A 34) &&& (((1 : Int32) <<< (nI k &&& 31)) ^^^ (-1)) else sclK L k (f A 34) := rfl
        rcases Nat.eq_zero_or_pos (lyCrease L k) with hcz | hcz
        · refine r_iload2 dX12_seesOne_17 ?_
          refine n_iconst dX12_seesOne_18 (by decide) (fun r18 e18_z => ?_)
          refine n_iadd dX12_seesOne_19 (by omega) (fun r19 e19_z => ?_)
          refine r_aloadR0 dX12_seesOne_20 ?_
          refine q_callV0 zm_RX12_253 dX12_seesOne_21 (shM_k hs) (by decide) rfl (Nat.le_of_ble_eq_true rfl) (Nat.le_of_ble_eq_true rfl) (Nat.le_of_ble_eq_true rfl) (Nat.le_of_ble_eq_true rfl) (Nat.le_of_ble_eq_true rfl) (s_X12_cells G hs hk2.1.2.1 (fun r21 e21_z => ?_))
          refine t_icge (t := 55) dX12_seesOne_24 (by decide) (fun h24 => False.elim (by omega)) (fun h24 => ?_)
          refine r_aloadR0 dX12_seesOne_27 ?_
          refine r_iload2 dX12_seesOne_28 ?_
          refine q_callV1 zm_RX12_305 dX12_seesOne_29 (shM_k hs) (by decide) rfl (Nat.le_of_ble_eq_true rfl) (Nat.le_of_ble_eq_true rfl) (Nat.le_of_ble_eq_true rfl) (Nat.le_of_ble_eq_true rfl) (Nat.le_of_ble_eq_true rfl) (s_X12_creaseOf (n := tbC T) (k := k) G hs c2_z hr hck (by omega) (fun r29 e29 => ?_))
          refine t_ifne (t := 49) dX12_seesOne_32 (by decide) (fun h32 => False.elim (by omega)) (fun h32 => ?_)
          refine r_aloadR0 dX12_seesOne_35 ?_
          refine r_dup dX12_seesOne_36 rfl ?_
          refine m_getV (x := (f2_z A 34)) zf_RX12_555 rfl dX12_seesOne_37 (shM_k hs) (rfl) ?_
          refine n_iconst dX12_seesOne_40 (by decide) (fun r40 e40 => ?_)
          refine r_iload2 dX12_seesOne_41 ?_
          refine r_ishl dX12_seesOne_42 ?_
          refine n_name (fun r42 e42_z => ?_)
          refine n_iconst dX12_seesOne_43 (by decide) (fun r43 e43 => ?_)
          refine r_ixor dX12_seesOne_44 ?_
          refine n_name (fun r44 e44 => ?_)
          refine r_iand dX12_seesOne_45 ?_
          refine n_name (fun r45 e45 => ?_)
          refine m_putI zf_RX12_555 (by intro C T N h_z; cases h_z; rfl) rfl dX12_seesOne_46 (shM_k hs) ?_
          refine n_iinc2 dX12_seesOne_49 (by decide) rfl (by omega) (fun r49 e49 => ?_)
          refine r_goto (t := 17) dX12_seesOne_52 (by decide) ?_
          refine ih _ (k + 1) _ (by omega) (by omega) (fun q hq => (zu_ne hq).trans (hoq q hq)) (fun k9 h9 => (zu_ni h9).trans (hok9 k9 h9)) ?_ (by omega)
          rw [zu_at, hsk, if_pos hcz, e45, e44, e42_z, h34, show r40 = 1 from zi_eq.mpr (e40.trans (by decide)), show r43 = -1 from zi_eq.mpr (e43.trans (by decide)), show c = nI k from zi_eq.mpr (hck.trans (zi_n (by omega)).symm)]
        · refine r_iload2 dX12_seesOne_17 ?_
          refine n_iconst dX12_seesOne_18 (by decide) (fun r18 e18_z => ?_)
          refine n_iadd dX12_seesOne_19 (by omega) (fun r19 e19_z => ?_)
          refine r_aloadR0 dX12_seesOne_20 ?_
          refine q_callV0 zm_RX12_253 dX12_seesOne_21 (shM_k hs) (by decide) rfl (Nat.le_of_ble_eq_true rfl) (Nat.le_of_ble_eq_true rfl) (Nat.le_of_ble_eq_true rfl) (Nat.le_of_ble_eq_true rfl) (Nat.le_of_ble_eq_true rfl) (s_X12_cells G hs hk2.1.2.1 (fun r21 e21_z => ?_))
          refine t_icge (t := 55) dX12_seesOne_24 (by decide) (fun h24 => False.elim (by omega)) (fun h24 => ?_)
          refine r_aloadR0 dX12_seesOne_27 ?_
          refine r_iload2 dX12_seesOne_28 ?_
          refine q_callV1 zm_RX12_305 dX12_seesOne_29 (shM_k hs) (by decide) rfl (Nat.le_of_ble_eq_true rfl) (Nat.le_of_ble_eq_true rfl) (Nat.le_of_ble_eq_true rfl) (Nat.le_of_ble_eq_true rfl) (Nat.le_of_ble_eq_true rfl) (s_X12_creaseOf (n := tbC T) (k := k) G hs c2_z hr hck (by omega) (fun r29 e29 => ?_))
          refine t_ifne (t := 49) dX12_seesOne_32 (by decide) (fun h32 => ?_) (fun h32 => False.elim (by omega))
          refine n_iinc2 dX12_seesOne_49 (by decide) rfl (by omega) (fun r49 e49 => ?_)
          refine r_goto (t := 17) dX12_seesOne_52 (by decide) ?_
          refine ih _ (k + 1) f2_z (by omega) (by omega) hoq hok9 ?_ (by omega)
          rw [hsk, if_neg (by omega)]; exact h34
      · have hb9 : ∀ k9 v9, k9 < 6 → v9 < 100 → (f2_z (A + 17) (100 * k9 + v9)).toInt = (f (A + 17) (100 * k9 + v9)).toInt + (if k9 < 0 ∧ seenB T.2.2.1.1 L k9 = v9 then 1 else 0) := fun k9 v9 _ _ => by rw [if_neg (by omega), ofr.2.1 17 (by decide) (by decide) (by decide)]; omega
        have lq : ∀ (mz : Nat) (c : Int32) (m : Nat) (f3_z : Nat → Nat → Int32), c.toInt = (m : Nat) → m ≤ L.length → (∀ q, q ≠ A + 17 → f3_z q = f2_z q) → (∀ k9 v9, k9 < 6 → v9 < 100 → (f3_z (A + 17) (100 * k9 + v9)).toInt = (f (A + 17) (100 * k9 + v9)).toInt + (if k9 < m ∧ seenB T.2.2.1.1 L k9 = v9 then 1 else 0)) → L.length - m < mz → zR (zV g 3 yX12_seesOne 3 none (0, 0) Q QX) cX12_seesOne yX12_seesOne.cls 57 [some (.ref A), some (.int x), some (.int c)] [] (zM w f3_z j) (0, 0) := by
          intro mz
          induction mz with
          | zero =>
            intro c m f3_z hcm hm8 ho3 hb3 hmz
            exact absurd hmz (Nat.not_lt_zero _)
          | succ mz ih =>
            intro c m f3_z hcm hm8 ho3 hb3 hmz
            have hLi3 : ctLi (f3_z (A + 6)) (dd + r.length) L := by rw [ho3 (A + 6) (by omega), ofr.2.1 6 (by decide) (by decide) (by decide)]; exact hLi
            have hk3 : ctKn (f3_z (A + 1)) T := by rw [ho3 (A + 1) (by omega)]; exact hk2
            have hw3 : (f3_z (A + 6) (43 * (dd + r.length))).toInt = (L.length : Nat) := hLi3.1
            rcases Nat.lt_or_ge m L.length with hml9 | hml9
            · have hsb : seenB T.2.2.1.1 L m ≤ 99 := seenB_le hm99
              have hbb := hb17 m (seenB T.2.2.1.1 L m) (by omega) (by omega)
              have hold : (f3_z (A + 17) (100 * m + seenB T.2.2.1.1 L m)).toInt = (f (A + 17) (100 * m + seenB T.2.2.1.1 L m)).toInt := by rw [hb3 m _ (by omega) (by omega), if_neg (by omega)]; omega
              refine r_iload2 dX12_seesOne_57 ?_
              refine r_aloadR0 dX12_seesOne_58 ?_
              refine r_iload1 dX12_seesOne_59 ?_
              refine q_callV1 zm_RX12_256 dX12_seesOne_60 (shM_k hs) (by decide) rfl (Nat.le_of_ble_eq_true rfl) (Nat.le_of_ble_eq_true rfl) (Nat.le_of_ble_eq_true rfl) (Nat.le_of_ble_eq_true rfl) (Nat.le_of_ble_eq_true rfl) (s_X12_columnsAt (v := L.length) G hs hx hd11 hw3 (fun r60 e60 => ?_))
              refine t_icge (t := 92) dX12_seesOne_63 (by decide) (fun h63 => False.elim (by omega)) (fun h63 => ?_)
              refine r_aloadR0 dX12_seesOne_66 ?_
              refine m_getR (q := (A + 17)) zf_RX12_65 rfl dX12_seesOne_67 (shM_k hs) (shM_p17 hs) ?_
              refine n_bipush dX12_seesOne_70 (by decide) (fun r70 e70 => ?_)
              refine r_iload2 dX12_seesOne_72 ?_
              refine n_imulc dX12_seesOne_73 e70 (by omega) (fun r73 e73 => ?_)
              refine r_aloadR0 dX12_seesOne_74 ?_
              refine r_iload1 dX12_seesOne_75 ?_
              refine r_iload2 dX12_seesOne_76 ?_
              refine q_callV2 zm_RX12_290 dX12_seesOne_77 (shM_k hs) (by decide) rfl (Nat.le_of_ble_eq_true rfl) (Nat.le_of_ble_eq_true rfl) (Nat.le_of_ble_eq_true rfl) (Nat.le_of_ble_eq_true rfl) (Nat.le_of_ble_eq_true rfl) (s_X12_beneathAt (mk := T.2.2.1.1) (n := tbC T) (c := m) G hs (fun c hc_z => hk3.2.1.2.2 c hc_z) hx hd11 hLi3 hr hcm hml9 (fun r77 e77 => ?_))
              refine n_iadd dX12_seesOne_80 (by omega) (fun r80 e80 => ?_)
              refine r_dup2 dX12_seesOne_81 rfl rfl ?_
              refine m_iald (k := (100 * m + seenB T.2.2.1.1 L m)) (x := (f3_z (A + 17) ((100 * m + seenB T.2.2.1.1 L m)))) dX12_seesOne_82 (shM_k17 hs) (shM_n17 hs) (by omega) (by omega) (rfl) ?_
              refine n_iconst dX12_seesOne_83 (by decide) (fun r83 e83 => ?_)
              refine n_iadd dX12_seesOne_84 (by omega) (fun r84 e84 => ?_)
              refine m_iast (k := (100 * m + seenB T.2.2.1.1 L m)) dX12_seesOne_85 (shM_k17 hs) (shM_n17 hs) (by omega) (by omega) ?_
              refine n_iinc2 dX12_seesOne_86 (by decide) rfl (by omega) (fun r86 e86 => ?_)
              refine r_goto (t := 57) dX12_seesOne_89 (by decide) ?_
              refine ih _ (m + 1) _ (by omega) (by omega) (fun q hq => (zu_ne hq).trans (ho3 q hq)) (fun k9 v9 h8 h9 => ?_) (by omega)
              rw [zu_s2]
              by_cases he : 100 * k9 + v9 = 100 * m + seenB T.2.2.1.1 L m
              · have hkm9 : k9 = m := by omega
                subst hkm9
                have hv9 : v9 = seenB T.2.2.1.1 L k9 := by omega
                subst hv9
                rw [if_pos rfl, if_pos ⟨by omega, rfl⟩]
                omega
              · rw [if_neg he, hb3 k9 v9 h8 h9]
                congr 1
                by_cases hc9 : k9 < m ∧ seenB T.2.2.1.1 L k9 = v9
                · rw [if_pos hc9, if_pos ⟨by omega, hc9.2⟩]
                · rw [if_neg hc9, if_neg (fun h7 => ?_)]
                  rcases Nat.lt_or_ge k9 m with h6 | h6
                  · exact hc9 ⟨h6, h7.2⟩
                  · have h5 : k9 = m := by omega
                    rw [h5] at h7 he
                    exact he (by rw [h7.2])
            · refine r_iload2 dX12_seesOne_57 ?_
              refine r_aloadR0 dX12_seesOne_58 ?_
              refine r_iload1 dX12_seesOne_59 ?_
              refine q_callV1 zm_RX12_256 dX12_seesOne_60 (shM_k hs) (by decide) rfl (Nat.le_of_ble_eq_true rfl) (Nat.le_of_ble_eq_true rfl) (Nat.le_of_ble_eq_true rfl) (Nat.le_of_ble_eq_true rfl) (Nat.le_of_ble_eq_true rfl) (s_X12_columnsAt (v := L.length) G hs hx hd11 hw3 (fun r60 e60 => ?_))
              refine t_icge (t := 92) dX12_seesOne_63 (by decide) (fun h63 => ?_) (fun h63 => False.elim (by omega))
              refine r_vret dX12_seesOne_92 rfl (Nat.le_of_ble_eq_true rfl) (Nat.le_of_ble_eq_true rfl) ?_
              have of3 : frM A [7, 17] [30, 34] f f3_z := frM_tr (frM_su ofr (by decide) (by decide)) (show frM A [7, 17] [30, 34] f2_z f3_z from ⟨fun q hq => ho3 q (by omega), fun r h2 h3 h4 => ho3 _ (by intro e9_z; exact h4 (by simp; omega)), fun k9 _ => by rw [ho3 A (by omega)]⟩)
              refine hQ f3_z of3 (by rw [ho3 A (by omega), hok9 30 (by decide), o12.2.2 30 (by decide)]; omega) (by rw [ho3 A (by omega), h34, show k = tbC T - 1 by omega]) (fun k9 v9 h8 h9 => ?_)
              rw [hb3 k9 v9 h8 h9, show m = L.length by omega]
        refine r_iload2 dX12_seesOne_17 ?_
        refine n_iconst dX12_seesOne_18 (by decide) (fun r18 e18_z => ?_)
        refine n_iadd dX12_seesOne_19 (by omega) (fun r19 e19_z => ?_)
        refine r_aloadR0 dX12_seesOne_20 ?_
        refine q_callV0 zm_RX12_253 dX12_seesOne_21 (shM_k hs) (by decide) rfl (Nat.le_of_ble_eq_true rfl) (Nat.le_of_ble_eq_true rfl) (Nat.le_of_ble_eq_true rfl) (Nat.le_of_ble_eq_true rfl) (Nat.le_of_ble_eq_true rfl) (s_X12_cells G hs hk2.1.2.1 (fun r21 e21_z => ?_))
        refine t_icge (t := 55) dX12_seesOne_24 (by decide) (fun h24 => ?_) (fun h24 => False.elim (by omega))
        refine n_iconst dX12_seesOne_55 (by decide) (fun r55 e55 => ?_)
        refine r_istore2 dX12_seesOne_56 rfl ?_
        exact lq 7 _ 0 f2_z (by omega) (by omega) (fun q hq => rfl) hb9 (by omega)
  refine n_iconst dX12_seesOne_15 (by decide) (fun r15 e15_z => ?_)
  refine r_istore2 dX12_seesOne_16 rfl ?_
  exact lp 7 _ 0 g12 (by omega) (by omega) (fun q hq => rfl) (fun k9 _ => rfl) (by rw [ofg.2.2 34 (by decide)]; rfl) (by omega)
set_option maxHeartbeats 4000000 in
set_option maxRecDepth 100000 in
theorem s_X12_sees_see {g : zGT} {w : zW} {f : Nat → Nat → Int32} {j : Nat → Nat → Int64} {A : Nat} {T : zTb} {dd : Nat} {L : zLy} {r : List Nat} {ps : List zRo} {x : Int32} {tr : Int} {ty : Nat → zTy} {tn s : Nat} {l : List Int} {s0 : Int32} {Q : Option Value → zW → Prop} {QX : String → zW → Prop} (G : zGok g) (hs : shM w A) (hw : wfT T) (hdd : dd ≤ 5) (hk : ctKn (f (A + 1)) T) (hgo : goAt f A dd L r) (hr : rch (tbC T) L) (hx : x.toInt = ((dd + r.length : Nat) : Int)) (hB_z : ps.length < 10000000) (htn : tr = (tn : Nat)) (ht4 : tn < 4) (hty : ty tn = some (s, l)) (hI : (invS A (tbC T) T.2.2.1.1 tr ty (fun L => @decide (lookC T.2.2.1.1 L l) (Classical.propDecidable _)) s0) f j ps) (hQ : ∀ (b : Int32) f2_z j2, goF A (dd + r.length) r.length f f2_z j j2 → (b.toInt = 1 ∧ (fun _ _ _ _ => False) f2_z j2 ps (L, r) ∨ b.toInt = 0 ∧ (invS A (tbC T) T.2.2.1.1 tr ty (fun L => @decide (lookC T.2.2.1.1 L l) (Classical.propDecidable _)) s0) f2_z j2 (ps ++ [(L, r)])) → Q (some (.int b)) (zM w f2_z j2)) : zC g 9 yX12_sees cX12_sees 3 (some .boolean) [.ref A, .int x] (zM w f j) (0, 0) Q QX := by
  refine zC_of G (by decide +kernel) (Nat.le_of_ble_eq_true rfl) ?_
  have hn6 : tbC T ≤ 6 := hw.2.1
  have hg4 : tbG T ≤ 4 := hw.2.2.1
  have hrc := rch_cell hr
  have hLn : L.length ≤ 6 := Nat.le_trans hrc.2.2.2.2 hn6
  have hm99 := hw.2.2.2.2.2.2.2.1.2.2
  have hrl5 := hgo.2.2.2
  have hd11 : dd + r.length < 11 := by omega
  have hLi := hgo.1
  have h29 := hgo.2.1
  have hrw := hgo.2.2.1
  have hll : (f (A + 6) (43 * (dd + r.length))).toInt = (L.length : Nat) := hLi.1
  have hI9 := hI
  obtain ⟨i1_z, i2_z, i3_z, i4_z, i5_z, i6_z⟩ := hI9
  have hct := i4_z tn ht4
  rw [hty] at hct
  have hcb : ps.countP (fun y => (fun L => @decide (lookC T.2.2.1.1 L l) (Classical.propDecidable _)) y.1) ≤ ps.length := List.countP_le_length
  have hcq : ∀ k v, ps.countP (bnQ T.2.2.1.1 (fun L => @decide (lookC T.2.2.1.1 L l) (Classical.propDecidable _)) k v) ≤ ps.length := fun k v => List.countP_le_length
  have hcn : (ps ++ [(L, r)]).countP (fun y => (fun L => @decide (lookC T.2.2.1.1 L l) (Classical.propDecidable _)) y.1) = ps.countP (fun y => (fun L => @decide (lookC T.2.2.1.1 L l) (Classical.propDecidable _)) y.1) + if (fun L => @decide (lookC T.2.2.1.1 L l) (Classical.propDecidable _)) L = true then 1 else 0 := cnt_app
  have hbn : ∀ k v, (ps ++ [(L, r)]).countP (bnQ T.2.2.1.1 (fun L => @decide (lookC T.2.2.1.1 L l) (Classical.propDecidable _)) k v) = ps.countP (bnQ T.2.2.1.1 (fun L => @decide (lookC T.2.2.1.1 L l) (Classical.propDecidable _)) k v) + if bnQ T.2.2.1.1 (fun L => @decide (lookC T.2.2.1.1 L l) (Classical.propDecidable _)) k v (L, r) = true then 1 else 0 := fun k v => cnt_app
  have hsu := surE_s (p := (fun L => @decide (lookC T.2.2.1.1 L l) (Classical.propDecidable _))) (n := tbC T - 1) (s0 := s0) (ps := ps) (L := L) (r := r)
  have hq9 : (fun L => @decide (lookC T.2.2.1.1 L l) (Classical.propDecidable _)) L = true ↔ lookC T.2.2.1.1 L l := @decide_eq_true_iff _ (Classical.propDecidable _)
  refine r_aloadR0 dX12_sees_0 ?_
  refine m_getV (x := (f A 28)) zf_RX12_443 rfl dX12_sees_1 (shM_k hs) (rfl) ?_
  refine n_tabC (k := 13) (t := 254) dX12_sees_4 (by decide) rfl (by decide) (fun h4 => ?_) (fun h4 => False.elim (h4 (by omega)))
  refine r_aloadR0 dX12_sees_254 ?_
  refine r_iload1 dX12_sees_255 ?_
  refine r_aloadR0 dX12_sees_256 ?_
  refine m_getV (x := (f A 33)) zf_RX12_449 rfl dX12_sees_257 (shM_k hs) (rfl) ?_
  refine q_callV2 zm_RX12_471 dX12_sees_260 (shM_k hs) (by decide) rfl (Nat.le_of_ble_eq_true rfl) (Nat.le_of_ble_eq_true rfl) (Nat.le_of_ble_eq_true rfl) (Nat.le_of_ble_eq_true rfl) (Nat.le_of_ble_eq_true rfl) (s_X12_looksSo (L := L) (T := T) (t := tn) (s := s) (l := l) G hs hk hw hx hd11 hLi hr (by omega) ht4 hct (fun r260 e260 => ?_))
  refine t_ifeq (t := 271) dX12_sees_263 (by decide) (fun h263 => ?_) (fun h263 => ?_)
  · refine n_iconst dX12_sees_271 (by decide) (fun r271 e271 => ?_)
    refine m_zret dX12_sees_272 rfl (by omega) (Nat.le_of_ble_eq_true rfl) (Nat.le_of_ble_eq_true rfl) ?_
    have hno : ¬ (fun L => @decide (lookC T.2.2.1.1 L l) (Classical.propDecidable _)) L = true := fun e9_z => by rcases e260 with h9 | h9; exact absurd h9.1 (by omega); exact h9.2 (hq9.mp e9_z)
    rw [if_neg hno] at hcn hsu
    refine hQ _ _ j goF_rf (Or.inr ⟨by omega, i1_z, i2_z, by rw [hcn]; omega, i4_z, by rw [hsu]; exact i5_z, fun k v h8 h9 => ?_⟩)
    rw [hbn, i6_z k v h8 h9, if_neg (fun e9_z => hno (by unfold bnQ at e9_z; rw [Bool.and_eq_true] at e9_z; exact e9_z.1))]
    rfl
  · refine r_aloadR0 dX12_sees_266 ?_
    refine r_iload1 dX12_sees_267 ?_
    refine q_callV1 zm_RX12_474 dX12_sees_268 (shM_k hs) (by decide) rfl (Nat.le_of_ble_eq_true rfl) (Nat.le_of_ble_eq_true rfl) (Nat.le_of_ble_eq_true rfl) (Nat.le_of_ble_eq_true rfl) (Nat.le_of_ble_eq_true rfl) (s_X12_seesOne (T := T) (L := L) (r := r) (ps := ps) (dd := dd) G hs hw hdd hk hgo hr hx hB_z (by omega) (fun k v h8 h9 => by have := i6_z k v h8 h9; have := hcq k v; omega) (fun g268 o268 a1 a2 a3 => ?_))
    refine n_iconst dX12_sees_271 (by decide) (fun r271 e271 => ?_)
    refine m_zret dX12_sees_272 rfl (by omega) (Nat.le_of_ble_eq_true rfl) (Nat.le_of_ble_eq_true rfl) ?_
    have hyes : (fun L => @decide (lookC T.2.2.1.1 L l) (Classical.propDecidable _)) L = true := by rcases e260 with h9 | h9; exact hq9.mpr h9.2; exact absurd h9.1 (by omega)
    rw [if_pos hyes] at hcn hsu
    refine hQ _ g268 j (goF_m0 (frM_su o268 (by decide) (by decide))) (Or.inr ⟨by omega, by rw [o268.2.2 28 (by decide)]; exact i1_z, by rw [o268.2.2 33 (by decide)]; exact i2_z, by rw [hcn]; omega, tys_of i4_z o268 (by decide) (by decide) (fun _ _ => rfl), by rw [hsu, a2, i5_z], fun k v h8 h9 => ?_⟩)
    rw [hbn, a3 k v h8 h9, i6_z k v h8 h9]
    by_cases hc9 : k < L.length ∧ seenB T.2.2.1.1 L k = v
    · rw [if_pos hc9, if_pos (by unfold bnQ; rw [Bool.and_eq_true, Bool.and_eq_true]; exact ⟨hyes, decide_eq_true hc9.1, decide_eq_true hc9.2⟩)]; rfl
    · rw [if_neg hc9, if_neg (fun e9_z => hc9 (by unfold bnQ at e9_z; rw [Bool.and_eq_true, Bool.and_eq_true] at e9_z; exact ⟨of_decide_eq_true e9_z.2.1, of_decide_eq_true e9_z.2.2⟩))]; rfl
theorem see_see {g : zGT} {w : zW} {A : Nat} {T : zTb} {dd : Nat} {tr : Int} {ty : Nat → zTy} {tn s : Nat} {l : List Int} {s0 : Int32} (G : zGok g) (hs : shM w A) (hw : wfT T) (hdd : dd ≤ 5) (htn : tr = (tn : Nat)) (ht4 : tn < 4) (hty : ty tn = some (s, l)) : seeC g w A T dd (invS A (tbC T) T.2.2.1.1 tr ty (fun L => @decide (lookC T.2.2.1.1 L l) (Classical.propDecidable _)) s0) ((fun _ _ _ _ => False)) := fun f j ps L r x Q QX hk hgo hr hx hB_z hI hQ => s_X12_sees_see G hs hw hdd hk hgo hr hx hB_z htn ht4 hty hI hQ
