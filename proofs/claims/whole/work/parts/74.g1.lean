/-! the reference: all rows of so many folds, one behind the other -/
abbrev zRo : Type := zLy × List Nat
def kidP (L : zLy) (i t : Nat) : List (Nat × zLy) := (List.range i).flatMap (fun k => (List.range 4).map (fun way => (10 * (k + 1) + way, lyFold L (k + 1) way))) ++ (List.range t).map (fun way => (10 * (i + 1) + way, lyFold L (i + 1) way))
theorem kidP_t {L : zLy} {i t : Nat} : kidP L i (t + 1) = kidP L i t ++ [(10 * (i + 1) + t, lyFold L (i + 1) t)] := by
  unfold kidP
  rw [show List.range (t + 1) = List.range t ++ [t] from List.range_succ, List.map_append, ← List.append_assoc]
  rfl
theorem kidP_i {L : zLy} {i : Nat} : kidP L (i + 1) 0 = kidP L i 4 := by
  unfold kidP
  rw [show List.range (i + 1) = List.range i ++ [i] from List.range_succ, List.flatMap_append]
  simp
theorem kidP_e {L : zLy} : kidP L (L.length - 1) 0 = kidL L := by
  unfold kidP kidL
  simp
theorem kidP_d {L : zLy} {i t : Nat} : ∀ d, ∃ af, kidP L i (t + d) = kidP L i t ++ af := by
  intro d
  induction d with
  | zero => exact ⟨[], by simp⟩
  | succ d ih =>
    obtain ⟨af, e⟩ := ih
    exact ⟨af ++ [(10 * (i + 1) + (t + d), lyFold L (i + 1) (t + d))], by rw [← Nat.add_assoc, kidP_t, e, List.append_assoc]⟩
theorem kidP_k {L : zLy} {i : Nat} : ∀ d, ∃ af, kidP L (i + d) 0 = kidP L i 0 ++ af := by
  intro d
  induction d with
  | zero => exact ⟨[], by simp⟩
  | succ d ih =>
    obtain ⟨af, e⟩ := ih
    obtain ⟨af2, e2_z⟩ := kidP_d (L := L) (i := i + d) (t := 0) 4
    exact ⟨af ++ af2, by rw [← Nat.add_assoc, kidP_i, show (4 : Nat) = 0 + 4 from rfl, e2_z, e, List.append_assoc]⟩
theorem kidP_all {L : zLy} {i t : Nat} (hi_z : i + 1 < L.length) (ht : t < 4) : ∃ af, kidL L = kidP L i t ++ (10 * (i + 1) + t, lyFold L (i + 1) t) :: af := by
  obtain ⟨a1, e1_z⟩ := kidP_k (L := L) (i := i + 1) (L.length - 1 - (i + 1))
  obtain ⟨a2, e2_z⟩ := kidP_d (L := L) (i := i) (t := t + 1) (4 - (t + 1))
  rw [show i + 1 + (L.length - 1 - (i + 1)) = L.length - 1 by omega, kidP_e, kidP_i] at e1_z
  rw [show t + 1 + (4 - (t + 1)) = 4 by omega, kidP_t (t := t)] at e2_z
  exact ⟨a2 ++ a1, by rw [e1_z, e2_z, List.append_assoc, List.append_assoc]; rfl⟩
/-- the rows of m folds more -/
def rwF : Nat → zLy → List Nat → List zRo
  | 0, L, r => [(L, r)]
  | m + 1, L, r => (kidL L).flatMap (fun q => rwF m q.2 (r ++ [q.1]))
def rwP (m : Nat) (L : zLy) (r : List Nat) (i t : Nat) : List zRo := (kidP L i t).flatMap (fun q => rwF m q.2 (r ++ [q.1]))
theorem rwP_t {m i t : Nat} {L : zLy} {r : List Nat} : rwP m L r i (t + 1) = rwP m L r i t ++ rwF m (lyFold L (i + 1) t) (r ++ [10 * (i + 1) + t]) := by
  unfold rwP
  rw [kidP_t, List.flatMap_append, List.flatMap_cons, List.flatMap_nil, List.append_nil]
theorem rwP_i {m i : Nat} {L : zLy} {r : List Nat} : rwP m L r (i + 1) 0 = rwP m L r i 4 := by
  unfold rwP
  rw [kidP_i]
theorem rwP_e {m : Nat} {L : zLy} {r : List Nat} : rwP m L r (L.length - 1) 0 = rwF (m + 1) L r := by
  unfold rwP
  rw [kidP_e]
  rfl
theorem rwP_all {m i t : Nat} {L : zLy} {r : List Nat} (hi_z : i + 1 < L.length) (ht : t < 4) : ∃ af, rwF (m + 1) L r = rwP m L r i t ++ (rwF m (lyFold L (i + 1) t) (r ++ [10 * (i + 1) + t]) ++ af) := by
  obtain ⟨af, e⟩ := kidP_all hi_z ht
  refine ⟨af.flatMap (fun q => rwF m q.2 (r ++ [q.1])), ?_⟩
  show (kidL L).flatMap (fun q => rwF m q.2 (r ++ [q.1])) = _
  rw [e, List.flatMap_append, List.flatMap_cons]
  rfl
/-- where a search stands: depth, look, the row so far; what it leaves alone -/
def goAt (f : Nat → Nat → Int32) (A dd : Nat) (L : zLy) (r : List Nat) : Prop := ctLi (f (A + 6)) (dd + r.length) L ∧ (f A 29).toInt = (dd : Nat) ∧ (∀ i e, r[i]? = some e → (f (A + 11) i).toInt = ((e : Nat) : Int)) ∧ r.length ≤ 5
def goF (A d rl : Nat) (f f2_z : Nat → Nat → Int32) (j j2 : Nat → Nat → Int64) : Prop := frM A [6, 7, 8, 9, 11, 12, 14, 15, 17] [30, 31, 32, 34] f f2_z ∧ (∀ q, q ≠ A + 14 → j2 q = j q) ∧ (∀ i, i < 43 * (d + 1) → f2_z (A + 6) i = f (A + 6) i) ∧ (∀ i, i < rl → f2_z (A + 11) i = f (A + 11) i) ∧ ∀ i, f2_z (A + 15) i = f (A + 15) i ∨ f2_z (A + 15) i = f A 37
theorem goF_rf {A d rl : Nat} {f : Nat → Nat → Int32} {j : Nat → Nat → Int64} : goF A d rl f f j j := ⟨frM_rf, fun _ _ => rfl, fun _ _ => rfl, fun _ _ => rfl, fun _ => Or.inl rfl⟩
theorem goF_tr {A d rl : Nat} {f f2_z f3_z : Nat → Nat → Int32} {j j2 j3 : Nat → Nat → Int64} (h_z : goF A d rl f f2_z j j2) (h2 : goF A d rl f2_z f3_z j2 j3) : goF A d rl f f3_z j j3 := by
  refine ⟨frM_tr h_z.1 h2.1, fun q hq => (h2.2.1 q hq).trans (h_z.2.1 q hq), fun i hi_z => (h2.2.2.1 i hi_z).trans (h_z.2.2.1 i hi_z), fun i hi_z => (h2.2.2.2.1 i hi_z).trans (h_z.2.2.2.1 i hi_z), fun i => ?_⟩
  rcases h2.2.2.2.2 i with e | e
  · rw [e]; exact h_z.2.2.2.2 i
  · rw [e, h_z.1.2.2 37 (by decide)]; exact Or.inr rfl
theorem goF_su {A d rl d2 rl2 : Nat} {f f2_z : Nat → Nat → Int32} {j j2 : Nat → Nat → Int64} (h_z : goF A d rl f f2_z j j2) (h1 : d2 ≤ d) (h2 : rl2 ≤ rl) : goF A d2 rl2 f f2_z j j2 := ⟨h_z.1, h_z.2.1, fun i hi_z => h_z.2.2.1 i (by omega), fun i hi_z => h_z.2.2.2.1 i (by omega), h_z.2.2.2.2⟩
theorem m15_ch {A : Nat} {S K : List Nat} {f f1_z f2_z : Nat → Nat → Int32} (h_z : frM A S K f f1_z) (h1 : 15 ∉ S) (h2 : 37 ∉ K) (m : ∀ i, f2_z (A + 15) i = f1_z (A + 15) i ∨ f2_z (A + 15) i = f1_z A 37) : ∀ i, f2_z (A + 15) i = f (A + 15) i ∨ f2_z (A + 15) i = f A 37 := fun i => by
  have h9 := m i
  rw [h_z.2.1 15 (by decide) (by decide) h1, h_z.2.2 37 h2] at h9
  exact h9
theorem goF_kn {A d rl : Nat} {f f2_z : Nat → Nat → Int32} {j j2 : Nat → Nat → Int64} (h_z : goF A d rl f f2_z j j2) : f2_z (A + 1) = f (A + 1) := h_z.1.2.1 1 (by decide) (by decide) (by decide)
theorem goAt_of {A dd n : Nat} {f f2_z : Nat → Nat → Int32} {j j2 : Nat → Nat → Int64} {L : zLy} {r : List Nat} (hr : rch n L) (h_z : goAt f A dd L r) (hf : goF A (dd + r.length) r.length f f2_z j j2) : goAt f2_z A dd L r := by
  have hc_z := rch_cell hr
  have hn := rch_le hr
  refine ⟨ctLi_of h_z.1 (by omega) (by omega) hf.2.2.1, by rw [hf.1.2.2 29 (by decide)]; exact h_z.2.1, fun i e hi_z => ?_, h_z.2.2.2⟩
  rw [hf.2.2.2.1 i (List.getElem?_eq_some_iff.mp hi_z).1]
  exact h_z.2.2.1 i e hi_z
def seeC (g : zGT) (w : zW) (A : Nat) (T : zTb) (dd : Nat) (Inv : (Nat → Nat → Int32) → (Nat → Nat → Int64) → List zRo → Prop) (Fin : (Nat → Nat → Int32) → (Nat → Nat → Int64) → List zRo → zRo → Prop) : Prop :=
  ∀ (f : Nat → Nat → Int32) (j : Nat → Nat → Int64) (ps : List zRo) (L : zLy) (r : List Nat) (x : Int32) (Q : Option Value → zW → Prop) (QX : String → zW → Prop), ctKn (f (A + 1)) T → goAt f A dd L r → rch (tbC T) L → x.toInt = ((dd + r.length : Nat) : Int) → ps.length < 10000000 → Inv f j ps → (∀ (b : Int32) f2_z j2, goF A (dd + r.length) r.length f f2_z j j2 → (b.toInt = 1 ∧ Fin f2_z j2 ps (L, r) ∨ b.toInt = 0 ∧ Inv f2_z j2 (ps ++ [(L, r)])) → Q (some (.int b)) (zM w f2_z j2)) → zC g 9 yX12_sees cX12_sees 3 (some .boolean) [.ref A, .int x] (zM w f j) (0, 0) Q QX
set_option maxHeartbeats 4000000 in
set_option maxRecDepth 100000 in
theorem s_X12_goes_0 {g : zGT} {w : zW} {f : Nat → Nat → Int32} {j : Nat → Nat → Int64} {A : Nat} {T : zTb} {dd : Nat} {L : zLy} {r : List Nat} {ps : List zRo} {x y : Int32} {Inv : (Nat → Nat → Int32) → (Nat → Nat → Int64) → List zRo → Prop} {Fin : (Nat → Nat → Int32) → (Nat → Nat → Int64) → List zRo → zRo → Prop} {Q : Option Value → zW → Prop} {QX : String → zW → Prop} (G : zGok g) (hs : shM w A) (hw : wfT T) (hdd : dd ≤ 5) (hS_z : seeC g w A T dd Inv Fin) (hk : ctKn (f (A + 1)) T) (hgo : goAt f A dd L r) (hr : rch (tbC T) L) (hx : x.toInt = ((dd + r.length : Nat) : Int)) (hy : y.toInt = 0) (hrm : r.length + 0 ≤ 5) (hIv : ∀ (f1_z f2_z : Nat → Nat → Int32) (j1 : Nat → Nat → Int64) (ps1 : List zRo), frM A [6, 11] [] f1_z f2_z → Inv f1_z j1 ps1 → Inv f2_z j1 ps1) (hI : Inv f j ps) (hB_z : (ps ++ rwF 0 L r).length ≤ 10000000) (hQ : ∀ (b : Int32) f2_z j2, goF A (dd + r.length) r.length f f2_z j j2 → (b.toInt = 1 ∧ (∃ qs z rest, ps ++ rwF 0 L r = qs ++ z :: rest ∧ Fin f2_z j2 qs z) ∨ b.toInt = 0 ∧ Inv f2_z j2 (ps ++ rwF 0 L r)) → Q (some (.int b)) (zM w f2_z j2)) : zC g 10 yX12_goes cX12_goes 5 (some .boolean) [.ref A, .int x, .int y] (zM w f j) (0, 0) Q QX := by
  refine zC_of G (by decide +kernel) (Nat.le_of_ble_eq_true rfl) ?_
  refine r_iload2 dX12_goes_0 ?_
  refine t_ifne (t := 10) dX12_goes_1 (by decide) (fun h1 => False.elim (by omega)) (fun h1 => ?_)
  refine r_aloadR0 dX12_goes_4 ?_
  refine r_iload1 dX12_goes_5 ?_
  refine q_callV1 zm_RX12_416 dX12_goes_6 (shM_k hs) (by decide) rfl (Nat.le_of_ble_eq_true rfl) (Nat.le_of_ble_eq_true rfl) (Nat.le_of_ble_eq_true rfl) (Nat.le_of_ble_eq_true rfl) (Nat.le_of_ble_eq_true rfl) (hS_z f j ps L r x _ _ hk hgo hr hx (by have h9 : (ps ++ [(L, r)]).length ≤ 10000000 := hB_z; rw [List.length_append, List.length_singleton] at h9; omega) hI (fun r6 g6 j6 o6 c6_z => ?_))
  refine m_zret dX12_goes_9 rfl (by rcases c6_z with h9 | h9; exact Or.inr h9.1; exact Or.inl h9.1) (Nat.le_of_ble_eq_true rfl) (Nat.le_of_ble_eq_true rfl) ?_
  refine hQ _ g6 j6 o6 ?_
  rcases c6_z with h9 | h9
  · exact Or.inl ⟨h9.1, ps, (L, r), [], rfl, h9.2⟩
  · exact Or.inr h9
set_option maxHeartbeats 4000000 in
set_option maxRecDepth 100000 in
theorem s_X12_goes_1 {g : zGT} {w : zW} {f : Nat → Nat → Int32} {j : Nat → Nat → Int64} {A : Nat} {T : zTb} {dd : Nat} {L : zLy} {r : List Nat} {ps : List zRo} {x y : Int32} {Inv : (Nat → Nat → Int32) → (Nat → Nat → Int64) → List zRo → Prop} {Fin : (Nat → Nat → Int32) → (Nat → Nat → Int64) → List zRo → zRo → Prop} {Q : Option Value → zW → Prop} {QX : String → zW → Prop} (G : zGok g) (hs : shM w A) (hw : wfT T) (hdd : dd ≤ 5) (hS_z : seeC g w A T dd Inv Fin) (hk : ctKn (f (A + 1)) T) (hgo : goAt f A dd L r) (hr : rch (tbC T) L) (hx : x.toInt = ((dd + r.length : Nat) : Int)) (hy : y.toInt = 1) (hrm : r.length + 1 ≤ 5) (hIv : ∀ (f1_z f2_z : Nat → Nat → Int32) (j1 : Nat → Nat → Int64) (ps1 : List zRo), frM A [6, 11] [] f1_z f2_z → Inv f1_z j1 ps1 → Inv f2_z j1 ps1) (hI : Inv f j ps) (hB_z : (ps ++ rwF 1 L r).length ≤ 10000000) (hQ : ∀ (b : Int32) f2_z j2, goF A (dd + r.length) r.length f f2_z j j2 → (b.toInt = 1 ∧ (∃ qs z rest, ps ++ rwF 1 L r = qs ++ z :: rest ∧ Fin f2_z j2 qs z) ∨ b.toInt = 0 ∧ Inv f2_z j2 (ps ++ rwF 1 L r)) → Q (some (.int b)) (zM w f2_z j2)) : zC g 11 yX12_goes cX12_goes 5 (some .boolean) [.ref A, .int x, .int y] (zM w f j) (0, 0) Q QX := by
  refine zC_of G (by decide +kernel) (Nat.le_of_ble_eq_true rfl) ?_
  have hn6 : tbC T ≤ 6 := hw.2.1
  have hrc := rch_cell hr
  have hLn : L.length ≤ 6 := Nat.le_trans hrc.2.2.2.2 hn6
  have hLf : L.flatten.length ≤ 6 := by rw [hrc.1]; exact hn6
  have hbd := rch_bd hr
  have hg0 := hgo
  obtain ⟨q1_z, q2_z, q3_z, q4_z⟩ := hg0
  have lp : ∀ (mz : Nat) (u : Int32) (i : Nat) (f2_z : Nat → Nat → Int32) (j2 : Nat → Nat → Int64) (v4_ : Option Value), u.toInt = (i : Nat) + 1 → i ≤ L.length - 1 → goF A (dd + r.length) r.length f f2_z j j2 → Inv f2_z j2 (ps ++ rwP 0 L r i 0) → L.length - i < mz → zR (zV g 11 yX12_goes 5 (some .boolean) (0, 0) Q QX) cX12_goes yX12_goes.cls 12 [some (.ref A), some (.int x), some (.int y), some (.int u), v4_] [] (zM w f2_z j2) (0, 0) := by
    intro mz
    induction mz with
    | zero =>
      intro u i f2_z j2 v4_ hii hib ho0 hI2 hmz
      exact absurd hmz (Nat.not_lt_zero _)
    | succ mz ih =>
      intro u i f2_z j2 v4_ hii hib ho0 hI2 hmz
      have hga := goAt_of hr hgo ho0
      have hll : (f2_z (A + 6) (43 * (dd + r.length))).toInt = (L.length : Nat) := hga.1.1
      rcases Nat.lt_or_ge (i + 1) L.length with hi_z | hi_z
      · obtain ⟨mo, hmo⟩ : ∃ mo, mo = mz := ⟨_, rfl⟩
        rw [← hmo] at hmz
        have iho := ih
        rw [← hmo] at iho
        have lq : ∀ (mz : Nat) (u : Int32) (v : Int32) (i : Nat) (t : Nat) (f2_z : Nat → Nat → Int32) (j2 : Nat → Nat → Int64), v.toInt = (t : Nat) → t ≤ 4 → i + 1 < L.length → u.toInt = (i : Nat) + 1 ∧ L.length - i < mo + 1 → goF A (dd + r.length) r.length f f2_z j j2 → Inv f2_z j2 (ps ++ rwP 0 L r i t) → 4 - t < mz → zR (zV g 11 yX12_goes 5 (some .boolean) (0, 0) Q QX) cX12_goes yX12_goes.cls 24 [some (.ref A), some (.int x), some (.int y), some (.int u), some (.int v)] [] (zM w f2_z j2) (0, 0) := by
          intro mz
          induction mz with
          | zero =>
            intro u v i t f2_z j2 htt ht4b hi_z hii ho hI2 hmz
            exact absurd hmz (Nat.not_lt_zero _)
          | succ mz ih =>
            intro u v i t f2_z j2 htt ht4b hi_z hii ho hI2 hmz
            have hga := goAt_of hr hgo ho
            have hk2 : ctKn (f2_z (A + 1)) T := by rw [goF_kn ho]; exact hk
            obtain ⟨a1, a2, a3, a4⟩ := hga
            rcases Nat.lt_or_ge t 4 with ht4 | ht4
            · obtain ⟨af, haf⟩ := rwP_all (m := 0) (r := r) hi_z ht4
              have hkr : rch (tbC T) (lyFold L (i + 1) t) := rch_fold hr (by omega) hi_z ht4
              have hBk : (ps ++ rwP 0 L r i t ++ rwF 0 (lyFold L (i + 1) t) (r ++ [10 * (i + 1) + t])).length ≤ 10000000 := by
                rw [haf, List.length_append, List.length_append, List.length_append] at hB_z
                rw [List.length_append, List.length_append]
                omega
              refine r_iload4 dX12_goes_24 ?_
              refine n_iconst dX12_goes_26 (by decide) (fun r26 e26_z => ?_)
              refine t_icge (t := 77) dX12_goes_27 (by decide) (fun h27 => False.elim (by omega)) (fun h27 => ?_)
              refine r_aloadR0 dX12_goes_30 ?_
              refine m_getR (q := (A + 11)) zf_RX12_45 rfl dX12_goes_31 (shM_k hs) (shM_p11 hs) ?_
              refine r_iload1 dX12_goes_34 ?_
              refine r_aloadR0 dX12_goes_35 ?_
              refine m_getV (x := (f2_z A 29)) zf_RX12_419 rfl dX12_goes_36 (shM_k hs) (rfl) ?_
              refine n_isub dX12_goes_39 (by omega) (fun r39 e39 => ?_)
              refine n_bipush dX12_goes_40 (by decide) (fun r40 e40 => ?_)
              refine r_iload3 dX12_goes_42 ?_
              refine n_imulc dX12_goes_43 e40 (by omega) (fun r43 e43 => ?_)
              refine r_iload4 dX12_goes_44 ?_
              refine n_iadd dX12_goes_46 (by omega) (fun r46 e46 => ?_)
              refine m_iast (k := r.length) dX12_goes_47 (shM_k11 hs) (shM_n11 hs) (by omega) (by omega) ?_
              have hv47 : r46.toInt = ((10 * (i + 1) + t : Nat) : Int) := by omega
              obtain ⟨g47, hg47⟩ : ∃ g9, g9 = zu f2_z (A + 11) r.length r46 := ⟨_, rfl⟩
              rw [← hg47]
              have o47 : frM A [11] [] f2_z g47 := by rw [hg47]; exact frM_zr (r := 11) frM_rf (by decide) (by decide) (by decide)
              have c47 : ctLi (g47 (A + 6)) (dd + r.length) L := by rw [o47.2.1 6 (by decide) (by decide) (by decide)]; exact a1
              refine r_aloadR0 dX12_goes_48 ?_
              refine r_iload1 dX12_goes_49 ?_
              refine r_iload3 dX12_goes_50 ?_
              refine r_iload4 dX12_goes_51 ?_
              refine q_callV3 zm_RX12_280 dX12_goes_53 (shM_k hs) (by decide) rfl (Nat.le_of_ble_eq_true rfl) (Nat.le_of_ble_eq_true rfl) (Nat.le_of_ble_eq_true rfl) (Nat.le_of_ble_eq_true rfl) (Nat.le_of_ble_eq_true rfl) (s_X12_folds (d := dd + r.length) (li := i + 1) (wy := t) (L := L) G hs hx (by omega) c47 hLn hLf hbd (by omega) (by omega) hi_z htt ht4 (fun g53 o53 c53 l53 => ?_))
              have hkk : ctKn (g53 (A + 1)) T := by rw [o53.2.1 1 (by decide) (by decide) (by decide), o47.2.1 1 (by decide) (by decide) (by decide)]; exact hk2
              have ofk : goF A (dd + r.length) r.length f2_z g53 j2 j2 := ⟨frM_tr (frM_su o47 (by decide) (by decide)) (frM_su o53 (by decide) (by decide)), fun _ _ => rfl, fun i9_z hi9 => by rw [l53 i9_z hi9, o47.2.1 6 (by decide) (by decide) (by decide)], fun i9_z hi9 => by rw [o53.2.1 11 (by decide) (by decide) (by decide), hg47, zu_nn (Or.inr (by omega))], fun i9_z => Or.inl (by rw [o53.2.1 15 (by decide) (by decide) (by decide), o47.2.1 15 (by decide) (by decide) (by decide)])⟩
              have hgk : goAt g53 A dd (lyFold L (i + 1) t) (r ++ [10 * (i + 1) + t]) := by
                refine ⟨by rw [List.length_append, List.length_singleton]; exact c53, by rw [ofk.1.2.2 29 (by decide)]; exact a2, fun i9_z e9_z hi9 => ?_, by rw [List.length_append, List.length_singleton]; omega⟩
                rcases Nat.lt_or_ge i9_z r.length with h9 | h9
                · rw [List.getElem?_append_left h9] at hi9
                  rw [ofk.2.2.2.1 i9_z h9]; exact a3 i9_z e9_z hi9
                · have h91 : i9_z = r.length := by have := (List.getElem?_eq_some_iff.mp hi9).1; rw [List.length_append, List.length_singleton] at this; omega
                  rw [h91, List.getElem?_append_right (Nat.le_refl _), Nat.sub_self] at hi9
                  have h92 : 10 * (i + 1) + t = e9_z := Option.some.inj hi9
                  rw [h91, o53.2.1 11 (by decide) (by decide) (by decide), hg47, zu_at, ← h92]; exact hv47
              refine r_aloadR0 dX12_goes_56 ?_
              refine r_iload1 dX12_goes_57 ?_
              refine n_iconst dX12_goes_58 (by decide) (fun r58 e58 => ?_)
              refine n_iadd dX12_goes_59 (by omega) (fun r59 e59 => ?_)
              refine r_iload2 dX12_goes_60 ?_
              refine n_iconst dX12_goes_61 (by decide) (fun r61 e61 => ?_)
              refine n_isub dX12_goes_62 (by omega) (fun r62 e62 => ?_)
              refine q_callV2 zm_RX12_422 dX12_goes_63 (shM_k hs) (by decide) rfl (Nat.le_of_ble_eq_true rfl) (Nat.le_of_ble_eq_true rfl) (Nat.le_of_ble_eq_true rfl) (Nat.le_of_ble_eq_true rfl) (Nat.le_of_ble_eq_true rfl) (s_X12_goes_0 (T := T) (dd := dd) (L := lyFold L (i + 1) t) (r := r ++ [10 * (i + 1) + t]) (ps := ps ++ rwP 0 L r i t) (Inv := Inv) (Fin := Fin) G hs hw hdd hS_z hkk hgk hkr (by rw [List.length_append, List.length_singleton]; omega) (by omega) (by rw [List.length_append, List.length_singleton]; omega) hIv (hIv _ _ _ _ (frM_tr (frM_su o47 (by decide) (by decide)) (frM_su o53 (by decide) (by decide))) hI2) hBk (fun r63 g63 j63 o63 c63 => ?_))
              rw [List.length_append, List.length_singleton] at o63
              have o6x : goF A (dd + r.length) r.length f g63 j j63 := goF_tr ho (goF_tr ofk (goF_su o63 (by omega) (by omega)))
              refine t_ifeq (t := 71) dX12_goes_66 (by decide) (fun h66 => ?_) (fun h66 => ?_)
              · refine n_iinc4 dX12_goes_71 (by decide) rfl (by omega) (fun r71 e71_z => ?_)
                refine r_goto (t := 24) dX12_goes_74 (by decide) ?_
                refine ih _ _ i (t + 1) g63 j63 (by omega) (by omega) hi_z hii o6x ?_ (by omega)
                rcases c63 with h9 | ⟨_, h9⟩
                · exact absurd h9.1 (by omega)
                · rw [rwP_t, ← List.append_assoc]; exact h9
              · refine n_iconst dX12_goes_69 (by decide) (fun r69 e69 => ?_)
                refine m_zret dX12_goes_70 rfl (by omega) (Nat.le_of_ble_eq_true rfl) (Nat.le_of_ble_eq_true rfl) ?_
                refine hQ _ g63 j63 o6x (Or.inl ⟨by omega, ?_⟩)
                rcases c63 with ⟨_, qs, z, rest, h1, h2⟩ | h9
                · exact ⟨qs, z, rest ++ af, by rw [haf, ← List.append_assoc, ← List.append_assoc, h1, List.append_assoc]; rfl, h2⟩
                · exact absurd h9.1 (by omega)
            · refine r_iload4 dX12_goes_24 ?_
              refine n_iconst dX12_goes_26 (by decide) (fun r26 e26_z => ?_)
              refine t_icge (t := 77) dX12_goes_27 (by decide) (fun h27 => ?_) (fun h27 => False.elim (by omega))
              refine n_iinc3 dX12_goes_77 (by decide) rfl (by omega) (fun r77 e77 => ?_)
              refine r_goto (t := 12) dX12_goes_80 (by decide) ?_
              refine iho _ (i + 1) f2_z j2 _ (by omega) (by omega) ho ?_ (by omega)
              have h4t : t = 4 := by omega
              rw [h4t] at hI2
              rw [rwP_i]; exact hI2
        refine r_iload3 dX12_goes_12 ?_
        refine r_aloadR0 dX12_goes_13 ?_
        refine r_iload1 dX12_goes_14 ?_
        refine q_callV1 zm_RX12_256 dX12_goes_15 (shM_k hs) (by decide) rfl (Nat.le_of_ble_eq_true rfl) (Nat.le_of_ble_eq_true rfl) (Nat.le_of_ble_eq_true rfl) (Nat.le_of_ble_eq_true rfl) (Nat.le_of_ble_eq_true rfl) (s_X12_columnsAt (d := dd + r.length) (v := L.length) G hs hx (by omega) hll (fun r15 e15_z => ?_))
        refine t_icge (t := 83) dX12_goes_18 (by decide) (fun h18 => False.elim (by omega)) (fun h18 => ?_)
        refine n_iconst dX12_goes_21 (by decide) (fun r21 e21_z => ?_)
        refine r_istore4 dX12_goes_22 rfl ?_
        exact lq 5 _ _ i 0 f2_z j2 (by omega) (by omega) hi_z ⟨by omega, by omega⟩ ho0 hI2 (by omega)
      · refine r_iload3 dX12_goes_12 ?_
        refine r_aloadR0 dX12_goes_13 ?_
        refine r_iload1 dX12_goes_14 ?_
        refine q_callV1 zm_RX12_256 dX12_goes_15 (shM_k hs) (by decide) rfl (Nat.le_of_ble_eq_true rfl) (Nat.le_of_ble_eq_true rfl) (Nat.le_of_ble_eq_true rfl) (Nat.le_of_ble_eq_true rfl) (Nat.le_of_ble_eq_true rfl) (s_X12_columnsAt (d := dd + r.length) (v := L.length) G hs hx (by omega) hll (fun r15 e15_z => ?_))
        refine t_icge (t := 83) dX12_goes_18 (by decide) (fun h18 => ?_) (fun h18 => False.elim (by omega))
        refine n_iconst dX12_goes_83 (by decide) (fun r83 e83 => ?_)
        refine m_zret dX12_goes_84 rfl (by omega) (Nat.le_of_ble_eq_true rfl) (Nat.le_of_ble_eq_true rfl) ?_
        refine hQ _ f2_z j2 ho0 (Or.inr ⟨by omega, ?_⟩)
        rw [← rwP_e, show L.length - 1 = i by omega]; exact hI2
  refine r_iload2 dX12_goes_0 ?_
  refine t_ifne (t := 10) dX12_goes_1 (by decide) (fun h1 => ?_) (fun h1 => False.elim (by omega))
  refine n_iconst dX12_goes_10 (by decide) (fun r10 e10_z => ?_)
  refine r_istore3 dX12_goes_11 rfl ?_
  exact lp (L.length + 1) _ 0 f j _ (by omega) (by omega) goF_rf (by unfold rwP kidP; simpa using hI) (by omega)
set_option maxHeartbeats 4000000 in
set_option maxRecDepth 100000 in
theorem s_X12_goes_2 {g : zGT} {w : zW} {f : Nat → Nat → Int32} {j : Nat → Nat → Int64} {A : Nat} {T : zTb} {dd : Nat} {L : zLy} {r : List Nat} {ps : List zRo} {x y : Int32} {Inv : (Nat → Nat → Int32) → (Nat → Nat → Int64) → List zRo → Prop} {Fin : (Nat → Nat → Int32) → (Nat → Nat → Int64) → List zRo → zRo → Prop} {Q : Option Value → zW → Prop} {QX : String → zW → Prop} (G : zGok g) (hs : shM w A) (hw : wfT T) (hdd : dd ≤ 5) (hS_z : seeC g w A T dd Inv Fin) (hk : ctKn (f (A + 1)) T) (hgo : goAt f A dd L r) (hr : rch (tbC T) L) (hx : x.toInt = ((dd + r.length : Nat) : Int)) (hy : y.toInt = 2) (hrm : r.length + 2 ≤ 5) (hIv : ∀ (f1_z f2_z : Nat → Nat → Int32) (j1 : Nat → Nat → Int64) (ps1 : List zRo), frM A [6, 11] [] f1_z f2_z → Inv f1_z j1 ps1 → Inv f2_z j1 ps1) (hI : Inv f j ps) (hB_z : (ps ++ rwF 2 L r).length ≤ 10000000) (hQ : ∀ (b : Int32) f2_z j2, goF A (dd + r.length) r.length f f2_z j j2 → (b.toInt = 1 ∧ (∃ qs z rest, ps ++ rwF 2 L r = qs ++ z :: rest ∧ Fin f2_z j2 qs z) ∨ b.toInt = 0 ∧ Inv f2_z j2 (ps ++ rwF 2 L r)) → Q (some (.int b)) (zM w f2_z j2)) : zC g 12 yX12_goes cX12_goes 5 (some .boolean) [.ref A, .int x, .int y] (zM w f j) (0, 0) Q QX := by
  refine zC_of G (by decide +kernel) (Nat.le_of_ble_eq_true rfl) ?_
  have hn6 : tbC T ≤ 6 := hw.2.1
  have hrc := rch_cell hr
  have hLn : L.length ≤ 6 := Nat.le_trans hrc.2.2.2.2 hn6
  have hLf : L.flatten.length ≤ 6 := by rw [hrc.1]; exact hn6
  have hbd := rch_bd hr
  have hg0 := hgo
  obtain ⟨q1_z, q2_z, q3_z, q4_z⟩ := hg0
  have lp : ∀ (mz : Nat) (u : Int32) (i : Nat) (f2_z : Nat → Nat → Int32) (j2 : Nat → Nat → Int64) (v4_ : Option Value), u.toInt = (i : Nat) + 1 → i ≤ L.length - 1 → goF A (dd + r.length) r.length f f2_z j j2 → Inv f2_z j2 (ps ++ rwP 1 L r i 0) → L.length - i < mz → zR (zV g 12 yX12_goes 5 (some .boolean) (0, 0) Q QX) cX12_goes yX12_goes.cls 12 [some (.ref A), some (.int x), some (.int y), some (.int u), v4_] [] (zM w f2_z j2) (0, 0) := by
    intro mz
    induction mz with
    | zero =>
      intro u i f2_z j2 v4_ hii hib ho0 hI2 hmz
      exact absurd hmz (Nat.not_lt_zero _)
    | succ mz ih =>
      intro u i f2_z j2 v4_ hii hib ho0 hI2 hmz
      have hga := goAt_of hr hgo ho0
      have hll : (f2_z (A + 6) (43 * (dd + r.length))).toInt = (L.length : Nat) := hga.1.1
      rcases Nat.lt_or_ge (i + 1) L.length with hi_z | hi_z
      · obtain ⟨mo, hmo⟩ : ∃ mo, mo = mz := ⟨_, rfl⟩
        rw [← hmo] at hmz
        have iho := ih
        rw [← hmo] at iho
        have lq : ∀ (mz : Nat) (u : Int32) (v : Int32) (i : Nat) (t : Nat) (f2_z : Nat → Nat → Int32) (j2 : Nat → Nat → Int64), v.toInt = (t : Nat) → t ≤ 4 → i + 1 < L.length → u.toInt = (i : Nat) + 1 ∧ L.length - i < mo + 1 → goF A (dd + r.length) r.length f f2_z j j2 → Inv f2_z j2 (ps ++ rwP 1 L r i t) → 4 - t < mz → zR (zV g 12 yX12_goes 5 (some .boolean) (0, 0) Q QX) cX12_goes yX12_goes.cls 24 [some (.ref A), some (.int x), some (.int y), some (.int u), some (.int v)] [] (zM w f2_z j2) (0, 0) := by
          intro mz
          induction mz with
          | zero =>
            intro u v i t f2_z j2 htt ht4b hi_z hii ho hI2 hmz
            exact absurd hmz (Nat.not_lt_zero _)
          | succ mz ih =>
            intro u v i t f2_z j2 htt ht4b hi_z hii ho hI2 hmz
            have hga := goAt_of hr hgo ho
            have hk2 : ctKn (f2_z (A + 1)) T := by rw [goF_kn ho]; exact hk
            obtain ⟨a1, a2, a3, a4⟩ := hga
            rcases Nat.lt_or_ge t 4 with ht4 | ht4
            · obtain ⟨af, haf⟩ := rwP_all (m := 1) (r := r) hi_z ht4
              have hkr : rch (tbC T) (lyFold L (i + 1) t) := rch_fold hr (by omega) hi_z ht4
              have hBk : (ps ++ rwP 1 L r i t ++ rwF 1 (lyFold L (i + 1) t) (r ++ [10 * (i + 1) + t])).length ≤ 10000000 := by
                rw [haf, List.length_append, List.length_append, List.length_append] at hB_z
                rw [List.length_append, List.length_append]
                omega
              refine r_iload4 dX12_goes_24 ?_
              refine n_iconst dX12_goes_26 (by decide) (fun r26 e26_z => ?_)
              refine t_icge (t := 77) dX12_goes_27 (by decide) (fun h27 => False.elim (by omega)) (fun h27 => ?_)
              refine r_aloadR0 dX12_goes_30 ?_
              refine m_getR (q := (A + 11)) zf_RX12_45 rfl dX12_goes_31 (shM_k hs) (shM_p11 hs) ?_
              refine r_iload1 dX12_goes_34 ?_
              refine r_aloadR0 dX12_goes_35 ?_
              refine m_getV (x := (f2_z A 29)) zf_RX12_419 rfl dX12_goes_36 (shM_k hs) (rfl) ?_
              refine n_isub dX12_goes_39 (by omega) (fun r39 e39 => ?_)
              refine n_bipush dX12_goes_40 (by decide) (fun r40 e40 => ?_)
              refine r_iload3 dX12_goes_42 ?_
              refine n_imulc dX12_goes_43 e40 (by omega) (fun r43 e43 => ?_)
              refine r_iload4 dX12_goes_44 ?_
              refine n_iadd dX12_goes_46 (by omega) (fun r46 e46 => ?_)
              refine m_iast (k := r.length) dX12_goes_47 (shM_k11 hs) (shM_n11 hs) (by omega) (by omega) ?_
              have hv47 : r46.toInt = ((10 * (i + 1) + t : Nat) : Int) := by omega
              obtain ⟨g47, hg47⟩ : ∃ g9, g9 = zu f2_z (A + 11) r.length r46 := ⟨_, rfl⟩
              rw [← hg47]
              have o47 : frM A [11] [] f2_z g47 := by rw [hg47]; exact frM_zr (r := 11) frM_rf (by decide) (by decide) (by decide)
              have c47 : ctLi (g47 (A + 6)) (dd + r.length) L := by rw [o47.2.1 6 (by decide) (by decide) (by decide)]; exact a1
              refine r_aloadR0 dX12_goes_48 ?_
              refine r_iload1 dX12_goes_49 ?_
              refine r_iload3 dX12_goes_50 ?_
              refine r_iload4 dX12_goes_51 ?_
              refine q_callV3 zm_RX12_280 dX12_goes_53 (shM_k hs) (by decide) rfl (Nat.le_of_ble_eq_true rfl) (Nat.le_of_ble_eq_true rfl) (Nat.le_of_ble_eq_true rfl) (Nat.le_of_ble_eq_true rfl) (Nat.le_of_ble_eq_true rfl) (s_X12_folds (d := dd + r.length) (li := i + 1) (wy := t) (L := L) G hs hx (by omega) c47 hLn hLf hbd (by omega) (by omega) hi_z htt ht4 (fun g53 o53 c53 l53 => ?_))
              have hkk : ctKn (g53 (A + 1)) T := by rw [o53.2.1 1 (by decide) (by decide) (by decide), o47.2.1 1 (by decide) (by decide) (by decide)]; exact hk2
              have ofk : goF A (dd + r.length) r.length f2_z g53 j2 j2 := ⟨frM_tr (frM_su o47 (by decide) (by decide)) (frM_su o53 (by decide) (by decide)), fun _ _ => rfl, fun i9_z hi9 => by rw [l53 i9_z hi9, o47.2.1 6 (by decide) (by decide) (by decide)], fun i9_z hi9 => by rw [o53.2.1 11 (by decide) (by decide) (by decide), hg47, zu_nn (Or.inr (by omega))], fun i9_z => Or.inl (by rw [o53.2.1 15 (by decide) (by decide) (by decide), o47.2.1 15 (by decide) (by decide) (by decide)])⟩
              have hgk : goAt g53 A dd (lyFold L (i + 1) t) (r ++ [10 * (i + 1) + t]) := by
                refine ⟨by rw [List.length_append, List.length_singleton]; exact c53, by rw [ofk.1.2.2 29 (by decide)]; exact a2, fun i9_z e9_z hi9 => ?_, by rw [List.length_append, List.length_singleton]; omega⟩
                rcases Nat.lt_or_ge i9_z r.length with h9 | h9
                · rw [List.getElem?_append_left h9] at hi9
                  rw [ofk.2.2.2.1 i9_z h9]; exact a3 i9_z e9_z hi9
                · have h91 : i9_z = r.length := by have := (List.getElem?_eq_some_iff.mp hi9).1; rw [List.length_append, List.length_singleton] at this; omega
                  rw [h91, List.getElem?_append_right (Nat.le_refl _), Nat.sub_self] at hi9
                  have h92 : 10 * (i + 1) + t = e9_z := Option.some.inj hi9
                  rw [h91, o53.2.1 11 (by decide) (by decide) (by decide), hg47, zu_at, ← h92]; exact hv47
              refine r_aloadR0 dX12_goes_56 ?_
              refine r_iload1 dX12_goes_57 ?_
              refine n_iconst dX12_goes_58 (by decide) (fun r58 e58 => ?_)
              refine n_iadd dX12_goes_59 (by omega) (fun r59 e59 => ?_)
              refine r_iload2 dX12_goes_60 ?_
              refine n_iconst dX12_goes_61 (by decide) (fun r61 e61 => ?_)
              refine n_isub dX12_goes_62 (by omega) (fun r62 e62 => ?_)
              refine q_callV2 zm_RX12_422 dX12_goes_63 (shM_k hs) (by decide) rfl (Nat.le_of_ble_eq_true rfl) (Nat.le_of_ble_eq_true rfl) (Nat.le_of_ble_eq_true rfl) (Nat.le_of_ble_eq_true rfl) (Nat.le_of_ble_eq_true rfl) (s_X12_goes_1 (T := T) (dd := dd) (L := lyFold L (i + 1) t) (r := r ++ [10 * (i + 1) + t]) (ps := ps ++ rwP 1 L r i t) (Inv := Inv) (Fin := Fin) G hs hw hdd hS_z hkk hgk hkr (by rw [List.length_append, List.length_singleton]; omega) (by omega) (by rw [List.length_append, List.length_singleton]; omega) hIv (hIv _ _ _ _ (frM_tr (frM_su o47 (by decide) (by decide)) (frM_su o53 (by decide) (by decide))) hI2) hBk (fun r63 g63 j63 o63 c63 => ?_))
              rw [List.length_append, List.length_singleton] at o63
              have o6x : goF A (dd + r.length) r.length f g63 j j63 := goF_tr ho (goF_tr ofk (goF_su o63 (by omega) (by omega)))
              refine t_ifeq (t := 71) dX12_goes_66 (by decide) (fun h66 => ?_) (fun h66 => ?_)
              · refine n_iinc4 dX12_goes_71 (by decide) rfl (by omega) (fun r71 e71_z => ?_)
                refine r_goto (t := 24) dX12_goes_74 (by decide) ?_
                refine ih _ _ i (t + 1) g63 j63 (by omega) (by omega) hi_z hii o6x ?_ (by omega)
                rcases c63 with h9 | ⟨_, h9⟩
                · exact absurd h9.1 (by omega)
                · rw [rwP_t, ← List.append_assoc]; exact h9
              · refine n_iconst dX12_goes_69 (by decide) (fun r69 e69 => ?_)
                refine m_zret dX12_goes_70 rfl (by omega) (Nat.le_of_ble_eq_true rfl) (Nat.le_of_ble_eq_true rfl) ?_
                refine hQ _ g63 j63 o6x (Or.inl ⟨by omega, ?_⟩)
                rcases c63 with ⟨_, qs, z, rest, h1, h2⟩ | h9
                · exact ⟨qs, z, rest ++ af, by rw [haf, ← List.append_assoc, ← List.append_assoc, h1, List.append_assoc]; rfl, h2⟩
                · exact absurd h9.1 (by omega)
            · refine r_iload4 dX12_goes_24 ?_
              refine n_iconst dX12_goes_26 (by decide) (fun r26 e26_z => ?_)
              refine t_icge (t := 77) dX12_goes_27 (by decide) (fun h27 => ?_) (fun h27 => False.elim (by omega))
              refine n_iinc3 dX12_goes_77 (by decide) rfl (by omega) (fun r77 e77 => ?_)
              refine r_goto (t := 12) dX12_goes_80 (by decide) ?_
              refine iho _ (i + 1) f2_z j2 _ (by omega) (by omega) ho ?_ (by omega)
              have h4t : t = 4 := by omega
              rw [h4t] at hI2
              rw [rwP_i]; exact hI2
        refine r_iload3 dX12_goes_12 ?_
        refine r_aloadR0 dX12_goes_13 ?_
        refine r_iload1 dX12_goes_14 ?_
        refine q_callV1 zm_RX12_256 dX12_goes_15 (shM_k hs) (by decide) rfl (Nat.le_of_ble_eq_true rfl) (Nat.le_of_ble_eq_true rfl) (Nat.le_of_ble_eq_true rfl) (Nat.le_of_ble_eq_true rfl) (Nat.le_of_ble_eq_true rfl) (s_X12_columnsAt (d := dd + r.length) (v := L.length) G hs hx (by omega) hll (fun r15 e15_z => ?_))
        refine t_icge (t := 83) dX12_goes_18 (by decide) (fun h18 => False.elim (by omega)) (fun h18 => ?_)
        refine n_iconst dX12_goes_21 (by decide) (fun r21 e21_z => ?_)
        refine r_istore4 dX12_goes_22 rfl ?_
        exact lq 5 _ _ i 0 f2_z j2 (by omega) (by omega) hi_z ⟨by omega, by omega⟩ ho0 hI2 (by omega)
      · refine r_iload3 dX12_goes_12 ?_
        refine r_aloadR0 dX12_goes_13 ?_
        refine r_iload1 dX12_goes_14 ?_
        refine q_callV1 zm_RX12_256 dX12_goes_15 (shM_k hs) (by decide) rfl (Nat.le_of_ble_eq_true rfl) (Nat.le_of_ble_eq_true rfl) (Nat.le_of_ble_eq_true rfl) (Nat.le_of_ble_eq_true rfl) (Nat.le_of_ble_eq_true rfl) (s_X12_columnsAt (d := dd + r.length) (v := L.length) G hs hx (by omega) hll (fun r15 e15_z => ?_))
        refine t_icge (t := 83) dX12_goes_18 (by decide) (fun h18 => ?_) (fun h18 => False.elim (by omega))
        refine n_iconst dX12_goes_83 (by decide) (fun r83 e83 => ?_)
        refine m_zret dX12_goes_84 rfl (by omega) (Nat.le_of_ble_eq_true rfl) (Nat.le_of_ble_eq_true rfl) ?_
        refine hQ _ f2_z j2 ho0 (Or.inr ⟨by omega, ?_⟩)
        rw [← rwP_e, show L.length - 1 = i by omega]; exact hI2
  refine r_iload2 dX12_goes_0 ?_
  refine t_ifne (t := 10) dX12_goes_1 (by decide) (fun h1 => ?_) (fun h1 => False.elim (by omega))
  refine n_iconst dX12_goes_10 (by decide) (fun r10 e10_z => ?_)
  refine r_istore3 dX12_goes_11 rfl ?_
  exact lp (L.length + 1) _ 0 f j _ (by omega) (by omega) goF_rf (by unfold rwP kidP; simpa using hI) (by omega)
set_option maxHeartbeats 4000000 in
set_option maxRecDepth 100000 in
theorem s_X12_goes_3 {g : zGT} {w : zW} {f : Nat → Nat → Int32} {j : Nat → Nat → Int64} {A : Nat} {T : zTb} {dd : Nat} {L : zLy} {r : List Nat} {ps : List zRo} {x y : Int32} {Inv : (Nat → Nat → Int32) → (Nat → Nat → Int64) → List zRo → Prop} {Fin : (Nat → Nat → Int32) → (Nat → Nat → Int64) → List zRo → zRo → Prop} {Q : Option Value → zW → Prop} {QX : String → zW → Prop} (G : zGok g) (hs : shM w A) (hw : wfT T) (hdd : dd ≤ 5) (hS_z : seeC g w A T dd Inv Fin) (hk : ctKn (f (A + 1)) T) (hgo : goAt f A dd L r) (hr : rch (tbC T) L) (hx : x.toInt = ((dd + r.length : Nat) : Int)) (hy : y.toInt = 3) (hrm : r.length + 3 ≤ 5) (hIv : ∀ (f1_z f2_z : Nat → Nat → Int32) (j1 : Nat → Nat → Int64) (ps1 : List zRo), frM A [6, 11] [] f1_z f2_z → Inv f1_z j1 ps1 → Inv f2_z j1 ps1) (hI : Inv f j ps) (hB_z : (ps ++ rwF 3 L r).length ≤ 10000000) (hQ : ∀ (b : Int32) f2_z j2, goF A (dd + r.length) r.length f f2_z j j2 → (b.toInt = 1 ∧ (∃ qs z rest, ps ++ rwF 3 L r = qs ++ z :: rest ∧ Fin f2_z j2 qs z) ∨ b.toInt = 0 ∧ Inv f2_z j2 (ps ++ rwF 3 L r)) → Q (some (.int b)) (zM w f2_z j2)) : zC g 13 yX12_goes cX12_goes 5 (some .boolean) [.ref A, .int x, .int y] (zM w f j) (0, 0) Q QX := by
  refine zC_of G (by decide +kernel) (Nat.le_of_ble_eq_true rfl) ?_
  have hn6 : tbC T ≤ 6 := hw.2.1
  have hrc := rch_cell hr
  have hLn : L.length ≤ 6 := Nat.le_trans hrc.2.2.2.2 hn6
  have hLf : L.flatten.length ≤ 6 := by rw [hrc.1]; exact hn6
  have hbd := rch_bd hr
  have hg0 := hgo
  obtain ⟨q1_z, q2_z, q3_z, q4_z⟩ := hg0
  have lp : ∀ (mz : Nat) (u : Int32) (i : Nat) (f2_z : Nat → Nat → Int32) (j2 : Nat → Nat → Int64) (v4_ : Option Value), u.toInt = (i : Nat) + 1 → i ≤ L.length - 1 → goF A (dd + r.length) r.length f f2_z j j2 → Inv f2_z j2 (ps ++ rwP 2 L r i 0) → L.length - i < mz → zR (zV g 13 yX12_goes 5 (some .boolean) (0, 0) Q QX) cX12_goes yX12_goes.cls 12 [some (.ref A), some (.int x), some (.int y), some (.int u), v4_] [] (zM w f2_z j2) (0, 0) := by
    intro mz
    induction mz with
    | zero =>
      intro u i f2_z j2 v4_ hii hib ho0 hI2 hmz
      exact absurd hmz (Nat.not_lt_zero _)
    | succ mz ih =>
      intro u i f2_z j2 v4_ hii hib ho0 hI2 hmz
      have hga := goAt_of hr hgo ho0
      have hll : (f2_z (A + 6) (43 * (dd + r.length))).toInt = (L.length : Nat) := hga.1.1
      rcases Nat.lt_or_ge (i + 1) L.length with hi_z | hi_z
      · obtain ⟨mo, hmo⟩ : ∃ mo, mo = mz := ⟨_, rfl⟩
        rw [← hmo] at hmz
        have iho := ih
        rw [← hmo] at iho
        have lq : ∀ (mz : Nat) (u : Int32) (v : Int32) (i : Nat) (t : Nat) (f2_z : Nat → Nat → Int32) (j2 : Nat → Nat → Int64), v.toInt = (t : Nat) → t ≤ 4 → i + 1 < L.length → u.toInt = (i : Nat) + 1 ∧ L.length - i < mo + 1 → goF A (dd + r.length) r.length f f2_z j j2 → Inv f2_z j2 (ps ++ rwP 2 L r i t) → 4 - t < mz → zR (zV g 13 yX12_goes 5 (some .boolean) (0, 0) Q QX) cX12_goes yX12_goes.cls 24 [some (.ref A), some (.int x), some (.int y), some (.int u), some (.int v)] [] (zM w f2_z j2) (0, 0) := by
          intro mz
          induction mz with
          | zero =>
            intro u v i t f2_z j2 htt ht4b hi_z hii ho hI2 hmz
            exact absurd hmz (Nat.not_lt_zero _)
          | succ mz ih =>
            intro u v i t f2_z j2 htt ht4b hi_z hii ho hI2 hmz
            have hga := goAt_of hr hgo ho
            have hk2 : ctKn (f2_z (A + 1)) T := by rw [goF_kn ho]; exact hk
            obtain ⟨a1, a2, a3, a4⟩ := hga
            rcases Nat.lt_or_ge t 4 with ht4 | ht4
            · obtain ⟨af, haf⟩ := rwP_all (m := 2) (r := r) hi_z ht4
              have hkr : rch (tbC T) (lyFold L (i + 1) t) := rch_fold hr (by omega) hi_z ht4
              have hBk : (ps ++ rwP 2 L r i t ++ rwF 2 (lyFold L (i + 1) t) (r ++ [10 * (i + 1) + t])).length ≤ 10000000 := by
                rw [haf, List.length_append, List.length_append, List.length_append] at hB_z
                rw [List.length_append, List.length_append]
                omega
              refine r_iload4 dX12_goes_24 ?_
              refine n_iconst dX12_goes_26 (by decide) (fun r26 e26_z => ?_)
              refine t_icge (t := 77) dX12_goes_27 (by decide) (fun h27 => False.elim (by omega)) (fun h27 => ?_)
              refine r_aloadR0 dX12_goes_30 ?_
              refine m_getR (q := (A + 11)) zf_RX12_45 rfl dX12_goes_31 (shM_k hs) (shM_p11 hs) ?_
              refine r_iload1 dX12_goes_34 ?_
              refine r_aloadR0 dX12_goes_35 ?_
              refine m_getV (x := (f2_z A 29)) zf_RX12_419 rfl dX12_goes_36 (shM_k hs) (rfl) ?_
              refine n_isub dX12_goes_39 (by omega) (fun r39 e39 => ?_)
              refine n_bipush dX12_goes_40 (by decide) (fun r40 e40 => ?_)
              refine r_iload3 dX12_goes_42 ?_
              refine n_imulc dX12_goes_43 e40 (by omega) (fun r43 e43 => ?_)
              refine r_iload4 dX12_goes_44 ?_
              refine n_iadd dX12_goes_46 (by omega) (fun r46 e46 => ?_)
              refine m_iast (k := r.length) dX12_goes_47 (shM_k11 hs) (shM_n11 hs) (by omega) (by omega) ?_
              have hv47 : r46.toInt = ((10 * (i + 1) + t : Nat) : Int) := by omega
              obtain ⟨g47, hg47⟩ : ∃ g9, g9 = zu f2_z (A + 11) r.length r46 := ⟨_, rfl⟩
              rw [← hg47]
              have o47 : frM A [11] [] f2_z g47 := by rw [hg47]; exact frM_zr (r := 11) frM_rf (by decide) (by decide) (by decide)
              have c47 : ctLi (g47 (A + 6)) (dd + r.length) L := by rw [o47.2.1 6 (by decide) (by decide) (by decide)]; exact a1
              refine r_aloadR0 dX12_goes_48 ?_
              refine r_iload1 dX12_goes_49 ?_
              refine r_iload3 dX12_goes_50 ?_
              refine r_iload4 dX12_goes_51 ?_
              refine q_callV3 zm_RX12_280 dX12_goes_53 (shM_k hs) (by decide) rfl (Nat.le_of_ble_eq_true rfl) (Nat.le_of_ble_eq_true rfl) (Nat.le_of_ble_eq_true rfl) (Nat.le_of_ble_eq_true rfl) (Nat.le_of_ble_eq_true rfl) (s_X12_folds (d := dd + r.length) (li := i + 1) (wy := t) (L := L) G hs hx (by omega) c47 hLn hLf hbd (by omega) (by omega) hi_z htt ht4 (fun g53 o53 c53 l53 => ?_))
              have hkk : ctKn (g53 (A + 1)) T := by rw [o53.2.1 1 (by decide) (by decide) (by decide), o47.2.1 1 (by decide) (by decide) (by decide)]; exact hk2
              have ofk : goF A (dd + r.length) r.length f2_z g53 j2 j2 := ⟨frM_tr (frM_su o47 (by decide) (by decide)) (frM_su o53 (by decide) (by decide)), fun _ _ => rfl, fun i9_z hi9 => by rw [l53 i9_z hi9, o47.2.1 6 (by decide) (by decide) (by decide)], fun i9_z hi9 => by rw [o53.2.1 11 (by decide) (by decide) (by decide), hg47, zu_nn (Or.inr (by omega))], fun i9_z => Or.inl (by rw [o53.2.1 15 (by decide) (by decide) (by decide), o47.2.1 15 (by decide) (by decide) (by decide)])⟩
              have hgk : goAt g53 A dd (lyFold L (i + 1) t) (r ++ [10 * (i + 1) + t]) := by
                refine ⟨by rw [List.length_append, List.length_singleton]; exact c53, by rw [ofk.1.2.2 29 (by decide)]; exact a2, fun i9_z e9_z hi9 => ?_, by rw [List.length_append, List.length_singleton]; omega⟩
                rcases Nat.lt_or_ge i9_z r.length with h9 | h9
                · rw [List.getElem?_append_left h9] at hi9
                  rw [ofk.2.2.2.1 i9_z h9]; exact a3 i9_z e9_z hi9
                · have h91 : i9_z = r.length := by have := (List.getElem?_eq_some_iff.mp hi9).1; rw [List.length_append, List.length_singleton] at this; omega
                  rw [h91, List.getElem?_append_right (Nat.le_refl _), Nat.sub_self] at hi9
                  have h92 : 10 * (i + 1) + t = e9_z := Option.some.inj hi9
                  rw [h91, o53.2.1 11 (by decide) (by decide) (by decide), hg47, zu_at, ← h92]; exact hv47
              refine r_aloadR0 dX12_goes_56 ?_
              refine r_iload1 dX12_goes_57 ?_
              refine n_iconst dX12_goes_58 (by decide) (fun r58 e58 => ?_)
              refine n_iadd dX12_goes_59 (by omega) (fun r59 e59 => ?_)
              refine r_iload2 dX12_goes_60 ?_
              refine n_iconst dX12_goes_61 (by decide) (fun r61 e61 => ?_)
              refine n_isub dX12_goes_62 (by omega) (fun r62 e62 => ?_)
              refine q_callV2 zm_RX12_422 dX12_goes_63 (shM_k hs) (by decide) rfl (Nat.le_of_ble_eq_true rfl) (Nat.le_of_ble_eq_true rfl) (Nat.le_of_ble_eq_true rfl) (Nat.le_of_ble_eq_true rfl) (Nat.le_of_ble_eq_true rfl) (s_X12_goes_2 (T := T) (dd := dd) (L := lyFold L (i + 1) t) (r := r ++ [10 * (i + 1) + t]) (ps := ps ++ rwP 2 L r i t) (Inv := Inv) (Fin := Fin) G hs hw hdd hS_z hkk hgk hkr (by rw [List.length_append, List.length_singleton]; omega) (by omega) (by rw [List.length_append, List.length_singleton]; omega) hIv (hIv _ _ _ _ (frM_tr (frM_su o47 (by decide) (by decide)) (frM_su o53 (by decide) (by decide))) hI2) hBk (fun r63 g63 j63 o63 c63 => ?_))
              rw [List.length_append, List.length_singleton] at o63
              have o6x : goF A (dd + r.length) r.length f g63 j j63 := goF_tr ho (goF_tr ofk (goF_su o63 (by omega) (by omega)))
              refine t_ifeq (t := 71) dX12_goes_66 (by decide) (fun h66 => ?_) (fun h66 => ?_)
              · refine n_iinc4 dX12_goes_71 (by decide) rfl (by omega) (fun r71 e71_z => ?_)
                refine r_goto (t := 24) dX12_goes_74 (by decide) ?_
                refine ih _ _ i (t + 1) g63 j63 (by omega) (by omega) hi_z hii o6x ?_ (by omega)
                rcases c63 with h9 | ⟨_, h9⟩
                · exact absurd h9.1 (by omega)
                · rw [rwP_t, ← List.append_assoc]; exact h9
              · refine n_iconst dX12_goes_69 (by decide) (fun r69 e69 => ?_)
                refine m_zret dX12_goes_70 rfl (by omega) (Nat.le_of_ble_eq_true rfl) (Nat.le_of_ble_eq_true rfl) ?_
                refine hQ _ g63 j63 o6x (Or.inl ⟨by omega, ?_⟩)
                rcases c63 with ⟨_, qs, z, rest, h1, h2⟩ | h9
                · exact ⟨qs, z, rest ++ af, by rw [haf, ← List.append_assoc, ← List.append_assoc, h1, List.append_assoc]; rfl, h2⟩
                · exact absurd h9.1 (by omega)
            · refine r_iload4 dX12_goes_24 ?_
              refine n_iconst dX12_goes_26 (by decide) (fun r26 e26_z => ?_)
              refine t_icge (t := 77) dX12_goes_27 (by decide) (fun h27 => ?_) (fun h27 => False.elim (by omega))
              refine n_iinc3 dX12_goes_77 (by decide) rfl (by omega) (fun r77 e77 => ?_)
              refine r_goto (t := 12) dX12_goes_80 (by decide) ?_
              refine iho _ (i + 1) f2_z j2 _ (by omega) (by omega) ho ?_ (by omega)
              have h4t : t = 4 := by omega
              rw [h4t] at hI2
              rw [rwP_i]; exact hI2
        refine r_iload3 dX12_goes_12 ?_
        refine r_aloadR0 dX12_goes_13 ?_
        refine r_iload1 dX12_goes_14 ?_
        refine q_callV1 zm_RX12_256 dX12_goes_15 (shM_k hs) (by decide) rfl (Nat.le_of_ble_eq_true rfl) (Nat.le_of_ble_eq_true rfl) (Nat.le_of_ble_eq_true rfl) (Nat.le_of_ble_eq_true rfl) (Nat.le_of_ble_eq_true rfl) (s_X12_columnsAt (d := dd + r.length) (v := L.length) G hs hx (by omega) hll (fun r15 e15_z => ?_))
        refine t_icge (t := 83) dX12_goes_18 (by decide) (fun h18 => False.elim (by omega)) (fun h18 => ?_)
        refine n_iconst dX12_goes_21 (by decide) (fun r21 e21_z => ?_)
        refine r_istore4 dX12_goes_22 rfl ?_
        exact lq 5 _ _ i 0 f2_z j2 (by omega) (by omega) hi_z ⟨by omega, by omega⟩ ho0 hI2 (by omega)
      · refine r_iload3 dX12_goes_12 ?_
        refine r_aloadR0 dX12_goes_13 ?_
        refine r_iload1 dX12_goes_14 ?_
        refine q_callV1 zm_RX12_256 dX12_goes_15 (shM_k hs) (by decide) rfl (Nat.le_of_ble_eq_true rfl) (Nat.le_of_ble_eq_true rfl) (Nat.le_of_ble_eq_true rfl) (Nat.le_of_ble_eq_true rfl) (Nat.le_of_ble_eq_true rfl) (s_X12_columnsAt (d := dd + r.length) (v := L.length) G hs hx (by omega) hll (fun r15 e15_z => ?_))
        refine t_icge (t := 83) dX12_goes_18 (by decide) (fun h18 => ?_) (fun h18 => False.elim (by omega))
        refine n_iconst dX12_goes_83 (by decide) (fun r83 e83 => ?_)
        refine m_zret dX12_goes_84 rfl (by omega) (Nat.le_of_ble_eq_true rfl) (Nat.le_of_ble_eq_true rfl) ?_
        refine hQ _ f2_z j2 ho0 (Or.inr ⟨by omega, ?_⟩)
        rw [← rwP_e, show L.length - 1 = i by omega]; exact hI2
  refine r_iload2 dX12_goes_0 ?_
  refine t_ifne (t := 10) dX12_goes_1 (by decide) (fun h1 => ?_) (fun h1 => False.elim (by omega))
  refine n_iconst dX12_goes_10 (by decide) (fun r10 e10_z => ?_)
  refine r_istore3 dX12_goes_11 rfl ?_
  exact lp (L.length + 1) _ 0 f j _ (by omega) (by omega) goF_rf (by unfold rwP kidP; simpa using hI) (by omega)
set_option maxHeartbeats 4000000 in
set_option maxRecDepth 100000 in
theorem s_X12_goes_4 {g : zGT} {w : zW} {f : Nat → Nat → Int32} {j : Nat → Nat → Int64} {A : Nat} {T : zTb} {dd : Nat} {L : zLy} {r : List Nat} {ps : List zRo} {x y : Int32} {Inv : (Nat → Nat → Int32) → (Nat → Nat → Int64) → List zRo → Prop} {Fin : (Nat → Nat → Int32) → (Nat → Nat → Int64) → List zRo → zRo → Prop} {Q : Option Value → zW → Prop} {QX : String → zW → Prop} (G : zGok g) (hs : shM w A) (hw : wfT T) (hdd : dd ≤ 5) (hS_z : seeC g w A T dd Inv Fin) (hk : ctKn (f (A + 1)) T) (hgo : goAt f A dd L r) (hr : rch (tbC T) L) (hx : x.toInt = ((dd + r.length : Nat) : Int)) (hy : y.toInt = 4) (hrm : r.length + 4 ≤ 5) (hIv : ∀ (f1_z f2_z : Nat → Nat → Int32) (j1 : Nat → Nat → Int64) (ps1 : List zRo), frM A [6, 11] [] f1_z f2_z → Inv f1_z j1 ps1 → Inv f2_z j1 ps1) (hI : Inv f j ps) (hB_z : (ps ++ rwF 4 L r).length ≤ 10000000) (hQ : ∀ (b : Int32) f2_z j2, goF A (dd + r.length) r.length f f2_z j j2 → (b.toInt = 1 ∧ (∃ qs z rest, ps ++ rwF 4 L r = qs ++ z :: rest ∧ Fin f2_z j2 qs z) ∨ b.toInt = 0 ∧ Inv f2_z j2 (ps ++ rwF 4 L r)) → Q (some (.int b)) (zM w f2_z j2)) : zC g 14 yX12_goes cX12_goes 5 (some .boolean) [.ref A, .int x, .int y] (zM w f j) (0, 0) Q QX := by
  refine zC_of G (by decide +kernel) (Nat.le_of_ble_eq_true rfl) ?_
  have hn6 : tbC T ≤ 6 := hw.2.1
  have hrc := rch_cell hr
  have hLn : L.length ≤ 6 := Nat.le_trans hrc.2.2.2.2 hn6
  have hLf : L.flatten.length ≤ 6 := by rw [hrc.1]; exact hn6
  have hbd := rch_bd hr
  have hg0 := hgo
  obtain ⟨q1_z, q2_z, q3_z, q4_z⟩ := hg0
  have lp : ∀ (mz : Nat) (u : Int32) (i : Nat) (f2_z : Nat → Nat → Int32) (j2 : Nat → Nat → Int64) (v4_ : Option Value), u.toInt = (i : Nat) + 1 → i ≤ L.length - 1 → goF A (dd + r.length) r.length f f2_z j j2 → Inv f2_z j2 (ps ++ rwP 3 L r i 0) → L.length - i < mz → zR (zV g 14 yX12_goes 5 (some .boolean) (0, 0) Q QX) cX12_goes yX12_goes.cls 12 [some (.ref A), some (.int x), some (.int y), some (.int u), v4_] [] (zM w f2_z j2) (0, 0) := by
    intro mz
    induction mz with
    | zero =>
      intro u i f2_z j2 v4_ hii hib ho0 hI2 hmz
      exact absurd hmz (Nat.not_lt_zero _)
    | succ mz ih =>
      intro u i f2_z j2 v4_ hii hib ho0 hI2 hmz
      have hga := goAt_of hr hgo ho0
      have hll : (f2_z (A + 6) (43 * (dd + r.length))).toInt = (L.length : Nat) := hga.1.1
      rcases Nat.lt_or_ge (i + 1) L.length with hi_z | hi_z
      · obtain ⟨mo, hmo⟩ : ∃ mo, mo = mz := ⟨_, rfl⟩
        rw [← hmo] at hmz
        have iho := ih
        rw [← hmo] at iho
        have lq : ∀ (mz : Nat) (u : Int32) (v : Int32) (i : Nat) (t : Nat) (f2_z : Nat → Nat → Int32) (j2 : Nat → Nat → Int64), v.toInt = (t : Nat) → t ≤ 4 → i + 1 < L.length → u.toInt = (i : Nat) + 1 ∧ L.length - i < mo + 1 → goF A (dd + r.length) r.length f f2_z j j2 → Inv f2_z j2 (ps ++ rwP 3 L r i t) → 4 - t < mz → zR (zV g 14 yX12_goes 5 (some .boolean) (0, 0) Q QX) cX12_goes yX12_goes.cls 24 [some (.ref A), some (.int x), some (.int y), some (.int u), some (.int v)] [] (zM w f2_z j2) (0, 0) := by
          intro mz
          induction mz with
          | zero =>
            intro u v i t f2_z j2 htt ht4b hi_z hii ho hI2 hmz
            exact absurd hmz (Nat.not_lt_zero _)
          | succ mz ih =>
            intro u v i t f2_z j2 htt ht4b hi_z hii ho hI2 hmz
            have hga := goAt_of hr hgo ho
            have hk2 : ctKn (f2_z (A + 1)) T := by rw [goF_kn ho]; exact hk
            obtain ⟨a1, a2, a3, a4⟩ := hga
            rcases Nat.lt_or_ge t 4 with ht4 | ht4
            · obtain ⟨af, haf⟩ := rwP_all (m := 3) (r := r) hi_z ht4
              have hkr : rch (tbC T) (lyFold L (i + 1) t) := rch_fold hr (by omega) hi_z ht4
              have hBk : (ps ++ rwP 3 L r i t ++ rwF 3 (lyFold L (i + 1) t) (r ++ [10 * (i + 1) + t])).length ≤ 10000000 := by
                rw [haf, List.length_append, List.length_append, List.length_append] at hB_z
                rw [List.length_append, List.length_append]
                omega
              refine r_iload4 dX12_goes_24 ?_
              refine n_iconst dX12_goes_26 (by decide) (fun r26 e26_z => ?_)
              refine t_icge (t := 77) dX12_goes_27 (by decide) (fun h27 => False.elim (by omega)) (fun h27 => ?_)
              refine r_aloadR0 dX12_goes_30 ?_
              refine m_getR (q := (A + 11)) zf_RX12_45 rfl dX12_goes_31 (shM_k hs) (shM_p11 hs) ?_
              refine r_iload1 dX12_goes_34 ?_
              refine r_aloadR0 dX12_goes_35 ?_
              refine m_getV (x := (f2_z A 29)) zf_RX12_419 rfl dX12_goes_36 (shM_k hs) (rfl) ?_
              refine n_isub dX12_goes_39 (by omega) (fun r39 e39 => ?_)
              refine n_bipush dX12_goes_40 (by decide) (fun r40 e40 => ?_)
              refine r_iload3 dX12_goes_42 ?_
              refine n_imulc dX12_goes_43 e40 (by omega) (fun r43 e43 => ?_)
              refine r_iload4 dX12_goes_44 ?_
              refine n_iadd dX12_goes_46 (by omega) (fun r46 e46 => ?_)
              refine m_iast (k := r.length) dX12_goes_47 (shM_k11 hs) (shM_n11 hs) (by omega) (by omega) ?_
              have hv47 : r46.toInt = ((10 * (i + 1) + t : Nat) : Int) := by omega
              obtain ⟨g47, hg47⟩ : ∃ g9, g9 = zu f2_z (A + 11) r.length r46 := ⟨_, rfl⟩
              rw [← hg47]
              have o47 : frM A [11] [] f2_z g47 := by rw [hg47]; exact frM_zr (r := 11) frM_rf (by decide) (by decide) (by decide)
              have c47 : ctLi (g47 (A + 6)) (dd + r.length) L := by rw [o47.2.1 6 (by decide) (by decide) (by decide)]; exact a1
              refine r_aloadR0 dX12_goes_48 ?_
              refine r_iload1 dX12_goes_49 ?_
              refine r_iload3 dX12_goes_50 ?_
              refine r_iload4 dX12_goes_51 ?_
              refine q_callV3 zm_RX12_280 dX12_goes_53 (shM_k hs) (by decide) rfl (Nat.le_of_ble_eq_true rfl) (Nat.le_of_ble_eq_true rfl) (Nat.le_of_ble_eq_true rfl) (Nat.le_of_ble_eq_true rfl) (Nat.le_of_ble_eq_true rfl) (s_X12_folds (d := dd + r.length) (li := i + 1) (wy := t) (L := L) G hs hx (by omega) c47 hLn hLf hbd (by omega) (by omega) hi_z htt ht4 (fun g53 o53 c53 l53 => ?_))
              have hkk : ctKn (g53 (A + 1)) T := by rw [o53.2.1 1 (by decide) (by decide) (by decide), o47.2.1 1 (by decide) (by decide) (by decide)]; exact hk2
              have ofk : goF A (dd + r.length) r.length f2_z g53 j2 j2 := ⟨frM_tr (frM_su o47 (by decide) (by decide)) (frM_su o53 (by decide) (by decide)), fun _ _ => rfl, fun i9_z hi9 => by rw [l53 i9_z hi9, o47.2.1 6 (by decide) (by decide) (by decide)], fun i9_z hi9 => by rw [o53.2.1 11 (by decide) (by decide) (by decide), hg47, zu_nn (Or.inr (by omega))], fun i9_z => Or.inl (by rw [o53.2.1 15 (by decide) (by decide) (by decide), o47.2.1 15 (by decide) (by decide) (by decide)])⟩
              have hgk : goAt g53 A dd (lyFold L (i + 1) t) (r ++ [10 * (i + 1) + t]) := by
                refine ⟨by rw [List.length_append, List.length_singleton]; exact c53, by rw [ofk.1.2.2 29 (by decide)]; exact a2, fun i9_z e9_z hi9 => ?_, by rw [List.length_append, List.length_singleton]; omega⟩
                rcases Nat.lt_or_ge i9_z r.length with h9 | h9
                · rw [List.getElem?_append_left h9] at hi9
                  rw [ofk.2.2.2.1 i9_z h9]; exact a3 i9_z e9_z hi9
                · have h91 : i9_z = r.length := by have := (List.getElem?_eq_some_iff.mp hi9).1; rw [List.length_append, List.length_singleton] at this; omega
                  rw [h91, List.getElem?_append_right (Nat.le_refl _), Nat.sub_self] at hi9
                  have h92 : 10 * (i + 1) + t = e9_z := Option.some.inj hi9
                  rw [h91, o53.2.1 11 (by decide) (by decide) (by decide), hg47, zu_at, ← h92]; exact hv47
              refine r_aloadR0 dX12_goes_56 ?_
              refine r_iload1 dX12_goes_57 ?_
              refine n_iconst dX12_goes_58 (by decide) (fun r58 e58 => ?_)
              refine n_iadd dX12_goes_59 (by omega) (fun r59 e59 => ?_)
              refine r_iload2 dX12_goes_60 ?_
              refine n_iconst dX12_goes_61 (by decide) (fun r61 e61 => ?_)
              refine n_isub dX12_goes_62 (by omega) (fun r62 e62 => ?_)
              refine q_callV2 zm_RX12_422 dX12_goes_63 (shM_k hs) (by decide) rfl (Nat.le_of_ble_eq_true rfl) (Nat.le_of_ble_eq_true rfl) (Nat.le_of_ble_eq_true rfl) (Nat.le_of_ble_eq_true rfl) (Nat.le_of_ble_eq_true rfl) (s_X12_goes_3 (T := T) (dd := dd) (L := lyFold L (i + 1) t) (r := r ++ [10 * (i + 1) + t]) (ps := ps ++ rwP 3 L r i t) (Inv := Inv) (Fin := Fin) G hs hw hdd hS_z hkk hgk hkr (by rw [List.length_append, List.length_singleton]; omega) (by omega) (by rw [List.length_append, List.length_singleton]; omega) hIv (hIv _ _ _ _ (frM_tr (frM_su o47 (by decide) (by decide)) (frM_su o53 (by decide) (by decide))) hI2) hBk (fun r63 g63 j63 o63 c63 => ?_))
              rw [List.length_append, List.length_singleton] at o63
              have o6x : goF A (dd + r.length) r.length f g63 j j63 := goF_tr ho (goF_tr ofk (goF_su o63 (by omega) (by omega)))
              refine t_ifeq (t := 71) dX12_goes_66 (by decide) (fun h66 => ?_) (fun h66 => ?_)
              · refine n_iinc4 dX12_goes_71 (by decide) rfl (by omega) (fun r71 e71_z => ?_)
                refine r_goto (t := 24) dX12_goes_74 (by decide) ?_
                refine ih _ _ i (t + 1) g63 j63 (by omega) (by omega) hi_z hii o6x ?_ (by omega)
                rcases c63 with h9 | ⟨_, h9⟩
                · exact absurd h9.1 (by omega)
                · rw [rwP_t, ← List.append_assoc]; exact h9
              · refine n_iconst dX12_goes_69 (by decide) (fun r69 e69 => ?_)
                refine m_zret dX12_goes_70 rfl (by omega) (Nat.le_of_ble_eq_true rfl) (Nat.le_of_ble_eq_true rfl) ?_
                refine hQ _ g63 j63 o6x (Or.inl ⟨by omega, ?_⟩)
                rcases c63 with ⟨_, qs, z, rest, h1, h2⟩ | h9
                · exact ⟨qs, z, rest ++ af, by rw [haf, ← List.append_assoc, ← List.append_assoc, h1, List.append_assoc]; rfl, h2⟩
                · exact absurd h9.1 (by omega)
            · refine r_iload4 dX12_goes_24 ?_
              refine n_iconst dX12_goes_26 (by decide) (fun r26 e26_z => ?_)
              refine t_icge (t := 77) dX12_goes_27 (by decide) (fun h27 => ?_) (fun h27 => False.elim (by omega))
              refine n_iinc3 dX12_goes_77 (by decide) rfl (by omega) (fun r77 e77 => ?_)
              refine r_goto (t := 12) dX12_goes_80 (by decide) ?_
              refine iho _ (i + 1) f2_z j2 _ (by omega) (by omega) ho ?_ (by omega)
              have h4t : t = 4 := by omega
              rw [h4t] at hI2
              rw [rwP_i]; exact hI2
        refine r_iload3 dX12_goes_12 ?_
        refine r_aloadR0 dX12_goes_13 ?_
        refine r_iload1 dX12_goes_14 ?_
        refine q_callV1 zm_RX12_256 dX12_goes_15 (shM_k hs) (by decide) rfl (Nat.le_of_ble_eq_true rfl) (Nat.le_of_ble_eq_true rfl) (Nat.le_of_ble_eq_true rfl) (Nat.le_of_ble_eq_true rfl) (Nat.le_of_ble_eq_true rfl) (s_X12_columnsAt (d := dd + r.length) (v := L.length) G hs hx (by omega) hll (fun r15 e15_z => ?_))
        refine t_icge (t := 83) dX12_goes_18 (by decide) (fun h18 => False.elim (by omega)) (fun h18 => ?_)
        refine n_iconst dX12_goes_21 (by decide) (fun r21 e21_z => ?_)
        refine r_istore4 dX12_goes_22 rfl ?_
        exact lq 5 _ _ i 0 f2_z j2 (by omega) (by omega) hi_z ⟨by omega, by omega⟩ ho0 hI2 (by omega)
      · refine r_iload3 dX12_goes_12 ?_
        refine r_aloadR0 dX12_goes_13 ?_
        refine r_iload1 dX12_goes_14 ?_
        refine q_callV1 zm_RX12_256 dX12_goes_15 (shM_k hs) (by decide) rfl (Nat.le_of_ble_eq_true rfl) (Nat.le_of_ble_eq_true rfl) (Nat.le_of_ble_eq_true rfl) (Nat.le_of_ble_eq_true rfl) (Nat.le_of_ble_eq_true rfl) (s_X12_columnsAt (d := dd + r.length) (v := L.length) G hs hx (by omega) hll (fun r15 e15_z => ?_))
        refine t_icge (t := 83) dX12_goes_18 (by decide) (fun h18 => ?_) (fun h18 => False.elim (by omega))
        refine n_iconst dX12_goes_83 (by decide) (fun r83 e83 => ?_)
        refine m_zret dX12_goes_84 rfl (by omega) (Nat.le_of_ble_eq_true rfl) (Nat.le_of_ble_eq_true rfl) ?_
        refine hQ _ f2_z j2 ho0 (Or.inr ⟨by omega, ?_⟩)
        rw [← rwP_e, show L.length - 1 = i by omega]; exact hI2
  refine r_iload2 dX12_goes_0 ?_
  refine t_ifne (t := 10) dX12_goes_1 (by decide) (fun h1 => ?_) (fun h1 => False.elim (by omega))
  refine n_iconst dX12_goes_10 (by decide) (fun r10 e10_z => ?_)
  refine r_istore3 dX12_goes_11 rfl ?_
  exact lp (L.length + 1) _ 0 f j _ (by omega) (by omega) goF_rf (by unfold rwP kidP; simpa using hI) (by omega)
set_option maxHeartbeats 4000000 in
set_option maxRecDepth 100000 in
theorem s_X12_goes_5 {g : zGT} {w : zW} {f : Nat → Nat → Int32} {j : Nat → Nat → Int64} {A : Nat} {T : zTb} {dd : Nat} {L : zLy} {r : List Nat} {ps : List zRo} {x y : Int32} {Inv : (Nat → Nat → Int32) → (Nat → Nat → Int64) → List zRo → Prop} {Fin : (Nat → Nat → Int32) → (Nat → Nat → Int64) → List zRo → zRo → Prop} {Q : Option Value → zW → Prop} {QX : String → zW → Prop} (G : zGok g) (hs : shM w A) (hw : wfT T) (hdd : dd ≤ 5) (hS_z : seeC g w A T dd Inv Fin) (hk : ctKn (f (A + 1)) T) (hgo : goAt f A dd L r) (hr : rch (tbC T) L) (hx : x.toInt = ((dd + r.length : Nat) : Int)) (hy : y.toInt = 5) (hrm : r.length + 5 ≤ 5) (hIv : ∀ (f1_z f2_z : Nat → Nat → Int32) (j1 : Nat → Nat → Int64) (ps1 : List zRo), frM A [6, 11] [] f1_z f2_z → Inv f1_z j1 ps1 → Inv f2_z j1 ps1) (hI : Inv f j ps) (hB_z : (ps ++ rwF 5 L r).length ≤ 10000000) (hQ : ∀ (b : Int32) f2_z j2, goF A (dd + r.length) r.length f f2_z j j2 → (b.toInt = 1 ∧ (∃ qs z rest, ps ++ rwF 5 L r = qs ++ z :: rest ∧ Fin f2_z j2 qs z) ∨ b.toInt = 0 ∧ Inv f2_z j2 (ps ++ rwF 5 L r)) → Q (some (.int b)) (zM w f2_z j2)) : zC g 15 yX12_goes cX12_goes 5 (some .boolean) [.ref A, .int x, .int y] (zM w f j) (0, 0) Q QX := by
  refine zC_of G (by decide +kernel) (Nat.le_of_ble_eq_true rfl) ?_
  have hn6 : tbC T ≤ 6 := hw.2.1
  have hrc := rch_cell hr
  have hLn : L.length ≤ 6 := Nat.le_trans hrc.2.2.2.2 hn6
  have hLf : L.flatten.length ≤ 6 := by rw [hrc.1]; exact hn6
  have hbd := rch_bd hr
  have hg0 := hgo
  obtain ⟨q1_z, q2_z, q3_z, q4_z⟩ := hg0
  have lp : ∀ (mz : Nat) (u : Int32) (i : Nat) (f2_z : Nat → Nat → Int32) (j2 : Nat → Nat → Int64) (v4_ : Option Value), u.toInt = (i : Nat) + 1 → i ≤ L.length - 1 → goF A (dd + r.length) r.length f f2_z j j2 → Inv f2_z j2 (ps ++ rwP 4 L r i 0) → L.length - i < mz → zR (zV g 15 yX12_goes 5 (some .boolean) (0, 0) Q QX) cX12_goes yX12_goes.cls 12 [some (.ref A), some (.int x), some (.int y), some (.int u), v4_] [] (zM w f2_z j2) (0, 0) := by
    intro mz
    induction mz with
    | zero =>
      intro u i f2_z j2 v4_ hii hib ho0 hI2 hmz
      exact absurd hmz (Nat.not_lt_zero _)
    | succ mz ih =>
      intro u i f2_z j2 v4_ hii hib ho0 hI2 hmz
      have hga := goAt_of hr hgo ho0
      have hll : (f2_z (A + 6) (43 * (dd + r.length))).toInt = (L.length : Nat) := hga.1.1
      rcases Nat.lt_or_ge (i + 1) L.length with hi_z | hi_z
      · obtain ⟨mo, hmo⟩ : ∃ mo, mo = mz := ⟨_, rfl⟩
        rw [← hmo] at hmz
        have iho := ih
        rw [← hmo] at iho
        have lq : ∀ (mz : Nat) (u : Int32) (v : Int32) (i : Nat) (t : Nat) (f2_z : Nat → Nat → Int32) (j2 : Nat → Nat → Int64), v.toInt = (t : Nat) → t ≤ 4 → i + 1 < L.length → u.toInt = (i : Nat) + 1 ∧ L.length - i < mo + 1 → goF A (dd + r.length) r.length f f2_z j j2 → Inv f2_z j2 (ps ++ rwP 4 L r i t) → 4 - t < mz → zR (zV g 15 yX12_goes 5 (some .boolean) (0, 0) Q QX) cX12_goes yX12_goes.cls 24 [some (.ref A), some (.int x), some (.int y), some (.int u), some (.int v)] [] (zM w f2_z j2) (0, 0) := by
          intro mz
          induction mz with
          | zero =>
            intro u v i t f2_z j2 htt ht4b hi_z hii ho hI2 hmz
            exact absurd hmz (Nat.not_lt_zero _)
          | succ mz ih =>
            intro u v i t f2_z j2 htt ht4b hi_z hii ho hI2 hmz
            have hga := goAt_of hr hgo ho
            have hk2 : ctKn (f2_z (A + 1)) T := by rw [goF_kn ho]; exact hk
            obtain ⟨a1, a2, a3, a4⟩ := hga
            rcases Nat.lt_or_ge t 4 with ht4 | ht4
            · obtain ⟨af, haf⟩ := rwP_all (m := 4) (r := r) hi_z ht4
              have hkr : rch (tbC T) (lyFold L (i + 1) t) := rch_fold hr (by omega) hi_z ht4
              have hBk : (ps ++ rwP 4 L r i t ++ rwF 4 (lyFold L (i + 1) t) (r ++ [10 * (i + 1) + t])).length ≤ 10000000 := by
                rw [haf, List.length_append, List.length_append, List.length_append] at hB_z
                rw [List.length_append, List.length_append]
                omega
              refine r_iload4 dX12_goes_24 ?_
              refine n_iconst dX12_goes_26 (by decide) (fun r26 e26_z => ?_)
              refine t_icge (t := 77) dX12_goes_27 (by decide) (fun h27 => False.elim (by omega)) (fun h27 => ?_)
              refine r_aloadR0 dX12_goes_30 ?_
              refine m_getR (q := (A + 11)) zf_RX12_45 rfl dX12_goes_31 (shM_k hs) (shM_p11 hs) ?_
              refine r_iload1 dX12_goes_34 ?_
              refine r_aloadR0 dX12_goes_35 ?_
              refine m_getV (x := (f2_z A 29)) zf_RX12_419 rfl dX12_goes_36 (shM_k hs) (rfl) ?_
              refine n_isub dX12_goes_39 (by omega) (fun r39 e39 => ?_)
              refine n_bipush dX12_goes_40 (by decide) (fun r40 e40 => ?_)
              refine r_iload3 dX12_goes_42 ?_
              refine n_imulc dX12_goes_43 e40 (by omega) (fun r43 e43 => ?_)
              refine r_iload4 dX12_goes_44 ?_
              refine n_iadd dX12_goes_46 (by omega) (fun r46 e46 => ?_)
              refine m_iast (k := r.length) dX12_goes_47 (shM_k11 hs) (shM_n11 hs) (by omega) (by omega) ?_
              have hv47 : r46.toInt = ((10 * (i + 1) + t : Nat) : Int) := by omega
              obtain ⟨g47, hg47⟩ : ∃ g9, g9 = zu f2_z (A + 11) r.length r46 := ⟨_, rfl⟩
              rw [← hg47]
              have o47 : frM A [11] [] f2_z g47 := by rw [hg47]; exact frM_zr (r := 11) frM_rf (by decide) (by decide) (by decide)
              have c47 : ctLi (g47 (A + 6)) (dd + r.length) L := by rw [o47.2.1 6 (by decide) (by decide) (by decide)]; exact a1
              refine r_aloadR0 dX12_goes_48 ?_
              refine r_iload1 dX12_goes_49 ?_
              refine r_iload3 dX12_goes_50 ?_
              refine r_iload4 dX12_goes_51 ?_
              refine q_callV3 zm_RX12_280 dX12_goes_53 (shM_k hs) (by decide) rfl (Nat.le_of_ble_eq_true rfl) (Nat.le_of_ble_eq_true rfl) (Nat.le_of_ble_eq_true rfl) (Nat.le_of_ble_eq_true rfl) (Nat.le_of_ble_eq_true rfl) (s_X12_folds (d := dd + r.length) (li := i + 1) (wy := t) (L := L) G hs hx (by omega) c47 hLn hLf hbd (by omega) (by omega) hi_z htt ht4 (fun g53 o53 c53 l53 => ?_))
              have hkk : ctKn (g53 (A + 1)) T := by rw [o53.2.1 1 (by decide) (by decide) (by decide), o47.2.1 1 (by decide) (by decide) (by decide)]; exact hk2
              have ofk : goF A (dd + r.length) r.length f2_z g53 j2 j2 := ⟨frM_tr (frM_su o47 (by decide) (by decide)) (frM_su o53 (by decide) (by decide)), fun _ _ => rfl, fun i9_z hi9 => by rw [l53 i9_z hi9, o47.2.1 6 (by decide) (by decide) (by decide)], fun i9_z hi9 => by rw [o53.2.1 11 (by decide) (by decide) (by decide), hg47, zu_nn (Or.inr (by omega))], fun i9_z => Or.inl (by rw [o53.2.1 15 (by decide) (by decide) (by decide), o47.2.1 15 (by decide) (by decide) (by decide)])⟩
              have hgk : goAt g53 A dd (lyFold L (i + 1) t) (r ++ [10 * (i + 1) + t]) := by
                refine ⟨by rw [List.length_append, List.length_singleton]; exact c53, by rw [ofk.1.2.2 29 (by decide)]; exact a2, fun i9_z e9_z hi9 => ?_, by rw [List.length_append, List.length_singleton]; omega⟩
                rcases Nat.lt_or_ge i9_z r.length with h9 | h9
                · rw [List.getElem?_append_left h9] at hi9
                  rw [ofk.2.2.2.1 i9_z h9]; exact a3 i9_z e9_z hi9
                · have h91 : i9_z = r.length := by have := (List.getElem?_eq_some_iff.mp hi9).1; rw [List.length_append, List.length_singleton] at this; omega
                  rw [h91, List.getElem?_append_right (Nat.le_refl _), Nat.sub_self] at hi9
                  have h92 : 10 * (i + 1) + t = e9_z := Option.some.inj hi9
                  rw [h91, o53.2.1 11 (by decide) (by decide) (by decide), hg47, zu_at, ← h92]; exact hv47
              refine r_aloadR0 dX12_goes_56 ?_
              refine r_iload1 dX12_goes_57 ?_
              refine n_iconst dX12_goes_58 (by decide) (fun r58 e58 => ?_)
              refine n_iadd dX12_goes_59 (by omega) (fun r59 e59 => ?_)
              refine r_iload2 dX12_goes_60 ?_
              refine n_iconst dX12_goes_61 (by decide) (fun r61 e61 => ?_)
              refine n_isub dX12_goes_62 (by omega) (fun r62 e62 => ?_)
              refine q_callV2 zm_RX12_422 dX12_goes_63 (shM_k hs) (by decide) rfl (Nat.le_of_ble_eq_true rfl) (Nat.le_of_ble_eq_true rfl) (Nat.le_of_ble_eq_true rfl) (Nat.le_of_ble_eq_true rfl) (Nat.le_of_ble_eq_true rfl) (s_X12_goes_4 (T := T) (dd := dd) (L := lyFold L (i + 1) t) (r := r ++ [10 * (i + 1) + t]) (ps := ps ++ rwP 4 L r i t) (Inv := Inv) (Fin := Fin) G hs hw hdd hS_z hkk hgk hkr (by rw [List.length_append, List.length_singleton]; omega) (by omega) (by rw [List.length_append, List.length_singleton]; omega) hIv (hIv _ _ _ _ (frM_tr (frM_su o47 (by decide) (by decide)) (frM_su o53 (by decide) (by decide))) hI2) hBk (fun r63 g63 j63 o63 c63 => ?_))
              rw [List.length_append, List.length_singleton] at o63
              have o6x : goF A (dd + r.length) r.length f g63 j j63 := goF_tr ho (goF_tr ofk (goF_su o63 (by omega) (by omega)))
              refine t_ifeq (t := 71) dX12_goes_66 (by decide) (fun h66 => ?_) (fun h66 => ?_)
              · refine n_iinc4 dX12_goes_71 (by decide) rfl (by omega) (fun r71 e71_z => ?_)
                refine r_goto (t := 24) dX12_goes_74 (by decide) ?_
                refine ih _ _ i (t + 1) g63 j63 (by omega) (by omega) hi_z hii o6x ?_ (by omega)
                rcases c63 with h9 | ⟨_, h9⟩
                · exact absurd h9.1 (by omega)
                · rw [rwP_t, ← List.append_assoc]; exact h9
              · refine n_iconst dX12_goes_69 (by decide) (fun r69 e69 => ?_)
                refine m_zret dX12_goes_70 rfl (by omega) (Nat.le_of_ble_eq_true rfl) (Nat.le_of_ble_eq_true rfl) ?_
                refine hQ _ g63 j63 o6x (Or.inl ⟨by omega, ?_⟩)
                rcases c63 with ⟨_, qs, z, rest, h1, h2⟩ | h9
                · exact ⟨qs, z, rest ++ af, by rw [haf, ← List.append_assoc, ← List.append_assoc, h1, List.append_assoc]; rfl, h2⟩
                · exact absurd h9.1 (by omega)
            · refine r_iload4 dX12_goes_24 ?_
              refine n_iconst dX12_goes_26 (by decide) (fun r26 e26_z => ?_)
              refine t_icge (t := 77) dX12_goes_27 (by decide) (fun h27 => ?_) (fun h27 => False.elim (by omega))
              refine n_iinc3 dX12_goes_77 (by decide) rfl (by omega) (fun r77 e77 => ?_)
              refine r_goto (t := 12) dX12_goes_80 (by decide) ?_
              refine iho _ (i + 1) f2_z j2 _ (by omega) (by omega) ho ?_ (by omega)
              have h4t : t = 4 := by omega
              rw [h4t] at hI2
              rw [rwP_i]; exact hI2
        refine r_iload3 dX12_goes_12 ?_
        refine r_aloadR0 dX12_goes_13 ?_
        refine r_iload1 dX12_goes_14 ?_
        refine q_callV1 zm_RX12_256 dX12_goes_15 (shM_k hs) (by decide) rfl (Nat.le_of_ble_eq_true rfl) (Nat.le_of_ble_eq_true rfl) (Nat.le_of_ble_eq_true rfl) (Nat.le_of_ble_eq_true rfl) (Nat.le_of_ble_eq_true rfl) (s_X12_columnsAt (d := dd + r.length) (v := L.length) G hs hx (by omega) hll (fun r15 e15_z => ?_))
        refine t_icge (t := 83) dX12_goes_18 (by decide) (fun h18 => False.elim (by omega)) (fun h18 => ?_)
        refine n_iconst dX12_goes_21 (by decide) (fun r21 e21_z => ?_)
        refine r_istore4 dX12_goes_22 rfl ?_
        exact lq 5 _ _ i 0 f2_z j2 (by omega) (by omega) hi_z ⟨by omega, by omega⟩ ho0 hI2 (by omega)
      · refine r_iload3 dX12_goes_12 ?_
        refine r_aloadR0 dX12_goes_13 ?_
        refine r_iload1 dX12_goes_14 ?_
        refine q_callV1 zm_RX12_256 dX12_goes_15 (shM_k hs) (by decide) rfl (Nat.le_of_ble_eq_true rfl) (Nat.le_of_ble_eq_true rfl) (Nat.le_of_ble_eq_true rfl) (Nat.le_of_ble_eq_true rfl) (Nat.le_of_ble_eq_true rfl) (s_X12_columnsAt (d := dd + r.length) (v := L.length) G hs hx (by omega) hll (fun r15 e15_z => ?_))
        refine t_icge (t := 83) dX12_goes_18 (by decide) (fun h18 => ?_) (fun h18 => False.elim (by omega))
        refine n_iconst dX12_goes_83 (by decide) (fun r83 e83 => ?_)
        refine m_zret dX12_goes_84 rfl (by omega) (Nat.le_of_ble_eq_true rfl) (Nat.le_of_ble_eq_true rfl) ?_
        refine hQ _ f2_z j2 ho0 (Or.inr ⟨by omega, ?_⟩)
        rw [← rwP_e, show L.length - 1 = i by omega]; exact hI2
  refine r_iload2 dX12_goes_0 ?_
  refine t_ifne (t := 10) dX12_goes_1 (by decide) (fun h1 => ?_) (fun h1 => False.elim (by omega))
  refine n_iconst dX12_goes_10 (by decide) (fun r10 e10_z => ?_)
  refine r_istore3 dX12_goes_11 rfl ?_
  exact lp (L.length + 1) _ 0 f j _ (by omega) (by omega) goF_rf (by unfold rwP kidP; simpa using hI) (by omega)
