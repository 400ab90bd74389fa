/-! the reference: a row seen, counted -/
theorem goF_mk {A d rl : Nat} {f f2_z : Nat → Nat → Int32} {j j2 : Nat → Nat → Int64} (h_z : frM A [7, 8, 9, 12, 14, 15, 17] [30, 31, 32, 34] f f2_z) (hj : ∀ q, q ≠ A + 14 → j2 q = j q) (h15 : ∀ i, f2_z (A + 15) i = f (A + 15) i ∨ f2_z (A + 15) i = f A 37) : goF A d rl f f2_z j j2 := ⟨frM_su h_z (by decide) (by decide), hj, fun i _ => by rw [h_z.2.1 6 (by decide) (by decide) (by decide)], fun i _ => by rw [h_z.2.1 11 (by decide) (by decide) (by decide)], h15⟩
theorem goF_m0 {A d rl : Nat} {f f2_z : Nat → Nat → Int32} {j : Nat → Nat → Int64} (h_z : frM A [7, 8, 9, 12, 17] [30, 31, 32, 34] f f2_z) : goF A d rl f f2_z j j := goF_mk (frM_su h_z (by decide) (by decide)) (fun _ _ => rfl) (fun i => Or.inl (by rw [h_z.2.1 15 (by decide) (by decide) (by decide)]))
def cntS (p : zLy → List Nat → Bool) (cd : zLy → Nat) (ps : List zRo) : List Nat := ps.foldl (fun s y => if p y.1 y.2 = true ∧ cd y.1 ∉ s then s ++ [cd y.1] else s) []
theorem cntS_s {p : zLy → List Nat → Bool} {cd : zLy → Nat} {ps : List zRo} {L : zLy} {r : List Nat} : cntS p cd (ps ++ [(L, r)]) = if p L r = true ∧ cd L ∉ cntS p cd ps then cntS p cd ps ++ [cd L] else cntS p cd ps := by
  unfold cntS
  rw [List.foldl_append]
  rfl
def allLk (n : Nat) : List zLy := ((fnT n).map (fun q => q.2)).flatten.map (unLay n)
theorem allLk_mem {n : Nat} {L : zLy} (h_z : rch n L) : L ∈ allLk n := by
  obtain ⟨k, ⟨q, h1, h2⟩, rfl⟩ := h_z
  exact List.mem_map.mpr ⟨k, List.mem_flatten.mpr ⟨q.2, List.mem_map.mpr ⟨q, h1, rfl⟩, h2⟩, rfl⟩
theorem allLk_len {n : Nat} (h_z : n ≤ 6) : (allLk n).length ≤ 1000 := by
  unfold allLk
  rw [List.length_map, List.length_flatten, List.map_map]
  rcases (show n = 0 ∨ n = 1 ∨ n = 2 ∨ n = 3 ∨ n = 4 ∨ n = 5 ∨ n = 6 by omega) with rfl | rfl | rfl | rfl | rfl | rfl | rfl <;> decide +kernel
theorem cntS_in {n : Nat} {p : zLy → List Nat → Bool} {cd : zLy → Nat} {ps : List zRo} (h_z : ∀ y ∈ ps, rch n y.1) : (cntS p cd ps).Nodup ∧ ∀ c ∈ cntS p cd ps, c ∈ (allLk n).map cd := by
  have key : ∀ (qs : List zRo) (s : List Nat), (∀ y ∈ qs, rch n y.1) → s.Nodup → (∀ c ∈ s, c ∈ (allLk n).map cd) → (qs.foldl (fun s y => if p y.1 y.2 = true ∧ cd y.1 ∉ s then s ++ [cd y.1] else s) s).Nodup ∧ ∀ c ∈ qs.foldl (fun s y => if p y.1 y.2 = true ∧ cd y.1 ∉ s then s ++ [cd y.1] else s) s, c ∈ (allLk n).map cd := by
    intro qs
    induction qs with
    | nil => exact fun s _ h1 h2 => ⟨h1, h2⟩
    | cons y qs ih =>
      intro s hq h1 h2
      rw [List.foldl_cons]
      have hq2 : ∀ y ∈ qs, rch n y.1 := fun z hz => hq z (List.mem_cons_of_mem _ hz)
      split
      · rename_i h9
        refine ih _ hq2 ?_ (fun c hc_z => ?_)
        · rw [List.nodup_append]
          refine ⟨h1, by simp, fun a ha_z b hb_z e => ?_⟩
          rw [List.mem_singleton.mp hb_z] at e
          exact h9.2 (e ▸ ha_z)
        · rcases List.mem_append.mp hc_z with h8 | h8
          · exact h2 c h8
          · rw [List.mem_singleton.mp h8]
            exact List.mem_map.mpr ⟨y.1, allLk_mem (hq y List.mem_cons_self), rfl⟩
      · exact ih s hq2 h1 h2
  exact key ps [] h_z (by simp) (fun c hc_z => absurd hc_z List.not_mem_nil)
theorem cntS_len {n : Nat} {p : zLy → List Nat → Bool} {cd : zLy → Nat} {ps : List zRo} (hn : n ≤ 6) (h_z : ∀ y ∈ ps, rch n y.1) : (cntS p cd ps).length ≤ 1000 := by
  obtain ⟨h1, h2⟩ := cntS_in (p := p) (cd := cd) h_z
  have h3 := List.Nodup.length_le_of_subset h1 h2
  rw [List.length_map] at h3
  exact Nat.le_trans h3 (allLk_len hn)
def invC (A : Nat) (T : zTb) (wh : Int) (K : Nat → Int) (p : zLy → List Nat → Bool) (cd : zLy → Nat) (f : Nat → Nat → Int32) (j : Nat → Nat → Int64) (ps : List zRo) : Prop := (f A 28).toInt = wh ∧ (f A 30).toInt = ((cntS p cd ps).length : Nat) ∧ htb f j A (f A 37).toInt (cntS p cd ps) ∧ (∀ i, i < tbG T → (f (A + 13) i).toInt = K i) ∧ ∀ y ∈ ps, rch (tbC T) y.1
theorem htb_of {f f2_z : Nat → Nat → Int32} {j : Nat → Nat → Int64} {A : Nat} {tn : Int} {S : List Nat} (h_z : htb f j A tn S) (e : f2_z (A + 15) = f (A + 15)) : htb f2_z j A tn S := by
  unfold htb at h_z ⊢
  rw [e]
  exact h_z
theorem invC_iv {A : Nat} {T : zTb} {wh : Int} {K : Nat → Int} {p : zLy → List Nat → Bool} {cd : zLy → Nat} (f1_z f2_z : Nat → Nat → Int32) (j1 : Nat → Nat → Int64) (ps1 : List zRo) (h_z : frM A [6, 11] [] f1_z f2_z) (hI : invC A T wh K p cd f1_z j1 ps1) : invC A T wh K p cd f2_z j1 ps1 := by
  obtain ⟨a1, a2, a3, a4, a5⟩ := hI
  refine ⟨by rw [h_z.2.2 28 (by decide)]; exact a1, by rw [h_z.2.2 30 (by decide)]; exact a2, by rw [h_z.2.2 37 (by decide)]; exact htb_of a3 (h_z.2.1 15 (by decide) (by decide) (by decide)), by rw [h_z.2.1 13 (by decide) (by decide) (by decide)]; exact a4, a5⟩
theorem invC_up {A : Nat} {T : zTb} {wh : Int} {K : Nat → Int} {p : zLy → List Nat → Bool} {cd : zLy → Nat} {f f2_z : Nat → Nat → Int32} {j j2 : Nat → Nat → Int64} {ps : List zRo} {L : zLy} {r : List Nat} (h_z : invC A T wh K p cd f j ps) (hr : rch (tbC T) L) (h28 : f2_z A 28 = f A 28) (h37 : f2_z A 37 = f A 37) (h13 : f2_z (A + 13) = f (A + 13)) (hc_z : (p L r = true ∧ cd L ∉ cntS p cd ps ∧ htb f2_z j2 A (f A 37).toInt (cntS p cd ps ++ [cd L]) ∧ (f2_z A 30).toInt = (f A 30).toInt + 1) ∨ ((p L r = false ∨ cd L ∈ cntS p cd ps) ∧ htb f2_z j2 A (f A 37).toInt (cntS p cd ps) ∧ (f2_z A 30).toInt = (f A 30).toInt)) : invC A T wh K p cd f2_z j2 (ps ++ [(L, r)]) := by
  obtain ⟨a1, a2, a3, a4, a5⟩ := h_z
  have a6 : ∀ y ∈ ps ++ [(L, r)], rch (tbC T) y.1 := by
    intro y hy
    rcases List.mem_append.mp hy with h9 | h9
    · exact a5 y h9
    · rw [List.mem_singleton.mp h9]; exact hr
  unfold invC
  rw [cntS_s, h28, h37, h13]
  rcases hc_z with ⟨c1_z, c2_z, c3_z, c4_z⟩ | ⟨c1_z, c3_z, c4_z⟩
  · rw [if_pos ⟨c1_z, c2_z⟩]
    exact ⟨a1, by rw [c4_z, a2, List.length_append, List.length_singleton]; omega, c3_z, a4, a6⟩
  · rw [if_neg (fun e => by rcases c1_z with c1_z | c1_z; rw [c1_z] at e; exact absurd e.1 (by decide); exact e.2 c1_z)]
    exact ⟨a1, by rw [c4_z, a2], c3_z, a4, a6⟩
set_option maxHeartbeats 4000000 in
set_option maxRecDepth 100000 in
theorem s_X12_sees_loo {g : zGT} {w : zW} {f : Nat → Nat → Int32} {j : Nat → Nat → Int64} {A : Nat} {T : zTb} {dd : Nat} {L : zLy} {r : List Nat} {ps : List zRo} {x : Int32} {K : Nat → Int} {Q : Option Value → zW → Prop} {QX : String → zW → Prop} (G : zGok g) (hs : shM w A) (hw : wfT T) (hdd : dd ≤ 5) (hk : ctKn (f (A + 1)) T) (hgo : goAt f A dd L r) (hr : rch (tbC T) L) (hx : x.toInt = ((dd + r.length : Nat) : Int)) (hB_z : ps.length < 10000000) (hI : (invC A T 1 K (fun _ _ => true) (fun L => lkN L (tbC T))) f j ps) (hQ : ∀ (b : Int32) f2_z j2, goF A (dd + r.length) r.length f f2_z j j2 → (b.toInt = 1 ∧ (fun _ _ _ _ => False) f2_z j2 ps (L, r) ∨ b.toInt = 0 ∧ (invC A T 1 K (fun _ _ => true) (fun L => lkN L (tbC T))) f2_z j2 (ps ++ [(L, r)])) → Q (some (.int b)) (zM w f2_z j2)) : zC g 9 yX12_sees cX12_sees 3 (some .boolean) [.ref A, .int x] (zM w f j) (0, 0) Q QX := by
  refine zC_of G (by decide +kernel) (Nat.le_of_ble_eq_true rfl) ?_
  have hn6 : tbC T ≤ 6 := hw.2.1
  have hg4 : tbG T ≤ 4 := hw.2.2.1
  have hrc := rch_cell hr
  have hLn : L.length ≤ 6 := Nat.le_trans hrc.2.2.2.2 hn6
  have hm99 := hw.2.2.2.2.2.2.2.1.2.2
  have hrl5 := hgo.2.2.2
  have hd11 : dd + r.length < 11 := by omega
  have hLi := hgo.1
  have h29 := hgo.2.1
  have hrw := hgo.2.2.1
  have hll : (f (A + 6) (43 * (dd + r.length))).toInt = (L.length : Nat) := hLi.1
  have hI9 := hI
  obtain ⟨i1_z, i2_z, i3_z, i4_z, i5_z⟩ := hI9
  have hcl : (cntS (fun _ _ => true) (fun L => lkN L (tbC T)) ps).length ≤ 1000 := cntS_len hn6 i5_z
  have hS6 : (cntS (fun _ _ => true) (fun L => lkN L (tbC T)) ps).length < 65536 := by omega
  refine r_aloadR0 dX12_sees_0 ?_
  refine m_getV (x := (f A 28)) zf_RX12_443 rfl dX12_sees_1 (shM_k hs) (rfl) ?_
  refine n_tabC (k := 1) (t := 88) dX12_sees_4 (by decide) rfl (by decide) (fun h4 => ?_) (fun h4 => False.elim (h4 (by omega)))
  refine r_aloadR0 dX12_sees_88 ?_
  refine r_dup dX12_sees_89 rfl ?_
  refine m_getV (x := (f A 30)) zf_RX12_452 rfl dX12_sees_90 (shM_k hs) (rfl) ?_
  refine r_aloadR0 dX12_sees_93 ?_
  refine r_aloadR0 dX12_sees_94 ?_
  refine r_iload1 dX12_sees_95 ?_
  refine q_callV1 zm_RX12_455 dX12_sees_96 (shM_k hs) (by decide) rfl (Nat.le_of_ble_eq_true rfl) (Nat.le_of_ble_eq_true rfl) (Nat.le_of_ble_eq_true rfl) (Nat.le_of_ble_eq_true rfl) (Nat.le_of_ble_eq_true rfl) (s_X12_lookAt (L := L) (T := T) G hs hk hw hx hd11 hLi hr (fun r96 g96 e96 o96 => ?_))
  refine q_callV1 zm_RX12_459 dX12_sees_99 (shM_k hs) (by decide) rfl (Nat.le_of_ble_eq_true rfl) (Nat.le_of_ble_eq_true rfl) (Nat.le_of_ble_eq_true rfl) (Nat.le_of_ble_eq_true rfl) (Nat.le_of_ble_eq_true rfl) (s_X12_isNew (c := (fun L => lkN L (tbC T)) L) (tn := (f A 37).toInt) (S := cntS _ (fun L => lkN L (tbC T)) ps) G hs e96 (by rw [o96.2.2 37 (by decide)]) hS6 (htb_of i3_z (o96.2.1 15 (by decide) (by decide) (by decide))) (fun r99 g99 j99 c99 o99 q99 m99 => ?_))
  refine t_ifeq (t := 109) dX12_sees_102 (by decide) (fun h102 => ?_) (fun h102 => ?_)
  · refine n_iconst dX12_sees_109 (by decide) (fun r109 e109_z => ?_)
    refine n_iadd dX12_sees_110 (by omega) (fun r110 e110 => ?_)
    refine m_putI zf_RX12_452 (by intro C T N h_z; cases h_z; rfl) rfl dX12_sees_111 (shM_k hs) ?_
    refine n_iconst dX12_sees_114 (by decide) (fun r114 e114_z => ?_)
    refine m_zret dX12_sees_115 rfl (by omega) (Nat.le_of_ble_eq_true rfl) (Nat.le_of_ble_eq_true rfl) ?_
    have ofr := (show frM A [7, 8, 9, 12, 14, 15, 17] [30, 31, 32, 34] f _ from (frM_tr (frM_su o96 (by decide) (by decide)) (frM_su o99 (by decide) (by decide))))
    refine hQ _ _ _ (goF_mk (frM_zk (k := 30) ofr (by decide)) q99 (fun i => by rw [zu_ne (by omega)]; exact m15_ch o96 (by decide) (by decide) m99 i)) (Or.inr ⟨by omega, invC_up hI hr ?_ ?_ ?_ ?_⟩)
    · exact (zu_ni (by decide)).trans (ofr.2.2 28 (by decide))
    · exact (zu_ni (by decide)).trans (ofr.2.2 37 (by decide))
    · exact (zu_ne (by omega)).trans (ofr.2.1 13 (by decide) (by decide) (by decide))
    rcases c99 with ⟨k1_z, k2_z, k3_z⟩ | ⟨k1_z, k2_z, k3_z⟩
    · first | (exfalso; omega) | exact Or.inl ⟨rfl, k2_z, htb_of k3_z (zu_ne (by omega)), by rw [zu_at]; omega⟩
    · first | (exfalso; omega) | exact Or.inr ⟨Or.inr k2_z, htb_of k3_z (zu_ne (by omega)), by rw [zu_at]; omega⟩
  · refine n_iconst dX12_sees_105 (by decide) (fun r105 e105 => ?_)
    refine r_goto (t := 110) dX12_sees_106 (by decide) ?_
    refine n_iadd dX12_sees_110 (by omega) (fun r110 e110 => ?_)
    refine m_putI zf_RX12_452 (by intro C T N h_z; cases h_z; rfl) rfl dX12_sees_111 (shM_k hs) ?_
    refine n_iconst dX12_sees_114 (by decide) (fun r114 e114_z => ?_)
    refine m_zret dX12_sees_115 rfl (by omega) (Nat.le_of_ble_eq_true rfl) (Nat.le_of_ble_eq_true rfl) ?_
    have ofr := (show frM A [7, 8, 9, 12, 14, 15, 17] [30, 31, 32, 34] f _ from (frM_tr (frM_su o96 (by decide) (by decide)) (frM_su o99 (by decide) (by decide))))
    refine hQ _ _ _ (goF_mk (frM_zk (k := 30) ofr (by decide)) q99 (fun i => by rw [zu_ne (by omega)]; exact m15_ch o96 (by decide) (by decide) m99 i)) (Or.inr ⟨by omega, invC_up hI hr ?_ ?_ ?_ ?_⟩)
    · exact (zu_ni (by decide)).trans (ofr.2.2 28 (by decide))
    · exact (zu_ni (by decide)).trans (ofr.2.2 37 (by decide))
    · exact (zu_ne (by omega)).trans (ofr.2.1 13 (by decide) (by decide) (by decide))
    rcases c99 with ⟨k1_z, k2_z, k3_z⟩ | ⟨k1_z, k2_z, k3_z⟩
    · first | (exfalso; omega) | exact Or.inl ⟨rfl, k2_z, htb_of k3_z (zu_ne (by omega)), by rw [zu_at]; omega⟩
    · first | (exfalso; omega) | exact Or.inr ⟨Or.inr k2_z, htb_of k3_z (zu_ne (by omega)), by rw [zu_at]; omega⟩
theorem see_loo {g : zGT} {w : zW} {A : Nat} {T : zTb} {dd : Nat} {K : Nat → Int} (G : zGok g) (hs : shM w A) (hw : wfT T) (hdd : dd ≤ 5) : seeC g w A T dd (invC A T 1 K (fun _ _ => true) (fun L => lkN L (tbC T))) ((fun _ _ _ _ => False)) := fun f j ps L r x Q QX hk hgo hr hx hB_z hI hQ => s_X12_sees_loo G hs hw hdd hk hgo hr hx hB_z hI hQ
set_option maxHeartbeats 4000000 in
set_option maxRecDepth 100000 in
theorem s_X12_sees_hol {g : zGT} {w : zW} {f : Nat → Nat → Int32} {j : Nat → Nat → Int64} {A : Nat} {T : zTb} {dd : Nat} {L : zLy} {r : List Nat} {ps : List zRo} {x : Int32} {K : Nat → Int} {Q : Option Value → zW → Prop} {QX : String → zW → Prop} (G : zGok g) (hs : shM w A) (hw : wfT T) (hdd : dd ≤ 5) (hk : ctKn (f (A + 1)) T) (hgo : goAt f A dd L r) (hr : rch (tbC T) L) (hx : x.toInt = ((dd + r.length : Nat) : Int)) (hB_z : ps.length < 10000000) (hI : (invC A T 2 K (fun L r => decide (holV T L (dd + r.length) ≠ 0)) (fun L => lkN L (tbC T))) f j ps) (hQ : ∀ (b : Int32) f2_z j2, goF A (dd + r.length) r.length f f2_z j j2 → (b.toInt = 1 ∧ (fun _ _ _ _ => False) f2_z j2 ps (L, r) ∨ b.toInt = 0 ∧ (invC A T 2 K (fun L r => decide (holV T L (dd + r.length) ≠ 0)) (fun L => lkN L (tbC T))) f2_z j2 (ps ++ [(L, r)])) → Q (some (.int b)) (zM w f2_z j2)) : zC g 9 yX12_sees cX12_sees 3 (some .boolean) [.ref A, .int x] (zM w f j) (0, 0) Q QX := by
  refine zC_of G (by decide +kernel) (Nat.le_of_ble_eq_true rfl) ?_
  have hn6 : tbC T ≤ 6 := hw.2.1
  have hg4 : tbG T ≤ 4 := hw.2.2.1
  have hrc := rch_cell hr
  have hLn : L.length ≤ 6 := Nat.le_trans hrc.2.2.2.2 hn6
  have hm99 := hw.2.2.2.2.2.2.2.1.2.2
  have hrl5 := hgo.2.2.2
  have hd11 : dd + r.length < 11 := by omega
  have hLi := hgo.1
  have h29 := hgo.2.1
  have hrw := hgo.2.2.1
  have hll : (f (A + 6) (43 * (dd + r.length))).toInt = (L.length : Nat) := hLi.1
  have hI9 := hI
  obtain ⟨i1_z, i2_z, i3_z, i4_z, i5_z⟩ := hI9
  have hcl : (cntS (fun L r => decide (holV T L (dd + r.length) ≠ 0)) (fun L => lkN L (tbC T)) ps).length ≤ 1000 := cntS_len hn6 i5_z
  have hS6 : (cntS (fun L r => decide (holV T L (dd + r.length) ≠ 0)) (fun L => lkN L (tbC T)) ps).length < 65536 := by omega
  refine r_aloadR0 dX12_sees_0 ?_
  refine m_getV (x := (f A 28)) zf_RX12_443 rfl dX12_sees_1 (shM_k hs) (rfl) ?_
  refine n_tabC (k := 2) (t := 116) dX12_sees_4 (by decide) rfl (by decide) (fun h4 => ?_) (fun h4 => False.elim (h4 (by omega)))
  refine r_aloadR0 dX12_sees_116 ?_
  refine r_dup dX12_sees_117 rfl ?_
  refine m_getV (x := (f A 30)) zf_RX12_452 rfl dX12_sees_118 (shM_k hs) (rfl) ?_
  refine r_aloadR0 dX12_sees_121 ?_
  refine r_iload1 dX12_sees_122 ?_
  refine q_callV1 zm_RX12_352 dX12_sees_123 (shM_k hs) (by decide) rfl (Nat.le_of_ble_eq_true rfl) (Nat.le_of_ble_eq_true rfl) (Nat.le_of_ble_eq_true rfl) (Nat.le_of_ble_eq_true rfl) (Nat.le_of_ble_eq_true rfl) (s_X12_hol (L := L) (T := T) G hs hk hw hx hd11 hLi hr (fun r123 g123 e123_z o123 => ?_))
  have hk123 : ctKn (g123 (A + 1)) T := by rw [o123.2.1 1 (by decide) (by decide) (by decide)]; exact hk
  have hL123 : ctLi (g123 (A + 6)) (dd + r.length) L := by rw [o123.2.1 6 (by decide) (by decide) (by decide)]; exact hLi
  refine t_ifeq (t := 145) dX12_sees_126 (by decide) (fun h126 => ?_) (fun h126 => ?_)
  · refine n_iconst dX12_sees_145 (by decide) (fun r145 e145 => ?_)
    refine n_iadd dX12_sees_146 (by omega) (fun r146 e146 => ?_)
    refine m_putI zf_RX12_452 (by intro C T N h_z; cases h_z; rfl) rfl dX12_sees_147 (shM_k hs) ?_
    refine n_iconst dX12_sees_150 (by decide) (fun r150 e150 => ?_)
    refine m_zret dX12_sees_151 rfl (by omega) (Nat.le_of_ble_eq_true rfl) (Nat.le_of_ble_eq_true rfl) ?_
    have ofr := (show frM A [7, 8, 9, 12, 17] [30, 31, 32, 34] f _ from (frM_su o123 (by decide) (by decide)))
    refine hQ _ _ _ (goF_m0 (frM_zk (k := 30) ofr (by decide))) (Or.inr ⟨by omega, invC_up hI hr ?_ ?_ ?_ ?_⟩)
    · exact (zu_ni (by decide)).trans (ofr.2.2 28 (by decide))
    · exact (zu_ni (by decide)).trans (ofr.2.2 37 (by decide))
    · exact (zu_ne (by omega)).trans (ofr.2.1 13 (by decide) (by decide) (by decide))
    exact Or.inr ⟨Or.inl (decide_eq_false (fun e8 => by rcases e123_z with e9_z | e9_z; exact absurd e9_z.1 (by omega); exact e8 e9_z.2)), htb_of i3_z ((zu_ne (by omega)).trans (o123.2.1 15 (by decide) (by decide) (by decide))), by rw [zu_at]; omega⟩
  · refine r_aloadR0 dX12_sees_129 ?_
    refine r_aloadR0 dX12_sees_130 ?_
    refine r_iload1 dX12_sees_131 ?_
    refine q_callV1 zm_RX12_455 dX12_sees_132 (shM_k hs) (by decide) rfl (Nat.le_of_ble_eq_true rfl) (Nat.le_of_ble_eq_true rfl) (Nat.le_of_ble_eq_true rfl) (Nat.le_of_ble_eq_true rfl) (Nat.le_of_ble_eq_true rfl) (s_X12_lookAt (L := L) (T := T) G hs hk123 hw hx hd11 hL123 hr (fun r132 g132 e132 o132 => ?_))
    refine q_callV1 zm_RX12_459 dX12_sees_135 (shM_k hs) (by decide) rfl (Nat.le_of_ble_eq_true rfl) (Nat.le_of_ble_eq_true rfl) (Nat.le_of_ble_eq_true rfl) (Nat.le_of_ble_eq_true rfl) (Nat.le_of_ble_eq_true rfl) (s_X12_isNew (c := (fun L => lkN L (tbC T)) L) (tn := (f A 37).toInt) (S := cntS _ (fun L => lkN L (tbC T)) ps) G hs e132 (by rw [(frM_tr (frM_su o123 (by decide) (by decide)) (frM_su o132 (by decide) (by decide)) : frM A [7, 8, 9] [] f _).2.2 37 (by decide)]) hS6 (htb_of i3_z ((frM_tr (frM_su o123 (by decide) (by decide)) (frM_su o132 (by decide) (by decide)) : frM A [7, 8, 9] [] f _).2.1 15 (by decide) (by decide) (by decide))) (fun r135 g135 j135 c135 o135 q135 m135 => ?_))
    refine t_ifeq (t := 145) dX12_sees_138 (by decide) (fun h138 => ?_) (fun h138 => ?_)
    · refine n_iconst dX12_sees_145 (by decide) (fun r145 e145 => ?_)
      refine n_iadd dX12_sees_146 (by omega) (fun r146 e146 => ?_)
      refine m_putI zf_RX12_452 (by intro C T N h_z; cases h_z; rfl) rfl dX12_sees_147 (shM_k hs) ?_
      refine n_iconst dX12_sees_150 (by decide) (fun r150 e150 => ?_)
      refine m_zret dX12_sees_151 rfl (by omega) (Nat.le_of_ble_eq_true rfl) (Nat.le_of_ble_eq_true rfl) ?_
      have ofr := (show frM A [7, 8, 9, 12, 14, 15, 17] [30, 31, 32, 34] f _ from (frM_tr (frM_tr (frM_su o123 (by decide) (by decide)) (frM_su o132 (by decide) (by decide))) (frM_su o135 (by decide) (by decide))))
      refine hQ _ _ _ (goF_mk (frM_zk (k := 30) ofr (by decide)) q135 (fun i => by rw [zu_ne (by omega)]; exact m15_ch (frM_tr (frM_su o123 (by decide) (by decide)) (frM_su o132 (by decide) (by decide)) : frM A [7, 8, 9] [] f _) (by decide) (by decide) m135 i)) (Or.inr ⟨by omega, invC_up hI hr ?_ ?_ ?_ ?_⟩)
      · exact (zu_ni (by decide)).trans (ofr.2.2 28 (by decide))
      · exact (zu_ni (by decide)).trans (ofr.2.2 37 (by decide))
      · exact (zu_ne (by omega)).trans (ofr.2.1 13 (by decide) (by decide) (by decide))
      rcases c135 with ⟨k1_z, k2_z, k3_z⟩ | ⟨k1_z, k2_z, k3_z⟩
      · first | (exfalso; omega) | exact Or.inl ⟨(decide_eq_true (by rcases e123_z with e9_z | e9_z; exact e9_z.2; exact absurd e9_z.1 (by omega))), k2_z, htb_of k3_z (zu_ne (by omega)), by rw [zu_at]; omega⟩
      · first | (exfalso; omega) | exact Or.inr ⟨Or.inr k2_z, htb_of k3_z (zu_ne (by omega)), by rw [zu_at]; omega⟩
    · refine n_iconst dX12_sees_141 (by decide) (fun r141 e141 => ?_)
      refine r_goto (t := 146) dX12_sees_142 (by decide) ?_
      refine n_iadd dX12_sees_146 (by omega) (fun r146 e146 => ?_)
      refine m_putI zf_RX12_452 (by intro C T N h_z; cases h_z; rfl) rfl dX12_sees_147 (shM_k hs) ?_
      refine n_iconst dX12_sees_150 (by decide) (fun r150 e150 => ?_)
      refine m_zret dX12_sees_151 rfl (by omega) (Nat.le_of_ble_eq_true rfl) (Nat.le_of_ble_eq_true rfl) ?_
      have ofr := (show frM A [7, 8, 9, 12, 14, 15, 17] [30, 31, 32, 34] f _ from (frM_tr (frM_tr (frM_su o123 (by decide) (by decide)) (frM_su o132 (by decide) (by decide))) (frM_su o135 (by decide) (by decide))))
      refine hQ _ _ _ (goF_mk (frM_zk (k := 30) ofr (by decide)) q135 (fun i => by rw [zu_ne (by omega)]; exact m15_ch (frM_tr (frM_su o123 (by decide) (by decide)) (frM_su o132 (by decide) (by decide)) : frM A [7, 8, 9] [] f _) (by decide) (by decide) m135 i)) (Or.inr ⟨by omega, invC_up hI hr ?_ ?_ ?_ ?_⟩)
      · exact (zu_ni (by decide)).trans (ofr.2.2 28 (by decide))
      · exact (zu_ni (by decide)).trans (ofr.2.2 37 (by decide))
      · exact (zu_ne (by omega)).trans (ofr.2.1 13 (by decide) (by decide) (by decide))
      rcases c135 with ⟨k1_z, k2_z, k3_z⟩ | ⟨k1_z, k2_z, k3_z⟩
      · first | (exfalso; omega) | exact Or.inl ⟨(decide_eq_true (by rcases e123_z with e9_z | e9_z; exact e9_z.2; exact absurd e9_z.1 (by omega))), k2_z, htb_of k3_z (zu_ne (by omega)), by rw [zu_at]; omega⟩
      · first | (exfalso; omega) | exact Or.inr ⟨Or.inr k2_z, htb_of k3_z (zu_ne (by omega)), by rw [zu_at]; omega⟩
theorem see_hol {g : zGT} {w : zW} {A : Nat} {T : zTb} {dd : Nat} {K : Nat → Int} (G : zGok g) (hs : shM w A) (hw : wfT T) (hdd : dd ≤ 5) : seeC g w A T dd (invC A T 2 K (fun L r => decide (holV T L (dd + r.length) ≠ 0)) (fun L => lkN L (tbC T))) ((fun _ _ _ _ => False)) := fun f j ps L r x Q QX hk hgo hr hx hB_z hI hQ => s_X12_sees_hol G hs hw hdd hk hgo hr hx hB_z hI hQ
set_option maxHeartbeats 4000000 in
set_option maxRecDepth 100000 in
theorem s_X12_sees_bet {g : zGT} {w : zW} {f : Nat → Nat → Int32} {j : Nat → Nat → Int64} {A : Nat} {T : zTb} {dd : Nat} {L : zLy} {r : List Nat} {ps : List zRo} {x : Int32} {K : Nat → Int} {Q : Option Value → zW → Prop} {QX : String → zW → Prop} (G : zGok g) (hs : shM w A) (hw : wfT T) (hdd : dd ≤ 5) (hk : ctKn (f (A + 1)) T) (hgo : goAt f A dd L r) (hr : rch (tbC T) L) (hx : x.toInt = ((dd + r.length : Nat) : Int)) (hB_z : ps.length < 10000000) (hI : (invC A T 7 K (fun L r => decide (plV K (likV T L (dd + r.length)) (tbG T) ≠ 0)) (fun L => lkN L (tbC T))) f j ps) (hQ : ∀ (b : Int32) f2_z j2, goF A (dd + r.length) r.length f f2_z j j2 → (b.toInt = 1 ∧ (fun _ _ _ _ => False) f2_z j2 ps (L, r) ∨ b.toInt = 0 ∧ (invC A T 7 K (fun L r => decide (plV K (likV T L (dd + r.length)) (tbG T) ≠ 0)) (fun L => lkN L (tbC T))) f2_z j2 (ps ++ [(L, r)])) → Q (some (.int b)) (zM w f2_z j2)) : zC g 9 yX12_sees cX12_sees 3 (some .boolean) [.ref A, .int x] (zM w f j) (0, 0) Q QX := by
  refine zC_of G (by decide +kernel) (Nat.le_of_ble_eq_true rfl) ?_
  have hn6 : tbC T ≤ 6 := hw.2.1
  have hg4 : tbG T ≤ 4 := hw.2.2.1
  have hrc := rch_cell hr
  have hLn : L.length ≤ 6 := Nat.le_trans hrc.2.2.2.2 hn6
  have hm99 := hw.2.2.2.2.2.2.2.1.2.2
  have hrl5 := hgo.2.2.2
  have hd11 : dd + r.length < 11 := by omega
  have hLi := hgo.1
  have h29 := hgo.2.1
  have hrw := hgo.2.2.1
  have hll : (f (A + 6) (43 * (dd + r.length))).toInt = (L.length : Nat) := hLi.1
  have hI9 := hI
  obtain ⟨i1_z, i2_z, i3_z, i4_z, i5_z⟩ := hI9
  have hcl : (cntS (fun L r => decide (plV K (likV T L (dd + r.length)) (tbG T) ≠ 0)) (fun L => lkN L (tbC T)) ps).length ≤ 1000 := cntS_len hn6 i5_z
  have hS6 : (cntS (fun L r => decide (plV K (likV T L (dd + r.length)) (tbG T) ≠ 0)) (fun L => lkN L (tbC T)) ps).length < 65536 := by omega
  refine r_aloadR0 dX12_sees_0 ?_
  refine m_getV (x := (f A 28)) zf_RX12_443 rfl dX12_sees_1 (shM_k hs) (rfl) ?_
  refine n_tabC (k := 7) (t := 152) dX12_sees_4 (by decide) rfl (by decide) (fun h4 => ?_) (fun h4 => False.elim (h4 (by omega)))
  refine r_aloadR0 dX12_sees_152 ?_
  refine r_dup dX12_sees_153 rfl ?_
  refine m_getV (x := (f A 30)) zf_RX12_452 rfl dX12_sees_154 (shM_k hs) (rfl) ?_
  refine r_aloadR0 dX12_sees_157 ?_
  refine r_iload1 dX12_sees_158 ?_
  refine q_callV1 zm_RX12_462 dX12_sees_159 (shM_k hs) (by decide) rfl (Nat.le_of_ble_eq_true rfl) (Nat.le_of_ble_eq_true rfl) (Nat.le_of_ble_eq_true rfl) (Nat.le_of_ble_eq_true rfl) (Nat.le_of_ble_eq_true rfl) (s_X12_isBetter (L := L) (T := T) (K := K) G hs hk hw hx hd11 hLi hr i4_z (fun r159 g159 e159 o159 => ?_))
  have hk159 : ctKn (g159 (A + 1)) T := by rw [o159.2.1 1 (by decide) (by decide) (by decide)]; exact hk
  have hL159 : ctLi (g159 (A + 6)) (dd + r.length) L := by rw [o159.2.1 6 (by decide) (by decide) (by decide)]; exact hLi
  refine t_ifeq (t := 181) dX12_sees_162 (by decide) (fun h162 => ?_) (fun h162 => ?_)
  · refine n_iconst dX12_sees_181 (by decide) (fun r181 e181 => ?_)
    refine n_iadd dX12_sees_182 (by omega) (fun r182 e182 => ?_)
    refine m_putI zf_RX12_452 (by intro C T N h_z; cases h_z; rfl) rfl dX12_sees_183 (shM_k hs) ?_
    refine n_iconst dX12_sees_186 (by decide) (fun r186 e186 => ?_)
    refine m_zret dX12_sees_187 rfl (by omega) (Nat.le_of_ble_eq_true rfl) (Nat.le_of_ble_eq_true rfl) ?_
    have ofr := (show frM A [7, 8, 9, 12, 17] [30, 31, 32, 34] f _ from (frM_su o159 (by decide) (by decide)))
    refine hQ _ _ _ (goF_m0 (frM_zk (k := 30) ofr (by decide))) (Or.inr ⟨by omega, invC_up hI hr ?_ ?_ ?_ ?_⟩)
    · exact (zu_ni (by decide)).trans (ofr.2.2 28 (by decide))
    · exact (zu_ni (by decide)).trans (ofr.2.2 37 (by decide))
    · exact (zu_ne (by omega)).trans (ofr.2.1 13 (by decide) (by decide) (by decide))
    exact Or.inr ⟨Or.inl (decide_eq_false (fun e8 => e8 (by rw [← e159]; omega))), htb_of i3_z ((zu_ne (by omega)).trans (o159.2.1 15 (by decide) (by decide) (by decide))), by rw [zu_at]; omega⟩
  · refine r_aloadR0 dX12_sees_165 ?_
    refine r_aloadR0 dX12_sees_166 ?_
    refine r_iload1 dX12_sees_167 ?_
    refine q_callV1 zm_RX12_455 dX12_sees_168 (shM_k hs) (by decide) rfl (Nat.le_of_ble_eq_true rfl) (Nat.le_of_ble_eq_true rfl) (Nat.le_of_ble_eq_true rfl) (Nat.le_of_ble_eq_true rfl) (Nat.le_of_ble_eq_true rfl) (s_X12_lookAt (L := L) (T := T) G hs hk159 hw hx hd11 hL159 hr (fun r168 g168 e168 o168 => ?_))
    refine q_callV1 zm_RX12_459 dX12_sees_171 (shM_k hs) (by decide) rfl (Nat.le_of_ble_eq_true rfl) (Nat.le_of_ble_eq_true rfl) (Nat.le_of_ble_eq_true rfl) (Nat.le_of_ble_eq_true rfl) (Nat.le_of_ble_eq_true rfl) (s_X12_isNew (c := (fun L => lkN L (tbC T)) L) (tn := (f A 37).toInt) (S := cntS _ (fun L => lkN L (tbC T)) ps) G hs e168 (by rw [(frM_tr (frM_su o159 (by decide) (by decide)) (frM_su o168 (by decide) (by decide)) : frM A [7, 8, 9] [] f _).2.2 37 (by decide)]) hS6 (htb_of i3_z ((frM_tr (frM_su o159 (by decide) (by decide)) (frM_su o168 (by decide) (by decide)) : frM A [7, 8, 9] [] f _).2.1 15 (by decide) (by decide) (by decide))) (fun r171 g171 j171 c171 o171 q171 m171 => ?_))
    refine t_ifeq (t := 181) dX12_sees_174 (by decide) (fun h174 => ?_) (fun h174 => ?_)
    · refine n_iconst dX12_sees_181 (by decide) (fun r181 e181 => ?_)
      refine n_iadd dX12_sees_182 (by omega) (fun r182 e182 => ?_)
      refine m_putI zf_RX12_452 (by intro C T N h_z; cases h_z; rfl) rfl dX12_sees_183 (shM_k hs) ?_
      refine n_iconst dX12_sees_186 (by decide) (fun r186 e186 => ?_)
      refine m_zret dX12_sees_187 rfl (by omega) (Nat.le_of_ble_eq_true rfl) (Nat.le_of_ble_eq_true rfl) ?_
      have ofr := (show frM A [7, 8, 9, 12, 14, 15, 17] [30, 31, 32, 34] f _ from (frM_tr (frM_tr (frM_su o159 (by decide) (by decide)) (frM_su o168 (by decide) (by decide))) (frM_su o171 (by decide) (by decide))))
      refine hQ _ _ _ (goF_mk (frM_zk (k := 30) ofr (by decide)) q171 (fun i => by rw [zu_ne (by omega)]; exact m15_ch (frM_tr (frM_su o159 (by decide) (by decide)) (frM_su o168 (by decide) (by decide)) : frM A [7, 8, 9] [] f _) (by decide) (by decide) m171 i)) (Or.inr ⟨by omega, invC_up hI hr ?_ ?_ ?_ ?_⟩)
      · exact (zu_ni (by decide)).trans (ofr.2.2 28 (by decide))
      · exact (zu_ni (by decide)).trans (ofr.2.2 37 (by decide))
      · exact (zu_ne (by omega)).trans (ofr.2.1 13 (by decide) (by decide) (by decide))
      rcases c171 with ⟨k1_z, k2_z, k3_z⟩ | ⟨k1_z, k2_z, k3_z⟩
      · first | (exfalso; omega) | exact Or.inl ⟨(decide_eq_true (by rw [← e159]; omega)), k2_z, htb_of k3_z (zu_ne (by omega)), by rw [zu_at]; omega⟩
      · first | (exfalso; omega) | exact Or.inr ⟨Or.inr k2_z, htb_of k3_z (zu_ne (by omega)), by rw [zu_at]; omega⟩
    · refine n_iconst dX12_sees_177 (by decide) (fun r177 e177 => ?_)
      refine r_goto (t := 182) dX12_sees_178 (by decide) ?_
      refine n_iadd dX12_sees_182 (by omega) (fun r182 e182 => ?_)
      refine m_putI zf_RX12_452 (by intro C T N h_z; cases h_z; rfl) rfl dX12_sees_183 (shM_k hs) ?_
      refine n_iconst dX12_sees_186 (by decide) (fun r186 e186 => ?_)
      refine m_zret dX12_sees_187 rfl (by omega) (Nat.le_of_ble_eq_true rfl) (Nat.le_of_ble_eq_true rfl) ?_
      have ofr := (show frM A [7, 8, 9, 12, 14, 15, 17] [30, 31, 32, 34] f _ from (frM_tr (frM_tr (frM_su o159 (by decide) (by decide)) (frM_su o168 (by decide) (by decide))) (frM_su o171 (by decide) (by decide))))
      refine hQ _ _ _ (goF_mk (frM_zk (k := 30) ofr (by decide)) q171 (fun i => by rw [zu_ne (by omega)]; exact m15_ch (frM_tr (frM_su o159 (by decide) (by decide)) (frM_su o168 (by decide) (by decide)) : frM A [7, 8, 9] [] f _) (by decide) (by decide) m171 i)) (Or.inr ⟨by omega, invC_up hI hr ?_ ?_ ?_ ?_⟩)
      · exact (zu_ni (by decide)).trans (ofr.2.2 28 (by decide))
      · exact (zu_ni (by decide)).trans (ofr.2.2 37 (by decide))
      · exact (zu_ne (by omega)).trans (ofr.2.1 13 (by decide) (by decide) (by decide))
      rcases c171 with ⟨k1_z, k2_z, k3_z⟩ | ⟨k1_z, k2_z, k3_z⟩
      · first | (exfalso; omega) | exact Or.inl ⟨(decide_eq_true (by rw [← e159]; omega)), k2_z, htb_of k3_z (zu_ne (by omega)), by rw [zu_at]; omega⟩
      · first | (exfalso; omega) | exact Or.inr ⟨Or.inr k2_z, htb_of k3_z (zu_ne (by omega)), by rw [zu_at]; omega⟩
theorem see_bet {g : zGT} {w : zW} {A : Nat} {T : zTb} {dd : Nat} {K : Nat → Int} (G : zGok g) (hs : shM w A) (hw : wfT T) (hdd : dd ≤ 5) : seeC g w A T dd (invC A T 7 K (fun L r => decide (plV K (likV T L (dd + r.length)) (tbG T) ≠ 0)) (fun L => lkN L (tbC T))) ((fun _ _ _ _ => False)) := fun f j ps L r x Q QX hk hgo hr hx hB_z hI hQ => s_X12_sees_bet G hs hw hdd hk hgo hr hx hB_z hI hQ
set_option maxHeartbeats 4000000 in
set_option maxRecDepth 100000 in
theorem s_X12_sees_sim {g : zGT} {w : zW} {f : Nat → Nat → Int32} {j : Nat → Nat → Int64} {A : Nat} {T : zTb} {dd : Nat} {L : zLy} {r : List Nat} {ps : List zRo} {x : Int32} {K : Nat → Int} {Q : Option Value → zW → Prop} {QX : String → zW → Prop} (G : zGok g) (hs : shM w A) (hw : wfT T) (hdd : dd ≤ 5) (hk : ctKn (f (A + 1)) T) (hgo : goAt f A dd L r) (hr : rch (tbC T) L) (hx : x.toInt = ((dd + r.length : Nat) : Int)) (hB_z : ps.length < 10000000) (hI : (invC A T 10 K (fun L _ => decide (L.length < 2)) (fun L => orN L (tbC T))) f j ps) (hQ : ∀ (b : Int32) f2_z j2, goF A (dd + r.length) r.length f f2_z j j2 → (b.toInt = 1 ∧ (fun _ _ _ _ => False) f2_z j2 ps (L, r) ∨ b.toInt = 0 ∧ (invC A T 10 K (fun L _ => decide (L.length < 2)) (fun L => orN L (tbC T))) f2_z j2 (ps ++ [(L, r)])) → Q (some (.int b)) (zM w f2_z j2)) : zC g 9 yX12_sees cX12_sees 3 (some .boolean) [.ref A, .int x] (zM w f j) (0, 0) Q QX := by
  refine zC_of G (by decide +kernel) (Nat.le_of_ble_eq_true rfl) ?_
  have hn6 : tbC T ≤ 6 := hw.2.1
  have hg4 : tbG T ≤ 4 := hw.2.2.1
  have hrc := rch_cell hr
  have hLn : L.length ≤ 6 := Nat.le_trans hrc.2.2.2.2 hn6
  have hm99 := hw.2.2.2.2.2.2.2.1.2.2
  have hrl5 := hgo.2.2.2
  have hd11 : dd + r.length < 11 := by omega
  have hLi := hgo.1
  have h29 := hgo.2.1
  have hrw := hgo.2.2.1
  have hll : (f (A + 6) (43 * (dd + r.length))).toInt = (L.length : Nat) := hLi.1
  have hI9 := hI
  obtain ⟨i1_z, i2_z, i3_z, i4_z, i5_z⟩ := hI9
  have hcl : (cntS (fun L _ => decide (L.length < 2)) (fun L => orN L (tbC T)) ps).length ≤ 1000 := cntS_len hn6 i5_z
  have hS6 : (cntS (fun L _ => decide (L.length < 2)) (fun L => orN L (tbC T)) ps).length < 65536 := by omega
  refine r_aloadR0 dX12_sees_0 ?_
  refine m_getV (x := (f A 28)) zf_RX12_443 rfl dX12_sees_1 (shM_k hs) (rfl) ?_
  refine n_tabC (k := 10) (t := 188) dX12_sees_4 (by decide) rfl (by decide) (fun h4 => ?_) (fun h4 => False.elim (h4 (by omega)))
  refine r_aloadR0 dX12_sees_188 ?_
  refine r_dup dX12_sees_189 rfl ?_
  refine m_getV (x := (f A 30)) zf_RX12_452 rfl dX12_sees_190 (shM_k hs) (rfl) ?_
  refine r_aloadR0 dX12_sees_193 ?_
  refine r_iload1 dX12_sees_194 ?_
  refine q_callV1 zm_RX12_256 dX12_sees_195 (shM_k hs) (by decide) rfl (Nat.le_of_ble_eq_true rfl) (Nat.le_of_ble_eq_true rfl) (Nat.le_of_ble_eq_true rfl) (Nat.le_of_ble_eq_true rfl) (Nat.le_of_ble_eq_true rfl) (s_X12_columnsAt (v := L.length) G hs hx hd11 hll (fun r195 e195 => ?_))
  refine n_iconst dX12_sees_198 (by decide) (fun r198 e198 => ?_)
  refine t_icge (t := 218) dX12_sees_199 (by decide) (fun h199 => ?_) (fun h199 => ?_)
  · refine n_iconst dX12_sees_218 (by decide) (fun r218 e218 => ?_)
    refine n_iadd dX12_sees_219 (by omega) (fun r219 e219 => ?_)
    refine m_putI zf_RX12_452 (by intro C T N h_z; cases h_z; rfl) rfl dX12_sees_220 (shM_k hs) ?_
    refine n_iconst dX12_sees_223 (by decide) (fun r223 e223 => ?_)
    refine m_zret dX12_sees_224 rfl (by omega) (Nat.le_of_ble_eq_true rfl) (Nat.le_of_ble_eq_true rfl) ?_
    have ofr := (show frM A [7, 8, 9, 12, 17] [30, 31, 32, 34] f _ from (frM_su (frM_rf : frM A [] [] f f) (by decide) (by decide)))
    refine hQ _ _ _ (goF_m0 (frM_zk (k := 30) ofr (by decide))) (Or.inr ⟨by omega, invC_up hI hr ?_ ?_ ?_ ?_⟩)
    · exact (zu_ni (by decide)).trans (ofr.2.2 28 (by decide))
    · exact (zu_ni (by decide)).trans (ofr.2.2 37 (by decide))
    · exact (zu_ne (by omega)).trans (ofr.2.1 13 (by decide) (by decide) (by decide))
    exact Or.inr ⟨Or.inl (decide_eq_false (by omega)), htb_of i3_z ((zu_ne (by omega))), by rw [zu_at]; omega⟩
  · refine r_aloadR0 dX12_sees_202 ?_
    refine r_aloadR0 dX12_sees_203 ?_
    refine r_iload1 dX12_sees_204 ?_
    refine q_callV1 zm_RX12_465 dX12_sees_205 (shM_k hs) (by decide) rfl (Nat.le_of_ble_eq_true rfl) (Nat.le_of_ble_eq_true rfl) (Nat.le_of_ble_eq_true rfl) (Nat.le_of_ble_eq_true rfl) (Nat.le_of_ble_eq_true rfl) (s_X12_orderAt (L := L) (T := T) G hs hk hw hx hd11 hLi hr (by omega) (fun r205 e205 => ?_))
    refine q_callV1 zm_RX12_459 dX12_sees_208 (shM_k hs) (by decide) rfl (Nat.le_of_ble_eq_true rfl) (Nat.le_of_ble_eq_true rfl) (Nat.le_of_ble_eq_true rfl) (Nat.le_of_ble_eq_true rfl) (Nat.le_of_ble_eq_true rfl) (s_X12_isNew (c := (fun L => orN L (tbC T)) L) (tn := (f A 37).toInt) (S := cntS _ (fun L => orN L (tbC T)) ps) G hs e205 (by rw [(frM_rf : frM A [] [] f f).2.2 37 (by decide)]) hS6 (htb_of i3_z ((frM_rf : frM A [] [] f f).2.1 15 (by decide) (by decide) (by decide))) (fun r208 g208 j208 c208 o208 q208 m208 => ?_))
    refine t_ifeq (t := 218) dX12_sees_211 (by decide) (fun h211 => ?_) (fun h211 => ?_)
    · refine n_iconst dX12_sees_218 (by decide) (fun r218 e218 => ?_)
      refine n_iadd dX12_sees_219 (by omega) (fun r219 e219 => ?_)
      refine m_putI zf_RX12_452 (by intro C T N h_z; cases h_z; rfl) rfl dX12_sees_220 (shM_k hs) ?_
      refine n_iconst dX12_sees_223 (by decide) (fun r223 e223 => ?_)
      refine m_zret dX12_sees_224 rfl (by omega) (Nat.le_of_ble_eq_true rfl) (Nat.le_of_ble_eq_true rfl) ?_
      have ofr := (show frM A [7, 8, 9, 12, 14, 15, 17] [30, 31, 32, 34] f _ from (frM_su o208 (by decide) (by decide)))
      refine hQ _ _ _ (goF_mk (frM_zk (k := 30) ofr (by decide)) q208 (fun i => by rw [zu_ne (by omega)]; exact m15_ch (frM_rf : frM A [] [] f f) (by decide) (by decide) m208 i)) (Or.inr ⟨by omega, invC_up hI hr ?_ ?_ ?_ ?_⟩)
      · exact (zu_ni (by decide)).trans (ofr.2.2 28 (by decide))
      · exact (zu_ni (by decide)).trans (ofr.2.2 37 (by decide))
      · exact (zu_ne (by omega)).trans (ofr.2.1 13 (by decide) (by decide) (by decide))
      rcases c208 with ⟨k1_z, k2_z, k3_z⟩ | ⟨k1_z, k2_z, k3_z⟩
      · first | (exfalso; omega) | exact Or.inl ⟨(decide_eq_true (by omega)), k2_z, htb_of k3_z (zu_ne (by omega)), by rw [zu_at]; omega⟩
      · first | (exfalso; omega) | exact Or.inr ⟨Or.inr k2_z, htb_of k3_z (zu_ne (by omega)), by rw [zu_at]; omega⟩
    · refine n_iconst dX12_sees_214 (by decide) (fun r214 e214 => ?_)
      refine r_goto (t := 219) dX12_sees_215 (by decide) ?_
      refine n_iadd dX12_sees_219 (by omega) (fun r219 e219 => ?_)
      refine m_putI zf_RX12_452 (by intro C T N h_z; cases h_z; rfl) rfl dX12_sees_220 (shM_k hs) ?_
      refine n_iconst dX12_sees_223 (by decide) (fun r223 e223 => ?_)
      refine m_zret dX12_sees_224 rfl (by omega) (Nat.le_of_ble_eq_true rfl) (Nat.le_of_ble_eq_true rfl) ?_
      have ofr := (show frM A [7, 8, 9, 12, 14, 15, 17] [30, 31, 32, 34] f _ from (frM_su o208 (by decide) (by decide)))
      refine hQ _ _ _ (goF_mk (frM_zk (k := 30) ofr (by decide)) q208 (fun i => by rw [zu_ne (by omega)]; exact m15_ch (frM_rf : frM A [] [] f f) (by decide) (by decide) m208 i)) (Or.inr ⟨by omega, invC_up hI hr ?_ ?_ ?_ ?_⟩)
      · exact (zu_ni (by decide)).trans (ofr.2.2 28 (by decide))
      · exact (zu_ni (by decide)).trans (ofr.2.2 37 (by decide))
      · exact (zu_ne (by omega)).trans (ofr.2.1 13 (by decide) (by decide) (by decide))
      rcases c208 with ⟨k1_z, k2_z, k3_z⟩ | ⟨k1_z, k2_z, k3_z⟩
      · first | (exfalso; omega) | exact Or.inl ⟨(decide_eq_true (by omega)), k2_z, htb_of k3_z (zu_ne (by omega)), by rw [zu_at]; omega⟩
      · first | (exfalso; omega) | exact Or.inr ⟨Or.inr k2_z, htb_of k3_z (zu_ne (by omega)), by rw [zu_at]; omega⟩
theorem see_sim {g : zGT} {w : zW} {A : Nat} {T : zTb} {dd : Nat} {K : Nat → Int} (G : zGok g) (hs : shM w A) (hw : wfT T) (hdd : dd ≤ 5) : seeC g w A T dd (invC A T 10 K (fun L _ => decide (L.length < 2)) (fun L => orN L (tbC T))) ((fun _ _ _ _ => False)) := fun f j ps L r x Q QX hk hgo hr hx hB_z hI hQ => s_X12_sees_sim G hs hw hdd hk hgo hr hx hB_z hI hQ
set_option maxHeartbeats 4000000 in
set_option maxRecDepth 100000 in
theorem s_X12_sees_pat {g : zGT} {w : zW} {f : Nat → Nat → Int32} {j : Nat → Nat → Int64} {A : Nat} {T : zTb} {dd : Nat} {L : zLy} {r : List Nat} {ps : List zRo} {x : Int32} {K : Nat → Int} {Q : Option Value → zW → Prop} {QX : String → zW → Prop} (G : zGok g) (hs : shM w A) (hw : wfT T) (hdd : dd ≤ 5) (hk : ctKn (f (A + 1)) T) (hgo : goAt f A dd L r) (hr : rch (tbC T) L) (hx : x.toInt = ((dd + r.length : Nat) : Int)) (hB_z : ps.length < 10000000) (hI : (invC A T 12 K (fun _ _ => true) (fun L => crN L (tbC T - 1))) f j ps) (hQ : ∀ (b : Int32) f2_z j2, goF A (dd + r.length) r.length f f2_z j j2 → (b.toInt = 1 ∧ (fun _ _ _ _ => False) f2_z j2 ps (L, r) ∨ b.toInt = 0 ∧ (invC A T 12 K (fun _ _ => true) (fun L => crN L (tbC T - 1))) f2_z j2 (ps ++ [(L, r)])) → Q (some (.int b)) (zM w f2_z j2)) : zC g 9 yX12_sees cX12_sees 3 (some .boolean) [.ref A, .int x] (zM w f j) (0, 0) Q QX := by
  refine zC_of G (by decide +kernel) (Nat.le_of_ble_eq_true rfl) ?_
  have hn6 : tbC T ≤ 6 := hw.2.1
  have hg4 : tbG T ≤ 4 := hw.2.2.1
  have hrc := rch_cell hr
  have hLn : L.length ≤ 6 := Nat.le_trans hrc.2.2.2.2 hn6
  have hm99 := hw.2.2.2.2.2.2.2.1.2.2
  have hrl5 := hgo.2.2.2
  have hd11 : dd + r.length < 11 := by omega
  have hLi := hgo.1
  have h29 := hgo.2.1
  have hrw := hgo.2.2.1
  have hll : (f (A + 6) (43 * (dd + r.length))).toInt = (L.length : Nat) := hLi.1
  have hI9 := hI
  obtain ⟨i1_z, i2_z, i3_z, i4_z, i5_z⟩ := hI9
  have hcl : (cntS (fun _ _ => true) (fun L => crN L (tbC T - 1)) ps).length ≤ 1000 := cntS_len hn6 i5_z
  have hS6 : (cntS (fun _ _ => true) (fun L => crN L (tbC T - 1)) ps).length < 65536 := by omega
  refine r_aloadR0 dX12_sees_0 ?_
  refine m_getV (x := (f A 28)) zf_RX12_443 rfl dX12_sees_1 (shM_k hs) (rfl) ?_
  refine n_tabC (k := 12) (t := 225) dX12_sees_4 (by decide) rfl (by decide) (fun h4 => ?_) (fun h4 => False.elim (h4 (by omega)))
  refine r_aloadR0 dX12_sees_225 ?_
  refine r_dup dX12_sees_226 rfl ?_
  refine m_getV (x := (f A 30)) zf_RX12_452 rfl dX12_sees_227 (shM_k hs) (rfl) ?_
  refine r_aloadR0 dX12_sees_230 ?_
  refine r_aloadR0 dX12_sees_231 ?_
  refine r_iload1 dX12_sees_232 ?_
  refine q_callV1 zm_RX12_468 dX12_sees_233 (shM_k hs) (by decide) rfl (Nat.le_of_ble_eq_true rfl) (Nat.le_of_ble_eq_true rfl) (Nat.le_of_ble_eq_true rfl) (Nat.le_of_ble_eq_true rfl) (Nat.le_of_ble_eq_true rfl) (s_X12_creasesAt (n := tbC T) (L := L) G hs hk.1.2.1 hx hd11 hLi hr (fun r233 g233 e233 o233 => ?_))
  refine n_i2l dX12_sees_236 (fun r236 e236 => ?_)
  refine q_callV1 zm_RX12_459 dX12_sees_237 (shM_k hs) (by decide) rfl (Nat.le_of_ble_eq_true rfl) (Nat.le_of_ble_eq_true rfl) (Nat.le_of_ble_eq_true rfl) (Nat.le_of_ble_eq_true rfl) (Nat.le_of_ble_eq_true rfl) (s_X12_isNew (c := (fun L => crN L (tbC T - 1)) L) (tn := (f A 37).toInt) (S := cntS _ (fun L => crN L (tbC T - 1)) ps) G hs (by rw [e236, e233]) (by rw [o233.2.2 37 (by decide)]) hS6 (htb_of i3_z (o233.2.1 15 (by decide) (by decide) (by decide))) (fun r237 g237 j237 c237 o237 q237 m237 => ?_))
  refine t_ifeq (t := 247) dX12_sees_240 (by decide) (fun h240 => ?_) (fun h240 => ?_)
  · refine n_iconst dX12_sees_247 (by decide) (fun r247 e247 => ?_)
    refine n_iadd dX12_sees_248 (by omega) (fun r248 e248 => ?_)
    refine m_putI zf_RX12_452 (by intro C T N h_z; cases h_z; rfl) rfl dX12_sees_249 (shM_k hs) ?_
    refine n_iconst dX12_sees_252 (by decide) (fun r252 e252 => ?_)
    refine m_zret dX12_sees_253 rfl (by omega) (Nat.le_of_ble_eq_true rfl) (Nat.le_of_ble_eq_true rfl) ?_
    have ofr := (show frM A [7, 8, 9, 12, 14, 15, 17] [30, 31, 32, 34] f _ from (frM_tr (frM_su o233 (by decide) (by decide)) (frM_su o237 (by decide) (by decide))))
    refine hQ _ _ _ (goF_mk (frM_zk (k := 30) ofr (by decide)) q237 (fun i => by rw [zu_ne (by omega)]; exact m15_ch o233 (by decide) (by decide) m237 i)) (Or.inr ⟨by omega, invC_up hI hr ?_ ?_ ?_ ?_⟩)
    · exact (zu_ni (by decide)).trans (ofr.2.2 28 (by decide))
    · exact (zu_ni (by decide)).trans (ofr.2.2 37 (by decide))
    · exact (zu_ne (by omega)).trans (ofr.2.1 13 (by decide) (by decide) (by decide))
    rcases c237 with ⟨k1_z, k2_z, k3_z⟩ | ⟨k1_z, k2_z, k3_z⟩
    · first | (exfalso; omega) | exact Or.inl ⟨rfl, k2_z, htb_of k3_z (zu_ne (by omega)), by rw [zu_at]; omega⟩
    · first | (exfalso; omega) | exact Or.inr ⟨Or.inr k2_z, htb_of k3_z (zu_ne (by omega)), by rw [zu_at]; omega⟩
  · refine n_iconst dX12_sees_243 (by decide) (fun r243 e243 => ?_)
    refine r_goto (t := 248) dX12_sees_244 (by decide) ?_
    refine n_iadd dX12_sees_248 (by omega) (fun r248 e248 => ?_)
    refine m_putI zf_RX12_452 (by intro C T N h_z; cases h_z; rfl) rfl dX12_sees_249 (shM_k hs) ?_
    refine n_iconst dX12_sees_252 (by decide) (fun r252 e252 => ?_)
    refine m_zret dX12_sees_253 rfl (by omega) (Nat.le_of_ble_eq_true rfl) (Nat.le_of_ble_eq_true rfl) ?_
    have ofr := (show frM A [7, 8, 9, 12, 14, 15, 17] [30, 31, 32, 34] f _ from (frM_tr (frM_su o233 (by decide) (by decide)) (frM_su o237 (by decide) (by decide))))
    refine hQ _ _ _ (goF_mk (frM_zk (k := 30) ofr (by decide)) q237 (fun i => by rw [zu_ne (by omega)]; exact m15_ch o233 (by decide) (by decide) m237 i)) (Or.inr ⟨by omega, invC_up hI hr ?_ ?_ ?_ ?_⟩)
    · exact (zu_ni (by decide)).trans (ofr.2.2 28 (by decide))
    · exact (zu_ni (by decide)).trans (ofr.2.2 37 (by decide))
    · exact (zu_ne (by omega)).trans (ofr.2.1 13 (by decide) (by decide) (by decide))
    rcases c237 with ⟨k1_z, k2_z, k3_z⟩ | ⟨k1_z, k2_z, k3_z⟩
    · first | (exfalso; omega) | exact Or.inl ⟨rfl, k2_z, htb_of k3_z (zu_ne (by omega)), by rw [zu_at]; omega⟩
    · first | (exfalso; omega) | exact Or.inr ⟨Or.inr k2_z, htb_of k3_z (zu_ne (by omega)), by rw [zu_at]; omega⟩
theorem see_pat {g : zGT} {w : zW} {A : Nat} {T : zTb} {dd : Nat} {K : Nat → Int} (G : zGok g) (hs : shM w A) (hw : wfT T) (hdd : dd ≤ 5) : seeC g w A T dd (invC A T 12 K (fun _ _ => true) (fun L => crN L (tbC T - 1))) ((fun _ _ _ _ => False)) := fun f j ps L r x Q QX hk hgo hr hx hB_z hI hQ => s_X12_sees_pat G hs hw hdd hk hgo hr hx hB_z hI hQ
def invR (A : Nat) (f : Nat → Nat → Int32) (_ : Nat → Nat → Int64) (ps : List zRo) : Prop := (f A 28).toInt = 0 ∧ (f A 30).toInt = (ps.length : Nat)
theorem invR_iv {A : Nat} (f1_z f2_z : Nat → Nat → Int32) (j1 : Nat → Nat → Int64) (ps1 : List zRo) (h_z : frM A [6, 11] [] f1_z f2_z) (hI : invR A f1_z j1 ps1) : invR A f2_z j1 ps1 := ⟨by rw [h_z.2.2 28 (by decide)]; exact hI.1, by rw [h_z.2.2 30 (by decide)]; exact hI.2⟩
set_option maxHeartbeats 4000000 in
set_option maxRecDepth 100000 in
theorem s_X12_sees_row {g : zGT} {w : zW} {f : Nat → Nat → Int32} {j : Nat → Nat → Int64} {A : Nat} {T : zTb} {dd : Nat} {L : zLy} {r : List Nat} {ps : List zRo} {x : Int32} {Q : Option Value → zW → Prop} {QX : String → zW → Prop} (G : zGok g) (hs : shM w A) (hw : wfT T) (hdd : dd ≤ 5) (hk : ctKn (f (A + 1)) T) (hgo : goAt f A dd L r) (hr : rch (tbC T) L) (hx : x.toInt = ((dd + r.length : Nat) : Int)) (hB_z : ps.length < 10000000) (hI : (invR A) f j ps) (hQ : ∀ (b : Int32) f2_z j2, goF A (dd + r.length) r.length f f2_z j j2 → (b.toInt = 1 ∧ (fun _ _ _ _ => False) f2_z j2 ps (L, r) ∨ b.toInt = 0 ∧ (invR A) f2_z j2 (ps ++ [(L, r)])) → Q (some (.int b)) (zM w f2_z j2)) : zC g 9 yX12_sees cX12_sees 3 (some .boolean) [.ref A, .int x] (zM w f j) (0, 0) Q QX := by
  refine zC_of G (by decide +kernel) (Nat.le_of_ble_eq_true rfl) ?_
  have hn6 : tbC T ≤ 6 := hw.2.1
  have hg4 : tbG T ≤ 4 := hw.2.2.1
  have hrc := rch_cell hr
  have hLn : L.length ≤ 6 := Nat.le_trans hrc.2.2.2.2 hn6
  have hm99 := hw.2.2.2.2.2.2.2.1.2.2
  have hrl5 := hgo.2.2.2
  have hd11 : dd + r.length < 11 := by omega
  have hLi := hgo.1
  have h29 := hgo.2.1
  have hrw := hgo.2.2.1
  have hll : (f (A + 6) (43 * (dd + r.length))).toInt = (L.length : Nat) := hLi.1
  obtain ⟨i1_z, i2_z⟩ := hI
  refine r_aloadR0 dX12_sees_0 ?_
  refine m_getV (x := (f A 28)) zf_RX12_443 rfl dX12_sees_1 (shM_k hs) (rfl) ?_
  refine n_tabC (k := 0) (t := 76) dX12_sees_4 (by decide) rfl (by decide) (fun h4 => ?_) (fun h4 => False.elim (h4 (by omega)))
  refine r_aloadR0 dX12_sees_76 ?_
  refine r_dup dX12_sees_77 rfl ?_
  refine m_getV (x := (f A 30)) zf_RX12_452 rfl dX12_sees_78 (shM_k hs) (rfl) ?_
  refine n_iconst dX12_sees_81 (by decide) (fun r81 e81 => ?_)
  refine n_iadd dX12_sees_82 (by omega) (fun r82 e82 => ?_)
  refine m_putI zf_RX12_452 (by intro C T N h_z; cases h_z; rfl) rfl dX12_sees_83 (shM_k hs) ?_
  refine n_iconst dX12_sees_86 (by decide) (fun r86 e86 => ?_)
  refine m_zret dX12_sees_87 rfl (by omega) (Nat.le_of_ble_eq_true rfl) (Nat.le_of_ble_eq_true rfl) ?_
  refine hQ _ _ _ (goF_m0 (frM_zk (k := 30) frM_rf (by decide))) (Or.inr ⟨by omega, ?_, ?_⟩)
  · rw [zu_ni (by decide)]; exact i1_z
  · rw [zu_at, List.length_append, List.length_singleton]; omega
theorem see_row {g : zGT} {w : zW} {A : Nat} {T : zTb} {dd : Nat} (G : zGok g) (hs : shM w A) (hw : wfT T) (hdd : dd ≤ 5) : seeC g w A T dd (invR A) ((fun _ _ _ _ => False)) := fun f j ps L r x Q QX hk hgo hr hx hB_z hI hQ => s_X12_sees_row G hs hw hdd hk hgo hr hx hB_z hI hQ
