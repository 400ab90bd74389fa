/-! the reference: all rows up to so many folds -/
theorem flat_le {α β : Type} {l : List α} {F : α → List β} {B : Nat} (h_z : ∀ x ∈ l, (F x).length ≤ B) : (l.flatMap F).length ≤ l.length * B := by
  induction l with
  | nil => simp
  | cons a l ih =>
    have h1 := h_z a List.mem_cons_self
    have h2 := ih (fun x hx => h_z x (List.mem_cons_of_mem _ hx))
    rw [List.flatMap_cons, List.length_append, List.length_cons, Nat.succ_mul]
    omega
theorem kid_in {n : Nat} {L : zLy} {q : Nat × zLy} (hr : rch n L) (hq : q ∈ kidL L) : rch n q.2 ∧ 1 ≤ q.1 / 10 ∧ q.1 / 10 < L.length ∧ q.1 % 10 < 4 ∧ q.2 = lyFold L (q.1 / 10) (q.1 % 10) := by
  unfold kidL at hq
  obtain ⟨i, h1, h2⟩ := List.mem_flatMap.mp hq
  obtain ⟨way, h3, rfl⟩ := List.mem_map.mp h2
  have h4 := List.mem_range.mp h1
  have h5 := List.mem_range.mp h3
  have e1_z : (10 * (i + 1) + way) / 10 = i + 1 := by omega
  have e2_z : (10 * (i + 1) + way) % 10 = way := by omega
  show rch n (lyFold L (i + 1) way) ∧ 1 ≤ (10 * (i + 1) + way) / 10 ∧ (10 * (i + 1) + way) / 10 < L.length ∧ (10 * (i + 1) + way) % 10 < 4 ∧ lyFold L (i + 1) way = lyFold L ((10 * (i + 1) + way) / 10) ((10 * (i + 1) + way) % 10)
  rw [e1_z, e2_z]
  exact ⟨rch_fold hr (by omega) (by omega) h5, by omega, by omega, h5, rfl⟩
theorem kid_len {L : zLy} (h_z : L.length ≤ 6) : (kidL L).length ≤ 20 := by
  unfold kidL
  have h1 := flat_le (l := List.range (L.length - 1)) (F := fun i => (List.range 4).map (fun way => (10 * (i + 1) + way, lyFold L (i + 1) way))) (B := 4) (fun x _ => by rw [List.length_map, List.length_range]; exact Nat.le_refl _)
  rw [List.length_range] at h1
  omega
theorem rwF_len {n m : Nat} {L : zLy} {r : List Nat} (hr : rch n L) : (rwF m L r).length ≤ 20 ^ m := by
  induction m generalizing L r with
  | zero => exact Nat.le_refl _
  | succ m ih =>
    have h1 := flat_le (l := kidL L) (F := fun q => rwF m q.2 (r ++ [q.1])) (B := 20 ^ m) (fun q hq => ih (kid_in hr hq).1)
    have h2 := kid_len (L := L) (Nat.le_trans (rch_cell hr).2.2.2.2 (rch_le hr))
    have h3 : (kidL L).length * 20 ^ m ≤ 20 * 20 ^ m := Nat.mul_le_mul_right _ h2
    have h4 : 20 ^ (m + 1) = 20 * 20 ^ m := by rw [Nat.pow_succ, Nat.mul_comm]
    rw [h4]
    exact Nat.le_trans h1 h3
theorem rwF_rch {n m : Nat} {L : zLy} {r : List Nat} (hr : rch n L) : ∀ y ∈ rwF m L r, rch n y.1 := by
  induction m generalizing L r with
  | zero =>
    intro y hy
    rw [List.mem_singleton.mp hy]
    exact hr
  | succ m ih =>
    intro y hy
    obtain ⟨q, h1, h2⟩ := List.mem_flatMap.mp (show y ∈ (kidL L).flatMap (fun q => rwF m q.2 (r ++ [q.1])) from hy)
    exact ih (kid_in hr h1).1 y h2
def allF (k : Nat) (L : zLy) : List zRo := (List.range k).flatMap (fun n => rwF n L [])
theorem allF_s {k : Nat} {L : zLy} : allF (k + 1) L = allF k L ++ rwF k L [] := by
  unfold allF
  rw [List.range_succ, List.flatMap_append, List.flatMap_cons, List.flatMap_nil, List.append_nil]
theorem allF_len {n k : Nat} {L : zLy} (hr : rch n L) (hk : k ≤ 6) : (allF k L).length ≤ 3400000 := by
  have h_z := fun m => rwF_len (m := m) (r := []) hr
  have h0 := h_z 0
  have h1 := h_z 1
  have h2 := h_z 2
  have h3 := h_z 3
  have h4 := h_z 4
  have h5 := h_z 5
  have e0_z : (allF 0 L).length = 0 := rfl
  have e : ∀ m, (allF (m + 1) L).length = (allF m L).length + (rwF m L []).length := fun m => by rw [allF_s, List.length_append]
  have e1_z : (allF 1 L).length = (allF 0 L).length + (rwF 0 L []).length := e 0
  have e2_z : (allF 2 L).length = (allF 1 L).length + (rwF 1 L []).length := e 1
  have e3_z : (allF 3 L).length = (allF 2 L).length + (rwF 2 L []).length := e 2
  have e4_z : (allF 4 L).length = (allF 3 L).length + (rwF 3 L []).length := e 3
  have e5_z : (allF 5 L).length = (allF 4 L).length + (rwF 4 L []).length := e 4
  have e6_z : (allF 6 L).length = (allF 5 L).length + (rwF 5 L []).length := e 5
  simp only [show (20 : Nat) ^ 0 = 1 from rfl, show (20 : Nat) ^ 1 = 20 from rfl, show (20 : Nat) ^ 2 = 400 from rfl, show (20 : Nat) ^ 3 = 8000 from rfl, show (20 : Nat) ^ 4 = 160000 from rfl, show (20 : Nat) ^ 5 = 3200000 from rfl] at h0 h1 h2 h3 h4 h5
  rcases (show k = 0 ∨ k = 1 ∨ k = 2 ∨ k = 3 ∨ k = 4 ∨ k = 5 ∨ k = 6 by omega) with rfl | rfl | rfl | rfl | rfl | rfl | rfl <;> omega
/-- what a whole search leaves alone -/
def gaF (A d : Nat) (f f2_z : Nat → Nat → Int32) (j j2 : Nat → Nat → Int64) : Prop := frM A [6, 7, 8, 9, 11, 12, 14, 15, 17] [28, 29, 30, 31, 32, 34, 37] f f2_z ∧ (∀ q, q ≠ A + 14 → j2 q = j q) ∧ (∀ i, i < 43 * (d + 1) → f2_z (A + 6) i = f (A + 6) i) ∧ ∀ i, f2_z (A + 15) i = f (A + 15) i ∨ (f2_z (A + 15) i).toInt = (f A 37).toInt + 1
theorem gaF_go {A d rl : Nat} {f f1_z f2_z : Nat → Nat → Int32} {j j2 : Nat → Nat → Int64} (h_z : frM A [] [28, 29, 30, 31, 32, 37] f f1_z) (h37 : (f1_z A 37).toInt = (f A 37).toInt + 1) (h2 : goF A d rl f1_z f2_z j j2) : gaF A d f f2_z j j2 := by
  refine ⟨frM_tr (frM_su h_z (by decide) (by decide)) (frM_su h2.1 (by decide) (by decide)), h2.2.1, fun i hi_z => by rw [h2.2.2.1 i hi_z, h_z.2.1 6 (by decide) (by decide) (by decide)], fun i => ?_⟩
  rcases h2.2.2.2.2 i with e | e
  · exact Or.inl (by rw [e, h_z.2.1 15 (by decide) (by decide) (by decide)])
  · exact Or.inr (by rw [e]; exact h37)
def bgV (wh : Int) : Int := if wh = 3 ∨ wh = 6 ∨ wh = 8 then -536870912 else -1
theorem allF_pre {L : zLy} {k n : Nat} (h_z : k ≤ n) : ∃ af, allF n L = allF k L ++ af := by
  obtain ⟨d, rfl⟩ : ∃ d, n = k + d := ⟨n - k, by omega⟩
  clear h_z
  induction d with
  | zero => exact ⟨[], by simp⟩
  | succ d ih =>
    obtain ⟨af, e⟩ := ih
    exact ⟨af ++ rwF (k + d) L [], by rw [← Nat.add_assoc, allF_s, e, List.append_assoc]⟩
set_option maxHeartbeats 4000000 in
set_option maxRecDepth 100000 in
theorem s_X12_asksAll {g : zGT} {w : zW} {f : Nat → Nat → Int32} {j : Nat → Nat → Int64} {A : Nat} {T : zTb} {dd mm : Nat} {L : zLy} {wh : Int} {x y z : Int32} {Inv : (Nat → Nat → Int32) → (Nat → Nat → Int64) → List zRo → Prop} {Fin : (Nat → Nat → Int32) → (Nat → Nat → Int64) → List zRo → zRo → Prop} {Q : Option Value → zW → Prop} {QX : String → zW → Prop} (G : zGok g) (hs : shM w A) (hw : wfT T) (hdd : dd ≤ 5) (hk : ctKn (f (A + 1)) T) (hx : x.toInt = wh) (hy : y.toInt = (dd : Nat)) (hz : z.toInt = (mm : Nat)) (hm5 : mm ≤ 5) (hLi : ctLi (f (A + 6)) dd L) (hr : rch (tbC T) L) (htn : (f A 37).toInt < 2000000000) (hS_z : seeC g w A T dd Inv Fin) (hIv : ∀ (f1_z f2_z : Nat → Nat → Int32) (j1 : Nat → Nat → Int64) (ps1 : List zRo), frM A [6, 11] [] f1_z f2_z → Inv f1_z j1 ps1 → Inv f2_z j1 ps1) (hI0 : ∀ f1_z : Nat → Nat → Int32, frM A [] [28, 29, 30, 31, 32, 37] f f1_z → (f1_z A 28).toInt = wh → (f1_z A 30).toInt = 0 → (f1_z A 31).toInt = bgV wh → (f1_z A 32).toInt = 0 → (f1_z A 37).toInt = (f A 37).toInt + 1 → Inv f1_z j []) (hQ : ∀ f2_z j2, gaF A dd f f2_z j j2 → (f2_z A 37).toInt = (f A 37).toInt + 1 → ((∃ qs u rest, allF (mm + 1) L = qs ++ u :: rest ∧ Fin f2_z j2 qs u) ∨ Inv f2_z j2 (allF (mm + 1) L)) → Q none (zM w f2_z j2)) : zC g 16 yX12_asksAll cX12_asksAll 5 none [.ref A, .int x, .int y, .int z] (zM w f j) (0, 0) Q QX := by
  refine zC_of G (by decide +kernel) (Nat.le_of_ble_eq_true rfl) ?_
  have htl := Int32.le_toInt (f A 37)
  have hlb := allF_len (k := mm + 1) hr (by omega)
  refine r_aloadR0 dX12_asksAll_0 ?_
  refine r_iload1 dX12_asksAll_1 ?_
  refine m_putI zf_RX12_443 (by intro C T N h_z; cases h_z; rfl) rfl dX12_asksAll_2 (shM_k hs) ?_
  obtain ⟨g2, hg2⟩ : ∃ g9, g9 = zu f A 28 x := ⟨_, rfl⟩
  rw [← hg2]
  have og2 : frM A [] [28] f g2 := by rw [hg2]; exact frM_zk frM_rf (by decide)
  have vt2 : (g2 A 28).toInt = x.toInt := by rw [hg2, zu_at]
  refine r_aloadR0 dX12_asksAll_5 ?_
  refine r_iload2 dX12_asksAll_6 ?_
  refine m_putI zf_RX12_419 (by intro C T N h_z; cases h_z; rfl) rfl dX12_asksAll_7 (shM_k hs) ?_
  obtain ⟨g7, hg7⟩ : ∃ g9, g9 = zu g2 A 29 y := ⟨_, rfl⟩
  rw [← hg7]
  have og7 : frM A [] [29] g2 g7 := by rw [hg7]; exact frM_zk frM_rf (by decide)
  have vt7 : (g7 A 29).toInt = y.toInt := by rw [hg7, zu_at]
  refine r_aloadR0 dX12_asksAll_10 ?_
  refine n_iconst dX12_asksAll_11 (by decide) (fun r11 e11_z => ?_)
  refine m_putI zf_RX12_452 (by intro C T N h_z; cases h_z; rfl) rfl dX12_asksAll_12 (shM_k hs) ?_
  obtain ⟨g12, hg12⟩ : ∃ g9, g9 = zu g7 A 30 r11 := ⟨_, rfl⟩
  rw [← hg12]
  have og12 : frM A [] [30] g7 g12 := by rw [hg12]; exact frM_zk frM_rf (by decide)
  have vt12 : (g12 A 30).toInt = r11.toInt := by rw [hg12, zu_at]
  have jn : ∀ rb : Int32, rb.toInt = bgV wh → zR (zV g 16 yX12_asksAll 5 none (0, 0) Q QX) cX12_asksAll yX12_asksAll.cls 40 [some (.ref A), some (.int x), some (.int y), some (.int z), none] [.int rb, .ref A] (zM w g12 j) (0, 0) := by
    intro rb hrb
    refine m_putI zf_RX12_425 (by intro C T N h_z; cases h_z; rfl) rfl dX12_asksAll_40 (shM_k hs) ?_
    obtain ⟨g40, hg40⟩ : ∃ g9, g9 = zu g12 A 31 rb := ⟨_, rfl⟩
    rw [← hg40]
    have og40 : frM A [] [31] g12 g40 := by rw [hg40]; exact frM_zk frM_rf (by decide)
    have vt40 : (g40 A 31).toInt = rb.toInt := by rw [hg40, zu_at]
    have hbg : (g40 A 31).toInt = bgV wh := by omega
    refine r_aloadR0 dX12_asksAll_43 ?_
    refine n_iconst dX12_asksAll_44 (by decide) (fun r44 e44 => ?_)
    refine m_putI zf_RX12_428 (by intro C T N h_z; cases h_z; rfl) rfl dX12_asksAll_45 (shM_k hs) ?_
    obtain ⟨g45, hg45⟩ : ∃ g9, g9 = zu g40 A 32 r44 := ⟨_, rfl⟩
    rw [← hg45]
    have og45 : frM A [] [32] g40 g45 := by rw [hg45]; exact frM_zk frM_rf (by decide)
    have vt45 : (g45 A 32).toInt = r44.toInt := by rw [hg45, zu_at]
    have v37 : (g45 A 37).toInt = (f A 37).toInt := by rw [og45.2.2 37 (by decide), og40.2.2 37 (by decide), og12.2.2 37 (by decide), og7.2.2 37 (by decide), og2.2.2 37 (by decide)]
    refine r_aloadR0 dX12_asksAll_48 ?_
    refine r_dup dX12_asksAll_49 rfl ?_
    refine m_getV (x := (g45 A 37)) zf_RX12_436 rfl dX12_asksAll_50 (shM_k hs) (rfl) ?_
    refine n_iconst dX12_asksAll_53 (by decide) (fun r53 e53 => ?_)
    refine n_iadd dX12_asksAll_54 (by omega) (fun r54 e54 => ?_)
    refine m_putI zf_RX12_436 (by intro C T N h_z; cases h_z; rfl) rfl dX12_asksAll_55 (shM_k hs) ?_
    obtain ⟨g55, hg55⟩ : ∃ g9, g9 = zu g45 A 37 r54 := ⟨_, rfl⟩
    rw [← hg55]
    have og55 : frM A [] [37] g45 g55 := by rw [hg55]; exact frM_zk frM_rf (by decide)
    have vt55 : (g55 A 37).toInt = r54.toInt := by rw [hg55, zu_at]
    have w28 : (g55 A 28).toInt = wh := by rw [og55.2.2 28 (by decide), og45.2.2 28 (by decide), og40.2.2 28 (by decide), og12.2.2 28 (by decide), og7.2.2 28 (by decide)]; omega
    have w29 : (g55 A 29).toInt = (dd : Nat) := by rw [og55.2.2 29 (by decide), og45.2.2 29 (by decide), og40.2.2 29 (by decide), og12.2.2 29 (by decide)]; omega
    have w30 : (g55 A 30).toInt = 0 := by rw [og55.2.2 30 (by decide), og45.2.2 30 (by decide), og40.2.2 30 (by decide)]; omega
    have w31 : (g55 A 31).toInt = bgV wh := by rw [og55.2.2 31 (by decide), og45.2.2 31 (by decide)]; exact hbg
    have w32 : (g55 A 32).toInt = 0 := by rw [og55.2.2 32 (by decide)]; omega
    have w37 : (g55 A 37).toInt = (f A 37).toInt + 1 := by omega
    have ofr : frM A [] [28, 29, 30, 31, 32, 37] f g55 := (frM_tr (frM_su og2 (by decide) (by decide)) (frM_tr (frM_su og7 (by decide) (by decide)) (frM_tr (frM_su og12 (by decide) (by decide)) (frM_tr (frM_su og40 (by decide) (by decide)) (frM_tr (frM_su og45 (by decide) (by decide)) (frM_su og55 (by decide) (by decide)))))))
    have hI := hI0 g55 ofr w28 w30 w31 w32 w37
    have hk55 : ctKn (g55 (A + 1)) T := by rw [ofr.2.1 1 (by decide) (by decide) (by decide)]; exact hk
    have hgo : goAt g55 A dd L [] := ⟨by rw [ofr.2.1 6 (by decide) (by decide) (by decide)]; exact hLi, w29, fun i e hi_z => absurd hi_z (by simp), by simp⟩
    have lp : ∀ (mz : Nat) (c : Int32) (k : Nat) (f2_z : Nat → Nat → Int32) (j2 : Nat → Nat → Int64), c.toInt = (k : Nat) → k ≤ mm + 1 → goF A dd 0 g55 f2_z j j2 → Inv f2_z j2 (allF k L) → mm + 1 - k < mz → zR (zV g 16 yX12_asksAll 5 none (0, 0) Q QX) cX12_asksAll yX12_asksAll.cls 61 [some (.ref A), some (.int x), some (.int y), some (.int z), some (.int c)] [] (zM w f2_z j2) (0, 0) := by
      intro mz
      induction mz with
      | zero =>
        intro c k f2_z j2 hck hkm ho hI2 hmz
        exact absurd hmz (Nat.not_lt_zero _)
      | succ mz ih =>
        intro c k f2_z j2 hck hkm ho hI2 hmz
        have hga := goAt_of (r := []) hr hgo ho
        have hk2 : ctKn (f2_z (A + 1)) T := by rw [goF_kn ho]; exact hk55
        have t37 : (f2_z A 37).toInt = (f A 37).toInt + 1 := by rw [ho.1.2.2 37 (by decide)]; exact w37
        have hgg : gaF A dd f f2_z j j2 := gaF_go ofr w37 ho
        rcases Nat.lt_or_ge mm k with hkl | hkl
        · refine r_iload4 dX12_asksAll_61 ?_
          refine r_iload3 dX12_asksAll_63 ?_
          refine t_icgt (t := 84) dX12_asksAll_64 (by decide) (fun h64 => ?_) (fun h64 => False.elim (by omega))
          refine r_vret dX12_asksAll_84 rfl (Nat.le_of_ble_eq_true rfl) (Nat.le_of_ble_eq_true rfl) ?_
          have hkm : k = mm + 1 := by omega
          rw [hkm] at hI2
          exact hQ f2_z j2 hgg t37 (Or.inr hI2)
        · have hBk : (allF k L ++ rwF k L []).length ≤ 10000000 := by
            rw [← allF_s]
            have h9 := allF_len (k := k + 1) hr (by omega)
            omega
          rcases (show k = 0 ∨ k = 1 ∨ k = 2 ∨ k = 3 ∨ k = 4 ∨ k = 5 by omega) with rfl | rfl | rfl | rfl | rfl | rfl
          · refine r_iload4 dX12_asksAll_61 ?_
            refine r_iload3 dX12_asksAll_63 ?_
            refine t_icgt (t := 84) dX12_asksAll_64 (by decide) (fun h64 => False.elim (by omega)) (fun h64 => ?_)
            refine r_aloadR0 dX12_asksAll_67 ?_
            refine r_iload2 dX12_asksAll_68 ?_
            refine r_iload4 dX12_asksAll_69 ?_
            refine q_callV2 zm_RX12_422 dX12_asksAll_71 (shM_k hs) (by decide) rfl (Nat.le_of_ble_eq_true rfl) (Nat.le_of_ble_eq_true rfl) (Nat.le_of_ble_eq_true rfl) (Nat.le_of_ble_eq_true rfl) (Nat.le_of_ble_eq_true rfl) (s_X12_goes_0 (T := T) (dd := dd) (L := L) (r := []) (ps := allF 0 L) (Inv := Inv) (Fin := Fin) G hs hw hdd hS_z hk2 hga hr (by simpa using hy) (by omega) (by simp) hIv hI2 hBk (fun r71 g71 j71 o71 c71 => ?_))
            have o7x := goF_tr ho o71
            refine t_ifeq (t := 78) dX12_asksAll_74 (by decide) (fun h74 => ?_) (fun h74 => ?_)
            · refine n_iinc4 dX12_asksAll_78 (by decide) rfl (by omega) (fun r78 e78 => ?_)
              refine r_goto (t := 61) dX12_asksAll_81 (by decide) ?_
              rcases c71 with h9 | ⟨_, h9⟩
              · exact absurd h9.1 (by omega)
              · exact ih _ 1 g71 j71 (by omega) (by omega) o7x (by rw [allF_s]; exact h9) (by omega)
            · refine r_vret dX12_asksAll_77 rfl (Nat.le_of_ble_eq_true rfl) (Nat.le_of_ble_eq_true rfl) ?_
              rcases c71 with ⟨_, qs, u, rest, h1, h2⟩ | h9
              · have hgg7 : gaF A dd f g71 j j71 := gaF_go ofr w37 o7x
                obtain ⟨af, haf⟩ := allF_pre (L := L) (k := 0 + 1) (n := mm + 1) (by omega)
                refine hQ g71 j71 hgg7 (by rw [o71.1.2.2 37 (by decide)]; exact t37) (Or.inl ⟨qs, u, rest ++ af, ?_, h2⟩)
                rw [haf, allF_s, h1, List.append_assoc]; rfl
              · exact absurd h9.1 (by omega)
          · refine r_iload4 dX12_asksAll_61 ?_
            refine r_iload3 dX12_asksAll_63 ?_
            refine t_icgt (t := 84) dX12_asksAll_64 (by decide) (fun h64 => False.elim (by omega)) (fun h64 => ?_)
            refine r_aloadR0 dX12_asksAll_67 ?_
            refine r_iload2 dX12_asksAll_68 ?_
            refine r_iload4 dX12_asksAll_69 ?_
            refine q_callV2 zm_RX12_422 dX12_asksAll_71 (shM_k hs) (by decide) rfl (Nat.le_of_ble_eq_true rfl) (Nat.le_of_ble_eq_true rfl) (Nat.le_of_ble_eq_true rfl) (Nat.le_of_ble_eq_true rfl) (Nat.le_of_ble_eq_true rfl) (s_X12_goes_1 (T := T) (dd := dd) (L := L) (r := []) (ps := allF 1 L) (Inv := Inv) (Fin := Fin) G hs hw hdd hS_z hk2 hga hr (by simpa using hy) (by omega) (by simp) hIv hI2 hBk (fun r71 g71 j71 o71 c71 => ?_))
            have o7x := goF_tr ho o71
            refine t_ifeq (t := 78) dX12_asksAll_74 (by decide) (fun h74 => ?_) (fun h74 => ?_)
            · refine n_iinc4 dX12_asksAll_78 (by decide) rfl (by omega) (fun r78 e78 => ?_)
              refine r_goto (t := 61) dX12_asksAll_81 (by decide) ?_
              rcases c71 with h9 | ⟨_, h9⟩
              · exact absurd h9.1 (by omega)
              · exact ih _ 2 g71 j71 (by omega) (by omega) o7x (by rw [allF_s]; exact h9) (by omega)
            · refine r_vret dX12_asksAll_77 rfl (Nat.le_of_ble_eq_true rfl) (Nat.le_of_ble_eq_true rfl) ?_
              rcases c71 with ⟨_, qs, u, rest, h1, h2⟩ | h9
              · have hgg7 : gaF A dd f g71 j j71 := gaF_go ofr w37 o7x
                obtain ⟨af, haf⟩ := allF_pre (L := L) (k := 1 + 1) (n := mm + 1) (by omega)
                refine hQ g71 j71 hgg7 (by rw [o71.1.2.2 37 (by decide)]; exact t37) (Or.inl ⟨qs, u, rest ++ af, ?_, h2⟩)
                rw [haf, allF_s, h1, List.append_assoc]; rfl
              · exact absurd h9.1 (by omega)
          · refine r_iload4 dX12_asksAll_61 ?_
            refine r_iload3 dX12_asksAll_63 ?_
            refine t_icgt (t := 84) dX12_asksAll_64 (by decide) (fun h64 => False.elim (by omega)) (fun h64 => ?_)
            refine r_aloadR0 dX12_asksAll_67 ?_
            refine r_iload2 dX12_asksAll_68 ?_
            refine r_iload4 dX12_asksAll_69 ?_
            refine q_callV2 zm_RX12_422 dX12_asksAll_71 (shM_k hs) (by decide) rfl (Nat.le_of_ble_eq_true rfl) (Nat.le_of_ble_eq_true rfl) (Nat.le_of_ble_eq_true rfl) (Nat.le_of_ble_eq_true rfl) (Nat.le_of_ble_eq_true rfl) (s_X12_goes_2 (T := T) (dd := dd) (L := L) (r := []) (ps := allF 2 L) (Inv := Inv) (Fin := Fin) G hs hw hdd hS_z hk2 hga hr (by simpa using hy) (by omega) (by simp) hIv hI2 hBk (fun r71 g71 j71 o71 c71 => ?_))
            have o7x := goF_tr ho o71
            refine t_ifeq (t := 78) dX12_asksAll_74 (by decide) (fun h74 => ?_) (fun h74 => ?_)
            · refine n_iinc4 dX12_asksAll_78 (by decide) rfl (by omega) (fun r78 e78 => ?_)
              refine r_goto (t := 61) dX12_asksAll_81 (by decide) ?_
              rcases c71 with h9 | ⟨_, h9⟩
              · exact absurd h9.1 (by omega)
              · exact ih _ 3 g71 j71 (by omega) (by omega) o7x (by rw [allF_s]; exact h9) (by omega)
            · refine r_vret dX12_asksAll_77 rfl (Nat.le_of_ble_eq_true rfl) (Nat.le_of_ble_eq_true rfl) ?_
              rcases c71 with ⟨_, qs, u, rest, h1, h2⟩ | h9
              · have hgg7 : gaF A dd f g71 j j71 := gaF_go ofr w37 o7x
                obtain ⟨af, haf⟩ := allF_pre (L := L) (k := 2 + 1) (n := mm + 1) (by omega)
                refine hQ g71 j71 hgg7 (by rw [o71.1.2.2 37 (by decide)]; exact t37) (Or.inl ⟨qs, u, rest ++ af, ?_, h2⟩)
                rw [haf, allF_s, h1, List.append_assoc]; rfl
              · exact absurd h9.1 (by omega)
          · refine r_iload4 dX12_asksAll_61 ?_
            refine r_iload3 dX12_asksAll_63 ?_
            refine t_icgt (t := 84) dX12_asksAll_64 (by decide) (fun h64 => False.elim (by omega)) (fun h64 => ?_)
            refine r_aloadR0 dX12_asksAll_67 ?_
            refine r_iload2 dX12_asksAll_68 ?_
            refine r_iload4 dX12_asksAll_69 ?_
            refine q_callV2 zm_RX12_422 dX12_asksAll_71 (shM_k hs) (by decide) rfl (Nat.le_of_ble_eq_true rfl) (Nat.le_of_ble_eq_true rfl) (Nat.le_of_ble_eq_true rfl) (Nat.le_of_ble_eq_true rfl) (Nat.le_of_ble_eq_true rfl) (s_X12_goes_3 (T := T) (dd := dd) (L := L) (r := []) (ps := allF 3 L) (Inv := Inv) (Fin := Fin) G hs hw hdd hS_z hk2 hga hr (by simpa using hy) (by omega) (by simp) hIv hI2 hBk (fun r71 g71 j71 o71 c71 => ?_))
            have o7x := goF_tr ho o71
            refine t_ifeq (t := 78) dX12_asksAll_74 (by decide) (fun h74 => ?_) (fun h74 => ?_)
            · refine n_iinc4 dX12_asksAll_78 (by decide) rfl (by omega) (fun r78 e78 => ?_)
              refine r_goto (t := 61) dX12_asksAll_81 (by decide) ?_
              rcases c71 with h9 | ⟨_, h9⟩
              · exact absurd h9.1 (by omega)
              · exact ih _ 4 g71 j71 (by omega) (by omega) o7x (by rw [allF_s]; exact h9) (by omega)
            · refine r_vret dX12_asksAll_77 rfl (Nat.le_of_ble_eq_true rfl) (Nat.le_of_ble_eq_true rfl) ?_
              rcases c71 with ⟨_, qs, u, rest, h1, h2⟩ | h9
              · have hgg7 : gaF A dd f g71 j j71 := gaF_go ofr w37 o7x
                obtain ⟨af, haf⟩ := allF_pre (L := L) (k := 3 + 1) (n := mm + 1) (by omega)
                refine hQ g71 j71 hgg7 (by rw [o71.1.2.2 37 (by decide)]; exact t37) (Or.inl ⟨qs, u, rest ++ af, ?_, h2⟩)
                rw [haf, allF_s, h1, List.append_assoc]; rfl
              · exact absurd h9.1 (by omega)
          · refine r_iload4 dX12_asksAll_61 ?_
            refine r_iload3 dX12_asksAll_63 ?_
            refine t_icgt (t := 84) dX12_asksAll_64 (by decide) (fun h64 => False.elim (by omega)) (fun h64 => ?_)
            refine r_aloadR0 dX12_asksAll_67 ?_
            refine r_iload2 dX12_asksAll_68 ?_
            refine r_iload4 dX12_asksAll_69 ?_
            refine q_callV2 zm_RX12_422 dX12_asksAll_71 (shM_k hs) (by decide) rfl (Nat.le_of_ble_eq_true rfl) (Nat.le_of_ble_eq_true rfl) (Nat.le_of_ble_eq_true rfl) (Nat.le_of_ble_eq_true rfl) (Nat.le_of_ble_eq_true rfl) (s_X12_goes_4 (T := T) (dd := dd) (L := L) (r := []) (ps := allF 4 L) (Inv := Inv) (Fin := Fin) G hs hw hdd hS_z hk2 hga hr (by simpa using hy) (by omega) (by simp) hIv hI2 hBk (fun r71 g71 j71 o71 c71 => ?_))
            have o7x := goF_tr ho o71
            refine t_ifeq (t := 78) dX12_asksAll_74 (by decide) (fun h74 => ?_) (fun h74 => ?_)
            · refine n_iinc4 dX12_asksAll_78 (by decide) rfl (by omega) (fun r78 e78 => ?_)
              refine r_goto (t := 61) dX12_asksAll_81 (by decide) ?_
              rcases c71 with h9 | ⟨_, h9⟩
              · exact absurd h9.1 (by omega)
              · exact ih _ 5 g71 j71 (by omega) (by omega) o7x (by rw [allF_s]; exact h9) (by omega)
            · refine r_vret dX12_asksAll_77 rfl (Nat.le_of_ble_eq_true rfl) (Nat.le_of_ble_eq_true rfl) ?_
              rcases c71 with ⟨_, qs, u, rest, h1, h2⟩ | h9
              · have hgg7 : gaF A dd f g71 j j71 := gaF_go ofr w37 o7x
                obtain ⟨af, haf⟩ := allF_pre (L := L) (k := 4 + 1) (n := mm + 1) (by omega)
                refine hQ g71 j71 hgg7 (by rw [o71.1.2.2 37 (by decide)]; exact t37) (Or.inl ⟨qs, u, rest ++ af, ?_, h2⟩)
                rw [haf, allF_s, h1, List.append_assoc]; rfl
              · exact absurd h9.1 (by omega)
          · refine r_iload4 dX12_asksAll_61 ?_
            refine r_iload3 dX12_asksAll_63 ?_
            refine t_icgt (t := 84) dX12_asksAll_64 (by decide) (fun h64 => False.elim (by omega)) (fun h64 => ?_)
            refine r_aloadR0 dX12_asksAll_67 ?_
            refine r_iload2 dX12_asksAll_68 ?_
            refine r_iload4 dX12_asksAll_69 ?_
            refine q_callV2 zm_RX12_422 dX12_asksAll_71 (shM_k hs) (by decide) rfl (Nat.le_of_ble_eq_true rfl) (Nat.le_of_ble_eq_true rfl) (Nat.le_of_ble_eq_true rfl) (Nat.le_of_ble_eq_true rfl) (Nat.le_of_ble_eq_true rfl) (s_X12_goes_5 (T := T) (dd := dd) (L := L) (r := []) (ps := allF 5 L) (Inv := Inv) (Fin := Fin) G hs hw hdd hS_z hk2 hga hr (by simpa using hy) (by omega) (by simp) hIv hI2 hBk (fun r71 g71 j71 o71 c71 => ?_))
            have o7x := goF_tr ho o71
            refine t_ifeq (t := 78) dX12_asksAll_74 (by decide) (fun h74 => ?_) (fun h74 => ?_)
            · refine n_iinc4 dX12_asksAll_78 (by decide) rfl (by omega) (fun r78 e78 => ?_)
              refine r_goto (t := 61) dX12_asksAll_81 (by decide) ?_
              rcases c71 with h9 | ⟨_, h9⟩
              · exact absurd h9.1 (by omega)
              · exact ih _ 6 g71 j71 (by omega) (by omega) o7x (by rw [allF_s]; exact h9) (by omega)
            · refine r_vret dX12_asksAll_77 rfl (Nat.le_of_ble_eq_true rfl) (Nat.le_of_ble_eq_true rfl) ?_
              rcases c71 with ⟨_, qs, u, rest, h1, h2⟩ | h9
              · have hgg7 : gaF A dd f g71 j j71 := gaF_go ofr w37 o7x
                obtain ⟨af, haf⟩ := allF_pre (L := L) (k := 5 + 1) (n := mm + 1) (by omega)
                refine hQ g71 j71 hgg7 (by rw [o71.1.2.2 37 (by decide)]; exact t37) (Or.inl ⟨qs, u, rest ++ af, ?_, h2⟩)
                rw [haf, allF_s, h1, List.append_assoc]; rfl
              · exact absurd h9.1 (by omega)
    refine n_iconst dX12_asksAll_58 (by decide) (fun r58 e58 => ?_)
    refine r_istore4 dX12_asksAll_59 rfl ?_
    exact lp (mm + 2) _ 0 g55 j (by omega) (by omega) goF_rf hI (by omega)
  refine r_aloadR0 dX12_asksAll_15 ?_
  refine r_iload1 dX12_asksAll_16 ?_
  refine n_iconst dX12_asksAll_17 (by decide) (fun r17 e17_z => ?_)
  refine t_iceq (t := 33) dX12_asksAll_18 (by decide) (fun h18 => ?_) (fun h18 => ?_)
  · refine n_ldcw (n := -536870912) zk_RX12_496 dX12_asksAll_33 (by decide) (fun r33 e33_z => ?_)
    refine r_goto (t := 40) dX12_asksAll_36 (by decide) ?_
    refine jn _ ?_
    unfold bgV
    first
      | (rw [if_pos (by omega)]; omega)
      | (rw [if_neg (by omega)]; omega)
  · refine r_iload1 dX12_asksAll_21 ?_
    refine n_bipush dX12_asksAll_22 (by decide) (fun r22 e22_z => ?_)
    refine t_iceq (t := 33) dX12_asksAll_24 (by decide) (fun h24 => ?_) (fun h24 => ?_)
    · refine n_ldcw (n := -536870912) zk_RX12_496 dX12_asksAll_33 (by decide) (fun r33 e33_z => ?_)
      refine r_goto (t := 40) dX12_asksAll_36 (by decide) ?_
      refine jn _ ?_
      unfold bgV
      first
        | (rw [if_pos (by omega)]; omega)
        | (rw [if_neg (by omega)]; omega)
    · refine r_iload1 dX12_asksAll_27 ?_
      refine n_bipush dX12_asksAll_28 (by decide) (fun r28 e28_z => ?_)
      refine t_icne (t := 39) dX12_asksAll_30 (by decide) (fun h30 => ?_) (fun h30 => ?_)
      · refine n_iconst dX12_asksAll_39 (by decide) (fun r39 e39 => ?_)
        refine jn _ ?_
        unfold bgV
        first
          | (rw [if_pos (by omega)]; omega)
          | (rw [if_neg (by omega)]; omega)
      · refine n_ldcw (n := -536870912) zk_RX12_496 dX12_asksAll_33 (by decide) (fun r33 e33_z => ?_)
        refine r_goto (t := 40) dX12_asksAll_36 (by decide) ?_
        refine jn _ ?_
        unfold bgV
        first
          | (rw [if_pos (by omega)]; omega)
          | (rw [if_neg (by omega)]; omega)
