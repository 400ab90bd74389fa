/-! the reference: what it knows -/
def lwR (K : Nat → Int32) (a : Nat) (l : List Nat) : Prop := ∀ i o, l[i]? = some o → (K (a + i)).toInt = (rfO o : Nat)
def ctKn (K : Nat → Int32) (T : zTb) : Prop := ((K 0).toInt = (T.1.1 : Nat) ∧ (K 1).toInt = (tbC T : Nat) ∧ (K 2).toInt = (tbG T : Nat) ∧ (K 3).toInt = (T.2.1.1.length : Nat) ∧ (K 4).toInt = (T.2.1.2.1.length : Nat) ∧ (K 5).toInt = (T.2.1.2.2.length : Nat) ∧ (K 6).toInt = (T.2.2.2.length : Nat)) ∧ ctMk K 7 T.2.2.1 ∧ (∀ i v, T.1.2.2[i]? = some v → (K (25 + i)).toInt = (v : Nat)) ∧ (∀ i M, T.2.2.2[i]? = some M → ctMk K (29 + 18 * i) M) ∧ lwR K 209 T.2.1.1 ∧ lwR K 1109 T.2.1.2.1 ∧ lwR K 2009 T.2.1.2.2
theorem ctMk_mv {K K2 : Nat → Int32} {b b2 : Nat} {M : zMo} (h_z : ctMk K b M) (h5 : M.2.length ≤ 5) (e : ∀ i, i < 18 → K2 (b2 + i) = K (b + i)) : ctMk K2 b2 M := by
  obtain ⟨h1, h2, h3⟩ := h_z
  refine ⟨?_, fun i d hi_z => ?_, fun c hc_z => ?_⟩
  · have h0 := e 0 (by omega)
    rw [Nat.add_zero, Nat.add_zero] at h0
    rw [h0]; exact h1
  · have hl := (List.getElem?_eq_some_iff.mp hi_z).1
    rw [show b2 + 1 + i = b2 + (1 + i) by omega, e _ (by omega), show b + (1 + i) = b + 1 + i by omega]
    exact h2 i d hi_z
  · have h9 := h3 c hc_z
    rw [show b2 + 6 + c = b2 + (6 + c) by omega, show b2 + 12 + c = b2 + (12 + c) by omega, e _ (by omega), e _ (by omega), show b + (6 + c) = b + 6 + c by omega, show b + (12 + c) = b + 12 + c by omega]
    exact h9
theorem lwR_of {K K2 : Nat → Int32} {a : Nat} {l : List Nat} (h_z : lwR K a l) (e : ∀ k, a ≤ k → K2 k = K k) : lwR K2 a l := fun i o hi_z => by rw [e _ (by omega)]; exact h_z i o hi_z
theorem ctKn_mo {K K2 : Nat → Int32} {T : zTb} {Mn : zMo} {Pn : List zMo} (h_z : ctKn K T) (hw : wfT T) (e : ∀ k, (k < 6 ∨ 25 ≤ k ∧ k < 29 ∨ 209 ≤ k) → K2 k = K k) (h6 : (K2 6).toInt = (Pn.length : Nat)) (hm_z : ctMk K2 7 Mn) (hp : ∀ i M, Pn[i]? = some M → ctMk K2 (29 + 18 * i) M) : ctKn K2 (T.1, T.2.1, Mn, Pn) := by
  obtain ⟨⟨a0, a1, a2, a3, a4, a5, a6⟩, b1, b2, b3, b4, b5, b6⟩ := h_z
  refine ⟨⟨by rw [e 0 (by omega)]; exact a0, by rw [e 1 (by omega)]; exact a1, by rw [e 2 (by omega)]; exact a2, by rw [e 3 (by omega)]; exact a3, by rw [e 4 (by omega)]; exact a4, by rw [e 5 (by omega)]; exact a5, h6⟩, hm_z, fun i v hi_z => ?_, hp, lwR_of b4 (fun k hk => e k (by omega)), lwR_of b5 (fun k hk => e k (by omega)), lwR_of b6 (fun k hk => e k (by omega))⟩
  have hl := (List.getElem?_eq_some_iff.mp hi_z).1
  have hg : tbG T ≤ 4 := hw.2.2.1
  have hl2 : i < tbG T := hl
  rw [e _ (by omega)]
  exact b2 i v hi_z
/-- a moment is kept -/
def tbKp (T : zTb) : zTb := (T.1, T.2.1, T.2.2.1, (if T.2.2.2.length = 10 then T.2.2.2.drop 1 else T.2.2.2) ++ [T.2.2.1])
theorem wfT_kp {T : zTb} (h_z : wfT T) : wfT (tbKp T) := by
  obtain ⟨h1, h2, h3, h4, h5, h6, h7, h8, h9, h10⟩ := h_z
  refine ⟨h1, h2, h3, h4, h5, h6, h7, h8, ?_, fun M hM_z => ?_⟩
  · show ((if T.2.2.2.length = 10 then T.2.2.2.drop 1 else T.2.2.2) ++ [T.2.2.1]).length ≤ 10
    rw [List.length_append, List.length_singleton]
    split
    · rw [List.length_drop]; omega
    · omega
  · have hM2 : M ∈ (if T.2.2.2.length = 10 then T.2.2.2.drop 1 else T.2.2.2) ++ [T.2.2.1] := hM_z
    rcases List.mem_append.mp hM2 with hM3 | hM3
    · refine h10 M ?_
      split at hM3
      · exact List.mem_of_mem_drop hM3
      · exact hM3
    · rw [List.mem_singleton.mp hM3]
      exact h8
theorem ctKn_kp {K K3 : Nat → Int32} {T : zTb} {n s : Nat} (h_z : ctKn K T) (hw : wfT T) (hs : T.2.2.2.length = 10 ∧ n = 9 ∧ s = 18 ∨ T.2.2.2.length < 10 ∧ n = T.2.2.2.length ∧ s = 0) (h6 : (K3 6).toInt = ((n + 1 : Nat) : Int)) (e1_z : ∀ x, x < 18 → K3 (29 + 18 * n + x) = K (7 + x)) (e2_z : ∀ k, 29 ≤ k → k < 29 + 18 * n → K3 k = K (k + s)) (e3_z : ∀ k, k ≠ 6 → (k < 29 ∨ 209 ≤ k) → K3 k = K k) : ctKn K3 (tbKp T) := by
  have hq : ∀ (i : Nat) (Mp : zMo), T.2.2.2[i]? = some Mp → Mp.2.length ≤ 5 := fun i Mp hi_z => (hw.2.2.2.2.2.2.2.2.2 Mp (List.mem_of_getElem? hi_z)).2.1
  have h5 := hw.2.2.2.2.2.2.2.1.2.1
  have hkp := h_z.2.2.2.1
  have hln : ((if T.2.2.2.length = 10 then T.2.2.2.drop 1 else T.2.2.2) : List zMo).length = n := by
    split
    · rw [List.length_drop]; omega
    · omega
  refine ctKn_mo h_z hw (fun k hk => e3_z k (by omega) (by omega)) ?_ (ctMk_mv h_z.2.1 h5 (fun i hi_z => e3_z _ (by omega) (by omega))) (fun i M hi_z => ?_)
  · rw [List.length_append, List.length_singleton, hln]; exact h6
  · rcases Nat.lt_or_ge i n with h9 | h9
    · rw [List.getElem?_append_left (by omega)] at hi_z
      rcases hs with ⟨q1_z, q2_z, q3_z⟩ | ⟨q1_z, q2_z, q3_z⟩
      · rw [if_pos q1_z, List.getElem?_drop] at hi_z
        refine ctMk_mv (hkp (1 + i) M hi_z) (hq _ M hi_z) (fun x hx => ?_)
        rw [e2_z _ (by omega) (by omega)]
        congr 1
        omega
      · rw [if_neg (by omega)] at hi_z
        refine ctMk_mv (hkp i M hi_z) (hq _ M hi_z) (fun x hx => ?_)
        rw [e2_z _ (by omega) (by omega), q3_z, Nat.add_zero]
    · have h91 : i = n := by have := (List.getElem?_eq_some_iff.mp hi_z).1; rw [List.length_append, List.length_singleton, hln] at this; omega
      rw [h91, List.getElem?_append_right (by omega), hln, Nat.sub_self] at hi_z
      have h92 : T.2.2.1 = M := Option.some.inj hi_z
      rw [← h92, h91]
      exact ctMk_mv h_z.2.1 h5 e1_z
set_option maxHeartbeats 4000000 in
theorem s_X12_now {g : zGT} {w : zW} {f : Nat → Nat → Int32} {j : Nat → Nat → Int64} {A : Nat} {T : zTb} {Q : Option Value → zW → Prop} {QX : String → zW → Prop} (G : zGok g) (hs : shM w A) (hk : ctKn (f (A + 1)) T) (hw : wfT T) (hQ : ∀ (r : Int32) f2_z, r.toInt = (T.2.2.1.2.length : Nat) → frM A [6] [] f f2_z → ctLi (f2_z (A + 6)) T.2.2.1.2.length (tbL T) → Q (some (.int r)) (zM w f2_z j)) : zC g 4 yX12_laysNow cX12_laysNow 2 (some .int) [.ref A] (zM w f j) (0, 0) Q QX :=
  s_X12_laysNow G hs hk.1.2.1 hw.2.1 hk.2.1.1 (fun i d hi_z => hk.2.1.2.1 i d hi_z) hw.2.2.2.2.2.2.2.1.2.1 hw.2.2.2.2.2.2.2.1.1 hQ
set_option maxHeartbeats 4000000 in
set_option maxRecDepth 100000 in
theorem s_X12_keeps {g : zGT} {w : zW} {f : Nat → Nat → Int32} {j : Nat → Nat → Int64} {A : Nat} {T : zTb} {Q : Option Value → zW → Prop} {QX : String → zW → Prop} (G : zGok g) (hs : shM w A) (hk : ctKn (f (A + 1)) T) (hw : wfT T) (hQ : ∀ f2_z, frM A [1] [] f f2_z → ctKn (f2_z (A + 1)) (tbKp T) → Q none (zM w f2_z j)) : zC g 1 yX12_keeps cX12_keeps 2 none [.ref A] (zM w f j) (0, 0) Q QX := by
  refine zC_of G (by decide +kernel) (Nat.le_of_ble_eq_true rfl) ?_
  have hk9 := hk
  obtain ⟨⟨k0_z, k1_z, k2_z, k3_z, k4_z, k5_z, k6_z⟩, km, kg, kp, kl1, kl2, kl3⟩ := hk9
  have km9 := km
  obtain ⟨m1_z, m2_z, m3_z⟩ := km9
  have hn6 : tbC T ≤ 6 := hw.2.1
  have hg4 : tbG T ≤ 4 := hw.2.2.1
  have hwm := hw.2.2.2.2.2.2.2.1
  have hml : T.2.2.1.2.length ≤ 5 := hwm.2.1
  have hm99 := hwm.2.2
  have hrt := wfT_rch hw
  have hLl : (tbL T).length ≤ 6 := Nat.le_trans (rch_cell hrt).2.2.2.2 hn6
  have hpl : T.2.2.2.length ≤ 10 := hw.2.2.2.2.2.2.2.2.1
  have lp2 : ∀ (mz : Nat) (c : Int32) (k : Nat) (n : Nat) (g0 : Nat → Nat → Int32) (f2_z : Nat → Nat → Int32), c.toInt = (k : Nat) → k ≤ 18 → (g0 (A + 1) 6).toInt = (n : Nat) → n ≤ 9 → (∀ q, q ≠ A + 1 → f2_z q = f q) → (∀ i, i < k → f2_z (A + 1) (29 + 18 * n + i) = g0 (A + 1) (7 + i)) → (∀ i, (i < 29 + 18 * n ∨ 29 + 18 * n + k ≤ i) → f2_z (A + 1) i = g0 (A + 1) i) → (∀ f3_z : Nat → Nat → Int32, (∀ q, q ≠ A + 1 → f3_z q = f q) → (f3_z (A + 1) 6).toInt = ((n + 1 : Nat) : Int) → (∀ x, x < 18 → f3_z (A + 1) (29 + 18 * n + x) = g0 (A + 1) (7 + x)) → (∀ i, i ≠ 6 → (i < 29 + 18 * n ∨ 29 + 18 * n + 18 ≤ i) → f3_z (A + 1) i = g0 (A + 1) i) → Q none (zM w f3_z j)) → 18 - k < mz → zR (zV g 1 yX12_keeps 2 none (0, 0) Q QX) cX12_keeps yX12_keeps.cls 56 [some (.ref A), some (.int c)] [] (zM w f2_z j) (0, 0) := by
    intro mz
    induction mz with
    | zero =>
      intro c k n g0 f2_z hck hk8 hg6 hn9 ho hd_z hr hfin hmz
      exact absurd hmz (Nat.not_lt_zero _)
    | succ mz ih =>
      intro c k n g0 f2_z hck hk8 hg6 hn9 ho hd_z hr hfin hmz
      have hr6 : (f2_z (A + 1) 6).toInt = (n : Nat) := by rw [hr 6 (by omega)]; exact hg6
      rcases Nat.lt_or_ge k 18 with hkl | hkl
      · refine r_iload1 dX12_keeps_56 ?_
        refine n_bipush dX12_keeps_57 (by decide) (fun r57 e57 => ?_)
        refine t_icge (t := 97) dX12_keeps_59 (by decide) (fun h59 => False.elim (by omega)) (fun h59 => ?_)
        refine r_aloadR0 dX12_keeps_62 ?_
        refine m_getR (q := (A + 1)) zf_RX12_9 rfl dX12_keeps_63 (shM_k hs) (shM_p1 hs) ?_
        refine n_bipush dX12_keeps_66 (by decide) (fun r66 e66 => ?_)
        refine n_bipush dX12_keeps_68 (by decide) (fun r68 e68 => ?_)
        refine r_aloadR0 dX12_keeps_70 ?_
        refine m_getR (q := (A + 1)) zf_RX12_9 rfl dX12_keeps_71 (shM_k hs) (shM_p1 hs) ?_
        refine n_bipush dX12_keeps_74 (by decide) (fun r74 e74_z => ?_)
        refine m_iald (k := 6) (x := (f2_z (A + 1) 6)) dX12_keeps_76 (shM_k1 hs) (shM_n1 hs) (by omega) (by omega) (rfl) ?_
        refine n_imulc dX12_keeps_77 e68 (by omega) (fun r77 e77 => ?_)
        refine n_iadd dX12_keeps_78 (by omega) (fun r78 e78 => ?_)
        refine r_iload1 dX12_keeps_79 ?_
        refine n_iadd dX12_keeps_80 (by omega) (fun r80 e80 => ?_)
        refine r_aloadR0 dX12_keeps_81 ?_
        refine m_getR (q := (A + 1)) zf_RX12_9 rfl dX12_keeps_82 (shM_k hs) (shM_p1 hs) ?_
        refine n_bipush dX12_keeps_85 (by decide) (fun r85 e85 => ?_)
        refine r_iload1 dX12_keeps_87 ?_
        refine n_iadd dX12_keeps_88 (by omega) (fun r88 e88 => ?_)
        refine m_iald (k := (7 + k)) (x := (f2_z (A + 1) ((7 + k)))) dX12_keeps_89 (shM_k1 hs) (shM_n1 hs) (by omega) (by omega) (rfl) ?_
        refine m_iast (k := (29 + 18 * n + k)) dX12_keeps_90 (shM_k1 hs) (shM_n1 hs) (by omega) (by omega) ?_
        refine n_iinc1 dX12_keeps_91 (by decide) rfl (by omega) (fun r91 e91 => ?_)
        refine r_goto (t := 56) dX12_keeps_94 (by decide) ?_
        refine ih _ (k + 1) n g0 _ (by omega) (by omega) hg6 hn9 (fun q hq => (zu_ne hq).trans (ho q hq)) (fun i hi_z => ?_) (fun i hi_z => ?_) hfin (by omega)
        · rcases Nat.lt_or_ge i k with h9 | h9
          · rw [zu_nn (Or.inr (by omega))]
            exact hd_z i h9
          · rw [show i = k by omega, zu_at]
            exact hr _ (by omega)
        · rw [zu_nn (Or.inr (by omega))]
          exact hr i (by omega)
      · refine r_iload1 dX12_keeps_56 ?_
        refine n_bipush dX12_keeps_57 (by decide) (fun r57 e57 => ?_)
        refine t_icge (t := 97) dX12_keeps_59 (by decide) (fun h59 => ?_) (fun h59 => False.elim (by omega))
        refine r_aloadR0 dX12_keeps_97 ?_
        refine m_getR (q := (A + 1)) zf_RX12_9 rfl dX12_keeps_98 (shM_k hs) (shM_p1 hs) ?_
        refine n_bipush dX12_keeps_101 (by decide) (fun r101 e101 => ?_)
        refine r_dup2 dX12_keeps_103 rfl rfl ?_
        refine m_iald (k := 6) (x := (f2_z (A + 1) 6)) dX12_keeps_104 (shM_k1 hs) (shM_n1 hs) (by omega) (by omega) (rfl) ?_
        refine n_iconst dX12_keeps_105 (by decide) (fun r105 e105 => ?_)
        refine n_iadd dX12_keeps_106 (by omega) (fun r106 e106 => ?_)
        refine m_iast (k := 6) dX12_keeps_107 (shM_k1 hs) (shM_n1 hs) (by omega) (by omega) ?_
        refine r_vret dX12_keeps_108 rfl (Nat.le_of_ble_eq_true rfl) (Nat.le_of_ble_eq_true rfl) ?_
        refine hfin _ (fun q hq => (zu_ne hq).trans (ho q hq)) ?_ (fun x hx => ?_) (fun i h6 hi_z => ?_)
        · rw [zu_at, e106]
          omega
        · rw [zu_nn (Or.inr (by omega))]
          exact hd_z x (by omega)
        · rw [zu_nn (Or.inr (by omega))]
          exact hr i (by omega)
  rcases Nat.lt_or_ge T.2.2.2.length 10 with h10 | h10
  · refine r_aloadR0 dX12_keeps_0 ?_
    refine m_getR (q := (A + 1)) zf_RX12_9 rfl dX12_keeps_1 (shM_k hs) (shM_p1 hs) ?_
    refine n_bipush dX12_keeps_4 (by decide) (fun r4 e4_z => ?_)
    refine m_iald (k := 6) (x := (f (A + 1) 6)) dX12_keeps_6 (shM_k1 hs) (shM_n1 hs) (by omega) (by omega) (rfl) ?_
    refine n_bipush dX12_keeps_7 (by decide) (fun r7 e7_z => ?_)
    refine t_icne (t := 54) dX12_keeps_9 (by decide) (fun h9 => ?_) (fun h9 => False.elim (by omega))
    refine n_iconst dX12_keeps_54 (by decide) (fun r54 e54 => ?_)
    refine r_istore1 dX12_keeps_55 rfl ?_
    refine lp2 19 _ 0 T.2.2.2.length f f (by omega) (by omega) k6_z (by omega) (fun q hq => rfl) (fun i hi_z => absurd hi_z (by omega)) (fun i hi_z => rfl) (fun f3_z a1 a2 a3 a4 => ?_) (by omega)
    exact hQ f3_z ⟨fun q hq => a1 q (by omega), fun r h1 h2 h3 => a1 _ (by intro e9_z; exact h3 (by simp; omega)), fun k _ => by rw [a1 A (by omega)]⟩ (ctKn_kp (n := T.2.2.2.length) (s := 0) hk hw (Or.inr ⟨h10, rfl, rfl⟩) a2 a3 (fun i h1 h2 => a4 i (by omega) (by omega)) (fun i h1 h2 => a4 i h1 (by omega)))
  · have h10b : T.2.2.2.length = 10 := by omega
    have lp1 : ∀ (mz : Nat) (c : Int32) (k : Nat) (f2_z : Nat → Nat → Int32), c.toInt = ((29 + k : Nat) : Int) → k ≤ 162 → (∀ q, q ≠ A + 1 → f2_z q = f q) → (∀ i, i < k → f2_z (A + 1) (29 + i) = f (A + 1) (29 + i + 18)) → (∀ i, (i < 29 ∨ 29 + k ≤ i) → f2_z (A + 1) i = f (A + 1) i) → 162 - k < mz → zR (zV g 1 yX12_keeps 2 none (0, 0) Q QX) cX12_keeps yX12_keeps.cls 15 [some (.ref A), some (.int c)] [] (zM w f2_z j) (0, 0) := by
      intro mz
      induction mz with
      | zero =>
        intro c k f2_z hck hk8 ho hd_z hr hmz
        exact absurd hmz (Nat.not_lt_zero _)
      | succ mz ih =>
        intro c k f2_z hck hk8 ho hd_z hr hmz
        have hr6 : (f2_z (A + 1) 6).toInt = (T.2.2.2.length : Nat) := by rw [hr 6 (by omega)]; exact k6_z
        rcases Nat.lt_or_ge k 162 with hkl | hkl
        · refine r_iload1 dX12_keeps_15 ?_
          refine n_sipush dX12_keeps_16 (by decide) (fun r16 e16_z => ?_)
          refine t_icge (t := 43) dX12_keeps_19 (by decide) (fun h19 => False.elim (by omega)) (fun h19 => ?_)
          refine r_aloadR0 dX12_keeps_22 ?_
          refine m_getR (q := (A + 1)) zf_RX12_9 rfl dX12_keeps_23 (shM_k hs) (shM_p1 hs) ?_
          refine r_iload1 dX12_keeps_26 ?_
          refine r_aloadR0 dX12_keeps_27 ?_
          refine m_getR (q := (A + 1)) zf_RX12_9 rfl dX12_keeps_28 (shM_k hs) (shM_p1 hs) ?_
          refine r_iload1 dX12_keeps_31 ?_
          refine n_bipush dX12_keeps_32 (by decide) (fun r32 e32 => ?_)
          refine n_iadd dX12_keeps_34 (by omega) (fun r34 e34 => ?_)
          refine m_iald (k := (29 + k + 18)) (x := (f2_z (A + 1) ((29 + k + 18)))) dX12_keeps_35 (shM_k1 hs) (shM_n1 hs) (by omega) (by omega) (rfl) ?_
          refine m_iast (k := (29 + k)) dX12_keeps_36 (shM_k1 hs) (shM_n1 hs) (by omega) (by omega) ?_
          refine n_iinc1 dX12_keeps_37 (by decide) rfl (by omega) (fun r37 e37 => ?_)
          refine r_goto (t := 15) dX12_keeps_40 (by decide) ?_
          refine ih _ (k + 1) _ (by omega) (by omega) (fun q hq => (zu_ne hq).trans (ho q hq)) (fun i hi_z => ?_) (fun i hi_z => ?_) (by omega)
          · rcases Nat.lt_or_ge i k with h9 | h9
            · rw [zu_nn (Or.inr (by omega))]
              exact hd_z i h9
            · rw [show i = k by omega, zu_at]
              exact hr _ (by omega)
          · rw [zu_nn (Or.inr (by omega))]
            exact hr i (by omega)
        · refine r_iload1 dX12_keeps_15 ?_
          refine n_sipush dX12_keeps_16 (by decide) (fun r16 e16_z => ?_)
          refine t_icge (t := 43) dX12_keeps_19 (by decide) (fun h19 => ?_) (fun h19 => False.elim (by omega))
          refine r_aloadR0 dX12_keeps_43 ?_
          refine m_getR (q := (A + 1)) zf_RX12_9 rfl dX12_keeps_44 (shM_k hs) (shM_p1 hs) ?_
          refine n_bipush dX12_keeps_47 (by decide) (fun r47 e47 => ?_)
          refine r_dup2 dX12_keeps_49 rfl rfl ?_
          refine m_iald (k := 6) (x := (f2_z (A + 1) 6)) dX12_keeps_50 (shM_k1 hs) (shM_n1 hs) (by omega) (by omega) (rfl) ?_
          refine n_iconst dX12_keeps_51 (by decide) (fun r51 e51 => ?_)
          refine n_isub dX12_keeps_52 (by omega) (fun r52 e52 => ?_)
          refine m_iast (k := 6) dX12_keeps_53 (shM_k1 hs) (shM_n1 hs) (by omega) (by omega) ?_
          refine n_iconst dX12_keeps_54 (by decide) (fun r54 e54 => ?_)
          refine r_istore1 dX12_keeps_55 rfl ?_
          refine lp2 19 _ 0 9 _ _ (by omega) (by omega) (by rw [zu_at, e52]; omega) (by omega) (fun q hq => (zu_ne hq).trans (ho q hq)) (fun i hi_z => absurd hi_z (by omega)) (fun i hi_z => rfl) (fun f3_z a1 a2 a3 a4 => ?_) (by omega)
          refine hQ f3_z ⟨fun q hq => a1 q (by omega), fun r h1 h2 h3 => a1 _ (by intro e9_z; exact h3 (by simp; omega)), fun k _ => by rw [a1 A (by omega)]⟩ (ctKn_kp (n := 9) (s := 18) hk hw (Or.inl ⟨by omega, rfl, rfl⟩) a2 (fun x hx => ?_) (fun i h1 h2 => ?_) (fun i h1 h2 => ?_))
          · rw [a3 x hx, zu_nn (Or.inr (by omega))]
            exact hr _ (by omega)
          · rw [a4 i (by omega) (by omega), zu_nn (Or.inr (by omega))]
            have h9 := hd_z (i - 29) (by omega)
            rw [show 29 + (i - 29) = i by omega] at h9
            exact h9
          · rw [a4 i h1 (by omega), zu_nn (Or.inr (by omega))]
            exact hr _ (by omega)
    refine r_aloadR0 dX12_keeps_0 ?_
    refine m_getR (q := (A + 1)) zf_RX12_9 rfl dX12_keeps_1 (shM_k hs) (shM_p1 hs) ?_
    refine n_bipush dX12_keeps_4 (by decide) (fun r4 e4_z => ?_)
    refine m_iald (k := 6) (x := (f (A + 1) 6)) dX12_keeps_6 (shM_k1 hs) (shM_n1 hs) (by omega) (by omega) (rfl) ?_
    refine n_bipush dX12_keeps_7 (by decide) (fun r7 e7_z => ?_)
    refine t_icne (t := 54) dX12_keeps_9 (by decide) (fun h9 => False.elim (by omega)) (fun h9 => ?_)
    refine n_bipush dX12_keeps_12 (by decide) (fun r12 e12_z => ?_)
    refine r_istore1 dX12_keeps_14 rfl ?_
    exact lp1 163 _ 0 f (by omega) (by omega) (fun q hq => rfl) (fun i hi_z => absurd hi_z (by omega)) (fun i hi_z => rfl) (by omega)
set_option maxHeartbeats 4000000 in
set_option maxRecDepth 100000 in
theorem s_X12_whyTold {g : zGT} {w : zW} {f : Nat → Nat → Int32} {j : Nat → Nat → Int64} {A : Nat} {T : zTb} {v : Int64} {Q : Option Value → zW → Prop} {QX : String → zW → Prop} (G : zGok g) (hs : shM w A) (hk : ctKn (f (A + 1)) T) (hw : wfT T) (hQ : ∀ (r : Int32) f2_z, r.toInt = hinI (tbC T) T.2.2.1 v.toInt → frM A [6] [] f f2_z → Q (some (.int r)) (zM w f2_z j)) : zC g 5 yX12_whyTold cX12_whyTold 3 (some .int) [.ref A, .long v] (zM w f j) (0, 0) Q QX := by
  refine zC_of G (by decide +kernel) (Nat.le_of_ble_eq_true rfl) ?_
  have hk9 := hk
  obtain ⟨⟨k0_z, k1_z, k2_z, k3_z, k4_z, k5_z, k6_z⟩, km, kg, kp, kl1, kl2, kl3⟩ := hk9
  have km9 := km
  obtain ⟨m1_z, m2_z, m3_z⟩ := km9
  have hn6 : tbC T ≤ 6 := hw.2.1
  have hg4 : tbG T ≤ 4 := hw.2.2.1
  have hwm := hw.2.2.2.2.2.2.2.1
  have hml : T.2.2.1.2.length ≤ 5 := hwm.2.1
  have hm99 := hwm.2.2
  have hrt := wfT_rch hw
  have hLl : (tbL T).length ≤ 6 := Nat.le_trans (rch_cell hrt).2.2.2.2 hn6
  have hpl : T.2.2.2.length ≤ 10 := hw.2.2.2.2.2.2.2.2.1
  have hLe : (layM (tbC T) T.2.2.1.2).length = (tbL T).length := rfl
  refine r_lload1 dX12_whyTold_0 ?_
  refine n_ldc2 (n := -1) zk_RX12_375 dX12_whyTold_1 (by decide) (fun r1 e1_z => ?_)
  refine n_lcmp dX12_whyTold_4 (fun r4 e4_z => ?_)
  unfold zcmp at e4_z
  refine t_ifne (t := 10) dX12_whyTold_5 (by decide) (fun h5 => ?_) (fun h5 => ?_)
  · refine r_lload1 dX12_whyTold_10 ?_
    refine n_lconst (q := 0) dX12_whyTold_11 rfl (by decide) (fun r11 e11_z => ?_)
    refine n_ldc2 (n := 99) zk_RX12_368 dX12_whyTold_12 (by decide) (fun r12 e12_z => ?_)
    refine q_callS3 zm_RX12_138 dX12_whyTold_15 (Nat.le_of_ble_eq_true rfl) (Nat.le_of_ble_eq_true rfl) (Nat.le_of_ble_eq_true rfl) (Nat.le_of_ble_eq_true rfl) (Nat.le_of_ble_eq_true rfl) (s_X12_within G  (fun r15 e15_z => ?_))
    refine t_ifeq (t := 48) dX12_whyTold_18 (by decide) (fun h18 => ?_) (fun h18 => ?_)
    · refine r_lload1 dX12_whyTold_48 ?_
      refine n_ldc2 (n := 100) zk_RX12_377 dX12_whyTold_49 (by decide) (fun r49 e49 => ?_)
      refine n_lcmp dX12_whyTold_52 (fun r52 e52 => ?_)
      unfold zcmp at e52
      refine t_ifeq (t := 64) dX12_whyTold_53 (by decide) (fun h53 => ?_) (fun h53 => ?_)
      · refine r_aloadR0 dX12_whyTold_64 ?_
        refine m_getR (q := (A + 1)) zf_RX12_9 rfl dX12_whyTold_65 (shM_k hs) (shM_p1 hs) ?_
        refine n_bipush dX12_whyTold_68 (by decide) (fun r68 e68 => ?_)
        refine m_iald (k := 7) (x := (f (A + 1) 7)) dX12_whyTold_70 (shM_k1 hs) (shM_n1 hs) (by omega) (by omega) (rfl) ?_
        refine t_ifne (t := 78) dX12_whyTold_71 (by decide) (fun h71 => ?_) (fun h71 => ?_)
        · refine n_iconst dX12_whyTold_78 (by decide) (fun r78 e78 => ?_)
          refine r_iret dX12_whyTold_79 rfl (Nat.le_of_ble_eq_true rfl) (Nat.le_of_ble_eq_true rfl) ?_
          refine hQ _ f ?_ frM_rf
          unfold hinI
          repeat' split
          all_goals omega
        · refine n_iconst dX12_whyTold_74 (by decide) (fun r74 e74_z => ?_)
          refine r_goto (t := 79) dX12_whyTold_75 (by decide) ?_
          refine r_iret dX12_whyTold_79 rfl (Nat.le_of_ble_eq_true rfl) (Nat.le_of_ble_eq_true rfl) ?_
          refine hQ _ f ?_ frM_rf
          unfold hinI
          repeat' split
          all_goals omega
      · refine r_lload1 dX12_whyTold_56 ?_
        refine n_ldc2 (n := 200) zk_RX12_379 dX12_whyTold_57 (by decide) (fun r57 e57 => ?_)
        refine n_lcmp dX12_whyTold_60 (fun r60 e60 => ?_)
        unfold zcmp at e60
        refine t_ifne (t := 80) dX12_whyTold_61 (by decide) (fun h61 => ?_) (fun h61 => ?_)
        · refine r_lload1 dX12_whyTold_80 ?_
          refine n_ldc2 (n := 1000) zk_RX12_381 dX12_whyTold_81 (by decide) (fun r81 e81 => ?_)
          refine n_ldc2 (n := 1599) zk_RX12_383 dX12_whyTold_84 (by decide) (fun r84 e84 => ?_)
          refine q_callS3 zm_RX12_138 dX12_whyTold_87 (Nat.le_of_ble_eq_true rfl) (Nat.le_of_ble_eq_true rfl) (Nat.le_of_ble_eq_true rfl) (Nat.le_of_ble_eq_true rfl) (Nat.le_of_ble_eq_true rfl) (s_X12_within G  (fun r87 e87 => ?_))
          refine t_ifne (t := 106) dX12_whyTold_90 (by decide) (fun h90 => ?_) (fun h90 => ?_)
          · refine r_aloadR0 dX12_whyTold_106 ?_
            refine r_lload1 dX12_whyTold_107 ?_
            refine n_ldc2 (n := 1000) zk_RX12_381 dX12_whyTold_108 (by decide) (fun r108 e108 => ?_)
            refine n_lremc (c := 1000) dX12_whyTold_111 e108 (by decide) (by omega) (fun r111 e111_z => ?_)
            refine n_ldc2 (n := 100) zk_RX12_377 dX12_whyTold_112 (by decide) (fun r112 e112_z => ?_)
            refine n_ldivc (c := 100) dX12_whyTold_115 e112_z (by decide) (by omega) (fun r115 e115_z => ?_)
            refine q_callV1 zm_RX12_337 dX12_whyTold_116 (shM_k hs) (by decide) rfl (Nat.le_of_ble_eq_true rfl) (Nat.le_of_ble_eq_true rfl) (Nat.le_of_ble_eq_true rfl) (Nat.le_of_ble_eq_true rfl) (Nat.le_of_ble_eq_true rfl) (s_X12_isCell G hs hk.1.2.1 hn6 (fun r116 e116 => ?_))
            refine t_ifeq (t := 126) dX12_whyTold_119 (by decide) (fun h119 => ?_) (fun h119 => ?_)
            · refine n_iconst dX12_whyTold_126 (by decide) (fun r126 e126 => ?_)
              refine r_goto (t := 131) dX12_whyTold_127 (by decide) ?_
              refine r_iret dX12_whyTold_131 rfl (Nat.le_of_ble_eq_true rfl) (Nat.le_of_ble_eq_true rfl) ?_
              refine hQ _ f ?_ frM_rf
              unfold hinI
              repeat' split
              all_goals omega
            · refine n_iconst dX12_whyTold_122 (by decide) (fun r122 e122_z => ?_)
              refine r_goto (t := 131) dX12_whyTold_123 (by decide) ?_
              refine r_iret dX12_whyTold_131 rfl (Nat.le_of_ble_eq_true rfl) (Nat.le_of_ble_eq_true rfl) ?_
              refine hQ _ f ?_ frM_rf
              unfold hinI
              repeat' split
              all_goals omega
          · refine r_lload1 dX12_whyTold_93 ?_
            refine n_ldc2 (n := 2000) zk_RX12_385 dX12_whyTold_94 (by decide) (fun r94 e94_z => ?_)
            refine n_ldc2 (n := 2599) zk_RX12_387 dX12_whyTold_97 (by decide) (fun r97 e97_z => ?_)
            refine q_callS3 zm_RX12_138 dX12_whyTold_100 (Nat.le_of_ble_eq_true rfl) (Nat.le_of_ble_eq_true rfl) (Nat.le_of_ble_eq_true rfl) (Nat.le_of_ble_eq_true rfl) (Nat.le_of_ble_eq_true rfl) (s_X12_within G  (fun r100 e100_z => ?_))
            refine t_ifeq (t := 130) dX12_whyTold_103 (by decide) (fun h103 => ?_) (fun h103 => ?_)
            · refine n_iconst dX12_whyTold_130 (by decide) (fun r130 e130 => ?_)
              refine r_iret dX12_whyTold_131 rfl (Nat.le_of_ble_eq_true rfl) (Nat.le_of_ble_eq_true rfl) ?_
              refine hQ _ f ?_ frM_rf
              unfold hinI
              repeat' split
              all_goals omega
            · refine r_aloadR0 dX12_whyTold_106 ?_
              refine r_lload1 dX12_whyTold_107 ?_
              refine n_ldc2 (n := 1000) zk_RX12_381 dX12_whyTold_108 (by decide) (fun r108 e108 => ?_)
              refine n_lremc (c := 1000) dX12_whyTold_111 e108 (by decide) (by omega) (fun r111 e111_z => ?_)
              refine n_ldc2 (n := 100) zk_RX12_377 dX12_whyTold_112 (by decide) (fun r112 e112_z => ?_)
              refine n_ldivc (c := 100) dX12_whyTold_115 e112_z (by decide) (by omega) (fun r115 e115_z => ?_)
              refine q_callV1 zm_RX12_337 dX12_whyTold_116 (shM_k hs) (by decide) rfl (Nat.le_of_ble_eq_true rfl) (Nat.le_of_ble_eq_true rfl) (Nat.le_of_ble_eq_true rfl) (Nat.le_of_ble_eq_true rfl) (Nat.le_of_ble_eq_true rfl) (s_X12_isCell G hs hk.1.2.1 hn6 (fun r116 e116 => ?_))
              refine t_ifeq (t := 126) dX12_whyTold_119 (by decide) (fun h119 => ?_) (fun h119 => ?_)
              · refine n_iconst dX12_whyTold_126 (by decide) (fun r126 e126 => ?_)
                refine r_goto (t := 131) dX12_whyTold_127 (by decide) ?_
                refine r_iret dX12_whyTold_131 rfl (Nat.le_of_ble_eq_true rfl) (Nat.le_of_ble_eq_true rfl) ?_
                refine hQ _ f ?_ frM_rf
                unfold hinI
                repeat' split
                all_goals omega
              · refine n_iconst dX12_whyTold_122 (by decide) (fun r122 e122_z => ?_)
                refine r_goto (t := 131) dX12_whyTold_123 (by decide) ?_
                refine r_iret dX12_whyTold_131 rfl (Nat.le_of_ble_eq_true rfl) (Nat.le_of_ble_eq_true rfl) ?_
                refine hQ _ f ?_ frM_rf
                unfold hinI
                repeat' split
                all_goals omega
        · refine r_aloadR0 dX12_whyTold_64 ?_
          refine m_getR (q := (A + 1)) zf_RX12_9 rfl dX12_whyTold_65 (shM_k hs) (shM_p1 hs) ?_
          refine n_bipush dX12_whyTold_68 (by decide) (fun r68 e68 => ?_)
          refine m_iald (k := 7) (x := (f (A + 1) 7)) dX12_whyTold_70 (shM_k1 hs) (shM_n1 hs) (by omega) (by omega) (rfl) ?_
          refine t_ifne (t := 78) dX12_whyTold_71 (by decide) (fun h71 => ?_) (fun h71 => ?_)
          · refine n_iconst dX12_whyTold_78 (by decide) (fun r78 e78 => ?_)
            refine r_iret dX12_whyTold_79 rfl (Nat.le_of_ble_eq_true rfl) (Nat.le_of_ble_eq_true rfl) ?_
            refine hQ _ f ?_ frM_rf
            unfold hinI
            repeat' split
            all_goals omega
          · refine n_iconst dX12_whyTold_74 (by decide) (fun r74 e74_z => ?_)
            refine r_goto (t := 79) dX12_whyTold_75 (by decide) ?_
            refine r_iret dX12_whyTold_79 rfl (Nat.le_of_ble_eq_true rfl) (Nat.le_of_ble_eq_true rfl) ?_
            refine hQ _ f ?_ frM_rf
            unfold hinI
            repeat' split
            all_goals omega
    · refine r_aloadR0 dX12_whyTold_21 ?_
      refine r_aloadR0 dX12_whyTold_22 ?_
      refine q_callV0 zm_RX12_343 dX12_whyTold_23 (shM_k hs) (by decide) rfl (Nat.le_of_ble_eq_true rfl) (Nat.le_of_ble_eq_true rfl) (Nat.le_of_ble_eq_true rfl) (Nat.le_of_ble_eq_true rfl) (Nat.le_of_ble_eq_true rfl) (s_X12_now G hs hk hw (fun r23 g23 e23_z o23 c23 => ?_))
      refine r_lload1 dX12_whyTold_26 ?_
      refine n_ldc2 (n := 10) zk_RX12_370 dX12_whyTold_27 (by decide) (fun r27 e27_z => ?_)
      refine n_ldivc (c := 10) dX12_whyTold_30 e27_z (by decide) (by omega) (fun r30 e30 => ?_)
      refine r_lload1 dX12_whyTold_31 ?_
      refine n_ldc2 (n := 10) zk_RX12_370 dX12_whyTold_32 (by decide) (fun r32 e32 => ?_)
      refine n_lremc (c := 10) dX12_whyTold_35 e32 (by decide) (by omega) (fun r35 e35 => ?_)
      refine q_callV3 zm_RX12_358 dX12_whyTold_36 (shM_k hs) (by decide) rfl (Nat.le_of_ble_eq_true rfl) (Nat.le_of_ble_eq_true rfl) (Nat.le_of_ble_eq_true rfl) (Nat.le_of_ble_eq_true rfl) (Nat.le_of_ble_eq_true rfl) (s_X12_isFold (v := (tbL T).length) G hs e23_z (by omega) c23.1 hLl (fun r36 e36 => ?_))
      refine t_ifeq (t := 46) dX12_whyTold_39 (by decide) (fun h39 => ?_) (fun h39 => ?_)
      · refine n_iconst dX12_whyTold_46 (by decide) (fun r46 e46 => ?_)
        refine r_iret dX12_whyTold_47 rfl (Nat.le_of_ble_eq_true rfl) (Nat.le_of_ble_eq_true rfl) ?_
        refine hQ _ g23 ?_ o23
        unfold hinI
        repeat' split
        all_goals omega
      · refine n_iconst dX12_whyTold_42 (by decide) (fun r42 e42_z => ?_)
        refine r_goto (t := 47) dX12_whyTold_43 (by decide) ?_
        refine r_iret dX12_whyTold_47 rfl (Nat.le_of_ble_eq_true rfl) (Nat.le_of_ble_eq_true rfl) ?_
        refine hQ _ g23 ?_ o23
        unfold hinI
        repeat' split
        all_goals omega
  · refine n_iconst dX12_whyTold_8 (by decide) (fun r8 e8 => ?_)
    refine r_iret dX12_whyTold_9 rfl (Nat.le_of_ble_eq_true rfl) (Nat.le_of_ble_eq_true rfl) ?_
    refine hQ _ f ?_ frM_rf
    unfold hinI
    repeat' split
    all_goals omega
