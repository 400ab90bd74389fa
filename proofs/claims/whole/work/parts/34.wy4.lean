/-! Ways: the levels, all nodes -/
def levs (L : zLy) (d : Nat) : List zRw := (List.range d).flatMap (levR L)
def nodesR (L : zLy) : List zRw := levs L 6
theorem levs_succ {L : zLy} {d : Nat} : levs L (d + 1) = levs L d ++ levR L d := by
  unfold levs
  rw [List.range_succ, List.flatMap_append, List.flatMap_cons, List.flatMap_nil, List.append_nil]
theorem ch_mem {z x : zRw} (h_z : x ∈ chR z) : ∃ i way, i + 1 < z.1.length ∧ way < 4 ∧ x = kX z i way := by
  rw [chR_x] at h_z
  obtain ⟨k, way, hk, e⟩ := xP_mem h_z
  rcases hk with ⟨h1, h2⟩ | ⟨h1, h2⟩
  · exact ⟨k, way, by omega, h2, e⟩
  · exact absurd h2 (by omega)
theorem lev_p {L : zLy} {d : Nat} {p : zLy → Prop} (h_z : ∀ z ∈ levR L d, ∀ x ∈ chR z, p x.1) : ∀ y ∈ levR L (d + 1), p y.1 := by
  refine fold_look (fun y hy => absurd hy List.not_mem_nil) (fun y hy => ?_)
  obtain ⟨z, h1, h2⟩ := List.mem_flatMap.mp hy
  exact h_z z h1 y h2
theorem lev_row {L : zLy} {d : Nat} : ∀ y ∈ levR L d, y.2.1.length = d := by
  induction d with
  | zero =>
    intro y hy
    rw [List.mem_singleton.mp hy]
    rfl
  | succ d ih =>
    refine fold_row (p := fun r => r.length = d + 1) (fun y hy => absurd hy List.not_mem_nil) (fun y hy => ?_)
    obtain ⟨z, h1, h2⟩ := List.mem_flatMap.mp hy
    obtain ⟨i, way, -, -, rfl⟩ := ch_mem h2
    show (z.2.1 ++ [_]).length = d + 1
    rw [List.length_append, ih z h1]
    rfl
theorem lev_wid {L : zLy} {d : Nat} : ∀ y ∈ levR L d, y.1.length + d ≤ L.length := by
  induction d with
  | zero =>
    intro y hy
    rw [List.mem_singleton.mp hy]
    exact Nat.le_refl _
  | succ d ih =>
    refine lev_p (p := fun M => M.length + (d + 1) ≤ L.length) (fun z hz x hx => ?_)
    obtain ⟨i, way, h1, -, rfl⟩ := ch_mem hx
    show (lyFold z.1 (i + 1) way).length + (d + 1) ≤ L.length
    have := ih z hz
    rw [lyFold_len]
    unfold lySpan
    omega
theorem lev_one {L : zLy} {d : Nat} : ∀ y ∈ levR L (d + 1), 1 ≤ y.1.length := by
  refine lev_p (p := fun M => 1 ≤ M.length) (fun z hz x hx => ?_)
  obtain ⟨i, way, h1, -, rfl⟩ := ch_mem hx
  show 1 ≤ (lyFold z.1 (i + 1) way).length
  rw [lyFold_len]
  unfold lySpan
  omega
theorem lev_V {n e : Nat} {L : zLy} (h_z : rchV n e L) {d : Nat} : ∀ y ∈ levR L d, rchV n (e + d) y.1 := by
  induction d with
  | zero =>
    intro y hy
    rw [List.mem_singleton.mp hy]
    exact h_z
  | succ d ih =>
    refine lev_p (p := fun M => rchV n (e + (d + 1)) M) (fun z hz x hx => ?_)
    obtain ⟨i, way, h1, h2, rfl⟩ := ch_mem hx
    exact rchV_kid (ih z hz) (by omega) h1 h2
theorem lev_rch {n : Nat} {L : zLy} (h_z : rch n L) {d : Nat} : ∀ y ∈ levR L d, rch n y.1 := by
  obtain ⟨e, -, h1⟩ := rchV_ex h_z
  exact fun y hy => (lev_V h1 y hy).1
theorem lev_dist {L : zLy} {d : Nat} : distR (levR L d) := by
  cases d with
  | zero =>
    intro i k y u hy hu _
    have h1 := (List.getElem?_eq_some_iff.mp hy).1
    have h2 := (List.getElem?_eq_some_iff.mp hu).1
    have e : (levR L 0).length = 1 := rfl
    omega
  | succ d => exact distR_fold distR_nil
theorem chR_len {z : zRw} : (chR z).length = 4 * (z.1.length - 1) := by
  rw [chR_x, xP_len]
  rfl
theorem sum_ch {z : zRw} (h_z : z.1.length ≤ 6) : sumR allL (chR z) ≤ 20 * z.2.2 := by
  have h1 : sumR allL (chR z) = (chR z).length * z.2.2 := sum_xP (fun x hx => by
    obtain ⟨i, way, -, -, rfl⟩ := ch_mem hx
    rfl)
  rw [h1]
  exact mul20 (by rw [chR_len]; omega)
theorem sum_flat {X : List zRw} (h_z : ∀ x ∈ X, x.1.length ≤ 6) : sumR allL (X.flatMap chR) ≤ 20 * sumR allL X := by
  induction X with
  | nil => exact Nat.zero_le _
  | cons x X ih =>
    rw [List.flatMap_cons, sum_app, sumR_cons]
    have e : (if allL x.1 then x.2.2 else 0) = x.2.2 := if_pos rfl
    rw [e]
    have h1 := sum_ch (h_z x List.mem_cons_self)
    have h2 := ih (fun y hy => h_z y (List.mem_cons_of_mem _ hy))
    omega
theorem lev_sum {n : Nat} {L : zLy} (h_z : rch n L) {d : Nat} : sumR allL (levR L d) ≤ 20 ^ d := by
  induction d with
  | zero => exact Nat.le_refl _
  | succ d ih =>
    show sumR allL (((levR L d).flatMap chR).foldl insR []) ≤ _
    rw [sumR_fold]
    have h1 := sum_flat (X := levR L d) (fun y hy => by have h2 := lev_rch h_z y hy; have h3 := (rch_cell h2).2.2.2.2; have h4 := rch_le h2; omega)
    have e : sumR allL [] = 0 := rfl
    rw [e, Nat.pow_succ]
    omega
theorem lev_emp {L : zLy} {d : Nat} (h_z : levR L d = []) : levR L (d + 1) = [] := by
  show colR ((levR L d).flatMap chR) = []
  rw [h_z]
  rfl
theorem levs_emp {L : zLy} {d : Nat} (h_z : levR L d = []) : ∀ k, levs L (d + k) = levs L d ∧ levR L (d + k) = [] := by
  intro k
  induction k with
  | zero => exact ⟨rfl, h_z⟩
  | succ k ih =>
    refine ⟨?_, lev_emp ih.2⟩
    show levs L (d + k + 1) = _
    rw [levs_succ, ih.1, ih.2, List.append_nil]
theorem nodes_of {L : zLy} {d : Nat} (h_z : levR L d = []) (hd_z : d ≤ 6) : nodesR L = levs L d := by
  have := (levs_emp h_z (6 - d)).1
  rw [show d + (6 - d) = 6 by omega] at this
  exact this
theorem zsum_mono {f : Nat → Nat} {d m : Nat} (h_z : d ≤ m) : zsum f d ≤ zsum f m := by
  induction m with
  | zero => rw [show d = 0 by omega]; exact Nat.le_refl _
  | succ m ih =>
    by_cases e : d = m + 1
    · rw [e]; exact Nat.le_refl _
    · have h1 := ih (by omega)
      have h2 : zsum f (m + 1) = zsum f m + f m := rfl
      omega
theorem kv_cap : ∀ n, n < 7 → ∀ e, e < 6 → zsum (fun k => kvN n (e + k)) 7 ≤ 1000 := by decide +kernel
theorem levs_len {n e : Nat} {L : zLy} (h_z : rchV n e L) {d : Nat} : (levs L d).length ≤ zsum (fun k => kvN n (e + k)) d := by
  induction d with
  | zero => exact Nat.zero_le _
  | succ d ih =>
    rw [levs_succ, List.length_append]
    have h1 := lev_cap lev_dist (lev_V h_z (d := d))
    have h2 : zsum (fun k => kvN n (e + k)) (d + 1) = zsum (fun k => kvN n (e + k)) d + kvN n (e + d) := rfl
    omega
theorem levs_cap {n : Nat} {L : zLy} (h_z : rch n L) {d : Nat} (hd_z : d ≤ 6) : ∃ K : zLy → Prop, (∀ B2, distR B2 → (∀ y ∈ B2, K y.1) → (levs L d).length + B2.length ≤ 1000) ∧ ∀ y ∈ levR L d, K y.1 := by
  obtain ⟨e, he, h1⟩ := rchV_ex h_z
  refine ⟨rchV n (e + d), fun B2 hB_z hK_z => ?_, lev_V h1⟩
  have h2 := lev_cap hB_z hK_z
  have h3 := levs_len h1 (d := d)
  have h4 : zsum (fun k => kvN n (e + k)) (d + 1) = zsum (fun k => kvN n (e + k)) d + kvN n (e + d) := rfl
  have h5 := zsum_mono (f := fun k => kvN n (e + k)) (d := d + 1) (m := 7) (by omega)
  have h6 := kv_cap n (by have := rch_le h_z; omega) e he
  omega
theorem nodes_len {n : Nat} {L : zLy} (h_z : rch n L) : (nodesR L).length ≤ 1000 := by
  obtain ⟨K, h1, -⟩ := levs_cap h_z (d := 6) (Nat.le_refl _)
  have := h1 [] distR_nil (fun y hy => absurd hy List.not_mem_nil)
  unfold nodesR
  rw [List.length_nil] at this
  omega
set_option maxHeartbeats 4000000 in
set_option maxRecDepth 100000 in
theorem s_X9_addR {g : zGT} {w : zW} {f : Nat → Nat → Int32} {j : Nat → Nat → Int64} {a : Nat} {n : Nat} {x y v : Int32} {L : zLy} {NL : List zRw} {Q : Option Value → zW → Prop} {QX : String → zW → Prop} (G : zGok g) (hs : shWy w a) (hc_z : ctWy f a n NL) (hnh : ¬ hasR NL L) (hl : NL.length < 1024) (hr : rch n L) (hx : x = lyKey L) (hy : y.toInt = -1) (hd_z : v.toInt = -1) (hQ : ∀ f2_z, ofA f f2_z a → f2_z a 11 = f a 11 → ctWy f2_z a n (NL ++ [(L, [], 1)]) → Q none (zM w f2_z j)) : zC g 4 yX9_add cX9_add 10 none [.ref a, .int x, .int y, .int v] (zM w f j) (0, 0) Q QX := by
  refine zC_of G (by decide +kernel) (Nat.le_of_ble_eq_true rfl) ?_
  have hc0 := hc_z
  obtain ⟨⟨a1, a2, a3, a4⟩, hN_z, ⟨hF1, hF2⟩, hS_z, hR⟩ := hc0
  refine r_aloadR0 dX9_add_0 ?_
  refine r_iload1 dX9_add_1 ?_
  refine q_callV1 zm_RX9_91 dX9_add_2 (shWy_k hs) (by decide) rfl (Nat.le_of_ble_eq_true rfl) (Nat.le_of_ble_eq_true rfl) (Nat.le_of_ble_eq_true rfl) (Nat.le_of_ble_eq_true rfl) (Nat.le_of_ble_eq_true rfl) (s_X9_slotOf G hs hc_z hr hx (fun r2 p e2_z hp2 hpr hab => ?_))
  refine r_istore4 dX9_add_5 rfl ?_
  refine r_aloadR0 dX9_add_7 ?_
  refine m_getR (q := (a + 9)) zf_RX9_36 rfl dX9_add_8 (shWy_k hs) (shWy_p9 hs) ?_
  refine r_iload4 dX9_add_11 ?_
  refine q_callS2 zm_RX9_94 dX9_add_13 (Nat.le_of_ble_eq_true rfl) (Nat.le_of_ble_eq_true rfl) (Nat.le_of_ble_eq_true rfl) (Nat.le_of_ble_eq_true rfl) (Nat.le_of_ble_eq_true rfl) (s_X9_valueAt G (shWy_k9 hs) (shWy_n9 hs) (by decide) (fun r13 e13_z => ?_))
  have h13 : r13 = f (a + 9) p := by
    rcases e13_z with ⟨p1, p2, p3⟩ | ⟨p1, p2⟩
    · rw [p3, show r2.toInt.toNat = p by omega]
    · exact absurd ⟨by omega, by omega⟩ p1
  have h13v : r13.toInt = -1 := by rw [h13]; exact (hab (fun ⟨i, u, h1, h2, _⟩ => hnh ⟨u, List.mem_of_getElem? h1, h2⟩)).1
  refine r_istore5 dX9_add_16 rfl ?_
  refine r_iload2 dX9_add_18 ?_
  refine n_iconst dX9_add_19 (by decide) (fun r19 e19_z => ?_)
  refine t_icne (t := 27) dX9_add_20 (by decide) (fun h20 => False.elim (by omega)) (fun h20 => ?_)
  refine n_iconst dX9_add_23 (by decide) (fun r23 e23_z => ?_)
  refine r_goto (t := 34) dX9_add_24 (by decide) ?_
  refine r_istore6 dX9_add_34 rfl ?_
  refine r_iload2 dX9_add_36 ?_
  refine n_iconst dX9_add_37 (by decide) (fun r37 e37 => ?_)
  refine t_icne (t := 45) dX9_add_38 (by decide) (fun h38 => False.elim (by omega)) (fun h38 => ?_)
  refine n_iconst dX9_add_41 (by decide) (fun r41 e41_z => ?_)
  refine r_goto (t := 50) dX9_add_42 (by decide) ?_
  refine r_istore7 dX9_add_50 rfl ?_
  refine r_iload5 dX9_add_52 ?_
  refine n_iconst dX9_add_54 (by decide) (fun r54 e54 => ?_)
  refine t_icne (t := 62) dX9_add_55 (by decide) (fun h55 => False.elim (by omega)) (fun h55 => ?_)
  refine n_iconst dX9_add_58 (by decide) (fun r58 e58 => ?_)
  refine r_goto (t := 71) dX9_add_59 (by decide) ?_
  refine r_istore8 dX9_add_71 rfl ?_
  refine r_iload8 dX9_add_73 ?_
  refine n_iconst dX9_add_75 (by decide) (fun r75 e75 => ?_)
  refine t_iceq (t := 109) dX9_add_76 (by decide) (fun h76 => ?_) (fun h76 => False.elim (by omega))
  refine r_aloadR0 dX9_add_109 ?_
  refine m_getV (x := (f a 12)) zf_RX9_53 rfl dX9_add_110 (shWy_k hs) (rfl) ?_
  refine t_iflt (t := 126) dX9_add_113 (by decide) (fun h113 => False.elim (by omega)) (fun h113 => ?_)
  refine r_aloadR0 dX9_add_116 ?_
  refine m_getV (x := (f a 12)) zf_RX9_53 rfl dX9_add_117 (shWy_k hs) (rfl) ?_
  refine n_sipush dX9_add_120 (by decide) (fun r120 e120_z => ?_)
  refine t_iclt (t := 127) dX9_add_123 (by decide) (fun h123 => ?_) (fun h123 => False.elim (by omega))
  refine r_aloadR0 dX9_add_127 ?_
  refine m_getV (x := (f a 12)) zf_RX9_53 rfl dX9_add_128 (shWy_k hs) (rfl) ?_
  refine r_istore9 dX9_add_131 rfl ?_
  refine r_aloadR0 dX9_add_133 ?_
  refine r_dup dX9_add_134 rfl ?_
  refine m_getV (x := (f a 12)) zf_RX9_53 rfl dX9_add_135 (shWy_k hs) (rfl) ?_
  refine n_iconst dX9_add_138 (by decide) (fun r138 e138 => ?_)
  refine n_iadd dX9_add_139 (by omega) (fun r139 e139 => ?_)
  refine m_putI zf_RX9_53 (by intro C T N h_z; cases h_z; rfl) rfl dX9_add_140 (shWy_k hs) ?_
  refine r_aloadR0 dX9_add_143 ?_
  refine m_getR (q := (a + 1)) zf_RX9_11 rfl dX9_add_144 (shWy_k hs) (shWy_p1 hs) ?_
  refine r_iload9 dX9_add_147 ?_
  refine r_iload1 dX9_add_149 ?_
  refine q_callS3 zm_RX9_104 dX9_add_150 (Nat.le_of_ble_eq_true rfl) (Nat.le_of_ble_eq_true rfl) (Nat.le_of_ble_eq_true rfl) (Nat.le_of_ble_eq_true rfl) (Nat.le_of_ble_eq_true rfl) (s_X9_put (k := NL.length) G (shWy_k1 hs) (shWy_n1 hs) (by decide) a1 (by omega) (fun g0y hg0 => ?_))
  refine r_aloadR0 dX9_add_153 ?_
  refine m_getR (q := (a + 2)) zf_RX9_15 rfl dX9_add_154 (shWy_k hs) (shWy_p2 hs) ?_
  refine r_iload9 dX9_add_157 ?_
  refine r_iload2 dX9_add_159 ?_
  refine q_callS3 zm_RX9_104 dX9_add_160 (Nat.le_of_ble_eq_true rfl) (Nat.le_of_ble_eq_true rfl) (Nat.le_of_ble_eq_true rfl) (Nat.le_of_ble_eq_true rfl) (Nat.le_of_ble_eq_true rfl) (s_X9_put (k := NL.length) G (shWy_k2 hs) (shWy_n2 hs) (by decide) a1 (by omega) (fun g1y hg1 => ?_))
  refine r_aloadR0 dX9_add_163 ?_
  refine m_getR (q := (a + 3)) zf_RX9_18 rfl dX9_add_164 (shWy_k hs) (shWy_p3 hs) ?_
  refine r_iload9 dX9_add_167 ?_
  refine r_iload3 dX9_add_169 ?_
  refine q_callS3 zm_RX9_104 dX9_add_170 (Nat.le_of_ble_eq_true rfl) (Nat.le_of_ble_eq_true rfl) (Nat.le_of_ble_eq_true rfl) (Nat.le_of_ble_eq_true rfl) (Nat.le_of_ble_eq_true rfl) (s_X9_put (k := NL.length) G (shWy_k3 hs) (shWy_n3 hs) (by decide) a1 (by omega) (fun g2y hg2 => ?_))
  refine r_aloadR0 dX9_add_173 ?_
  refine m_getR (q := (a + 4)) zf_RX9_21 rfl dX9_add_174 (shWy_k hs) (shWy_p4 hs) ?_
  refine r_iload9 dX9_add_177 ?_
  refine r_iload6 dX9_add_179 ?_
  refine q_callS3 zm_RX9_104 dX9_add_181 (Nat.le_of_ble_eq_true rfl) (Nat.le_of_ble_eq_true rfl) (Nat.le_of_ble_eq_true rfl) (Nat.le_of_ble_eq_true rfl) (Nat.le_of_ble_eq_true rfl) (s_X9_put (k := NL.length) G (shWy_k4 hs) (shWy_n4 hs) (by decide) a1 (by omega) (fun g3y hg3 => ?_))
  refine r_aloadR0 dX9_add_184 ?_
  refine m_getR (q := (a + 5)) zf_RX9_24 rfl dX9_add_185 (shWy_k hs) (shWy_p5 hs) ?_
  refine r_iload9 dX9_add_188 ?_
  refine r_iload7 dX9_add_190 ?_
  refine q_callS3 zm_RX9_104 dX9_add_192 (Nat.le_of_ble_eq_true rfl) (Nat.le_of_ble_eq_true rfl) (Nat.le_of_ble_eq_true rfl) (Nat.le_of_ble_eq_true rfl) (Nat.le_of_ble_eq_true rfl) (s_X9_put (k := NL.length) G (shWy_k5 hs) (shWy_n5 hs) (by decide) a1 (by omega) (fun g4y hg4 => ?_))
  refine r_aloadR0 dX9_add_195 ?_
  refine m_getR (q := (a + 6)) zf_RX9_27 rfl dX9_add_196 (shWy_k hs) (shWy_p6 hs) ?_
  refine r_iload9 dX9_add_199 ?_
  refine r_iload5 dX9_add_201 ?_
  refine n_iconst dX9_add_203 (by decide) (fun r203 e203 => ?_)
  refine t_icne (t := 212) dX9_add_204 (by decide) (fun h204 => False.elim (by omega)) (fun h204 => ?_)
  refine r_iload9 dX9_add_207 ?_
  refine r_goto (t := 214) dX9_add_209 (by decide) ?_
  refine q_callS3 zm_RX9_104 dX9_add_214 (Nat.le_of_ble_eq_true rfl) (Nat.le_of_ble_eq_true rfl) (Nat.le_of_ble_eq_true rfl) (Nat.le_of_ble_eq_true rfl) (Nat.le_of_ble_eq_true rfl) (s_X9_put (k := NL.length) G (shWy_k6 hs) (shWy_n6 hs) (by decide) a1 (by omega) (fun g5y hg5 => ?_))
  refine r_aloadR0 dX9_add_217 ?_
  refine m_getR (q := (a + 7)) zf_RX9_30 rfl dX9_add_218 (shWy_k hs) (shWy_p7 hs) ?_
  refine r_iload5 dX9_add_221 ?_
  refine n_iconst dX9_add_223 (by decide) (fun r223 e223 => ?_)
  refine t_icne (t := 232) dX9_add_224 (by decide) (fun h224 => False.elim (by omega)) (fun h224 => ?_)
  refine r_iload9 dX9_add_227 ?_
  refine r_goto (t := 234) dX9_add_229 (by decide) ?_
  refine r_iload9 dX9_add_234 ?_
  refine q_callS3 zm_RX9_104 dX9_add_236 (Nat.le_of_ble_eq_true rfl) (Nat.le_of_ble_eq_true rfl) (Nat.le_of_ble_eq_true rfl) (Nat.le_of_ble_eq_true rfl) (Nat.le_of_ble_eq_true rfl) (s_X9_put (k := NL.length) G (shWy_k7 hs) (shWy_n7 hs) (by decide) a1 (by omega) (fun g6y hg6 => ?_))
  refine r_iload5 dX9_add_239 ?_
  refine n_iconst dX9_add_241 (by decide) (fun r241 e241 => ?_)
  refine t_icne (t := 256) dX9_add_242 (by decide) (fun h242 => False.elim (by omega)) (fun h242 => ?_)
  refine r_aloadR0 dX9_add_245 ?_
  refine m_getR (q := (a + 9)) zf_RX9_36 rfl dX9_add_246 (shWy_k hs) (shWy_p9 hs) ?_
  refine r_iload4 dX9_add_249 ?_
  refine r_iload9 dX9_add_251 ?_
  refine q_callS3 zm_RX9_104 dX9_add_253 (Nat.le_of_ble_eq_true rfl) (Nat.le_of_ble_eq_true rfl) (Nat.le_of_ble_eq_true rfl) (Nat.le_of_ble_eq_true rfl) (Nat.le_of_ble_eq_true rfl) (s_X9_put (k := p) G (shWy_k9 hs) (shWy_n9 hs) (by decide) e2_z hp2 (fun g7y hg7 => ?_))
  refine r_vret dX9_add_256 rfl (Nat.le_of_ble_eq_true rfl) (Nat.le_of_ble_eq_true rfl) ?_
  refine hQ g7y ?_ (by rw [hg7, zu_ne2 (by omega), hg6, zu_ne2 (by omega), hg5, zu_ne2 (by omega), hg4, zu_ne2 (by omega), hg3, zu_ne2 (by omega), hg2, zu_ne2 (by omega), hg1, zu_ne2 (by omega), hg0, zu_ne2 (by omega), zu_ni (by decide)]) ?_
  · rw [hg7, hg6, hg5, hg4, hg3, hg2, hg1, hg0]; exact ofA_zu (ofA_zu (ofA_zu (ofA_zu (ofA_zu (ofA_zu (ofA_zu (ofA_zu (ofA_zu (ofA_rf) (by omega)) (by omega)) (by omega)) (by omega)) (by omega)) (by omega)) (by omega)) (by omega)) (by omega)
  · refine wy_app (i0_z := NL.length) (x := (L, [], 1)) hc_z hl hr (Or.inl ⟨rfl, ?_, ?_⟩) ?_ ?_ ?_ ?_ ?_ ?_ ?_ (fun i hi_z => ?_) ?_ (fun r h1 h2 i hi_z => ?_) ?_
    · rw [hg7, zu_ne2 (by omega), hg6, zu_ne2 (by omega), hg5, zu_ne2 (by omega), hg4, zu_ne2 (by omega), hg3, zu_ne2 (by omega), hg2, zu_ne2 (by omega), hg1, zu_at]; exact hy
    · rw [hg7, zu_ne2 (by omega), hg6, zu_ne2 (by omega), hg5, zu_ne2 (by omega), hg4, zu_ne2 (by omega), hg3, zu_ne2 (by omega), hg2, zu_at]; exact hd_z
    · rw [hg7, zu_ne2 (by omega), hg6, zu_ne2 (by omega), hg5, zu_ne2 (by omega), hg4, zu_ne2 (by omega), hg3, zu_ne2 (by omega), hg2, zu_ne2 (by omega), hg1, zu_ne2 (by omega), hg0, zu_ne2 (by omega), zu_at]; omega
    · rw [hg7, zu_ne2 (by omega), hg6, zu_ne2 (by omega), hg5, zu_ne2 (by omega), hg4, zu_ne2 (by omega), hg3, zu_ne2 (by omega), hg2, zu_ne2 (by omega), hg1, zu_ne2 (by omega), hg0, zu_ne2 (by omega), zu_ni (by decide)]
    · rw [hg7, zu_ne2 (by omega), hg6, zu_ne2 (by omega), hg5, zu_ne2 (by omega), hg4, zu_ne2 (by omega), hg3, zu_ne2 (by omega), hg2, zu_ne2 (by omega), hg1, zu_ne2 (by omega), hg0, zu_at]; exact hx
    · rw [hg7, zu_ne2 (by omega), hg6, zu_ne2 (by omega), hg5, zu_ne2 (by omega), hg4, zu_ne2 (by omega), hg3, zu_at]; show _ = ((0 : Nat) : Int); omega
    · rw [hg7, zu_ne2 (by omega), hg6, zu_ne2 (by omega), hg5, zu_ne2 (by omega), hg4, zu_at]; show _ = ((1 : Nat) : Int); omega
    · rw [hg7, zu_ne2 (by omega), hg6, zu_ne2 (by omega), hg5, zu_at]; exact a1
    · rw [hg7, zu_ne2 (by omega), hg6, zu_at]; exact a1
    · rw [hg7, zu_ne2 (by omega), hg6, zu_ni (by omega), hg5, zu_ne2 (by omega), hg4, zu_ne2 (by omega), hg3, zu_ne2 (by omega), hg2, zu_ne2 (by omega), hg1, zu_ne2 (by omega), hg0, zu_ne2 (by omega), zu_ne2 (by omega)]
    · exact isF_app.mpr (Or.inr ⟨rfl, rfl, hnh⟩)
    · rcases (show r = 1 ∨ r = 2 ∨ r = 3 ∨ r = 4 ∨ r = 5 ∨ r = 6 by omega) with rfl | rfl | rfl | rfl | rfl | rfl
      · rw [hg7, zu_ne2 (by omega), hg6, zu_ne2 (by omega), hg5, zu_ne2 (by omega), hg4, zu_ne2 (by omega), hg3, zu_ne2 (by omega), hg2, zu_ne2 (by omega), hg1, zu_ne2 (by omega), hg0, zu_ni (by omega), zu_ne2 (by omega)]
      · rw [hg7, zu_ne2 (by omega), hg6, zu_ne2 (by omega), hg5, zu_ne2 (by omega), hg4, zu_ne2 (by omega), hg3, zu_ne2 (by omega), hg2, zu_ne2 (by omega), hg1, zu_ni (by omega), hg0, zu_ne2 (by omega), zu_ne2 (by omega)]
      · rw [hg7, zu_ne2 (by omega), hg6, zu_ne2 (by omega), hg5, zu_ne2 (by omega), hg4, zu_ne2 (by omega), hg3, zu_ne2 (by omega), hg2, zu_ni (by omega), hg1, zu_ne2 (by omega), hg0, zu_ne2 (by omega), zu_ne2 (by omega)]
      · rw [hg7, zu_ne2 (by omega), hg6, zu_ne2 (by omega), hg5, zu_ne2 (by omega), hg4, zu_ne2 (by omega), hg3, zu_ni (by omega), hg2, zu_ne2 (by omega), hg1, zu_ne2 (by omega), hg0, zu_ne2 (by omega), zu_ne2 (by omega)]
      · rw [hg7, zu_ne2 (by omega), hg6, zu_ne2 (by omega), hg5, zu_ne2 (by omega), hg4, zu_ni (by omega), hg3, zu_ne2 (by omega), hg2, zu_ne2 (by omega), hg1, zu_ne2 (by omega), hg0, zu_ne2 (by omega), zu_ne2 (by omega)]
      · rw [hg7, zu_ne2 (by omega), hg6, zu_ne2 (by omega), hg5, zu_ni (by omega), hg4, zu_ne2 (by omega), hg3, zu_ne2 (by omega), hg2, zu_ne2 (by omega), hg1, zu_ne2 (by omega), hg0, zu_ne2 (by omega), zu_ne2 (by omega)]
    · have hb9 : g6y (a + 9) = f (a + 9) := by rw [hg6, zu_ne (by omega), hg5, zu_ne (by omega), hg4, zu_ne (by omega), hg3, zu_ne (by omega), hg2, zu_ne (by omega), hg1, zu_ne (by omega), hg0, zu_ne (by omega), zu_ne (by omega)]
      rw [hg7]
      obtain ⟨b1, b2⟩ := hab (fun ⟨i, u, h1, h2, _⟩ => hnh ⟨u, List.mem_of_getElem? h1, h2⟩)
      exact wyS_new (x := (L, [], 1)) (by rw [hb9]; exact hS_z) hnh hp2 a1 (by rw [hb9]; exact b1) (by rw [hb9]; exact b2)
theorem ctWy_0 {f : Nat → Nat → Int32} {a n : Nat} (h0 : (f a 12).toInt = 0) (h11 : (f a 11).toInt = (n : Nat)) (hn : n ≤ 6) (hsl : ∀ p, p < 2048 → (f (a + 9) p).toInt = -1) : ctWy f a n [] := by
  refine ⟨⟨h0, h11, Nat.zero_le _, hn⟩, fun i y hy => by simp at hy, ⟨fun i y hy => by simp at hy, fun i L hi_z => ?_⟩, ⟨fun p hp => Or.inl (hsl p hp), fun i L hi_z => ?_, [], Nat.le_refl _, fun p hp hne => absurd (hsl p hp) hne⟩, fun y hy => absurd hy List.not_mem_nil⟩
  · obtain ⟨y, hy, -⟩ := hi_z
    simp at hy
  · obtain ⟨y, hy, -⟩ := hi_z
    simp at hy
def wyI (f : Nat → Nat → Int32) (a : Nat) : Prop := (f a 12).toInt = 0 ∨ ∃ n L, rch n L ∧ ctWy f a n (nodesR L)
theorem ctLay_W {f f2_z : Nat → Nat → Int32} {a q : Nat} {L : zLy} {C : List (Nat × Bool)} (h_z : ctLay f q L C) (ho : ofW f f2_z a) (hq : q + 4 ≤ a ∨ a + 18 ≤ q) : ctLay f2_z q L C := by
  unfold ctLay
  rw [ho q (by omega), ho (q + 1) (by omega), ho (q + 2) (by omega), ho (q + 3) (by omega)]
  exact h_z
theorem nodes_0 {L : zLy} : (nodesR L)[0]? = some (L, [], 1) := rfl
set_option maxHeartbeats 4000000 in
set_option maxRecDepth 100000 in
theorem s_X9_grow {g : zGT} {w : zW} {f : Nat → Nat → Int32} {j : Nat → Nat → Int64} {a : Nat} {q n : Nat} {L : zLy} {Q : Option Value → zW → Prop} {QX : String → zW → Prop} (G : zGok g) (hs : shWy w a) (hI : wyI f a) (hsq : shLay w q) (hcq : ctLay f q L []) (hqd : q + 4 ≤ a ∨ a + 18 ≤ q) (hr : rch n L) (hQ : ∀ f2_z, ofW f f2_z a → ctWy f2_z a n (nodesR L) → Q none (zM w f2_z j)) : zC g 6 yX9_grow cX9_grow 3 none [.ref a, .ref q] (zM w f j) (0, 0) Q QX := by
  refine zC_of G (by decide +kernel) (Nat.le_of_ble_eq_true rfl) ?_
  have hcell := rch_cell hr
  have hn6 := rch_le hr
  have hlen : L.flatten.length = n := hcell.1
  have nn : (nI n).toInt = (n : Nat) := zi_n (by omega)
  have fresh : ∀ v2 : Option Value, zR (zV g 6 yX9_grow 3 none (0, 0) Q QX) cX9_grow yX9_grow.cls 31 [some (.ref a), some (.ref q), v2] [] (zM w f j) (0, 0) := by
    intro v2
    refine r_aloadR0 dX9_grow_31 ?_
    refine r_aloadR1 dX9_grow_32 ?_
    refine q_callV0 zm_RX9_56 dX9_grow_33 (shLay_k hsq) (by decide) rfl (Nat.le_of_ble_eq_true rfl) (Nat.le_of_ble_eq_true rfl) (Nat.le_of_ble_eq_true rfl) (Nat.le_of_ble_eq_true rfl) (Nat.le_of_ble_eq_true rfl) (s_X2_cells (w := zM w f j) (L := L) G hsq hcq ?_)
    rw [hlen]
    refine m_putI zf_RX9_49 (by intro C T N h_z; cases h_z; rfl) rfl dX9_grow_36 (shWy_k hs) ?_
    refine r_aloadR0 dX9_grow_39 ?_
    refine n_iconst dX9_grow_40 (by decide) (fun r40 e40 => ?_)
    refine m_putI zf_RX9_53 (by intro C T N h_z; cases h_z; rfl) rfl dX9_grow_41 (shWy_k hs) ?_
    refine r_aloadR0 dX9_grow_44 ?_
    refine m_getR (q := (a + 9)) zf_RX9_36 rfl dX9_grow_45 (shWy_k hs) (shWy_p9 hs) ?_
    refine n_iconst dX9_grow_48 (by decide) (fun r48 e48 => ?_)
    refine q_callS2 zm_RX9_66 dX9_grow_49 (Nat.le_of_ble_eq_true rfl) (Nat.le_of_ble_eq_true rfl) (Nat.le_of_ble_eq_true rfl) (Nat.le_of_ble_eq_true rfl) (Nat.le_of_ble_eq_true rfl) (s_J7_fill_53178 G (shWy_k9 hs) (shWy_n9 hs) (by decide) (fun f1_z ho1 hz1 => ?_))
    have hfa : f1_z a = zu (zu f a 11 (nI n)) a 12 r40 a := ho1 a (by omega)
    have h012 : (f1_z a 12).toInt = 0 := by rw [hfa, zu_at]; exact e40
    have h011 : (f1_z a 11).toInt = (n : Nat) := by rw [hfa, zu_ni (by decide), zu_at]; exact nn
    have hof1 : ofW f f1_z a := fun p hp => by rw [ho1 p (by omega), zu_ne (by omega), zu_ne (by omega)]
    have hcw := ctWy_0 h012 h011 hn6 (fun p hp => by rw [hz1 p hp]; exact e48)
    have hcq1 := ctLay_W hcq hof1 hqd
    refine r_aloadR0 dX9_grow_52 ?_
    refine r_aloadR1 dX9_grow_53 ?_
    refine q_callV0 zm_RX9_63 dX9_grow_54 (shLay_k hsq) (by decide) rfl (Nat.le_of_ble_eq_true rfl) (Nat.le_of_ble_eq_true rfl) (Nat.le_of_ble_eq_true rfl) (Nat.le_of_ble_eq_true rfl) (Nat.le_of_ble_eq_true rfl) (s_X2_key (w := zM w f1_z j) (L := L) G hsq hcq1 ?_)
    refine n_iconst dX9_grow_57 (by decide) (fun r57 e57 => ?_)
    refine n_iconst dX9_grow_58 (by decide) (fun r58 e58 => ?_)
    refine q_callV3 zm_RX9_72 dX9_grow_59 (shWy_k hs) (by decide) rfl (Nat.le_of_ble_eq_true rfl) (Nat.le_of_ble_eq_true rfl) (Nat.le_of_ble_eq_true rfl) (Nat.le_of_ble_eq_true rfl) (Nat.le_of_ble_eq_true rfl) (s_X9_addR (NL := []) G hs hcw hasR_nil (by decide) hr rfl e57 e58 (fun f2_z ho2 h112 hc2 => ?_))
    refine n_iconst dX9_grow_62 (by decide) (fun r62 e62 => ?_)
    refine r_istore2 dX9_grow_63 rfl ?_
    have lp : ∀ (mz : Nat) (c : Int32) (i : Nat) (d : Nat) (t : Nat) (f2_z : Nat → Nat → Int32), c.toInt = (i : Nat) → i = (levs L d).length + t → d ≤ 5 → (t < (levR L d).length ∨ t = (levR L d).length ∧ levR L (d + 1) = []) → ofW f f2_z a → ctWy f2_z a n ((levs L d ++ levR L d) ++ ((((levR L d).take t).flatMap chR).foldl insR [])) → 1025 - i < mz → zR (zV g 6 yX9_grow 3 none (0, 0) Q QX) cX9_grow yX9_grow.cls 64 [some (.ref a), some (.ref q), some (.int c)] [] (zM w f2_z j) (0, 0) := by
      intro mz
      induction mz with
      | zero =>
        intro c i d t f2_z hc_z hi_z hd_z ht ho hwy hmz
        exact absurd hmz (Nat.not_lt_zero _)
      | succ mz ih =>
        intro c i d t f2_z hc_z hi_z hd_z ht ho hwy hmz
        have hwa := hwy.1.1
        have hw3 := hwy.1.2.2.1
        have hsz := hwa
        rw [List.length_append, List.length_append] at hwa hw3
        rcases ht with ht | ⟨ht, hemp⟩
        · obtain ⟨z, hz⟩ : ∃ z, (levR L d)[t]? = some z := ⟨_, List.getElem?_eq_getElem ht⟩
          have hzm := List.mem_of_getElem? hz
          have hrow := lev_row z hzm
          have hAz : (levs L d ++ levR L d)[i]? = some z := by rw [hi_z, List.getElem?_append_right (by omega), show (levs L d).length + t - (levs L d).length = t by omega]; exact hz
          have hwz := lev_wid z hzm
          have hL6 := hcell.2.2.2.2
          obtain ⟨K, hcap, hKl⟩ := levs_cap hr (d := d + 1) (by omega)
          rw [levs_succ] at hcap
          have hKB : ∀ y ∈ ((((levR L d).take t).flatMap chR).foldl insR []), K y.1 := by
            intro y hy
            have h1 : hasR ((levR L d).flatMap chR) y.1 := by
              rcases foldR_keys.mp ⟨y, hy, rfl⟩ with h2 | ⟨u, h3, h4⟩
              · exact absurd h2 hasR_nil
              · obtain ⟨u2, h5, h6⟩ := List.mem_flatMap.mp h3
                exact ⟨u, List.mem_flatMap.mpr ⟨u2, List.mem_of_mem_take h5, h6⟩, h4⟩
            have h2 : hasR (levR L (d + 1)) y.1 := foldR_keys.mpr (Or.inr h1)
            obtain ⟨u, h3, h4⟩ := h2
            rw [← h4]
            exact hKl u h3
          have hKz : ∀ i way, i + 1 < z.1.length → way < 4 → K (lyFold z.1 (i + 1) way) := by
            intro i2_z way h1 h2
            have h3 : hasR (levR L (d + 1)) (lyFold z.1 (i2_z + 1) way) := foldR_keys.mpr (Or.inr ⟨kX z i2_z way, List.mem_flatMap.mpr ⟨z, hzm, ?_⟩, rfl⟩)
            · obtain ⟨u, h4, h5⟩ := h3
              rw [← h5]
              exact hKl u h4
            · rw [chR_x]
              unfold xP
              exact List.mem_append_left _ (List.mem_flatMap.mpr ⟨i2_z, List.mem_range.mpr (by omega), List.mem_map.mpr ⟨way, List.mem_range.mpr h2, rfl⟩⟩)
          have hsum : sumR allL ((((levR L d).take t).flatMap chR).foldl insR []) + 20 * z.2.2 < 2147483648 := by
            have h1 := lev_sum hr (d := d)
            have h2 : 20 ^ d ≤ 20 ^ 5 := Nat.pow_le_pow_right (by decide) hd_z
            have h3 := sum_mem hzm
            have h4 := sum_flat (X := (levR L d).take t) (fun y hy => by have h5 := lev_wid y (List.mem_of_mem_take hy); omega)
            have h5 : sumR allL ((levR L d).take t) + sumR allL ((levR L d).drop t) = sumR allL (levR L d) := by rw [← sum_app, List.take_append_drop]
            rw [sumR_fold]
            have e : sumR allL [] = 0 := rfl
            have e2_z : (20 : Nat) ^ 5 = 3200000 := rfl
            omega
          have hBlen : ∀ y ∈ ((((levR L d).take t).flatMap chR).foldl insR []), y.2.1.length = z.2.1.length + 1 := by
            refine fold_row (p := fun r => r.length = z.2.1.length + 1) (fun y hy => absurd hy List.not_mem_nil) (fun y hy => ?_)
            obtain ⟨u, h1, h2⟩ := List.mem_flatMap.mp hy
            obtain ⟨i2_z, way, -, -, rfl⟩ := ch_mem h2
            show (u.2.1 ++ [_]).length = _
            rw [List.length_append, lev_row u (List.mem_of_mem_take h1), hrow]
            rfl
          have hAlen : ∀ y ∈ levs L d ++ levR L d, y.2.1.length ≤ z.2.1.length := by
            intro y hy
            rw [hrow]
            rcases List.mem_append.mp hy with h1 | h1
            · unfold levs at h1
              obtain ⟨k, h2, h3⟩ := List.mem_flatMap.mp h1
              have := List.mem_range.mp h2
              rw [lev_row y h3]
              omega
            · rw [lev_row y h1]; exact Nat.le_refl _
          have hnx : (chR z).foldl insR ((((levR L d).take t).flatMap chR).foldl insR []) = (((levR L d).take (t + 1)).flatMap chR).foldl insR [] := by rw [take_snoc hz, List.flatMap_append, List.foldl_append, List.flatMap_cons, List.flatMap_nil, List.append_nil]
          refine r_iload2 dX9_grow_64 ?_
          refine r_aloadR0 dX9_grow_65 ?_
          refine m_getV (x := (f2_z a 12)) zf_RX9_53 rfl dX9_grow_66 (shWy_k hs) (rfl) ?_
          refine t_icge (t := 90) dX9_grow_69 (by decide) (fun h69 => False.elim (by omega)) (fun h69 => ?_)
          refine r_iload2 dX9_grow_72 ?_
          refine n_sipush dX9_grow_73 (by decide) (fun r73 e73 => ?_)
          refine t_icge (t := 90) dX9_grow_76 (by decide) (fun h76 => False.elim (by omega)) (fun h76 => ?_)
          refine r_aloadR0 dX9_grow_79 ?_
          refine r_iload2 dX9_grow_80 ?_
          refine q_callV1 zm_RX9_76 dX9_grow_81 (shWy_k hs) (by decide) rfl (Nat.le_of_ble_eq_true rfl) (Nat.le_of_ble_eq_true rfl) (Nat.le_of_ble_eq_true rfl) (Nat.le_of_ble_eq_true rfl) (Nat.le_of_ble_eq_true rfl) (s_X9_growFrom (A := levs L d ++ levR L d) (z := z) (q := i) (K := K) G hs hwy hAz (by omega) hAlen hBlen (distR_fold distR_nil) (fun B2 h1 h2 => by have := hcap B2 h1 h2; omega) hKB hKz hsum (by omega) (fun f3_z ho2 h113 hc3 => ?_))
          refine n_iinc2 dX9_grow_84 (by decide) rfl (by omega) (fun r84 e84 => ?_)
          refine r_goto (t := 64) dX9_grow_87 (by decide) ?_
          rw [hnx] at hc3
          have ho3 := ofW_tr ho ho2
          rcases Nat.lt_or_ge (t + 1) (levR L d).length with h9 | h9
          · exact ih _ (i + 1) d (t + 1) f3_z (by omega) (by omega) hd_z (Or.inl h9) ho3 hc3 (by omega)
          · have hfull : (levR L d).take (t + 1) = levR L d := List.take_of_length_le h9
            by_cases hemp : levR L (d + 1) = []
            · exact ih _ (i + 1) d (t + 1) f3_z (by omega) (by omega) hd_z (Or.inr ⟨by omega, hemp⟩) ho3 hc3 (by omega)
            · rw [hfull] at hc3
              have hpos : 0 < (levR L (d + 1)).length := List.length_pos_iff.mpr hemp
              have hd4 : d + 1 ≤ 5 := by
                obtain ⟨u, hu⟩ := List.exists_mem_of_ne_nil _ hemp
                have h1 := lev_wid u hu
                have h2 := lev_one u hu
                omega
              have hc4 : ctWy f3_z a n ((levs L (d + 1) ++ levR L (d + 1)) ++ ((((levR L (d + 1)).take 0).flatMap chR).foldl insR [])) := by
                rw [levs_succ, List.take_zero]
                show ctWy f3_z a n (levs L d ++ levR L d ++ levR L (d + 1) ++ [])
                rw [List.append_nil]
                exact hc3
              exact ih _ (i + 1) (d + 1) 0 f3_z (by omega) (by rw [levs_succ, List.length_append]; omega) hd4 (Or.inl hpos) ho3 hc4 (by omega)
        · have hfull : (levR L d).take t = levR L d := List.take_of_length_le (by omega)
          have hend : ((((levR L d).take t).flatMap chR).foldl insR []) = [] := by rw [hfull]; exact hemp
          rw [hend, List.append_nil, ← levs_succ, ← nodes_of hemp (by omega)] at hwy
          have hlb : (levs L d ++ levR L d).length = i := by rw [List.length_append]; omega
          have hzl : ((((levR L d).take t).flatMap chR).foldl insR []).length = 0 := by rw [hend]; rfl
          refine r_iload2 dX9_grow_64 ?_
          refine r_aloadR0 dX9_grow_65 ?_
          refine m_getV (x := (f2_z a 12)) zf_RX9_53 rfl dX9_grow_66 (shWy_k hs) (rfl) ?_
          refine t_icge (t := 90) dX9_grow_69 (by decide) (fun h69 => ?_) (fun h69 => False.elim (by omega))
          refine r_vret dX9_grow_90 rfl (Nat.le_of_ble_eq_true rfl) (Nat.le_of_ble_eq_true rfl) ?_
          exact hQ f2_z ho hwy
    have hc3 : ctWy f2_z a n ((levs L 0 ++ levR L 0) ++ ((((levR L 0).take 0).flatMap chR).foldl insR [])) := hc2
    exact lp 1026 _ 0 0 0 f2_z e62 rfl (by decide) (Or.inl (show 0 < 1 by decide)) (ofW_tr hof1 (ofA_W ho2)) hc3 (by omega)
  refine r_aloadR0 dX9_grow_0 ?_
  refine m_getV (x := (f a 12)) zf_RX9_53 rfl dX9_grow_1 (shWy_k hs) (rfl) ?_
  refine t_ifle (t := 31) dX9_grow_4 (by decide) (fun h4 => ?_) (fun h4 => ?_)
  · exact fresh _
  · refine r_aloadR0 dX9_grow_7 ?_
    refine m_getV (x := (f a 11)) zf_RX9_49 rfl dX9_grow_8 (shWy_k hs) (rfl) ?_
    refine r_aloadR1 dX9_grow_11 ?_
    refine q_callV0 zm_RX9_56 dX9_grow_12 (shLay_k hsq) (by decide) rfl (Nat.le_of_ble_eq_true rfl) (Nat.le_of_ble_eq_true rfl) (Nat.le_of_ble_eq_true rfl) (Nat.le_of_ble_eq_true rfl) (Nat.le_of_ble_eq_true rfl) (s_X2_cells (w := zM w f j) (L := L) G hsq hcq ?_)
    rw [hlen]
    refine t_icne (t := 31) dX9_grow_15 (by decide) (fun h15 => ?_) (fun h15 => ?_)
    · exact fresh _
    · refine r_aloadR0 dX9_grow_18 ?_
      refine n_iconst dX9_grow_19 (by decide) (fun r19 e19_z => ?_)
      refine q_callV1 zm_RX9_59 dX9_grow_20 (shWy_k hs) (by decide) rfl (Nat.le_of_ble_eq_true rfl) (Nat.le_of_ble_eq_true rfl) (Nat.le_of_ble_eq_true rfl) (Nat.le_of_ble_eq_true rfl) (Nat.le_of_ble_eq_true rfl) (s_X9_keyOf G hs e19_z (by decide) (fun r20 e20 => ?_))
      refine r_aloadR1 dX9_grow_23 ?_
      refine q_callV0 zm_RX9_63 dX9_grow_24 (shLay_k hsq) (by decide) rfl (Nat.le_of_ble_eq_true rfl) (Nat.le_of_ble_eq_true rfl) (Nat.le_of_ble_eq_true rfl) (Nat.le_of_ble_eq_true rfl) (Nat.le_of_ble_eq_true rfl) (s_X2_key (w := zM w f j) (L := L) G hsq hcq ?_)
      refine t_icne (t := 31) dX9_grow_27 (by decide) (fun h27 => ?_) (fun h27 => ?_)
      · exact fresh _
      · refine r_vret dX9_grow_30 rfl (Nat.le_of_ble_eq_true rfl) (Nat.le_of_ble_eq_true rfl) ?_
        rcases hI with h0 | ⟨n2, L2, hr2, hc2⟩
        · exact absurd h0 (by omega)
        · have hnn : n2 = n := by have := hc2.1.2.1; omega
          subst hnn
          have hk0 := (hc2.2.1 0 _ nodes_0).1
          have hke : lyKey L2 = lyKey L := by rw [← hk0, ← e20]; exact zi_eq.mpr (by omega)
          have hLL := rch_inj hr2 hr hke
          subst hLL
          exact hQ f ofW_rf hc2
