/-! Ways: the cells, its small methods, its slots -/
def shWy (w : zW) (a : Nat) : Prop := zK w a = 9 ∧ (∀ k, k < 9 → zP w a k = some (a + 1 + k) ∧ zK w (a + 1 + k) = 21 ∧ zN w (a + 1 + k) = (if k = 8 then 2048 else 1024)) ∧ zP w a 9 = some (a + 10) ∧ zP w a 10 = some (a + 14) ∧ shLay w (a + 10) ∧ shLay w (a + 14)
theorem shWy_k {w : zW} {a : Nat} (h_z : shWy w a) : zK w a = 9 := h_z.1
theorem shWy_p10 {w : zW} {a : Nat} (h_z : shWy w a) : zP w a 9 = some (a + 10) := h_z.2.2.1
theorem shWy_p11 {w : zW} {a : Nat} (h_z : shWy w a) : zP w a 10 = some (a + 14) := h_z.2.2.2.1
theorem shWy_s {w : zW} {a : Nat} (h_z : shWy w a) : shLay w (a + 10) := h_z.2.2.2.2.1
theorem shWy_a {w : zW} {a : Nat} (h_z : shWy w a) : shLay w (a + 14) := h_z.2.2.2.2.2
theorem shWy_p1 {w : zW} {a : Nat} (h_z : shWy w a) : zP w a 0 = some (a + 1) := by
  have := (h_z.2.1 0 (by decide)).1
  rw [this]
theorem shWy_k1 {w : zW} {a : Nat} (h_z : shWy w a) : zK w (a + 1) = 21 := by
  have := (h_z.2.1 0 (by decide)).2.1
  rw [show a + 1 + 0 = a + 1 by omega] at this
  exact this
theorem shWy_n1 {w : zW} {a : Nat} (h_z : shWy w a) : zN w (a + 1) = 1024 := by
  have := (h_z.2.1 0 (by decide)).2.2
  rw [show a + 1 + 0 = a + 1 by omega] at this
  exact this
theorem shWy_p2 {w : zW} {a : Nat} (h_z : shWy w a) : zP w a 1 = some (a + 2) := by
  have := (h_z.2.1 1 (by decide)).1
  rw [this]
theorem shWy_k2 {w : zW} {a : Nat} (h_z : shWy w a) : zK w (a + 2) = 21 := by
  have := (h_z.2.1 1 (by decide)).2.1
  rw [show a + 1 + 1 = a + 2 by omega] at this
  exact this
theorem shWy_n2 {w : zW} {a : Nat} (h_z : shWy w a) : zN w (a + 2) = 1024 := by
  have := (h_z.2.1 1 (by decide)).2.2
  rw [show a + 1 + 1 = a + 2 by omega] at this
  exact this
theorem shWy_p3 {w : zW} {a : Nat} (h_z : shWy w a) : zP w a 2 = some (a + 3) := by
  have := (h_z.2.1 2 (by decide)).1
  rw [this]
theorem shWy_k3 {w : zW} {a : Nat} (h_z : shWy w a) : zK w (a + 3) = 21 := by
  have := (h_z.2.1 2 (by decide)).2.1
  rw [show a + 1 + 2 = a + 3 by omega] at this
  exact this
theorem shWy_n3 {w : zW} {a : Nat} (h_z : shWy w a) : zN w (a + 3) = 1024 := by
  have := (h_z.2.1 2 (by decide)).2.2
  rw [show a + 1 + 2 = a + 3 by omega] at this
  exact this
theorem shWy_p4 {w : zW} {a : Nat} (h_z : shWy w a) : zP w a 3 = some (a + 4) := by
  have := (h_z.2.1 3 (by decide)).1
  rw [this]
theorem shWy_k4 {w : zW} {a : Nat} (h_z : shWy w a) : zK w (a + 4) = 21 := by
  have := (h_z.2.1 3 (by decide)).2.1
  rw [show a + 1 + 3 = a + 4 by omega] at this
  exact this
theorem shWy_n4 {w : zW} {a : Nat} (h_z : shWy w a) : zN w (a + 4) = 1024 := by
  have := (h_z.2.1 3 (by decide)).2.2
  rw [show a + 1 + 3 = a + 4 by omega] at this
  exact this
theorem shWy_p5 {w : zW} {a : Nat} (h_z : shWy w a) : zP w a 4 = some (a + 5) := by
  have := (h_z.2.1 4 (by decide)).1
  rw [this]
theorem shWy_k5 {w : zW} {a : Nat} (h_z : shWy w a) : zK w (a + 5) = 21 := by
  have := (h_z.2.1 4 (by decide)).2.1
  rw [show a + 1 + 4 = a + 5 by omega] at this
  exact this
theorem shWy_n5 {w : zW} {a : Nat} (h_z : shWy w a) : zN w (a + 5) = 1024 := by
  have := (h_z.2.1 4 (by decide)).2.2
  rw [show a + 1 + 4 = a + 5 by omega] at this
  exact this
theorem shWy_p6 {w : zW} {a : Nat} (h_z : shWy w a) : zP w a 5 = some (a + 6) := by
  have := (h_z.2.1 5 (by decide)).1
  rw [this]
theorem shWy_k6 {w : zW} {a : Nat} (h_z : shWy w a) : zK w (a + 6) = 21 := by
  have := (h_z.2.1 5 (by decide)).2.1
  rw [show a + 1 + 5 = a + 6 by omega] at this
  exact this
theorem shWy_n6 {w : zW} {a : Nat} (h_z : shWy w a) : zN w (a + 6) = 1024 := by
  have := (h_z.2.1 5 (by decide)).2.2
  rw [show a + 1 + 5 = a + 6 by omega] at this
  exact this
theorem shWy_p7 {w : zW} {a : Nat} (h_z : shWy w a) : zP w a 6 = some (a + 7) := by
  have := (h_z.2.1 6 (by decide)).1
  rw [this]
theorem shWy_k7 {w : zW} {a : Nat} (h_z : shWy w a) : zK w (a + 7) = 21 := by
  have := (h_z.2.1 6 (by decide)).2.1
  rw [show a + 1 + 6 = a + 7 by omega] at this
  exact this
theorem shWy_n7 {w : zW} {a : Nat} (h_z : shWy w a) : zN w (a + 7) = 1024 := by
  have := (h_z.2.1 6 (by decide)).2.2
  rw [show a + 1 + 6 = a + 7 by omega] at this
  exact this
theorem shWy_p8 {w : zW} {a : Nat} (h_z : shWy w a) : zP w a 7 = some (a + 8) := by
  have := (h_z.2.1 7 (by decide)).1
  rw [this]
theorem shWy_k8 {w : zW} {a : Nat} (h_z : shWy w a) : zK w (a + 8) = 21 := by
  have := (h_z.2.1 7 (by decide)).2.1
  rw [show a + 1 + 7 = a + 8 by omega] at this
  exact this
theorem shWy_n8 {w : zW} {a : Nat} (h_z : shWy w a) : zN w (a + 8) = 1024 := by
  have := (h_z.2.1 7 (by decide)).2.2
  rw [show a + 1 + 7 = a + 8 by omega] at this
  exact this
theorem shWy_p9 {w : zW} {a : Nat} (h_z : shWy w a) : zP w a 8 = some (a + 9) := by
  have := (h_z.2.1 8 (by decide)).1
  rw [this]
theorem shWy_k9 {w : zW} {a : Nat} (h_z : shWy w a) : zK w (a + 9) = 21 := by
  have := (h_z.2.1 8 (by decide)).2.1
  rw [show a + 1 + 8 = a + 9 by omega] at this
  exact this
theorem shWy_n9 {w : zW} {a : Nat} (h_z : shWy w a) : zN w (a + 9) = 2048 := by
  have := (h_z.2.1 8 (by decide)).2.2
  rw [show a + 1 + 8 = a + 9 by omega] at this
  exact this
def isF (NL : List zRw) (L : zLy) (i : Nat) : Prop := ∃ y, NL[i]? = some y ∧ y.1 = L ∧ ∀ k z, k < i → NL[k]? = some z → z.1 ≠ L
def isL (NL : List zRw) (L : zLy) (i : Nat) : Prop := ∃ y, NL[i]? = some y ∧ y.1 = L ∧ ∀ k z, i < k → NL[k]? = some z → z.1 ≠ L
theorem isF_uni {NL : List zRw} {L : zLy} {i k : Nat} (h_z : isF NL L i) (h2 : isF NL L k) : i = k := by
  obtain ⟨y, a1, a2, a3⟩ := h_z
  obtain ⟨z, b1, b2, b3⟩ := h2
  rcases Nat.lt_trichotomy i k with e | e | e
  · exact absurd a2 (b3 i y e a1)
  · exact e
  · exact absurd b2 (a3 k z e b1)
theorem isF_ex {NL : List zRw} {L : zLy} (h_z : hasR NL L) : ∃ i, isF NL L i := by
  induction NL with
  | nil => exact absurd h_z hasR_nil
  | cons y t ih =>
    by_cases e : y.1 = L
    · exact ⟨0, y, rfl, e, fun k z hk => absurd hk (by omega)⟩
    · obtain ⟨i, z, a1, a2, a3⟩ := ih ((hasR_cons.mp h_z).resolve_left e)
      refine ⟨i + 1, z, by simpa using a1, a2, fun k u hk hu => ?_⟩
      cases k with
      | zero => simp at hu; rw [← hu]; exact e
      | succ k => exact a3 k u (by omega) (by simpa using hu)
def hsW (x : Int32) : Nat := (((x * (-1640531535 : Int32)).toUInt32 >>> ((21 : Int32).toUInt32 &&& Int32.toUInt32 31)).toInt32).toInt.toNat
theorem hsW_v {y : Int32} : 0 ≤ ((y.toUInt32 >>> ((21 : Int32).toUInt32 &&& Int32.toUInt32 31)).toInt32).toInt ∧ ((y.toUInt32 >>> ((21 : Int32).toUInt32 &&& Int32.toUInt32 31)).toInt32).toInt < 2048 := by
  have e0_z : ((21 : Int32).toUInt32 &&& Int32.toUInt32 31) = (21 : UInt32) := by decide
  rw [e0_z]
  have h1 : (y.toUInt32 >>> (21 : UInt32)).toNat = y.toUInt32.toNat / 2 ^ 21 := by
    rw [UInt32.toNat_shiftRight]
    show y.toUInt32.toNat >>> (21 % 32) = _
    rw [Nat.shiftRight_eq_div_pow]
  have h2 : y.toUInt32.toNat < 2 ^ 32 := UInt32.toNat_lt _
  have h3 : (y.toUInt32 >>> (21 : UInt32)).toNat < 2048 := by omega
  have h4 : ((y.toUInt32 >>> (21 : UInt32)).toInt32).toInt = ((y.toUInt32 >>> (21 : UInt32)).toNat : Int) := by
    show (y.toUInt32 >>> (21 : UInt32)).toBitVec.toInt = _
    rw [BitVec.toInt_eq_toNat_of_lt]
    · rfl
    · show 2 * (y.toUInt32 >>> (21 : UInt32)).toNat < 2 ^ 32
      omega
  rw [h4]
  omega
theorem hsW_s (x : Int32) : (((x * (-1640531535 : Int32)).toUInt32 >>> ((21 : Int32).toUInt32 &&& Int32.toUInt32 31)).toInt32).toInt = ((hsW x : Nat) : Int) ∧ hsW x < 2048 := by
  have h_z := hsW_v (y := x * (-1640531535 : Int32))
  unfold hsW
  generalize (((x * (-1640531535 : Int32)).toUInt32 >>> ((21 : Int32).toUInt32 &&& Int32.toUInt32 31)).toInt32).toInt = z at h_z ⊢
  omega
theorem and2047 : ∀ t, t < 2049 → ((nI t) &&& (2047 : Int32)).toInt = ((t % 2048 : Nat) : Int) := by decide +kernel
theorem and2047_of {x y : Int32} {t : Nat} (hx : x.toInt = (t : Nat)) (ht : t < 2049) (hy : y.toInt = 2047) : (x &&& y).toInt = ((t % 2048 : Nat) : Int) := by
  have e1_z : y = 2047 := zi_eq.mpr (hy.trans rfl)
  rw [e1_z, zi_of hx (by omega)]
  exact and2047 t ht
def wyA (f : Nat → Nat → Int32) (a n : Nat) (NL : List zRw) : Prop := (f a 12).toInt = (NL.length : Nat) ∧ (f a 11).toInt = (n : Nat) ∧ NL.length ≤ 1024 ∧ n ≤ 6
def wyN (f : Nat → Nat → Int32) (a : Nat) (NL : List zRw) : Prop := ∀ (i : Nat) (y : zRw), NL[i]? = some y → f (a + 1) i = lyKey y.1 ∧ (f (a + 4) i).toInt = (y.2.1.length : Nat) ∧ (f (a + 5) i).toInt = (y.2.2 : Nat) ∧ (y.2.1 = [] ∧ (f (a + 2) i).toInt = -1 ∧ (f (a + 3) i).toInt = -1 ∨ ∃ (q : Nat) (z : zRw) (d : Nat), NL[q]? = some z ∧ q < i ∧ y.2.1 = z.2.1 ++ [d] ∧ (f (a + 2) i).toInt = (q : Nat) ∧ (f (a + 3) i).toInt = (d : Nat))
def wyF (f : Nat → Nat → Int32) (a : Nat) (NL : List zRw) : Prop := (∀ (i : Nat) (y : zRw), NL[i]? = some y → ∃ p : Nat, (f (a + 6) i).toInt = (p : Nat) ∧ isF NL y.1 p) ∧ ∀ (i : Nat) (L : zLy), isF NL L i → ∃ p : Nat, (f (a + 7) i).toInt = (p : Nat) ∧ isL NL L p
/-- the slots: each first node of a look at a place that is found from its key's number on -/
def wyS (g : Nat → Int32) (NL : List zRw) : Prop := (∀ p, p < 2048 → (g p).toInt = -1 ∨ ∃ (i : Nat) (L : zLy), (g p).toInt = (i : Nat) ∧ isF NL L i) ∧ (∀ (i : Nat) (L : zLy), isF NL L i → ∃ t, t < 2048 ∧ (g ((hsW (lyKey L) + t) % 2048)).toInt = (i : Nat) ∧ ∀ s, s < t → (g ((hsW (lyKey L) + s) % 2048)).toInt ≠ -1) ∧ ∃ occ : List Nat, occ.length ≤ NL.length ∧ ∀ p, p < 2048 → (g p).toInt ≠ -1 → p ∈ occ
def ctWy (f : Nat → Nat → Int32) (a n : Nat) (NL : List zRw) : Prop := wyA f a n NL ∧ wyN f a NL ∧ wyF f a NL ∧ wyS (f (a + 9)) NL ∧ ∀ y ∈ NL, rch n y.1
theorem pigeon : ∀ (n : Nat) (l : List Nat), (∀ i, i < n → i ∈ l) → n ≤ l.length := by
  intro n
  induction n with
  | zero => exact fun _ _ => Nat.zero_le _
  | succ n ih =>
    intro l h_z
    have h1 := ih (l.erase n) (fun i hi_z => (List.mem_erase_of_ne (by omega)).mpr (h_z i (by omega)))
    have h2 := List.length_erase_of_mem (h_z n (by omega))
    have h3 := List.length_pos_of_mem (h_z n (by omega))
    omega
/-- a free place from s on -/
theorem free_at {g : Nat → Int32} {N : Nat} {occ : List Nat} (s : Nat) (hN_z : 0 < N) (hl : occ.length < N) (h_z : ∀ p, p < N → (g p).toInt ≠ -1 → p ∈ occ) : ∃ t, t < N ∧ (g ((s + t) % N)).toInt = -1 := by
  by_cases hc_z : ∃ t, t < N ∧ (g ((s + t) % N)).toInt = -1
  · exact hc_z
  · exfalso
    have h1 : ∀ i, i < N → i ∈ occ := by
      intro i hi_z
      refine h_z i hi_z (fun e => hc_z ⟨(i + (N - s % N)) % N, Nat.mod_lt _ hN_z, ?_⟩)
      have hm_z : s % N < N := Nat.mod_lt _ hN_z
      have e2_z : (s + (i + (N - s % N)) % N) % N = i := by
        rw [Nat.add_mod, Nat.mod_mod, ← Nat.add_mod]
        have h5 := Nat.div_add_mod s N
        rw [show s + (i + (N - s % N)) = i + N * (s / N + 1) by rw [Nat.mul_add, Nat.mul_one]; omega, Nat.add_mul_mod_self_left, Nat.mod_eq_of_lt hi_z]
      rw [e2_z]
      exact e
    have := pigeon N occ h1
    omega
set_option maxHeartbeats 4000000 in
set_option maxRecDepth 100000 in
theorem s_X9_valueAt {g : zGT} {w : zW} {f : Nat → Nat → Int32} {j : Nat → Nat → Int64} {q m : Nat} {x : Int32} {Q : Option Value → zW → Prop} {QX : String → zW → Prop} (G : zGok g) (hqk : zK w q = 21) (hqn : zN w q = m) (hm_z : m < 2147483648) (hQ : ∀ r : Int32, (0 ≤ x.toInt ∧ x.toInt < (m : Nat) ∧ r = f q x.toInt.toNat ∨ ¬ (0 ≤ x.toInt ∧ x.toInt < (m : Nat)) ∧ r.toInt = -1) → Q (some (.int r)) (zM w f j)) : zC g 1 yX9_valueAt cX9_valueAt 2 (some .int) [.ref q, .int x] (zM w f j) (0, 0) Q QX := by
  refine zC_of G (by decide +kernel) (Nat.le_of_ble_eq_true rfl) ?_
  refine r_iload1 dX9_valueAt_0 ?_
  refine t_iflt (t := 16) dX9_valueAt_1 (by decide) (fun h1 => ?_) (fun h1 => ?_)
  · refine n_iconst dX9_valueAt_16 (by decide) (fun r16 e16_z => ?_)
    refine r_iret dX9_valueAt_17 rfl (Nat.le_of_ble_eq_true rfl) (Nat.le_of_ble_eq_true rfl) ?_
    first
      | exact hQ _ (Or.inl ⟨by omega, by omega, rfl⟩)
      | exact hQ _ (Or.inr ⟨by omega, by omega⟩)
  · refine r_iload1 dX9_valueAt_4 ?_
    refine r_aloadR0 dX9_valueAt_5 ?_
    refine m_alen dX9_valueAt_6 (zge hqk (by decide)) hqn (by first | decide | omega) (fun r6 e6_z => ?_)
    refine t_icge (t := 16) dX9_valueAt_7 (by decide) (fun h7 => ?_) (fun h7 => ?_)
    · refine n_iconst dX9_valueAt_16 (by decide) (fun r16 e16_z => ?_)
      refine r_iret dX9_valueAt_17 rfl (Nat.le_of_ble_eq_true rfl) (Nat.le_of_ble_eq_true rfl) ?_
      first
        | exact hQ _ (Or.inl ⟨by omega, by omega, rfl⟩)
        | exact hQ _ (Or.inr ⟨by omega, by omega⟩)
    · refine r_aloadR0 dX9_valueAt_10 ?_
      refine r_iload1 dX9_valueAt_11 ?_
      refine m_iald (k := x.toInt.toNat) (x := (f q x.toInt.toNat)) dX9_valueAt_12 hqk hqn (by omega) (by omega) (rfl) ?_
      refine r_goto (t := 17) dX9_valueAt_13 (by decide) ?_
      refine r_iret dX9_valueAt_17 rfl (Nat.le_of_ble_eq_true rfl) (Nat.le_of_ble_eq_true rfl) ?_
      first
        | exact hQ _ (Or.inl ⟨by omega, by omega, rfl⟩)
        | exact hQ _ (Or.inr ⟨by omega, by omega⟩)
set_option maxHeartbeats 4000000 in
set_option maxRecDepth 100000 in
theorem s_X9_put {g : zGT} {w : zW} {f : Nat → Nat → Int32} {j : Nat → Nat → Int64} {q m k : Nat} {x y : Int32} {Q : Option Value → zW → Prop} {QX : String → zW → Prop} (G : zGok g) (hqk : zK w q = 21) (hqn : zN w q = m) (hm_z : m < 2147483648) (hx : x.toInt = (k : Nat)) (hk : k < m) (hQ : ∀ f2_z, f2_z = zu f q k y → Q none (zM w f2_z j)) : zC g 1 yX9_put cX9_put 3 none [.ref q, .int x, .int y] (zM w f j) (0, 0) Q QX := by
  refine zC_of G (by decide +kernel) (Nat.le_of_ble_eq_true rfl) ?_
  refine r_iload1 dX9_put_0 ?_
  refine t_iflt (t := 14) dX9_put_1 (by decide) (fun h1 => False.elim (by omega)) (fun h1 => ?_)
  refine r_iload1 dX9_put_4 ?_
  refine r_aloadR0 dX9_put_5 ?_
  refine m_alen dX9_put_6 (zge hqk (by decide)) hqn (by first | decide | omega) (fun r6 e6_z => ?_)
  refine t_icge (t := 14) dX9_put_7 (by decide) (fun h7 => False.elim (by omega)) (fun h7 => ?_)
  refine r_aloadR0 dX9_put_10 ?_
  refine r_iload1 dX9_put_11 ?_
  refine r_iload2 dX9_put_12 ?_
  refine m_iast (k := k) dX9_put_13 hqk hqn (by omega) (by omega) ?_
  refine r_vret dX9_put_14 rfl (Nat.le_of_ble_eq_true rfl) (Nat.le_of_ble_eq_true rfl) ?_
  exact hQ _ rfl
set_option maxHeartbeats 4000000 in
set_option maxRecDepth 100000 in
theorem s_X9_keyOf {g : zGT} {w : zW} {f : Nat → Nat → Int32} {j : Nat → Nat → Int64} {a : Nat} {k : Nat} {x : Int32} {Q : Option Value → zW → Prop} {QX : String → zW → Prop} (G : zGok g) (hs : shWy w a) (hx : x.toInt = (k : Nat)) (hk : k < 1024) (hQ : ∀ r : Int32, r = f (a + 1) k → Q (some (.int r)) (zM w f j)) : zC g 2 yX9_keyOf cX9_keyOf 2 (some .int) [.ref a, .int x] (zM w f j) (0, 0) Q QX := by
  refine zC_of G (by decide +kernel) (Nat.le_of_ble_eq_true rfl) ?_
  refine r_aloadR0 dX9_keyOf_0 ?_
  refine m_getR (q := (a + 1)) zf_RX9_11 rfl dX9_keyOf_1 (shWy_k hs) (shWy_p1 hs) ?_
  refine r_iload1 dX9_keyOf_4 ?_
  refine q_callS2 zm_RX9_94 dX9_keyOf_5 (Nat.le_of_ble_eq_true rfl) (Nat.le_of_ble_eq_true rfl) (Nat.le_of_ble_eq_true rfl) (Nat.le_of_ble_eq_true rfl) (Nat.le_of_ble_eq_true rfl) (s_X9_valueAt G (shWy_k1 hs) (shWy_n1 hs) (by decide) (fun r5 e5_z => ?_))
  refine r_iret dX9_keyOf_8 rfl (Nat.le_of_ble_eq_true rfl) (Nat.le_of_ble_eq_true rfl) ?_
  rcases e5_z with ⟨p1, p2, p3⟩ | ⟨p1, p2⟩
  · exact hQ _ (by rw [p3, show x.toInt.toNat = k by omega])
  · exact absurd ⟨by omega, by omega⟩ p1
set_option maxHeartbeats 4000000 in
set_option maxRecDepth 100000 in
theorem s_X9_depthOf {g : zGT} {w : zW} {f : Nat → Nat → Int32} {j : Nat → Nat → Int64} {a : Nat} {k : Nat} {x : Int32} {Q : Option Value → zW → Prop} {QX : String → zW → Prop} (G : zGok g) (hs : shWy w a) (hx : x.toInt = (k : Nat)) (hk : k < 1024) (hQ : ∀ r : Int32, r = f (a + 4) k → Q (some (.int r)) (zM w f j)) : zC g 2 yX9_depthOf cX9_depthOf 2 (some .int) [.ref a, .int x] (zM w f j) (0, 0) Q QX := by
  refine zC_of G (by decide +kernel) (Nat.le_of_ble_eq_true rfl) ?_
  refine r_aloadR0 dX9_depthOf_0 ?_
  refine m_getR (q := (a + 4)) zf_RX9_21 rfl dX9_depthOf_1 (shWy_k hs) (shWy_p4 hs) ?_
  refine r_iload1 dX9_depthOf_4 ?_
  refine q_callS2 zm_RX9_94 dX9_depthOf_5 (Nat.le_of_ble_eq_true rfl) (Nat.le_of_ble_eq_true rfl) (Nat.le_of_ble_eq_true rfl) (Nat.le_of_ble_eq_true rfl) (Nat.le_of_ble_eq_true rfl) (s_X9_valueAt G (shWy_k4 hs) (shWy_n4 hs) (by decide) (fun r5 e5_z => ?_))
  refine r_iret dX9_depthOf_8 rfl (Nat.le_of_ble_eq_true rfl) (Nat.le_of_ble_eq_true rfl) ?_
  rcases e5_z with ⟨p1, p2, p3⟩ | ⟨p1, p2⟩
  · exact hQ _ (by rw [p3, show x.toInt.toNat = k by omega])
  · exact absurd ⟨by omega, by omega⟩ p1
set_option maxHeartbeats 4000000 in
set_option maxRecDepth 100000 in
theorem s_X9_rowsTo {g : zGT} {w : zW} {f : Nat → Nat → Int32} {j : Nat → Nat → Int64} {a : Nat} {k : Nat} {x : Int32} {Q : Option Value → zW → Prop} {QX : String → zW → Prop} (G : zGok g) (hs : shWy w a) (hx : x.toInt = (k : Nat)) (hk : k < 1024) (hQ : ∀ r : Int32, r = f (a + 5) k → Q (some (.int r)) (zM w f j)) : zC g 2 yX9_rowsTo cX9_rowsTo 2 (some .int) [.ref a, .int x] (zM w f j) (0, 0) Q QX := by
  refine zC_of G (by decide +kernel) (Nat.le_of_ble_eq_true rfl) ?_
  refine r_aloadR0 dX9_rowsTo_0 ?_
  refine m_getR (q := (a + 5)) zf_RX9_24 rfl dX9_rowsTo_1 (shWy_k hs) (shWy_p5 hs) ?_
  refine r_iload1 dX9_rowsTo_4 ?_
  refine q_callS2 zm_RX9_94 dX9_rowsTo_5 (Nat.le_of_ble_eq_true rfl) (Nat.le_of_ble_eq_true rfl) (Nat.le_of_ble_eq_true rfl) (Nat.le_of_ble_eq_true rfl) (Nat.le_of_ble_eq_true rfl) (s_X9_valueAt G (shWy_k5 hs) (shWy_n5 hs) (by decide) (fun r5 e5_z => ?_))
  refine r_iret dX9_rowsTo_8 rfl (Nat.le_of_ble_eq_true rfl) (Nat.le_of_ble_eq_true rfl) ?_
  rcases e5_z with ⟨p1, p2, p3⟩ | ⟨p1, p2⟩
  · exact hQ _ (by rw [p3, show x.toInt.toNat = k by omega])
  · exact absurd ⟨by omega, by omega⟩ p1
set_option maxHeartbeats 4000000 in
set_option maxRecDepth 100000 in
theorem s_X9_depthOfN {g : zGT} {w : zW} {f : Nat → Nat → Int32} {j : Nat → Nat → Int64} {a : Nat} {x : Int32} {Q : Option Value → zW → Prop} {QX : String → zW → Prop} (G : zGok g) (hs : shWy w a) (hx : x.toInt = -1) (hQ : ∀ r : Int32, r.toInt = -1 → Q (some (.int r)) (zM w f j)) : zC g 2 yX9_depthOf cX9_depthOf 2 (some .int) [.ref a, .int x] (zM w f j) (0, 0) Q QX := by
  refine zC_of G (by decide +kernel) (Nat.le_of_ble_eq_true rfl) ?_
  refine r_aloadR0 dX9_depthOf_0 ?_
  refine m_getR (q := (a + 4)) zf_RX9_21 rfl dX9_depthOf_1 (shWy_k hs) (shWy_p4 hs) ?_
  refine r_iload1 dX9_depthOf_4 ?_
  refine q_callS2 zm_RX9_94 dX9_depthOf_5 (Nat.le_of_ble_eq_true rfl) (Nat.le_of_ble_eq_true rfl) (Nat.le_of_ble_eq_true rfl) (Nat.le_of_ble_eq_true rfl) (Nat.le_of_ble_eq_true rfl) (s_X9_valueAt G (shWy_k4 hs) (shWy_n4 hs) (by decide) (fun r5 e5_z => ?_))
  refine r_iret dX9_depthOf_8 rfl (Nat.le_of_ble_eq_true rfl) (Nat.le_of_ble_eq_true rfl) ?_
  exact hQ _ (by omega)
set_option maxHeartbeats 4000000 in
set_option maxRecDepth 100000 in
theorem s_X9_layOf {g : zGT} {w : zW} {f : Nat → Nat → Int32} {j : Nat → Nat → Int64} {a : Nat} {n k : Nat} {x : Int32} {NL : List zRw} {y : zRw} {Q : Option Value → zW → Prop} {QX : String → zW → Prop} (G : zGok g) (hs : shWy w a) (hc_z : ctWy f a n NL) (hx : x.toInt = (k : Nat)) (hk : NL[k]? = some y) (hQ : ∀ f2_z, ofLay f f2_z (a + 10) → ctLay f2_z (a + 10) y.1 [] → Q (some (.ref (a + 10))) (zM w f2_z j)) : zC g 3 yX9_layOf cX9_layOf 2 (some (.object "NapkinDeeds$Lay")) [.ref a, .int x] (zM w f j) (0, 0) Q QX := by
  refine zC_of G (by decide +kernel) (Nat.le_of_ble_eq_true rfl) ?_
  obtain ⟨⟨a1, a2, a3, a4⟩, hN_z, hF, hS_z, hR⟩ := hc_z
  have hkl := (List.getElem?_eq_some_iff.mp hk).1
  obtain ⟨n1, n2, n3, n4⟩ := hN_z k y hk
  have hr := hR y (List.mem_of_getElem? hk)
  have huk := rch_key hr
  refine r_aloadR0 dX9_layOf_0 ?_
  refine m_getR (q := (a + 10)) zf_RX9_42 rfl dX9_layOf_1 (shWy_k hs) (shWy_p10 hs) ?_
  refine r_aloadR0 dX9_layOf_4 ?_
  refine r_iload1 dX9_layOf_5 ?_
  refine q_callV1 zm_RX9_59 dX9_layOf_6 (shWy_k hs) (by decide) rfl (Nat.le_of_ble_eq_true rfl) (Nat.le_of_ble_eq_true rfl) (Nat.le_of_ble_eq_true rfl) (Nat.le_of_ble_eq_true rfl) (Nat.le_of_ble_eq_true rfl) (s_X9_keyOf G hs hx (by omega) (fun r6 e6_z => ?_))
  refine r_aloadR0 dX9_layOf_9 ?_
  refine m_getV (x := (f a 11)) zf_RX9_49 rfl dX9_layOf_10 (shWy_k hs) (rfl) ?_
  refine q_callV2 zm_RX9_109 dX9_layOf_13 (shLay_k (shWy_s hs)) (by decide) rfl (Nat.le_of_ble_eq_true rfl) (Nat.le_of_ble_eq_true rfl) (Nat.le_of_ble_eq_true rfl) (Nat.le_of_ble_eq_true rfl) (Nat.le_of_ble_eq_true rfl) (s_X2_takeKey (w := zM w f j) (n := n) G (shWy_s hs) (by omega) (zi_of a2 (by omega)) (fun f2_z ho2 hc2 => ?_))
  show zR _ _ _ _ _ _ (zM w f2_z j) _
  rw [e6_z, n1, huk] at hc2
  refine r_aloadR0 dX9_layOf_16 ?_
  refine m_getR (q := (a + 10)) zf_RX9_42 rfl dX9_layOf_17 (shWy_k hs) (shWy_p10 hs) ?_
  refine r_aret dX9_layOf_20 rfl (by first | exact Or.inl ⟨_, rfl⟩ | exact Or.inr ⟨_, rfl⟩) (by first | exact zrf_r | exact zrf_o | exact zrf_n) (Nat.le_of_ble_eq_true rfl) (Nat.le_of_ble_eq_true rfl) ?_
  exact hQ f2_z ho2 hc2
theorem wy_par {f : Nat → Nat → Int32} {a : Nat} {NL : List zRw} (h_z : wyN f a NL) {k : Nat} {y : zRw} (hk : NL[k]? = some y) (hne : y.2.1 ≠ []) : ∃ (q : Nat) (z : zRw) (d : Nat), NL[q]? = some z ∧ q < k ∧ y.2.1 = z.2.1 ++ [d] ∧ (f (a + 2) k).toInt = (q : Nat) ∧ (f (a + 3) k).toInt = (d : Nat) := by
  obtain ⟨n1, n2, n3, n4⟩ := h_z k y hk
  exact n4.resolve_left (fun e => hne e.1)
set_option maxHeartbeats 4000000 in
set_option maxRecDepth 100000 in
theorem s_X9_foldOf {g : zGT} {w : zW} {f : Nat → Nat → Int32} {j : Nat → Nat → Int64} {a : Nat} {n k : Nat} {x z : Int32} {NL : List zRw} {y : zRw} {Q : Option Value → zW → Prop} {QX : String → zW → Prop} (G : zGok g) (hs : shWy w a) (hc_z : ctWy f a n NL) (hx : x.toInt = (k : Nat)) (hk : NL[k]? = some y) (hQ : ∀ r : Int32, r = moFold y.2.1 z.toInt → Q (some (.int r)) (zM w f j)) : zC g 3 yX9_foldOf cX9_foldOf 6 (some .int) [.ref a, .int x, .int z] (zM w f j) (0, 0) Q QX := by
  refine zC_of G (by decide +kernel) (Nat.le_of_ble_eq_true rfl) ?_
  obtain ⟨⟨a1, a2, a3, a4⟩, hN_z, hF, hS_z, hR⟩ := hc_z
  have hkl := (List.getElem?_eq_some_iff.mp hk).1
  obtain ⟨n1, n2, n3, n4⟩ := hN_z k y hk
  have nk : (nI k).toInt = (k : Nat) := zi_n (by omega)
  refine r_aloadR0 dX9_foldOf_0 ?_
  refine r_iload1 dX9_foldOf_1 ?_
  refine q_callV1 zm_RX9_98 dX9_foldOf_2 (shWy_k hs) (by decide) rfl (Nat.le_of_ble_eq_true rfl) (Nat.le_of_ble_eq_true rfl) (Nat.le_of_ble_eq_true rfl) (Nat.le_of_ble_eq_true rfl) (Nat.le_of_ble_eq_true rfl) (s_X9_depthOf G hs hx (by omega) (fun r2 e2_z => ?_))
  have hd2 : r2.toInt = (y.2.1.length : Nat) := by rw [e2_z]; exact n2
  have hyl := Int32.toInt_lt r2
  have him : (-1 : Int32).toInt = -1 := rfl
  refine r_istore3 dX9_foldOf_5 rfl ?_
  refine r_iload2 dX9_foldOf_6 ?_
  refine t_iflt (t := 15) dX9_foldOf_7 (by decide) (fun h7 => ?_) (fun h7 => ?_)
  · refine n_iconst dX9_foldOf_15 (by decide) (fun r15 e15_z => ?_)
    refine r_iret dX9_foldOf_16 rfl (Nat.le_of_ble_eq_true rfl) (Nat.le_of_ble_eq_true rfl) ?_
    exact hQ _ (by rw [moFold_no (by omega)]; exact zi_eq.mpr (by omega))
  · refine r_iload2 dX9_foldOf_10 ?_
    refine r_iload3 dX9_foldOf_11 ?_
    refine t_iclt (t := 17) dX9_foldOf_12 (by decide) (fun h12 => ?_) (fun h12 => ?_)
    · refine r_iload1 dX9_foldOf_17 ?_
      refine r_istore4 dX9_foldOf_18 rfl ?_
      refine r_iload3 dX9_foldOf_20 ?_
      refine n_iconst dX9_foldOf_21 (by decide) (fun r21 e21_z => ?_)
      refine n_isub dX9_foldOf_22 (by omega) (fun r22 e22_z => ?_)
      refine r_istore5 dX9_foldOf_23 rfl ?_
      have lp : ∀ (mz : Nat) (t : Int32) (c : Int32) (p : Nat) (i : Nat) (u : zRw), t.toInt = (p : Nat) → c.toInt = (i : Nat) → NL[p]? = some u → u.2.1.length = i + 1 → z.toInt ≤ (i : Nat) → u.2.1[z.toInt.toNat]? = y.2.1[z.toInt.toNat]? → i < mz → zR (zV g 3 yX9_foldOf 6 (some .int) (0, 0) Q QX) cX9_foldOf yX9_foldOf.cls 25 [some (.ref a), some (.int x), some (.int z), some (.int r2), some (.int t), some (.int c)] [] (zM w f j) (0, 0) := by
        intro mz
        induction mz with
        | zero =>
          intro t c p i u ht hci hp hul hzle hrow hmz
          exact absurd hmz (Nat.not_lt_zero _)
        | succ mz ih =>
          intro t c p i u ht hci hp hul hzle hrow hmz
          have hclt := Int32.toInt_lt c
          have hpl := (List.getElem?_eq_some_iff.mp hp).1
          have hne : u.2.1 ≠ [] := fun e => by rw [e, List.length_nil] at hul; omega
          obtain ⟨q1_z, z1, d1, w1, w2, w3, w4, w5⟩ := wy_par hN_z hp hne
          have hzl : u.2.1.length = z1.2.1.length + 1 := by rw [w3, List.length_append]; rfl
          rcases Int.lt_or_le z.toInt (i : Nat) with hzi | hzi
          · skip
            refine r_iload5 dX9_foldOf_25 ?_
            refine r_iload2 dX9_foldOf_27 ?_
            refine t_icle (t := 48) dX9_foldOf_28 (by decide) (fun h28 => False.elim (by omega)) (fun h28 => ?_)
            refine r_aloadR0 dX9_foldOf_31 ?_
            refine m_getR (q := (a + 2)) zf_RX9_15 rfl dX9_foldOf_32 (shWy_k hs) (shWy_p2 hs) ?_
            refine r_iload4 dX9_foldOf_35 ?_
            refine q_callS2 zm_RX9_94 dX9_foldOf_37 (Nat.le_of_ble_eq_true rfl) (Nat.le_of_ble_eq_true rfl) (Nat.le_of_ble_eq_true rfl) (Nat.le_of_ble_eq_true rfl) (Nat.le_of_ble_eq_true rfl) (s_X9_valueAt G (shWy_k2 hs) (shWy_n2 hs) (by decide) (fun r37 e37 => ?_))
            refine r_istore4 dX9_foldOf_40 rfl ?_
            refine n_iinc5 dX9_foldOf_42 (by decide) rfl (by omega) (fun r42 e42_z => ?_)
            refine r_goto (t := 25) dX9_foldOf_45 (by decide) ?_
            have hq : r37.toInt = (q1_z : Nat) := by
              rcases e37 with ⟨p1, p2, p3⟩ | ⟨p1, p2⟩
              · rw [p3, show t.toInt.toNat = p by omega]; exact w4
              · exact absurd ⟨by omega, by omega⟩ p1
            exact ih _ _ q1_z (i - 1) z1 hq (by omega) w1 (by omega) (by omega) (by rw [← hrow, w3, List.getElem?_append_left (by omega)]) (by omega)
          · refine r_iload5 dX9_foldOf_25 ?_
            refine r_iload2 dX9_foldOf_27 ?_
            refine t_icle (t := 48) dX9_foldOf_28 (by decide) (fun h28 => ?_) (fun h28 => False.elim (by omega))
            refine r_aloadR0 dX9_foldOf_48 ?_
            refine m_getR (q := (a + 3)) zf_RX9_18 rfl dX9_foldOf_49 (shWy_k hs) (shWy_p3 hs) ?_
            refine r_iload4 dX9_foldOf_52 ?_
            refine q_callS2 zm_RX9_94 dX9_foldOf_54 (Nat.le_of_ble_eq_true rfl) (Nat.le_of_ble_eq_true rfl) (Nat.le_of_ble_eq_true rfl) (Nat.le_of_ble_eq_true rfl) (Nat.le_of_ble_eq_true rfl) (s_X9_valueAt G (shWy_k3 hs) (shWy_n3 hs) (by decide) (fun r54 e54 => ?_))
            refine r_iret dX9_foldOf_57 rfl (Nat.le_of_ble_eq_true rfl) (Nat.le_of_ble_eq_true rfl) ?_
            have hd_z : r54.toInt = (d1 : Nat) := by
              rcases e54 with ⟨p1, p2, p3⟩ | ⟨p1, p2⟩
              · rw [p3, show t.toInt.toNat = p by omega]; exact w5
              · exact absurd ⟨by omega, by omega⟩ p1
            have hg : y.2.1[z.toInt.toNat]? = some d1 := by rw [← hrow, w3, List.getElem?_append_right (by omega), show z.toInt.toNat - z1.2.1.length = 0 by omega]; rfl
            have hm_z := moFold_at hg
            rw [show ((z.toInt.toNat : Nat) : Int) = z.toInt by omega] at hm_z
            refine hQ _ ?_
            rw [hm_z]
            have := Int32.toInt_lt r54
            exact zi_of hd_z (by omega)
      exact lp (y.2.1.length + 1) _ _ k (y.2.1.length - 1) y hx (by omega) hk (by omega) (by omega) rfl (by omega)
    · refine n_iconst dX9_foldOf_15 (by decide) (fun r15 e15_z => ?_)
      refine r_iret dX9_foldOf_16 rfl (Nat.le_of_ble_eq_true rfl) (Nat.le_of_ble_eq_true rfl) ?_
      exact hQ _ (by rw [moFold_no (by omega)]; exact zi_eq.mpr (by omega))
set_option maxHeartbeats 4000000 in
set_option maxRecDepth 100000 in
theorem s_X9_forgetMet {g : zGT} {w : zW} {f : Nat → Nat → Int32} {j : Nat → Nat → Int64} {a : Nat} {Q : Option Value → zW → Prop} {QX : String → zW → Prop} (G : zGok g) (hs : shWy w a) (hQ : ∀ f2_z, (∀ p, p ≠ a + 8 → f2_z p = f p) → (∀ i, i < 1024 → (f2_z (a + 8) i).toInt = 0) → Q none (zM w f2_z j)) : zC g 2 yX9_forgetMet cX9_forgetMet 1 none [.ref a] (zM w f j) (0, 0) Q QX := by
  refine zC_of G (by decide +kernel) (Nat.le_of_ble_eq_true rfl) ?_
  refine r_aloadR0 dX9_forgetMet_0 ?_
  refine m_getR (q := (a + 8)) zf_RX9_33 rfl dX9_forgetMet_1 (shWy_k hs) (shWy_p8 hs) ?_
  refine n_iconst dX9_forgetMet_4 (by decide) (fun r4 e4_z => ?_)
  refine q_callS2 zm_RX9_66 dX9_forgetMet_5 (Nat.le_of_ble_eq_true rfl) (Nat.le_of_ble_eq_true rfl) (Nat.le_of_ble_eq_true rfl) (Nat.le_of_ble_eq_true rfl) (Nat.le_of_ble_eq_true rfl) (s_J7_fill_53178 G (shWy_k8 hs) (shWy_n8 hs) (by decide) (fun f2_z ho hz => ?_))
  refine r_vret dX9_forgetMet_8 rfl (Nat.le_of_ble_eq_true rfl) (Nat.le_of_ble_eq_true rfl) ?_
  exact hQ f2_z ho (fun i hi_z => by rw [hz i hi_z]; omega)
set_option maxHeartbeats 4000000 in
set_option maxRecDepth 100000 in
theorem s_X9_meet {g : zGT} {w : zW} {f : Nat → Nat → Int32} {j : Nat → Nat → Int64} {a : Nat} {k p : Nat} {x : Int32} {Q : Option Value → zW → Prop} {QX : String → zW → Prop} (G : zGok g) (hs : shWy w a) (hx : x.toInt = (k : Nat)) (hk : k < 1024) (hp : (f (a + 6) k).toInt = (p : Nat)) (hp2 : p < 1024) (hQ : ∀ (r : Int32) f2_z, (r.toInt = 1 ∧ (f (a + 8) p).toInt = 0 ∨ r.toInt = 0 ∧ (f (a + 8) p).toInt ≠ 0) → (∀ q, q ≠ a + 8 → f2_z q = f q) → (∀ i, f2_z (a + 8) i = if i = p then 1 else f (a + 8) i) → Q (some (.int r)) (zM w f2_z j)) : zC g 2 yX9_meet cX9_meet 4 (some .boolean) [.ref a, .int x] (zM w f j) (0, 0) Q QX := by
  refine zC_of G (by decide +kernel) (Nat.le_of_ble_eq_true rfl) ?_
  refine r_aloadR0 dX9_meet_0 ?_
  refine m_getR (q := (a + 6)) zf_RX9_27 rfl dX9_meet_1 (shWy_k hs) (shWy_p6 hs) ?_
  refine r_iload1 dX9_meet_4 ?_
  refine q_callS2 zm_RX9_94 dX9_meet_5 (Nat.le_of_ble_eq_true rfl) (Nat.le_of_ble_eq_true rfl) (Nat.le_of_ble_eq_true rfl) (Nat.le_of_ble_eq_true rfl) (Nat.le_of_ble_eq_true rfl) (s_X9_valueAt G (shWy_k6 hs) (shWy_n6 hs) (by decide) (fun r5 e5_z => ?_))
  have h5v : r5.toInt = (p : Nat) := by
    rcases e5_z with ⟨p1, p2, p3⟩ | ⟨p1, p2⟩
    · rw [p3, show x.toInt.toNat = k by omega]; exact hp
    · exact absurd ⟨by omega, by omega⟩ p1
  refine r_istore2 dX9_meet_8 rfl ?_
  refine r_aloadR0 dX9_meet_9 ?_
  refine m_getR (q := (a + 8)) zf_RX9_33 rfl dX9_meet_10 (shWy_k hs) (shWy_p8 hs) ?_
  refine r_iload2 dX9_meet_13 ?_
  refine q_callS2 zm_RX9_94 dX9_meet_14 (Nat.le_of_ble_eq_true rfl) (Nat.le_of_ble_eq_true rfl) (Nat.le_of_ble_eq_true rfl) (Nat.le_of_ble_eq_true rfl) (Nat.le_of_ble_eq_true rfl) (s_X9_valueAt G (shWy_k8 hs) (shWy_n8 hs) (by decide) (fun r14 e14_z => ?_))
  have h14v : r14 = f (a + 8) p := by
    rcases e14_z with ⟨p1, p2, p3⟩ | ⟨p1, p2⟩
    · rw [p3, show r5.toInt.toNat = p by omega]
    · exact absurd ⟨by omega, by omega⟩ p1
  refine t_ifne (t := 24) dX9_meet_17 (by decide) (fun h17 => ?_) (fun h17 => ?_)
  · refine n_iconst dX9_meet_24 (by decide) (fun r24 e24_z => ?_)
    refine r_istore3 dX9_meet_25 rfl ?_
    refine r_aloadR0 dX9_meet_26 ?_
    refine m_getR (q := (a + 8)) zf_RX9_33 rfl dX9_meet_27 (shWy_k hs) (shWy_p8 hs) ?_
    refine r_iload2 dX9_meet_30 ?_
    refine n_iconst dX9_meet_31 (by decide) (fun r31 e31_z => ?_)
    refine q_callS3 zm_RX9_104 dX9_meet_32 (Nat.le_of_ble_eq_true rfl) (Nat.le_of_ble_eq_true rfl) (Nat.le_of_ble_eq_true rfl) (Nat.le_of_ble_eq_true rfl) (Nat.le_of_ble_eq_true rfl) (s_X9_put (k := p) G (shWy_k8 hs) (shWy_n8 hs) (by decide) h5v hp2 (fun f2_z hf2 => ?_))
    refine r_iload3 dX9_meet_35 ?_
    refine m_zret dX9_meet_36 rfl (by omega) (Nat.le_of_ble_eq_true rfl) (Nat.le_of_ble_eq_true rfl) ?_
    rw [h14v] at h17
    refine hQ _ f2_z (by omega) (fun q hq => by rw [hf2]; exact zu_ne hq) (fun i => ?_)
    rw [hf2, zu_s2]
    split
    · exact zi_eq.mpr (e31_z.trans rfl)
    · rfl
  · refine n_iconst dX9_meet_20 (by decide) (fun r20 e20 => ?_)
    refine r_goto (t := 25) dX9_meet_21 (by decide) ?_
    refine r_istore3 dX9_meet_25 rfl ?_
    refine r_aloadR0 dX9_meet_26 ?_
    refine m_getR (q := (a + 8)) zf_RX9_33 rfl dX9_meet_27 (shWy_k hs) (shWy_p8 hs) ?_
    refine r_iload2 dX9_meet_30 ?_
    refine n_iconst dX9_meet_31 (by decide) (fun r31 e31_z => ?_)
    refine q_callS3 zm_RX9_104 dX9_meet_32 (Nat.le_of_ble_eq_true rfl) (Nat.le_of_ble_eq_true rfl) (Nat.le_of_ble_eq_true rfl) (Nat.le_of_ble_eq_true rfl) (Nat.le_of_ble_eq_true rfl) (s_X9_put (k := p) G (shWy_k8 hs) (shWy_n8 hs) (by decide) h5v hp2 (fun f2_z hf2 => ?_))
    refine r_iload3 dX9_meet_35 ?_
    refine m_zret dX9_meet_36 rfl (by omega) (Nat.le_of_ble_eq_true rfl) (Nat.le_of_ble_eq_true rfl) ?_
    rw [h14v] at h17
    refine hQ _ f2_z (by omega) (fun q hq => by rw [hf2]; exact zu_ne hq) (fun i => ?_)
    rw [hf2, zu_s2]
    split
    · exact zi_eq.mpr (e31_z.trans rfl)
    · rfl
set_option maxHeartbeats 4000000 in
set_option maxRecDepth 100000 in
theorem s_X9_slotOf {g : zGT} {w : zW} {f : Nat → Nat → Int32} {j : Nat → Nat → Int64} {a : Nat} {n : Nat} {L : zLy} {x : Int32} {NL : List zRw} {Q : Option Value → zW → Prop} {QX : String → zW → Prop} (G : zGok g) (hs : shWy w a) (hc_z : ctWy f a n NL) (hr : rch n L) (hx : x = lyKey L) (hQ : ∀ (r : Int32) (p : Nat), r.toInt = (p : Nat) → p < 2048 → (∀ i, isF NL L i → (f (a + 9) p).toInt = (i : Nat)) → ((¬ ∃ i, isF NL L i) → (f (a + 9) p).toInt = -1 ∧ ∃ t, t < 2048 ∧ p = (hsW (lyKey L) + t) % 2048 ∧ ∀ s, s < t → (f (a + 9) ((hsW (lyKey L) + s) % 2048)).toInt ≠ -1) → Q (some (.int r)) (zM w f j)) : zC g 3 yX9_slotOf cX9_slotOf 5 (some .int) [.ref a, .int x] (zM w f j) (0, 0) Q QX := by
  refine zC_of G (by decide +kernel) (Nat.le_of_ble_eq_true rfl) ?_
  obtain ⟨⟨a1, a2, a3, a4⟩, hN_z, hF, ⟨s1, s2, occ, s3, s4⟩, hR⟩ := hc_z
  obtain ⟨tf, tf1, tf2⟩ := free_at (hsW (lyKey L)) (by decide : 0 < 2048) (by omega) s4
  have lp : ∀ (mz : Nat) (v : Int32) (c : Int32) (k : Nat) (v4_ : Option Value), v.toInt = (((hsW (lyKey L) + k) % 2048 : Nat) : Int) → c.toInt = (k : Nat) → (∀ s, s < k → (f (a + 9) ((hsW (lyKey L) + s) % 2048)).toInt ≠ -1 ∧ ∀ i, isF NL L i → (f (a + 9) ((hsW (lyKey L) + s) % 2048)).toInt ≠ (i : Nat)) → 2048 - k < mz → zR (zV g 3 yX9_slotOf 5 (some .int) (0, 0) Q QX) cX9_slotOf yX9_slotOf.cls 10 [some (.ref a), some (.int x), some (.int v), some (.int c), v4_] [] (zM w f j) (0, 0) := by
    intro mz
    induction mz with
    | zero =>
      intro v c k v4_ hv hck hbef hmz
      exact absurd hmz (Nat.not_lt_zero _)
    | succ mz ih =>
      intro v c k v4_ hv hck hbef hmz
      have hkf : k ≤ tf := by
        rcases Nat.lt_or_ge tf k with h9 | h9
        · exact absurd tf2 (hbef tf h9).1
        · exact h9
      have hpm : (hsW (lyKey L) + k) % 2048 < 2048 := Nat.mod_lt _ (by decide)
      refine r_iload3 dX9_slotOf_10 ?_
      refine n_sipush dX9_slotOf_11 (by decide) (fun r11 e11_z => ?_)
      refine t_icge (t := 59) dX9_slotOf_14 (by decide) (fun h14 => False.elim (by omega)) (fun h14 => ?_)
      refine r_aloadR0 dX9_slotOf_17 ?_
      refine m_getR (q := (a + 9)) zf_RX9_36 rfl dX9_slotOf_18 (shWy_k hs) (shWy_p9 hs) ?_
      refine r_iload2 dX9_slotOf_21 ?_
      refine q_callS2 zm_RX9_94 dX9_slotOf_22 (Nat.le_of_ble_eq_true rfl) (Nat.le_of_ble_eq_true rfl) (Nat.le_of_ble_eq_true rfl) (Nat.le_of_ble_eq_true rfl) (Nat.le_of_ble_eq_true rfl) (s_X9_valueAt G (shWy_k9 hs) (shWy_n9 hs) (by decide) (fun r22 e22_z => ?_))
      have h22v : r22 = (f (a + 9) ((hsW (lyKey L) + k) % 2048)) := by
        rcases e22_z with ⟨p1, p2, p3⟩ | ⟨p1, p2⟩
        · rw [p3, show v.toInt.toNat = (hsW (lyKey L) + k) % 2048 by omega]
        · exact absurd ⟨by omega, by omega⟩ p1
      refine r_istore4 dX9_slotOf_25 rfl ?_
      refine r_iload4 dX9_slotOf_27 ?_
      refine n_iconst dX9_slotOf_29 (by decide) (fun r29 e29 => ?_)
      refine t_iceq (t := 43) dX9_slotOf_30 (by decide) (fun h30 => ?_) (fun h30 => ?_)
      · refine r_iload2 dX9_slotOf_43 ?_
        refine r_iret dX9_slotOf_44 rfl (Nat.le_of_ble_eq_true rfl) (Nat.le_of_ble_eq_true rfl) ?_
        first
          | (have hem : r22.toInt = -1 := by omega
             rw [h22v] at hem
             refine hQ _ _ hv hpm (fun i hi_z => ?_) (fun _ => ⟨hem, k, by omega, rfl, fun s hs9 => (hbef s hs9).1⟩)
             exfalso
             obtain ⟨t, t1, t2, t3⟩ := s2 i L hi_z
             rcases Nat.lt_trichotomy t k with h9 | h9 | h9
             · exact (hbef t h9).2 i hi_z t2
             · rw [h9, hem] at t2; omega
             · exact t3 k h9 hem)
          | (have hkk : lyKey L2 = lyKey L := by rw [← hk36, ← hx]; exact zi_eq.mpr (by omega)
             have hLL := rch_inj hr2 hr hkk
             subst hLL
             refine hQ _ _ hv hpm (fun i hi_z => ?_) (fun hno => absurd ⟨i2_z, hi3⟩ hno)
             rw [← h22v, isF_uni hi_z hi3]
             exact g1)
      · refine r_aloadR0 dX9_slotOf_33 ?_
        refine r_iload4 dX9_slotOf_34 ?_
        refine q_callV1 zm_RX9_59 dX9_slotOf_36 (shWy_k hs) (by decide) rfl (Nat.le_of_ble_eq_true rfl) (Nat.le_of_ble_eq_true rfl) (Nat.le_of_ble_eq_true rfl) (Nat.le_of_ble_eq_true rfl) (Nat.le_of_ble_eq_true rfl) (s_X9_keyOf (k := r22.toInt.toNat) G hs (by rcases s1 _ hpm with h9 | ⟨i, L2, h9, y, h10, -⟩; rw [← h22v] at h9; omega; rw [← h22v] at h9; omega) (by rcases s1 _ hpm with h9 | ⟨i, L2, h9, y, h10, -⟩; rw [← h22v] at h9; omega; have := (List.getElem?_eq_some_iff.mp h10).1; rw [← h22v] at h9; omega) (fun r36 e36 => ?_))
        obtain ⟨i2_z, L2, g1, hi2⟩ : ∃ (i : Nat) (L2 : zLy), r22.toInt = (i : Nat) ∧ isF NL L2 i := by
          rcases s1 _ hpm with h9 | ⟨i, L2, h9, h10⟩
          · rw [← h22v] at h9; omega
          · rw [← h22v] at h9; exact ⟨i, L2, h9, h10⟩
        obtain ⟨y2, g2, g3_z, g4⟩ := hi2
        have hi3 : isF NL L2 i2_z := ⟨y2, g2, g3_z, g4⟩
        have hr2 : rch n L2 := by rw [← g3_z]; exact hR _ (List.mem_of_getElem? g2)
        have hk36 : r36 = lyKey L2 := by rw [e36, show r22.toInt.toNat = i2_z by omega, (hN_z i2_z y2 g2).1, g3_z]
        refine r_iload1 dX9_slotOf_39 ?_
        refine t_icne (t := 45) dX9_slotOf_40 (by decide) (fun h40 => ?_) (fun h40 => ?_)
        · refine r_iload2 dX9_slotOf_45 ?_
          refine n_iconst dX9_slotOf_46 (by decide) (fun r46 e46 => ?_)
          refine n_iadd dX9_slotOf_47 (by omega) (fun r47 e47 => ?_)
          refine n_sipush dX9_slotOf_48 (by decide) (fun r48 e48 => ?_)
          refine r_iand dX9_slotOf_51 ?_
          refine n_name (fun r51 e51 => ?_)
          refine r_istore2 dX9_slotOf_52 rfl ?_
          refine n_iinc3 dX9_slotOf_53 (by decide) rfl (by omega) (fun r53 e53 => ?_)
          refine r_goto (t := 10) dX9_slotOf_56 (by decide) ?_
          have h51v : r51.toInt = (((hsW (lyKey L) + (k + 1)) % 2048 : Nat) : Int) := by
            have h9 := and2047_of (t := (hsW (lyKey L) + k) % 2048 + 1) (x := r47) (y := r48) (by omega) (by omega) e48
            rw [e51, h9]
            congr 1
            omega
          refine ih _ _ (k + 1) _ h51v (by omega) (fun s hs9 => ?_) (by omega)
          rcases Nat.lt_or_ge s k with h9 | h9
          · exact hbef s h9
          · rw [show s = k by omega, ← h22v]
            refine ⟨by omega, fun i hi_z e9_z => ?_⟩
            have e10_z : i = i2_z := by omega
            subst e10_z
            obtain ⟨y3, g5_z, g6, -⟩ := hi_z
            rw [g2] at g5_z
            cases g5_z
            rw [g3_z] at g6
            rw [g6] at hk36
            rw [hx, hk36] at h40
            exact h40 rfl
        · refine r_iload2 dX9_slotOf_43 ?_
          refine r_iret dX9_slotOf_44 rfl (Nat.le_of_ble_eq_true rfl) (Nat.le_of_ble_eq_true rfl) ?_
          first
            | (have hem : r22.toInt = -1 := by omega
               rw [h22v] at hem
               refine hQ _ _ hv hpm (fun i hi_z => ?_) (fun _ => ⟨hem, k, by omega, rfl, fun s hs9 => (hbef s hs9).1⟩)
               exfalso
               obtain ⟨t, t1, t2, t3⟩ := s2 i L hi_z
               rcases Nat.lt_trichotomy t k with h9 | h9 | h9
               · exact (hbef t h9).2 i hi_z t2
               · rw [h9, hem] at t2; omega
               · exact t3 k h9 hem)
            | (have hkk : lyKey L2 = lyKey L := by rw [← hk36, ← hx]; exact zi_eq.mpr (by omega)
               have hLL := rch_inj hr2 hr hkk
               subst hLL
               refine hQ _ _ hv hpm (fun i hi_z => ?_) (fun hno => absurd ⟨i2_z, hi3⟩ hno)
               rw [← h22v, isF_uni hi_z hi3]
               exact g1)
  refine r_iload1 dX9_slotOf_0 ?_
  refine n_ldc (n := -1640531535) zk_RX9_108 dX9_slotOf_1 (by decide) (fun r1 e1_z => ?_)
  refine r_imul dX9_slotOf_3 ?_
  refine n_name (fun r3 e3_z => ?_)
  refine n_bipush dX9_slotOf_4 (by decide) (fun r4 e4_z => ?_)
  refine r_iushr dX9_slotOf_6 ?_
  refine n_name (fun r6 e6_z => ?_)
  refine r_istore2 dX9_slotOf_7 rfl ?_
  refine n_iconst dX9_slotOf_8 (by decide) (fun r8 e8 => ?_)
  refine r_istore3 dX9_slotOf_9 rfl ?_
  have g1 : r1 = -1640531535 := zi_eq.mpr (e1_z.trans rfl)
  have g4 : r4 = 21 := zi_eq.mpr (e4_z.trans rfl)
  obtain ⟨hv0, hv1⟩ := hsW_s x
  rw [hx] at hv0 hv1
  have hv2 : r6.toInt = ((hsW (lyKey L) : Nat) : Int) := by rw [e6_z, e3_z, g1, g4, hx]; exact hv0
  exact lp 2049 _ _ 0 none (by rw [Nat.add_zero, Nat.mod_eq_of_lt hv1]; exact hv2) (by omega) (fun s hs9 => absurd hs9 (by omega)) (by omega)
