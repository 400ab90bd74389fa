/-! a range of addresses; quotients; Moment, Napkin, Dice -/
theorem cpy_RX3_31 : Cond.methodLink RX3 31 arraycopyName ∈ zT := zt3 (List.mem_of_getElem? (i := 39) (by decide +kernel)) (by decide +kernel)
theorem cpy_stat : Cond.static arraycopyName ∈ zT := zt3 (List.mem_of_getElem? (i := 40) (by decide +kernel)) (by decide +kernel)
theorem cpy_nat : Cond.native arraycopyName ∈ zT := zt3 (List.mem_of_getElem? (i := 41) (by decide +kernel)) (by decide +kernel)
theorem cpy_ini : Cond.initialized "java/lang/System" ∈ zT := zt1 (List.mem_of_getElem? (i := 25) (by decide +kernel)) (by decide +kernel)
/-- changed at the n addresses from a on alone -/
def ofR (f f2 : Nat → Nat → Int32) (a n : Nat) : Prop := ∀ q, (q < a ∨ a + n ≤ q) → f2 q = f q
theorem ofR_rf {f : Nat → Nat → Int32} {a n : Nat} : ofR f f a n := fun _ _ => rfl
theorem ofR_tr {f f2 f3 : Nat → Nat → Int32} {a n : Nat} (h : ofR f f2 a n) (h2 : ofR f2 f3 a n) : ofR f f3 a n := fun q hq => (h2 q hq).trans (h q hq)
theorem ofR_zu {f f2 : Nat → Nat → Int32} {a n b i : Nat} {x : Int32} (h : ofR f f2 a n) (hb : a ≤ b ∧ b < a + n) : ofR f (zu f2 b i x) a n := fun q hq => (zu_ne (by omega)).trans (h q hq)
theorem ofR_zr {f f2 : Nat → Nat → Int32} {a n b : Nat} {r : Nat → Int32} (h : ofR f f2 a n) (hb : a ≤ b ∧ b < a + n) : ofR f (zr f2 b r) a n := fun q hq => (show zr f2 b r q = f2 q from by unfold zr; rw [if_neg (by omega)]).trans (h q hq)
theorem ofR_wid {f f2 : Nat → Nat → Int32} {a n b m : Nat} (h : ofR f f2 a n) (hb : b ≤ a ∧ a + n ≤ b + m) : ofR f f2 b m := fun q hq => h q (by omega)
theorem ofLay_R {f f2 : Nat → Nat → Int32} {a : Nat} (h : ofLay f f2 a) : ofR f f2 a 4 := h
theorem zu_s2 {α : Type} {f : Nat → Nat → α} {a i j : Nat} {x : α} : zu f a i x a j = if j = i then x else f a j := by rw [zu_self]
theorem zi_divn {a b : Nat} (ha : a < 2 ^ 31) (hb : b < 2 ^ 31) (h0 : 0 < b) : nI a / nI b = nI (a / b) := by
  have na : (nI a).toInt = a := zi_n ha
  have nb : (nI b).toInt = b := zi_n hb
  refine zi_of ?_ (Nat.lt_of_le_of_lt (Nat.div_le_self a b) ha)
  have hne : nI b ≠ -1 := by
    intro e
    rw [e] at nb
    have : ((-1 : Int32)).toInt = -1 := rfl
    omega
  rw [Int32.toInt_div_of_ne_right _ _ hne, na, nb]
  exact (Int.ofNat_tdiv a b).symm
theorem zi_muln {a b : Nat} (h : a * b < 2 ^ 31) (ha : a < 2 ^ 31) (hb : b < 2 ^ 31) : nI a * nI b = nI (a * b) := by
  have e : ((a * b : Nat) : Int) = (a : Int) * (b : Int) := Int.natCast_mul a b
  refine zi_of ?_ h
  rw [zi_mul, zi_n ha, zi_n hb, e]
  rw [zi_n ha, zi_n hb, ← e]
  omega
theorem zi_subn {a b : Nat} (h : b ≤ a) (ha : a < 2 ^ 31) : nI a - nI b = nI (a - b) := by
  have na : (nI a).toInt = a := zi_n ha
  have nb : (nI b).toInt = b := zi_n (by omega)
  refine zi_of ?_ (by omega)
  rw [zi_sub (by omega), na, nb]
  omega
theorem zi_remn {a b : Nat} (ha : a < 2 ^ 31) (hb : b < 2 ^ 31) (h0 : 0 < b) : nI a - nI a / nI b * nI b = nI (a % b) := by
  have h1 : a / b * b ≤ a := Nat.div_mul_le_self a b
  have h2 : a / b ≤ a := Nat.div_le_self a b
  rw [zi_divn ha hb h0, zi_muln (by omega) (by omega) hb, zi_subn h1 ha]
  congr 1
  have := Nat.div_add_mod a b
  rw [Nat.mul_comm] at this
  omega
/-- marks (front of c at 2 c, back at 2 c + 1) and folds -/
abbrev zMo : Type := (Nat → Nat) × List Nat
def moFold (l : List Nat) (k : Int) : Int32 := if 0 ≤ k then (match l[k.toNat]? with | some d => nI d | none => -1) else -1
theorem moFold_at {l : List Nat} {k d : Nat} (h : l[k]? = some d) : moFold l (k : Nat) = nI d := by
  unfold moFold
  rw [if_pos (by omega), Int.toNat_natCast, h]
theorem moFold_no {l : List Nat} {k : Int} (h : k < 0 ∨ (l.length : Nat) ≤ k) : moFold l k = -1 := by
  unfold moFold
  by_cases h0 : 0 ≤ k
  · rw [if_pos h0, List.getElem?_eq_none (by omega)]
  · rw [if_neg h0]
def moPut (M : zMo) (at_ v : Nat) : zMo := (fun i => if i = at_ then v else M.1 i, M.2)
def moDo (M : zMo) (d : Nat) : zMo :=
  if 2000 ≤ d then moPut M (2 * ((d - 2000) / 100) + 1) ((d - 2000) % 100)
  else if 1000 ≤ d then moPut M (2 * ((d - 1000) / 100)) ((d - 1000) % 100)
  else if d = 200 then (M.1, [])
  else if d = 100 then (M.1, M.2.dropLast)
  else (M.1, M.2 ++ [d])
def shMo (w : zW) (a : Nat) : Prop := zK w a = 3 ∧ zP w a 0 = some (a + 1) ∧ zP w a 1 = some (a + 2) ∧ zK w (a + 1) = 21 ∧ zK w (a + 2) = 21 ∧ zN w (a + 1) = 12 ∧ zN w (a + 2) = 5
theorem shMo_k {w : zW} {a : Nat} (h : shMo w a) : zK w a = 3 := h.1
theorem shMo_p0 {w : zW} {a : Nat} (h : shMo w a) : zP w a 0 = some (a + 1) := h.2.1
theorem shMo_p1 {w : zW} {a : Nat} (h : shMo w a) : zP w a 1 = some (a + 2) := h.2.2.1
theorem shMo_k1 {w : zW} {a : Nat} (h : shMo w a) : zK w (a + 1) = 21 := h.2.2.2.1
theorem shMo_k2 {w : zW} {a : Nat} (h : shMo w a) : zK w (a + 2) = 21 := h.2.2.2.2.1
theorem shMo_n1 {w : zW} {a : Nat} (h : shMo w a) : zN w (a + 1) = 12 := h.2.2.2.2.2.1
theorem shMo_n2 {w : zW} {a : Nat} (h : shMo w a) : zN w (a + 2) = 5 := h.2.2.2.2.2.2
def ctMo (f : Nat → Nat → Int32) (a : Nat) (M : zMo) : Prop := f a 2 = nI M.2.length ∧ M.2.length ≤ 5 ∧ (∀ i, i < 12 → f (a + 1) i = nI (M.1 i)) ∧ (∀ i d, M.2[i]? = some d → f (a + 2) i = nI d)
theorem ctMo_of {f f2 : Nat → Nat → Int32} {a : Nat} {M : zMo} (h : ctMo f a M) (e0 : f2 a = f a) (e1 : f2 (a + 1) = f (a + 1)) (e2 : f2 (a + 2) = f (a + 2)) : ctMo f2 a M := by
  unfold ctMo
  rw [e0, e1, e2]
  exact h
theorem ctMo_R {f f2 : Nat → Nat → Int32} {a b n : Nat} {M : zMo} (h : ctMo f b M) (ho : ofR f f2 a n) (hab : b + 3 ≤ a ∨ a + n ≤ b) : ctMo f2 b M := ctMo_of h (ho b (by omega)) (ho (b + 1) (by omega)) (ho (b + 2) (by omega))
theorem ctMo_put {f : Nat → Nat → Int32} {a i v : Nat} {x : Int32} {M : zMo} (h : ctMo f a M) (hx : x = nI v) : ctMo (zu f (a + 1) i x) a (moPut M i v) := by
  obtain ⟨h1, h2, h3, h4⟩ := h
  refine ⟨?_, h2, fun j hj => ?_, fun j d hd => ?_⟩
  · rw [zu_ne (by omega)]
    exact h1
  · rw [zu_s2]
    show _ = nI (if j = i then v else M.1 j)
    by_cases e : j = i
    · rw [if_pos e, if_pos e]
      exact hx
    · rw [if_neg e, if_neg e]
      exact h3 j hj
  · rw [zu_ne (by omega)]
    exact h4 j d hd
theorem ctMo_add {f : Nat → Nat → Int32} {a d : Nat} {x y : Int32} {M : zMo} (h : ctMo f a M) (hl : M.2.length < 5) (hx : x = nI d) (hy : y = nI (M.2.length + 1)) : ctMo (zu (zu f (a + 2) M.2.length x) a 2 y) a (M.1, M.2 ++ [d]) := by
  obtain ⟨h1, h2, h3, h4⟩ := h
  refine ⟨?_, ?_, fun j hj => ?_, fun j e he => ?_⟩
  · rw [zu_at, hy, List.length_append]
    rfl
  · rw [List.length_append]
    exact hl
  · rw [zu_ne (by omega), zu_ne (by omega)]
    exact h3 j hj
  · rw [zu_ne (by omega), zu_s2]
    by_cases e1 : j < M.2.length
    · rw [if_neg (by omega)]
      rw [List.getElem?_append_left e1] at he
      exact h4 j e he
    · have hj : j = M.2.length := by
        have := (List.getElem?_eq_some_iff.mp he).1
        rw [List.length_append] at this
        simp at this
        omega
      subst hj
      rw [List.getElem?_append_right (Nat.le_refl _), Nat.sub_self] at he
      cases he
      rw [if_pos rfl]
      exact hx
theorem ctMo_cut {f : Nat → Nat → Int32} {a k : Nat} {x : Int32} {M : zMo} (h : ctMo f a M) (hk : k ≤ M.2.length) (hx : x = nI k) : ctMo (zu f a 2 x) a (M.1, M.2.take k) := by
  obtain ⟨h1, h2, h3, h4⟩ := h
  refine ⟨?_, ?_, fun j hj => ?_, fun j e he => ?_⟩
  · rw [zu_at, hx, List.length_take, Nat.min_eq_left hk]
  · rw [List.length_take]
    omega
  · rw [zu_ne (by omega)]
    exact h3 j hj
  · rw [zu_ne (by omega)]
    refine h4 j e ?_
    rw [List.getElem?_take] at he
    split at he
    · exact he
    · cases he
/-- a Napkin: its own cell, its marks and wants behind it; its laws are rows of their own -/
def shNa (w : zW) (a : Nat) : Prop := zK w a = 4 ∧ zP w a 3 = some (a + 1) ∧ zP w a 4 = some (a + 2) ∧ zK w (a + 1) = 21 ∧ zK w (a + 2) = 21 ∧ zN w (a + 1) = 12 ∧ zN w (a + 2) = 4
theorem shNa_k {w : zW} {a : Nat} (h : shNa w a) : zK w a = 4 := h.1
theorem shNa_p0 {w : zW} {a : Nat} (h : shNa w a) : zP w a 3 = some (a + 1) := h.2.1
theorem shNa_p1 {w : zW} {a : Nat} (h : shNa w a) : zP w a 4 = some (a + 2) := h.2.2.1
theorem shNa_k1 {w : zW} {a : Nat} (h : shNa w a) : zK w (a + 1) = 21 := h.2.2.2.1
theorem shNa_k2 {w : zW} {a : Nat} (h : shNa w a) : zK w (a + 2) = 21 := h.2.2.2.2.1
theorem shNa_n1 {w : zW} {a : Nat} (h : shNa w a) : zN w (a + 1) = 12 := h.2.2.2.2.2.1
theorem shNa_n2 {w : zW} {a : Nat} (h : shNa w a) : zN w (a + 2) = 4 := h.2.2.2.2.2.2
def shDi (w : zW) (a : Nat) : Prop := zK w a = 1
theorem shDi_k {w : zW} {a : Nat} (h : shDi w a) : zK w a = 1 := h
/-- a napkin's lines, marks (a cell's front and back), wants -/
abbrev zNm : Type := Nat × List (Nat × Nat) × List Nat
def ctNa (f : Nat → Nat → Int32) (a : Nat) (N : zNm) : Prop := f a 0 = nI N.1 ∧ f a 1 = nI N.2.1.length ∧ f a 2 = nI N.2.2.length ∧ N.2.1.length ≤ 6 ∧ N.2.2.length ≤ 4 ∧ (∀ i (p : Nat × Nat), N.2.1[i]? = some p → f (a + 1) (2 * i) = nI p.1 ∧ f (a + 1) (2 * i + 1) = nI p.2) ∧ (∀ i, 2 * N.2.1.length ≤ i → i < 12 → f (a + 1) i = 0) ∧ (∀ i v, N.2.2[i]? = some v → f (a + 2) i = nI v) ∧ (∀ i, N.2.2.length ≤ i → i < 4 → f (a + 2) i = 0)
theorem ctNa_of {f f2 : Nat → Nat → Int32} {a : Nat} {N : zNm} (h : ctNa f a N) (e0 : f2 a = f a) (e1 : f2 (a + 1) = f (a + 1)) (e2 : f2 (a + 2) = f (a + 2)) : ctNa f2 a N := by
  unfold ctNa
  rw [e0, e1, e2]
  exact h
theorem ctNa_cell {f : Nat → Nat → Int32} {a p q : Nat} {x y z : Int32} {N : zNm} (h : ctNa f a N) (hl : N.2.1.length < 6) (hx : x = nI p) (hy : y = nI q) (hz : z = nI (N.2.1.length + 1)) : ctNa (zu (zu (zu f (a + 1) (2 * N.2.1.length) x) (a + 1) (2 * N.2.1.length + 1) y) a 1 z) a (N.1, N.2.1 ++ [(p, q)], N.2.2) := by
  obtain ⟨h1, h2, h3, h4, h5, h6, h7, h8, h9⟩ := h
  have r1 : ∀ j, zu (zu (zu f (a + 1) (2 * N.2.1.length) x) (a + 1) (2 * N.2.1.length + 1) y) a 1 z (a + 1) j = if j = 2 * N.2.1.length + 1 then y else if j = 2 * N.2.1.length then x else f (a + 1) j := by
    intro j
    rw [zu_ne (q := a + 1) (a := a) (by omega), zu_self, zu_self]
  refine ⟨?_, ?_, ?_, ?_, h5, fun i u hu => ?_, fun i hi hi2 => ?_, fun i v hv => ?_, fun i hi hi2 => ?_⟩
  · rw [zu_ni (by decide), zu_ne (by omega), zu_ne (by omega)]
    exact h1
  · rw [zu_at, hz, List.length_append]
    rfl
  · rw [zu_ni (by decide), zu_ne (by omega), zu_ne (by omega)]
    exact h3
  · rw [List.length_append]
    exact hl
  · rw [r1, r1]
    by_cases e : i < N.2.1.length
    · rw [List.getElem?_append_left e] at hu
      rw [if_neg (by omega), if_neg (by omega), if_neg (by omega), if_neg (by omega)]
      exact h6 i u hu
    · have hj : i = N.2.1.length := by
        have := (List.getElem?_eq_some_iff.mp hu).1
        rw [List.length_append] at this
        simp at this
        omega
      subst hj
      rw [List.getElem?_append_right (Nat.le_refl _), Nat.sub_self] at hu
      cases hu
      rw [if_neg (by omega), if_pos rfl, if_pos rfl]
      exact ⟨hx, hy⟩
  · rw [List.length_append] at hi
    simp at hi
    rw [r1, if_neg (by omega), if_neg (by omega)]
    exact h7 i (by omega) hi2
  · rw [zu_ne (by omega), zu_ne (by omega), zu_ne (by omega)]
    exact h8 i v hv
  · rw [zu_ne (by omega), zu_ne (by omega), zu_ne (by omega)]
    exact h9 i hi hi2
theorem ctNa_guest {f : Nat → Nat → Int32} {a p : Nat} {x z : Int32} {N : zNm} (h : ctNa f a N) (hl : N.2.2.length < 4) (hx : x = nI p) (hz : z = nI (N.2.2.length + 1)) : ctNa (zu (zu f (a + 2) N.2.2.length x) a 2 z) a (N.1, N.2.1, N.2.2 ++ [p]) := by
  obtain ⟨h1, h2, h3, h4, h5, h6, h7, h8, h9⟩ := h
  refine ⟨?_, ?_, ?_, h4, ?_, fun i u hu => ?_, fun i hi hi2 => ?_, fun i v hv => ?_, fun i hi hi2 => ?_⟩
  · rw [zu_ni (by decide), zu_ne (by omega)]
    exact h1
  · rw [zu_ni (by decide), zu_ne (by omega)]
    exact h2
  · rw [zu_at, hz, List.length_append]
    rfl
  · rw [List.length_append]
    exact hl
  · rw [zu_ne (by omega), zu_ne (by omega)]
    exact h6 i u hu
  · rw [zu_ne (by omega), zu_ne (by omega)]
    exact h7 i hi hi2
  · rw [zu_ne (by omega), zu_s2]
    by_cases e : i < N.2.2.length
    · rw [List.getElem?_append_left e] at hv
      rw [if_neg (by omega)]
      exact h8 i v hv
    · have hj : i = N.2.2.length := by
        have := (List.getElem?_eq_some_iff.mp hv).1
        rw [List.length_append] at this
        simp at this
        omega
      subst hj
      rw [List.getElem?_append_right (Nat.le_refl _), Nat.sub_self] at hv
      cases hv
      rw [if_pos rfl]
      exact hx
  · rw [List.length_append] at hi
    simp at hi
    rw [zu_ne (by omega), zu_s2, if_neg (by omega)]
    exact h9 i (by omega) hi2
/-- the marks that a napkin begins with -/
def naMk (N : zNm) (i : Nat) : Nat := match N.2.1[i / 2]? with
  | some p => if i % 2 = 0 then p.1 else p.2
  | none => 0
theorem ctNa_mk {f : Nat → Nat → Int32} {a : Nat} {N : zNm} (h : ctNa f a N) {i : Nat} (hi : i < 12) : f (a + 1) i = nI (naMk N i) := by
  obtain ⟨h1, h2, h3, h4, h5, h6, h7, h8, h9⟩ := h
  unfold naMk
  by_cases e : i / 2 < N.2.1.length
  · obtain ⟨p, hp⟩ : ∃ p, N.2.1[i / 2]? = some p := ⟨_, List.getElem?_eq_getElem e⟩
    rw [hp]
    obtain ⟨e1, e2⟩ := h6 _ p hp
    by_cases hm : i % 2 = 0
    · show _ = nI (if i % 2 = 0 then p.1 else p.2)
      rw [if_pos hm, ← e1]
      congr 1
      omega
    · show _ = nI (if i % 2 = 0 then p.1 else p.2)
      rw [if_neg hm, ← e2]
      congr 1
      omega
  · rw [List.getElem?_eq_none (by omega)]
    exact h7 i (by omega) hi
set_option maxHeartbeats 4000000 in
set_option maxRecDepth 100000 in
theorem s_X3_foldAt {g : zGT} {w : zW} {a : Nat} {M : zMo} {c : Int32} {Q : Option Value → zW → Prop} {QX : String → zW → Prop} (G : zGok g) (hs : shMo w a) (hc : ctMo (zI w) a M) (hQ : Q (some (.int (moFold M.2 c.toInt))) w) : zC g 1 yX3_foldAt cX3_foldAt 2 (some .int) [.ref a, .int c] w (0, 0) Q QX := by
  refine zC_of G (by decide +kernel) (Nat.le_of_ble_eq_true rfl) ?_
  obtain ⟨e1, e2, e3, e4⟩ := hc
  have nl : (zI w a 2).toInt = (M.2.length : Nat) := by rw [e1]; exact zi_n (by omega)
  have n5 : (nI (zN w (a + 2))).toInt = 5 := by rw [shMo_n2 hs]; rfl
  have i1 : (1 : Int32).toInt = 1 := rfl
  have i0 : (0 : Int32).toInt = 0 := rfl
  refine r_iload1 dX3_foldAt_0 ?_
  refine t_iflt (t := 30) dX3_foldAt_1 (by decide) (fun h1 => ?_) (fun h1 => ?_)
  · refine r_iconst (v := (-1)) dX3_foldAt_30 (by decide) ?_
    refine r_iret dX3_foldAt_31 rfl (Nat.le_of_ble_eq_true rfl) (Nat.le_of_ble_eq_true rfl) ?_
    first
      | (rw [show c.toNatClampNeg = c.toInt.toNat from (Int32.toNat_toInt c).symm, e4 _ _ hd]; exact hQ)
      | (have hf : moFold M.2 c.toInt = -1 := moFold_no (by omega)
         rw [hf] at hQ
         exact hQ)
  · refine r_iload1 dX3_foldAt_4 ?_
    refine r_aloadR0 dX3_foldAt_5 ?_
    refine r_getI zf_RX3_18 rfl dX3_foldAt_6 (shMo_k hs) ?_
    refine t_icge (t := 30) dX3_foldAt_9 (by decide) (fun h9 => ?_) (fun h9 => ?_)
    · refine r_iconst (v := (-1)) dX3_foldAt_30 (by decide) ?_
      refine r_iret dX3_foldAt_31 rfl (Nat.le_of_ble_eq_true rfl) (Nat.le_of_ble_eq_true rfl) ?_
      first
        | (rw [show c.toNatClampNeg = c.toInt.toNat from (Int32.toNat_toInt c).symm, e4 _ _ hd]; exact hQ)
        | (have hf : moFold M.2 c.toInt = -1 := moFold_no (by omega)
           rw [hf] at hQ
           exact hQ)
    · refine r_iload1 dX3_foldAt_12 ?_
      refine r_aloadR0 dX3_foldAt_13 ?_
      refine r_getR (q := (a + 2)) zf_RX3_15 rfl dX3_foldAt_14 (shMo_k hs) (shMo_p1 hs) ?_
      refine r_alen dX3_foldAt_17 (zge (shMo_k2 hs) (by decide)) ?_
      refine t_icge (t := 30) dX3_foldAt_18 (by decide) (fun h18 => False.elim (by omega)) (fun h18 => ?_)
      refine r_aloadR0 dX3_foldAt_21 ?_
      refine r_getR (q := (a + 2)) zf_RX3_15 rfl dX3_foldAt_22 (shMo_k hs) (shMo_p1 hs) ?_
      refine r_iload1 dX3_foldAt_25 ?_
      obtain ⟨d, hd⟩ : ∃ d, M.2[c.toInt.toNat]? = some d := ⟨_, List.getElem?_eq_getElem (by omega)⟩
      have hf : moFold M.2 c.toInt = nI d := by have := moFold_at hd; rw [show ((c.toInt.toNat : Nat) : Int) = c.toInt by omega] at this; exact this
      rw [hf] at hQ
      refine r_iald dX3_foldAt_26 (shMo_k2 hs) (by rw [shMo_n2 hs]; exact zi_in (by omega) (by omega)) ?_
      refine r_goto (t := 31) dX3_foldAt_27 (by decide) ?_
      refine r_iret dX3_foldAt_31 rfl (Nat.le_of_ble_eq_true rfl) (Nat.le_of_ble_eq_true rfl) ?_
      first
        | (rw [show c.toNatClampNeg = c.toInt.toNat from (Int32.toNat_toInt c).symm, e4 _ _ hd]; exact hQ)
        | (have hf : moFold M.2 c.toInt = -1 := moFold_no (by omega)
           rw [hf] at hQ
           exact hQ)
set_option maxHeartbeats 4000000 in
set_option maxRecDepth 100000 in
theorem s_X3_markOf {g : zGT} {w : zW} {a : Nat} {M : zMo} {c e : Nat} {x y : Int32} {Q : Option Value → zW → Prop} {QX : String → zW → Prop} (G : zGok g) (hs : shMo w a) (hc : ctMo (zI w) a M) (hcc : c < 6) (he : e < 2) (hx : x = nI c) (hy : y = nI e) (hQ : Q (some (.int (nI (M.1 (2 * c + e))))) w) : zC g 1 yX3_markOf cX3_markOf 4 (some .int) [.ref a, .int x, .int y] w (0, 0) Q QX := by
  refine zC_of G (by decide +kernel) (Nat.le_of_ble_eq_true rfl) ?_
  obtain ⟨e1, e2, e3, e4⟩ := hc
  subst hx
  subst hy
  have n12 : (nI (zN w (a + 1))).toInt = 12 := by rw [shMo_n1 hs]; rfl
  have na : 2 * nI c + nI e = nI (2 * c + e) := by
    have nc : (nI c).toInt = c := zi_n (by omega)
    have ne : (nI e).toInt = e := zi_n (by omega)
    have n2 : (2 * nI c).toInt = 2 * c := by rw [zi_mul (by rw [nc]; show _ ≤ (2 : Int) * _ ∧ (2 : Int) * _ < _; omega), nc]; rfl
    exact zi_of (by rw [zi_add (by omega), n2, ne]; omega) (by omega)
  have nn : (nI (2 * c + e)).toInt = (2 * c + e : Nat) := zi_n (by omega)
  have i1 : (1 : Int32).toInt = 1 := rfl
  have i0 : (0 : Int32).toInt = 0 := rfl
  refine r_iconst (v := 2) dX3_markOf_0 (by decide) ?_
  refine r_iload1 dX3_markOf_1 ?_
  refine r_imul dX3_markOf_2 ?_
  refine r_iload2 dX3_markOf_3 ?_
  refine r_iadd dX3_markOf_4 ?_
  rw [na]
  refine r_istore3 dX3_markOf_5 rfl ?_
  refine r_iload3 dX3_markOf_6 ?_
  refine t_iflt (t := 28) dX3_markOf_7 (by decide) (fun h7 => False.elim (by omega)) (fun h7 => ?_)
  refine r_iload3 dX3_markOf_10 ?_
  refine r_aloadR0 dX3_markOf_11 ?_
  refine r_getR (q := (a + 1)) zf_RX3_9 rfl dX3_markOf_12 (shMo_k hs) (shMo_p0 hs) ?_
  refine r_alen dX3_markOf_15 (zge (shMo_k1 hs) (by decide)) ?_
  refine t_icge (t := 28) dX3_markOf_16 (by decide) (fun h16 => False.elim (by omega)) (fun h16 => ?_)
  refine r_aloadR0 dX3_markOf_19 ?_
  refine r_getR (q := (a + 1)) zf_RX3_9 rfl dX3_markOf_20 (shMo_k hs) (shMo_p0 hs) ?_
  refine r_iload3 dX3_markOf_23 ?_
  refine r_iald dX3_markOf_24 (shMo_k1 hs) (by rw [shMo_n1 hs]; exact zi_in (by omega) (by omega)) ?_
  refine r_goto (t := 29) dX3_markOf_25 (by decide) ?_
  refine r_iret dX3_markOf_29 rfl (Nat.le_of_ble_eq_true rfl) (Nat.le_of_ble_eq_true rfl) ?_
  rw [nI_clamp (by omega), e3 _ (by omega)]
  exact hQ
set_option maxHeartbeats 4000000 in
set_option maxRecDepth 100000 in
theorem s_X3_take {g : zGT} {w : zW} {a q : Nat} {M : zMo} {Q : Option Value → zW → Prop} {QX : String → zW → Prop} (G : zGok g) (hs : shMo w a) (hs2 : shMo w q) (hc2 : ctMo (zI w) q M) (haq : q + 3 ≤ a ∨ a + 3 ≤ q) (hQ : ∀ f2, ofR (zI w) f2 a 3 → ctMo f2 a M → Q none (zsI w f2)) : zC g 1 yX3_take cX3_take 2 none [.ref a, .ref q] w (0, 0) Q QX := by
  refine zC_of G (by decide +kernel) (Nat.le_of_ble_eq_true rfl) ?_
  have m12 : ∀ r : Int32, r.toInt = min (nI (zN w (q + 1))).toInt (nI (zN w (a + 1))).toInt → r = nI 12 := by
    intro r hr
    rw [shMo_n1 hs2, shMo_n1 hs] at hr
    exact zi_of hr (by omega)
  have m5 : ∀ r : Int32, r.toInt = min (nI (zN w (q + 2))).toInt (nI (zN w (a + 2))).toInt → r = nI 5 := by
    intro r hr
    rw [shMo_n2 hs2, shMo_n2 hs] at hr
    exact zi_of hr (by omega)
  obtain ⟨e1, e2, e3, e4⟩ := hc2
  refine r_aloadR1 dX3_take_0 ?_
  refine r_getR (q := (q + 1)) zf_RX3_9 rfl dX3_take_1 (shMo_k hs2) (shMo_p0 hs2) ?_
  refine r_iconst (v := 0) dX3_take_4 (by decide) ?_
  refine r_aloadR0 dX3_take_5 ?_
  refine r_getR (q := (a + 1)) zf_RX3_9 rfl dX3_take_6 (shMo_k hs) (shMo_p0 hs) ?_
  refine r_iconst (v := 0) dX3_take_9 (by decide) ?_
  refine r_aloadR1 dX3_take_10 ?_
  refine r_getR (q := (q + 1)) zf_RX3_9 rfl dX3_take_11 (shMo_k hs2) (shMo_p0 hs2) ?_
  refine r_alen dX3_take_14 (zge (shMo_k1 hs2) (by decide)) ?_
  refine r_aloadR0 dX3_take_15 ?_
  refine r_getR (q := (a + 1)) zf_RX3_9 rfl dX3_take_16 (shMo_k hs) (shMo_p0 hs) ?_
  refine r_alen dX3_take_19 (zge (shMo_k1 hs) (by decide)) ?_
  refine r_mmin zm_RX3_25 dX3_take_20 (Nat.le_of_ble_eq_true rfl) (Nat.le_of_ble_eq_true rfl) (Nat.le_of_ble_eq_true rfl) (Nat.le_of_ble_eq_true rfl) (Nat.le_of_ble_eq_true rfl) (fun r er => ?_)
  have hr := m12 r er
  subst hr
  refine r_copyI cpy_RX3_31 cpy_nat cpy_stat cpy_ini dX3_take_23 (shMo_k1 hs2) (shMo_k1 hs) (by decide) (by decide) (by decide) (by rw [shMo_n1 hs2]; decide) (by rw [shMo_n1 hs]; decide) (Nat.le_of_ble_eq_true rfl) (Nat.le_of_ble_eq_true rfl) ?_
  refine r_aloadR1 dX3_take_26 ?_
  refine r_getR (q := (q + 2)) zf_RX3_15 rfl dX3_take_27 (shMo_k hs2) (shMo_p1 hs2) ?_
  refine r_iconst (v := 0) dX3_take_30 (by decide) ?_
  refine r_aloadR0 dX3_take_31 ?_
  refine r_getR (q := (a + 2)) zf_RX3_15 rfl dX3_take_32 (shMo_k hs) (shMo_p1 hs) ?_
  refine r_iconst (v := 0) dX3_take_35 (by decide) ?_
  refine r_aloadR1 dX3_take_36 ?_
  refine r_getR (q := (q + 2)) zf_RX3_15 rfl dX3_take_37 (shMo_k hs2) (shMo_p1 hs2) ?_
  refine r_alen dX3_take_40 (zge (shMo_k2 hs2) (by decide)) ?_
  refine r_aloadR0 dX3_take_41 ?_
  refine r_getR (q := (a + 2)) zf_RX3_15 rfl dX3_take_42 (shMo_k hs) (shMo_p1 hs) ?_
  refine r_alen dX3_take_45 (zge (shMo_k2 hs) (by decide)) ?_
  refine r_mmin zm_RX3_25 dX3_take_46 (Nat.le_of_ble_eq_true rfl) (Nat.le_of_ble_eq_true rfl) (Nat.le_of_ble_eq_true rfl) (Nat.le_of_ble_eq_true rfl) (Nat.le_of_ble_eq_true rfl) (fun r2 er2 => ?_)
  have hr2 := m5 r2 er2
  subst hr2
  refine r_copyI cpy_RX3_31 cpy_nat cpy_stat cpy_ini dX3_take_49 (shMo_k2 hs2) (shMo_k2 hs) (by decide) (by decide) (by decide) (by show _ ≤ zN w (q + 2); rw [shMo_n2 hs2]; decide) (by show _ ≤ zN w (a + 2); rw [shMo_n2 hs]; decide) (Nat.le_of_ble_eq_true rfl) (Nat.le_of_ble_eq_true rfl) ?_
  refine r_aloadR0 dX3_take_52 ?_
  refine r_aloadR1 dX3_take_53 ?_
  refine r_getI zf_RX3_18 rfl dX3_take_54 (shMo_k hs2) ?_
  refine r_putI zf_RX3_18 (by intro C T N h; cases h; rfl) rfl dX3_take_57 (shMo_k hs) ?_
  refine r_vret dX3_take_60 rfl (Nat.le_of_ble_eq_true rfl) (Nat.le_of_ble_eq_true rfl) ?_
  refine hQ _ (ofR_zu (ofR_zr (ofR_zr ofR_rf (by omega)) (by omega)) (by omega)) ⟨?_, e2, fun i hi => ?_, fun i d hd => ?_⟩
  · rw [zu_at]
    show zr (zr (zI w) _ _) _ _ q 2 = _
    unfold zr
    rw [if_neg (by omega), if_neg (by omega)]
    exact e1
  · rw [zu_ne (by omega)]
    show zr (zr (zI w) _ _) _ _ _ i = _
    unfold zr
    rw [if_neg (by omega), if_pos rfl]
    unfold va_cpy
    rw [if_pos (by show 0 ≤ i ∧ i < 0 + 12; omega)]
    rw [← e3 i hi]
    show zI w (q + 1) (0 + (i - 0)) = _
    congr 1
    omega
  · have h5 := (List.getElem?_eq_some_iff.mp hd).1
    rw [zu_ne (by omega)]
    show zr (zr (zI w) _ _) _ _ _ i = _
    unfold zr
    rw [if_pos rfl]
    unfold va_cpy
    rw [if_pos (by show 0 ≤ i ∧ i < 0 + 5; omega)]
    rw [← e4 i d hd]
    show zr (zI w) _ _ (q + 2) (0 + (i - 0)) = _
    unfold zr
    rw [if_neg (by omega)]
    congr 1
    omega
set_option maxHeartbeats 4000000 in
set_option maxRecDepth 100000 in
theorem s_X3_begin {g : zGT} {w : zW} {a q : Nat} {N : zNm} {Q : Option Value → zW → Prop} {QX : String → zW → Prop} (G : zGok g) (hs : shMo w a) (hs2 : shNa w q) (hc2 : ctNa (zI w) q N) (hQ : ∀ f2, ofR (zI w) f2 a 3 → ctMo f2 a (naMk N, []) → Q none (zsI w f2)) : zC g 1 yX3_begin cX3_begin 2 none [.ref a, .ref q] w (0, 0) Q QX := by
  refine zC_of G (by decide +kernel) (Nat.le_of_ble_eq_true rfl) ?_
  have m12 : ∀ r : Int32, r.toInt = min (nI (zN w (q + 1))).toInt (nI (zN w (a + 1))).toInt → r = nI 12 := by
    intro r hr
    rw [shNa_n1 hs2, shMo_n1 hs] at hr
    exact zi_of hr (by omega)
  refine r_aloadR1 dX3_begin_0 ?_
  refine r_getR (q := (q + 1)) zf_RX3_22 rfl dX3_begin_1 (shNa_k hs2) (shNa_p0 hs2) ?_
  refine r_iconst (v := 0) dX3_begin_4 (by decide) ?_
  refine r_aloadR0 dX3_begin_5 ?_
  refine r_getR (q := (a + 1)) zf_RX3_9 rfl dX3_begin_6 (shMo_k hs) (shMo_p0 hs) ?_
  refine r_iconst (v := 0) dX3_begin_9 (by decide) ?_
  refine r_aloadR1 dX3_begin_10 ?_
  refine r_getR (q := (q + 1)) zf_RX3_22 rfl dX3_begin_11 (shNa_k hs2) (shNa_p0 hs2) ?_
  refine r_alen dX3_begin_14 (zge (shNa_k1 hs2) (by decide)) ?_
  refine r_aloadR0 dX3_begin_15 ?_
  refine r_getR (q := (a + 1)) zf_RX3_9 rfl dX3_begin_16 (shMo_k hs) (shMo_p0 hs) ?_
  refine r_alen dX3_begin_19 (zge (shMo_k1 hs) (by decide)) ?_
  refine r_mmin zm_RX3_25 dX3_begin_20 (Nat.le_of_ble_eq_true rfl) (Nat.le_of_ble_eq_true rfl) (Nat.le_of_ble_eq_true rfl) (Nat.le_of_ble_eq_true rfl) (Nat.le_of_ble_eq_true rfl) (fun r er => ?_)
  have hr := m12 r er
  subst hr
  refine r_copyI cpy_RX3_31 cpy_nat cpy_stat cpy_ini dX3_begin_23 (shNa_k1 hs2) (shMo_k1 hs) (by decide) (by decide) (by decide) (by rw [shNa_n1 hs2]; decide) (by rw [shMo_n1 hs]; decide) (Nat.le_of_ble_eq_true rfl) (Nat.le_of_ble_eq_true rfl) ?_
  refine r_aloadR0 dX3_begin_26 ?_
  refine r_iconst (v := 0) dX3_begin_27 (by decide) ?_
  refine r_putI zf_RX3_18 (by intro C T N h; cases h; rfl) rfl dX3_begin_28 (shMo_k hs) ?_
  refine r_vret dX3_begin_31 rfl (Nat.le_of_ble_eq_true rfl) (Nat.le_of_ble_eq_true rfl) ?_
  refine hQ _ (ofR_zu (ofR_zr ofR_rf (by omega)) (by omega)) ⟨?_, Nat.zero_le _, fun i hi => ?_, fun i d hd => ?_⟩
  · rw [zu_at]
    rfl
  · rw [zu_ne (by omega)]
    show zr (zI w) _ _ _ i = _
    unfold zr
    rw [if_pos rfl]
    unfold va_cpy
    rw [if_pos (by show 0 ≤ i ∧ i < 0 + 12; omega)]
    rw [← ctNa_mk hc2 hi]
    show zI w (q + 1) (0 + (i - 0)) = _
    congr 1
    omega
  · simp at hd
set_option maxHeartbeats 4000000 in
set_option maxRecDepth 100000 in
theorem s_X3_putMark {g : zGT} {w : zW} {a : Nat} {M : zMo} {t e : Nat} {x y : Int32} {Q : Option Value → zW → Prop} {QX : String → zW → Prop} (G : zGok g) (hs : shMo w a) (hc : ctMo (zI w) a M) (ht : t < 600) (he : e < 2) (hx : x = nI t) (hy : y = nI e) (hQ : ∀ f2, ofR (zI w) f2 a 3 → ctMo f2 a (moPut M (2 * (t / 100) + e) (t % 100)) → Q none (zsI w f2)) : zC g 1 yX3_putMark cX3_putMark 4 none [.ref a, .int x, .int y] w (0, 0) Q QX := by
  refine zC_of G (by decide +kernel) (Nat.le_of_ble_eq_true rfl) ?_
  subst hx
  subst hy
  have n12 : (nI (zN w (a + 1))).toInt = 12 := by rw [shMo_n1 hs]; rfl
  have nd : nI t / 100 = nI (t / 100) := zi_divn (b := 100) (by omega) (by omega) (by omega)
  have nr : nI t - nI t / 100 * 100 = nI (t % 100) := zi_remn (b := 100) (by omega) (by omega) (by omega)
  have hq : t / 100 < 6 := by omega
  have na : 2 * nI (t / 100) + nI e = nI (2 * (t / 100) + e) := by
    have nc : (nI (t / 100)).toInt = (t / 100 : Nat) := zi_n (by omega)
    have ne : (nI e).toInt = e := zi_n (by omega)
    have n2 : (2 * nI (t / 100)).toInt = 2 * (t / 100 : Nat) := by rw [zi_mul (by rw [nc]; show _ ≤ (2 : Int) * _ ∧ (2 : Int) * _ < _; omega), nc]; rfl
    exact zi_of (by rw [zi_add (by omega), n2, ne]; omega) (by omega)
  have nn : (nI (2 * (t / 100) + e)).toInt = (2 * (t / 100) + e : Nat) := zi_n (by omega)
  have nt : (nI t).toInt = t := zi_n (by omega)
  have i1 : (1 : Int32).toInt = 1 := rfl
  have i0 : (0 : Int32).toInt = 0 := rfl
  refine r_iconst (v := 2) dX3_putMark_0 (by decide) ?_
  refine r_iload1 dX3_putMark_1 ?_
  refine r_bipush (v := 100) dX3_putMark_2 (by decide) ?_
  refine r_idiv dX3_putMark_4 (by decide) ?_
  refine r_imul dX3_putMark_5 ?_
  refine r_iload2 dX3_putMark_6 ?_
  refine r_iadd dX3_putMark_7 ?_
  rw [nd, na]
  refine r_istore3 dX3_putMark_8 rfl ?_
  refine r_iload1 dX3_putMark_9 ?_
  refine t_iflt (t := 32) dX3_putMark_10 (by decide) (fun h10 => False.elim (by omega)) (fun h10 => ?_)
  refine r_iload3 dX3_putMark_13 ?_
  refine r_aloadR0 dX3_putMark_14 ?_
  refine r_getR (q := (a + 1)) zf_RX3_9 rfl dX3_putMark_15 (shMo_k hs) (shMo_p0 hs) ?_
  refine r_alen dX3_putMark_18 (zge (shMo_k1 hs) (by decide)) ?_
  refine t_icge (t := 32) dX3_putMark_19 (by decide) (fun h19 => False.elim (by omega)) (fun h19 => ?_)
  refine r_aloadR0 dX3_putMark_22 ?_
  refine r_getR (q := (a + 1)) zf_RX3_9 rfl dX3_putMark_23 (shMo_k hs) (shMo_p0 hs) ?_
  refine r_iload3 dX3_putMark_26 ?_
  refine r_iload1 dX3_putMark_27 ?_
  refine r_bipush (v := 100) dX3_putMark_28 (by decide) ?_
  refine r_irem dX3_putMark_30 (by decide) ?_
  rw [nr]
  refine r_iast dX3_putMark_31 (shMo_k1 hs) (by rw [shMo_n1 hs]; exact zi_in (by omega) (by omega)) ?_
  refine r_vret dX3_putMark_32 rfl (Nat.le_of_ble_eq_true rfl) (Nat.le_of_ble_eq_true rfl) ?_
  rw [nI_clamp (by omega)]
  exact hQ _ (ofR_zu ofR_rf (by omega)) (ctMo_put hc rfl)
set_option maxHeartbeats 4000000 in
set_option maxRecDepth 100000 in
theorem s_X3_change {g : zGT} {w : zW} {a : Nat} {M : zMo} {d : Nat} {x : Int32} {Q : Option Value → zW → Prop} {QX : String → zW → Prop} (G : zGok g) (hs : shMo w a) (hc : ctMo (zI w) a M) (hx : x = nI d) (h1 : d < 1600 ∨ 2000 ≤ d ∧ d < 2600) (h2 : d < 1000 → d = 100 ∨ d = 200 ∨ d < 100 ∧ M.2.length < 5) (hQ : ∀ f2, ofR (zI w) f2 a 3 → ctMo f2 a (moDo M d) → Q none (zsI w f2)) : zC g 2 yX3_change cX3_change 2 none [.ref a, .int x] w (0, 0) Q QX := by
  refine zC_of G (by decide +kernel) (Nat.le_of_ble_eq_true rfl) ?_
  subst hx
  have nd : (nI d).toInt = d := zi_n (by omega)
  have c2 : (2000 : Int32).toInt = 2000 := rfl
  have c1 : (1000 : Int32).toInt = 1000 := rfl
  have c3 : (200 : Int32).toInt = 200 := rfl
  have c4 : (100 : Int32).toInt = 100 := rfl
  have n5 : (nI (zN w (a + 2))).toInt = 5 := by rw [shMo_n2 hs]; rfl
  have nl : (zI w a 2).toInt = (M.2.length : Nat) := by rw [hc.1]; exact zi_n (by have := hc.2.1; omega)
  have h5 := hc.2.1
  have i1 : (1 : Int32).toInt = 1 := rfl
  have i0 : (0 : Int32).toInt = 0 := rfl
  refine r_iload1 dX3_change_0 ?_
  refine r_sipush (v := 2000) dX3_change_1 (by decide) ?_
  refine t_iclt (t := 20) dX3_change_4 (by decide) (fun h4 => ?_) (fun h4 => ?_)
  · refine r_iload1 dX3_change_20 ?_
    refine r_sipush (v := 1000) dX3_change_21 (by decide) ?_
    refine t_iclt (t := 40) dX3_change_24 (by decide) (fun h24 => ?_) (fun h24 => ?_)
    · refine r_iload1 dX3_change_40 ?_
      refine r_sipush (v := 200) dX3_change_41 (by decide) ?_
      refine t_icne (t := 55) dX3_change_44 (by decide) (fun h44 => ?_) (fun h44 => ?_)
      · refine r_iload1 dX3_change_55 ?_
        refine r_bipush (v := 100) dX3_change_56 (by decide) ?_
        refine t_icne (t := 78) dX3_change_58 (by decide) (fun h58 => ?_) (fun h58 => ?_)
        · refine r_aloadR0 dX3_change_78 ?_
          refine r_getI zf_RX3_18 rfl dX3_change_79 (shMo_k hs) ?_
          refine t_iflt (t := 117) dX3_change_82 (by decide) (fun h82 => False.elim (by omega)) (fun h82 => ?_)
          refine r_aloadR0 dX3_change_85 ?_
          refine r_getI zf_RX3_18 rfl dX3_change_86 (shMo_k hs) ?_
          refine r_aloadR0 dX3_change_89 ?_
          refine r_getR (q := (a + 2)) zf_RX3_15 rfl dX3_change_90 (shMo_k hs) (shMo_p1 hs) ?_
          refine r_alen dX3_change_93 (zge (shMo_k2 hs) (by decide)) ?_
          refine t_icge (t := 117) dX3_change_94 (by decide) (fun h94 => False.elim (by omega)) (fun h94 => ?_)
          refine r_aloadR0 dX3_change_97 ?_
          refine r_getR (q := (a + 2)) zf_RX3_15 rfl dX3_change_98 (shMo_k hs) (shMo_p1 hs) ?_
          refine r_aloadR0 dX3_change_101 ?_
          refine r_getI zf_RX3_18 rfl dX3_change_102 (shMo_k hs) ?_
          refine r_iload1 dX3_change_105 ?_
          refine r_iast dX3_change_106 (shMo_k2 hs) (by rw [shMo_n2 hs]; exact zi_in (by omega) (by omega)) ?_
          refine r_aloadR0 dX3_change_107 ?_
          refine r_dup dX3_change_108 rfl ?_
          refine r_getV (x := zI w a 2) zf_RX3_18 rfl dX3_change_109 (shMo_k hs) (zu_ne2 (by omega)) ?_
          refine r_iconst (v := 1) dX3_change_112 (by decide) ?_
          refine r_iadd dX3_change_113 ?_
          refine r_putI zf_RX3_18 (by intro C T N h; cases h; rfl) rfl dX3_change_114 (shMo_k hs) ?_
          refine r_vret dX3_change_117 rfl (Nat.le_of_ble_eq_true rfl) (Nat.le_of_ble_eq_true rfl) ?_
          first
            | exact hQ f2 ho2 hc2
            | (have hm : moDo M d = (M.1, M.2.take 0) := by unfold moDo; rw [if_neg (by omega), if_neg (by omega), if_pos (by omega)]; rfl
               refine hQ _ (ofR_zu ofR_rf (by omega)) ?_
               rw [hm]
               exact ctMo_cut hc (Nat.zero_le _) rfl)
            | (have hm : moDo M d = (M.1, M.2.take (M.2.length - 1)) := by unfold moDo; rw [if_neg (by omega), if_neg (by omega), if_neg (by omega), if_pos (by omega), List.dropLast_eq_take]
               refine hQ _ (ofR_zu ofR_rf (by omega)) ?_
               rw [hm]
               exact ctMo_cut hc (Nat.sub_le _ _) hr)
            | (have hm : moDo M d = (M.1, M.2 ++ [d]) := by unfold moDo; rw [if_neg (by omega), if_neg (by omega), if_neg (by omega), if_neg (by omega)]
               refine hQ _ (ofR_zu (ofR_zu ofR_rf (by omega)) (by omega)) ?_
               rw [hm, hc.1, nI_clamp (by omega)]
               exact ctMo_add hc (by omega) rfl (nI_1 _))
        · refine r_aloadR0 dX3_change_61 ?_
          refine r_iconst (v := 0) dX3_change_62 (by decide) ?_
          refine r_aloadR0 dX3_change_63 ?_
          refine r_getI zf_RX3_18 rfl dX3_change_64 (shMo_k hs) ?_
          refine r_iconst (v := 1) dX3_change_67 (by decide) ?_
          refine r_isub dX3_change_68 ?_
          refine r_mmax zm_RX3_41 dX3_change_69 (Nat.le_of_ble_eq_true rfl) (Nat.le_of_ble_eq_true rfl) (Nat.le_of_ble_eq_true rfl) (Nat.le_of_ble_eq_true rfl) (Nat.le_of_ble_eq_true rfl) (fun r er => ?_)
          have hr : r = nI (M.2.length - 1) := zi_of (by rw [er, zi_sub (by omega), nl]; omega) (by omega)
          refine r_putI zf_RX3_18 (by intro C T N h; cases h; rfl) rfl dX3_change_72 (shMo_k hs) ?_
          refine r_goto (t := 117) dX3_change_75 (by decide) ?_
          refine r_vret dX3_change_117 rfl (Nat.le_of_ble_eq_true rfl) (Nat.le_of_ble_eq_true rfl) ?_
          first
            | exact hQ f2 ho2 hc2
            | (have hm : moDo M d = (M.1, M.2.take 0) := by unfold moDo; rw [if_neg (by omega), if_neg (by omega), if_pos (by omega)]; rfl
               refine hQ _ (ofR_zu ofR_rf (by omega)) ?_
               rw [hm]
               exact ctMo_cut hc (Nat.zero_le _) rfl)
            | (have hm : moDo M d = (M.1, M.2.take (M.2.length - 1)) := by unfold moDo; rw [if_neg (by omega), if_neg (by omega), if_neg (by omega), if_pos (by omega), List.dropLast_eq_take]
               refine hQ _ (ofR_zu ofR_rf (by omega)) ?_
               rw [hm]
               exact ctMo_cut hc (Nat.sub_le _ _) hr)
            | (have hm : moDo M d = (M.1, M.2 ++ [d]) := by unfold moDo; rw [if_neg (by omega), if_neg (by omega), if_neg (by omega), if_neg (by omega)]
               refine hQ _ (ofR_zu (ofR_zu ofR_rf (by omega)) (by omega)) ?_
               rw [hm, hc.1, nI_clamp (by omega)]
               exact ctMo_add hc (by omega) rfl (nI_1 _))
      · refine r_aloadR0 dX3_change_47 ?_
        refine r_iconst (v := 0) dX3_change_48 (by decide) ?_
        refine r_putI zf_RX3_18 (by intro C T N h; cases h; rfl) rfl dX3_change_49 (shMo_k hs) ?_
        refine r_goto (t := 117) dX3_change_52 (by decide) ?_
        refine r_vret dX3_change_117 rfl (Nat.le_of_ble_eq_true rfl) (Nat.le_of_ble_eq_true rfl) ?_
        first
          | exact hQ f2 ho2 hc2
          | (have hm : moDo M d = (M.1, M.2.take 0) := by unfold moDo; rw [if_neg (by omega), if_neg (by omega), if_pos (by omega)]; rfl
             refine hQ _ (ofR_zu ofR_rf (by omega)) ?_
             rw [hm]
             exact ctMo_cut hc (Nat.zero_le _) rfl)
          | (have hm : moDo M d = (M.1, M.2.take (M.2.length - 1)) := by unfold moDo; rw [if_neg (by omega), if_neg (by omega), if_neg (by omega), if_pos (by omega), List.dropLast_eq_take]
             refine hQ _ (ofR_zu ofR_rf (by omega)) ?_
             rw [hm]
             exact ctMo_cut hc (Nat.sub_le _ _) hr)
          | (have hm : moDo M d = (M.1, M.2 ++ [d]) := by unfold moDo; rw [if_neg (by omega), if_neg (by omega), if_neg (by omega), if_neg (by omega)]
             refine hQ _ (ofR_zu (ofR_zu ofR_rf (by omega)) (by omega)) ?_
             rw [hm, hc.1, nI_clamp (by omega)]
             exact ctMo_add hc (by omega) rfl (nI_1 _))
    · refine r_aloadR0 dX3_change_27 ?_
      refine r_iload1 dX3_change_28 ?_
      refine r_sipush (v := 1000) dX3_change_29 (by decide) ?_
      refine r_isub dX3_change_32 ?_
      refine r_iconst (v := 0) dX3_change_33 (by decide) ?_
      refine q_callV2 zm_RX3_37 dX3_change_34 (shMo_k hs) (by decide) rfl (Nat.le_of_ble_eq_true rfl) (Nat.le_of_ble_eq_true rfl) (Nat.le_of_ble_eq_true rfl) (Nat.le_of_ble_eq_true rfl) (Nat.le_of_ble_eq_true rfl) (s_X3_putMark (t := d - 1000) (e := 0) G hs hc (by omega) (by omega) (zi_of (by rw [zi_sub (by omega)]; omega) (by omega)) rfl (fun f2 ho2 hc2 => ?_))
      have hm : moDo M d = moPut M (2 * ((d - 1000) / 100)) ((d - 1000) % 100) := by unfold moDo; rw [if_neg (by omega), if_pos (by omega)]
      rw [Nat.add_zero, ← hm] at hc2
      refine r_goto (t := 117) dX3_change_37 (by decide) ?_
      refine r_vret dX3_change_117 rfl (Nat.le_of_ble_eq_true rfl) (Nat.le_of_ble_eq_true rfl) ?_
      first
        | exact hQ f2 ho2 hc2
        | (have hm : moDo M d = (M.1, M.2.take 0) := by unfold moDo; rw [if_neg (by omega), if_neg (by omega), if_pos (by omega)]; rfl
           refine hQ _ (ofR_zu ofR_rf (by omega)) ?_
           rw [hm]
           exact ctMo_cut hc (Nat.zero_le _) rfl)
        | (have hm : moDo M d = (M.1, M.2.take (M.2.length - 1)) := by unfold moDo; rw [if_neg (by omega), if_neg (by omega), if_neg (by omega), if_pos (by omega), List.dropLast_eq_take]
           refine hQ _ (ofR_zu ofR_rf (by omega)) ?_
           rw [hm]
           exact ctMo_cut hc (Nat.sub_le _ _) hr)
        | (have hm : moDo M d = (M.1, M.2 ++ [d]) := by unfold moDo; rw [if_neg (by omega), if_neg (by omega), if_neg (by omega), if_neg (by omega)]
           refine hQ _ (ofR_zu (ofR_zu ofR_rf (by omega)) (by omega)) ?_
           rw [hm, hc.1, nI_clamp (by omega)]
           exact ctMo_add hc (by omega) rfl (nI_1 _))
  · refine r_aloadR0 dX3_change_7 ?_
    refine r_iload1 dX3_change_8 ?_
    refine r_sipush (v := 2000) dX3_change_9 (by decide) ?_
    refine r_isub dX3_change_12 ?_
    refine r_iconst (v := 1) dX3_change_13 (by decide) ?_
    refine q_callV2 zm_RX3_37 dX3_change_14 (shMo_k hs) (by decide) rfl (Nat.le_of_ble_eq_true rfl) (Nat.le_of_ble_eq_true rfl) (Nat.le_of_ble_eq_true rfl) (Nat.le_of_ble_eq_true rfl) (Nat.le_of_ble_eq_true rfl) (s_X3_putMark (t := d - 2000) (e := 1) G hs hc (by omega) (by omega) (zi_of (by rw [zi_sub (by omega)]; omega) (by omega)) rfl (fun f2 ho2 hc2 => ?_))
    have hm : moDo M d = moPut M (2 * ((d - 2000) / 100) + 1) ((d - 2000) % 100) := if_pos (by omega)
    rw [← hm] at hc2
    refine r_goto (t := 117) dX3_change_17 (by decide) ?_
    refine r_vret dX3_change_117 rfl (Nat.le_of_ble_eq_true rfl) (Nat.le_of_ble_eq_true rfl) ?_
    first
      | exact hQ f2 ho2 hc2
      | (have hm : moDo M d = (M.1, M.2.take 0) := by unfold moDo; rw [if_neg (by omega), if_neg (by omega), if_pos (by omega)]; rfl
         refine hQ _ (ofR_zu ofR_rf (by omega)) ?_
         rw [hm]
         exact ctMo_cut hc (Nat.zero_le _) rfl)
      | (have hm : moDo M d = (M.1, M.2.take (M.2.length - 1)) := by unfold moDo; rw [if_neg (by omega), if_neg (by omega), if_neg (by omega), if_pos (by omega), List.dropLast_eq_take]
         refine hQ _ (ofR_zu ofR_rf (by omega)) ?_
         rw [hm]
         exact ctMo_cut hc (Nat.sub_le _ _) hr)
      | (have hm : moDo M d = (M.1, M.2 ++ [d]) := by unfold moDo; rw [if_neg (by omega), if_neg (by omega), if_neg (by omega), if_neg (by omega)]
         refine hQ _ (ofR_zu (ofR_zu ofR_rf (by omega)) (by omega)) ?_
         rw [hm, hc.1, nI_clamp (by omega)]
         exact ctMo_add hc (by omega) rfl (nI_1 _))
set_option maxHeartbeats 4000000 in
set_option maxRecDepth 100000 in
theorem s_X4_wantOf {g : zGT} {w : zW} {a : Nat} {N : zNm} {g2 v : Nat} {x : Int32} {Q : Option Value → zW → Prop} {QX : String → zW → Prop} (G : zGok g) (hs : shNa w a) (hc : ctNa (zI w) a N) (hg : N.2.2[g2]? = some v) (hx : x = nI g2) (hQ : Q (some (.int (nI v))) w) : zC g 1 yX4_wantOf cX4_wantOf 2 (some .int) [.ref a, .int x] w (0, 0) Q QX := by
  refine zC_of G (by decide +kernel) (Nat.le_of_ble_eq_true rfl) ?_
  subst hx
  have hl := (List.getElem?_eq_some_iff.mp hg).1
  have h4 := hc.2.2.2.2.1
  have n4 : (nI (zN w (a + 2))).toInt = 4 := by rw [shNa_n2 hs]; rfl
  have nn : (nI g2).toInt = g2 := zi_n (by omega)
  have i1 : (1 : Int32).toInt = 1 := rfl
  have i0 : (0 : Int32).toInt = 0 := rfl
  refine r_iload1 dX4_wantOf_0 ?_
  refine t_iflt (t := 22) dX4_wantOf_1 (by decide) (fun h1 => False.elim (by omega)) (fun h1 => ?_)
  refine r_iload1 dX4_wantOf_4 ?_
  refine r_aloadR0 dX4_wantOf_5 ?_
  refine r_getR (q := (a + 2)) zf_RX4_25 rfl dX4_wantOf_6 (shNa_k hs) (shNa_p1 hs) ?_
  refine r_alen dX4_wantOf_9 (zge (shNa_k2 hs) (by decide)) ?_
  refine t_icge (t := 22) dX4_wantOf_10 (by decide) (fun h10 => False.elim (by omega)) (fun h10 => ?_)
  refine r_aloadR0 dX4_wantOf_13 ?_
  refine r_getR (q := (a + 2)) zf_RX4_25 rfl dX4_wantOf_14 (shNa_k hs) (shNa_p1 hs) ?_
  refine r_iload1 dX4_wantOf_17 ?_
  refine r_iald dX4_wantOf_18 (shNa_k2 hs) (by rw [shNa_n2 hs]; exact zi_in (by omega) (by omega)) ?_
  refine r_goto (t := 23) dX4_wantOf_19 (by decide) ?_
  refine r_iret dX4_wantOf_23 rfl (Nat.le_of_ble_eq_true rfl) (Nat.le_of_ble_eq_true rfl) ?_
  rw [nI_clamp (by omega), hc.2.2.2.2.2.2.2.1 _ _ hg]
  exact hQ
set_option maxHeartbeats 4000000 in
set_option maxRecDepth 100000 in
theorem s_X4_addCell {g : zGT} {w : zW} {a : Nat} {N : zNm} {p q : Nat} {x y : Int32} {Q : Option Value → zW → Prop} {QX : String → zW → Prop} (G : zGok g) (hs : shNa w a) (hc : ctNa (zI w) a N) (hl : N.2.1.length < 6) (hx : x = nI p) (hy : y = nI q) (hQ : ∀ f2, ofR (zI w) f2 a 3 → ctNa f2 a (N.1, N.2.1 ++ [(p, q)], N.2.2) → Q none (zsI w f2)) : zC g 1 yX4_addCell cX4_addCell 4 none [.ref a, .int x, .int y] w (0, 0) Q QX := by
  refine zC_of G (by decide +kernel) (Nat.le_of_ble_eq_true rfl) ?_
  have n12 : (nI (zN w (a + 1))).toInt = 12 := by rw [shNa_n1 hs]; rfl
  have nc : (nI N.2.1.length).toInt = N.2.1.length := zi_n (by omega)
  have ec : zI w a 1 = nI N.2.1.length := hc.2.1
  have n2 : 2 * nI N.2.1.length = nI (2 * N.2.1.length) := zi_of (by rw [zi_mul (by rw [nc]; show _ ≤ (2 : Int) * _ ∧ (2 : Int) * _ < _; omega), nc]; show (2 : Int) * _ = _; omega) (by omega)
  have n3 : nI (2 * N.2.1.length) + 1 = nI (2 * N.2.1.length + 1) := nI_1 _
  have n22 : (nI (2 * N.2.1.length)).toInt = (2 * N.2.1.length : Nat) := zi_n (by omega)
  have n33 : (nI (2 * N.2.1.length + 1)).toInt = (2 * N.2.1.length + 1 : Nat) := zi_n (by omega)
  refine r_iconst (v := 2) dX4_addCell_0 (by decide) ?_
  refine r_aloadR0 dX4_addCell_1 ?_
  refine r_getI zf_RX4_15 rfl dX4_addCell_2 (shNa_k hs) ?_
  refine r_imul dX4_addCell_5 ?_
  rw [ec, n2]
  refine r_istore3 dX4_addCell_6 rfl ?_
  refine r_iload3 dX4_addCell_7 ?_
  refine r_iconst (v := 1) dX4_addCell_8 (by decide) ?_
  refine r_iadd dX4_addCell_9 ?_
  rw [n3]
  refine r_aloadR0 dX4_addCell_10 ?_
  refine r_getR (q := (a + 1)) zf_RX4_21 rfl dX4_addCell_11 (shNa_k hs) (shNa_p0 hs) ?_
  refine r_alen dX4_addCell_14 (zge (shNa_k1 hs) (by decide)) ?_
  refine t_icge (t := 44) dX4_addCell_15 (by decide) (fun h15 => False.elim (by omega)) (fun h15 => ?_)
  refine r_aloadR0 dX4_addCell_18 ?_
  refine r_getR (q := (a + 1)) zf_RX4_21 rfl dX4_addCell_19 (shNa_k hs) (shNa_p0 hs) ?_
  refine r_iload3 dX4_addCell_22 ?_
  refine r_iload1 dX4_addCell_23 ?_
  refine r_iast dX4_addCell_24 (shNa_k1 hs) (by rw [shNa_n1 hs]; exact zi_in (by omega) (by omega)) ?_
  refine r_aloadR0 dX4_addCell_25 ?_
  refine r_getR (q := (a + 1)) zf_RX4_21 rfl dX4_addCell_26 (shNa_k hs) (shNa_p0 hs) ?_
  refine r_iload3 dX4_addCell_29 ?_
  refine r_iconst (v := 1) dX4_addCell_30 (by decide) ?_
  refine r_iadd dX4_addCell_31 ?_
  rw [n3]
  refine r_iload2 dX4_addCell_32 ?_
  refine r_iast dX4_addCell_33 (shNa_k1 hs) (by show vp_in _ (zN w (a + 1)); rw [shNa_n1 hs]; exact zi_in (by omega) (by omega)) ?_
  refine r_aloadR0 dX4_addCell_34 ?_
  refine r_dup dX4_addCell_35 rfl ?_
  refine r_getV (x := zI w a 1) zf_RX4_15 rfl dX4_addCell_36 (shNa_k hs) ((zu_ne2 (by omega)).trans (zu_ne2 (by omega))) ?_
  refine r_iconst (v := 1) dX4_addCell_39 (by decide) ?_
  refine r_iadd dX4_addCell_40 ?_
  refine r_putI zf_RX4_15 (by intro C T N h; cases h; rfl) rfl dX4_addCell_41 (shNa_k hs) ?_
  refine r_vret dX4_addCell_44 rfl (Nat.le_of_ble_eq_true rfl) (Nat.le_of_ble_eq_true rfl) ?_
  rw [nI_clamp (by omega), nI_clamp (by omega), ec]
  exact hQ _ (ofR_zu (ofR_zu (ofR_zu ofR_rf (by omega)) (by omega)) (by omega)) (ctNa_cell hc hl hx hy (nI_1 _))
set_option maxHeartbeats 4000000 in
set_option maxRecDepth 100000 in
theorem s_X4_addGuest {g : zGT} {w : zW} {a : Nat} {N : zNm} {p : Nat} {x : Int32} {Q : Option Value → zW → Prop} {QX : String → zW → Prop} (G : zGok g) (hs : shNa w a) (hc : ctNa (zI w) a N) (hl : N.2.2.length < 4) (hx : x = nI p) (hQ : ∀ f2, ofR (zI w) f2 a 3 → ctNa f2 a (N.1, N.2.1, N.2.2 ++ [p]) → Q none (zsI w f2)) : zC g 1 yX4_addGuest cX4_addGuest 2 none [.ref a, .int x] w (0, 0) Q QX := by
  refine zC_of G (by decide +kernel) (Nat.le_of_ble_eq_true rfl) ?_
  have n4 : (nI (zN w (a + 2))).toInt = 4 := by rw [shNa_n2 hs]; rfl
  have nc : (zI w a 2).toInt = N.2.2.length := by rw [hc.2.2.1]; exact zi_n (by omega)
  refine r_aloadR0 dX4_addGuest_0 ?_
  refine r_getI zf_RX4_18 rfl dX4_addGuest_1 (shNa_k hs) ?_
  refine r_aloadR0 dX4_addGuest_4 ?_
  refine r_getR (q := (a + 2)) zf_RX4_25 rfl dX4_addGuest_5 (shNa_k hs) (shNa_p1 hs) ?_
  refine r_alen dX4_addGuest_8 (zge (shNa_k2 hs) (by decide)) ?_
  refine t_icge (t := 32) dX4_addGuest_9 (by decide) (fun h9 => False.elim (by omega)) (fun h9 => ?_)
  refine r_aloadR0 dX4_addGuest_12 ?_
  refine r_getR (q := (a + 2)) zf_RX4_25 rfl dX4_addGuest_13 (shNa_k hs) (shNa_p1 hs) ?_
  refine r_aloadR0 dX4_addGuest_16 ?_
  refine r_getI zf_RX4_18 rfl dX4_addGuest_17 (shNa_k hs) ?_
  refine r_iload1 dX4_addGuest_20 ?_
  refine r_iast dX4_addGuest_21 (shNa_k2 hs) (by rw [shNa_n2 hs]; exact zi_in (by omega) (by omega)) ?_
  refine r_aloadR0 dX4_addGuest_22 ?_
  refine r_dup dX4_addGuest_23 rfl ?_
  refine r_getV (x := zI w a 2) zf_RX4_18 rfl dX4_addGuest_24 (shNa_k hs) (zu_ne2 (by omega)) ?_
  refine r_iconst (v := 1) dX4_addGuest_27 (by decide) ?_
  refine r_iadd dX4_addGuest_28 ?_
  refine r_putI zf_RX4_18 (by intro C T N h; cases h; rfl) rfl dX4_addGuest_29 (shNa_k hs) ?_
  refine r_vret dX4_addGuest_32 rfl (Nat.le_of_ble_eq_true rfl) (Nat.le_of_ble_eq_true rfl) ?_
  rw [hc.2.2.1, nI_clamp (by omega)]
  exact hQ _ (ofR_zu (ofR_zu ofR_rf (by omega)) (by omega)) (ctNa_guest hc hl hx (nI_1 _))
set_option maxHeartbeats 4000000 in
set_option maxRecDepth 100000 in
theorem s_X1_draw {g : zGT} {w : zW} {a : Nat} {Q : Option Value → zW → Prop} {QX : String → zW → Prop} (G : zGok g) (hs : shDi w a) (hQ : ∀ x, x = 1103515245 * zI w a 0 + 12345 → Q (some (.int ((x.toUInt32 >>> (16 &&& 31)).toInt32))) (zsI w (zu (zI w) a 0 x))) : zC g 1 yX1_draw cX1_draw 1 (some .int) [.ref a] w (0, 0) Q QX := by
  refine zC_of G (by decide +kernel) (Nat.le_of_ble_eq_true rfl) ?_
  refine r_aloadR0 dX1_draw_0 ?_
  refine r_ldc zk_RX1_13 dX1_draw_1 ?_
  refine r_aloadR0 dX1_draw_3 ?_
  refine r_getI zf_RX1_7 rfl dX1_draw_4 (shDi_k hs) ?_
  refine r_imul dX1_draw_7 ?_
  refine r_sipush (v := 12345) dX1_draw_8 (by decide) ?_
  refine r_iadd dX1_draw_11 ?_
  refine r_putI zf_RX1_7 (by intro C T N h; cases h; rfl) rfl dX1_draw_12 (shDi_k hs) ?_
  refine r_aloadR0 dX1_draw_15 ?_
  refine r_getV (x := 1103515245 * zI w a 0 + 12345) zf_RX1_7 rfl dX1_draw_16 (shDi_k hs) (zu_at) ?_
  refine r_bipush (v := 16) dX1_draw_19 (by decide) ?_
  refine r_iushr dX1_draw_21 ?_
  refine r_iret dX1_draw_22 rfl (Nat.le_of_ble_eq_true rfl) (Nat.le_of_ble_eq_true rfl) ?_
  exact hQ _ rfl
