/-! Ways: all nodes from one look -/
def kX (z : zRw) (i way : Nat) : zRw := (lyFold z.1 (i + 1) way, z.2.1 ++ [10 * (i + 1) + way], z.2.2)
def xP (z : zRw) (i t : Nat) : List zRw := (List.range i).flatMap (fun k => (List.range 4).map (kX z k)) ++ (List.range t).map (kX z i)
theorem xP_t {z : zRw} {i t : Nat} : xP z i (t + 1) = xP z i t ++ [kX z i t] := by
  unfold xP
  rw [List.range_succ (n := t), List.map_append, List.append_assoc]
  rfl
theorem xP_4 {z : zRw} {i : Nat} : xP z i 4 = xP z (i + 1) 0 := by
  unfold xP
  rw [List.range_succ (n := i), List.flatMap_append, List.flatMap_cons, List.flatMap_nil, List.append_nil]
  show _ = _ ++ List.map (kX z (i + 1)) []
  rw [List.map_nil, List.append_nil]
theorem chR_x {z : zRw} : chR z = xP z (z.1.length - 1) 0 := by
  unfold chR kidL xP
  rw [List.map_flatMap]
  show _ = _ ++ []
  rw [List.append_nil]
  congr 1
theorem xP_len {z : zRw} {i t : Nat} : (xP z i t).length = 4 * i + t := by
  induction i with
  | zero =>
    unfold xP
    rw [List.length_append, List.length_map, List.length_range]
    show 0 + t = _
    omega
  | succ i ih =>
    have e : xP z (i + 1) t = (xP z (i + 1) 0) ++ (List.range t).map (kX z (i + 1)) := by
      unfold xP
      show _ = (_ ++ List.map (kX z (i + 1)) []) ++ _
      rw [List.map_nil, List.append_nil]
    rw [e, List.length_append, ← xP_4, List.length_map, List.length_range]
    have e2_z : xP z i 4 = xP z i 0 ++ (List.range 4).map (kX z i) := by
      unfold xP
      show _ = (_ ++ List.map (kX z i) []) ++ _
      rw [List.map_nil, List.append_nil]
    have e3_z : (xP z i t).length = (xP z i 0).length + t := by
      unfold xP
      rw [List.length_append, List.length_append, List.length_map, List.length_range]
      show _ = _ + 0 + t
      omega
    rw [e2_z, List.length_append, List.length_map, List.length_range]
    omega
theorem xP_mem {z x : zRw} {i t : Nat} (h_z : x ∈ xP z i t) : ∃ k way, (k < i ∧ way < 4 ∨ k = i ∧ way < t) ∧ x = kX z k way := by
  unfold xP at h_z
  rcases List.mem_append.mp h_z with h_z | h_z
  · obtain ⟨k, h1, h2⟩ := List.mem_flatMap.mp h_z
    obtain ⟨way, h3, h4⟩ := List.mem_map.mp h2
    exact ⟨k, way, Or.inl ⟨List.mem_range.mp h1, List.mem_range.mp h3⟩, h4.symm⟩
  · obtain ⟨way, h3, h4⟩ := List.mem_map.mp h_z
    exact ⟨i, way, Or.inr ⟨rfl, List.mem_range.mp h3⟩, h4.symm⟩
theorem distR_sam {NL NL2 : List zRw} (h_z : samL NL NL2) (hd_z : distR NL) : distR NL2 := by
  intro i k y u hy hu e
  obtain ⟨y2, a1, a2, -⟩ := samL_at (samL_sy h_z) hy
  obtain ⟨u2, b1, b2, -⟩ := samL_at (samL_sy h_z) hu
  exact hd_z i k y2 u2 a1 b1 (by rw [a2, b2]; exact e)
theorem distR_ins {B : List zRw} {x : zRw} (h_z : distR B) : distR (insR B x) := by
  by_cases hx : hasR B x.1
  · obtain ⟨t, y, h1, h2, h3⟩ := insR_upd hx
    rw [h3]
    refine distR_sam (fun i => ?_) h_z
    have htl := (List.getElem?_eq_some_iff.mp h1).1
    rw [List.getElem?_set]
    by_cases e : t = i
    · subst e
      rw [if_pos rfl, if_pos htl, h1]
      rfl
    · rw [if_neg e]
  · rw [insR_no hx]
    have hlast : ∀ i y, (B ++ [x])[i]? = some y → i < B.length ∧ B[i]? = some y ∨ i = B.length ∧ y = x := by
      intro i y hy
      have hl := (List.getElem?_eq_some_iff.mp hy).1
      rw [List.length_append] at hl
      simp at hl
      by_cases hi_z : i < B.length
      · rw [List.getElem?_append_left hi_z] at hy
        exact Or.inl ⟨hi_z, hy⟩
      · rw [show i = B.length by omega, List.getElem?_append_right (Nat.le_refl _), Nat.sub_self] at hy
        cases hy
        exact Or.inr ⟨by omega, rfl⟩
    intro i k y u hy hu e
    rcases hlast i y hy with ⟨a1, a2⟩ | ⟨a1, rfl⟩ <;> rcases hlast k u hu with ⟨b1, b2⟩ | ⟨b1, rfl⟩
    · exact h_z i k y u a2 b2 e
    · exact absurd ⟨y, List.mem_of_getElem? a2, e⟩ hx
    · exact absurd ⟨u, List.mem_of_getElem? b2, e.symm⟩ hx
    · omega
theorem distR_fold {X B : List zRw} (h_z : distR B) : distR (X.foldl insR B) := by
  induction X generalizing B with
  | nil => exact h_z
  | cons x X ih => exact ih (distR_ins h_z)
theorem distR_nil : distR [] := fun i k y u h_z => by simp at h_z
theorem fold_look {X B : List zRw} {p : zLy → Prop} (hB_z : ∀ y ∈ B, p y.1) (hX : ∀ y ∈ X, p y.1) : ∀ y ∈ X.foldl insR B, p y.1 := by
  intro y hy
  rcases foldR_keys.mp ⟨y, hy, rfl⟩ with ⟨z, h1, h2⟩ | ⟨z, h1, h2⟩
  · rw [← h2]; exact hB_z z h1
  · rw [← h2]; exact hX z h1
theorem ins_row {acc : List zRw} {x y : zRw} (h_z : y ∈ insR acc x) : (∃ z ∈ acc, y.2.1 = z.2.1) ∨ y.2.1 = x.2.1 := by
  induction acc with
  | nil =>
    rw [List.mem_singleton.mp h_z]
    exact Or.inr rfl
  | cons z t ih =>
    by_cases e : z.1 = x.1
    · have h1 : insR (z :: t) x = (z.1, z.2.1, z.2.2 + x.2.2) :: t := if_pos e
      rw [h1] at h_z
      rcases List.mem_cons.mp h_z with rfl | h_z
      · exact Or.inl ⟨z, List.mem_cons_self, rfl⟩
      · exact Or.inl ⟨y, List.mem_cons_of_mem _ h_z, rfl⟩
    · have h1 : insR (z :: t) x = z :: insR t x := if_neg e
      rw [h1] at h_z
      rcases List.mem_cons.mp h_z with rfl | h_z
      · exact Or.inl ⟨y, List.mem_cons_self, rfl⟩
      · rcases ih h_z with ⟨u, h2, h3⟩ | h2
        · exact Or.inl ⟨u, List.mem_cons_of_mem _ h2, h3⟩
        · exact Or.inr h2
theorem fold_row {X B : List zRw} {p : List Nat → Prop} (hB_z : ∀ y ∈ B, p y.2.1) (hX : ∀ y ∈ X, p y.2.1) : ∀ y ∈ X.foldl insR B, p y.2.1 := by
  induction X generalizing B with
  | nil => exact hB_z
  | cons x X ih =>
    refine ih (fun y hy => ?_) (fun y hy => hX y (List.mem_cons_of_mem _ hy))
    rcases ins_row hy with ⟨z, h1, h2⟩ | h2
    · rw [h2]; exact hB_z z h1
    · rw [h2]; exact hX x List.mem_cons_self
def allL : zLy → Bool := fun _ => true
theorem sum_mem {B : List zRw} {y : zRw} (h_z : y ∈ B) : y.2.2 ≤ sumR allL B := by
  induction B with
  | nil => exact absurd h_z List.not_mem_nil
  | cons z t ih =>
    rw [sumR_cons]
    have e : (if allL z.1 then z.2.2 else 0) = z.2.2 := if_pos rfl
    rw [e]
    rcases List.mem_cons.mp h_z with rfl | h_z
    · omega
    · have := ih h_z
      omega
theorem sum_app {p : zLy → Bool} {X Y : List zRw} : sumR p (X ++ Y) = sumR p X + sumR p Y := by
  unfold sumR
  rw [List.map_append, List.sum_append]
theorem sum_xP {z : zRw} {X : List zRw} (h_z : ∀ x ∈ X, x.2.2 = z.2.2) : sumR allL X = X.length * z.2.2 := by
  induction X with
  | nil => rw [List.length_nil, Nat.zero_mul]; rfl
  | cons x X ih =>
    rw [sumR_cons, ih (fun y hy => h_z y (List.mem_cons_of_mem _ hy)), List.length_cons, Nat.succ_mul]
    have e : (if allL x.1 then x.2.2 else 0) = x.2.2 := if_pos rfl
    rw [e, h_z x List.mem_cons_self]
    omega
theorem sum_xPt {z : zRw} {B : List zRw} {i t : Nat} : sumR allL ((xP z i t).foldl insR B) = sumR allL B + (4 * i + t) * z.2.2 := by
  have h_z : sumR allL (xP z i t) = (xP z i t).length * z.2.2 := sum_xP (fun x hx => by
    obtain ⟨k, way, -, rfl⟩ := xP_mem hx
    rfl)
  rw [sumR_fold, h_z, xP_len]
theorem mul20 {k m : Nat} (h_z : k ≤ 20) : k * m ≤ 20 * m := Nat.mul_le_mul_right m h_z
theorem ctLay_of2 {f f2_z : Nat → Nat → Int32} {a : Nat} {L : zLy} {C : List (Nat × Bool)} (h_z : ctLay f (a + 10) L C) (ho : ofA f f2_z a) : ctLay f2_z (a + 10) L C := by
  unfold ctLay
  rw [ho (a + 10) (by omega), ho (a + 10 + 1) (by omega), ho (a + 10 + 2) (by omega), ho (a + 10 + 3) (by omega)]
  exact h_z
set_option maxHeartbeats 4000000 in
set_option maxRecDepth 100000 in
theorem s_X9_growFrom {g : zGT} {w : zW} {f : Nat → Nat → Int32} {j : Nat → Nat → Int64} {a : Nat} {n q : Nat} {x : Int32} {A B : List zRw} {z : zRw} {K : zLy → Prop} {Q : Option Value → zW → Prop} {QX : String → zW → Prop} (G : zGok g) (hs : shWy w a) (hc_z : ctWy f a n (A ++ B)) (hq : A[q]? = some z) (hx : x.toInt = (q : Nat)) (hA : ∀ y ∈ A, y.2.1.length ≤ z.2.1.length) (hB_z : ∀ y ∈ B, y.2.1.length = z.2.1.length + 1) (hD : distR B) (hcap : ∀ B2, distR B2 → (∀ y ∈ B2, K y.1) → A.length + B2.length ≤ 1023) (hKB : ∀ y ∈ B, K y.1) (hKz : ∀ i way, i + 1 < z.1.length → way < 4 → K (lyFold z.1 (i + 1) way)) (hsum : sumR allL B + 20 * z.2.2 < 2147483648) (hz9 : z.2.1.length ≤ 9) (hQ : ∀ f2_z, ofW f f2_z a → f2_z a 11 = f a 11 → ctWy f2_z a n (A ++ (chR z).foldl insR B) → Q none (zM w f2_z j)) : zC g 5 yX9_growFrom cX9_growFrom 5 none [.ref a, .int x] (zM w f j) (0, 0) Q QX := by
  refine zC_of G (by decide +kernel) (Nat.le_of_ble_eq_true rfl) ?_
  have hqA := (List.getElem?_eq_some_iff.mp hq).1
  have hq2 : (A ++ B)[q]? = some z := by rw [List.getElem?_append_left hqA]; exact hq
  have hrz : rch n z.1 := hc_z.2.2.2.2 z (List.mem_of_getElem? hq2)
  have hcell := rch_cell hrz
  have hn6 := rch_le hrz
  refine r_aloadR0 dX9_growFrom_0 ?_
  refine r_iload1 dX9_growFrom_1 ?_
  refine q_callV1 zm_RX9_80 dX9_growFrom_2 (shWy_k hs) (by decide) rfl (Nat.le_of_ble_eq_true rfl) (Nat.le_of_ble_eq_true rfl) (Nat.le_of_ble_eq_true rfl) (Nat.le_of_ble_eq_true rfl) (Nat.le_of_ble_eq_true rfl) (s_X9_layOf G hs hc_z hx hq2 (fun f1_z ho1 hl1 => ?_))
  refine r_astore2 dX9_growFrom_5 rfl ?_
  refine n_iconst dX9_growFrom_6 (by decide) (fun r6 e6_z => ?_)
  refine r_istore3 dX9_growFrom_7 rfl ?_
  have lp : ∀ (mz : Nat) (c : Int32) (v4_z : Option Value) (i : Nat) (f2_z : Nat → Nat → Int32), c.toInt = (i : Nat) + 1 → i ≤ z.1.length - 1 → ofW f f2_z a → f2_z a 11 = f a 11 → ctLay f2_z (a + 10) z.1 [] → ctWy f2_z a n (A ++ (xP z i 0).foldl insR B) → z.1.length - i < mz → zR (zV g 5 yX9_growFrom 5 none (0, 0) Q QX) cX9_growFrom yX9_growFrom.cls 8 [some (.ref a), some (.int x), some (.ref (a + 10)), some (.int c), v4_z] [] (zM w f2_z j) (0, 0) := by
    intro mz
    induction mz with
    | zero =>
      intro c v4_z i f2_z hci hi_z hof h11 hsh hwy hmz
      exact absurd hmz (Nat.not_lt_zero _)
    | succ mz ih =>
      intro c v4_z i f2_z hci hi_z hof h11 hsh hwy hmz
      have hw : (f2_z (a + 10) 4).toInt = (z.1.length : Nat) := by rw [hsh.2.1]; exact zi_n (by omega)
      rcases Nat.lt_or_ge (i + 1) z.1.length with hkl | hkl
      · have lp2 : ∀ (m2_z : Nat) (e : Int32) (t : Nat) (f3_z : Nat → Nat → Int32), e.toInt = (t : Nat) → t ≤ 4 → ofW f f3_z a → f3_z a 11 = f a 11 → ctLay f3_z (a + 10) z.1 [] → ctWy f3_z a n (A ++ (xP z i t).foldl insR B) → 4 - t < m2_z → zR (zV g 5 yX9_growFrom 5 none (0, 0) Q QX) cX9_growFrom yX9_growFrom.cls 19 [some (.ref a), some (.int x), some (.ref (a + 10)), some (.int c), some (.int e)] [] (zM w f3_z j) (0, 0) := by
          intro m2_z
          induction m2_z with
          | zero =>
            intro e t f3_z he ht hof3 h113 hsh3 hwy3 hm2
            exact absurd hm2 (Nat.not_lt_zero _)
          | succ m2_z ih2 =>
            intro e t f3_z he ht hof3 h113 hsh3 hwy3 hm2
            have hw : (f3_z (a + 10) 4).toInt = (z.1.length : Nat) := by rw [hsh3.2.1]; exact zi_n (by omega)
            rcases Nat.lt_or_ge t 4 with ht4 | ht4
            · skip
              have hDx : distR ((xP z i t).foldl insR B) := distR_fold hD
              have hLx : ∀ y ∈ (xP z i t).foldl insR B, y.2.1.length = z.2.1.length + 1 := fold_row (p := fun r => r.length = z.2.1.length + 1) hB_z (fun y hy => by obtain ⟨k, way, -, rfl⟩ := xP_mem hy; show (z.2.1 ++ [_]).length = _; rw [List.length_append]; rfl)
              have hKx : ∀ y ∈ (xP z i t).foldl insR B, K y.1 := fold_look hKB (fun y hy => by obtain ⟨k, way, hkw, rfl⟩ := xP_mem hy; exact hKz k way (by omega) (by omega))
              have hcp := hcap _ hDx hKx
              have hsx := sum_xPt (z := z) (B := B) (i := i) (t := t)
              have hs20 := mul20 (k := 4 * i + t + 1) (m := z.2.2) (by omega)
              rw [Nat.succ_mul] at hs20
              refine r_iload4 dX9_growFrom_19 ?_
              refine n_iconst dX9_growFrom_21 (by decide) (fun r21 e21_z => ?_)
              refine t_icge (t := 61) dX9_growFrom_22 (by decide) (fun h22 => False.elim (by omega)) (fun h22 => ?_)
              refine r_aloadR0 dX9_growFrom_25 ?_
              refine m_getR (q := (a + 14)) zf_RX9_46 rfl dX9_growFrom_26 (shWy_k hs) (shWy_p11 hs) ?_
              refine r_aloadR2 dX9_growFrom_29 ?_
              refine r_iload3 dX9_growFrom_30 ?_
              refine r_iload4 dX9_growFrom_31 ?_
              refine q_callV3 zm_RX9_87 dX9_growFrom_33 (shLay_k (shWy_a hs)) (by decide) rfl (Nat.le_of_ble_eq_true rfl) (Nat.le_of_ble_eq_true rfl) (Nat.le_of_ble_eq_true rfl) (Nat.le_of_ble_eq_true rfl) (Nat.le_of_ble_eq_true rfl) (s_X2_foldFrom (w := zM w f3_z j) (L := z.1) (line := i + 1) (way := t) G (shWy_a hs) (shWy_s hs) (by omega) hsh3 ⟨by omega, by omega⟩ ht4 (zi_of (by omega) (by omega)) (zi_of (by omega) (by omega)) (fun f4_z ho4 hc4 => ?_))
              show zR _ _ _ _ _ _ (zM w f4_z j) _
              have hwy4 : ctWy f4_z a n (A ++ (xP z i t).foldl insR B) := ctWy_rest hwy3 (fun r h1 h2 => ho4 (a + r) (by omega))
              have hsh4 : ctLay f4_z (a + 10) z.1 [] := ctLay_of hsh3 ho4 (by omega)
              have h114 : f4_z a 11 = f a 11 := by rw [ho4 a (by omega)]; exact h113
              refine r_aloadR0 dX9_growFrom_36 ?_
              refine r_aloadR0 dX9_growFrom_37 ?_
              refine m_getR (q := (a + 14)) zf_RX9_46 rfl dX9_growFrom_38 (shWy_k hs) (shWy_p11 hs) ?_
              refine q_callV0 zm_RX9_63 dX9_growFrom_41 (shLay_k (shWy_a hs)) (by decide) rfl (Nat.le_of_ble_eq_true rfl) (Nat.le_of_ble_eq_true rfl) (Nat.le_of_ble_eq_true rfl) (Nat.le_of_ble_eq_true rfl) (Nat.le_of_ble_eq_true rfl) (s_X2_key (w := zM w f4_z j) (L := lyFold z.1 (i + 1) t) G (shWy_a hs) hc4 ?_)
              refine r_iload1 dX9_growFrom_44 ?_
              refine n_bipush dX9_growFrom_45 (by decide) (fun r45 e45 => ?_)
              refine r_iload3 dX9_growFrom_47 ?_
              refine n_imulc dX9_growFrom_48 e45 (by omega) (fun r48 e48 => ?_)
              refine r_iload4 dX9_growFrom_49 ?_
              refine n_iadd dX9_growFrom_51 (by omega) (fun r51 e51 => ?_)
              refine q_callV3 zm_RX9_72 dX9_growFrom_52 (shWy_k hs) (by decide) rfl (Nat.le_of_ble_eq_true rfl) (Nat.le_of_ble_eq_true rfl) (Nat.le_of_ble_eq_true rfl) (Nat.le_of_ble_eq_true rfl) (Nat.le_of_ble_eq_true rfl) (s_X9_add (A := A) (B := (xP z i t).foldl insR B) (z := z) (q := q) (d := 10 * (i + 1) + t) (L := lyFold z.1 (i + 1) t) G hs hwy4 (fun y hy => by have := hA y hy; omega) hLx hDx (rch_fold hrz (by omega) (by omega) ht4) rfl (by rw [List.getElem?_append_left hqA]; exact hq) hx (by omega) (Or.inl (by rw [List.length_append]; omega)) (fun y hy => by have := sum_mem hy; omega) (by omega) (by omega) (fun f5_z ho5 h115 hc5 => ?_))
              refine n_iinc4 dX9_growFrom_55 (by decide) rfl (by omega) (fun r55 e55 => ?_)
              refine r_goto (t := 19) dX9_growFrom_58 (by decide) ?_
              refine ih2 _ (t + 1) f5_z (by omega) (by omega) (ofW_tr hof3 (ofW_tr (ofW_R (ofLay_R ho4) (by omega)) (ofA_W ho5))) (h115.trans h114) (ctLay_of2 hsh4 ho5) ?_ (by omega)
              rw [xP_t, List.foldl_append]
              exact hc5
            · refine r_iload4 dX9_growFrom_19 ?_
              refine n_iconst dX9_growFrom_21 (by decide) (fun r21 e21_z => ?_)
              refine t_icge (t := 61) dX9_growFrom_22 (by decide) (fun h22 => ?_) (fun h22 => False.elim (by omega))
              refine n_iinc3 dX9_growFrom_61 (by decide) rfl (by omega) (fun r61 e61 => ?_)
              refine r_goto (t := 8) dX9_growFrom_64 (by decide) ?_
              refine ih _ _ (i + 1) f3_z (by omega) (by omega) hof3 h113 hsh3 ?_ (by omega)
              rw [← xP_4, show 4 = t by omega]
              exact hwy3
        refine r_iload3 dX9_growFrom_8 ?_
        refine r_aloadR2 dX9_growFrom_9 ?_
        refine m_getV (x := (f2_z (a + 10) 4)) zf_RX9_84 rfl dX9_growFrom_10 (shLay_k (shWy_s hs)) (rfl) ?_
        refine t_icge (t := 67) dX9_growFrom_13 (by decide) (fun h13 => False.elim (by omega)) (fun h13 => ?_)
        refine n_iconst dX9_growFrom_16 (by decide) (fun r16 e16_z => ?_)
        refine r_istore4 dX9_growFrom_17 rfl ?_
        exact lp2 5 _ 0 f2_z (by omega) (by omega) hof h11 hsh hwy (by omega)
      · refine r_iload3 dX9_growFrom_8 ?_
        refine r_aloadR2 dX9_growFrom_9 ?_
        refine m_getV (x := (f2_z (a + 10) 4)) zf_RX9_84 rfl dX9_growFrom_10 (shLay_k (shWy_s hs)) (rfl) ?_
        refine t_icge (t := 67) dX9_growFrom_13 (by decide) (fun h13 => ?_) (fun h13 => False.elim (by omega))
        refine r_vret dX9_growFrom_67 rfl (Nat.le_of_ble_eq_true rfl) (Nat.le_of_ble_eq_true rfl) ?_
        refine hQ f2_z hof h11 ?_
        rw [chR_x, show z.1.length - 1 = i by omega]
        exact hwy
  exact lp (z.1.length + 1) _ _ 0 f1_z (by omega) (by omega) (ofW_R (ofLay_R ho1) (by omega)) (by rw [ho1 a (by omega)]) hl1 (ctWy_rest hc_z (fun r h1 h2 => ho1 (a + r) (by omega))) (by omega)
