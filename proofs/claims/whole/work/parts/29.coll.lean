/-! rows of folds and the looks they give, merged by look: the first row stays, counts are added -/
abbrev zRw : Type := zLy × List Nat × Nat
def insR : List zRw → zRw → List zRw
  | [], x => [x]
  | y :: t, x => if y.1 = x.1 then (y.1, y.2.1, y.2.2 + x.2.2) :: t else y :: insR t x
def colR (X : List zRw) : List zRw := X.foldl insR []
def addC : List zRw → zLy → Nat → List zRw
  | [], _, _ => []
  | y :: t, L, c => if y.1 = L then (y.1, y.2.1, y.2.2 + c) :: t else y :: addC t L c
def hasR (acc : List zRw) (L : zLy) : Prop := ∃ y ∈ acc, y.1 = L
theorem hasR_cons {y : zRw} {t : List zRw} {L : zLy} : hasR (y :: t) L ↔ y.1 = L ∨ hasR t L := by
  constructor
  · rintro ⟨z, hz, e⟩
    rcases List.mem_cons.mp hz with rfl | hz
    · exact Or.inl e
    · exact Or.inr ⟨z, hz, e⟩
  · rintro (e | ⟨z, hz, e⟩)
    · exact ⟨y, List.mem_cons_self, e⟩
    · exact ⟨z, List.mem_cons_of_mem _ hz, e⟩
theorem hasR_nil {L : zLy} : ¬ hasR [] L := by
  rintro ⟨z, hz, -⟩
  exact absurd hz List.not_mem_nil
theorem insR_has {acc : List zRw} {x : zRw} (h : hasR acc x.1) : insR acc x = addC acc x.1 x.2.2 := by
  induction acc with
  | nil => exact absurd h hasR_nil
  | cons y t ih =>
    unfold insR addC
    by_cases e : y.1 = x.1
    · rw [if_pos e, if_pos e]
    · rw [if_neg e, if_neg e, ih ((hasR_cons.mp h).resolve_left e)]
theorem insR_no {acc : List zRw} {x : zRw} (h : ¬ hasR acc x.1) : insR acc x = acc ++ [x] := by
  induction acc with
  | nil => rfl
  | cons y t ih =>
    unfold insR
    rw [if_neg (fun e => h (hasR_cons.mpr (Or.inl e))), ih (fun e => h (hasR_cons.mpr (Or.inr e)))]
    rfl
theorem addC_keys {acc : List zRw} {L L2 : zLy} {c : Nat} : hasR (addC acc L c) L2 ↔ hasR acc L2 := by
  induction acc with
  | nil => exact Iff.rfl
  | cons y t ih =>
    unfold addC
    by_cases e : y.1 = L
    · rw [if_pos e, hasR_cons, hasR_cons]
    · rw [if_neg e, hasR_cons, hasR_cons, ih]
theorem insR_keys {acc : List zRw} {x : zRw} {L : zLy} : hasR (insR acc x) L ↔ hasR acc L ∨ x.1 = L := by
  induction acc with
  | nil =>
    unfold insR
    rw [hasR_cons]
    exact ⟨fun h => Or.inr (h.resolve_right hasR_nil), fun h => Or.inl (h.resolve_left hasR_nil)⟩
  | cons y t ih =>
    unfold insR
    by_cases e : y.1 = x.1
    · rw [if_pos e, hasR_cons, hasR_cons]
      exact ⟨fun h => Or.inl h, fun h => h.elim id (fun h2 => Or.inl (e.trans h2))⟩
    · rw [if_neg e, hasR_cons, hasR_cons, ih, or_assoc]
theorem foldR_keys {X acc : List zRw} {L : zLy} : hasR (X.foldl insR acc) L ↔ hasR acc L ∨ hasR X L := by
  induction X generalizing acc with
  | nil => exact ⟨fun h => Or.inl h, fun h => h.resolve_right hasR_nil⟩
  | cons x X ih =>
    rw [List.foldl_cons, ih, insR_keys, hasR_cons, or_assoc]
theorem insR_addC {acc : List zRw} {L : zLy} {c : Nat} {y : zRw} (h : hasR acc L) : insR (addC acc L c) y = addC (insR acc y) L c := by
  induction acc with
  | nil => exact absurd h hasR_nil
  | cons z t ih =>
    by_cases e : z.1 = L
    · have h1 : addC (z :: t) L c = (z.1, z.2.1, z.2.2 + c) :: t := if_pos e
      rw [h1]
      by_cases e2 : z.1 = y.1
      · have h2 : insR (z :: t) y = (z.1, z.2.1, z.2.2 + y.2.2) :: t := if_pos e2
        have h3 : insR ((z.1, z.2.1, z.2.2 + c) :: t) y = (z.1, z.2.1, z.2.2 + c + y.2.2) :: t := if_pos e2
        have h4 : addC ((z.1, z.2.1, z.2.2 + y.2.2) :: t) L c = (z.1, z.2.1, z.2.2 + y.2.2 + c) :: t := if_pos e
        rw [h2, h3, h4, Nat.add_right_comm]
      · have h2 : insR (z :: t) y = z :: insR t y := if_neg e2
        have h3 : insR ((z.1, z.2.1, z.2.2 + c) :: t) y = (z.1, z.2.1, z.2.2 + c) :: insR t y := if_neg e2
        have h4 : addC (z :: insR t y) L c = (z.1, z.2.1, z.2.2 + c) :: insR t y := if_pos e
        rw [h2, h3, h4]
    · have h1 : addC (z :: t) L c = z :: addC t L c := if_neg e
      rw [h1]
      by_cases e2 : z.1 = y.1
      · have h2 : insR (z :: t) y = (z.1, z.2.1, z.2.2 + y.2.2) :: t := if_pos e2
        have h3 : insR (z :: addC t L c) y = (z.1, z.2.1, z.2.2 + y.2.2) :: addC t L c := if_pos e2
        have h4 : addC ((z.1, z.2.1, z.2.2 + y.2.2) :: t) L c = (z.1, z.2.1, z.2.2 + y.2.2) :: addC t L c := if_neg e
        rw [h2, h3, h4]
      · have h2 : insR (z :: t) y = z :: insR t y := if_neg e2
        have h3 : insR (z :: addC t L c) y = z :: insR (addC t L c) y := if_neg e2
        have h4 : addC (z :: insR t y) L c = z :: addC (insR t y) L c := if_neg e
        rw [h2, h3, h4, ih ((hasR_cons.mp h).resolve_left e)]
theorem foldR_addC {X acc : List zRw} {L : zLy} {c : Nat} (h : hasR acc L) : X.foldl insR (addC acc L c) = addC (X.foldl insR acc) L c := by
  induction X generalizing acc with
  | nil => rfl
  | cons x X ih =>
    rw [List.foldl_cons, List.foldl_cons, insR_addC h, ih (insR_keys.mpr (Or.inl h))]
theorem insR_split {acc : List zRw} {L : zLy} {r : List Nat} {c d : Nat} : insR acc (L, r, c + d) = addC (insR acc (L, r, c)) L d := by
  induction acc with
  | nil =>
    show [((L, r, c + d) : zRw)] = (if L = L then [((L, r, c + d) : zRw)] else (L, r, c) :: addC [] L d)
    rw [if_pos rfl]
  | cons y t ih =>
    by_cases e : y.1 = L
    · have h1 : insR (y :: t) (L, r, c + d) = (y.1, y.2.1, y.2.2 + (c + d)) :: t := if_pos e
      have h2 : insR (y :: t) (L, r, c) = (y.1, y.2.1, y.2.2 + c) :: t := if_pos e
      have h3 : addC ((y.1, y.2.1, y.2.2 + c) :: t) L d = (y.1, y.2.1, y.2.2 + c + d) :: t := if_pos e
      rw [h1, h2, h3, Nat.add_assoc]
    · have h1 : insR (y :: t) (L, r, c + d) = y :: insR t (L, r, c + d) := if_neg e
      have h2 : insR (y :: t) (L, r, c) = y :: insR t (L, r, c) := if_neg e
      have h3 : addC (y :: insR t (L, r, c)) L d = y :: addC (insR t (L, r, c)) L d := if_neg e
      rw [h1, h2, h3, ih]
/-- rows whose looks are all there commute with what follows -/
theorem foldR_comm {Y Z acc : List zRw} (h : ∀ y ∈ Y, hasR acc y.1) : Z.foldl insR (Y.foldl insR acc) = Y.foldl insR (Z.foldl insR acc) := by
  induction Y generalizing acc with
  | nil => rfl
  | cons y Y ih =>
    have hy := h y List.mem_cons_self
    rw [List.foldl_cons, List.foldl_cons, ih (fun z hz => insR_keys.mpr (Or.inl (h z (List.mem_cons_of_mem _ hz)))), insR_has hy, foldR_addC hy, insR_has (foldR_keys.mpr (Or.inl hy))]
/-- what comes by one fold more -/
def kidL (L : zLy) : List (Nat × zLy) := (List.range (L.length - 1)).flatMap (fun i => (List.range 4).map (fun way => (10 * (i + 1) + way, lyFold L (i + 1) way)))
def chR (x : zRw) : List zRw := (kidL x.1).map (fun q => (q.2, x.2.1 ++ [q.1], x.2.2))
theorem map_split {K : List (Nat × zLy)} {r r2 : List Nat} {c d : Nat} {acc : List zRw} : (K.map (fun q => ((q.2, r ++ [q.1], c + d) : zRw))).foldl insR acc = (K.map (fun q => ((q.2, r2 ++ [q.1], d) : zRw))).foldl insR ((K.map (fun q => ((q.2, r ++ [q.1], c) : zRw))).foldl insR acc) := by
  induction K generalizing acc with
  | nil => rfl
  | cons q K ih =>
    rw [List.map_cons, List.map_cons, List.map_cons, List.foldl_cons, List.foldl_cons, List.foldl_cons, insR_split, ih]
    have h1 : hasR (insR acc (q.2, r ++ [q.1], c)) q.2 := insR_keys.mpr (Or.inr rfl)
    have h2 : hasR ((K.map (fun q => ((q.2, r ++ [q.1], c) : zRw))).foldl insR (insR acc (q.2, r ++ [q.1], c))) q.2 := foldR_keys.mpr (Or.inl h1)
    rw [insR_has (x := (q.2, r2 ++ [q.1], d)) h2, foldR_addC h1]
theorem chR_keys {x y : zRw} {s : List zRw} (e : y.1 = x.1) : ∀ z ∈ chR x, hasR ((chR y).foldl insR s) z.1 := by
  intro z hz
  unfold chR at hz
  obtain ⟨q, hq, rfl⟩ := List.mem_map.mp hz
  refine foldR_keys.mpr (Or.inr ⟨(q.2, y.2.1 ++ [q.1], y.2.2), ?_, rfl⟩)
  unfold chR
  rw [e]
  exact List.mem_map.mpr ⟨q, hq, rfl⟩
theorem foldR_ins {acc s : List zRw} {x : zRw} : ((insR acc x).flatMap chR).foldl insR s = (chR x).foldl insR ((acc.flatMap chR).foldl insR s) := by
  induction acc generalizing s with
  | nil =>
    show (([x] : List zRw).flatMap chR).foldl insR s = _
    rw [List.flatMap_cons, List.flatMap_nil, List.append_nil]
    rfl
  | cons y t ih =>
    by_cases e : y.1 = x.1
    · have h1 : insR (y :: t) x = (y.1, y.2.1, y.2.2 + x.2.2) :: t := if_pos e
      rw [h1, List.flatMap_cons, List.flatMap_cons, List.foldl_append, List.foldl_append]
      have h2 : (chR (y.1, y.2.1, y.2.2 + x.2.2)).foldl insR s = (chR x).foldl insR ((chR y).foldl insR s) := by
        unfold chR
        rw [← e]
        exact map_split
      rw [h2, foldR_comm (chR_keys e)]
    · have h1 : insR (y :: t) x = y :: insR t x := if_neg e
      rw [h1, List.flatMap_cons, List.flatMap_cons, List.foldl_append, List.foldl_append, ih]
theorem colR_flat {X acc : List zRw} : colR ((X.foldl insR acc).flatMap chR) = (X.flatMap chR).foldl insR (colR (acc.flatMap chR)) := by
  induction X generalizing acc with
  | nil => rfl
  | cons x X ih =>
    rw [List.foldl_cons, ih, List.flatMap_cons, List.foldl_append]
    congr 1
    exact foldR_ins
/-- all rows of d folds, in their order; merged -/
def rwsR (L : zLy) : Nat → List zRw
  | 0 => [(L, [], 1)]
  | d + 1 => (rwsR L d).flatMap chR
def levR (L : zLy) : Nat → List zRw
  | 0 => [(L, [], 1)]
  | d + 1 => colR ((levR L d).flatMap chR)
theorem levR_col {L : zLy} {d : Nat} : levR L d = colR (rwsR L d) := by
  induction d with
  | zero => rfl
  | succ d ih =>
    show colR ((levR L d).flatMap chR) = colR ((rwsR L d).flatMap chR)
    rw [ih]
    exact colR_flat
/-- sums of counts -/
def sumR (p : zLy → Bool) (X : List zRw) : Nat := (X.map (fun x => if p x.1 then x.2.2 else 0)).sum
theorem sumR_cons {p : zLy → Bool} {x : zRw} {X : List zRw} : sumR p (x :: X) = (if p x.1 then x.2.2 else 0) + sumR p X := by
  unfold sumR
  rw [List.map_cons, List.sum_cons]
theorem sumR_ins {p : zLy → Bool} {acc : List zRw} {x : zRw} : sumR p (insR acc x) = sumR p acc + (if p x.1 then x.2.2 else 0) := by
  induction acc with
  | nil =>
    show sumR p [x] = sumR p [] + _
    rw [sumR_cons]
    unfold sumR
    simp
  | cons y t ih =>
    by_cases e : y.1 = x.1
    · have h1 : insR (y :: t) x = (y.1, y.2.1, y.2.2 + x.2.2) :: t := if_pos e
      rw [h1, sumR_cons, sumR_cons]
      show (if p y.1 then y.2.2 + x.2.2 else 0) + sumR p t = _
      rw [← e]
      split <;> omega
    · have h1 : insR (y :: t) x = y :: insR t x := if_neg e
      rw [h1, sumR_cons, sumR_cons, ih]
      omega
theorem sumR_fold {p : zLy → Bool} {X acc : List zRw} : sumR p (X.foldl insR acc) = sumR p acc + sumR p X := by
  induction X generalizing acc with
  | nil => rfl
  | cons x X ih =>
    rw [List.foldl_cons, ih, sumR_ins, sumR_cons]
    omega
theorem sumR_lev {p : zLy → Bool} {L : zLy} {d : Nat} : sumR p (levR L d) = sumR p (rwsR L d) := by
  rw [levR_col]
  unfold colR
  rw [sumR_fold]
  show 0 + _ = _
  omega
/-- a walk over rows to which a look that has been met adds nothing -/
theorem foldR_walk {σ : Type} {st : σ → zLy → List Nat → σ} {I : zLy → σ → Prop} (h1 : ∀ s L r, I L (st s L r)) (h2 : ∀ s L r L2, I L2 s → I L2 (st s L r)) (h3 : ∀ s L r, I L s → st s L r = s) {acc : List zRw} {x : zRw} {s : σ} : (insR acc x).foldl (fun s y => st s y.1 y.2.1) s = st (acc.foldl (fun s y => st s y.1 y.2.1) s) x.1 x.2.1 := by
  have keep : ∀ (t : List zRw) (s : σ) (L : zLy), I L s → I L (t.foldl (fun s y => st s y.1 y.2.1) s) := by
    intro t
    induction t with
    | nil => exact fun s L h => h
    | cons y t ih => exact fun s L h => ih _ L (h2 _ _ _ _ h)
  induction acc generalizing s with
  | nil => rfl
  | cons y t ih =>
    by_cases e : y.1 = x.1
    · have h5 : insR (y :: t) x = (y.1, y.2.1, y.2.2 + x.2.2) :: t := if_pos e
      rw [h5, List.foldl_cons, List.foldl_cons]
      have h6 := keep t _ _ (h1 s y.1 y.2.1)
      rw [← e]
      exact (h3 _ _ _ h6).symm
    · have h5 : insR (y :: t) x = y :: insR t x := if_neg e
      rw [h5, List.foldl_cons, List.foldl_cons]
      exact ih
theorem foldR_walks {σ : Type} {st : σ → zLy → List Nat → σ} {I : zLy → σ → Prop} (h1 : ∀ s L r, I L (st s L r)) (h2 : ∀ s L r L2, I L2 s → I L2 (st s L r)) (h3 : ∀ s L r, I L s → st s L r = s) {X acc : List zRw} {s : σ} : (X.foldl insR acc).foldl (fun s y => st s y.1 y.2.1) s = X.foldl (fun s y => st s y.1 y.2.1) (acc.foldl (fun s y => st s y.1 y.2.1) s) := by
  induction X generalizing acc with
  | nil => rfl
  | cons x X ih =>
    rw [List.foldl_cons, ih, foldR_walk h1 h2 h3, List.foldl_cons]
theorem levR_walk {σ : Type} {st : σ → zLy → List Nat → σ} {I : zLy → σ → Prop} (h1 : ∀ s L r, I L (st s L r)) (h2 : ∀ s L r L2, I L2 s → I L2 (st s L r)) (h3 : ∀ s L r, I L s → st s L r = s) {L : zLy} {d : Nat} {s : σ} : (levR L d).foldl (fun s y => st s y.1 y.2.1) s = (rwsR L d).foldl (fun s y => st s y.1 y.2.1) s := by
  rw [levR_col]
  unfold colR
  rw [foldR_walks h1 h2 h3]
  rfl
