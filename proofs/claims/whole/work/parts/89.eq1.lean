/-! the class's nodes beside the reference's rows -/
def tgR (y : zRo) : zRw := (y.1, y.2, 1)
def kidR (y : zRo) : List zRo := (kidL y.1).map (fun q => (q.2, y.2 ++ [q.1]))
theorem rwF_kid {m : Nat} {L : zLy} {r : List Nat} : rwF (m + 1) L r = (rwF m L r).flatMap kidR := by
  induction m generalizing L r with
  | zero =>
    show (kidL L).flatMap (fun q => [((q.2, r ++ [q.1]) : zRo)]) = [((L, r) : zRo)].flatMap kidR
    rw [List.flatMap_cons, List.flatMap_nil, List.append_nil]
    show _ = (kidL L).map (fun q => ((q.2, r ++ [q.1]) : zRo))
    generalize kidL L = K
    induction K with
    | nil => rfl
    | cons a K ih => rw [List.flatMap_cons, List.map_cons, ih]; rfl
  | succ m ih =>
    show (kidL L).flatMap (fun q => rwF (m + 1) q.2 (r ++ [q.1])) = ((kidL L).flatMap (fun q => rwF m q.2 (r ++ [q.1]))).flatMap kidR
    rw [List.flatMap_assoc]
    congr 1
    funext q
    exact ih
theorem rwsR_eq {L : zLy} {n : Nat} : rwsR L n = (rwF n L []).map tgR := by
  induction n with
  | zero => rfl
  | succ n ih =>
    show (rwsR L n).flatMap chR = _
    rw [ih, rwF_kid, List.flatMap_map, List.map_flatMap]
    congr 1
    funext y
    show (kidL y.1).map (fun q => ((q.2, y.2 ++ [q.1], 1) : zRw)) = ((kidL y.1).map (fun q => ((q.2, y.2 ++ [q.1]) : zRo))).map tgR
    rw [List.map_map]
    rfl
theorem sumR_tg {p : zLy → Bool} {ps : List zRo} : sumR p (ps.map tgR) = ps.countP (fun y => p y.1) := by
  induction ps with
  | nil => rfl
  | cons y ps ih =>
    rw [List.map_cons, sumR_cons, ih, List.countP_cons]
    show (if p y.1 = true then 1 else 0) + _ = _
    omega
theorem eq_rows {L : zLy} {n : Nat} : sumR allL (levR L n) = (rwF n L []).length := by
  rw [sumR_lev, rwsR_eq, sumR_tg]
  show (rwF n L []).countP (fun _ => true) = _
  rw [List.countP_true]
theorem sumR_ap {p : zLy → Bool} {X Y : List zRw} : sumR p (X ++ Y) = sumR p X + sumR p Y := by
  unfold sumR
  rw [List.map_append, List.sum_append]
theorem levs_sc {L : zLy} {k : Nat} : levs L (k + 1) = levs L k ++ levR L k := by
  unfold levs
  rw [List.range_succ, List.flatMap_append, List.flatMap_cons, List.flatMap_nil, List.append_nil]
theorem eq_sum {p : zLy → Bool} {L : zLy} {k : Nat} : sumR p (levs L k) = (allF k L).countP (fun y => p y.1) := by
  induction k with
  | zero => rfl
  | succ k ih => rw [levs_sc, allF_s, sumR_ap, List.countP_append, ih, sumR_lev, rwsR_eq, sumR_tg]
theorem foldl_cg {α σ : Type} {f g : σ → α → σ} {X : List α} {s : σ} (h_z : ∀ s, ∀ y ∈ X, f s y = g s y) : X.foldl f s = X.foldl g s := by
  induction X generalizing s with
  | nil => rfl
  | cons y X ih =>
    rw [List.foldl_cons, List.foldl_cons, h_z s y List.mem_cons_self]
    exact ih (fun s z hz => h_z s z (List.mem_cons_of_mem _ hz))
theorem walk_levs {σ : Type} {st : Nat → σ → zLy → List Nat → σ} {I : Nat → zLy → σ → Prop} (h1 : ∀ d s L r, I d L (st d s L r)) (h2 : ∀ d s L r L2, I d L2 s → I d L2 (st d s L r)) (h3 : ∀ d s L r, I d L s → st d s L r = s) {L : zLy} {k : Nat} {s : σ} : (levs L k).foldl (fun s y => st y.2.1.length s y.1 y.2.1) s = (allF k L).foldl (fun s y => st y.2.length s y.1 y.2) s := by
  induction k generalizing s with
  | zero => rfl
  | succ k ih =>
    rw [levs_sc, allF_s, List.foldl_append, List.foldl_append, ih]
    generalize (allF k L).foldl (fun s y => st y.2.length s y.1 y.2) s = t
    have e1_z : (levR L k).foldl (fun s y => st y.2.1.length s y.1 y.2.1) t = (levR L k).foldl (fun s y => st k s y.1 y.2.1) t := foldl_cg (fun s y hy => by rw [lev_row y hy])
    have e2_z : (rwF k L []).foldl (fun s y => st y.2.length s y.1 y.2) t = (rwF k L []).foldl (fun s y => st k s y.1 y.2) t := foldl_cg (fun s y hy => by rw [rwF_row y hy]; simp)
    rw [e1_z, e2_z, levR_walk (st := st k) (I := I k) (h1 k) (h2 k) (h3 k), rwsR_eq, List.foldl_map]
    rfl
/-- met looks -/
def metS (pd : zLy → Nat → Bool) (ps : List zRo) : List zLy := ps.foldl (fun s y => if pd y.1 y.2.length = true ∧ y.1 ∉ s then s ++ [y.1] else s) []
theorem eq_met {pd : zLy → Nat → Bool} {L : zLy} {k : Nat} : metL (fun L r => pd L r.length) (levs L k) = metS pd (allF k L) := by
  refine walk_levs (st := fun d s L r => if pd L d = true ∧ L ∉ s then s ++ [L] else s) (I := fun d L s => pd L d = false ∨ L ∈ s) (fun d s L r => ?_) (fun d s L r L2 h_z => ?_) (fun d s L r h_z => ?_)
  · show pd L d = false ∨ L ∈ (if pd L d = true ∧ L ∉ s then s ++ [L] else s)
    by_cases hp : pd L d = true
    · by_cases hm_z : L ∈ s
      · rw [if_neg (fun e => e.2 hm_z)]; exact Or.inr hm_z
      · rw [if_pos ⟨hp, hm_z⟩]; exact Or.inr (List.mem_append.mpr (Or.inr List.mem_cons_self))
    · exact Or.inl (by simpa using hp)
  · show pd L2 d = false ∨ L2 ∈ (if pd L d = true ∧ L ∉ s then s ++ [L] else s)
    rcases h_z with h_z | h_z
    · exact Or.inl h_z
    · refine Or.inr ?_
      split
      · exact List.mem_append.mpr (Or.inl h_z)
      · exact h_z
  · show (if pd L d = true ∧ L ∉ s then s ++ [L] else s) = s
    rw [if_neg]
    rintro ⟨e1_z, e2_z⟩
    rcases h_z with h_z | h_z
    · rw [h_z] at e1_z; cases e1_z
    · exact e2_z h_z
theorem cnt_met {n : Nat} {pd : zLy → Nat → Bool} {cd : zLy → Nat} {ps : List zRo} (hr : ∀ y ∈ ps, rch n y.1) (hi_z : ∀ L L2, rch n L → rch n L2 → cd L = cd L2 → L = L2) : cntS (fun L r => pd L r.length) cd ps = (metS pd ps).map cd := by
  have key : ∀ (qs : List zRo) (s : List zLy), (∀ y ∈ qs, rch n y.1) → (∀ L ∈ s, rch n L) → qs.foldl (fun s y => if pd y.1 y.2.length = true ∧ cd y.1 ∉ s then s ++ [cd y.1] else s) (s.map cd) = (qs.foldl (fun s y => if pd y.1 y.2.length = true ∧ y.1 ∉ s then s ++ [y.1] else s) s).map cd := by
    intro qs
    induction qs with
    | nil => exact fun s _ _ => rfl
    | cons y qs ih =>
      intro s hq hs
      have hy := hq y List.mem_cons_self
      have hq2 : ∀ z ∈ qs, rch n z.1 := fun z hz => hq z (List.mem_cons_of_mem _ hz)
      have hm_z : cd y.1 ∈ s.map cd ↔ y.1 ∈ s := by
        constructor
        · intro h_z
          obtain ⟨L, h1, h2⟩ := List.mem_map.mp h_z
          rw [← hi_z L y.1 (hs L h1) hy h2]
          exact h1
        · exact fun h_z => List.mem_map.mpr ⟨y.1, h_z, rfl⟩
      rw [List.foldl_cons, List.foldl_cons]
      by_cases hp : pd y.1 y.2.length = true ∧ y.1 ∉ s
      · rw [if_pos hp, if_pos ⟨hp.1, fun e => hp.2 (hm_z.mp e)⟩]
        have e : s.map cd ++ [cd y.1] = (s ++ [y.1]).map cd := by rw [List.map_append]; rfl
        rw [e]
        refine ih _ hq2 (fun L hL => ?_)
        rcases List.mem_append.mp hL with h_z | h_z
        · exact hs L h_z
        · rw [List.mem_singleton.mp h_z]; exact hy
      · rw [if_neg hp, if_neg (fun e => hp ⟨e.1, fun h_z => e.2 (hm_z.mpr h_z)⟩)]
        exact ih s hq2 hs
  exact key ps [] hr (fun L hL => absurd hL List.not_mem_nil)
theorem lkN_dig {n : Nat} {L L2 : zLy} (h_z : rch n L) (h2 : rch n L2) : ∀ k, k ≤ n → lkN L k = lkN L2 k → ∀ c, c < k → plcN L c = plcN L2 c := by
  intro k
  induction k with
  | zero => exact fun _ _ c hc_z => absurd hc_z (Nat.not_lt_zero _)
  | succ k ih =>
    intro hk e c hc_z
    have a1 := (rch_at h_z (show k < n by omega)).2.2.2
    have a2 := (rch_at h2 (show k < n by omega)).2.2.2
    have e2_z : 128 * lkN L k + plcN L k = 128 * lkN L2 k + plcN L2 k := e
    rcases Nat.lt_or_ge c k with h9 | h9
    · exact ih (by omega) (by omega) c h9
    · rw [show c = k by omega]; omega
theorem lkN_inj {n : Nat} (L L2 : zLy) (h_z : rch n L) (h2 : rch n L2) (e : lkN L n = lkN L2 n) : L = L2 := rch_plinj h_z h2 (lkN_dig h_z h2 n (Nat.le_refl _) e)
/-- counted looks are as many -/
theorem eq_cnt {n k : Nat} {pd : zLy → Nat → Bool} {L : zLy} (hr : rch n L) : (metL (fun L r => pd L r.length) (levs L k)).length = (cntS (fun L r => pd L r.length) (fun L => lkN L n) (allF k L)).length := by
  rw [eq_met, cnt_met (allF_rch hr) lkN_inj, List.length_map]
/-- the first that does -/
theorem eq_find {pd : zLy → Nat → Bool} {L : zLy} {k : Nat} : (findW (fun L r => pd L r.length) (levs L k)).map (fun y => ((y.1, y.2.1) : zRo)) = fstR (fun L r => pd L r.length) (allF k L) := by
  have key1 : ∀ (X : List zRw) (s : Option zRo), X.foldl (fun s y => match s with | some z => some z | none => if pd y.1 y.2.1.length = true then some ((y.1, y.2.1) : zRo) else none) s = match s with | some z => some z | none => (X.find? (fun y => pd y.1 y.2.1.length)).map (fun y => ((y.1, y.2.1) : zRo)) := by
    intro X
    induction X with
    | nil => intro s; cases s <;> rfl
    | cons y X ih =>
      intro s
      rw [List.foldl_cons, ih]
      cases s with
      | some z => rfl
      | none =>
        by_cases hp : pd y.1 y.2.1.length = true
        · simp [hp]
        · simp [hp]
  have key2 : ∀ (X : List zRo) (s : Option zRo), X.foldl (fun s y => match s with | some z => some z | none => if pd y.1 y.2.length = true then some ((y.1, y.2) : zRo) else none) s = match s with | some z => some z | none => X.find? (fun y => pd y.1 y.2.length) := by
    intro X
    induction X with
    | nil => intro s; cases s <;> rfl
    | cons y X ih =>
      intro s
      rw [List.foldl_cons, ih]
      cases s with
      | some z => rfl
      | none =>
        by_cases hp : pd y.1 y.2.length = true
        · simp [hp]
        · simp [hp]
  have h1 := key1 (levs L k) none
  have h2 := key2 (allF k L) none
  have h3 := walk_levs (st := fun d (s : Option zRo) L r => match s with | some z => some z | none => if pd L d = true then some ((L, r) : zRo) else none) (I := fun d L s => s.isSome = true ∨ pd L d = false) (fun d s L r => by cases s with | some z => exact Or.inl rfl | none => by_cases hp : pd L d = true; exact Or.inl (by simp [hp]); exact Or.inr (by simpa using hp)) (fun d s L r L2 h_z => by cases s with | some z => exact Or.inl rfl | none => rcases h_z with h_z | h_z; exact absurd h_z (by simp); exact Or.inr h_z) (fun d s L r h_z => by cases s with | some z => rfl | none => rcases h_z with h_z | h_z; exact absurd h_z (by simp); simp [h_z]) (L := L) (k := k) (s := none)
  exact (h1.symm.trans h3).trans h2
/-- the best -/
theorem eq_best {T : zTb} {by9 : Int} {L : zLy} {k : Nat} : bestW T by9 (levs L k) = bstS T by9 T.2.2.1.2.length (allF k L) := by
  refine walk_levs (st := fun d s L r => if s.1 < scoV T by9 L (T.2.2.1.2.length + d) then (scoV T by9 L (T.2.2.1.2.length + d), r) else s) (I := fun d L s => scoV T by9 L (T.2.2.1.2.length + d) ≤ s.1) (fun d s L r => ?_) (fun d s L r L2 h_z => ?_) (fun d s L r h_z => ?_)
  · show scoV T by9 L (T.2.2.1.2.length + d) ≤ (if s.1 < scoV T by9 L (T.2.2.1.2.length + d) then (scoV T by9 L (T.2.2.1.2.length + d), r) else s).1
    split
    · exact Int.le_refl _
    · omega
  · show scoV T by9 L2 (T.2.2.1.2.length + d) ≤ (if s.1 < scoV T by9 L (T.2.2.1.2.length + d) then (scoV T by9 L (T.2.2.1.2.length + d), r) else s).1
    have h9 : scoV T by9 L2 (T.2.2.1.2.length + d) ≤ s.1 := h_z
    split
    · show scoV T by9 L2 (T.2.2.1.2.length + d) ≤ scoV T by9 L (T.2.2.1.2.length + d)
      omega
    · exact h9
  · have h9 : scoV T by9 L (T.2.2.1.2.length + d) ≤ s.1 := h_z
    show (if s.1 < scoV T by9 L (T.2.2.1.2.length + d) then (scoV T by9 L (T.2.2.1.2.length + d), r) else s) = s
    rw [if_neg (by omega)]
/-- gains -/
theorem bst_ge {T : zTb} {by9 : Int} {dd : Nat} {ps : List zRo} {y : zRo} (hy : y ∈ ps) : scoV T by9 y.1 (dd + y.2.length) ≤ (bstS T by9 dd ps).1 := by
  have mono : ∀ (qs : List zRo) (s : Int × List Nat), s.1 ≤ (qs.foldl (fun s y => if s.1 < scoV T by9 y.1 (dd + y.2.length) then (scoV T by9 y.1 (dd + y.2.length), y.2) else s) s).1 := by
    intro qs
    induction qs with
    | nil => exact fun s => Int.le_refl _
    | cons z qs ih =>
      intro s
      rw [List.foldl_cons]
      refine Int.le_trans ?_ (ih _)
      split
      · show s.1 ≤ scoV T by9 z.1 (dd + z.2.length)
        omega
      · exact Int.le_refl _
  have key : ∀ (qs : List zRo) (s : Int × List Nat), y ∈ qs → scoV T by9 y.1 (dd + y.2.length) ≤ (qs.foldl (fun s y => if s.1 < scoV T by9 y.1 (dd + y.2.length) then (scoV T by9 y.1 (dd + y.2.length), y.2) else s) s).1 := by
    intro qs
    induction qs with
    | nil => exact fun s h_z => absurd h_z List.not_mem_nil
    | cons z qs ih =>
      intro s h_z
      rw [List.foldl_cons]
      rcases List.mem_cons.mp h_z with e | e
      · subst e
        refine Int.le_trans ?_ (mono qs _)
        split
        · exact Int.le_refl _
        · omega
      · exact ih _ e
  exact key ps _ hy
theorem allF_0 {k : Nat} {L : zLy} : ((L, []) : zRo) ∈ allF (k + 1) L := by
  obtain ⟨af, e⟩ := allF_pre (L := L) (k := 1) (n := k + 1) (by omega)
  rw [e, show allF 1 L = [(L, [])] from rfl]
  exact List.mem_append.mpr (Or.inl List.mem_cons_self)
theorem scoV_g {T : zTb} {L : zLy} {d k : Nat} : scoV T (k : Nat) L d = likV T L d k := by
  unfold scoV
  rw [if_neg (by omega), if_neg (by omega), Int.toNat_natCast]
theorem eq_kee {T : zTb} {m : Nat} : ∀ k, (keeW T (levs (tbL T) (m + 1)) k).1 = (keeR T (allF (m + 1) (tbL T)) k).1 := by
  have hg : ∀ k, (bestW T (k : Nat) (levs (tbL T) (m + 1))).1 - scoV T (k : Nat) (tbL T) (T.2.2.1.2.length + 0) = gaiR T (allF (m + 1) (tbL T)) k := by
    intro k
    unfold gaiR
    rw [eq_best, scoV_g]
    rfl
  have hp : ∀ k, 0 ≤ gaiR T (allF (m + 1) (tbL T)) k := by
    intro k
    have h1 := bst_ge (T := T) (by9 := (k : Nat)) (dd := T.2.2.1.2.length) (allF_0 (k := m) (L := tbL T))
    rw [scoV_g] at h1
    have h2 : likV T (tbL T) T.2.2.1.2.length k ≤ (bstS T (k : Nat) T.2.2.1.2.length (allF (m + 1) (tbL T))).1 := h1
    unfold gaiR
    omega
  have key : ∀ k, k = 0 ∨ keeW T (levs (tbL T) (m + 1)) k = keeR T (allF (m + 1) (tbL T)) k ∧ 0 ≤ (keeW T (levs (tbL T) (m + 1)) k).1 := by
    intro k
    induction k with
    | zero => exact Or.inl rfl
    | succ k ih =>
      have e1_z : keeW T (levs (tbL T) (m + 1)) (k + 1) = if (keeW T (levs (tbL T) (m + 1)) k).1 = -1 ∨ (keeW T (levs (tbL T) (m + 1)) k).2 < (bestW T (k : Nat) (levs (tbL T) (m + 1))).1 - scoV T (k : Nat) (tbL T) (T.2.2.1.2.length + 0) then (((k : Nat) : Int), (bestW T (k : Nat) (levs (tbL T) (m + 1))).1 - scoV T (k : Nat) (tbL T) (T.2.2.1.2.length + 0)) else keeW T (levs (tbL T) (m + 1)) k := rfl
      have e2_z : keeR T (allF (m + 1) (tbL T)) (k + 1) = if (keeR T (allF (m + 1) (tbL T)) k).2 < gaiR T (allF (m + 1) (tbL T)) k then (((k : Nat) : Int), gaiR T (allF (m + 1) (tbL T)) k) else keeR T (allF (m + 1) (tbL T)) k := rfl
      have hpk := hp k
      rw [hg k] at e1_z
      refine Or.inr ?_
      rw [e1_z, e2_z]
      rcases ih with rfl | ⟨h1, h2⟩
      · rw [if_pos (Or.inl (show (keeW T (levs (tbL T) (m + 1)) 0).1 = -1 from rfl)), if_pos (show (keeR T (allF (m + 1) (tbL T)) 0).2 < gaiR T (allF (m + 1) (tbL T)) 0 from (by show (-1 : Int) < _; omega))]
        exact ⟨rfl, by show (0 : Int) ≤ ((0 : Nat) : Int); omega⟩
      · rw [← h1]
        by_cases h9 : (keeW T (levs (tbL T) (m + 1)) k).2 < gaiR T (allF (m + 1) (tbL T)) k
        · rw [if_pos (Or.inr h9), if_pos h9]
          exact ⟨rfl, by show (0 : Int) ≤ ((k : Nat) : Int); omega⟩
        · rw [if_neg (by omega), if_neg h9]
          exact ⟨rfl, h2⟩
  intro k
  rcases key k with rfl | h_z
  · rfl
  · rw [h_z.1]
