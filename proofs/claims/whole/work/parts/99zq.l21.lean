/-! the start: its constants as the parts want them -/
set_option maxHeartbeats 4000000 in
set_option maxRecDepth 100000 in
theorem m_msg {args : Array Value} {s : State} (hts : ∀ c ∈ lw_tbl, c.before args s = true) (hgv : (Jvm.Cond.and given_1 narrow_1).before args s = true) : ∀ q ∈ zMsg, (Cond.stringRef q.1 q.2.1 q.2.2).before args s = true ∧ ∃ a : Nat, (Term.string q.1 q.2.1).eval args s none [] s = some (.ref a) := by
  intro q hq
  obtain ⟨i, hi_z, e⟩ := List.getElem_of_mem hq
  have h9 := p_mt i hi_z
  have e9_z : zMsg.getD i ("", 0, "") = q := by
    rw [List.getD_eq_getElem?_getD, List.getElem?_eq_getElem hi_z, e]
    rfl
  rw [e9_z] at h9
  exact ⟨tbx hts _ h9.1, ev_x (nwx hgv _ h9.2)⟩
set_option maxHeartbeats 4000000 in
set_option maxRecDepth 100000 in
theorem lst_ok {args : Array Value} {s : State} {l : Launch} {D : va_G} (hts : ∀ c ∈ lw_tbl, c.before args s = true) (hgv : (Jvm.Cond.and given_1 narrow_1).before args s = true) (hl : l.stackTraces = false) : zGok (l, D, s.heap.size, lST s) := by
  refine ⟨hl, lST_ok, fun U hU => ⟨?_, ?_, ?_, ?_, ?_, ?_, ?_⟩⟩
  · unfold zNest
    exact (List.forall_mem_cons.mpr ⟨va_Nw.warmM hU.1 (va_Nw.of rfl (tbx hts 40 (by decide +kernel))), (List.forall_mem_cons.mpr ⟨va_Nw.warmM hU.1 (va_Nw.of rfl (tbx hts 48 (by decide +kernel))), (List.forall_mem_cons.mpr ⟨va_Nw.warmM hU.1 (va_Nw.of rfl (tbx hts 141 (by decide +kernel))), (List.forall_mem_cons.mpr ⟨va_Nw.warmM hU.1 (va_Nw.of rfl (tbx hts 144 (by decide +kernel))), (List.forall_mem_cons.mpr ⟨va_Nw.warmM hU.1 (va_Nw.of rfl (tbx hts 186 (by decide +kernel))), (List.forall_mem_cons.mpr ⟨va_Nw.warmM hU.1 (va_Nw.of rfl (tbx hts 199 (by decide +kernel))), (List.forall_mem_cons.mpr ⟨va_Nw.warmM hU.1 (va_Nw.of rfl (tbx hts 205 (by decide +kernel))), (List.forall_mem_cons.mpr ⟨va_Nw.warmM hU.1 (va_Nw.of rfl (tbx hts 271 (by decide +kernel))), (List.forall_mem_cons.mpr ⟨va_Nw.warmM hU.1 (va_Nw.of rfl (tbx hts 273 (by decide +kernel))), (List.forall_mem_cons.mpr ⟨va_Nw.warmM hU.1 (va_Nw.of rfl (tbx hts 275 (by decide +kernel))), (List.forall_mem_cons.mpr ⟨va_Nw.warmF hU.1 (va_Nw.of rfl (tbx hts 806 (by decide +kernel))), (fun _ h_z => absurd h_z List.not_mem_nil)⟩)⟩)⟩)⟩)⟩)⟩)⟩)⟩)⟩)⟩)⟩)
  · unfold zDecl
    exact (List.forall_mem_cons.mpr ⟨va_Nw.warmD hU.1 (va_Nw.of rfl (tbx hts 713 (by decide +kernel))), (List.forall_mem_cons.mpr ⟨va_Nw.warmD hU.1 (va_Nw.of rfl (tbx hts 715 (by decide +kernel))), (List.forall_mem_cons.mpr ⟨va_Nw.warmD hU.1 (va_Nw.of rfl (tbx hts 717 (by decide +kernel))), (List.forall_mem_cons.mpr ⟨va_Nw.warmC hU.1 (va_Nw.of rfl (tbx hts 711 (by decide +kernel))), (List.forall_mem_cons.mpr ⟨va_Nw.warmC hU.1 (va_Nw.of rfl (tbx hts 1065 (by decide +kernel))), (List.forall_mem_cons.mpr ⟨va_Nw.warmC hU.1 (va_Nw.of rfl (tbx hts 1165 (by decide +kernel))), (List.forall_mem_cons.mpr ⟨va_Nw.warmC hU.1 (va_Nw.of rfl (tbx hts 1504 (by decide +kernel))), (fun _ h_z => absurd h_z List.not_mem_nil)⟩)⟩)⟩)⟩)⟩)⟩)⟩)
  · unfold zAOl
    exact (List.forall_mem_cons.mpr ⟨va_AO.moved hU.1.alike (va_AO.of (tbx hts 160 (by decide +kernel))), (List.forall_mem_cons.mpr ⟨va_AO.moved hU.1.alike (va_AO.of (tbx hts 181 (by decide +kernel))), (List.forall_mem_cons.mpr ⟨va_AO.moved hU.1.alike (va_AO.of (tbx hts 183 (by decide +kernel))), (fun _ h_z => absurd h_z List.not_mem_nil)⟩)⟩)⟩)
  · exact lST_q hU (vx_Zqof (tbx hts 736 (by decide +kernel)) (tbx hts 13 (by decide +kernel)) (nwx hgv 257 (by decide +kernel)) lST_A)
  · exact lST_q hU (vx_Zqof (tbx hts 738 (by decide +kernel)) (tbx hts 13 (by decide +kernel)) (nwx hgv 1281 (by decide +kernel)) lST_A)
  · intro q hq
    obtain ⟨h1, a, h2⟩ := m_msg hts hgv q hq
    exact ⟨a, vk_R.warm hU.1 (vk_R.of h1 h2)⟩
  · unfold zNcl
    exact (List.forall_mem_cons.mpr ⟨va_Nc.moved hU.1.alike (va_Nc.of (nwx hgv 1385 (by decide +kernel))), (List.forall_mem_cons.mpr ⟨va_Nc.moved hU.1.alike (va_Nc.of (nwx hgv 361 (by decide +kernel))), (List.forall_mem_cons.mpr ⟨va_Nc.moved hU.1.alike (va_Nc.of (nwx hgv 1001 (by decide +kernel))), (List.forall_mem_cons.mpr ⟨va_Nc.moved hU.1.alike (va_Nc.of (nwx hgv 873 (by decide +kernel))), (List.forall_mem_cons.mpr ⟨va_Nc.moved hU.1.alike (va_Nc.of (nwx hgv 4073 (by decide +kernel))), (fun _ h_z => absurd h_z List.not_mem_nil)⟩)⟩)⟩)⟩)⟩)
set_option maxHeartbeats 4000000 in
set_option maxRecDepth 100000 in
theorem lst_all {args : Array Value} {s : State} {l : Launch} {D : va_G} (hts : ∀ c ∈ lw_tbl, c.before args s = true) (hgv : (Jvm.Cond.and given_1 narrow_1).before args s = true) : ∃ (ca wa wv : Nat → Nat) (kq ta sm gq gv : Nat), kWd (l, D, s.heap.size, lST s) wa wv kq ∧ kWo (l, D, s.heap.size, lST s) ca wa wv ta sm gq gv ∧ kLd (l, D, s.heap.size, lST s) wa := by
  have hA : ∀ a : Nat, a < s.heap.size → ¬ (zA s.heap.size) a := lST_A
  obtain ⟨ca, hEn, hev⟩ := va_Enof2 (E := "NapkinDeeds$Word") (d := "LNapkinDeeds$Word;") (nm := wnL) (F := [("java/lang/Enum", "ordinal", "I", woL), ("NapkinDeeds$Word", "fact", "I", wfL)]) (A := zA s.heap.size) (args := args) (s := s) (fun i hi_z => tbx hts _ (p_ls i hi_z)) (tbx hts 4 (by decide +kernel)) (fun i hi_z => nwx hgv _ (p_ex i hi_z)) (by
      intro q hq i hi_z
      rcases List.mem_cons.mp hq with rfl | hq
      · exact nwx hgv _ (p_or i hi_z)
      rcases List.mem_cons.mp hq with rfl | hq
      · exact nwx hgv _ (p_fa i hi_z)
      exact absurd hq List.not_mem_nil) (fun i k hi_z hk hik => (p_ne i hi_z k hk hik).elim (fun e => Or.inl (nwx hgv _ e)) (fun e => Or.inr (nwx hgv _ e))) hA
  have hstr : ∀ i, ∃ q : Nat × Nat, i < 17 → (Term.string "NapkinDeeds$Word" (wsL.getD i 0)).eval args s none [] s = some (.ref q.1) ∧ kTs s q.1 q.2 (wdL.getD i []) := by
    intro i
    by_cases hi_z : i < 17
    · obtain ⟨a, v, h1, h2⟩ := kTs_of (tm := .string "NapkinDeeds$Word" (wsL.getD i 0)) (p_w.1 i hi_z).1 (nwx hgv _ (p_sx i hi_z)) (nwx hgv _ (p_sc i hi_z)) (nwx hgv _ (p_sa i hi_z)) (nwx hgv _ (p_sl i hi_z)) (fun k hk => nwx hgv _ (p_se i hi_z k hk))
      exact ⟨(a, v), fun _ => ⟨h1, h2⟩⟩
    · exact ⟨(0, 0), fun h_z => absurd h_z hi_z⟩
  obtain ⟨ad, had⟩ := Classical.axiomOfChoice hstr
  obtain ⟨gq, gv, hgq, hgt⟩ := kTs_of (tm := .string RX5 242) (L := sgL) p_w.2.1.1 (nwx hgv _ p_gs.1) (nwx hgv _ p_gs.2.1) (nwx hgv _ p_gs.2.2.1) (nwx hgv _ p_gs.2.2.2) (fun k hk => nwx hgv _ (p_ge k hk))
  obtain ⟨ta, hta, htT⟩ := va_Tof (args := args) (s := s) (tm := .static "NapkinDeeds$Word" "ALL" "[LNapkinDeeds$Word;") (ty := .object "NapkinDeeds$Word") (N := 17) (f := fun j => .ref (ca j)) (A := zA s.heap.size) (by decide) (nwx hgv 1793 (by decide +kernel)) (va_eqt (nwx hgv 3841 (by decide +kernel))) (fun j hj => va_eqv (nwx hgv _ (p_al j hj)) (hev j hj)) hA
  obtain ⟨sm, hsm, hsT⟩ := va_Tof (args := args) (s := s) (tm := .static "NapkinDeeds$1" "$SwitchMap$NapkinDeeds$Word" "[I") (ty := .int) (N := 17) (f := fun j => .int (smI j)) (A := zA s.heap.size) (by decide) (nwx hgv 3905 (by decide +kernel)) (va_eqt (nwx hgv 193 (by decide +kernel))) (fun j hj => va_eqt (nwx hgv _ (p_sm j hj))) hA
  have hfm : va_Zq "jdk/internal/util/Preconditions" "SIOOBE_FORMATTER" "Ljava/util/function/BiFunction;" (zA s.heap.size) s s.heap := va_Zqof (tbx hts 837 (by decide +kernel)) (tbx hts 20 (by decide +kernel)) (nwx hgv 321 (by decide +kernel)) hA
  obtain ⟨kq, hkq⟩ : ∃ kq : Nat, va_Z "jdk/internal/util/Preconditions" "SIOOBE_FORMATTER" "Ljava/util/function/BiFunction;" (kQv kq) (zA s.heap.size) s s.heap := by
    rcases hfm with h_z | ⟨t, h_z⟩
    · exact ⟨0, h_z⟩
    · exact ⟨t + 1, h_z⟩
  have hcs : va_Z "java/lang/String" "COMPACT_STRINGS" "Z" (.int 1) (zA s.heap.size) s s.heap := va_Zof (tbx hts 821 (by decide +kernel)) (tbx hts 18 (by decide +kernel)) (va_eqt (nwx hgv 3649 (by decide +kernel))) hA
  have hal : va_Z "NapkinDeeds$Word" "ALL" "[LNapkinDeeds$Word;" (.ref ta) (zA s.heap.size) s s.heap := va_Zof (tbx hts 807 (by decide +kernel)) (tbx hts 4 (by decide +kernel)) hta hA
  have hsw : va_Z "NapkinDeeds$1" "$SwitchMap$NapkinDeeds$Word" "[I" (.ref sm) (zA s.heap.size) s s.heap := va_Zof (tbx hts 932 (by decide +kernel)) (tbx hts 23 (by decide +kernel)) hsm hA
  have hle := va_Efof (N := 17) (E := "NapkinDeeds$Word") (d0 := "LNapkinDeeds$Word;") (o := "NapkinDeeds$Word") (n := "letters") (d := "Ljava/lang/String;") (nm := wnL) (v := fun i => .ref (ad i).1) (tm := fun i => .string "NapkinDeeds$Word" (wsL.getD i 0)) (ad := ca) (A := zA s.heap.size) (fun i hi_z => hev i hi_z) (fun i hi_z => nwx hgv _ (p_le i hi_z)) (fun i hi_z => (had i hi_z).1) hA
  have h16_z := (had 16 (by decide)).2
  rw [show wdL.getD 16 [] = [] from rfl] at h16_z
  refine ⟨ca, fun i => (ad i).1, fun i => (ad i).2, kq, ta, sm, gq, gv, ⟨fun U hU => lST_Z hU hcs, fun U hU => lST_Z hU hkq, fun i hi_z => kTs_x rfl rfl (p_w.1 i (by omega)).1 (p_w.1 i (by omega)).2 (had i (by omega)).2⟩, ⟨fun i k hi_z hk e => hEn.2 i k hi_z hk e, fun e he U hU => ?_, fun U hU => lST_Z hU hal, fun U hU => lST_T hU htT, fun i hi_z U hU => ⟨lST_O hU (hEn.1 i hi_z).2.1, lST_F hU (hle i hi_z), ?_, ?_⟩, fun U hU => lST_Z hU hsw, fun U hU => lST_T hU hsT, kTs_x rfl rfl (by decide) (fun x hx => absurd hx List.not_mem_nil) h16_z, fun U hU => vk_R.warm hU.1 (vk_R.of (tbx hts 863 (by decide +kernel)) hgq), kTs_x rfl rfl p_w.2.1.1 p_w.2.1.2 hgt⟩, fun e he U hU => ?_⟩
  · obtain ⟨h1, h2⟩ := p_w.2.2.2 e he
    have h3 := (hEn.1 e.2 h1).1
    rw [h2] at h3
    exact lST_Z hU h3
  · have h3 := (hEn.1 i hi_z).2.2 ("NapkinDeeds$Word", "fact", "I", wfL) (List.mem_cons_of_mem _ List.mem_cons_self)
    rw [← (p_w.2.2.1 i hi_z).1]
    exact lST_F hU h3
  · have h3 := (hEn.1 i hi_z).2.2 ("java/lang/Enum", "ordinal", "I", woL) List.mem_cons_self
    rw [← (p_w.2.2.1 i hi_z).2]
    exact lST_F hU h3
  · obtain ⟨h1, h2, h3, h4⟩ := p_me e he
    exact vk_R.warm hU.1 (vk_R.of (m_msg hts hgv _ h4).1 (va_eqv (nwx hgv _ h3) (had e.2.2 (by omega)).1))
