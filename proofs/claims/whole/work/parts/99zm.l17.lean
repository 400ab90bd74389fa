/-! the law: its loop -/
set_option maxHeartbeats 4000000 in
set_option maxRecDepth 100000 in
theorem lc_end {g : zGT} {Rm : Room} {QQ : List Frame → Array Value → State → State → Prop} {hh : List (Nat × Nat × Nat × Nat)} {nm : String} {s X L c0_z s0 : Nat} {xs : Nat → Int32} {k : Nat} {iv : Int32} {u5 u6 u7 : Option Value} {w : zW} {b : Nat × Nat} (G : zGok g) (hfr : 2048 ≤ Rm.frames) (hlo : 84000 ≤ Rm.locals) (hC : c0_z + 486912 ≤ Rm.cells) (hS_z : s0 + 515072 ≤ Rm.slots) (hT_z : ∀ U, g.2.2.2 U → va_T .int s L (fun k => .int (xs k)) (zA g.2.2.1) U U.heap) (hL : L ≤ 3072) (hend : ∀ (x : Int32) (ls : List (Option Value)) w b, x.toInt = 1 → b.1 ≤ Rm.cells → b.2 ≤ Rm.slots → zR (zVg g Rm QQ hh nm 8 (some .boolean)) cL_law RL 2736 ls [.int x] w b) (hk : ¬ (6 * k + 6 ≤ L)) (hk2 : k ≤ 512) (hi_z : iv.toInt = ((6 * k : Nat) : Int)) (hb1 : b.1 ≤ c0_z + 951 * k) (hb2 : b.2 ≤ s0 + 1006 * k) : zR (zVg g Rm QQ hh nm 8 (some .boolean)) cL_law RL 23 [some (.ref s), some (.ref X), some (.ref (X + 239)), some (.ref (X + 260)), some (.int iv), u5, u6, u7] [] w b := by
  refine r_iload4 dL_law_23 ?_
  refine r_aloadR0 dL_law_25 ?_
  refine k_alen hT_z dL_law_26 ?_
  refine n_name (fun r26 e26_z => ?_)
  have hl : r26.toInt = (L : Int) := by rw [e26_z]; exact zi_n (by omega)
  refine n_bipush dL_law_27 (by decide) (fun r27 e27_z => ?_)
  refine n_isub dL_law_29 (by omega) (fun r29 e29 => ?_)
  refine t_icgt (t := 2735) dL_law_30 (by decide) (fun h30 => ?_) (fun h30 => False.elim (by omega))
  refine n_iconst dL_law_2735 (by decide) (fun r e => ?_)
  exact hend r _ _ _ e (by omega) (by omega)
set_option maxHeartbeats 8000000 in
set_option maxRecDepth 100000 in
theorem lc_loop {g : zGT} {Rm : Room} {QQ : List Frame → Array Value → State → State → Prop} {hh : List (Nat × Nat × Nat × Nat)} {nm : String} {s X L c0_z s0 : Nat} {xs : Nat → Int32} (G : zGok g) (hfr : 2048 ≤ Rm.frames) (hlo : 84000 ≤ Rm.locals) (hC : c0_z + 486912 ≤ Rm.cells) (hS_z : s0 + 515072 ≤ Rm.slots) (hT_z : ∀ U, g.2.2.2 U → va_T .int s L (fun k => .int (xs k)) (zA g.2.2.1) U U.heap) (hL : L ≤ 3072) {ca wa wv : Nat → Nat} {kq ta sm gq gv : Nat} (kw : kWd g wa wv kq) (ko : kWo g ca wa wv ta sm gq gv) (hld : kLd g wa) (hend : ∀ (x : Int32) (ls : List (Option Value)) w b, x.toInt = 1 → b.1 ≤ Rm.cells → b.2 ≤ Rm.slots → zR (zVg g Rm QQ hh nm 8 (some .boolean)) cL_law RL 2736 ls [.int x] w b) : ∀ (mz k : Nat) (T : zTb) (ty : Nat → zTy) (im : Nat → Option zTb) (p : Nat) (B : Nat → Nat) (th pl : Int) (iv : Int32) (u5 u6 u7 : Option Value) w f j b, L < 6 * k + 6 * mz → k ≤ 512 → iv.toInt = ((6 * k : Nat) : Int) → b.1 ≤ c0_z + 951 * k → b.2 ≤ s0 + 1006 * k → lwI w f j X T ty im p B th pl (4 * k) → zR (zVg g Rm QQ hh nm 8 (some .boolean)) cL_law RL 23 [some (.ref s), some (.ref X), some (.ref (X + 239)), some (.ref (X + 260)), some (.int iv), u5, u6, u7] [] (zM w f j) b := by
  intro mz
  induction mz with
  | zero =>
    intro k T ty im p B th pl iv u5 u6 u7 w f j b hm_z hk2 hi_z hb1 hb2 hI
    exact lc_end G hfr hlo hC hS_z hT_z hL hend (by omega) hk2 hi_z hb1 hb2
  | succ mz ih =>
    intro k T ty im p B th pl iv u5 u6 u7 w f j b hm_z hk2 hi_z hb1 hb2 hI
    by_cases hk : 6 * k + 6 ≤ L
    case neg => exact lc_end G hfr hlo hC hS_z hT_z hL hend hk hk2 hi_z hb1 hb2
    have tail : ∀ (T9 : zTb) (ty9 : Nat → zTy) (im9 : Nat → Option zTb) (p9 : Nat) (B9 : Nat → Nat) (th9 pl9 : Int) (u5 u6 u7 : Option Value) w2 f2_z j2 b2, b2.1 ≤ b.1 + 951 → b2.2 ≤ b.2 + 1006 → lwI w2 f2_z j2 X T9 ty9 im9 p9 B9 th9 pl9 (4 * k + 4) → zR (zVg g Rm QQ hh nm 8 (some .boolean)) cL_law RL 2729 [some (.ref s), some (.ref X), some (.ref (X + 239)), some (.ref (X + 260)), some (.int iv), u5, u6, u7] [] (zM w2 f2_z j2) b2 := by
      intro T9 ty9 im9 p9 B9 th9 pl9 v5 v6 v7 w2 f2_z j2 b2 h1 h2 h3
      refine n_iinc4 dL_law_2729 (by decide) rfl (by omega) (fun r e => ?_)
      refine r_goto (t := 23) dL_law_2732 (by decide) ?_
      exact ih (k + 1) T9 ty9 im9 p9 B9 th9 pl9 r v5 v6 v7 w2 f2_z j2 b2 (by omega) (by omega) (by omega) (by omega) (by omega) (lwI_m h3 (by omega))
    refine r_iload4 dL_law_23 ?_
    refine r_aloadR0 dL_law_25 ?_
    refine k_alen hT_z dL_law_26 ?_
    refine n_name (fun r26 e26_z => ?_)
    have hl : r26.toInt = (L : Int) := by rw [e26_z]; exact zi_n (by omega)
    refine n_bipush dL_law_27 (by decide) (fun r27 e27_z => ?_)
    refine n_isub dL_law_29 (by omega) (fun r29 e29 => ?_)
    refine t_icgt (t := 2735) dL_law_30 (by decide) (fun h30 => False.elim (by omega)) (fun h30 => ?_)
    refine r_aloadR0 dL_law_33 ?_
    refine r_iload4 dL_law_34 ?_
    refine k_iald (k := 6 * k) (v := .int (xs (6 * k))) hT_z hi_z (by omega) (by omega) rfl dL_law_36 ?_
    refine n_bipush dL_law_37 (by decide) (fun r37 e37 => ?_)
    refine r_iand dL_law_39 ?_
    refine n_name (fun r39 e39 => ?_)
    clear e39 e37
    refine n_tabC (k := 0) (t := 248) dL_law_40 (by decide) rfl (by decide) (fun h_z => ?_) (fun h0 => ?_)
    · exact lc_0 G hfr hlo (by omega) (by omega) hT_z hi_z hk hL hI (by omega) (fun T9 ty9 im9 p9 B9 th9 pl9 v5 v6 v7 w2 f2_z j2 b2 h1 h2 h3 => tail T9 ty9 im9 p9 B9 th9 pl9 v5 v6 v7 w2 f2_z j2 b2 h1 h2 (lwI_m h3 (by omega)))
    refine n_tabC (k := 1) (t := 321) dL_law_40 (by decide) rfl (by decide) (fun h_z => ?_) (fun h1 => ?_)
    · exact lc_1 G hfr hlo (by omega) (by omega) hT_z hi_z hk hL hI (by omega) kw ko hld (fun T9 ty9 im9 p9 B9 th9 pl9 v5 v6 v7 w2 f2_z j2 b2 h1 h2 h3 => tail T9 ty9 im9 p9 B9 th9 pl9 v5 v6 v7 w2 f2_z j2 b2 h1 h2 (lwI_m h3 (by omega)))
    refine n_tabC (k := 2) (t := 377) dL_law_40 (by decide) rfl (by decide) (fun h_z => ?_) (fun h2 => ?_)
    · exact lc_2 G hfr hlo (by omega) (by omega) hT_z hi_z hk hL hI (by omega) (fun  v5 v6 v7 w2 f2_z j2 b2 h1 h2 h3 => tail T ty im p B th pl v5 v6 v7 w2 f2_z j2 b2 h1 h2 (lwI_m h3 (by omega)))
    refine n_tabC (k := 3) (t := 402) dL_law_40 (by decide) rfl (by decide) (fun h_z => ?_) (fun h3 => ?_)
    · exact lc_3 G hfr hlo (by omega) (by omega) hT_z hi_z hk hL hI (by omega) (fun  v5 v6 v7 w2 f2_z j2 b2 h1 h2 h3 => tail T ty im p B th pl v5 v6 v7 w2 f2_z j2 b2 h1 h2 (lwI_m h3 (by omega)))
    refine n_tabC (k := 4) (t := 470) dL_law_40 (by decide) rfl (by decide) (fun h_z => ?_) (fun h4 => ?_)
    · exact lc_4 G hfr hlo (by omega) (by omega) hT_z hi_z hk hL hI (by omega) (fun  v5 v6 v7 w2 f2_z j2 b2 h1 h2 h3 => tail T ty im p B th pl v5 v6 v7 w2 f2_z j2 b2 h1 h2 (lwI_m h3 (by omega)))
    refine n_tabC (k := 5) (t := 526) dL_law_40 (by decide) rfl (by decide) (fun h_z => ?_) (fun h5 => ?_)
    · exact lc_5 G hfr hlo (by omega) (by omega) hT_z hi_z hk hL hI (by omega) (fun  v5 v6 v7 w2 f2_z j2 b2 h1 h2 h3 => tail T ty im p B th pl v5 v6 v7 w2 f2_z j2 b2 h1 h2 (lwI_m h3 (by omega)))
    refine n_tabC (k := 6) (t := 594) dL_law_40 (by decide) rfl (by decide) (fun h_z => ?_) (fun h6 => ?_)
    · exact lc_6 G hfr hlo (by omega) (by omega) hT_z hi_z hk hL hI (by omega) (fun  v5 v6 v7 w2 f2_z j2 b2 h1 h2 h3 => tail T ty im p B th pl v5 v6 v7 w2 f2_z j2 b2 h1 h2 (lwI_m h3 (by omega)))
    refine n_tabC (k := 7) (t := 650) dL_law_40 (by decide) rfl (by decide) (fun h_z => ?_) (fun h7 => ?_)
    · exact lc_7 G hfr hlo (by omega) (by omega) hT_z hi_z hk hL hI (by omega) (fun  v5 v6 v7 w2 f2_z j2 b2 h1 h2 h3 => tail T ty im p B th pl v5 v6 v7 w2 f2_z j2 b2 h1 h2 (lwI_m h3 (by omega)))
    refine n_tabC (k := 8) (t := 706) dL_law_40 (by decide) rfl (by decide) (fun h_z => ?_) (fun h8 => ?_)
    · exact lc_8 G hfr hlo (by omega) (by omega) hT_z hi_z hk hL hI (by omega) (fun  v5 v6 v7 w2 f2_z j2 b2 h1 h2 h3 => tail T ty im p B th pl v5 v6 v7 w2 f2_z j2 b2 h1 h2 (lwI_m h3 (by omega)))
    refine n_tabC (k := 9) (t := 762) dL_law_40 (by decide) rfl (by decide) (fun h_z => ?_) (fun h9 => ?_)
    · exact lc_9 G hfr hlo (by omega) (by omega) hT_z hi_z hk hL hI (by omega) (fun  v5 v6 v7 w2 f2_z j2 b2 h1 h2 h3 => tail T ty im p B th pl v5 v6 v7 w2 f2_z j2 b2 h1 h2 (lwI_m h3 (by omega)))
    refine n_tabC (k := 10) (t := 818) dL_law_40 (by decide) rfl (by decide) (fun h_z => ?_) (fun h10 => ?_)
    · exact lc_10 G hfr hlo (by omega) (by omega) hT_z hi_z hk hL hI (by omega) (fun  v5 v6 v7 w2 f2_z j2 b2 h1 h2 h3 => tail T ty im p B th pl v5 v6 v7 w2 f2_z j2 b2 h1 h2 (lwI_m h3 (by omega)))
    refine n_tabC (k := 11) (t := 831) dL_law_40 (by decide) rfl (by decide) (fun h_z => ?_) (fun h11 => ?_)
    · exact lc_11 G hfr hlo (by omega) (by omega) hT_z hi_z hk hL hI (by omega) (fun  v5 v6 v7 w2 f2_z j2 b2 h1 h2 h3 => tail T ty im p B th pl v5 v6 v7 w2 f2_z j2 b2 h1 h2 (lwI_m h3 (by omega)))
    refine n_tabC (k := 12) (t := 844) dL_law_40 (by decide) rfl (by decide) (fun h_z => ?_) (fun h12 => ?_)
    · exact lc_12 G hfr hlo (by omega) (by omega) hT_z hi_z hk hL hI (by omega) (fun  v5 v6 v7 w2 f2_z j2 b2 h1 h2 h3 => tail T ty im p B th pl v5 v6 v7 w2 f2_z j2 b2 h1 h2 (lwI_m h3 (by omega)))
    refine n_tabC (k := 13) (t := 900) dL_law_40 (by decide) rfl (by decide) (fun h_z => ?_) (fun h13 => ?_)
    · exact lc_13 G hfr hlo (by omega) (by omega) hT_z hi_z hk hL hI (by omega) (fun T9 v5 v6 v7 w2 f2_z j2 b2 h1 h2 h3 => tail T9 ty im p B th pl v5 v6 v7 w2 f2_z j2 b2 h1 h2 (lwI_m h3 (by omega)))
    refine n_tabC (k := 14) (t := 937) dL_law_40 (by decide) rfl (by decide) (fun h_z => ?_) (fun h14 => ?_)
    · exact lc_14 G hfr hlo (by omega) (by omega) hT_z hi_z hk hL hI (by omega) (fun T9 v5 v6 v7 w2 f2_z j2 b2 h1 h2 h3 => tail T9 ty im p B th pl v5 v6 v7 w2 f2_z j2 b2 h1 h2 (lwI_m h3 (by omega)))
    refine n_tabC (k := 15) (t := 981) dL_law_40 (by decide) rfl (by decide) (fun h_z => ?_) (fun h15 => ?_)
    · exact lc_15 G hfr hlo (by omega) (by omega) hT_z hi_z hk hL hI (by omega) (fun T9 v5 v6 v7 w2 f2_z j2 b2 h1 h2 h3 => tail T9 ty im p B th pl v5 v6 v7 w2 f2_z j2 b2 h1 h2 (lwI_m h3 (by omega)))
    refine n_tabC (k := 16) (t := 1025) dL_law_40 (by decide) rfl (by decide) (fun h_z => ?_) (fun h16_z => ?_)
    · exact lc_16 G hfr hlo (by omega) (by omega) hT_z hi_z hk hL hI (by omega) (fun T9 v5 v6 v7 w2 f2_z j2 b2 h1 h2 h3 => tail T9 ty im p B th pl v5 v6 v7 w2 f2_z j2 b2 h1 h2 (lwI_m h3 (by omega)))
    refine n_tabC (k := 17) (t := 1105) dL_law_40 (by decide) rfl (by decide) (fun h_z => ?_) (fun h17 => ?_)
    · exact lc_17 G hfr hlo (by omega) (by omega) hT_z hi_z hk hL hI (by omega) (fun T9 v5 v6 v7 w2 f2_z j2 b2 h1 h2 h3 => tail T9 ty im p B th pl v5 v6 v7 w2 f2_z j2 b2 h1 h2 (lwI_m h3 (by omega)))
    refine n_tabC (k := 18) (t := 1161) dL_law_40 (by decide) rfl (by decide) (fun h_z => ?_) (fun h18 => ?_)
    · exact lc_18 G hfr hlo (by omega) (by omega) hT_z hi_z hk hL hI (by omega) (fun  v5 v6 v7 w2 f2_z j2 b2 h1 h2 h3 => tail T ty im p B th pl v5 v6 v7 w2 f2_z j2 b2 h1 h2 (lwI_m h3 (by omega)))
    refine n_tabC (k := 19) (t := 1229) dL_law_40 (by decide) rfl (by decide) (fun h_z => ?_) (fun h19 => ?_)
    · exact lc_19 G hfr hlo (by omega) (by omega) hT_z hi_z hk hL hI (by omega) (fun T9 v5 v6 v7 w2 f2_z j2 b2 h1 h2 h3 => tail T9 ty im p B th pl v5 v6 v7 w2 f2_z j2 b2 h1 h2 (lwI_m h3 (by omega)))
    refine n_tabC (k := 20) (t := 1285) dL_law_40 (by decide) rfl (by decide) (fun h_z => ?_) (fun h20 => ?_)
    · exact lc_20 G hfr hlo (by omega) (by omega) hT_z hi_z hk hL hI (by omega) (fun T9 ty9 im9 p9 B9 th9 pl9 v5 v6 v7 w2 f2_z j2 b2 h1 h2 h3 => tail T9 ty9 im9 p9 B9 th9 pl9 v5 v6 v7 w2 f2_z j2 b2 h1 h2 (lwI_m h3 (by omega)))
    refine n_tabC (k := 21) (t := 1353) dL_law_40 (by decide) rfl (by decide) (fun h_z => ?_) (fun h21 => ?_)
    · exact lc_21 G hfr hlo (by omega) (by omega) hT_z hi_z hk hL hI (by omega) (fun  v5 v6 v7 w2 f2_z j2 b2 h1 h2 h3 => tail T ty im p B th pl v5 v6 v7 w2 f2_z j2 b2 h1 h2 (lwI_m h3 (by omega)))
    refine n_tabC (k := 22) (t := 1409) dL_law_40 (by decide) rfl (by decide) (fun h_z => ?_) (fun h22 => ?_)
    · exact lc_22 G hfr hlo (by omega) (by omega) hT_z hi_z hk hL hI (by omega) (fun  v5 v6 v7 w2 f2_z j2 b2 h1 h2 h3 => tail T ty im p B th pl v5 v6 v7 w2 f2_z j2 b2 h1 h2 (lwI_m h3 (by omega)))
    refine n_tabC (k := 23) (t := 1465) dL_law_40 (by decide) rfl (by decide) (fun h_z => ?_) (fun h23 => ?_)
    · exact lc_23 G hfr hlo (by omega) (by omega) hT_z hi_z hk hL hI (by omega) (fun  v5 v6 v7 w2 f2_z j2 b2 h1 h2 h3 => tail T ty im p B th pl v5 v6 v7 w2 f2_z j2 b2 h1 h2 (lwI_m h3 (by omega)))
    refine n_tabC (k := 24) (t := 1521) dL_law_40 (by decide) rfl (by decide) (fun h_z => ?_) (fun h24 => ?_)
    · exact lc_24 G hfr hlo (by omega) (by omega) hT_z hi_z hk hL hI (by omega) (fun  v5 v6 v7 w2 f2_z j2 b2 h1 h2 h3 => tail T ty im p B th pl v5 v6 v7 w2 f2_z j2 b2 h1 h2 (lwI_m h3 (by omega)))
    refine n_tabC (k := 25) (t := 1577) dL_law_40 (by decide) rfl (by decide) (fun h_z => ?_) (fun h25 => ?_)
    · exact lc_25 G hfr hlo (by omega) (by omega) hT_z hi_z hk hL hI (by omega) (fun  v5 v6 v7 w2 f2_z j2 b2 h1 h2 h3 => tail T ty im p B th pl v5 v6 v7 w2 f2_z j2 b2 h1 h2 (lwI_m h3 (by omega)))
    refine n_tabC (k := 26) (t := 1645) dL_law_40 (by decide) rfl (by decide) (fun h_z => ?_) (fun h26 => ?_)
    · exact lc_26 G hfr hlo (by omega) (by omega) hT_z hi_z hk hL hI (by omega) (fun  v5 v6 v7 w2 f2_z j2 b2 h1 h2 h3 => tail T ty im p B th pl v5 v6 v7 w2 f2_z j2 b2 h1 h2 (lwI_m h3 (by omega)))
    refine n_tabC (k := 27) (t := 1713) dL_law_40 (by decide) rfl (by decide) (fun h_z => ?_) (fun h27 => ?_)
    · exact lc_27 G hfr hlo (by omega) (by omega) hT_z hi_z hk hL hI (by omega) (fun  v5 v6 v7 w2 f2_z j2 b2 h1 h2 h3 => tail T ty im p B th pl v5 v6 v7 w2 f2_z j2 b2 h1 h2 (lwI_m h3 (by omega)))
    refine n_tabC (k := 28) (t := 1726) dL_law_40 (by decide) rfl (by decide) (fun h_z => ?_) (fun h28 => ?_)
    · exact lc_28 G hfr hlo (by omega) (by omega) hT_z hi_z hk hL hI (by omega) (fun  v5 v6 v7 w2 f2_z j2 b2 h1 h2 h3 => tail T ty im p B th pl v5 v6 v7 w2 f2_z j2 b2 h1 h2 (lwI_m h3 (by omega)))
    refine n_tabC (k := 29) (t := 1789) dL_law_40 (by decide) rfl (by decide) (fun h_z => ?_) (fun h29 => ?_)
    · exact lc_29 G hfr hlo (by omega) (by omega) hT_z hi_z hk hL hI (by omega) (fun  v5 v6 v7 w2 f2_z j2 b2 h1 h2 h3 => tail T ty im p B th pl v5 v6 v7 w2 f2_z j2 b2 h1 h2 (lwI_m h3 (by omega)))
    refine n_tabC (k := 30) (t := 1802) dL_law_40 (by decide) rfl (by decide) (fun h_z => ?_) (fun h30 => ?_)
    · exact lc_30 G hfr hlo (by omega) (by omega) hT_z hi_z hk hL hI (by omega) (fun  v5 v6 v7 w2 f2_z j2 b2 h1 h2 h3 => tail T ty im p B th pl v5 v6 v7 w2 f2_z j2 b2 h1 h2 (lwI_m h3 (by omega)))
    refine n_tabC (k := 31) (t := 1858) dL_law_40 (by decide) rfl (by decide) (fun h_z => ?_) (fun h31 => ?_)
    · exact lc_31 G hfr hlo (by omega) (by omega) hT_z hi_z hk hL hI (by omega) (fun  v5 v6 v7 w2 f2_z j2 b2 h1 h2 h3 => tail T ty im p B th pl v5 v6 v7 w2 f2_z j2 b2 h1 h2 (lwI_m h3 (by omega)))
    refine n_tabC (k := 32) (t := 1871) dL_law_40 (by decide) rfl (by decide) (fun h_z => ?_) (fun h32 => ?_)
    · exact lc_32 G hfr hlo (by omega) (by omega) hT_z hi_z hk hL hI (by omega) (fun  v5 v6 v7 w2 f2_z j2 b2 h1 h2 h3 => tail T ty im p B th pl v5 v6 v7 w2 f2_z j2 b2 h1 h2 (lwI_m h3 (by omega)))
    refine n_tabC (k := 33) (t := 1927) dL_law_40 (by decide) rfl (by decide) (fun h_z => ?_) (fun h33 => ?_)
    · exact lc_33 G hfr hlo (by omega) (by omega) hT_z hi_z hk hL hI (by omega) (fun  v5 v6 v7 w2 f2_z j2 b2 h1 h2 h3 => tail T ty im p B th pl v5 v6 v7 w2 f2_z j2 b2 h1 h2 (lwI_m h3 (by omega)))
    refine n_tabC (k := 34) (t := 1995) dL_law_40 (by decide) rfl (by decide) (fun h_z => ?_) (fun h34 => ?_)
    · exact lc_34 G hfr hlo (by omega) (by omega) hT_z hi_z hk hL hI (by omega) (fun  v5 v6 v7 w2 f2_z j2 b2 h1 h2 h3 => tail T ty im p B th pl v5 v6 v7 w2 f2_z j2 b2 h1 h2 (lwI_m h3 (by omega)))
    refine n_tabC (k := 35) (t := 2008) dL_law_40 (by decide) rfl (by decide) (fun h_z => ?_) (fun h35 => ?_)
    · exact lc_35 G hfr hlo (by omega) (by omega) hT_z hi_z hk hL hI (by omega) (fun  v5 v6 v7 w2 f2_z j2 b2 h1 h2 h3 => tail T ty im p B th pl v5 v6 v7 w2 f2_z j2 b2 h1 h2 (lwI_m h3 (by omega)))
    refine n_tabC (k := 36) (t := 2021) dL_law_40 (by decide) rfl (by decide) (fun h_z => ?_) (fun h36 => ?_)
    · exact lc_36 G hfr hlo (by omega) (by omega) hT_z hi_z hk hL hI (by omega) (fun  v5 v6 v7 w2 f2_z j2 b2 h1 h2 h3 => tail T ty im p B th pl v5 v6 v7 w2 f2_z j2 b2 h1 h2 (lwI_m h3 (by omega)))
    refine n_tabC (k := 37) (t := 2089) dL_law_40 (by decide) rfl (by decide) (fun h_z => ?_) (fun h37 => ?_)
    · exact lc_37 G hfr hlo (by omega) (by omega) hT_z hi_z hk hL hI (by omega) (fun  v5 v6 v7 w2 f2_z j2 b2 h1 h2 h3 => tail T ty im p B th pl v5 v6 v7 w2 f2_z j2 b2 h1 h2 (lwI_m h3 (by omega)))
    refine n_tabC (k := 38) (t := 2145) dL_law_40 (by decide) rfl (by decide) (fun h_z => ?_) (fun h38 => ?_)
    · exact lc_38 G hfr hlo (by omega) (by omega) hT_z hi_z hk hL hI (by omega) (fun  v5 v6 v7 w2 f2_z j2 b2 h1 h2 h3 => tail T ty im p B th pl v5 v6 v7 w2 f2_z j2 b2 h1 h2 (lwI_m h3 (by omega)))
    refine n_tabC (k := 39) (t := 2201) dL_law_40 (by decide) rfl (by decide) (fun h_z => ?_) (fun h39 => ?_)
    · exact lc_39 G hfr hlo (by omega) (by omega) hT_z hi_z hk hL hI (by omega) (fun  v5 v6 v7 w2 f2_z j2 b2 h1 h2 h3 => tail T ty im p B th pl v5 v6 v7 w2 f2_z j2 b2 h1 h2 (lwI_m h3 (by omega)))
    refine n_tabC (k := 40) (t := 2269) dL_law_40 (by decide) rfl (by decide) (fun h_z => ?_) (fun h40 => ?_)
    · exact lc_40 G hfr hlo (by omega) (by omega) hT_z hi_z hk hL hI (by omega) (fun  v5 v6 v7 w2 f2_z j2 b2 h1 h2 h3 => tail T ty im p B th pl v5 v6 v7 w2 f2_z j2 b2 h1 h2 (lwI_m h3 (by omega)))
    refine n_tabC (k := 41) (t := 2337) dL_law_40 (by decide) rfl (by decide) (fun h_z => ?_) (fun h41 => ?_)
    · exact lc_41 G hfr hlo (by omega) (by omega) hT_z hi_z hk hL hI (by omega) (fun  v5 v6 v7 w2 f2_z j2 b2 h1 h2 h3 => tail T ty im p B th pl v5 v6 v7 w2 f2_z j2 b2 h1 h2 (lwI_m h3 (by omega)))
    refine n_tabC (k := 42) (t := 2405) dL_law_40 (by decide) rfl (by decide) (fun h_z => ?_) (fun h42 => ?_)
    · exact lc_42 G hfr hlo (by omega) (by omega) hT_z hi_z hk hL hI (by omega) (fun T9 ty9 im9 p9 B9 th9 pl9 v5 v6 v7 w2 f2_z j2 b2 h1 h2 h3 => tail T9 ty9 im9 p9 B9 th9 pl9 v5 v6 v7 w2 f2_z j2 b2 h1 h2 (lwI_m h3 (by omega)))
    refine n_tabC (k := 43) (t := 2465) dL_law_40 (by decide) rfl (by decide) (fun h_z => ?_) (fun h43 => ?_)
    · exact lc_43 G hfr hlo (by omega) (by omega) hT_z hi_z hk hL hI (by omega) (fun T9 ty9 im9 p9 B9 th9 pl9 v5 v6 v7 w2 f2_z j2 b2 h1 h2 h3 => tail T9 ty9 im9 p9 B9 th9 pl9 v5 v6 v7 w2 f2_z j2 b2 h1 h2 (lwI_m h3 (by omega)))
    refine n_tabC (k := 44) (t := 2576) dL_law_40 (by decide) rfl (by decide) (fun h_z => ?_) (fun h44 => ?_)
    · exact lc_44 G hfr hlo (by omega) (by omega) hT_z hi_z hk hL hI (by omega) (fun T9 ty9 im9 p9 B9 th9 pl9 v5 v6 v7 w2 f2_z j2 b2 h1 h2 h3 => tail T9 ty9 im9 p9 B9 th9 pl9 v5 v6 v7 w2 f2_z j2 b2 h1 h2 (lwI_m h3 (by omega)))
    refine n_tabC (k := 45) (t := 2632) dL_law_40 (by decide) rfl (by decide) (fun h_z => ?_) (fun h45 => ?_)
    · exact lc_45 G hfr hlo (by omega) (by omega) hT_z hi_z hk hL hI (by omega) (fun T9 ty9 im9 p9 B9 th9 pl9 v5 v6 v7 w2 f2_z j2 b2 h1 h2 h3 => tail T9 ty9 im9 p9 B9 th9 pl9 v5 v6 v7 w2 f2_z j2 b2 h1 h2 (lwI_m h3 (by omega)))
    refine n_tabC (k := 46) (t := 2668) dL_law_40 (by decide) rfl (by decide) (fun h_z => ?_) (fun h46 => ?_)
    · exact lc_46 G hfr hlo (by omega) (by omega) hT_z hi_z hk hL hI (by omega) (fun T9 ty9 im9 p9 B9 th9 pl9 v5 v6 v7 w2 f2_z j2 b2 h1 h2 h3 => tail T9 ty9 im9 p9 B9 th9 pl9 v5 v6 v7 w2 f2_z j2 b2 h1 h2 (lwI_m h3 (by omega)))
    refine n_tabC (k := 47) (t := 2704) dL_law_40 (by decide) rfl (by decide) (fun h_z => ?_) (fun h47 => ?_)
    · exact lc_47 G hfr hlo (by omega) (by omega) hT_z hi_z hk hL hI (by omega) (fun  v5 v6 v7 w2 f2_z j2 b2 h1 h2 h3 => tail T ty im p B th pl v5 v6 v7 w2 f2_z j2 b2 h1 h2 (lwI_m h3 (by omega)))
    refine n_tabD (t := 2729) dL_law_40 (by decide) (by omega) ?_
    exact tail T ty im p B th pl _ _ _ _ _ _ _ (by omega) (by omega) (lwI_m hI (by omega))
