/-! the reference: stacks -/
def btR (v a b : Int) : Prop := min a b < v ∧ v < max a b
def canC (Pl : Nat → Int) (n : Nat) : Prop := ∀ k l, k + 2 ≤ l → (l - k) % 2 = 0 → l + 1 < n → (btR (Pl l) (Pl k) (Pl (k + 1)) ↔ btR (Pl (l + 1)) (Pl k) (Pl (k + 1)))
def btB (v a b : Int) : Bool := decide (min a b < v) && decide (v < max a b)
theorem btB_iff {v a b : Int} : btB v a b = true ↔ btR v a b := by
  unfold btB btR
  rw [Bool.and_eq_true, decide_eq_true_iff, decide_eq_true_iff]
def canB (n : Nat) (Pl : Nat → Int) : Bool := (List.range n).all (fun k => (List.range n).all (fun l => if k + 2 ≤ l ∧ (l - k) % 2 = 0 ∧ l + 1 < n then btB (Pl l) (Pl k) (Pl (k + 1)) == btB (Pl (l + 1)) (Pl k) (Pl (k + 1)) else true))
theorem canB_iff {n : Nat} {Pl : Nat → Int} : canB n Pl = true ↔ canC Pl n := by
  unfold canB canC
  constructor
  · intro h_z k l h1 h2 h3
    have h4 := List.all_eq_true.mp (List.all_eq_true.mp h_z k (List.mem_range.mpr (by omega))) l (List.mem_range.mpr (by omega))
    rw [if_pos ⟨h1, h2, h3⟩, beq_iff_eq] at h4
    rw [← btB_iff, ← btB_iff, h4]
  · intro h_z
    refine List.all_eq_true.mpr (fun k hk => List.all_eq_true.mpr (fun l hl => ?_))
    split
    · rename_i h9
      have h4 := h_z k l h9.1 h9.2.1 h9.2.2
      rw [beq_iff_eq]
      rw [← btB_iff, ← btB_iff] at h4
      exact Bool.eq_iff_iff.mpr h4
    · rfl
def staR (n : Nat) : Nat → Nat → (Nat → Int) → Nat → Nat
  | 0, _, Pl, _ => if canB n Pl = true then 1 else 0
  | m + 1, c, Pl, tk => sumW (fun k => if tk.testBit k = true then 0 else staR n m (c + 1) (updW Pl c (k : Nat)) (tk ||| 2 ^ k)) n
theorem staR_le {n : Nat} (hn : n ≤ 6) : ∀ (m c : Nat) (Pl : Nat → Int) (tk : Nat), staR n m c Pl tk ≤ 6 ^ m := by
  intro m
  induction m with
  | zero =>
    intro c Pl tk
    show (if canB n Pl = true then 1 else 0) ≤ 1
    split <;> omega
  | succ m ih =>
    intro c Pl tk
    refine Nat.le_trans (sumW_le (B := 6 ^ m) (fun k => ?_) n) ?_
    · split
      · exact Nat.zero_le _
      · exact ih _ _ _
    · rw [Nat.pow_succ, Nat.mul_comm (6 ^ m) 6]
      exact Nat.mul_le_mul_right _ hn
theorem has_v : ∀ tk, tk < 64 → ∀ k, k < 6 → ((nI tk >>> (nI k &&& 31)) &&& 1).toInt = if tk.testBit k = true then 1 else 0 := by decide +kernel
theorem or_v : ∀ tk, tk < 64 → ∀ k, k < 6 → (nI tk ||| ((1 : Int32) <<< (nI k &&& 31))) = nI (tk ||| 2 ^ k) ∧ tk ||| 2 ^ k < 64 := by decide +kernel
set_option maxHeartbeats 4000000 in
set_option maxRecDepth 100000 in
theorem s_X12_isBetween {g : zGT} {w : zW} {f : Nat → Nat → Int32} {j : Nat → Nat → Int64} {v x y : Int32} {Q : Option Value → zW → Prop} {QX : String → zW → Prop} (G : zGok g)  (hQ : ∀ r : Int32, (r.toInt = 1 ∧ (btR v.toInt x.toInt y.toInt) ∨ r.toInt = 0 ∧ ¬ (btR v.toInt x.toInt y.toInt)) → Q (some (.int r)) (zM w f j)) : zC g 1 yX12_isBetween cX12_isBetween 3 (some .boolean) [.int v, .int x, .int y] (zM w f j) (0, 0) Q QX := by
  refine zC_of G (by decide +kernel) (Nat.le_of_ble_eq_true rfl) ?_
  unfold btR at hQ
  refine r_iload0 dX12_isBetween_0 ?_
  refine r_iload1 dX12_isBetween_1 ?_
  refine r_iload2 dX12_isBetween_2 ?_
  refine r_mmin zm_RX12_299 dX12_isBetween_3 (Nat.le_of_ble_eq_true rfl) (Nat.le_of_ble_eq_true rfl) (Nat.le_of_ble_eq_true rfl) (Nat.le_of_ble_eq_true rfl) (Nat.le_of_ble_eq_true rfl) (fun r3 e3_z => ?_)
  refine t_icle (t := 22) dX12_isBetween_6 (by decide) (fun h6 => ?_) (fun h6 => ?_)
  · refine n_iconst dX12_isBetween_22 (by decide) (fun r22 e22_z => ?_)
    refine m_zret dX12_isBetween_23 rfl (by omega) (Nat.le_of_ble_eq_true rfl) (Nat.le_of_ble_eq_true rfl) ?_
    exact hQ _ (by omega)
  · refine r_iload0 dX12_isBetween_9 ?_
    refine r_iload1 dX12_isBetween_10 ?_
    refine r_iload2 dX12_isBetween_11 ?_
    refine r_mmax zm_RX12_268 dX12_isBetween_12 (Nat.le_of_ble_eq_true rfl) (Nat.le_of_ble_eq_true rfl) (Nat.le_of_ble_eq_true rfl) (Nat.le_of_ble_eq_true rfl) (Nat.le_of_ble_eq_true rfl) (fun r12 e12_z => ?_)
    refine t_icge (t := 22) dX12_isBetween_15 (by decide) (fun h15 => ?_) (fun h15 => ?_)
    · refine n_iconst dX12_isBetween_22 (by decide) (fun r22 e22_z => ?_)
      refine m_zret dX12_isBetween_23 rfl (by omega) (Nat.le_of_ble_eq_true rfl) (Nat.le_of_ble_eq_true rfl) ?_
      exact hQ _ (by omega)
    · refine n_iconst dX12_isBetween_18 (by decide) (fun r18 e18_z => ?_)
      refine r_goto (t := 23) dX12_isBetween_19 (by decide) ?_
      refine m_zret dX12_isBetween_23 rfl (by omega) (Nat.le_of_ble_eq_true rfl) (Nat.le_of_ble_eq_true rfl) ?_
      exact hQ _ (by omega)
set_option maxHeartbeats 4000000 in
set_option maxRecDepth 100000 in
theorem s_X12_has {g : zGT} {w : zW} {f : Nat → Nat → Int32} {j : Nat → Nat → Int64} {x y : Int32} {tk k : Nat} {Q : Option Value → zW → Prop} {QX : String → zW → Prop} (G : zGok g) (hx : x.toInt = (tk : Nat)) (ht : tk < 64) (hy : y.toInt = (k : Nat)) (hk6 : k < 6) (hQ : ∀ r : Int32, r.toInt = (if tk.testBit k = true then 1 else 0) → Q (some (.int r)) (zM w f j)) : zC g 1 yX12_has cX12_has 2 (some .boolean) [.int x, .int y] (zM w f j) (0, 0) Q QX := by
  refine zC_of G (by decide +kernel) (Nat.le_of_ble_eq_true rfl) ?_
  refine r_iload0 dX12_has_0 ?_
  refine r_iload1 dX12_has_1 ?_
  refine r_ishr dX12_has_2 ?_
  refine n_name (fun r2 e2_z => ?_)
  refine n_iconst dX12_has_3 (by decide) (fun r3 e3_z => ?_)
  refine r_iand dX12_has_4 ?_
  refine n_name (fun r4 e4_z => ?_)
  have h4 : r4.toInt = if tk.testBit k = true then 1 else 0 := by rw [e4_z, e2_z, zi_of hx (by omega), zi_of hy (by omega), show r3 = 1 from zi_eq.mpr (e3_z.trans (by decide))]; exact has_v tk ht k hk6
  refine n_iconst dX12_has_5 (by decide) (fun r5 e5_z => ?_)
  refine t_icne (t := 13) dX12_has_6 (by decide) (fun h6 => ?_) (fun h6 => ?_)
  · refine n_iconst dX12_has_13 (by decide) (fun r13 e13_z => ?_)
    refine m_zret dX12_has_14 rfl (by omega) (Nat.le_of_ble_eq_true rfl) (Nat.le_of_ble_eq_true rfl) ?_
    refine hQ _ ?_
    split at h4
    · rename_i h9; rw [if_pos h9]; omega
    · rename_i h9; rw [if_neg h9]; omega
  · refine n_iconst dX12_has_9 (by decide) (fun r9 e9_z => ?_)
    refine r_goto (t := 14) dX12_has_10 (by decide) ?_
    refine m_zret dX12_has_14 rfl (by omega) (Nat.le_of_ble_eq_true rfl) (Nat.le_of_ble_eq_true rfl) ?_
    refine hQ _ ?_
    split at h4
    · rename_i h9; rw [if_pos h9]; omega
    · rename_i h9; rw [if_neg h9]; omega
set_option maxHeartbeats 4000000 in
set_option maxRecDepth 100000 in
theorem s_X12_canStand {g : zGT} {w : zW} {f : Nat → Nat → Int32} {j : Nat → Nat → Int64} {A : Nat} {T : zTb} {Pl : Nat → Int} {Q : Option Value → zW → Prop} {QX : String → zW → Prop} (G : zGok g) (hs : shM w A) (hk : ctKn (f (A + 1)) T) (hw : wfT T) (hP : ∀ i, i < tbC T → (f (A + 16) i).toInt = Pl i) (hQ : ∀ r : Int32, (r.toInt = 1 ∧ canB (tbC T) Pl = true ∨ r.toInt = 0 ∧ ¬ canB (tbC T) Pl = true) → Q (some (.int r)) (zM w f j)) : zC g 2 yX12_canStand cX12_canStand 3 (some .boolean) [.ref A] (zM w f j) (0, 0) Q QX := by
  refine zC_of G (by decide +kernel) (Nat.le_of_ble_eq_true rfl) ?_
  have hn6 : tbC T ≤ 6 := hw.2.1
  have lp : ∀ (mz : Nat) (c : Int32) (k : Nat) (v2_ : Option Value), c.toInt = (k : Nat) → k ≤ 6 → (∀ k9 l9, k9 + 2 ≤ l9 → (l9 - k9) % 2 = 0 → l9 + 1 < tbC T → k9 < k → (btR (Pl l9) (Pl k9) (Pl (k9 + 1)) ↔ btR (Pl (l9 + 1)) (Pl k9) (Pl (k9 + 1)))) → tbC T - k < mz → zR (zV g 2 yX12_canStand 3 (some .boolean) (0, 0) Q QX) cX12_canStand yX12_canStand.cls 2 [some (.ref A), some (.int c), v2_] [] (zM w f j) (0, 0) := by
    intro mz
    induction mz with
    | zero =>
      intro c k v2_ hck hkb hd_z hmz
      exact absurd hmz (Nat.not_lt_zero _)
    | succ mz ih =>
      intro c k v2_ hck hkb hd_z hmz
      rcases Nat.lt_or_ge (k + 1) (tbC T) with hkl | hkl
      · obtain ⟨mo, hmo⟩ : ∃ mo, mo = mz := ⟨_, rfl⟩
        rw [← hmo] at hmz
        have iho := ih
        rw [← hmo] at iho
        have lq : ∀ (mz : Nat) (c : Int32) (c2_z : Int32) (k : Nat) (t : Nat), c.toInt = (k : Nat) → c2_z.toInt = ((k + 2 + 2 * t : Nat) : Int) → (k + 1 < tbC T ∧ tbC T - k < mo + 1) → k + 2 + 2 * t ≤ 8 → (∀ k9 l9, k9 + 2 ≤ l9 → (l9 - k9) % 2 = 0 → l9 + 1 < tbC T → (k9 < k ∨ k9 = k ∧ l9 < k + 2 + 2 * t) → (btR (Pl l9) (Pl k9) (Pl (k9 + 1)) ↔ btR (Pl (l9 + 1)) (Pl k9) (Pl (k9 + 1)))) → 6 - t < mz → zR (zV g 2 yX12_canStand 3 (some .boolean) (0, 0) Q QX) cX12_canStand yX12_canStand.cls 16 [some (.ref A), some (.int c), some (.int c2_z)] [] (zM w f j) (0, 0) := by
          intro mz
          induction mz with
          | zero =>
            intro c c2_z k t hck hcl hmo ht8 hd_z hmz
            exact absurd hmz (Nat.not_lt_zero _)
          | succ mz ih =>
            intro c c2_z k t hck hcl hmo ht8 hd_z hmz
            have hlt : k + 2 + 2 * t < k + 2 + 2 * t + 1 := Nat.lt_succ_self _
            rcases Nat.lt_or_ge (k + 2 + 2 * t + 1) (tbC T) with hl9 | hl9
            · have p0 := hP k (by omega)
              have p1 := hP (k + 1) (by omega)
              have p2 := hP (k + 2 + 2 * t) (by omega)
              have p3 := hP (k + 2 + 2 * t + 1) hl9
              refine r_iload2 dX12_canStand_16 ?_
              refine n_iconst dX12_canStand_17 (by decide) (fun r17 e17_z => ?_)
              refine n_iadd dX12_canStand_18 (by omega) (fun r18 e18_z => ?_)
              refine r_aloadR0 dX12_canStand_19 ?_
              refine q_callV0 zm_RX12_253 dX12_canStand_20 (shM_k hs) (by decide) rfl (Nat.le_of_ble_eq_true rfl) (Nat.le_of_ble_eq_true rfl) (Nat.le_of_ble_eq_true rfl) (Nat.le_of_ble_eq_true rfl) (Nat.le_of_ble_eq_true rfl) (s_X12_cells G hs hk.1.2.1 (fun r20 e20 => ?_))
              refine t_icge (t := 85) dX12_canStand_23 (by decide) (fun h23 => False.elim (by omega)) (fun h23 => ?_)
              refine r_aloadR0 dX12_canStand_26 ?_
              refine m_getR (q := (A + 16)) zf_RX12_62 rfl dX12_canStand_27 (shM_k hs) (shM_p16 hs) ?_
              refine r_iload2 dX12_canStand_30 ?_
              refine m_iald (k := (k + 2 + 2 * t)) (x := (f (A + 16) ((k + 2 + 2 * t)))) dX12_canStand_31 (shM_k16 hs) (shM_n16 hs) (by omega) (by omega) (rfl) ?_
              refine r_aloadR0 dX12_canStand_32 ?_
              refine m_getR (q := (A + 16)) zf_RX12_62 rfl dX12_canStand_33 (shM_k hs) (shM_p16 hs) ?_
              refine r_iload1 dX12_canStand_36 ?_
              refine m_iald (k := k) (x := (f (A + 16) k)) dX12_canStand_37 (shM_k16 hs) (shM_n16 hs) (by omega) (by omega) (rfl) ?_
              refine r_aloadR0 dX12_canStand_38 ?_
              refine m_getR (q := (A + 16)) zf_RX12_62 rfl dX12_canStand_39 (shM_k hs) (shM_p16 hs) ?_
              refine r_iload1 dX12_canStand_42 ?_
              refine n_iconst dX12_canStand_43 (by decide) (fun r43 e43 => ?_)
              refine n_iadd dX12_canStand_44 (by omega) (fun r44 e44 => ?_)
              refine m_iald (k := (k + 1)) (x := (f (A + 16) ((k + 1)))) dX12_canStand_45 (shM_k16 hs) (shM_n16 hs) (by omega) (by omega) (rfl) ?_
              refine q_callS3 zm_RX12_527 dX12_canStand_46 (Nat.le_of_ble_eq_true rfl) (Nat.le_of_ble_eq_true rfl) (Nat.le_of_ble_eq_true rfl) (Nat.le_of_ble_eq_true rfl) (Nat.le_of_ble_eq_true rfl) (s_X12_isBetween G (fun r46 e46 => ?_))
              rw [p0, p1, p2] at e46
              refine r_aloadR0 dX12_canStand_49 ?_
              refine m_getR (q := (A + 16)) zf_RX12_62 rfl dX12_canStand_50 (shM_k hs) (shM_p16 hs) ?_
              refine r_iload2 dX12_canStand_53 ?_
              refine n_iconst dX12_canStand_54 (by decide) (fun r54 e54 => ?_)
              refine n_iadd dX12_canStand_55 (by omega) (fun r55 e55 => ?_)
              refine m_iald (k := (k + 2 + 2 * t + 1)) (x := (f (A + 16) ((k + 2 + 2 * t + 1)))) dX12_canStand_56 (shM_k16 hs) (shM_n16 hs) (by omega) (by omega) (rfl) ?_
              refine r_aloadR0 dX12_canStand_57 ?_
              refine m_getR (q := (A + 16)) zf_RX12_62 rfl dX12_canStand_58 (shM_k hs) (shM_p16 hs) ?_
              refine r_iload1 dX12_canStand_61 ?_
              refine m_iald (k := k) (x := (f (A + 16) k)) dX12_canStand_62 (shM_k16 hs) (shM_n16 hs) (by omega) (by omega) (rfl) ?_
              refine r_aloadR0 dX12_canStand_63 ?_
              refine m_getR (q := (A + 16)) zf_RX12_62 rfl dX12_canStand_64 (shM_k hs) (shM_p16 hs) ?_
              refine r_iload1 dX12_canStand_67 ?_
              refine n_iconst dX12_canStand_68 (by decide) (fun r68 e68 => ?_)
              refine n_iadd dX12_canStand_69 (by omega) (fun r69 e69 => ?_)
              refine m_iald (k := (k + 1)) (x := (f (A + 16) ((k + 1)))) dX12_canStand_70 (shM_k16 hs) (shM_n16 hs) (by omega) (by omega) (rfl) ?_
              refine q_callS3 zm_RX12_527 dX12_canStand_71 (Nat.le_of_ble_eq_true rfl) (Nat.le_of_ble_eq_true rfl) (Nat.le_of_ble_eq_true rfl) (Nat.le_of_ble_eq_true rfl) (Nat.le_of_ble_eq_true rfl) (s_X12_isBetween G (fun r71 e71_z => ?_))
              rw [p0, p1, p3] at e71_z
              refine t_iceq (t := 79) dX12_canStand_74 (by decide) (fun h74 => ?_) (fun h74 => ?_)
              · refine n_iinc2 dX12_canStand_79 (by decide) rfl (by omega) (fun r79 e79 => ?_)
                refine r_goto (t := 16) dX12_canStand_82 (by decide) ?_
                refine ih _ _ k (t + 1) (by omega) (by omega) hmo (by omega) (fun k9 l9 a1 a2 a3 a4 => ?_) (by omega)
                by_cases he : k9 = k ∧ l9 = k + 2 + 2 * t
                · rw [he.1, he.2]
                  rcases e46 with ⟨c1_z, c2_z⟩ | ⟨c1_z, c2_z⟩
                  · rcases e71_z with ⟨b1, b2⟩ | ⟨b1, b2⟩
                    · exact ⟨fun _ => b2, fun _ => c2_z⟩
                    · omega
                  · rcases e71_z with ⟨b1, b2⟩ | ⟨b1, b2⟩
                    · omega
                    · exact ⟨fun h9 => absurd h9 c2_z, fun h9 => absurd h9 b2⟩
                · exact hd_z k9 l9 a1 a2 a3 (by omega)
              · refine n_iconst dX12_canStand_77 (by decide) (fun r77 e77 => ?_)
                refine m_zret dX12_canStand_78 rfl (by omega) (Nat.le_of_ble_eq_true rfl) (Nat.le_of_ble_eq_true rfl) ?_
                refine hQ _ (Or.inr ⟨by omega, fun h9 => ?_⟩)
                have h8 := canB_iff.mp h9 k (k + 2 + 2 * t) (by omega) (by omega) hl9
                rcases e46 with ⟨a1, a2⟩ | ⟨a1, a2⟩
                · rcases e71_z with ⟨b1, b2⟩ | ⟨b1, b2⟩
                  · omega
                  · exact b2 (h8.mp a2)
                · rcases e71_z with ⟨b1, b2⟩ | ⟨b1, b2⟩
                  · exact a2 (h8.mpr b2)
                  · omega
            · refine r_iload2 dX12_canStand_16 ?_
              refine n_iconst dX12_canStand_17 (by decide) (fun r17 e17_z => ?_)
              refine n_iadd dX12_canStand_18 (by omega) (fun r18 e18_z => ?_)
              refine r_aloadR0 dX12_canStand_19 ?_
              refine q_callV0 zm_RX12_253 dX12_canStand_20 (shM_k hs) (by decide) rfl (Nat.le_of_ble_eq_true rfl) (Nat.le_of_ble_eq_true rfl) (Nat.le_of_ble_eq_true rfl) (Nat.le_of_ble_eq_true rfl) (Nat.le_of_ble_eq_true rfl) (s_X12_cells G hs hk.1.2.1 (fun r20 e20 => ?_))
              refine t_icge (t := 85) dX12_canStand_23 (by decide) (fun h23 => ?_) (fun h23 => False.elim (by omega))
              refine n_iinc1 dX12_canStand_85 (by decide) rfl (by omega) (fun r85 e85 => ?_)
              refine r_goto (t := 2) dX12_canStand_88 (by decide) ?_
              exact iho _ (k + 1) _ (by omega) (by omega) (fun k9 l9 a1 a2 a3 a4 => hd_z k9 l9 a1 a2 a3 (by omega)) (by omega)
        refine r_iload1 dX12_canStand_2 ?_
        refine n_iconst dX12_canStand_3 (by decide) (fun r3 e3_z => ?_)
        refine n_iadd dX12_canStand_4 (by omega) (fun r4 e4_z => ?_)
        refine r_aloadR0 dX12_canStand_5 ?_
        refine q_callV0 zm_RX12_253 dX12_canStand_6 (shM_k hs) (by decide) rfl (Nat.le_of_ble_eq_true rfl) (Nat.le_of_ble_eq_true rfl) (Nat.le_of_ble_eq_true rfl) (Nat.le_of_ble_eq_true rfl) (Nat.le_of_ble_eq_true rfl) (s_X12_cells G hs hk.1.2.1 (fun r6 e6_z => ?_))
        refine t_icge (t := 91) dX12_canStand_9 (by decide) (fun h9 => False.elim (by omega)) (fun h9 => ?_)
        refine r_iload1 dX12_canStand_12 ?_
        refine n_iconst dX12_canStand_13 (by decide) (fun r13 e13_z => ?_)
        refine n_iadd dX12_canStand_14 (by omega) (fun r14 e14_z => ?_)
        refine r_istore2 dX12_canStand_15 rfl ?_
        exact lq 7 _ _ k 0 (by omega) (by omega) ⟨hkl, hmz⟩ (by omega) (fun k9 l9 a1 a2 a3 a4 => hd_z k9 l9 a1 a2 a3 (by omega)) (by omega)
      · refine r_iload1 dX12_canStand_2 ?_
        refine n_iconst dX12_canStand_3 (by decide) (fun r3 e3_z => ?_)
        refine n_iadd dX12_canStand_4 (by omega) (fun r4 e4_z => ?_)
        refine r_aloadR0 dX12_canStand_5 ?_
        refine q_callV0 zm_RX12_253 dX12_canStand_6 (shM_k hs) (by decide) rfl (Nat.le_of_ble_eq_true rfl) (Nat.le_of_ble_eq_true rfl) (Nat.le_of_ble_eq_true rfl) (Nat.le_of_ble_eq_true rfl) (Nat.le_of_ble_eq_true rfl) (s_X12_cells G hs hk.1.2.1 (fun r6 e6_z => ?_))
        refine t_icge (t := 91) dX12_canStand_9 (by decide) (fun h9 => ?_) (fun h9 => False.elim (by omega))
        refine n_iconst dX12_canStand_91 (by decide) (fun r91 e91 => ?_)
        refine m_zret dX12_canStand_92 rfl (by omega) (Nat.le_of_ble_eq_true rfl) (Nat.le_of_ble_eq_true rfl) ?_
        exact hQ _ (Or.inl ⟨by omega, canB_iff.mpr (fun k9 l9 a1 a2 a3 => hd_z k9 l9 a1 a2 a3 (by omega))⟩)
  refine n_iconst dX12_canStand_0 (by decide) (fun r0 e0_z => ?_)
  refine r_istore1 dX12_canStand_1 rfl ?_
  exact lp 7 _ 0 _ (by omega) (by omega) (fun k9 l9 a1 a2 a3 a4 => absurd a4 (by omega)) (by omega)
set_option maxHeartbeats 4000000 in
set_option maxRecDepth 100000 in
theorem s_X12_standing_6 {g : zGT} {w : zW} {f : Nat → Nat → Int32} {j : Nat → Nat → Int64} {A : Nat} {T : zTb} {tk : Nat} {Pl : Nat → Int} {x y : Int32} {Q : Option Value → zW → Prop} {QX : String → zW → Prop} (G : zGok g) (hs : shM w A) (hk : ctKn (f (A + 1)) T) (hw : wfT T) (hx : x.toInt = 6) (hy : y.toInt = (tk : Nat)) (ht : tk < 64) (hcn : 6 ≤ tbC T) (hP : ∀ i, i < 6 → (f (A + 16) i).toInt = Pl i) (hQ : ∀ (r : Int32) f2_z, r.toInt = (staR (tbC T) (tbC T - 6) 6 Pl tk : Nat) → frM A [16] [] f f2_z → (∀ i, i < 6 → f2_z (A + 16) i = f (A + 16) i) → Q (some (.int r)) (zM w f2_z j)) : zC g 3 yX12_standing cX12_standing 5 (some .int) [.ref A, .int x, .int y] (zM w f j) (0, 0) Q QX := by
  refine zC_of G (by decide +kernel) (Nat.le_of_ble_eq_true rfl) ?_
  have hn6 : tbC T ≤ 6 := hw.2.1
  rcases Nat.lt_or_ge 6 (tbC T) with hlt | hge
  · exact absurd hlt (by omega)
  · refine r_iload1 dX12_standing_0 ?_
    refine r_aloadR0 dX12_standing_1 ?_
    refine q_callV0 zm_RX12_253 dX12_standing_2 (shM_k hs) (by decide) rfl (Nat.le_of_ble_eq_true rfl) (Nat.le_of_ble_eq_true rfl) (Nat.le_of_ble_eq_true rfl) (Nat.le_of_ble_eq_true rfl) (Nat.le_of_ble_eq_true rfl) (s_X12_cells G hs hk.1.2.1 (fun r2 e2_z => ?_))
    refine t_icne (t := 21) dX12_standing_5 (by decide) (fun h5 => False.elim (by omega)) (fun h5 => ?_)
    refine r_aloadR0 dX12_standing_8 ?_
    refine q_callV0 zm_RX12_534 dX12_standing_9 (shM_k hs) (by decide) rfl (Nat.le_of_ble_eq_true rfl) (Nat.le_of_ble_eq_true rfl) (Nat.le_of_ble_eq_true rfl) (Nat.le_of_ble_eq_true rfl) (Nat.le_of_ble_eq_true rfl) (s_X12_canStand (Pl := Pl) G hs hk hw (fun i hi_z => hP i (by omega)) (fun r9 e9_z => ?_))
    refine t_ifeq (t := 19) dX12_standing_12 (by decide) (fun h12 => ?_) (fun h12 => ?_)
    · refine n_iconst dX12_standing_19 (by decide) (fun r19 e19_z => ?_)
      refine r_iret dX12_standing_20 rfl (Nat.le_of_ble_eq_true rfl) (Nat.le_of_ble_eq_true rfl) ?_
      refine hQ _ f ?_ frM_rf (fun _ _ => rfl)
      rw [show tbC T - 6 = 0 by omega]
      show _ = ((if canB (tbC T) Pl = true then 1 else 0 : Nat) : Int)
      rcases e9_z with ⟨q1_z, q2_z⟩ | ⟨q1_z, q2_z⟩
      · rw [if_pos q2_z]; omega
      · rw [if_neg q2_z]; omega
    · refine n_iconst dX12_standing_15 (by decide) (fun r15 e15_z => ?_)
      refine r_goto (t := 20) dX12_standing_16 (by decide) ?_
      refine r_iret dX12_standing_20 rfl (Nat.le_of_ble_eq_true rfl) (Nat.le_of_ble_eq_true rfl) ?_
      refine hQ _ f ?_ frM_rf (fun _ _ => rfl)
      rw [show tbC T - 6 = 0 by omega]
      show _ = ((if canB (tbC T) Pl = true then 1 else 0 : Nat) : Int)
      rcases e9_z with ⟨q1_z, q2_z⟩ | ⟨q1_z, q2_z⟩
      · rw [if_pos q2_z]; omega
      · rw [if_neg q2_z]; omega
set_option maxHeartbeats 4000000 in
set_option maxRecDepth 100000 in
theorem s_X12_standing_5 {g : zGT} {w : zW} {f : Nat → Nat → Int32} {j : Nat → Nat → Int64} {A : Nat} {T : zTb} {tk : Nat} {Pl : Nat → Int} {x y : Int32} {Q : Option Value → zW → Prop} {QX : String → zW → Prop} (G : zGok g) (hs : shM w A) (hk : ctKn (f (A + 1)) T) (hw : wfT T) (hx : x.toInt = 5) (hy : y.toInt = (tk : Nat)) (ht : tk < 64) (hcn : 5 ≤ tbC T) (hP : ∀ i, i < 5 → (f (A + 16) i).toInt = Pl i) (hQ : ∀ (r : Int32) f2_z, r.toInt = (staR (tbC T) (tbC T - 5) 5 Pl tk : Nat) → frM A [16] [] f f2_z → (∀ i, i < 5 → f2_z (A + 16) i = f (A + 16) i) → Q (some (.int r)) (zM w f2_z j)) : zC g 4 yX12_standing cX12_standing 5 (some .int) [.ref A, .int x, .int y] (zM w f j) (0, 0) Q QX := by
  refine zC_of G (by decide +kernel) (Nat.le_of_ble_eq_true rfl) ?_
  have hn6 : tbC T ≤ 6 := hw.2.1
  rcases Nat.lt_or_ge 5 (tbC T) with hlt | hge
  · obtain ⟨m, hm_z⟩ : ∃ m, tbC T - 5 = m + 1 := ⟨tbC T - 5 - 1, by omega⟩
    have hsu : staR (tbC T) (tbC T - 5) 5 Pl tk = sumW (fun k => if tk.testBit k = true then 0 else staR (tbC T) m 6 (updW Pl 5 (k : Nat)) (tk ||| 2 ^ k)) (tbC T) := by rw [hm_z]; rfl
    generalize hGd : (fun k : Nat => if tk.testBit k = true then 0 else staR (tbC T) m 6 (updW Pl 5 (k : Nat)) (tk ||| 2 ^ k)) = GG at hsu
    have hGv : ∀ k, GG k = if tk.testBit k = true then 0 else staR (tbC T) m 6 (updW Pl 5 (k : Nat)) (tk ||| 2 ^ k) := fun k => by rw [← hGd]
    have hGb : ∀ p, GG p ≤ 7776 := by
      intro p
      rw [hGv]
      split
      · exact Nat.zero_le _
      · exact Nat.le_trans (staR_le hn6 m _ _ _) (Nat.le_trans (Nat.pow_le_pow_right (by decide) (show m ≤ 5 by omega)) (Nat.le_refl _))
    have lp : ∀ (mz : Nat) (v : Int32) (c : Int32) (k : Nat) (f2_z : Nat → Nat → Int32), c.toInt = (k : Nat) → k ≤ tbC T → v.toInt = (sumW GG k : Nat) → frM A [16] [] f f2_z → (∀ i, i < 5 → f2_z (A + 16) i = f (A + 16) i) → tbC T - k < mz → zR (zV g 4 yX12_standing 5 (some .int) (0, 0) Q QX) cX12_standing yX12_standing.cls 26 [some (.ref A), some (.int x), some (.int y), some (.int v), some (.int c)] [] (zM w f2_z j) (0, 0) := by
      intro mz
      induction mz with
      | zero =>
        intro v c k f2_z hck hkn hv ho ho2 hmz
        exact absurd hmz (Nat.not_lt_zero _)
      | succ mz ih =>
        intro v c k f2_z hck hkn hv ho ho2 hmz
        have hsb := sumW_le hGb k
        have hk2 : ctKn (f2_z (A + 1)) T := by rw [ho.2.1 1 (by decide) (by decide) (by decide)]; exact hk
        rcases Nat.lt_or_ge k (tbC T) with hkl | hkl
        · have hsb1 := sumW_le hGb (k + 1)
          have hss : sumW GG (k + 1) = sumW GG k + GG k := rfl
          have hGk := hGv k
          have hov := or_v tk ht k (by omega)
          cases htb9 : tk.testBit k with
          | true =>
            rw [htb9, if_pos rfl] at hGk
            refine r_iload4 dX12_standing_26 ?_
            refine r_aloadR0 dX12_standing_28 ?_
            refine q_callV0 zm_RX12_253 dX12_standing_29 (shM_k hs) (by decide) rfl (Nat.le_of_ble_eq_true rfl) (Nat.le_of_ble_eq_true rfl) (Nat.le_of_ble_eq_true rfl) (Nat.le_of_ble_eq_true rfl) (Nat.le_of_ble_eq_true rfl) (s_X12_cells G hs hk2.1.2.1 (fun r29 e29 => ?_))
            refine t_icge (t := 77) dX12_standing_32 (by decide) (fun h32 => False.elim (by omega)) (fun h32 => ?_)
            refine r_iload2 dX12_standing_35 ?_
            refine r_iload4 dX12_standing_36 ?_
            refine q_callS2 zm_RX12_538 dX12_standing_38 (Nat.le_of_ble_eq_true rfl) (Nat.le_of_ble_eq_true rfl) (Nat.le_of_ble_eq_true rfl) (Nat.le_of_ble_eq_true rfl) (Nat.le_of_ble_eq_true rfl) (s_X12_has (tk := tk) (k := k) G hy ht hck (by omega) (fun r38 e38 => ?_))
            rw [htb9, if_pos rfl] at e38
            refine t_ifeq (t := 47) dX12_standing_41 (by decide) (fun h41 => False.elim (by omega)) (fun h41 => ?_)
            refine r_goto (t := 71) dX12_standing_44 (by decide) ?_
            refine n_iinc4 dX12_standing_71 (by decide) rfl (by omega) (fun r71 e71_z => ?_)
            refine r_goto (t := 26) dX12_standing_74 (by decide) ?_
            exact ih _ _ (k + 1) f2_z (by omega) (by omega) (by omega) ho ho2 (by omega)
          | false =>
            rw [htb9, if_neg (by decide)] at hGk
            refine r_iload4 dX12_standing_26 ?_
            refine r_aloadR0 dX12_standing_28 ?_
            refine q_callV0 zm_RX12_253 dX12_standing_29 (shM_k hs) (by decide) rfl (Nat.le_of_ble_eq_true rfl) (Nat.le_of_ble_eq_true rfl) (Nat.le_of_ble_eq_true rfl) (Nat.le_of_ble_eq_true rfl) (Nat.le_of_ble_eq_true rfl) (s_X12_cells G hs hk2.1.2.1 (fun r29 e29 => ?_))
            refine t_icge (t := 77) dX12_standing_32 (by decide) (fun h32 => False.elim (by omega)) (fun h32 => ?_)
            refine r_iload2 dX12_standing_35 ?_
            refine r_iload4 dX12_standing_36 ?_
            refine q_callS2 zm_RX12_538 dX12_standing_38 (Nat.le_of_ble_eq_true rfl) (Nat.le_of_ble_eq_true rfl) (Nat.le_of_ble_eq_true rfl) (Nat.le_of_ble_eq_true rfl) (Nat.le_of_ble_eq_true rfl) (s_X12_has (tk := tk) (k := k) G hy ht hck (by omega) (fun r38 e38 => ?_))
            rw [htb9, if_neg (by decide)] at e38
            refine t_ifeq (t := 47) dX12_standing_41 (by decide) (fun h41 => ?_) (fun h41 => False.elim (by omega))
            refine r_aloadR0 dX12_standing_47 ?_
            refine m_getR (q := (A + 16)) zf_RX12_62 rfl dX12_standing_48 (shM_k hs) (shM_p16 hs) ?_
            refine r_iload1 dX12_standing_51 ?_
            refine r_iload4 dX12_standing_52 ?_
            refine m_iast (k := 5) dX12_standing_54 (shM_k16 hs) (shM_n16 hs) (by omega) (by omega) ?_
            refine r_iload3 dX12_standing_55 ?_
            refine r_aloadR0 dX12_standing_56 ?_
            refine r_iload1 dX12_standing_57 ?_
            refine n_iconst dX12_standing_58 (by decide) (fun r58 e58 => ?_)
            refine n_iadd dX12_standing_59 (by omega) (fun r59 e59 => ?_)
            refine r_iload2 dX12_standing_60 ?_
            refine n_iconst dX12_standing_61 (by decide) (fun r61 e61 => ?_)
            refine r_iload4 dX12_standing_62 ?_
            refine r_ishl dX12_standing_64 ?_
            refine n_name (fun r64 e64 => ?_)
            refine r_ior dX12_standing_65 ?_
            refine n_name (fun r65 e65 => ?_)
            have h65 : r65.toInt = ((tk ||| 2 ^ k : Nat) : Int) := by
              rw [e65, e64, show r61 = 1 from zi_eq.mpr (e61.trans (by decide)), show y = nI tk from zi_of hy (by omega), show c = nI k from zi_of hck (by omega), hov.1]
              exact zi_n (by omega)
            refine q_callV2 zm_RX12_541 dX12_standing_66 (shM_k hs) (by decide) rfl (Nat.le_of_ble_eq_true rfl) (Nat.le_of_ble_eq_true rfl) (Nat.le_of_ble_eq_true rfl) (Nat.le_of_ble_eq_true rfl) (Nat.le_of_ble_eq_true rfl) (s_X12_standing_6 (T := T) (tk := tk ||| 2 ^ k) (Pl := updW Pl 5 (k : Nat)) G hs (by rw [zu_ne (by omega)]; exact hk2) hw (by omega) h65 hov.2 (by omega) (fun i hi_z => ?_) (fun r66 f3_z e66 ho3 ho4 => ?_))
            · unfold updW
              by_cases hic : i = 5
              · rw [if_pos hic, hic, zu_at]; exact hck
              · rw [if_neg hic, zu_nn (Or.inr hic), ho2 i (by omega)]; exact hP i (by omega)
            rw [show tbC T - 6 = m by omega] at e66
            refine n_iadd dX12_standing_69 (by omega) (fun r69 e69 => ?_)
            refine r_istore3 dX12_standing_70 rfl ?_
            refine n_iinc4 dX12_standing_71 (by decide) rfl (by omega) (fun r71 e71_z => ?_)
            refine r_goto (t := 26) dX12_standing_74 (by decide) ?_
            refine ih _ _ (k + 1) f3_z (by omega) (by omega) (by omega) (frM_tr ho (frM_tr (frM_zr (r := 16) frM_rf (by decide) (by decide) (by decide)) ho3)) (fun i hi_z => ?_) (by omega)
            rw [ho4 i (by omega), zu_nn (Or.inr (by omega))]; exact ho2 i hi_z
        · refine r_iload4 dX12_standing_26 ?_
          refine r_aloadR0 dX12_standing_28 ?_
          refine q_callV0 zm_RX12_253 dX12_standing_29 (shM_k hs) (by decide) rfl (Nat.le_of_ble_eq_true rfl) (Nat.le_of_ble_eq_true rfl) (Nat.le_of_ble_eq_true rfl) (Nat.le_of_ble_eq_true rfl) (Nat.le_of_ble_eq_true rfl) (s_X12_cells G hs hk2.1.2.1 (fun r29 e29 => ?_))
          refine t_icge (t := 77) dX12_standing_32 (by decide) (fun h32 => ?_) (fun h32 => False.elim (by omega))
          refine r_iload3 dX12_standing_77 ?_
          refine r_iret dX12_standing_78 rfl (Nat.le_of_ble_eq_true rfl) (Nat.le_of_ble_eq_true rfl) ?_
          refine hQ _ f2_z ?_ ho ho2
          rw [hsu, show tbC T = k by omega]; exact hv
    refine r_iload1 dX12_standing_0 ?_
    refine r_aloadR0 dX12_standing_1 ?_
    refine q_callV0 zm_RX12_253 dX12_standing_2 (shM_k hs) (by decide) rfl (Nat.le_of_ble_eq_true rfl) (Nat.le_of_ble_eq_true rfl) (Nat.le_of_ble_eq_true rfl) (Nat.le_of_ble_eq_true rfl) (Nat.le_of_ble_eq_true rfl) (s_X12_cells G hs hk.1.2.1 (fun r2 e2_z => ?_))
    refine t_icne (t := 21) dX12_standing_5 (by decide) (fun h5 => ?_) (fun h5 => False.elim (by omega))
    refine n_iconst dX12_standing_21 (by decide) (fun r21 e21_z => ?_)
    refine r_istore3 dX12_standing_22 rfl ?_
    refine n_iconst dX12_standing_23 (by decide) (fun r23 e23_z => ?_)
    refine r_istore4 dX12_standing_24 rfl ?_
    exact lp 7 _ _ 0 f (by omega) (by omega) (by show _ = ((0 : Nat) : Int); omega) frM_rf (fun _ _ => rfl) (by omega)
  · refine r_iload1 dX12_standing_0 ?_
    refine r_aloadR0 dX12_standing_1 ?_
    refine q_callV0 zm_RX12_253 dX12_standing_2 (shM_k hs) (by decide) rfl (Nat.le_of_ble_eq_true rfl) (Nat.le_of_ble_eq_true rfl) (Nat.le_of_ble_eq_true rfl) (Nat.le_of_ble_eq_true rfl) (Nat.le_of_ble_eq_true rfl) (s_X12_cells G hs hk.1.2.1 (fun r2 e2_z => ?_))
    refine t_icne (t := 21) dX12_standing_5 (by decide) (fun h5 => False.elim (by omega)) (fun h5 => ?_)
    refine r_aloadR0 dX12_standing_8 ?_
    refine q_callV0 zm_RX12_534 dX12_standing_9 (shM_k hs) (by decide) rfl (Nat.le_of_ble_eq_true rfl) (Nat.le_of_ble_eq_true rfl) (Nat.le_of_ble_eq_true rfl) (Nat.le_of_ble_eq_true rfl) (Nat.le_of_ble_eq_true rfl) (s_X12_canStand (Pl := Pl) G hs hk hw (fun i hi_z => hP i (by omega)) (fun r9 e9_z => ?_))
    refine t_ifeq (t := 19) dX12_standing_12 (by decide) (fun h12 => ?_) (fun h12 => ?_)
    · refine n_iconst dX12_standing_19 (by decide) (fun r19 e19_z => ?_)
      refine r_iret dX12_standing_20 rfl (Nat.le_of_ble_eq_true rfl) (Nat.le_of_ble_eq_true rfl) ?_
      refine hQ _ f ?_ frM_rf (fun _ _ => rfl)
      rw [show tbC T - 5 = 0 by omega]
      show _ = ((if canB (tbC T) Pl = true then 1 else 0 : Nat) : Int)
      rcases e9_z with ⟨q1_z, q2_z⟩ | ⟨q1_z, q2_z⟩
      · rw [if_pos q2_z]; omega
      · rw [if_neg q2_z]; omega
    · refine n_iconst dX12_standing_15 (by decide) (fun r15 e15_z => ?_)
      refine r_goto (t := 20) dX12_standing_16 (by decide) ?_
      refine r_iret dX12_standing_20 rfl (Nat.le_of_ble_eq_true rfl) (Nat.le_of_ble_eq_true rfl) ?_
      refine hQ _ f ?_ frM_rf (fun _ _ => rfl)
      rw [show tbC T - 5 = 0 by omega]
      show _ = ((if canB (tbC T) Pl = true then 1 else 0 : Nat) : Int)
      rcases e9_z with ⟨q1_z, q2_z⟩ | ⟨q1_z, q2_z⟩
      · rw [if_pos q2_z]; omega
      · rw [if_neg q2_z]; omega
set_option maxHeartbeats 4000000 in
set_option maxRecDepth 100000 in
theorem s_X12_standing_4 {g : zGT} {w : zW} {f : Nat → Nat → Int32} {j : Nat → Nat → Int64} {A : Nat} {T : zTb} {tk : Nat} {Pl : Nat → Int} {x y : Int32} {Q : Option Value → zW → Prop} {QX : String → zW → Prop} (G : zGok g) (hs : shM w A) (hk : ctKn (f (A + 1)) T) (hw : wfT T) (hx : x.toInt = 4) (hy : y.toInt = (tk : Nat)) (ht : tk < 64) (hcn : 4 ≤ tbC T) (hP : ∀ i, i < 4 → (f (A + 16) i).toInt = Pl i) (hQ : ∀ (r : Int32) f2_z, r.toInt = (staR (tbC T) (tbC T - 4) 4 Pl tk : Nat) → frM A [16] [] f f2_z → (∀ i, i < 4 → f2_z (A + 16) i = f (A + 16) i) → Q (some (.int r)) (zM w f2_z j)) : zC g 5 yX12_standing cX12_standing 5 (some .int) [.ref A, .int x, .int y] (zM w f j) (0, 0) Q QX := by
  refine zC_of G (by decide +kernel) (Nat.le_of_ble_eq_true rfl) ?_
  have hn6 : tbC T ≤ 6 := hw.2.1
  rcases Nat.lt_or_ge 4 (tbC T) with hlt | hge
  · obtain ⟨m, hm_z⟩ : ∃ m, tbC T - 4 = m + 1 := ⟨tbC T - 4 - 1, by omega⟩
    have hsu : staR (tbC T) (tbC T - 4) 4 Pl tk = sumW (fun k => if tk.testBit k = true then 0 else staR (tbC T) m 5 (updW Pl 4 (k : Nat)) (tk ||| 2 ^ k)) (tbC T) := by rw [hm_z]; rfl
    generalize hGd : (fun k : Nat => if tk.testBit k = true then 0 else staR (tbC T) m 5 (updW Pl 4 (k : Nat)) (tk ||| 2 ^ k)) = GG at hsu
    have hGv : ∀ k, GG k = if tk.testBit k = true then 0 else staR (tbC T) m 5 (updW Pl 4 (k : Nat)) (tk ||| 2 ^ k) := fun k => by rw [← hGd]
    have hGb : ∀ p, GG p ≤ 7776 := by
      intro p
      rw [hGv]
      split
      · exact Nat.zero_le _
      · exact Nat.le_trans (staR_le hn6 m _ _ _) (Nat.le_trans (Nat.pow_le_pow_right (by decide) (show m ≤ 5 by omega)) (Nat.le_refl _))
    have lp : ∀ (mz : Nat) (v : Int32) (c : Int32) (k : Nat) (f2_z : Nat → Nat → Int32), c.toInt = (k : Nat) → k ≤ tbC T → v.toInt = (sumW GG k : Nat) → frM A [16] [] f f2_z → (∀ i, i < 4 → f2_z (A + 16) i = f (A + 16) i) → tbC T - k < mz → zR (zV g 5 yX12_standing 5 (some .int) (0, 0) Q QX) cX12_standing yX12_standing.cls 26 [some (.ref A), some (.int x), some (.int y), some (.int v), some (.int c)] [] (zM w f2_z j) (0, 0) := by
      intro mz
      induction mz with
      | zero =>
        intro v c k f2_z hck hkn hv ho ho2 hmz
        exact absurd hmz (Nat.not_lt_zero _)
      | succ mz ih =>
        intro v c k f2_z hck hkn hv ho ho2 hmz
        have hsb := sumW_le hGb k
        have hk2 : ctKn (f2_z (A + 1)) T := by rw [ho.2.1 1 (by decide) (by decide) (by decide)]; exact hk
        rcases Nat.lt_or_ge k (tbC T) with hkl | hkl
        · have hsb1 := sumW_le hGb (k + 1)
          have hss : sumW GG (k + 1) = sumW GG k + GG k := rfl
          have hGk := hGv k
          have hov := or_v tk ht k (by omega)
          cases htb9 : tk.testBit k with
          | true =>
            rw [htb9, if_pos rfl] at hGk
            refine r_iload4 dX12_standing_26 ?_
            refine r_aloadR0 dX12_standing_28 ?_
            refine q_callV0 zm_RX12_253 dX12_standing_29 (shM_k hs) (by decide) rfl (Nat.le_of_ble_eq_true rfl) (Nat.le_of_ble_eq_true rfl) (Nat.le_of_ble_eq_true rfl) (Nat.le_of_ble_eq_true rfl) (Nat.le_of_ble_eq_true rfl) (s_X12_cells G hs hk2.1.2.1 (fun r29 e29 => ?_))
            refine t_icge (t := 77) dX12_standing_32 (by decide) (fun h32 => False.elim (by omega)) (fun h32 => ?_)
            refine r_iload2 dX12_standing_35 ?_
            refine r_iload4 dX12_standing_36 ?_
            refine q_callS2 zm_RX12_538 dX12_standing_38 (Nat.le_of_ble_eq_true rfl) (Nat.le_of_ble_eq_true rfl) (Nat.le_of_ble_eq_true rfl) (Nat.le_of_ble_eq_true rfl) (Nat.le_of_ble_eq_true rfl) (s_X12_has (tk := tk) (k := k) G hy ht hck (by omega) (fun r38 e38 => ?_))
            rw [htb9, if_pos rfl] at e38
            refine t_ifeq (t := 47) dX12_standing_41 (by decide) (fun h41 => False.elim (by omega)) (fun h41 => ?_)
            refine r_goto (t := 71) dX12_standing_44 (by decide) ?_
            refine n_iinc4 dX12_standing_71 (by decide) rfl (by omega) (fun r71 e71_z => ?_)
            refine r_goto (t := 26) dX12_standing_74 (by decide) ?_
            exact ih _ _ (k + 1) f2_z (by omega) (by omega) (by omega) ho ho2 (by omega)
          | false =>
            rw [htb9, if_neg (by decide)] at hGk
            refine r_iload4 dX12_standing_26 ?_
            refine r_aloadR0 dX12_standing_28 ?_
            refine q_callV0 zm_RX12_253 dX12_standing_29 (shM_k hs) (by decide) rfl (Nat.le_of_ble_eq_true rfl) (Nat.le_of_ble_eq_true rfl) (Nat.le_of_ble_eq_true rfl) (Nat.le_of_ble_eq_true rfl) (Nat.le_of_ble_eq_true rfl) (s_X12_cells G hs hk2.1.2.1 (fun r29 e29 => ?_))
            refine t_icge (t := 77) dX12_standing_32 (by decide) (fun h32 => False.elim (by omega)) (fun h32 => ?_)
            refine r_iload2 dX12_standing_35 ?_
            refine r_iload4 dX12_standing_36 ?_
            refine q_callS2 zm_RX12_538 dX12_standing_38 (Nat.le_of_ble_eq_true rfl) (Nat.le_of_ble_eq_true rfl) (Nat.le_of_ble_eq_true rfl) (Nat.le_of_ble_eq_true rfl) (Nat.le_of_ble_eq_true rfl) (s_X12_has (tk := tk) (k := k) G hy ht hck (by omega) (fun r38 e38 => ?_))
            rw [htb9, if_neg (by decide)] at e38
            refine t_ifeq (t := 47) dX12_standing_41 (by decide) (fun h41 => ?_) (fun h41 => False.elim (by omega))
            refine r_aloadR0 dX12_standing_47 ?_
            refine m_getR (q := (A + 16)) zf_RX12_62 rfl dX12_standing_48 (shM_k hs) (shM_p16 hs) ?_
            refine r_iload1 dX12_standing_51 ?_
            refine r_iload4 dX12_standing_52 ?_
            refine m_iast (k := 4) dX12_standing_54 (shM_k16 hs) (shM_n16 hs) (by omega) (by omega) ?_
            refine r_iload3 dX12_standing_55 ?_
            refine r_aloadR0 dX12_standing_56 ?_
            refine r_iload1 dX12_standing_57 ?_
            refine n_iconst dX12_standing_58 (by decide) (fun r58 e58 => ?_)
            refine n_iadd dX12_standing_59 (by omega) (fun r59 e59 => ?_)
            refine r_iload2 dX12_standing_60 ?_
            refine n_iconst dX12_standing_61 (by decide) (fun r61 e61 => ?_)
            refine r_iload4 dX12_standing_62 ?_
            refine r_ishl dX12_standing_64 ?_
            refine n_name (fun r64 e64 => ?_)
            refine r_ior dX12_standing_65 ?_
            refine n_name (fun r65 e65 => ?_)
            have h65 : r65.toInt = ((tk ||| 2 ^ k : Nat) : Int) := by
              rw [e65, e64, show r61 = 1 from zi_eq.mpr (e61.trans (by decide)), show y = nI tk from zi_of hy (by omega), show c = nI k from zi_of hck (by omega), hov.1]
              exact zi_n (by omega)
            refine q_callV2 zm_RX12_541 dX12_standing_66 (shM_k hs) (by decide) rfl (Nat.le_of_ble_eq_true rfl) (Nat.le_of_ble_eq_true rfl) (Nat.le_of_ble_eq_true rfl) (Nat.le_of_ble_eq_true rfl) (Nat.le_of_ble_eq_true rfl) (s_X12_standing_5 (T := T) (tk := tk ||| 2 ^ k) (Pl := updW Pl 4 (k : Nat)) G hs (by rw [zu_ne (by omega)]; exact hk2) hw (by omega) h65 hov.2 (by omega) (fun i hi_z => ?_) (fun r66 f3_z e66 ho3 ho4 => ?_))
            · unfold updW
              by_cases hic : i = 4
              · rw [if_pos hic, hic, zu_at]; exact hck
              · rw [if_neg hic, zu_nn (Or.inr hic), ho2 i (by omega)]; exact hP i (by omega)
            rw [show tbC T - 5 = m by omega] at e66
            refine n_iadd dX12_standing_69 (by omega) (fun r69 e69 => ?_)
            refine r_istore3 dX12_standing_70 rfl ?_
            refine n_iinc4 dX12_standing_71 (by decide) rfl (by omega) (fun r71 e71_z => ?_)
            refine r_goto (t := 26) dX12_standing_74 (by decide) ?_
            refine ih _ _ (k + 1) f3_z (by omega) (by omega) (by omega) (frM_tr ho (frM_tr (frM_zr (r := 16) frM_rf (by decide) (by decide) (by decide)) ho3)) (fun i hi_z => ?_) (by omega)
            rw [ho4 i (by omega), zu_nn (Or.inr (by omega))]; exact ho2 i hi_z
        · refine r_iload4 dX12_standing_26 ?_
          refine r_aloadR0 dX12_standing_28 ?_
          refine q_callV0 zm_RX12_253 dX12_standing_29 (shM_k hs) (by decide) rfl (Nat.le_of_ble_eq_true rfl) (Nat.le_of_ble_eq_true rfl) (Nat.le_of_ble_eq_true rfl) (Nat.le_of_ble_eq_true rfl) (Nat.le_of_ble_eq_true rfl) (s_X12_cells G hs hk2.1.2.1 (fun r29 e29 => ?_))
          refine t_icge (t := 77) dX12_standing_32 (by decide) (fun h32 => ?_) (fun h32 => False.elim (by omega))
          refine r_iload3 dX12_standing_77 ?_
          refine r_iret dX12_standing_78 rfl (Nat.le_of_ble_eq_true rfl) (Nat.le_of_ble_eq_true rfl) ?_
          refine hQ _ f2_z ?_ ho ho2
          rw [hsu, show tbC T = k by omega]; exact hv
    refine r_iload1 dX12_standing_0 ?_
    refine r_aloadR0 dX12_standing_1 ?_
    refine q_callV0 zm_RX12_253 dX12_standing_2 (shM_k hs) (by decide) rfl (Nat.le_of_ble_eq_true rfl) (Nat.le_of_ble_eq_true rfl) (Nat.le_of_ble_eq_true rfl) (Nat.le_of_ble_eq_true rfl) (Nat.le_of_ble_eq_true rfl) (s_X12_cells G hs hk.1.2.1 (fun r2 e2_z => ?_))
    refine t_icne (t := 21) dX12_standing_5 (by decide) (fun h5 => ?_) (fun h5 => False.elim (by omega))
    refine n_iconst dX12_standing_21 (by decide) (fun r21 e21_z => ?_)
    refine r_istore3 dX12_standing_22 rfl ?_
    refine n_iconst dX12_standing_23 (by decide) (fun r23 e23_z => ?_)
    refine r_istore4 dX12_standing_24 rfl ?_
    exact lp 7 _ _ 0 f (by omega) (by omega) (by show _ = ((0 : Nat) : Int); omega) frM_rf (fun _ _ => rfl) (by omega)
  · refine r_iload1 dX12_standing_0 ?_
    refine r_aloadR0 dX12_standing_1 ?_
    refine q_callV0 zm_RX12_253 dX12_standing_2 (shM_k hs) (by decide) rfl (Nat.le_of_ble_eq_true rfl) (Nat.le_of_ble_eq_true rfl) (Nat.le_of_ble_eq_true rfl) (Nat.le_of_ble_eq_true rfl) (Nat.le_of_ble_eq_true rfl) (s_X12_cells G hs hk.1.2.1 (fun r2 e2_z => ?_))
    refine t_icne (t := 21) dX12_standing_5 (by decide) (fun h5 => False.elim (by omega)) (fun h5 => ?_)
    refine r_aloadR0 dX12_standing_8 ?_
    refine q_callV0 zm_RX12_534 dX12_standing_9 (shM_k hs) (by decide) rfl (Nat.le_of_ble_eq_true rfl) (Nat.le_of_ble_eq_true rfl) (Nat.le_of_ble_eq_true rfl) (Nat.le_of_ble_eq_true rfl) (Nat.le_of_ble_eq_true rfl) (s_X12_canStand (Pl := Pl) G hs hk hw (fun i hi_z => hP i (by omega)) (fun r9 e9_z => ?_))
    refine t_ifeq (t := 19) dX12_standing_12 (by decide) (fun h12 => ?_) (fun h12 => ?_)
    · refine n_iconst dX12_standing_19 (by decide) (fun r19 e19_z => ?_)
      refine r_iret dX12_standing_20 rfl (Nat.le_of_ble_eq_true rfl) (Nat.le_of_ble_eq_true rfl) ?_
      refine hQ _ f ?_ frM_rf (fun _ _ => rfl)
      rw [show tbC T - 4 = 0 by omega]
      show _ = ((if canB (tbC T) Pl = true then 1 else 0 : Nat) : Int)
      rcases e9_z with ⟨q1_z, q2_z⟩ | ⟨q1_z, q2_z⟩
      · rw [if_pos q2_z]; omega
      · rw [if_neg q2_z]; omega
    · refine n_iconst dX12_standing_15 (by decide) (fun r15 e15_z => ?_)
      refine r_goto (t := 20) dX12_standing_16 (by decide) ?_
      refine r_iret dX12_standing_20 rfl (Nat.le_of_ble_eq_true rfl) (Nat.le_of_ble_eq_true rfl) ?_
      refine hQ _ f ?_ frM_rf (fun _ _ => rfl)
      rw [show tbC T - 4 = 0 by omega]
      show _ = ((if canB (tbC T) Pl = true then 1 else 0 : Nat) : Int)
      rcases e9_z with ⟨q1_z, q2_z⟩ | ⟨q1_z, q2_z⟩
      · rw [if_pos q2_z]; omega
      · rw [if_neg q2_z]; omega
set_option maxHeartbeats 4000000 in
set_option maxRecDepth 100000 in
theorem s_X12_standing_3 {g : zGT} {w : zW} {f : Nat → Nat → Int32} {j : Nat → Nat → Int64} {A : Nat} {T : zTb} {tk : Nat} {Pl : Nat → Int} {x y : Int32} {Q : Option Value → zW → Prop} {QX : String → zW → Prop} (G : zGok g) (hs : shM w A) (hk : ctKn (f (A + 1)) T) (hw : wfT T) (hx : x.toInt = 3) (hy : y.toInt = (tk : Nat)) (ht : tk < 64) (hcn : 3 ≤ tbC T) (hP : ∀ i, i < 3 → (f (A + 16) i).toInt = Pl i) (hQ : ∀ (r : Int32) f2_z, r.toInt = (staR (tbC T) (tbC T - 3) 3 Pl tk : Nat) → frM A [16] [] f f2_z → (∀ i, i < 3 → f2_z (A + 16) i = f (A + 16) i) → Q (some (.int r)) (zM w f2_z j)) : zC g 6 yX12_standing cX12_standing 5 (some .int) [.ref A, .int x, .int y] (zM w f j) (0, 0) Q QX := by
  refine zC_of G (by decide +kernel) (Nat.le_of_ble_eq_true rfl) ?_
  have hn6 : tbC T ≤ 6 := hw.2.1
  rcases Nat.lt_or_ge 3 (tbC T) with hlt | hge
  · obtain ⟨m, hm_z⟩ : ∃ m, tbC T - 3 = m + 1 := ⟨tbC T - 3 - 1, by omega⟩
    have hsu : staR (tbC T) (tbC T - 3) 3 Pl tk = sumW (fun k => if tk.testBit k = true then 0 else staR (tbC T) m 4 (updW Pl 3 (k : Nat)) (tk ||| 2 ^ k)) (tbC T) := by rw [hm_z]; rfl
    generalize hGd : (fun k : Nat => if tk.testBit k = true then 0 else staR (tbC T) m 4 (updW Pl 3 (k : Nat)) (tk ||| 2 ^ k)) = GG at hsu
    have hGv : ∀ k, GG k = if tk.testBit k = true then 0 else staR (tbC T) m 4 (updW Pl 3 (k : Nat)) (tk ||| 2 ^ k) := fun k => by rw [← hGd]
    have hGb : ∀ p, GG p ≤ 7776 := by
      intro p
      rw [hGv]
      split
      · exact Nat.zero_le _
      · exact Nat.le_trans (staR_le hn6 m _ _ _) (Nat.le_trans (Nat.pow_le_pow_right (by decide) (show m ≤ 5 by omega)) (Nat.le_refl _))
    have lp : ∀ (mz : Nat) (v : Int32) (c : Int32) (k : Nat) (f2_z : Nat → Nat → Int32), c.toInt = (k : Nat) → k ≤ tbC T → v.toInt = (sumW GG k : Nat) → frM A [16] [] f f2_z → (∀ i, i < 3 → f2_z (A + 16) i = f (A + 16) i) → tbC T - k < mz → zR (zV g 6 yX12_standing 5 (some .int) (0, 0) Q QX) cX12_standing yX12_standing.cls 26 [some (.ref A), some (.int x), some (.int y), some (.int v), some (.int c)] [] (zM w f2_z j) (0, 0) := by
      intro mz
      induction mz with
      | zero =>
        intro v c k f2_z hck hkn hv ho ho2 hmz
        exact absurd hmz (Nat.not_lt_zero _)
      | succ mz ih =>
        intro v c k f2_z hck hkn hv ho ho2 hmz
        have hsb := sumW_le hGb k
        have hk2 : ctKn (f2_z (A + 1)) T := by rw [ho.2.1 1 (by decide) (by decide) (by decide)]; exact hk
        rcases Nat.lt_or_ge k (tbC T) with hkl | hkl
        · have hsb1 := sumW_le hGb (k + 1)
          have hss : sumW GG (k + 1) = sumW GG k + GG k := rfl
          have hGk := hGv k
          have hov := or_v tk ht k (by omega)
          cases htb9 : tk.testBit k with
          | true =>
            rw [htb9, if_pos rfl] at hGk
            refine r_iload4 dX12_standing_26 ?_
            refine r_aloadR0 dX12_standing_28 ?_
            refine q_callV0 zm_RX12_253 dX12_standing_29 (shM_k hs) (by decide) rfl (Nat.le_of_ble_eq_true rfl) (Nat.le_of_ble_eq_true rfl) (Nat.le_of_ble_eq_true rfl) (Nat.le_of_ble_eq_true rfl) (Nat.le_of_ble_eq_true rfl) (s_X12_cells G hs hk2.1.2.1 (fun r29 e29 => ?_))
            refine t_icge (t := 77) dX12_standing_32 (by decide) (fun h32 => False.elim (by omega)) (fun h32 => ?_)
            refine r_iload2 dX12_standing_35 ?_
            refine r_iload4 dX12_standing_36 ?_
            refine q_callS2 zm_RX12_538 dX12_standing_38 (Nat.le_of_ble_eq_true rfl) (Nat.le_of_ble_eq_true rfl) (Nat.le_of_ble_eq_true rfl) (Nat.le_of_ble_eq_true rfl) (Nat.le_of_ble_eq_true rfl) (s_X12_has (tk := tk) (k := k) G hy ht hck (by omega) (fun r38 e38 => ?_))
            rw [htb9, if_pos rfl] at e38
            refine t_ifeq (t := 47) dX12_standing_41 (by decide) (fun h41 => False.elim (by omega)) (fun h41 => ?_)
            refine r_goto (t := 71) dX12_standing_44 (by decide) ?_
            refine n_iinc4 dX12_standing_71 (by decide) rfl (by omega) (fun r71 e71_z => ?_)
            refine r_goto (t := 26) dX12_standing_74 (by decide) ?_
            exact ih _ _ (k + 1) f2_z (by omega) (by omega) (by omega) ho ho2 (by omega)
          | false =>
            rw [htb9, if_neg (by decide)] at hGk
            refine r_iload4 dX12_standing_26 ?_
            refine r_aloadR0 dX12_standing_28 ?_
            refine q_callV0 zm_RX12_253 dX12_standing_29 (shM_k hs) (by decide) rfl (Nat.le_of_ble_eq_true rfl) (Nat.le_of_ble_eq_true rfl) (Nat.le_of_ble_eq_true rfl) (Nat.le_of_ble_eq_true rfl) (Nat.le_of_ble_eq_true rfl) (s_X12_cells G hs hk2.1.2.1 (fun r29 e29 => ?_))
            refine t_icge (t := 77) dX12_standing_32 (by decide) (fun h32 => False.elim (by omega)) (fun h32 => ?_)
            refine r_iload2 dX12_standing_35 ?_
            refine r_iload4 dX12_standing_36 ?_
            refine q_callS2 zm_RX12_538 dX12_standing_38 (Nat.le_of_ble_eq_true rfl) (Nat.le_of_ble_eq_true rfl) (Nat.le_of_ble_eq_true rfl) (Nat.le_of_ble_eq_true rfl) (Nat.le_of_ble_eq_true rfl) (s_X12_has (tk := tk) (k := k) G hy ht hck (by omega) (fun r38 e38 => ?_))
            rw [htb9, if_neg (by decide)] at e38
            refine t_ifeq (t := 47) dX12_standing_41 (by decide) (fun h41 => ?_) (fun h41 => False.elim (by omega))
            refine r_aloadR0 dX12_standing_47 ?_
            refine m_getR (q := (A + 16)) zf_RX12_62 rfl dX12_standing_48 (shM_k hs) (shM_p16 hs) ?_
            refine r_iload1 dX12_standing_51 ?_
            refine r_iload4 dX12_standing_52 ?_
            refine m_iast (k := 3) dX12_standing_54 (shM_k16 hs) (shM_n16 hs) (by omega) (by omega) ?_
            refine r_iload3 dX12_standing_55 ?_
            refine r_aloadR0 dX12_standing_56 ?_
            refine r_iload1 dX12_standing_57 ?_
            refine n_iconst dX12_standing_58 (by decide) (fun r58 e58 => ?_)
            refine n_iadd dX12_standing_59 (by omega) (fun r59 e59 => ?_)
            refine r_iload2 dX12_standing_60 ?_
            refine n_iconst dX12_standing_61 (by decide) (fun r61 e61 => ?_)
            refine r_iload4 dX12_standing_62 ?_
            refine r_ishl dX12_standing_64 ?_
            refine n_name (fun r64 e64 => ?_)
            refine r_ior dX12_standing_65 ?_
            refine n_name (fun r65 e65 => ?_)
            have h65 : r65.toInt = ((tk ||| 2 ^ k : Nat) : Int) := by
              rw [e65, e64, show r61 = 1 from zi_eq.mpr (e61.trans (by decide)), show y = nI tk from zi_of hy (by omega), show c = nI k from zi_of hck (by omega), hov.1]
              exact zi_n (by omega)
            refine q_callV2 zm_RX12_541 dX12_standing_66 (shM_k hs) (by decide) rfl (Nat.le_of_ble_eq_true rfl) (Nat.le_of_ble_eq_true rfl) (Nat.le_of_ble_eq_true rfl) (Nat.le_of_ble_eq_true rfl) (Nat.le_of_ble_eq_true rfl) (s_X12_standing_4 (T := T) (tk := tk ||| 2 ^ k) (Pl := updW Pl 3 (k : Nat)) G hs (by rw [zu_ne (by omega)]; exact hk2) hw (by omega) h65 hov.2 (by omega) (fun i hi_z => ?_) (fun r66 f3_z e66 ho3 ho4 => ?_))
            · unfold updW
              by_cases hic : i = 3
              · rw [if_pos hic, hic, zu_at]; exact hck
              · rw [if_neg hic, zu_nn (Or.inr hic), ho2 i (by omega)]; exact hP i (by omega)
            rw [show tbC T - 4 = m by omega] at e66
            refine n_iadd dX12_standing_69 (by omega) (fun r69 e69 => ?_)
            refine r_istore3 dX12_standing_70 rfl ?_
            refine n_iinc4 dX12_standing_71 (by decide) rfl (by omega) (fun r71 e71_z => ?_)
            refine r_goto (t := 26) dX12_standing_74 (by decide) ?_
            refine ih _ _ (k + 1) f3_z (by omega) (by omega) (by omega) (frM_tr ho (frM_tr (frM_zr (r := 16) frM_rf (by decide) (by decide) (by decide)) ho3)) (fun i hi_z => ?_) (by omega)
            rw [ho4 i (by omega), zu_nn (Or.inr (by omega))]; exact ho2 i hi_z
        · refine r_iload4 dX12_standing_26 ?_
          refine r_aloadR0 dX12_standing_28 ?_
          refine q_callV0 zm_RX12_253 dX12_standing_29 (shM_k hs) (by decide) rfl (Nat.le_of_ble_eq_true rfl) (Nat.le_of_ble_eq_true rfl) (Nat.le_of_ble_eq_true rfl) (Nat.le_of_ble_eq_true rfl) (Nat.le_of_ble_eq_true rfl) (s_X12_cells G hs hk2.1.2.1 (fun r29 e29 => ?_))
          refine t_icge (t := 77) dX12_standing_32 (by decide) (fun h32 => ?_) (fun h32 => False.elim (by omega))
          refine r_iload3 dX12_standing_77 ?_
          refine r_iret dX12_standing_78 rfl (Nat.le_of_ble_eq_true rfl) (Nat.le_of_ble_eq_true rfl) ?_
          refine hQ _ f2_z ?_ ho ho2
          rw [hsu, show tbC T = k by omega]; exact hv
    refine r_iload1 dX12_standing_0 ?_
    refine r_aloadR0 dX12_standing_1 ?_
    refine q_callV0 zm_RX12_253 dX12_standing_2 (shM_k hs) (by decide) rfl (Nat.le_of_ble_eq_true rfl) (Nat.le_of_ble_eq_true rfl) (Nat.le_of_ble_eq_true rfl) (Nat.le_of_ble_eq_true rfl) (Nat.le_of_ble_eq_true rfl) (s_X12_cells G hs hk.1.2.1 (fun r2 e2_z => ?_))
    refine t_icne (t := 21) dX12_standing_5 (by decide) (fun h5 => ?_) (fun h5 => False.elim (by omega))
    refine n_iconst dX12_standing_21 (by decide) (fun r21 e21_z => ?_)
    refine r_istore3 dX12_standing_22 rfl ?_
    refine n_iconst dX12_standing_23 (by decide) (fun r23 e23_z => ?_)
    refine r_istore4 dX12_standing_24 rfl ?_
    exact lp 7 _ _ 0 f (by omega) (by omega) (by show _ = ((0 : Nat) : Int); omega) frM_rf (fun _ _ => rfl) (by omega)
  · refine r_iload1 dX12_standing_0 ?_
    refine r_aloadR0 dX12_standing_1 ?_
    refine q_callV0 zm_RX12_253 dX12_standing_2 (shM_k hs) (by decide) rfl (Nat.le_of_ble_eq_true rfl) (Nat.le_of_ble_eq_true rfl) (Nat.le_of_ble_eq_true rfl) (Nat.le_of_ble_eq_true rfl) (Nat.le_of_ble_eq_true rfl) (s_X12_cells G hs hk.1.2.1 (fun r2 e2_z => ?_))
    refine t_icne (t := 21) dX12_standing_5 (by decide) (fun h5 => False.elim (by omega)) (fun h5 => ?_)
    refine r_aloadR0 dX12_standing_8 ?_
    refine q_callV0 zm_RX12_534 dX12_standing_9 (shM_k hs) (by decide) rfl (Nat.le_of_ble_eq_true rfl) (Nat.le_of_ble_eq_true rfl) (Nat.le_of_ble_eq_true rfl) (Nat.le_of_ble_eq_true rfl) (Nat.le_of_ble_eq_true rfl) (s_X12_canStand (Pl := Pl) G hs hk hw (fun i hi_z => hP i (by omega)) (fun r9 e9_z => ?_))
    refine t_ifeq (t := 19) dX12_standing_12 (by decide) (fun h12 => ?_) (fun h12 => ?_)
    · refine n_iconst dX12_standing_19 (by decide) (fun r19 e19_z => ?_)
      refine r_iret dX12_standing_20 rfl (Nat.le_of_ble_eq_true rfl) (Nat.le_of_ble_eq_true rfl) ?_
      refine hQ _ f ?_ frM_rf (fun _ _ => rfl)
      rw [show tbC T - 3 = 0 by omega]
      show _ = ((if canB (tbC T) Pl = true then 1 else 0 : Nat) : Int)
      rcases e9_z with ⟨q1_z, q2_z⟩ | ⟨q1_z, q2_z⟩
      · rw [if_pos q2_z]; omega
      · rw [if_neg q2_z]; omega
    · refine n_iconst dX12_standing_15 (by decide) (fun r15 e15_z => ?_)
      refine r_goto (t := 20) dX12_standing_16 (by decide) ?_
      refine r_iret dX12_standing_20 rfl (Nat.le_of_ble_eq_true rfl) (Nat.le_of_ble_eq_true rfl) ?_
      refine hQ _ f ?_ frM_rf (fun _ _ => rfl)
      rw [show tbC T - 3 = 0 by omega]
      show _ = ((if canB (tbC T) Pl = true then 1 else 0 : Nat) : Int)
      rcases e9_z with ⟨q1_z, q2_z⟩ | ⟨q1_z, q2_z⟩
      · rw [if_pos q2_z]; omega
      · rw [if_neg q2_z]; omega
set_option maxHeartbeats 4000000 in
set_option maxRecDepth 100000 in
theorem s_X12_standing_2 {g : zGT} {w : zW} {f : Nat → Nat → Int32} {j : Nat → Nat → Int64} {A : Nat} {T : zTb} {tk : Nat} {Pl : Nat → Int} {x y : Int32} {Q : Option Value → zW → Prop} {QX : String → zW → Prop} (G : zGok g) (hs : shM w A) (hk : ctKn (f (A + 1)) T) (hw : wfT T) (hx : x.toInt = 2) (hy : y.toInt = (tk : Nat)) (ht : tk < 64) (hcn : 2 ≤ tbC T) (hP : ∀ i, i < 2 → (f (A + 16) i).toInt = Pl i) (hQ : ∀ (r : Int32) f2_z, r.toInt = (staR (tbC T) (tbC T - 2) 2 Pl tk : Nat) → frM A [16] [] f f2_z → (∀ i, i < 2 → f2_z (A + 16) i = f (A + 16) i) → Q (some (.int r)) (zM w f2_z j)) : zC g 7 yX12_standing cX12_standing 5 (some .int) [.ref A, .int x, .int y] (zM w f j) (0, 0) Q QX := by
  refine zC_of G (by decide +kernel) (Nat.le_of_ble_eq_true rfl) ?_
  have hn6 : tbC T ≤ 6 := hw.2.1
  rcases Nat.lt_or_ge 2 (tbC T) with hlt | hge
  · obtain ⟨m, hm_z⟩ : ∃ m, tbC T - 2 = m + 1 := ⟨tbC T - 2 - 1, by omega⟩
    have hsu : staR (tbC T) (tbC T - 2) 2 Pl tk = sumW (fun k => if tk.testBit k = true then 0 else staR (tbC T) m 3 (updW Pl 2 (k : Nat)) (tk ||| 2 ^ k)) (tbC T) := by rw [hm_z]; rfl
    generalize hGd : (fun k : Nat => if tk.testBit k = true then 0 else staR (tbC T) m 3 (updW Pl 2 (k : Nat)) (tk ||| 2 ^ k)) = GG at hsu
    have hGv : ∀ k, GG k = if tk.testBit k = true then 0 else staR (tbC T) m 3 (updW Pl 2 (k : Nat)) (tk ||| 2 ^ k) := fun k => by rw [← hGd]
    have hGb : ∀ p, GG p ≤ 7776 := by
      intro p
      rw [hGv]
      split
      · exact Nat.zero_le _
      · exact Nat.le_trans (staR_le hn6 m _ _ _) (Nat.le_trans (Nat.pow_le_pow_right (by decide) (show m ≤ 5 by omega)) (Nat.le_refl _))
    have lp : ∀ (mz : Nat) (v : Int32) (c : Int32) (k : Nat) (f2_z : Nat → Nat → Int32), c.toInt = (k : Nat) → k ≤ tbC T → v.toInt = (sumW GG k : Nat) → frM A [16] [] f f2_z → (∀ i, i < 2 → f2_z (A + 16) i = f (A + 16) i) → tbC T - k < mz → zR (zV g 7 yX12_standing 5 (some .int) (0, 0) Q QX) cX12_standing yX12_standing.cls 26 [some (.ref A), some (.int x), some (.int y), some (.int v), some (.int c)] [] (zM w f2_z j) (0, 0) := by
      intro mz
      induction mz with
      | zero =>
        intro v c k f2_z hck hkn hv ho ho2 hmz
        exact absurd hmz (Nat.not_lt_zero _)
      | succ mz ih =>
        intro v c k f2_z hck hkn hv ho ho2 hmz
        have hsb := sumW_le hGb k
        have hk2 : ctKn (f2_z (A + 1)) T := by rw [ho.2.1 1 (by decide) (by decide) (by decide)]; exact hk
        rcases Nat.lt_or_ge k (tbC T) with hkl | hkl
        · have hsb1 := sumW_le hGb (k + 1)
          have hss : sumW GG (k + 1) = sumW GG k + GG k := rfl
          have hGk := hGv k
          have hov := or_v tk ht k (by omega)
          cases htb9 : tk.testBit k with
          | true =>
            rw [htb9, if_pos rfl] at hGk
            refine r_iload4 dX12_standing_26 ?_
            refine r_aloadR0 dX12_standing_28 ?_
            refine q_callV0 zm_RX12_253 dX12_standing_29 (shM_k hs) (by decide) rfl (Nat.le_of_ble_eq_true rfl) (Nat.le_of_ble_eq_true rfl) (Nat.le_of_ble_eq_true rfl) (Nat.le_of_ble_eq_true rfl) (Nat.le_of_ble_eq_true rfl) (s_X12_cells G hs hk2.1.2.1 (fun r29 e29 => ?_))
            refine t_icge (t := 77) dX12_standing_32 (by decide) (fun h32 => False.elim (by omega)) (fun h32 => ?_)
            refine r_iload2 dX12_standing_35 ?_
            refine r_iload4 dX12_standing_36 ?_
            refine q_callS2 zm_RX12_538 dX12_standing_38 (Nat.le_of_ble_eq_true rfl) (Nat.le_of_ble_eq_true rfl) (Nat.le_of_ble_eq_true rfl) (Nat.le_of_ble_eq_true rfl) (Nat.le_of_ble_eq_true rfl) (s_X12_has (tk := tk) (k := k) G hy ht hck (by omega) (fun r38 e38 => ?_))
            rw [htb9, if_pos rfl] at e38
            refine t_ifeq (t := 47) dX12_standing_41 (by decide) (fun h41 => False.elim (by omega)) (fun h41 => ?_)
            refine r_goto (t := 71) dX12_standing_44 (by decide) ?_
            refine n_iinc4 dX12_standing_71 (by decide) rfl (by omega) (fun r71 e71_z => ?_)
            refine r_goto (t := 26) dX12_standing_74 (by decide) ?_
            exact ih _ _ (k + 1) f2_z (by omega) (by omega) (by omega) ho ho2 (by omega)
          | false =>
            rw [htb9, if_neg (by decide)] at hGk
            refine r_iload4 dX12_standing_26 ?_
            refine r_aloadR0 dX12_standing_28 ?_
            refine q_callV0 zm_RX12_253 dX12_standing_29 (shM_k hs) (by decide) rfl (Nat.le_of_ble_eq_true rfl) (Nat.le_of_ble_eq_true rfl) (Nat.le_of_ble_eq_true rfl) (Nat.le_of_ble_eq_true rfl) (Nat.le_of_ble_eq_true rfl) (s_X12_cells G hs hk2.1.2.1 (fun r29 e29 => ?_))
            refine t_icge (t := 77) dX12_standing_32 (by decide) (fun h32 => False.elim (by omega)) (fun h32 => ?_)
            refine r_iload2 dX12_standing_35 ?_
            refine r_iload4 dX12_standing_36 ?_
            refine q_callS2 zm_RX12_538 dX12_standing_38 (Nat.le_of_ble_eq_true rfl) (Nat.le_of_ble_eq_true rfl) (Nat.le_of_ble_eq_true rfl) (Nat.le_of_ble_eq_true rfl) (Nat.le_of_ble_eq_true rfl) (s_X12_has (tk := tk) (k := k) G hy ht hck (by omega) (fun r38 e38 => ?_))
            rw [htb9, if_neg (by decide)] at e38
            refine t_ifeq (t := 47) dX12_standing_41 (by decide) (fun h41 => ?_) (fun h41 => False.elim (by omega))
            refine r_aloadR0 dX12_standing_47 ?_
            refine m_getR (q := (A + 16)) zf_RX12_62 rfl dX12_standing_48 (shM_k hs) (shM_p16 hs) ?_
            refine r_iload1 dX12_standing_51 ?_
            refine r_iload4 dX12_standing_52 ?_
            refine m_iast (k := 2) dX12_standing_54 (shM_k16 hs) (shM_n16 hs) (by omega) (by omega) ?_
            refine r_iload3 dX12_standing_55 ?_
            refine r_aloadR0 dX12_standing_56 ?_
            refine r_iload1 dX12_standing_57 ?_
            refine n_iconst dX12_standing_58 (by decide) (fun r58 e58 => ?_)
            refine n_iadd dX12_standing_59 (by omega) (fun r59 e59 => ?_)
            refine r_iload2 dX12_standing_60 ?_
            refine n_iconst dX12_standing_61 (by decide) (fun r61 e61 => ?_)
            refine r_iload4 dX12_standing_62 ?_
            refine r_ishl dX12_standing_64 ?_
            refine n_name (fun r64 e64 => ?_)
            refine r_ior dX12_standing_65 ?_
            refine n_name (fun r65 e65 => ?_)
            have h65 : r65.toInt = ((tk ||| 2 ^ k : Nat) : Int) := by
              rw [e65, e64, show r61 = 1 from zi_eq.mpr (e61.trans (by decide)), show y = nI tk from zi_of hy (by omega), show c = nI k from zi_of hck (by omega), hov.1]
              exact zi_n (by omega)
            refine q_callV2 zm_RX12_541 dX12_standing_66 (shM_k hs) (by decide) rfl (Nat.le_of_ble_eq_true rfl) (Nat.le_of_ble_eq_true rfl) (Nat.le_of_ble_eq_true rfl) (Nat.le_of_ble_eq_true rfl) (Nat.le_of_ble_eq_true rfl) (s_X12_standing_3 (T := T) (tk := tk ||| 2 ^ k) (Pl := updW Pl 2 (k : Nat)) G hs (by rw [zu_ne (by omega)]; exact hk2) hw (by omega) h65 hov.2 (by omega) (fun i hi_z => ?_) (fun r66 f3_z e66 ho3 ho4 => ?_))
            · unfold updW
              by_cases hic : i = 2
              · rw [if_pos hic, hic, zu_at]; exact hck
              · rw [if_neg hic, zu_nn (Or.inr hic), ho2 i (by omega)]; exact hP i (by omega)
            rw [show tbC T - 3 = m by omega] at e66
            refine n_iadd dX12_standing_69 (by omega) (fun r69 e69 => ?_)
            refine r_istore3 dX12_standing_70 rfl ?_
            refine n_iinc4 dX12_standing_71 (by decide) rfl (by omega) (fun r71 e71_z => ?_)
            refine r_goto (t := 26) dX12_standing_74 (by decide) ?_
            refine ih _ _ (k + 1) f3_z (by omega) (by omega) (by omega) (frM_tr ho (frM_tr (frM_zr (r := 16) frM_rf (by decide) (by decide) (by decide)) ho3)) (fun i hi_z => ?_) (by omega)
            rw [ho4 i (by omega), zu_nn (Or.inr (by omega))]; exact ho2 i hi_z
        · refine r_iload4 dX12_standing_26 ?_
          refine r_aloadR0 dX12_standing_28 ?_
          refine q_callV0 zm_RX12_253 dX12_standing_29 (shM_k hs) (by decide) rfl (Nat.le_of_ble_eq_true rfl) (Nat.le_of_ble_eq_true rfl) (Nat.le_of_ble_eq_true rfl) (Nat.le_of_ble_eq_true rfl) (Nat.le_of_ble_eq_true rfl) (s_X12_cells G hs hk2.1.2.1 (fun r29 e29 => ?_))
          refine t_icge (t := 77) dX12_standing_32 (by decide) (fun h32 => ?_) (fun h32 => False.elim (by omega))
          refine r_iload3 dX12_standing_77 ?_
          refine r_iret dX12_standing_78 rfl (Nat.le_of_ble_eq_true rfl) (Nat.le_of_ble_eq_true rfl) ?_
          refine hQ _ f2_z ?_ ho ho2
          rw [hsu, show tbC T = k by omega]; exact hv
    refine r_iload1 dX12_standing_0 ?_
    refine r_aloadR0 dX12_standing_1 ?_
    refine q_callV0 zm_RX12_253 dX12_standing_2 (shM_k hs) (by decide) rfl (Nat.le_of_ble_eq_true rfl) (Nat.le_of_ble_eq_true rfl) (Nat.le_of_ble_eq_true rfl) (Nat.le_of_ble_eq_true rfl) (Nat.le_of_ble_eq_true rfl) (s_X12_cells G hs hk.1.2.1 (fun r2 e2_z => ?_))
    refine t_icne (t := 21) dX12_standing_5 (by decide) (fun h5 => ?_) (fun h5 => False.elim (by omega))
    refine n_iconst dX12_standing_21 (by decide) (fun r21 e21_z => ?_)
    refine r_istore3 dX12_standing_22 rfl ?_
    refine n_iconst dX12_standing_23 (by decide) (fun r23 e23_z => ?_)
    refine r_istore4 dX12_standing_24 rfl ?_
    exact lp 7 _ _ 0 f (by omega) (by omega) (by show _ = ((0 : Nat) : Int); omega) frM_rf (fun _ _ => rfl) (by omega)
  · refine r_iload1 dX12_standing_0 ?_
    refine r_aloadR0 dX12_standing_1 ?_
    refine q_callV0 zm_RX12_253 dX12_standing_2 (shM_k hs) (by decide) rfl (Nat.le_of_ble_eq_true rfl) (Nat.le_of_ble_eq_true rfl) (Nat.le_of_ble_eq_true rfl) (Nat.le_of_ble_eq_true rfl) (Nat.le_of_ble_eq_true rfl) (s_X12_cells G hs hk.1.2.1 (fun r2 e2_z => ?_))
    refine t_icne (t := 21) dX12_standing_5 (by decide) (fun h5 => False.elim (by omega)) (fun h5 => ?_)
    refine r_aloadR0 dX12_standing_8 ?_
    refine q_callV0 zm_RX12_534 dX12_standing_9 (shM_k hs) (by decide) rfl (Nat.le_of_ble_eq_true rfl) (Nat.le_of_ble_eq_true rfl) (Nat.le_of_ble_eq_true rfl) (Nat.le_of_ble_eq_true rfl) (Nat.le_of_ble_eq_true rfl) (s_X12_canStand (Pl := Pl) G hs hk hw (fun i hi_z => hP i (by omega)) (fun r9 e9_z => ?_))
    refine t_ifeq (t := 19) dX12_standing_12 (by decide) (fun h12 => ?_) (fun h12 => ?_)
    · refine n_iconst dX12_standing_19 (by decide) (fun r19 e19_z => ?_)
      refine r_iret dX12_standing_20 rfl (Nat.le_of_ble_eq_true rfl) (Nat.le_of_ble_eq_true rfl) ?_
      refine hQ _ f ?_ frM_rf (fun _ _ => rfl)
      rw [show tbC T - 2 = 0 by omega]
      show _ = ((if canB (tbC T) Pl = true then 1 else 0 : Nat) : Int)
      rcases e9_z with ⟨q1_z, q2_z⟩ | ⟨q1_z, q2_z⟩
      · rw [if_pos q2_z]; omega
      · rw [if_neg q2_z]; omega
    · refine n_iconst dX12_standing_15 (by decide) (fun r15 e15_z => ?_)
      refine r_goto (t := 20) dX12_standing_16 (by decide) ?_
      refine r_iret dX12_standing_20 rfl (Nat.le_of_ble_eq_true rfl) (Nat.le_of_ble_eq_true rfl) ?_
      refine hQ _ f ?_ frM_rf (fun _ _ => rfl)
      rw [show tbC T - 2 = 0 by omega]
      show _ = ((if canB (tbC T) Pl = true then 1 else 0 : Nat) : Int)
      rcases e9_z with ⟨q1_z, q2_z⟩ | ⟨q1_z, q2_z⟩
      · rw [if_pos q2_z]; omega
      · rw [if_neg q2_z]; omega
set_option maxHeartbeats 4000000 in
set_option maxRecDepth 100000 in
theorem s_X12_standing_1 {g : zGT} {w : zW} {f : Nat → Nat → Int32} {j : Nat → Nat → Int64} {A : Nat} {T : zTb} {tk : Nat} {Pl : Nat → Int} {x y : Int32} {Q : Option Value → zW → Prop} {QX : String → zW → Prop} (G : zGok g) (hs : shM w A) (hk : ctKn (f (A + 1)) T) (hw : wfT T) (hx : x.toInt = 1) (hy : y.toInt = (tk : Nat)) (ht : tk < 64) (hcn : 1 ≤ tbC T) (hP : ∀ i, i < 1 → (f (A + 16) i).toInt = Pl i) (hQ : ∀ (r : Int32) f2_z, r.toInt = (staR (tbC T) (tbC T - 1) 1 Pl tk : Nat) → frM A [16] [] f f2_z → (∀ i, i < 1 → f2_z (A + 16) i = f (A + 16) i) → Q (some (.int r)) (zM w f2_z j)) : zC g 8 yX12_standing cX12_standing 5 (some .int) [.ref A, .int x, .int y] (zM w f j) (0, 0) Q QX := by
  refine zC_of G (by decide +kernel) (Nat.le_of_ble_eq_true rfl) ?_
  have hn6 : tbC T ≤ 6 := hw.2.1
  rcases Nat.lt_or_ge 1 (tbC T) with hlt | hge
  · obtain ⟨m, hm_z⟩ : ∃ m, tbC T - 1 = m + 1 := ⟨tbC T - 1 - 1, by omega⟩
    have hsu : staR (tbC T) (tbC T - 1) 1 Pl tk = sumW (fun k => if tk.testBit k = true then 0 else staR (tbC T) m 2 (updW Pl 1 (k : Nat)) (tk ||| 2 ^ k)) (tbC T) := by rw [hm_z]; rfl
    generalize hGd : (fun k : Nat => if tk.testBit k = true then 0 else staR (tbC T) m 2 (updW Pl 1 (k : Nat)) (tk ||| 2 ^ k)) = GG at hsu
    have hGv : ∀ k, GG k = if tk.testBit k = true then 0 else staR (tbC T) m 2 (updW Pl 1 (k : Nat)) (tk ||| 2 ^ k) := fun k => by rw [← hGd]
    have hGb : ∀ p, GG p ≤ 7776 := by
      intro p
      rw [hGv]
      split
      · exact Nat.zero_le _
      · exact Nat.le_trans (staR_le hn6 m _ _ _) (Nat.le_trans (Nat.pow_le_pow_right (by decide) (show m ≤ 5 by omega)) (Nat.le_refl _))
    have lp : ∀ (mz : Nat) (v : Int32) (c : Int32) (k : Nat) (f2_z : Nat → Nat → Int32), c.toInt = (k : Nat) → k ≤ tbC T → v.toInt = (sumW GG k : Nat) → frM A [16] [] f f2_z → (∀ i, i < 1 → f2_z (A + 16) i = f (A + 16) i) → tbC T - k < mz → zR (zV g 8 yX12_standing 5 (some .int) (0, 0) Q QX) cX12_standing yX12_standing.cls 26 [some (.ref A), some (.int x), some (.int y), some (.int v), some (.int c)] [] (zM w f2_z j) (0, 0) := by
      intro mz
      induction mz with
      | zero =>
        intro v c k f2_z hck hkn hv ho ho2 hmz
        exact absurd hmz (Nat.not_lt_zero _)
      | succ mz ih =>
        intro v c k f2_z hck hkn hv ho ho2 hmz
        have hsb := sumW_le hGb k
        have hk2 : ctKn (f2_z (A + 1)) T := by rw [ho.2.1 1 (by decide) (by decide) (by decide)]; exact hk
        rcases Nat.lt_or_ge k (tbC T) with hkl | hkl
        · have hsb1 := sumW_le hGb (k + 1)
          have hss : sumW GG (k + 1) = sumW GG k + GG k := rfl
          have hGk := hGv k
          have hov := or_v tk ht k (by omega)
          cases htb9 : tk.testBit k with
          | true =>
            rw [htb9, if_pos rfl] at hGk
            refine r_iload4 dX12_standing_26 ?_
            refine r_aloadR0 dX12_standing_28 ?_
            refine q_callV0 zm_RX12_253 dX12_standing_29 (shM_k hs) (by decide) rfl (Nat.le_of_ble_eq_true rfl) (Nat.le_of_ble_eq_true rfl) (Nat.le_of_ble_eq_true rfl) (Nat.le_of_ble_eq_true rfl) (Nat.le_of_ble_eq_true rfl) (s_X12_cells G hs hk2.1.2.1 (fun r29 e29 => ?_))
            refine t_icge (t := 77) dX12_standing_32 (by decide) (fun h32 => False.elim (by omega)) (fun h32 => ?_)
            refine r_iload2 dX12_standing_35 ?_
            refine r_iload4 dX12_standing_36 ?_
            refine q_callS2 zm_RX12_538 dX12_standing_38 (Nat.le_of_ble_eq_true rfl) (Nat.le_of_ble_eq_true rfl) (Nat.le_of_ble_eq_true rfl) (Nat.le_of_ble_eq_true rfl) (Nat.le_of_ble_eq_true rfl) (s_X12_has (tk := tk) (k := k) G hy ht hck (by omega) (fun r38 e38 => ?_))
            rw [htb9, if_pos rfl] at e38
            refine t_ifeq (t := 47) dX12_standing_41 (by decide) (fun h41 => False.elim (by omega)) (fun h41 => ?_)
            refine r_goto (t := 71) dX12_standing_44 (by decide) ?_
            refine n_iinc4 dX12_standing_71 (by decide) rfl (by omega) (fun r71 e71_z => ?_)
            refine r_goto (t := 26) dX12_standing_74 (by decide) ?_
            exact ih _ _ (k + 1) f2_z (by omega) (by omega) (by omega) ho ho2 (by omega)
          | false =>
            rw [htb9, if_neg (by decide)] at hGk
            refine r_iload4 dX12_standing_26 ?_
            refine r_aloadR0 dX12_standing_28 ?_
            refine q_callV0 zm_RX12_253 dX12_standing_29 (shM_k hs) (by decide) rfl (Nat.le_of_ble_eq_true rfl) (Nat.le_of_ble_eq_true rfl) (Nat.le_of_ble_eq_true rfl) (Nat.le_of_ble_eq_true rfl) (Nat.le_of_ble_eq_true rfl) (s_X12_cells G hs hk2.1.2.1 (fun r29 e29 => ?_))
            refine t_icge (t := 77) dX12_standing_32 (by decide) (fun h32 => False.elim (by omega)) (fun h32 => ?_)
            refine r_iload2 dX12_standing_35 ?_
            refine r_iload4 dX12_standing_36 ?_
            refine q_callS2 zm_RX12_538 dX12_standing_38 (Nat.le_of_ble_eq_true rfl) (Nat.le_of_ble_eq_true rfl) (Nat.le_of_ble_eq_true rfl) (Nat.le_of_ble_eq_true rfl) (Nat.le_of_ble_eq_true rfl) (s_X12_has (tk := tk) (k := k) G hy ht hck (by omega) (fun r38 e38 => ?_))
            rw [htb9, if_neg (by decide)] at e38
            refine t_ifeq (t := 47) dX12_standing_41 (by decide) (fun h41 => ?_) (fun h41 => False.elim (by omega))
            refine r_aloadR0 dX12_standing_47 ?_
            refine m_getR (q := (A + 16)) zf_RX12_62 rfl dX12_standing_48 (shM_k hs) (shM_p16 hs) ?_
            refine r_iload1 dX12_standing_51 ?_
            refine r_iload4 dX12_standing_52 ?_
            refine m_iast (k := 1) dX12_standing_54 (shM_k16 hs) (shM_n16 hs) (by omega) (by omega) ?_
            refine r_iload3 dX12_standing_55 ?_
            refine r_aloadR0 dX12_standing_56 ?_
            refine r_iload1 dX12_standing_57 ?_
            refine n_iconst dX12_standing_58 (by decide) (fun r58 e58 => ?_)
            refine n_iadd dX12_standing_59 (by omega) (fun r59 e59 => ?_)
            refine r_iload2 dX12_standing_60 ?_
            refine n_iconst dX12_standing_61 (by decide) (fun r61 e61 => ?_)
            refine r_iload4 dX12_standing_62 ?_
            refine r_ishl dX12_standing_64 ?_
            refine n_name (fun r64 e64 => ?_)
            refine r_ior dX12_standing_65 ?_
            refine n_name (fun r65 e65 => ?_)
            have h65 : r65.toInt = ((tk ||| 2 ^ k : Nat) : Int) := by
              rw [e65, e64, show r61 = 1 from zi_eq.mpr (e61.trans (by decide)), show y = nI tk from zi_of hy (by omega), show c = nI k from zi_of hck (by omega), hov.1]
              exact zi_n (by omega)
            refine q_callV2 zm_RX12_541 dX12_standing_66 (shM_k hs) (by decide) rfl (Nat.le_of_ble_eq_true rfl) (Nat.le_of_ble_eq_true rfl) (Nat.le_of_ble_eq_true rfl) (Nat.le_of_ble_eq_true rfl) (Nat.le_of_ble_eq_true rfl) (s_X12_standing_2 (T := T) (tk := tk ||| 2 ^ k) (Pl := updW Pl 1 (k : Nat)) G hs (by rw [zu_ne (by omega)]; exact hk2) hw (by omega) h65 hov.2 (by omega) (fun i hi_z => ?_) (fun r66 f3_z e66 ho3 ho4 => ?_))
            · unfold updW
              by_cases hic : i = 1
              · rw [if_pos hic, hic, zu_at]; exact hck
              · rw [if_neg hic, zu_nn (Or.inr hic), ho2 i (by omega)]; exact hP i (by omega)
            rw [show tbC T - 2 = m by omega] at e66
            refine n_iadd dX12_standing_69 (by omega) (fun r69 e69 => ?_)
            refine r_istore3 dX12_standing_70 rfl ?_
            refine n_iinc4 dX12_standing_71 (by decide) rfl (by omega) (fun r71 e71_z => ?_)
            refine r_goto (t := 26) dX12_standing_74 (by decide) ?_
            refine ih _ _ (k + 1) f3_z (by omega) (by omega) (by omega) (frM_tr ho (frM_tr (frM_zr (r := 16) frM_rf (by decide) (by decide) (by decide)) ho3)) (fun i hi_z => ?_) (by omega)
            rw [ho4 i (by omega), zu_nn (Or.inr (by omega))]; exact ho2 i hi_z
        · refine r_iload4 dX12_standing_26 ?_
          refine r_aloadR0 dX12_standing_28 ?_
          refine q_callV0 zm_RX12_253 dX12_standing_29 (shM_k hs) (by decide) rfl (Nat.le_of_ble_eq_true rfl) (Nat.le_of_ble_eq_true rfl) (Nat.le_of_ble_eq_true rfl) (Nat.le_of_ble_eq_true rfl) (Nat.le_of_ble_eq_true rfl) (s_X12_cells G hs hk2.1.2.1 (fun r29 e29 => ?_))
          refine t_icge (t := 77) dX12_standing_32 (by decide) (fun h32 => ?_) (fun h32 => False.elim (by omega))
          refine r_iload3 dX12_standing_77 ?_
          refine r_iret dX12_standing_78 rfl (Nat.le_of_ble_eq_true rfl) (Nat.le_of_ble_eq_true rfl) ?_
          refine hQ _ f2_z ?_ ho ho2
          rw [hsu, show tbC T = k by omega]; exact hv
    refine r_iload1 dX12_standing_0 ?_
    refine r_aloadR0 dX12_standing_1 ?_
    refine q_callV0 zm_RX12_253 dX12_standing_2 (shM_k hs) (by decide) rfl (Nat.le_of_ble_eq_true rfl) (Nat.le_of_ble_eq_true rfl) (Nat.le_of_ble_eq_true rfl) (Nat.le_of_ble_eq_true rfl) (Nat.le_of_ble_eq_true rfl) (s_X12_cells G hs hk.1.2.1 (fun r2 e2_z => ?_))
    refine t_icne (t := 21) dX12_standing_5 (by decide) (fun h5 => ?_) (fun h5 => False.elim (by omega))
    refine n_iconst dX12_standing_21 (by decide) (fun r21 e21_z => ?_)
    refine r_istore3 dX12_standing_22 rfl ?_
    refine n_iconst dX12_standing_23 (by decide) (fun r23 e23_z => ?_)
    refine r_istore4 dX12_standing_24 rfl ?_
    exact lp 7 _ _ 0 f (by omega) (by omega) (by show _ = ((0 : Nat) : Int); omega) frM_rf (fun _ _ => rfl) (by omega)
  · refine r_iload1 dX12_standing_0 ?_
    refine r_aloadR0 dX12_standing_1 ?_
    refine q_callV0 zm_RX12_253 dX12_standing_2 (shM_k hs) (by decide) rfl (Nat.le_of_ble_eq_true rfl) (Nat.le_of_ble_eq_true rfl) (Nat.le_of_ble_eq_true rfl) (Nat.le_of_ble_eq_true rfl) (Nat.le_of_ble_eq_true rfl) (s_X12_cells G hs hk.1.2.1 (fun r2 e2_z => ?_))
    refine t_icne (t := 21) dX12_standing_5 (by decide) (fun h5 => False.elim (by omega)) (fun h5 => ?_)
    refine r_aloadR0 dX12_standing_8 ?_
    refine q_callV0 zm_RX12_534 dX12_standing_9 (shM_k hs) (by decide) rfl (Nat.le_of_ble_eq_true rfl) (Nat.le_of_ble_eq_true rfl) (Nat.le_of_ble_eq_true rfl) (Nat.le_of_ble_eq_true rfl) (Nat.le_of_ble_eq_true rfl) (s_X12_canStand (Pl := Pl) G hs hk hw (fun i hi_z => hP i (by omega)) (fun r9 e9_z => ?_))
    refine t_ifeq (t := 19) dX12_standing_12 (by decide) (fun h12 => ?_) (fun h12 => ?_)
    · refine n_iconst dX12_standing_19 (by decide) (fun r19 e19_z => ?_)
      refine r_iret dX12_standing_20 rfl (Nat.le_of_ble_eq_true rfl) (Nat.le_of_ble_eq_true rfl) ?_
      refine hQ _ f ?_ frM_rf (fun _ _ => rfl)
      rw [show tbC T - 1 = 0 by omega]
      show _ = ((if canB (tbC T) Pl = true then 1 else 0 : Nat) : Int)
      rcases e9_z with ⟨q1_z, q2_z⟩ | ⟨q1_z, q2_z⟩
      · rw [if_pos q2_z]; omega
      · rw [if_neg q2_z]; omega
    · refine n_iconst dX12_standing_15 (by decide) (fun r15 e15_z => ?_)
      refine r_goto (t := 20) dX12_standing_16 (by decide) ?_
      refine r_iret dX12_standing_20 rfl (Nat.le_of_ble_eq_true rfl) (Nat.le_of_ble_eq_true rfl) ?_
      refine hQ _ f ?_ frM_rf (fun _ _ => rfl)
      rw [show tbC T - 1 = 0 by omega]
      show _ = ((if canB (tbC T) Pl = true then 1 else 0 : Nat) : Int)
      rcases e9_z with ⟨q1_z, q2_z⟩ | ⟨q1_z, q2_z⟩
      · rw [if_pos q2_z]; omega
      · rw [if_neg q2_z]; omega
set_option maxHeartbeats 4000000 in
set_option maxRecDepth 100000 in
theorem s_X12_standing_0 {g : zGT} {w : zW} {f : Nat → Nat → Int32} {j : Nat → Nat → Int64} {A : Nat} {T : zTb} {tk : Nat} {Pl : Nat → Int} {x y : Int32} {Q : Option Value → zW → Prop} {QX : String → zW → Prop} (G : zGok g) (hs : shM w A) (hk : ctKn (f (A + 1)) T) (hw : wfT T) (hx : x.toInt = 0) (hy : y.toInt = (tk : Nat)) (ht : tk < 64) (hcn : 0 ≤ tbC T) (hP : ∀ i, i < 0 → (f (A + 16) i).toInt = Pl i) (hQ : ∀ (r : Int32) f2_z, r.toInt = (staR (tbC T) (tbC T - 0) 0 Pl tk : Nat) → frM A [16] [] f f2_z → (∀ i, i < 0 → f2_z (A + 16) i = f (A + 16) i) → Q (some (.int r)) (zM w f2_z j)) : zC g 9 yX12_standing cX12_standing 5 (some .int) [.ref A, .int x, .int y] (zM w f j) (0, 0) Q QX := by
  refine zC_of G (by decide +kernel) (Nat.le_of_ble_eq_true rfl) ?_
  have hn6 : tbC T ≤ 6 := hw.2.1
  rcases Nat.lt_or_ge 0 (tbC T) with hlt | hge
  · obtain ⟨m, hm_z⟩ : ∃ m, tbC T - 0 = m + 1 := ⟨tbC T - 0 - 1, by omega⟩
    have hsu : staR (tbC T) (tbC T - 0) 0 Pl tk = sumW (fun k => if tk.testBit k = true then 0 else staR (tbC T) m 1 (updW Pl 0 (k : Nat)) (tk ||| 2 ^ k)) (tbC T) := by rw [hm_z]; rfl
    generalize hGd : (fun k : Nat => if tk.testBit k = true then 0 else staR (tbC T) m 1 (updW Pl 0 (k : Nat)) (tk ||| 2 ^ k)) = GG at hsu
    have hGv : ∀ k, GG k = if tk.testBit k = true then 0 else staR (tbC T) m 1 (updW Pl 0 (k : Nat)) (tk ||| 2 ^ k) := fun k => by rw [← hGd]
    have hGb : ∀ p, GG p ≤ 7776 := by
      intro p
      rw [hGv]
      split
      · exact Nat.zero_le _
      · exact Nat.le_trans (staR_le hn6 m _ _ _) (Nat.le_trans (Nat.pow_le_pow_right (by decide) (show m ≤ 5 by omega)) (Nat.le_refl _))
    have lp : ∀ (mz : Nat) (v : Int32) (c : Int32) (k : Nat) (f2_z : Nat → Nat → Int32), c.toInt = (k : Nat) → k ≤ tbC T → v.toInt = (sumW GG k : Nat) → frM A [16] [] f f2_z → (∀ i, i < 0 → f2_z (A + 16) i = f (A + 16) i) → tbC T - k < mz → zR (zV g 9 yX12_standing 5 (some .int) (0, 0) Q QX) cX12_standing yX12_standing.cls 26 [some (.ref A), some (.int x), some (.int y), some (.int v), some (.int c)] [] (zM w f2_z j) (0, 0) := by
      intro mz
      induction mz with
      | zero =>
        intro v c k f2_z hck hkn hv ho ho2 hmz
        exact absurd hmz (Nat.not_lt_zero _)
      | succ mz ih =>
        intro v c k f2_z hck hkn hv ho ho2 hmz
        have hsb := sumW_le hGb k
        have hk2 : ctKn (f2_z (A + 1)) T := by rw [ho.2.1 1 (by decide) (by decide) (by decide)]; exact hk
        rcases Nat.lt_or_ge k (tbC T) with hkl | hkl
        · have hsb1 := sumW_le hGb (k + 1)
          have hss : sumW GG (k + 1) = sumW GG k + GG k := rfl
          have hGk := hGv k
          have hov := or_v tk ht k (by omega)
          cases htb9 : tk.testBit k with
          | true =>
            rw [htb9, if_pos rfl] at hGk
            refine r_iload4 dX12_standing_26 ?_
            refine r_aloadR0 dX12_standing_28 ?_
            refine q_callV0 zm_RX12_253 dX12_standing_29 (shM_k hs) (by decide) rfl (Nat.le_of_ble_eq_true rfl) (Nat.le_of_ble_eq_true rfl) (Nat.le_of_ble_eq_true rfl) (Nat.le_of_ble_eq_true rfl) (Nat.le_of_ble_eq_true rfl) (s_X12_cells G hs hk2.1.2.1 (fun r29 e29 => ?_))
            refine t_icge (t := 77) dX12_standing_32 (by decide) (fun h32 => False.elim (by omega)) (fun h32 => ?_)
            refine r_iload2 dX12_standing_35 ?_
            refine r_iload4 dX12_standing_36 ?_
            refine q_callS2 zm_RX12_538 dX12_standing_38 (Nat.le_of_ble_eq_true rfl) (Nat.le_of_ble_eq_true rfl) (Nat.le_of_ble_eq_true rfl) (Nat.le_of_ble_eq_true rfl) (Nat.le_of_ble_eq_true rfl) (s_X12_has (tk := tk) (k := k) G hy ht hck (by omega) (fun r38 e38 => ?_))
            rw [htb9, if_pos rfl] at e38
            refine t_ifeq (t := 47) dX12_standing_41 (by decide) (fun h41 => False.elim (by omega)) (fun h41 => ?_)
            refine r_goto (t := 71) dX12_standing_44 (by decide) ?_
            refine n_iinc4 dX12_standing_71 (by decide) rfl (by omega) (fun r71 e71_z => ?_)
            refine r_goto (t := 26) dX12_standing_74 (by decide) ?_
            exact ih _ _ (k + 1) f2_z (by omega) (by omega) (by omega) ho ho2 (by omega)
          | false =>
            rw [htb9, if_neg (by decide)] at hGk
            refine r_iload4 dX12_standing_26 ?_
            refine r_aloadR0 dX12_standing_28 ?_
            refine q_callV0 zm_RX12_253 dX12_standing_29 (shM_k hs) (by decide) rfl (Nat.le_of_ble_eq_true rfl) (Nat.le_of_ble_eq_true rfl) (Nat.le_of_ble_eq_true rfl) (Nat.le_of_ble_eq_true rfl) (Nat.le_of_ble_eq_true rfl) (s_X12_cells G hs hk2.1.2.1 (fun r29 e29 => ?_))
            refine t_icge (t := 77) dX12_standing_32 (by decide) (fun h32 => False.elim (by omega)) (fun h32 => ?_)
            refine r_iload2 dX12_standing_35 ?_
            refine r_iload4 dX12_standing_36 ?_
            refine q_callS2 zm_RX12_538 dX12_standing_38 (Nat.le_of_ble_eq_true rfl) (Nat.le_of_ble_eq_true rfl) (Nat.le_of_ble_eq_true rfl) (Nat.le_of_ble_eq_true rfl) (Nat.le_of_ble_eq_true rfl) (s_X12_has (tk := tk) (k := k) G hy ht hck (by omega) (fun r38 e38 => ?_))
            rw [htb9, if_neg (by decide)] at e38
            refine t_ifeq (t := 47) dX12_standing_41 (by decide) (fun h41 => ?_) (fun h41 => False.elim (by omega))
            refine r_aloadR0 dX12_standing_47 ?_
            refine m_getR (q := (A + 16)) zf_RX12_62 rfl dX12_standing_48 (shM_k hs) (shM_p16 hs) ?_
            refine r_iload1 dX12_standing_51 ?_
            refine r_iload4 dX12_standing_52 ?_
            refine m_iast (k := 0) dX12_standing_54 (shM_k16 hs) (shM_n16 hs) (by omega) (by omega) ?_
            refine r_iload3 dX12_standing_55 ?_
            refine r_aloadR0 dX12_standing_56 ?_
            refine r_iload1 dX12_standing_57 ?_
            refine n_iconst dX12_standing_58 (by decide) (fun r58 e58 => ?_)
            refine n_iadd dX12_standing_59 (by omega) (fun r59 e59 => ?_)
            refine r_iload2 dX12_standing_60 ?_
            refine n_iconst dX12_standing_61 (by decide) (fun r61 e61 => ?_)
            refine r_iload4 dX12_standing_62 ?_
            refine r_ishl dX12_standing_64 ?_
            refine n_name (fun r64 e64 => ?_)
            refine r_ior dX12_standing_65 ?_
            refine n_name (fun r65 e65 => ?_)
            have h65 : r65.toInt = ((tk ||| 2 ^ k : Nat) : Int) := by
              rw [e65, e64, show r61 = 1 from zi_eq.mpr (e61.trans (by decide)), show y = nI tk from zi_of hy (by omega), show c = nI k from zi_of hck (by omega), hov.1]
              exact zi_n (by omega)
            refine q_callV2 zm_RX12_541 dX12_standing_66 (shM_k hs) (by decide) rfl (Nat.le_of_ble_eq_true rfl) (Nat.le_of_ble_eq_true rfl) (Nat.le_of_ble_eq_true rfl) (Nat.le_of_ble_eq_true rfl) (Nat.le_of_ble_eq_true rfl) (s_X12_standing_1 (T := T) (tk := tk ||| 2 ^ k) (Pl := updW Pl 0 (k : Nat)) G hs (by rw [zu_ne (by omega)]; exact hk2) hw (by omega) h65 hov.2 (by omega) (fun i hi_z => ?_) (fun r66 f3_z e66 ho3 ho4 => ?_))
            · unfold updW
              by_cases hic : i = 0
              · rw [if_pos hic, hic, zu_at]; exact hck
              · rw [if_neg hic, zu_nn (Or.inr hic), ho2 i (by omega)]; exact hP i (by omega)
            rw [show tbC T - 1 = m by omega] at e66
            refine n_iadd dX12_standing_69 (by omega) (fun r69 e69 => ?_)
            refine r_istore3 dX12_standing_70 rfl ?_
            refine n_iinc4 dX12_standing_71 (by decide) rfl (by omega) (fun r71 e71_z => ?_)
            refine r_goto (t := 26) dX12_standing_74 (by decide) ?_
            refine ih _ _ (k + 1) f3_z (by omega) (by omega) (by omega) (frM_tr ho (frM_tr (frM_zr (r := 16) frM_rf (by decide) (by decide) (by decide)) ho3)) (fun i hi_z => ?_) (by omega)
            rw [ho4 i (by omega), zu_nn (Or.inr (by omega))]; exact ho2 i hi_z
        · refine r_iload4 dX12_standing_26 ?_
          refine r_aloadR0 dX12_standing_28 ?_
          refine q_callV0 zm_RX12_253 dX12_standing_29 (shM_k hs) (by decide) rfl (Nat.le_of_ble_eq_true rfl) (Nat.le_of_ble_eq_true rfl) (Nat.le_of_ble_eq_true rfl) (Nat.le_of_ble_eq_true rfl) (Nat.le_of_ble_eq_true rfl) (s_X12_cells G hs hk2.1.2.1 (fun r29 e29 => ?_))
          refine t_icge (t := 77) dX12_standing_32 (by decide) (fun h32 => ?_) (fun h32 => False.elim (by omega))
          refine r_iload3 dX12_standing_77 ?_
          refine r_iret dX12_standing_78 rfl (Nat.le_of_ble_eq_true rfl) (Nat.le_of_ble_eq_true rfl) ?_
          refine hQ _ f2_z ?_ ho ho2
          rw [hsu, show tbC T = k by omega]; exact hv
    refine r_iload1 dX12_standing_0 ?_
    refine r_aloadR0 dX12_standing_1 ?_
    refine q_callV0 zm_RX12_253 dX12_standing_2 (shM_k hs) (by decide) rfl (Nat.le_of_ble_eq_true rfl) (Nat.le_of_ble_eq_true rfl) (Nat.le_of_ble_eq_true rfl) (Nat.le_of_ble_eq_true rfl) (Nat.le_of_ble_eq_true rfl) (s_X12_cells G hs hk.1.2.1 (fun r2 e2_z => ?_))
    refine t_icne (t := 21) dX12_standing_5 (by decide) (fun h5 => ?_) (fun h5 => False.elim (by omega))
    refine n_iconst dX12_standing_21 (by decide) (fun r21 e21_z => ?_)
    refine r_istore3 dX12_standing_22 rfl ?_
    refine n_iconst dX12_standing_23 (by decide) (fun r23 e23_z => ?_)
    refine r_istore4 dX12_standing_24 rfl ?_
    exact lp 7 _ _ 0 f (by omega) (by omega) (by show _ = ((0 : Nat) : Int); omega) frM_rf (fun _ _ => rfl) (by omega)
  · refine r_iload1 dX12_standing_0 ?_
    refine r_aloadR0 dX12_standing_1 ?_
    refine q_callV0 zm_RX12_253 dX12_standing_2 (shM_k hs) (by decide) rfl (Nat.le_of_ble_eq_true rfl) (Nat.le_of_ble_eq_true rfl) (Nat.le_of_ble_eq_true rfl) (Nat.le_of_ble_eq_true rfl) (Nat.le_of_ble_eq_true rfl) (s_X12_cells G hs hk.1.2.1 (fun r2 e2_z => ?_))
    refine t_icne (t := 21) dX12_standing_5 (by decide) (fun h5 => False.elim (by omega)) (fun h5 => ?_)
    refine r_aloadR0 dX12_standing_8 ?_
    refine q_callV0 zm_RX12_534 dX12_standing_9 (shM_k hs) (by decide) rfl (Nat.le_of_ble_eq_true rfl) (Nat.le_of_ble_eq_true rfl) (Nat.le_of_ble_eq_true rfl) (Nat.le_of_ble_eq_true rfl) (Nat.le_of_ble_eq_true rfl) (s_X12_canStand (Pl := Pl) G hs hk hw (fun i hi_z => hP i (by omega)) (fun r9 e9_z => ?_))
    refine t_ifeq (t := 19) dX12_standing_12 (by decide) (fun h12 => ?_) (fun h12 => ?_)
    · refine n_iconst dX12_standing_19 (by decide) (fun r19 e19_z => ?_)
      refine r_iret dX12_standing_20 rfl (Nat.le_of_ble_eq_true rfl) (Nat.le_of_ble_eq_true rfl) ?_
      refine hQ _ f ?_ frM_rf (fun _ _ => rfl)
      rw [show tbC T - 0 = 0 by omega]
      show _ = ((if canB (tbC T) Pl = true then 1 else 0 : Nat) : Int)
      rcases e9_z with ⟨q1_z, q2_z⟩ | ⟨q1_z, q2_z⟩
      · rw [if_pos q2_z]; omega
      · rw [if_neg q2_z]; omega
    · refine n_iconst dX12_standing_15 (by decide) (fun r15 e15_z => ?_)
      refine r_goto (t := 20) dX12_standing_16 (by decide) ?_
      refine r_iret dX12_standing_20 rfl (Nat.le_of_ble_eq_true rfl) (Nat.le_of_ble_eq_true rfl) ?_
      refine hQ _ f ?_ frM_rf (fun _ _ => rfl)
      rw [show tbC T - 0 = 0 by omega]
      show _ = ((if canB (tbC T) Pl = true then 1 else 0 : Nat) : Int)
      rcases e9_z with ⟨q1_z, q2_z⟩ | ⟨q1_z, q2_z⟩
      · rw [if_pos q2_z]; omega
      · rw [if_neg q2_z]; omega
set_option maxHeartbeats 4000000 in
set_option maxRecDepth 100000 in
theorem s_X12_stacks {g : zGT} {w : zW} {f : Nat → Nat → Int32} {j : Nat → Nat → Int64} {A : Nat} {T : zTb} {Q : Option Value → zW → Prop} {QX : String → zW → Prop} (G : zGok g) (hs : shM w A) (hk : ctKn (f (A + 1)) T) (hw : wfT T) (hQ : ∀ (r : Int32) f2_z j2, r.toInt = (staR (tbC T) (tbC T) 0 (fun _ => 0) 0 : Nat) → qM A f f2_z j j2 0 → (f2_z A 4).toInt = 0 → Q (some (.int r)) (zM w f2_z j2)) : zC g 10 yX12_stacks cX12_stacks 1 (some .int) [.ref A] (zM w f j) (0, 0) Q QX := by
  refine zC_of G (by decide +kernel) (Nat.le_of_ble_eq_true rfl) ?_
  have hk9 := hk
  obtain ⟨⟨k0_z, k1_z, k2_z, k3_z, k4_z, k5_z, k6_z⟩, km, kg, kp, kl1, kl2, kl3⟩ := hk9
  have km9 := km
  obtain ⟨m1_z, m2_z, m3_z⟩ := km9
  have hn6 : tbC T ≤ 6 := hw.2.1
  have hg4 : tbG T ≤ 4 := hw.2.2.1
  have hwm := hw.2.2.2.2.2.2.2.1
  have hml : T.2.2.1.2.length ≤ 5 := hwm.2.1
  have hm99 := hwm.2.2
  have hrt := wfT_rch hw
  have hLl : (tbL T).length ≤ 6 := Nat.le_trans (rch_cell hrt).2.2.2.2 hn6
  have hpl : T.2.2.2.length ≤ 10 := hw.2.2.2.2.2.2.2.2.1
  refine r_aloadR0 dX12_stacks_0 ?_
  refine n_iconst dX12_stacks_1 (by decide) (fun r1 e1_z => ?_)
  refine m_putI zf_RX12_77 (by intro C T N h_z; cases h_z; rfl) rfl dX12_stacks_2 (shM_k hs) ?_
  obtain ⟨g2, hg2⟩ : ∃ g9, g9 = zu f A 4 r1 := ⟨_, rfl⟩
  rw [← hg2]
  have og2 : frM A [] [4] f g2 := by rw [hg2]; exact frM_zk frM_rf (by decide)
  have vg2 : g2 A 4 = r1 := by rw [hg2]; exact zu_at
  have vt2 : (g2 A 4).toInt = r1.toInt := by rw [vg2]
  have hk2 : ctKn (g2 (A + 1)) T := by rw [og2.2.1 1 (by decide) (by decide) (by decide)]; exact hk
  refine r_aloadR0 dX12_stacks_5 ?_
  refine n_iconst dX12_stacks_6 (by decide) (fun r6 e6_z => ?_)
  refine n_iconst dX12_stacks_7 (by decide) (fun r7 e7_z => ?_)
  refine q_callV2 zm_RX12_541 dX12_stacks_8 (shM_k hs) (by decide) rfl (Nat.le_of_ble_eq_true rfl) (Nat.le_of_ble_eq_true rfl) (Nat.le_of_ble_eq_true rfl) (Nat.le_of_ble_eq_true rfl) (Nat.le_of_ble_eq_true rfl) (s_X12_standing_0 (T := T) (tk := 0) (Pl := fun _ => 0) G hs hk2 hw e6_z e7_z (by decide) (Nat.zero_le _) (fun i hi_z => absurd hi_z (by omega)) (fun r8 g8 e8 o8 _ => ?_))
  refine r_iret dX12_stacks_11 rfl (Nat.le_of_ble_eq_true rfl) (Nat.le_of_ble_eq_true rfl) ?_
  exact hQ _ g8 j e8 (qM_q (show frM A [6, 7, 8, 9, 13, 16, 17] [4, 33, 34] f _ from (frM_tr (frM_su og2 (by decide) (by decide)) (frM_su o8 (by decide) (by decide))))) (by rw [o8.2.2 4 (by decide)]; omega)
