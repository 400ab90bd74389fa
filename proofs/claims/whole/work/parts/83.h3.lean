/-! the reference: guests' gains, who refuses; what trays tell; creases made, rows seen -/
theorem or_z (x : Int32) : (x ||| nI 0) = x := by
  show x ||| 0 = x
  simp
def gaiR (T : zTb) (X : List zRo) (k : Nat) : Int := (bstS T (k : Nat) T.2.2.1.2.length X).1 - likV T (tbL T) T.2.2.1.2.length k
def keeR (T : zTb) (X : List zRo) : Nat → Int × Int
  | 0 => (-1, -1)
  | k + 1 => if (keeR T X k).2 < gaiR T X k then (((k : Nat) : Int), gaiR T X k) else keeR T X k
theorem bstS_bd {T : zTb} {by9 : Int} {dd : Nat} {ps : List zRo} (hw : wfT T) (hb_z : by9 < (tbG T : Nat)) (hd_z : dd ≤ 5) (h_z : ∀ y ∈ ps, rch (tbC T) y.1 ∧ y.2.length ≤ 5) : -536870912 ≤ (bstS T by9 dd ps).1 ∧ (bstS T by9 dd ps).1 ≤ 1000000 := by
  have key : ∀ (qs : List zRo) (s : Int × List Nat), (∀ y ∈ qs, rch (tbC T) y.1 ∧ y.2.length ≤ 5) → (-536870912 ≤ s.1 ∧ s.1 ≤ 1000000) → (-536870912 ≤ (qs.foldl (fun s y => if s.1 < scoV T by9 y.1 (dd + y.2.length) then (scoV T by9 y.1 (dd + y.2.length), y.2) else s) s).1 ∧ (qs.foldl (fun s y => if s.1 < scoV T by9 y.1 (dd + y.2.length) then (scoV T by9 y.1 (dd + y.2.length), y.2) else s) s).1 ≤ 1000000) := by
    intro qs
    induction qs with
    | nil => exact fun s _ h_z => h_z
    | cons y qs ih =>
      intro s hq hs
      rw [List.foldl_cons]
      refine ih _ (fun z hz => hq z (List.mem_cons_of_mem _ hz)) ?_
      have h1 := hq y List.mem_cons_self
      have h2 := scoV_bd (by9 := by9) (d := dd + y.2.length) hw h1.1 (by omega) hb_z
      unfold bdI at h2
      split
      · show -536870912 ≤ scoV T by9 y.1 (dd + y.2.length) ∧ scoV T by9 y.1 (dd + y.2.length) ≤ 1000000
        omega
      · exact hs
  exact key ps _ h_z (by constructor <;> decide)
theorem allF_rch {n k : Nat} {L : zLy} (hr : rch n L) : ∀ y ∈ allF k L, rch n y.1 := by
  intro y hy
  obtain ⟨m, h1, h2⟩ := List.mem_flatMap.mp (show y ∈ (List.range k).flatMap (fun m => rwF m L []) from hy)
  exact rwF_rch hr y h2
set_option maxHeartbeats 4000000 in
set_option maxRecDepth 100000 in
theorem s_X12_keenest {g : zGT} {w : zW} {f : Nat → Nat → Int32} {j : Nat → Nat → Int64} {A : Nat} {T : zTb} {x : Int32} {Q : Option Value → zW → Prop} {QX : String → zW → Prop} (G : zGok g) (hs : shM w A) (hk : ctKn (f (A + 1)) T) (hw : wfT T) (hmb : mbI f A) (htn : (f A 37).toInt < 1900000000) (hT1 : ¬ (0 ≤ x.toInt ∧ x.toInt ≤ 5) → ∀ (r : Int32) f2_z j2, qM A f f2_z j j2 0 → (f2_z A 4).toInt = 1 → Q (some (.int r)) (zM w f2_z j2)) (hQ : (0 ≤ x.toInt ∧ x.toInt ≤ 5) → ∀ (r : Int32) f2_z j2, r.toInt = (keeR T (allF (x.toInt.toNat + 1) (tbL T)) (tbG T)).1 → qM A f f2_z j j2 4 → (f2_z A 4).toInt = 0 → Q (some (.int r)) (zM w f2_z j2)) : zC g 17 yX12_keenest cX12_keenest 5 (some .int) [.ref A, .int x] (zM w f j) (0, 0) Q QX := by
  refine zC_of G (by decide +kernel) (Nat.le_of_ble_eq_true rfl) ?_
  have hk9 := hk
  obtain ⟨⟨k0_z, k1_z, k2_z, k3_z, k4_z, k5_z, k6_z⟩, km, kg, kp, kl1, kl2, kl3⟩ := hk9
  have km9 := km
  obtain ⟨m1_z, m2_z, m3_z⟩ := km9
  have hn6 : tbC T ≤ 6 := hw.2.1
  have hg4 : tbG T ≤ 4 := hw.2.2.1
  have hwm := hw.2.2.2.2.2.2.2.1
  have hml : T.2.2.1.2.length ≤ 5 := hwm.2.1
  have hm99 := hwm.2.2
  have hrt := wfT_rch hw
  have hLl : (tbL T).length ≤ 6 := Nat.le_trans (rch_cell hrt).2.2.2.2 hn6
  have hpl : T.2.2.2.length ≤ 10 := hw.2.2.2.2.2.2.2.2.1
  rcases Classical.em (0 ≤ x.toInt ∧ x.toInt ≤ 5) with hnc | hnc
  · refine r_aloadR0 dX12_keenest_0 ?_
    refine n_iconst dX12_keenest_1 (by decide) (fun r1 e1_z => ?_)
    refine m_putI zf_RX12_77 (by intro C T N h_z; cases h_z; rfl) rfl dX12_keenest_2 (shM_k hs) ?_
    obtain ⟨g2, hg2⟩ : ∃ g9, g9 = zu f A 4 r1 := ⟨_, rfl⟩
    rw [← hg2]
    have og2 : frM A [] [4] f g2 := by rw [hg2]; exact frM_zk frM_rf (by decide)
    have vg2 : g2 A 4 = r1 := by rw [hg2]; exact zu_at
    have vt2 : (g2 A 4).toInt = r1.toInt := by rw [vg2]
    have hk2 : ctKn (g2 (A + 1)) T := by rw [og2.2.1 1 (by decide) (by decide) (by decide)]; exact hk
    refine r_iload1 dX12_keenest_5 ?_
    refine q_callS1 zm_RX12_499 dX12_keenest_6 (Nat.le_of_ble_eq_true rfl) (Nat.le_of_ble_eq_true rfl) (Nat.le_of_ble_eq_true rfl) (Nat.le_of_ble_eq_true rfl) (Nat.le_of_ble_eq_true rfl) (s_X12_isMore G (fun r6 e6_z => ?_))
    refine t_ifne (t := 18) dX12_keenest_9 (by decide) (fun h9 => ?_) (fun h9 => False.elim (by omega))
    refine r_aloadR0 dX12_keenest_18 ?_
    refine q_callV0 zm_RX12_552 dX12_keenest_19 (shM_k hs) (by decide) rfl (Nat.le_of_ble_eq_true rfl) (Nat.le_of_ble_eq_true rfl) (Nat.le_of_ble_eq_true rfl) (Nat.le_of_ble_eq_true rfl) (Nat.le_of_ble_eq_true rfl) (s_X12_laysLiked G hs hk2 hw (fun g19 o19 c19 => ?_))
    have of19 := (show frM A [6, 7, 8, 9, 13, 16, 17] [4, 33, 34] f _ from (frM_tr (frM_su og2 (by decide) (by decide)) (frM_su o19 (by decide) (by decide))))
    have hk19 : ctKn (g19 (A + 1)) T := by rw [of19.2.1 1 (by decide) (by decide) (by decide)]; exact hk
    have th19 : (g19 A 4).toInt = 0 := by rw [o19.2.2 4 (by decide)]; omega
    have hfx : ∀ z ∈ (allF (x.toInt.toNat + 1) (tbL T)), rch (tbC T) z.1 ∧ z.2.length ≤ 5 := fun z hz => ⟨allF_rch hrt z hz, by have := allF_row z hz; omega⟩
    have lp : ∀ (mz : Nat) (v : Int32) (u : Int32) (c : Int32) (k : Nat) (f2_z : Nat → Nat → Int32) (j2 : Nat → Nat → Int64), c.toInt = (k : Nat) → k ≤ tbG T → qM A f f2_z j j2 k → (f2_z A 4).toInt = 0 → f2_z (A + 13) = g19 (A + 13) → ctKn (f2_z (A + 1)) T → v.toInt = (keeR T (allF (x.toInt.toNat + 1) (tbL T)) k).1 → u.toInt = (keeR T (allF (x.toInt.toNat + 1) (tbL T)) k).2 → tbG T - k < mz → zR (zV g 17 yX12_keenest 5 (some .int) (0, 0) Q QX) cX12_keenest yX12_keenest.cls 29 [some (.ref A), some (.int x), some (.int v), some (.int u), some (.int c)] [] (zM w f2_z j2) (0, 0) := by
      intro mz
      induction mz with
      | zero =>
        intro v u c k f2_z j2 hck hk8 hqq th2 hf13 hk2 hb1 hb2 hmz
        exact absurd hmz (Nat.not_lt_zero _)
      | succ mz ih =>
        intro v u c k f2_z j2 hck hk8 hqq th2 hf13 hk2 hb1 hb2 hmz
        have hq2 : (f2_z (A + 1) 2).toInt = (tbG T : Nat) := hk2.1.2.2.1
        rcases Nat.lt_or_ge k (tbG T) with hkl | hkl
        · have hgb := bstS_bd (by9 := (k : Nat)) (dd := T.2.2.1.2.length) (ps := (allF (x.toInt.toNat + 1) (tbL T))) hw (by omega) hml hfx
          have hlb := likV_bd (gu := k) (d := T.2.2.1.2.length) hw hrt (by omega) (by omega)
          unfold bdI at hlb
          have hks : keeR T (allF (x.toInt.toNat + 1) (tbL T)) (k + 1) = if (keeR T (allF (x.toInt.toNat + 1) (tbL T)) k).2 < gaiR T (allF (x.toInt.toNat + 1) (tbL T)) k then (((k : Nat) : Int), gaiR T (allF (x.toInt.toNat + 1) (tbL T)) k) else keeR T (allF (x.toInt.toNat + 1) (tbL T)) k := rfl
          have hga : gaiR T (allF (x.toInt.toNat + 1) (tbL T)) k = (bstS T (k : Nat) T.2.2.1.2.length (allF (x.toInt.toNat + 1) (tbL T))).1 - likV T (tbL T) T.2.2.1.2.length k := rfl
          refine r_iload4 dX12_keenest_29 ?_
          refine r_aloadR0 dX12_keenest_31 ?_
          refine m_getR (q := (A + 1)) zf_RX12_9 rfl dX12_keenest_32 (shM_k hs) (shM_p1 hs) ?_
          refine n_iconst dX12_keenest_35 (by decide) (fun r35 e35 => ?_)
          refine m_iald (k := 2) (x := (f2_z (A + 1) 2)) dX12_keenest_36 (shM_k1 hs) (shM_n1 hs) (by omega) (by omega) (rfl) ?_
          refine t_icge (t := 98) dX12_keenest_37 (by decide) (fun h37 => False.elim (by omega)) (fun h37 => ?_)
          refine r_aloadR0 dX12_keenest_40 ?_
          refine r_iload4 dX12_keenest_41 ?_
          refine m_putI zf_RX12_449 (by intro C T N h_z; cases h_z; rfl) rfl dX12_keenest_43 (shM_k hs) ?_
          obtain ⟨g43, hg43⟩ : ∃ g9, g9 = zu f2_z A 33 c := ⟨_, rfl⟩
          rw [← hg43]
          have og43 : frM A [] [33] f2_z g43 := by rw [hg43]; exact frM_zk frM_rf (by decide)
          have vg43 : g43 A 33 = c := by rw [hg43]; exact zu_at
          have vt43 : (g43 A 33).toInt = c.toInt := by rw [vg43]
          have hk43 : ctKn (g43 (A + 1)) T := by rw [og43.2.1 1 (by decide) (by decide) (by decide)]; exact hk2
          have ofA2 : frM A [] [33] f2_z g43 := og43
          refine r_aloadR0 dX12_keenest_46 ?_
          refine n_bipush dX12_keenest_47 (by decide) (fun r47 e47 => ?_)
          refine r_aloadR0 dX12_keenest_49 ?_
          refine q_callV0 zm_RX12_343 dX12_keenest_50 (shM_k hs) (by decide) rfl (Nat.le_of_ble_eq_true rfl) (Nat.le_of_ble_eq_true rfl) (Nat.le_of_ble_eq_true rfl) (Nat.le_of_ble_eq_true rfl) (Nat.le_of_ble_eq_true rfl) (s_X12_now (j := j2) G hs hk43 hw (fun r50 g50 e50 o50 c50 => ?_))
          have ofA2 : frM A [6] [33] f2_z g50 := frM_tr (frM_su og43 (by decide) (by decide)) (frM_su o50 (by decide) (by decide))
          refine r_iload1 dX12_keenest_53 ?_
          have ofA := (show frM A [6, 7, 8, 9, 13, 16, 17] [4, 33, 34] f2_z _ from (frM_tr (frM_su og43 (by decide) (by decide)) (frM_su o50 (by decide) (by decide))))
          have hkA : ctKn (g50 (A + 1)) T := by rw [ofA.2.1 1 (by decide) (by decide) (by decide)]; exact hk2
          have thA : (g50 A 4).toInt = 0 := by rw [ofA2.2.2 4 (by decide)]; exact th2
          refine q_callV3 zm_RX12_502 dX12_keenest_54 (shM_k hs) (by decide) rfl (Nat.le_of_ble_eq_true rfl) (Nat.le_of_ble_eq_true rfl) (Nat.le_of_ble_eq_true rfl) (Nat.le_of_ble_eq_true rfl) (Nat.le_of_ble_eq_true rfl) (s_X12_asksAll (T := T) (dd := T.2.2.1.2.length) (mm := x.toInt.toNat) (L := tbL T) (wh := 8) (Inv := (invB A T (k : Nat) T.2.2.1.2.length 8 (g50 A 33).toInt (fun i => (g50 (A + 13) i).toInt))) (Fin := (fun _ _ _ _ => False)) G hs hw hml hkA e47 e50 (by omega) (by omega) c50 hrt (by rw [ofA.2.2 37 (by decide)]; have := hqq.2.2.2.2; omega) (see_gai (gu := k) G hs hw hml (by rw [o50.2.2 33 (by decide), vt43]; exact hck) hkl) invB_iv (fun f1_z of h28 h30 h31 h32 h37 => invB_0 of rfl h28 h31 h32 (fun _ _ => rfl)) (fun g54 j54 o54 t54 c54 => ?_))
          have oq : qM A f2_z g54 j2 j54 1 := qM_ga ofA o54 t54
          have oth : (g54 A 4).toInt = 0 := by rw [o54.1.2.2 4 (by decide)]; exact thA
          have h9 : invB A T (k : Nat) T.2.2.1.2.length 8 (g50 A 33).toInt (fun i => (g50 (A + 13) i).toInt) g54 j54 (allF (x.toInt.toNat + 1) (tbL T)) := by
            rcases c54 with ⟨_, _, _, _, h9⟩ | h9
            · exact absurd h9 id
            · exact h9
          have h31 := h9.2.2.1
          have h13 : g54 (A + 13) = g19 (A + 13) := by rw [o54.1.2.1 13 (by decide) (by decide) (by decide), o50.2.1 13 (by decide) (by decide) (by decide), og43.2.1 13 (by decide) (by decide) (by decide)]; exact hf13
          have h13k : (g54 (A + 13) k).toInt = likV T (tbL T) T.2.2.1.2.length k := by rw [h13]; exact c19 k hkl
          have hk54 : ctKn (g54 (A + 1)) T := by rw [o54.1.2.1 1 (by decide) (by decide) (by decide)]; exact hkA
          refine r_aloadR0 dX12_keenest_57 ?_
          refine m_getV (x := (g54 A 31)) zf_RX12_425 rfl dX12_keenest_58 (shM_k hs) (rfl) ?_
          refine r_aloadR0 dX12_keenest_61 ?_
          refine m_getR (q := (A + 13)) zf_RX12_51 rfl dX12_keenest_62 (shM_k hs) (shM_p13 hs) ?_
          refine r_iload4 dX12_keenest_65 ?_
          refine m_iald (k := k) (x := (g54 (A + 13) k)) dX12_keenest_67 (shM_k13 hs) (shM_n13 hs) (by omega) (by omega) (rfl) ?_
          refine n_isub dX12_keenest_68 (by omega) (fun r68 e68 => ?_)
          refine r_iload3 dX12_keenest_69 ?_
          refine t_icgt (t := 76) dX12_keenest_70 (by decide) (fun h70 => ?_) (fun h70 => ?_)
          · refine r_iload4 dX12_keenest_76 ?_
            refine r_istore2 dX12_keenest_78 rfl ?_
            refine r_aloadR0 dX12_keenest_79 ?_
            refine m_getV (x := (g54 A 31)) zf_RX12_425 rfl dX12_keenest_80 (shM_k hs) (rfl) ?_
            refine r_aloadR0 dX12_keenest_83 ?_
            refine m_getR (q := (A + 13)) zf_RX12_51 rfl dX12_keenest_84 (shM_k hs) (shM_p13 hs) ?_
            refine r_iload4 dX12_keenest_87 ?_
            refine m_iald (k := k) (x := (g54 (A + 13) k)) dX12_keenest_89 (shM_k13 hs) (shM_n13 hs) (by omega) (by omega) (rfl) ?_
            refine n_isub dX12_keenest_90 (by omega) (fun r90 e90_z => ?_)
            refine r_istore3 dX12_keenest_91 rfl ?_
            refine n_iinc4 dX12_keenest_92 (by decide) rfl (by omega) (fun r92 e92_z => ?_)
            refine r_goto (t := 29) dX12_keenest_95 (by decide) ?_
            refine ih _ _ _ (k + 1) g54 j54 (by omega) (by omega) (qM_tr hqq oq) oth h13 hk54 ?_ ?_ (by omega)
            · rw [hks]
              split <;> omega
            · rw [hks]
              split <;> omega
          · refine r_goto (t := 92) dX12_keenest_73 (by decide) ?_
            refine n_iinc4 dX12_keenest_92 (by decide) rfl (by omega) (fun r92 e92_z => ?_)
            refine r_goto (t := 29) dX12_keenest_95 (by decide) ?_
            refine ih _ _ _ (k + 1) g54 j54 (by omega) (by omega) (qM_tr hqq oq) oth h13 hk54 ?_ ?_ (by omega)
            · rw [hks]
              split <;> omega
            · rw [hks]
              split <;> omega
        · refine r_iload4 dX12_keenest_29 ?_
          refine r_aloadR0 dX12_keenest_31 ?_
          refine m_getR (q := (A + 1)) zf_RX12_9 rfl dX12_keenest_32 (shM_k hs) (shM_p1 hs) ?_
          refine n_iconst dX12_keenest_35 (by decide) (fun r35 e35 => ?_)
          refine m_iald (k := 2) (x := (f2_z (A + 1) 2)) dX12_keenest_36 (shM_k1 hs) (shM_n1 hs) (by omega) (by omega) (rfl) ?_
          refine t_icge (t := 98) dX12_keenest_37 (by decide) (fun h37 => ?_) (fun h37 => False.elim (by omega))
          refine r_iload2 dX12_keenest_98 ?_
          refine r_iret dX12_keenest_99 rfl (Nat.le_of_ble_eq_true rfl) (Nat.le_of_ble_eq_true rfl) ?_
          have hkg : k = tbG T := by omega
          rw [hkg] at hb1 hqq
          exact hQ hnc _ f2_z j2 hb1 ⟨hqq.1, hqq.2.1, hqq.2.2.1, hqq.2.2.2.1, by have := hqq.2.2.2.2; omega⟩ th2
    refine n_iconst dX12_keenest_22 (by decide) (fun r22 e22_z => ?_)
    refine r_istore2 dX12_keenest_23 rfl ?_
    refine n_iconst dX12_keenest_24 (by decide) (fun r24 e24_z => ?_)
    refine r_istore3 dX12_keenest_25 rfl ?_
    refine n_iconst dX12_keenest_26 (by decide) (fun r26 e26_z => ?_)
    refine r_istore4 dX12_keenest_27 rfl ?_
    exact lp 5 _ _ _ 0 g19 j (by omega) (by omega) (qM_q of19) th19 rfl hk19 (by show _ = (-1 : Int); omega) (by show _ = (-1 : Int); omega) (by omega)
  · refine r_aloadR0 dX12_keenest_0 ?_
    refine n_iconst dX12_keenest_1 (by decide) (fun r1 e1_z => ?_)
    refine m_putI zf_RX12_77 (by intro C T N h_z; cases h_z; rfl) rfl dX12_keenest_2 (shM_k hs) ?_
    obtain ⟨g2, hg2⟩ : ∃ g9, g9 = zu f A 4 r1 := ⟨_, rfl⟩
    rw [← hg2]
    have og2 : frM A [] [4] f g2 := by rw [hg2]; exact frM_zk frM_rf (by decide)
    have vg2 : g2 A 4 = r1 := by rw [hg2]; exact zu_at
    have vt2 : (g2 A 4).toInt = r1.toInt := by rw [vg2]
    have hk2 : ctKn (g2 (A + 1)) T := by rw [og2.2.1 1 (by decide) (by decide) (by decide)]; exact hk
    refine r_iload1 dX12_keenest_5 ?_
    refine q_callS1 zm_RX12_499 dX12_keenest_6 (Nat.le_of_ble_eq_true rfl) (Nat.le_of_ble_eq_true rfl) (Nat.le_of_ble_eq_true rfl) (Nat.le_of_ble_eq_true rfl) (Nat.le_of_ble_eq_true rfl) (s_X12_isMore G (fun r6 e6_z => ?_))
    refine t_ifne (t := 18) dX12_keenest_9 (by decide) (fun h9 => False.elim (by omega)) (fun h9 => ?_)
    refine r_aloadR0 dX12_keenest_12 ?_
    refine n_iconst dX12_keenest_13 (by decide) (fun r13 e13_z => ?_)
    refine q_callV1 zm_RX12_244 dX12_keenest_14 (shM_k hs) (by decide) rfl (Nat.le_of_ble_eq_true rfl) (Nat.le_of_ble_eq_true rfl) (Nat.le_of_ble_eq_true rfl) (Nat.le_of_ble_eq_true rfl) (Nat.le_of_ble_eq_true rfl) (s_X12_fails G hs (fun r14 g14 e14_z o14 v14 => ?_))
    refine r_iret dX12_keenest_17 rfl (Nat.le_of_ble_eq_true rfl) (Nat.le_of_ble_eq_true rfl) ?_
    exact hT1 hnc _ g14 j (qM_q (show frM A [6, 7, 8, 9, 13, 16, 17] [4, 33, 34] f _ from (frM_tr (frM_su og2 (by decide) (by decide)) (frM_su o14 (by decide) (by decide))))) (by rw [v14]; omega)
set_option maxHeartbeats 4000000 in
set_option maxRecDepth 100000 in
theorem s_X12_refuse {g : zGT} {w : zW} {f : Nat → Nat → Int32} {j : Nat → Nat → Int64} {A : Nat} {T : zTb} {Q : Option Value → zW → Prop} {QX : String → zW → Prop} (G : zGok g) (hs : shM w A) (hk : ctKn (f (A + 1)) T) (hw : wfT T) (hQ : ∀ (r : Int32) f2_z j2, r.toInt = (refN (fun i => decide (likV T (tbL T) T.2.2.1.2.length i < likV T (lyFlat (tbC T)) 0 i)) (tbG T) : Nat) → qM A f f2_z j j2 0 → (f2_z A 4).toInt = 0 → Q (some (.int r)) (zM w f2_z j2)) : zC g 8 yX12_refuse cX12_refuse 3 (some .int) [.ref A] (zM w f j) (0, 0) Q QX := by
  refine zC_of G (by decide +kernel) (Nat.le_of_ble_eq_true rfl) ?_
  have hk9 := hk
  obtain ⟨⟨k0_z, k1_z, k2_z, k3_z, k4_z, k5_z, k6_z⟩, km, kg, kp, kl1, kl2, kl3⟩ := hk9
  have km9 := km
  obtain ⟨m1_z, m2_z, m3_z⟩ := km9
  have hn6 : tbC T ≤ 6 := hw.2.1
  have hg4 : tbG T ≤ 4 := hw.2.2.1
  have hwm := hw.2.2.2.2.2.2.2.1
  have hml : T.2.2.1.2.length ≤ 5 := hwm.2.1
  have hm99 := hwm.2.2
  have hrt := wfT_rch hw
  have hLl : (tbL T).length ≤ 6 := Nat.le_trans (rch_cell hrt).2.2.2.2 hn6
  have hpl : T.2.2.2.length ≤ 10 := hw.2.2.2.2.2.2.2.2.1
  obtain ⟨pp9, hpd⟩ : ∃ p9, p9 = (fun i => decide (likV T (tbL T) T.2.2.1.2.length i < likV T (lyFlat (tbC T)) 0 i)) := ⟨_, rfl⟩
  rw [← hpd] at hQ
  have hrf0 := rch_flat hn6
  refine r_aloadR0 dX12_refuse_0 ?_
  refine n_iconst dX12_refuse_1 (by decide) (fun r1 e1_z => ?_)
  refine m_putI zf_RX12_77 (by intro C T N h_z; cases h_z; rfl) rfl dX12_refuse_2 (shM_k hs) ?_
  obtain ⟨g2, hg2⟩ : ∃ g9, g9 = zu f A 4 r1 := ⟨_, rfl⟩
  rw [← hg2]
  have og2 : frM A [] [4] f g2 := by rw [hg2]; exact frM_zk frM_rf (by decide)
  have vg2 : g2 A 4 = r1 := by rw [hg2]; exact zu_at
  have vt2 : (g2 A 4).toInt = r1.toInt := by rw [vg2]
  have hk2 : ctKn (g2 (A + 1)) T := by rw [og2.2.1 1 (by decide) (by decide) (by decide)]; exact hk
  refine r_aloadR0 dX12_refuse_5 ?_
  refine q_callV0 zm_RX12_552 dX12_refuse_6 (shM_k hs) (by decide) rfl (Nat.le_of_ble_eq_true rfl) (Nat.le_of_ble_eq_true rfl) (Nat.le_of_ble_eq_true rfl) (Nat.le_of_ble_eq_true rfl) (Nat.le_of_ble_eq_true rfl) (s_X12_laysLiked G hs hk2 hw (fun g6 o6 c6_z => ?_))
  have hk6 : ctKn (g6 (A + 1)) T := by rw [o6.2.1 1 (by decide) (by decide) (by decide)]; exact hk2
  refine r_aloadR0 dX12_refuse_9 ?_
  refine q_callV0 zm_RX12_277 dX12_refuse_10 (shM_k hs) (by decide) rfl (Nat.le_of_ble_eq_true rfl) (Nat.le_of_ble_eq_true rfl) (Nat.le_of_ble_eq_true rfl) (Nat.le_of_ble_eq_true rfl) (Nat.le_of_ble_eq_true rfl) (s_X12_laysFlat G hs hk6.1.2.1 hn6 (fun g10 o10 c10 => ?_))
  have hk10 : ctKn (g10 (A + 1)) T := by rw [o10.2.1 1 (by decide) (by decide) (by decide)]; exact hk6
  have of10 := (show frM A [6, 7, 8, 9, 13, 16, 17] [4, 33, 34] f _ from (frM_tr (frM_tr (frM_su og2 (by decide) (by decide)) (frM_su o6 (by decide) (by decide))) (frM_su o10 (by decide) (by decide))))
  have lp : ∀ (mz : Nat) (v : Int32) (c : Int32) (k : Nat) (f2_z : Nat → Nat → Int32), c.toInt = (k : Nat) → k ≤ tbG T → v = nI (refN pp9 k) → frM A [8, 9] [] g10 f2_z → tbG T - k < mz → zR (zV g 8 yX12_refuse 3 (some .int) (0, 0) Q QX) cX12_refuse yX12_refuse.cls 17 [some (.ref A), some (.int v), some (.int c)] [] (zM w f2_z j) (0, 0) := by
    intro mz
    induction mz with
    | zero =>
      intro v c k f2_z hck hk8 hb_z ho hmz
      exact absurd hmz (Nat.not_lt_zero _)
    | succ mz ih =>
      intro v c k f2_z hck hk8 hb_z ho hmz
      have hk2 : ctKn (f2_z (A + 1)) T := by rw [ho.2.1 1 (by decide) (by decide) (by decide)]; exact hk10
      have q2_z : (f2_z (A + 1) 2).toInt = (tbG T : Nat) := hk2.1.2.2.1
      have hl2 : ctLi (f2_z (A + 6)) 0 (lyFlat (tbC T)) := by rw [ho.2.1 6 (by decide) (by decide) (by decide)]; exact c10
      rcases Nat.lt_or_ge k (tbG T) with hkl | hkl
      · have hKk : (f2_z (A + 13) k).toInt = likV T (tbL T) T.2.2.1.2.length k := by rw [ho.2.1 13 (by decide) (by decide) (by decide), o10.2.1 13 (by decide) (by decide) (by decide)]; exact c6_z k hkl
        have hlt := refN_lt (p := pp9) (k := k)
        have hp3 : 2 ^ k ≤ 2 ^ 3 := Nat.pow_le_pow_right (by decide) (by omega)
        have hrs : refN pp9 (k + 1) = refN pp9 k + (if pp9 k = true then 2 ^ k else 0) := rfl
        have hpk : pp9 k = decide (likV T (tbL T) T.2.2.1.2.length k < likV T (lyFlat (tbC T)) 0 k) := by rw [hpd]
        refine r_iload2 dX12_refuse_17 ?_
        refine r_aloadR0 dX12_refuse_18 ?_
        refine m_getR (q := (A + 1)) zf_RX12_9 rfl dX12_refuse_19 (shM_k hs) (shM_p1 hs) ?_
        refine n_iconst dX12_refuse_22 (by decide) (fun r22 e22_z => ?_)
        refine m_iald (k := 2) (x := (f2_z (A + 1) 2)) dX12_refuse_23 (shM_k1 hs) (shM_n1 hs) (by omega) (by omega) (rfl) ?_
        refine t_icge (t := 58) dX12_refuse_24 (by decide) (fun h24 => False.elim (by omega)) (fun h24 => ?_)
        refine r_iload1 dX12_refuse_27 ?_
        refine r_aloadR0 dX12_refuse_28 ?_
        refine m_getR (q := (A + 13)) zf_RX12_51 rfl dX12_refuse_29 (shM_k hs) (shM_p13 hs) ?_
        refine r_iload2 dX12_refuse_32 ?_
        refine m_iald (k := k) (x := (f2_z (A + 13) k)) dX12_refuse_33 (shM_k13 hs) (shM_n13 hs) (by omega) (by omega) (rfl) ?_
        refine r_aloadR0 dX12_refuse_34 ?_
        refine n_iconst dX12_refuse_35 (by decide) (fun r35 e35 => ?_)
        refine r_iload2 dX12_refuse_36 ?_
        refine q_callV2 zm_RX12_355 dX12_refuse_37 (shM_k hs) (by decide) rfl (Nat.le_of_ble_eq_true rfl) (Nat.le_of_ble_eq_true rfl) (Nat.le_of_ble_eq_true rfl) (Nat.le_of_ble_eq_true rfl) (Nat.le_of_ble_eq_true rfl) (s_X12_lik (d := 0) (L := lyFlat (tbC T)) (T := T) (gu := k) G hs hk2 hw e35 (by omega) hl2 hrf0 hck hkl (fun r37 g37 e37 o37 => ?_))
        refine t_icge (t := 49) dX12_refuse_40 (by decide) (fun h40 => ?_) (fun h40 => ?_)
        · refine n_iconst dX12_refuse_49 (by decide) (fun r49 e49 => ?_)
          refine r_ior dX12_refuse_50 ?_
          refine n_name (fun r50 e50 => ?_)
          refine r_istore1 dX12_refuse_51 rfl ?_
          refine n_iinc2 dX12_refuse_52 (by decide) rfl (by omega) (fun r52 e52 => ?_)
          refine r_goto (t := 17) dX12_refuse_55 (by decide) ?_
          refine ih _ _ (k + 1) g37 (by omega) (by omega) ?_ (frM_tr ho o37) (by omega)
          first
            | (rw [hrs, hpk, decide_eq_true (by omega), if_pos rfl, e50, e45, hb_z, zi_of (n := 1) e43 (by omega), zi_of hck (by omega)]
               exact bit_or k (by omega) _ (by omega) hlt)
            | (rw [hrs, hpk, decide_eq_false (by omega), if_neg (by decide), Nat.add_zero, e50, hb_z, zi_of (n := 0) e49 (by omega)]
               exact or_z _)
        · refine n_iconst dX12_refuse_43 (by decide) (fun r43 e43 => ?_)
          refine r_iload2 dX12_refuse_44 ?_
          refine r_ishl dX12_refuse_45 ?_
          refine n_name (fun r45 e45 => ?_)
          refine r_goto (t := 50) dX12_refuse_46 (by decide) ?_
          refine r_ior dX12_refuse_50 ?_
          refine n_name (fun r50 e50 => ?_)
          refine r_istore1 dX12_refuse_51 rfl ?_
          refine n_iinc2 dX12_refuse_52 (by decide) rfl (by omega) (fun r52 e52 => ?_)
          refine r_goto (t := 17) dX12_refuse_55 (by decide) ?_
          refine ih _ _ (k + 1) g37 (by omega) (by omega) ?_ (frM_tr ho o37) (by omega)
          first
            | (rw [hrs, hpk, decide_eq_true (by omega), if_pos rfl, e50, e45, hb_z, zi_of (n := 1) e43 (by omega), zi_of hck (by omega)]
               exact bit_or k (by omega) _ (by omega) hlt)
            | (rw [hrs, hpk, decide_eq_false (by omega), if_neg (by decide), Nat.add_zero, e50, hb_z, zi_of (n := 0) e49 (by omega)]
               exact or_z _)
      · refine r_iload2 dX12_refuse_17 ?_
        refine r_aloadR0 dX12_refuse_18 ?_
        refine m_getR (q := (A + 1)) zf_RX12_9 rfl dX12_refuse_19 (shM_k hs) (shM_p1 hs) ?_
        refine n_iconst dX12_refuse_22 (by decide) (fun r22 e22_z => ?_)
        refine m_iald (k := 2) (x := (f2_z (A + 1) 2)) dX12_refuse_23 (shM_k1 hs) (shM_n1 hs) (by omega) (by omega) (rfl) ?_
        refine t_icge (t := 58) dX12_refuse_24 (by decide) (fun h24 => ?_) (fun h24 => False.elim (by omega))
        refine r_iload1 dX12_refuse_58 ?_
        refine r_iret dX12_refuse_59 rfl (Nat.le_of_ble_eq_true rfl) (Nat.le_of_ble_eq_true rfl) ?_
        have hke : k = tbG T := by omega
        refine hQ _ f2_z j ?_ (qM_q (frM_tr of10 (frM_su ho (by decide) (by decide)))) (by rw [ho.2.2 4 (by decide), o10.2.2 4 (by decide), o6.2.2 4 (by decide)]; omega)
        rw [hb_z, ← hke]
        exact zi_n (by have hlt := refN_lt (p := pp9) (k := k); have hp3 : 2 ^ k ≤ 2 ^ 4 := Nat.pow_le_pow_right (by decide) (by omega); omega)
  refine n_iconst dX12_refuse_13 (by decide) (fun r13 e13_z => ?_)
  refine r_istore1 dX12_refuse_14 rfl ?_
  refine n_iconst dX12_refuse_15 (by decide) (fun r15 e15_z => ?_)
  refine r_istore2 dX12_refuse_16 rfl ?_
  exact lp 5 _ _ 0 g10 (by omega) (by omega) (zi_of (n := 0) e13_z (by omega)) frM_rf (by omega)
