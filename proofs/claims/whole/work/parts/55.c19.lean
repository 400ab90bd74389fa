/-! the class: stands -/
def posW (l : List Int) : Nat → Nat → Int
  | 0, _ => 0
  | k + 1, c => if l[k]? = some ((c : Nat) : Int) then (k : Nat) else posW l k c
def standC (l : List Int) : Prop := ∀ c, c < l.length → fitC (posW l l.length) c
set_option maxHeartbeats 4000000 in
set_option maxRecDepth 100000 in
theorem s_X11_stands {g : zGT} {w : zW} {f : Nat → Nat → Int32} {j : Nat → Nat → Int64} {X : Nat} {T : zTb} {x : Int32} {ty : Nat → zTy} {Q : Option Value → zW → Prop} {QX : String → zW → Prop} (G : zGok g) (hx : shX w X) (ht : tbAt w f X (X + 11) T) (hty : ∀ i, i < 4 → ctTr f j (X + 231 + 2 * i) (ty i)) (hXNE : ¬ (0 ≤ x.toInt ∧ x.toInt < 4) → ∀ n, zS w ≤ n → QX "java/util/NoSuchElementException" (zsS (zM w f j) n)) (hXIS : (0 ≤ x.toInt ∧ x.toInt < 4) → ty x.toInt.toNat = none → ∀ n, zS w ≤ n → QX "java/lang/IllegalStateException" (zsS (zM w f j) n)) (hXIA : (0 ≤ x.toInt ∧ x.toInt < 4) → ∀ s l, ty x.toInt.toNat = some (s, l) → ¬ (onceC l (tbC T)) → ∀ n, zS w ≤ n → QX "java/lang/IllegalArgumentException" (zsS (zM w f j) n)) (hQ : (0 ≤ x.toInt ∧ x.toInt < 4) → ∀ s l, ty x.toInt.toNat = some (s, l) → onceC l (tbC T) → ∀ (r : Int32) f2_z, (r.toInt = 1 ∧ standC l ∨ r.toInt = 0 ∧ ¬ standC l) → qX X f f2_z → Q (some (.int r)) (zM w f2_z j)) : zC g 9 yX11_stands cX11_stands 5 (some .boolean) [.ref X, .int x] (zM w f j) (3, 18) Q QX := by
  refine zC_of G (by decide +kernel) (Nat.le_of_ble_eq_true rfl) ?_
  have ht0 := ht
  obtain ⟨nq, pp, g0, p0, hnq, hna0, hpp, hctb, hpast, hwf⟩ := ht0
  have hna1 := hna0
  obtain ⟨hna, hcn, ⟨hz1, hz2, hz3⟩, hl1, hl2, hl3⟩ := hna0
  have hmo := hctb.2.2.1
  have hn6 : tbC T ≤ 6 := hwf.2.1
  have hg4 : tbG T ≤ 4 := hwf.2.2.1
  have hwm := hwf.2.2.2.2.2.2.2.1
  have hrt := wfT_rch hwf
  have hfl : (f (X + 11 + 7) 2).toInt = (T.2.2.1.2.length : Nat) := by rw [hmo.1]; have := hmo.2.1; exact zi_n (by omega)
  have hcells : (f nq 1).toInt = (tbC T : Nat) := by rw [hcn.2.1]; exact zi_n (n := tbC T) (by omega)
  have hgs : (f nq 2).toInt = (tbG T : Nat) := by rw [hcn.2.2.1]; exact zi_n (n := tbG T) (by omega)
  refine r_aloadR0 dX11_stands_0 ?_
  refine r_iload1 dX11_stands_1 ?_
  refine q_callV1 zm_RX11_426 dX11_stands_2 (shX_k (w := w) hx) (by decide) rfl (Nat.le_of_ble_eq_true rfl) (Nat.le_of_ble_eq_true rfl) (Nat.le_of_ble_eq_true rfl) (Nat.le_of_ble_eq_true rfl) (Nat.le_of_ble_eq_true rfl) (s_X11_stackIn G hx ht hty (fun hxx n hn => x_out (hXNE hxx n hn) (Nat.le_of_ble_eq_true rfl) (Nat.le_of_ble_eq_true rfl)) (fun hxx hyy n hn => x_out (hXIS hxx hyy n hn) (Nat.le_of_ble_eq_true rfl) (Nat.le_of_ble_eq_true rfl)) (fun hxx s l hcs hyy n hn => x_out (hXIA hxx s l hcs hyy n hn) (Nat.le_of_ble_eq_true rfl) (Nat.le_of_ble_eq_true rfl)) (fun hok s l hcs hcr => ?_))
  have hxk : x.toInt.toNat < 4 := by omega
  have hct := hty _ hxk
  rw [hcs] at hct
  have hl30 : l.length ≤ 30 := hct.2.2.2.2.1
  have hln : l.length = tbC T := by have := hcr.1; omega
  refine r_astore2 dX11_stands_5 rfl ?_
  refine n_iconst dX11_stands_6 (by decide) (fun r6 e6_z => ?_)
  refine r_istore3 dX11_stands_7 rfl ?_
  have lp : ∀ (mz : Nat) (c : Int32) (k : Nat) (v4_z : Option Value) (f2_z : Nat → Nat → Int32), c.toInt = (k : Nat) → k ≤ l.length → (∀ q, q ≠ X + 104 → f2_z q = f q) → (∀ c : Nat, (∃ i, i < k ∧ l[i]? = some ((c : Nat) : Int)) → (f2_z (X + 104) c).toInt = posW l k c) → l.length - k < mz → zR (zV g 9 yX11_stands 5 (some .boolean) (3, 18) Q QX) cX11_stands yX11_stands.cls 8 [some (.ref X), some (.int x), some (.ref (X + 231 + 2 * x.toInt.toNat)), some (.int c), v4_z] [] (zM w f2_z j) (3, 18) := by
    intro mz
    induction mz with
    | zero =>
      intro c k v4_z f2_z hck hk ho hpl hmz
      exact absurd hmz (Nat.not_lt_zero _)
    | succ mz ih =>
      intro c k v4_z f2_z hck hk ho hpl hmz
      have hct2 : ctTr f2_z j (X + 231 + 2 * x.toInt.toNat) (some (s, l)) := ctTr_of hct (ho _ (by omega)) rfl
      have hmany : (f2_z (X + 231 + 2 * x.toInt.toNat) 2).toInt = (l.length : Nat) := hct2.2.2.2.1
      rcases Nat.lt_or_ge k l.length with hkl | hkl
      · obtain ⟨dd, hdd⟩ : ∃ dd, l[k]? = some dd := ⟨_, List.getElem?_eq_getElem hkl⟩
        have hdb := hcr.2.1 dd (List.mem_of_getElem? hdd)
        have hps : ∀ c, posW l (k + 1) c = if l[k]? = some ((c : Nat) : Int) then ((k : Nat) : Int) else posW l k c := fun c => rfl
        refine r_iload3 dX11_stands_8 ?_
        refine r_aloadR2 dX11_stands_9 ?_
        refine m_getV (x := (f2_z (X + 231 + 2 * x.toInt.toNat) 2)) zf_RX11_289 rfl dX11_stands_10 (shTr_k (w := w) (shX_ty hx hxk).1) (rfl) ?_
        refine t_icge (t := 53) dX11_stands_13 (by decide) (fun h13 => False.elim (by omega)) (fun h13 => ?_)
        refine r_aloadR2 dX11_stands_16 ?_
        refine r_iload3 dX11_stands_17 ?_
        refine q_callV1 zm_RX11_292 dX11_stands_18 (shTr_k (w := w) (shX_ty hx hxk).1) (by decide) rfl (Nat.le_of_ble_eq_true rfl) (Nat.le_of_ble_eq_true rfl) (Nat.le_of_ble_eq_true rfl) (Nat.le_of_ble_eq_true rfl) (Nat.le_of_ble_eq_true rfl) (s_X8_numberAt (k := k) (v := dd) G (shX_ty hx hxk).1 hct2 hck hdd (fun r18 e18_z => ?_))
        refine n_l2i dX11_stands_21 (by omega) (fun r21 e21_z => ?_)
        refine r_istore4 dX11_stands_22 rfl ?_
        refine r_iload4 dX11_stands_24 ?_
        refine t_iflt (t := 47) dX11_stands_26 (by decide) (fun h26 => False.elim (by omega)) (fun h26 => ?_)
        refine r_iload4 dX11_stands_29 ?_
        refine r_aloadR0 dX11_stands_31 ?_
        refine m_getR (q := (X + 104)) zf_RX11_81 rfl dX11_stands_32 (shX_k (w := w) hx) (shX_p15 hx) ?_
        refine m_alen dX11_stands_35 (zge (shX_k105 hx) (by decide)) (shX_n105 hx) (by first | decide | omega) (fun r35 e35 => ?_)
        refine t_icge (t := 47) dX11_stands_36 (by decide) (fun h36 => False.elim (by omega)) (fun h36 => ?_)
        refine r_aloadR0 dX11_stands_39 ?_
        refine m_getR (q := (X + 104)) zf_RX11_81 rfl dX11_stands_40 (shX_k (w := w) hx) (shX_p15 hx) ?_
        refine r_iload4 dX11_stands_43 ?_
        refine r_iload3 dX11_stands_45 ?_
        refine m_iast (k := dd.toNat) dX11_stands_46 (shX_k105 hx) (shX_n105 hx) (by omega) (by omega) ?_
        refine n_iinc3 dX11_stands_47 (by decide) rfl (by omega) (fun r47 e47 => ?_)
        refine r_goto (t := 8) dX11_stands_50 (by decide) ?_
        refine ih _ (k + 1) _ _ (by omega) (by omega) (fun q hq => (zu_ne hq).trans (ho q hq)) (fun c9_z hc9 => ?_) (by omega)
        obtain ⟨i9_z, hi9, hl9⟩ := hc9
        rw [hps]
        by_cases hce : l[k]? = some ((c9_z : Nat) : Int)
        · rw [if_pos hce]
          have h91 : dd = (c9_z : Nat) := Option.some.inj (hdd.symm.trans hce)
          rw [show dd.toNat = c9_z by omega, zu_at]
          exact hck
        · rw [if_neg hce]
          have h92 : dd ≠ (c9_z : Nat) := fun h9 => hce (by rw [hdd, h9])
          rw [zu_nn (by omega)]
          have h93 : i9_z ≠ k := fun h9 => hce (by rw [← h9]; exact hl9)
          exact hpl c9_z ⟨i9_z, by omega, hl9⟩
      · have hke : k = l.length := by omega
        rw [hke] at hpl
        have hPP : ∀ i, i < l.length → (f2_z (X + 104) i).toInt = posW l l.length i := by
          intro i hi_z
          obtain ⟨i9_z, hi9⟩ := once_has hcr (c := i) (by omega)
          exact hpl i ⟨i9_z, (List.getElem?_eq_some_iff.mp hi9).1, hi9⟩
        have hqq : qX X f f2_z := qX_S (fun q hq => ho q (by omega))
        refine r_iload3 dX11_stands_8 ?_
        refine r_aloadR2 dX11_stands_9 ?_
        refine m_getV (x := (f2_z (X + 231 + 2 * x.toInt.toNat) 2)) zf_RX11_289 rfl dX11_stands_10 (shTr_k (w := w) (shX_ty hx hxk).1) (rfl) ?_
        refine t_icge (t := 53) dX11_stands_13 (by decide) (fun h13 => ?_) (fun h13 => False.elim (by omega))
        refine n_iconst dX11_stands_53 (by decide) (fun r53 e53 => ?_)
        refine r_istore3 dX11_stands_54 rfl ?_
        have lp2 : ∀ (mz : Nat) (u : Int32) (u4 : Option Value) (m : Nat), u.toInt = (m : Nat) → m ≤ l.length → (∀ i, i < m → fitC (posW l l.length) i) → l.length - m < mz → zR (zV g 9 yX11_stands 5 (some .boolean) (3, 18) Q QX) cX11_stands yX11_stands.cls 55 [some (.ref X), some (.int x), some (.ref (X + 231 + 2 * x.toInt.toNat)), some (.int u), u4] [] (zM w f2_z j) (3, 18) := by
          intro mz
          induction mz with
          | zero =>
            intro u u4 m hcm hm9 hfa hmz
            exact absurd hmz (Nat.not_lt_zero _)
          | succ mz ih =>
            intro u u4 m hcm hm9 hfa hmz
            rcases Nat.lt_or_ge m l.length with hml | hml
            · refine r_iload3 dX11_stands_55 ?_
              refine r_aloadR2 dX11_stands_56 ?_
              refine m_getV (x := (f2_z (X + 231 + 2 * x.toInt.toNat) 2)) zf_RX11_289 rfl dX11_stands_57 (shTr_k (w := w) (shX_ty hx hxk).1) (rfl) ?_
              refine t_icge (t := 82) dX11_stands_60 (by decide) (fun h60 => False.elim (by omega)) (fun h60 => ?_)
              refine r_aloadR0 dX11_stands_63 ?_
              refine m_getR (q := (X + 104)) zf_RX11_81 rfl dX11_stands_64 (shX_k (w := w) hx) (shX_p15 hx) ?_
              refine r_iload3 dX11_stands_67 ?_
              refine q_callS2 zm_RX11_429 dX11_stands_68 (Nat.le_of_ble_eq_true rfl) (Nat.le_of_ble_eq_true rfl) (Nat.le_of_ble_eq_true rfl) (Nat.le_of_ble_eq_true rfl) (Nat.le_of_ble_eq_true rfl) (s_X11_creaseFits (c := m) (Pl := posW l l.length) G (shX_k105 hx) (shX_n105 hx) (fun i hi_z => hPP i (by omega)) hcm (by omega) (fun r68 e68 => ?_))
              refine t_ifne (t := 76) dX11_stands_71 (by decide) (fun h71 => ?_) (fun h71 => ?_)
              · refine n_iinc3 dX11_stands_76 (by decide) rfl (by omega) (fun r76 e76 => ?_)
                refine r_goto (t := 55) dX11_stands_79 (by decide) ?_
                refine ih _ _ (m + 1) (by omega) (by omega) (fun i hi_z => ?_) (by omega)
                rcases Nat.lt_or_ge i m with h9 | h9
                · exact hfa i h9
                · rw [show i = m by omega]
                  rcases e68 with ⟨g1, g2⟩ | ⟨g1, g2⟩
                  · exact g2
                  · omega
              · refine n_iconst dX11_stands_74 (by decide) (fun r74 e74_z => ?_)
                refine m_zret dX11_stands_75 rfl (by omega) (Nat.le_of_ble_eq_true rfl) (Nat.le_of_ble_eq_true rfl) ?_
                refine hQ hok s l hcs hcr _ f2_z (Or.inr ⟨by omega, fun h9 => ?_⟩) hqq
                rcases e68 with ⟨g1, g2⟩ | ⟨g1, g2⟩
                · omega
                · exact g2 (h9 m hml)
            · refine r_iload3 dX11_stands_55 ?_
              refine r_aloadR2 dX11_stands_56 ?_
              refine m_getV (x := (f2_z (X + 231 + 2 * x.toInt.toNat) 2)) zf_RX11_289 rfl dX11_stands_57 (shTr_k (w := w) (shX_ty hx hxk).1) (rfl) ?_
              refine t_icge (t := 82) dX11_stands_60 (by decide) (fun h60 => ?_) (fun h60 => False.elim (by omega))
              refine n_iconst dX11_stands_82 (by decide) (fun r82 e82 => ?_)
              refine m_zret dX11_stands_83 rfl (by omega) (Nat.le_of_ble_eq_true rfl) (Nat.le_of_ble_eq_true rfl) ?_
              exact hQ hok s l hcs hcr _ f2_z (Or.inl ⟨by omega, fun i hi_z => hfa i (by omega)⟩) hqq
        exact lp2 31 _ _ 0 (by omega) (by omega) (fun i hi_z => absurd hi_z (by omega)) (by omega)
  exact lp 31 _ 0 _ f (by omega) (by omega) (fun _ _ => rfl) (fun c9_z hc9 => by obtain ⟨i9_z, hi9, -⟩ := hc9; exact absurd hi9 (by omega)) (by omega)
