/-! the start: its premises by their places -/
/-- a premise of a tree, by the way to it, the lowest digit first -/
def cAt : Nat → Nat → Cond → Cond
  | 0, _, c => c
  | d + 1, n, .and a b => if n % 2 = 0 then cAt d (n / 2) a else cAt d (n / 2) b
  | _ + 1, _, c => c
theorem cAt_of {args : Array Value} {s : State} : ∀ (d n : Nat) (c : Cond), c.before args s = true → (cAt d n c).before args s = true := by
  intro d
  induction d with
  | zero =>
    intro n c h_z
    unfold cAt
    exact h_z
  | succ d ih =>
    intro n c h_z
    cases c with
    | and a b =>
      rw [Cond.before_and, Bool.and_eq_true] at h_z
      unfold cAt
      by_cases h9 : n % 2 = 0
      · rw [if_pos h9]
        exact ih _ _ h_z.1
      · rw [if_neg h9]
        exact ih _ _ h_z.2
    | _ =>
      unfold cAt
      exact h_z
def cT0 : Cond := Jvm.Cond.and given_1 narrow_1
theorem nwx {args : Array Value} {s : State} (h_z : (Jvm.Cond.and given_1 narrow_1).before args s = true) {c : Cond} (n : Nat) (e : cAt 24 n cT0 = c) : c.before args s = true := by
  rw [← e]
  exact cAt_of 24 n cT0 h_z
theorem tbx {args : Array Value} {s : State} (h_z : ∀ c ∈ lw_tbl, c.before args s = true) {c : Cond} (i : Nat) (e : tables_1[i]? = some c) : c.before args s = true := h_z c (List.mem_append_right _ (List.mem_of_getElem? e))
/-- what stays: the tables but for what was resolved since, the heap as it was -/
def lST (s : State) : State → Prop := fun U => s.WarmedH U.vm ∧ ∀ q : Nat, q < s.heap.size → U.heap[q]? = s.heap[q]?
theorem lST_rf {s : State} : lST s s := ⟨State.WarmedH.refl s, fun _ _ => rfl⟩
theorem lST_ok {s : State} : zSok s.heap.size (lST s) := fun U U2 hW hq hU => ⟨State.WarmedH.trans hU.1 hW, fun q h_z => (hq q h_z).trans (hU.2 q h_z)⟩
theorem lST_A {s : State} : ∀ a : Nat, a < s.heap.size → ¬ (zA s.heap.size) a := fun a h1 h2 => absurd h1 (Nat.not_lt.mpr h2)
section LST
variable {s U : State} {C n d o : String} {v : Value} {t N : Nat} {ty : FieldType} {F : Nat → Value}
theorem lST_Z (hU : lST s U) (h_z : va_Z C n d v (zA s.heap.size) s s.heap) : va_Z C n d v (zA s.heap.size) U U.heap := (va_Z.moved hU.1.alike h_z).kept (fun a ha_z _ => hU.2 a ha_z)
theorem lST_T (hU : lST s U) (h_z : va_T ty t N F (zA s.heap.size) s s.heap) : va_T ty t N F (zA s.heap.size) U U.heap := (va_T.moved hU.1.alike h_z).kept (fun a ha_z _ => hU.2 a ha_z)
theorem lST_O (hU : lST s U) (h_z : va_O C t (zA s.heap.size) s s.heap) : va_O C t (zA s.heap.size) U U.heap := (va_O.moved hU.1.alike h_z).kept (fun a ha_z _ => hU.2 a ha_z)
theorem lST_F (hU : lST s U) (h_z : va_OF o n d v t (zA s.heap.size) s s.heap) : va_OF o n d v t (zA s.heap.size) U U.heap := (va_OF.moved hU.1.alike h_z).kept (fun a ha_z _ => hU.2 a ha_z)
theorem lST_q (hU : lST s U) (h_z : vx_Zq C n d (zA s.heap.size) s s.heap) : vx_Zq C n d (zA s.heap.size) U U.heap := (vx_Zq.moved hU.1.alike h_z).kept (fun a ha_z _ => hU.2 a ha_z)
end LST
/-- a text at the start -/
def kTs (s : State) (a v : Nat) (L : List Nat) : Prop := va_O "java/lang/String" a (zA s.heap.size) s s.heap ∧ va_OF "java/lang/String" "code\x72" "B" (.int 0) a (zA s.heap.size) s s.heap ∧ va_OF "java/lang/String" "value" "[B" (.ref v) a (zA s.heap.size) s s.heap ∧ va_T .byte v L.length (fun j => .int (nI (L.getD j 0))) (zA s.heap.size) s s.heap
theorem kTs_of {args : Array Value} {s : State} {tm : Term} {L : List Nat} (hlt : L.length < 1000) (hex : (Cond.exactly tm "java/lang/String").before args s = true) (hco : (Cond.eq (.field tm "java/lang/String" "code\x72" "B") (.int 0)).before args s = true) (har : (Cond.arrayOf (.field tm "java/lang/String" "value" "[B") .byte).before args s = true) (hle : (Cond.eq (.length (.field tm "java/lang/String" "value" "[B")) (.int (Int32.ofNat L.length))).before args s = true) (hel : ∀ j, j < L.length → (Cond.eq (.elem (.field tm "java/lang/String" "value" "[B") (.int (Int32.ofNat j))) (.int (nI (L.getD j 0)))).before args s = true) : ∃ a v : Nat, tm.eval args s none [] s = some (.ref a) ∧ kTs s a v L := by
  obtain ⟨a, c, cA, kA, q1_z, q2_z, q3_z, q4_z, q5_z, q6_z, -⟩ := Cond.exactly_spec (args := args) (first := s) (o := none) (s := s) (idx := []) (t := tm) (cls := "java/lang/String") hex
  obtain ⟨t, ht, hT_z⟩ := va_Tof (f := fun j => .int (nI (L.getD j 0))) (A := zA s.heap.size) (Nat.lt_trans hlt (by decide)) har (va_eqt hle) (fun j hj => va_eqt (hel j hj)) lST_A
  exact ⟨a, t, q1_z, ⟨cA, q3_z, q5_z, by rw [q6_z]; exact q2_z, lST_A a (Array.getElem?_eq_some_iff.mp q3_z).1⟩, vk_OFof q1_z (va_eqt hco) lST_A, vk_OFof q1_z ht lST_A, hT_z⟩
theorem kTs_x {g : zGT} {s : State} {a v : Nat} {L : List Nat} (hg1 : g.2.2.1 = s.heap.size) (hg2 : g.2.2.2 = lST s) (hlt : L.length < 1000) (hch : ∀ x ∈ L, x < 128) (h_z : kTs s a v L) : kTx g a v L := by
  refine ⟨hlt, hch, fun U hU => ?_⟩
  rw [hg2] at hU
  rw [hg1]
  exact ⟨lST_O hU h_z.1, lST_F hU h_z.2.1, lST_F hU h_z.2.2.1, lST_T hU h_z.2.2.2⟩
theorem ev_x {args : Array Value} {s : State} {tm : Term} {C : String} (h_z : (Cond.exactly tm C).before args s = true) : ∃ a : Nat, tm.eval args s none [] s = some (.ref a) := by
  obtain ⟨a, c, cA, kA, q1_z, -⟩ := Cond.exactly_spec (args := args) (first := s) (o := none) (s := s) (idx := []) (t := tm) (cls := C) h_z
  exact ⟨a, q1_z⟩
def wnL : List String := ["CELL", "BACK", "GUEST", "WORTH", "HOLDS", "LIKES", "OR", "AND", "NOT", "WIDE", "HIGH", "FOLDS", "TOP", "UNDER", "HIDDEN", "WANT", "UNKNOWN"]
def wsL : List Nat := [85, 91, 94, 97, 100, 103, 106, 109, 112, 115, 118, 121, 124, 127, 130, 133, 136]
def wmL : List Nat := [223, 217, 202, 231, 237, 239, 160, 168, 170, 190, 192, 194, 196, 198, 200, 204]
def wfL : List Int32 := [-1, -1, 6, -1, -1, -1, -1, -1, -1, 0, 1, 2, 3, 4, 5, 7, -1]
def woL : List Int32 := [0, 1, 2, 3, 4, 5, 6, 7, 8, 9, 10, 11, 12, 13, 14, 15, 16]
def xLs : List Nat := [2356, 948, 1020, 2357, 980, 978, 1030, 1028, 994, 2358, 2359, 2360, 2361, 2362, 2363, 1022, 45]
def xEx : List Nat := [1937, 3617, 353, 3921, 1697, 1825, 3857, 17, 1953, 49, 689, 369, 2033, 1673, 1865, 737, 3073]
def xOr : List Nat := [3985, 289, 1377, 209, 3745, 3873, 145, 1041, 4001, 1073, 1713, 1393, 4081, 3721, 3913, 1761, 513]
def xFa : List Nat := [1105, 3361, 865, 3281, 1441, 1185, 3217, 529, 1121, 561, 433, 881, 1033, 1417, 1225, 481, 3585]
def xLe : List Nat := [81, 1313, 3425, 1233, 417, 161, 1169, 3089, 97, 3121, 3761, 3441, 9, 393, 201, 3809, 1537]
def xNe : List Nat := [0, 593, 1361, 4049, 3665, 1617, 1873, 849, 337, 1201, 625, 1521, 3849, 1609, 1993, 3409, 3153, 593, 0, 3937, 1745, 929, 673, 1681, 3601, 609, 3633, 3505, 3953, 521, 905, 713, 3553, 801, 1361, 3937, 0, 3537, 1249, 225, 3473, 785, 3297, 817, 4017, 753, 1289, 73, 1481, 4065, 1889, 4049, 1745, 3537, 0, 465, 3793, 2001, 3025, 1489, 3249, 1649, 3569, 137, 3657, 4041, 977, 721, 3665, 929, 1249, 465, 0, 2977, 401, 1297, 3681, 1329, 2993, 1265, 3593, 1929, 3785, 3041, 3489, 1617, 673, 225, 3793, 2977, 0, 3729, 273, 1633, 305, 945, 241, 1545, 2953, 1737, 993, 3233, 1873, 1681, 3473, 2001, 401, 3729, 0, 2961, 1425, 177, 3185, 497, 1801, 585, 3017, 913, 657, 849, 3601, 785, 3025, 1297, 273, 2961, 0, 3345, 3889, 1137, 3825, 777, 3145, 969, 1809, 1553, 337, 609, 3297, 1489, 3681, 1633, 1425, 3345, 0, 3377, 1969, 3313, 265, 3977, 457, 2017, 3169, 1201, 3633, 817, 3249, 1329, 305, 177, 3889, 3377, 0, 3697, 1009, 1161, 329, 41, 1841, 1585, 625, 3505, 4017, 1649, 2993, 945, 3185, 1137, 1969, 3697, 0, 3057, 3209, 1353, 1065, 113, 1457, 1521, 3953, 753, 3569, 1265, 241, 497, 3825, 3313, 1009, 3057, 0, 649, 3401, 3113, 1777, 1905, 3849, 521, 1289, 137, 3593, 1545, 1801, 777, 265, 1161, 3209, 649, 0, 841, 553, 3337, 3081, 1609, 905, 73, 3657, 1929, 2953, 585, 3145, 3977, 329, 1353, 3401, 841, 0, 1577, 1097, 3465, 1993, 713, 1481, 4041, 3785, 1737, 3017, 969, 457, 41, 1065, 3113, 553, 1577, 0, 3529, 3273, 3409, 3553, 4065, 977, 3041, 993, 913, 1809, 2017, 1841, 113, 1777, 3337, 1097, 3529, 0, 1505, 3153, 801, 1889, 721, 3489, 3233, 657, 1553, 3169, 1585, 1457, 1905, 3081, 3465, 3273, 1505, 0]
def xAl : List Nat := [1153, 3201, 641, 1665, 3713, 385, 1409, 3457, 897, 2945, 1921, 3969, 65, 1089, 3137, 577, 1601]
def xSm : List Nat := [1217, 3265, 705, 1729, 3777, 449, 1473, 3521, 961, 3009, 1985, 4033, 33, 1057, 3105, 545, 1569]
def xSx : List Nat := [1807, 199, 599, 847, 1895, 1831, 503, 119, 791, 815, 367, 31, 95, 991, 959, 567, 583]
def xSc : List Nat := [143, 711, 343, 1871, 231, 167, 1015, 631, 1815, 1839, 879, 543, 607, 2015, 1983, 311, 327]
def xSa : List Nat := [655, 455, 855, 207, 743, 679, 2039, 375, 151, 175, 1903, 287, 351, 63, 127, 823, 839]
def xSl : List Nat := [399, 967, 1879, 719, 1767, 423, 15, 887, 663, 687, 239, 799, 863, 575, 639, 1847, 1863]
def xSe : List (List Nat) := [[911, 1935, 79, 591], [1991, 39, 551, 295], [215, 727, 471, 983, 2007], [463, 975, 1999, 47, 559], [487, 999, 2023, 23, 535], [935, 1959, 103, 615, 359], [527, 271], [1911, 247, 759], [407, 919, 1943], [431, 943, 1967, 111], [751, 1775, 495, 1007], [1823, 159, 671, 415, 927], [1887, 223, 735], [319, 831, 1855, 191, 703], [383, 895, 1919, 255, 767, 1791], [183, 695, 439, 951], []]
def xGe : List Nat := [1285, 3333, 773, 1797, 3845, 133, 1157, 3205, 645, 1669, 3717, 389]
def xMe : List Nat := [335, 807, 55, 303, 279, 871, 783, 1783, 87, 623, 2031, 1951, 479, 447, 511, 1975]
def xMt : List Nat := [751, 863, 1072, 1079, 1099, 1108, 1133, 1142, 1150, 1172, 1193, 1201, 1221, 1222, 1223, 1260, 1292, 1319, 1340, 1361, 1385, 1409, 1456, 1486, 1511, 1544, 1556, 1734, 1757, 1766, 1771, 1796, 1797, 1798, 1799, 1800, 1801, 1802, 1815, 1828, 1829, 1830, 1831, 2355, 2364, 2365, 2366, 2367, 2368, 2369, 2370, 2371, 2372, 2373, 2374, 2375, 2376, 2377, 2378, 2379]
def xMx : List Nat := [1721, 517, 1413, 1861, 1445, 229, 1429, 213, 3253, 373, 1037, 77, 1837, 1133, 4077, 93, 989, 3773, 3, 963, 1763, 1171, 3027, 1907, 75, 3787, 811, 3691, 1259, 1003, 3611, 3227, 2971, 3675, 3291, 987, 3643, 699, 1979, 1403, 3323, 1019, 263, 583, 199, 1831, 1895, 791, 599, 567, 119, 503, 1807, 847, 815, 367, 31, 95, 991, 959]
set_option maxHeartbeats 4000000 in
set_option maxRecDepth 100000 in
theorem p_ls : ∀ i, i < 17 → tables_1[xLs.getD i 0]? = some (Cond.laysStatic "NapkinDeeds$Word" (wnL.getD i "") "LNapkinDeeds$Word;") := by decide +kernel
set_option maxHeartbeats 4000000 in
set_option maxRecDepth 100000 in
theorem p_ex : ∀ i, i < 17 → cAt 24 (xEx.getD i 0) cT0 = Cond.exactly (.static "NapkinDeeds$Word" (wnL.getD i "") "LNapkinDeeds$Word;") "NapkinDeeds$Word" := by decide +kernel
set_option maxHeartbeats 4000000 in
set_option maxRecDepth 100000 in
theorem p_or : ∀ i, i < 17 → cAt 24 (xOr.getD i 0) cT0 = Cond.eq (.field (.static "NapkinDeeds$Word" (wnL.getD i "") "LNapkinDeeds$Word;") "java/lang/Enum" "ordinal" "I") (.int (woL.getD i 0)) := by decide +kernel
set_option maxHeartbeats 4000000 in
set_option maxRecDepth 100000 in
theorem p_fa : ∀ i, i < 17 → cAt 24 (xFa.getD i 0) cT0 = Cond.eq (.field (.static "NapkinDeeds$Word" (wnL.getD i "") "LNapkinDeeds$Word;") "NapkinDeeds$Word" "fact" "I") (.int (wfL.getD i 0)) := by decide +kernel
set_option maxHeartbeats 4000000 in
set_option maxRecDepth 100000 in
theorem p_le : ∀ i, i < 17 → cAt 24 (xLe.getD i 0) cT0 = Cond.eq (.field (.static "NapkinDeeds$Word" (wnL.getD i "") "LNapkinDeeds$Word;") "NapkinDeeds$Word" "letters" "Ljava/lang/String;") (.string "NapkinDeeds$Word" (wsL.getD i 0)) := by decide +kernel
set_option maxHeartbeats 4000000 in
set_option maxRecDepth 100000 in
theorem p_ne : ∀ i, i < 17 → ∀ k, k < 17 → i ≠ k → cAt 24 (xNe.getD (17 * i + k) 0) cT0 = Cond.not (.eq (.static "NapkinDeeds$Word" (wnL.getD i "") "LNapkinDeeds$Word;") (.static "NapkinDeeds$Word" (wnL.getD k "") "LNapkinDeeds$Word;")) ∨ cAt 24 (xNe.getD (17 * i + k) 0) cT0 = Cond.not (.eq (.static "NapkinDeeds$Word" (wnL.getD k "") "LNapkinDeeds$Word;") (.static "NapkinDeeds$Word" (wnL.getD i "") "LNapkinDeeds$Word;")) := by decide +kernel
set_option maxHeartbeats 4000000 in
set_option maxRecDepth 100000 in
theorem p_al : ∀ i, i < 17 → cAt 24 (xAl.getD i 0) cT0 = Cond.eq (.elem (.static "NapkinDeeds$Word" "ALL" "[LNapkinDeeds$Word;") (.int (Int32.ofNat i))) (.static "NapkinDeeds$Word" (wnL.getD i "") "LNapkinDeeds$Word;") := by decide +kernel
set_option maxHeartbeats 4000000 in
set_option maxRecDepth 100000 in
theorem p_sm : ∀ i, i < 17 → cAt 24 (xSm.getD i 0) cT0 = Cond.eq (.elem (.static "NapkinDeeds$1" "$SwitchMap$NapkinDeeds$Word" "[I") (.int (Int32.ofNat i))) (.int (smI i)) := by decide +kernel
set_option maxHeartbeats 4000000 in
set_option maxRecDepth 100000 in
theorem p_sx : ∀ i, i < 17 → cAt 24 (xSx.getD i 0) cT0 = Cond.exactly (.string "NapkinDeeds$Word" (wsL.getD i 0)) "java/lang/String" := by decide +kernel
set_option maxHeartbeats 4000000 in
set_option maxRecDepth 100000 in
theorem p_sc : ∀ i, i < 17 → cAt 24 (xSc.getD i 0) cT0 = Cond.eq (.field (.string "NapkinDeeds$Word" (wsL.getD i 0)) "java/lang/String" "code\x72" "B") (.int 0) := by decide +kernel
set_option maxHeartbeats 4000000 in
set_option maxRecDepth 100000 in
theorem p_sa : ∀ i, i < 17 → cAt 24 (xSa.getD i 0) cT0 = Cond.arrayOf (.field (.string "NapkinDeeds$Word" (wsL.getD i 0)) "java/lang/String" "value" "[B") .byte := by decide +kernel
set_option maxHeartbeats 4000000 in
set_option maxRecDepth 100000 in
theorem p_sl : ∀ i, i < 17 → cAt 24 (xSl.getD i 0) cT0 = Cond.eq (.length (.field (.string "NapkinDeeds$Word" (wsL.getD i 0)) "java/lang/String" "value" "[B")) (.int (Int32.ofNat (wdL.getD i []).length)) := by decide +kernel
set_option maxHeartbeats 4000000 in
set_option maxRecDepth 100000 in
theorem p_se : ∀ i, i < 17 → ∀ k, k < (wdL.getD i []).length → cAt 24 ((xSe.getD i []).getD k 0) cT0 = Cond.eq (.elem (.field (.string "NapkinDeeds$Word" (wsL.getD i 0)) "java/lang/String" "value" "[B") (.int (Int32.ofNat k))) (.int (nI ((wdL.getD i []).getD k 0))) := by decide +kernel
set_option maxHeartbeats 4000000 in
set_option maxRecDepth 100000 in
theorem p_gs : cAt 24 517 cT0 = Cond.exactly (.string RX5 242) "java/lang/String" ∧ cAt 24 1541 cT0 = Cond.eq (.field (.string RX5 242) "java/lang/String" "code\x72" "B") (.int 0) ∧ cAt 24 3589 cT0 = Cond.arrayOf (.field (.string RX5 242) "java/lang/String" "value" "[B") .byte ∧ cAt 24 261 cT0 = Cond.eq (.length (.field (.string RX5 242) "java/lang/String" "value" "[B")) (.int (Int32.ofNat sgL.length)) := by decide +kernel
set_option maxHeartbeats 4000000 in
set_option maxRecDepth 100000 in
theorem p_ge : ∀ k, k < sgL.length → cAt 24 (xGe.getD k 0) cT0 = Cond.eq (.elem (.field (.string RX5 242) "java/lang/String" "value" "[B") (.int (Int32.ofNat k))) (.int (nI (sgL.getD k 0))) := by decide +kernel
set_option maxHeartbeats 4000000 in
set_option maxRecDepth 100000 in
theorem p_me : ∀ e ∈ kLt, e.2.2 < 16 ∧ wmL.getD e.2.2 0 = e.1 ∧ cAt 24 (xMe.getD e.2.2 0) cT0 = Cond.eq (.string RX12 e.1) (.string "NapkinDeeds$Word" (wsL.getD e.2.2 0)) ∧ (RX12, e.1, e.2.1) ∈ zMsg := by decide +kernel
set_option maxHeartbeats 4000000 in
set_option maxRecDepth 100000 in
theorem p_mt : ∀ i, i < zMsg.length → tables_1[xMt.getD i 0]? = some (Cond.stringRef (zMsg.getD i ("", 0, "")).1 (zMsg.getD i ("", 0, "")).2.1 (zMsg.getD i ("", 0, "")).2.2) ∧ cAt 24 (xMx.getD i 0) cT0 = Cond.exactly (.string (zMsg.getD i ("", 0, "")).1 (zMsg.getD i ("", 0, "")).2.1) "java/lang/String" := by decide +kernel
set_option maxHeartbeats 4000000 in
set_option maxRecDepth 100000 in
theorem p_w : (∀ i, i < 17 → (wdL.getD i []).length < 1000 ∧ ∀ x ∈ wdL.getD i [], x < 128) ∧ (sgL.length < 1000 ∧ ∀ x ∈ sgL, x < 128) ∧ (∀ i, i < 17 → wfL.getD i 0 = fcI i ∧ woL.getD i 0 = nI i) ∧ ∀ e ∈ kWs, e.2 < 17 ∧ wnL.getD e.2 "" = e.1 := by decide +kernel
