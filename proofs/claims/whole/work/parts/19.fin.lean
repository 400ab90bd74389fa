/-! the looks that come by folds from flat, by their keys; what is so of all of them -/
def c0_0 : List Nat := [0]
def c1_0 : List Nat := [3]
def c2_0 : List Nat := [7, 69, 103, 131, 193]
def c3_0 : List Nat := [201, 235, 263, 2187, 2373, 3273, 3307, 3335, 4171, 4419, 4449, 6153, 6187, 6401, 8199, 8385, 9285, 9347, 10309, 10371, 10401]
def c4_0 : List Nat := [6415, 6601, 7501, 7535, 7563, 8647, 14599, 69965, 69999, 70027, 76165, 78149, 79049, 104719, 104905, 105805, 105839, 105867, 106951, 112903, 133453, 133487, 133515, 141699]
def c4_1 : List Nat := [141729, 142351, 143683, 143713, 196879, 197065, 197965, 197999, 198027, 205249, 211201, 262351, 268303, 276487, 276673, 277573, 277635, 277665, 329869, 329903, 331853, 331887, 333249, 340037]
def c4_2 : List Nat := [340099, 340129, 395403, 396551, 397387, 403525, 403587, 403617, 426185, 432137, 434183, 434369, 435269, 435331, 458953, 464905, 466951, 467137, 468037, 468099, 468129]
def c5_0 : List Nat := [205265, 205299, 205327, 211465, 213449, 214349, 240019, 240205, 241105, 241139, 241167, 242251, 248203, 276999, 278983, 467153, 467187, 475399, 530703, 531851, 538887, 2238867, 2239053, 2239953]
def c5_1 : List Nat := [2239987, 2240015, 2241099, 2247051, 2437701, 2443653, 2500755, 2509125, 2510025, 2691405, 2699589, 2700489, 3350993, 3351055, 3357193, 3359177, 3360077, 3385747, 3385933, 3386833, 3386867, 3386895, 3387979, 3393931]
def c5_2 : List Nat := [3422727, 3424711, 3612881, 3621127, 3676431, 3677579, 3684615, 4270483, 4270669, 4271569, 4271603, 4271631, 4272715, 4278667, 4534355, 4534851, 4534881, 4540803, 4540833, 4555217, 4555251, 4555279, 4571151, 4606275]
def c5_3 : List Nat := [4606305, 4786571, 4796739, 4796769, 6300113, 6300147, 6300175, 6306313, 6308297, 6309197, 6334867, 6335053, 6335953, 6335987, 6336015, 6337099, 6343051, 6567953, 6567987, 6568449, 6570433, 6766849, 6816201, 6817101]
def c5_4 : List Nat := [6830337, 8395217, 8395251, 8395279, 8585681, 8585715, 8585743, 8601615, 8847879, 8863751, 8863937, 8864837, 8864899, 8864929, 8882323, 8884307, 8884803, 8884833, 8927239, 8927425, 8928325, 8928387, 8928417, 10555795]
def c5_5 : List Nat := [10555981, 10556881, 10556915, 10556943, 10619283, 10619469, 10620369, 10620403, 10620431, 10635341, 10663953, 10663987, 10664449, 10666433, 10881605, 10897477, 10897539, 10897569, 11087941, 11088003, 11088033, 12652883, 12667019, 12668167]
def c5_6 : List Nat := [12716371, 12912787, 12914771, 12915267, 12915297, 13174923, 13176071, 13176907, 13183045, 13183107, 13183137, 13205705, 13211657, 13213703, 13213889, 13214789, 13214851, 13214881, 14686481, 14686515, 14696649, 14876945, 14876979, 14942417]
def c5_7 : List Nat := [14942451, 14948369, 14948403, 14948865, 14977605, 14993477, 14993539, 14993569, 15204553, 15210505, 15212551, 15212737, 15213637, 15213699, 15213729, 16783631, 16784779, 16791815, 16974095, 16975243, 16982465, 17039567, 17045519, 17236169]
def c5_8 : List Nat := [17242121, 17244167, 17244353, 17245253, 17245315, 17245345, 17895757, 17903941, 17904841, 17959245, 17967491, 18155661, 18157645, 18221195, 18222343, 18223179, 18229317, 18229379, 18251977, 18257929, 18259975, 18260161, 18261061, 18261123]
def c5_9 : List Nat := [18944333, 18952517, 18953417, 19007821, 19016067, 19016097, 19204237, 19206221, 19269771, 19270919, 19271755, 19277893, 19277955, 19277985, 19300553, 19306505, 19308551, 19308737, 19309637, 19309699, 19309729]
def c6_0 : List Nat := [6568471, 6568657, 6569557, 6569591, 6569619, 6570703, 6576655, 6767305, 6773257, 6830359, 6838729, 6839629, 7021009, 7029193, 7030093, 7680597, 7680659, 7686797, 7688781, 7689681, 7715351, 7715537, 7716437, 7716471]
def c6_1 : List Nat := [7716499, 7717583, 7723535, 7752331, 7754315, 7942485, 7950731, 8006035, 8007183, 8014219, 8864455, 8870407, 8935879, 9126343, 14948887, 14949073, 14949973, 14950007, 14950035, 15227143, 15417607, 17244871, 17504527, 17505675]
def c6_2 : List Nat := [17512711, 23345671, 23599375, 23600523, 23607559, 71643733, 71643767, 71643795, 71649933, 71651917, 71652817, 71678487, 71678673, 71679573, 71679607, 71679635, 71680719, 71686671, 71715467, 71717451, 71905621, 71905655, 71913867, 71969171]
def c6_3 : List Nat := [71970319, 71977355, 78006917, 78008901, 78205317, 78268805, 80024149, 80024183, 80024211, 80302405, 80303305, 80320791, 80365893, 80366793, 86387333, 86416073, 86643021, 86651205, 86652105, 88420933, 88674637, 88682821, 88683721, 89342409]
def c6_4 : List Nat := [89343309, 89596113, 107231767, 107231953, 107233999, 107239951, 107430601, 107436553, 107493655, 107502025, 107502925, 107684305, 107692489, 107693389, 108343893, 108343955, 108350093, 108352077, 108352977, 108378647, 108378833, 108379733, 108379767, 108379795]
def c6_5 : List Nat := [108380879, 108386831, 108415627, 108417611, 108605781, 108614027, 108669331, 108670479, 108677515, 109527751, 109533703, 109599175, 109789639, 115612183, 115612369, 115890439, 116080903, 117908167, 118167823, 118168971, 118176007, 124008967, 124262671, 124263819]
def c6_6 : List Nat := [124270855, 136655445, 136655479, 136655507, 136661645, 136663629, 136664529, 136690199, 136690385, 136691285, 136691319, 136691347, 136692431, 136698383, 136727179, 136729163, 136917333, 136917367, 136925579, 136980883, 136982031, 136989067, 145099349, 145099383]
def c6_7 : List Nat := [145099411, 145115779, 145115809, 145117763, 145117793, 145314179, 145314209, 145377667, 145377697, 145392081, 145766935, 145767121, 145768021, 145768055, 145768083, 145769167, 145775119, 146298895, 146489359, 147411267, 147411297, 147474755, 147474785, 153496195]
def c6_8 : List Nat := [153496225, 153496599, 153749899, 153760067, 153760097, 155529795, 155529825, 155550223, 155781515, 155791683, 155791713, 201603607, 201603793, 201604693, 201604727, 201604755, 201605839, 201611791, 201802441, 201808393, 201865495, 201873865, 201874765, 202056145]
def c6_9 : List Nat := [202064329, 202065229, 202715733, 202715795, 202721933, 202723917, 202724817, 202750487, 202750673, 202751573, 202751607, 202751635, 202752719, 202758671, 202787467, 202789451, 202977621, 202985867, 203041171, 203042319, 203049355, 210174487, 210174673, 210175573]
def c6_10 : List Nat := [210175607, 210175635, 210191041, 210196993, 210262465, 210452929, 216553729, 216744193, 218571457, 218825161, 218826061, 218839297, 224672257, 224920009, 224920909, 224934145, 268646935, 268647121, 268648021, 268648055, 268648083, 268649167, 268655119, 274741783]
def c6_11 : List Nat := [274741969, 274742869, 274742903, 274742931, 274744015, 274749967, 275273743, 275464207, 283132615, 283138567, 283640023, 283645975, 283662343, 283662529, 283663429, 283663491, 283663521, 283852807, 283852993, 283853893, 283853955, 283853985, 284234325, 284234359]
def c6_12 : List Nat := [284234387, 284297813, 284297847, 284297875, 284314243, 284314273, 284314647, 284316227, 284316257, 284821651, 284823635, 285947911, 285948097, 285948997, 285949059, 285949089, 291510799, 291701263, 292042759, 292042945, 292043845, 292043907, 292043937, 337785429]
def c6_13 : List Nat := [337785463, 337785491, 337791629, 337793613, 337794513, 337820183, 337820369, 337821269, 337821303, 337821331, 337822415, 337828367, 339817045, 339817079, 339817107, 339823245, 339825229, 339826129, 339851799, 339851985, 339852885, 339852919, 339852947, 339854031]
def c6_14 : List Nat := [339859983, 340349005, 340412493, 340441105, 341246487, 341246673, 341247573, 341247607, 341247635, 341263041, 341268993, 341334465, 341524929, 348211845, 348213829, 348719253, 348719287, 348721237, 348721271, 348722881, 348737605, 348737667, 348737697, 348801093]
def c6_15 : List Nat := [348801155, 348801185, 355086405, 355086467, 355086497, 356586061, 356586961, 356649549, 356650449, 356694529, 357118021, 357118083, 357118113, 404892245, 404892279, 404892307, 405360779, 405361927, 405381335, 405424267, 405425415, 406923861, 406923895, 406923923]
def c6_16 : List Nat := [413209173, 413209207, 413209235, 413272661, 413272695, 413272723, 413289091, 413289121, 413289495, 413291075, 413291105, 413796499, 413798483, 421597835, 421634759, 421661323, 422185099, 422186247, 422187083, 422193221, 422193283, 422193313, 422215881, 422221833]
def c6_17 : List Nat := [422223879, 422224065, 422224965, 422225027, 422225057, 422582551, 422773015, 422838487, 422844439, 422860807, 422860993, 422861893, 422861955, 422861985, 424216715, 424217863, 424218699, 424224837, 424224899, 424224929, 424247497, 424253449, 424255495, 424255681]
def c6_18 : List Nat := [424256581, 424256643, 424256673, 469967383, 469967569, 469968469, 469968503, 469968531, 470309065, 470499529, 476062231, 476062417, 476063317, 476063351, 476063379, 478157335, 478157521, 478158421, 478158455, 478158483, 478347799, 478347985, 478348885, 478348919]
def c6_19 : List Nat := [478348947, 478364353, 478370305, 478871761, 478877713, 479283845, 479285829, 479791253, 479791287, 479793237, 479793271, 479794881, 479809605, 479809667, 479809697, 479873093, 479873155, 479873185, 486546121, 486736585, 487260361, 487266313, 487268359, 487268545]
def c6_20 : List Nat := [487269445, 487269507, 487269537, 493355209, 493361161, 493363207, 493363393, 493364293, 493364355, 493364385, 537076183, 537090319, 537091467, 537338071, 543171031, 543185167, 543186315, 543438871, 545266135, 545456599, 551557399, 551747863, 551813335, 551819287]
def c6_21 : List Nat := [551835655, 551835841, 551836741, 551836803, 551836833, 559945999, 559947147, 559954183, 560136463, 560137611, 560144833, 560201935, 560207887, 560398537, 560404489, 560406535, 560406721, 560407621, 560407683, 560407713, 561058125, 561066309, 561067209, 561121613]
def c6_22 : List Nat := [561129859, 561318029, 561320013, 561383563, 561384711, 561385547, 561391685, 561391747, 561414345, 561420297, 561422343, 561422529, 561423429, 561423491, 561423521, 606218645, 606218679, 606228813, 606480533, 606480567, 606525641, 608250261, 608250295, 608260429]
def c6_23 : List Nat := [608514133, 608514167, 608515777, 614535573, 614535607, 614599061, 614599095, 616632661, 616632695, 616683783, 616696149, 616696183, 616892565, 616892599, 616894549, 616894583, 616910917, 616910979, 616911009, 617618121, 617808585, 618332361, 618338313, 618340359]
def c6_24 : List Nat := [618340545, 618341445, 618341507, 618341537, 625021261, 625029445, 625030345, 625084749, 625092995, 625093025, 625281165, 625283149, 625346699, 625347847, 625348683, 625354821, 625354883, 625354913, 625377481, 625383433, 625385479, 625385665, 625386565, 625386627]
def c6_25 : List Nat := [625386657, 673327507, 673328655, 673335691, 673589395, 674511367, 674765071, 674766219, 675359123, 675360271, 675367307, 675622995, 675659791, 681644435, 681645583, 681707923, 681709071, 681755073, 681986117, 681986179, 681986209, 683741523, 683805011, 684001427]
def c6_26 : List Nat := [684003411, 690032973, 690041157, 690042057, 690096461, 690104707, 690104737, 690292877, 690294861, 690358411, 690359559, 690360395, 690366533, 690366595, 690366625, 690389193, 690395145, 690397191, 690397377, 690398277, 690398339, 690398369, 704848337, 704856521]
def c6_27 : List Nat := [704857421, 705110225, 710943185, 710951369, 710952269, 711211025, 713038289, 713228753, 713506823, 713507009, 719329553, 719520017, 719585489, 719591441, 721426703, 721427851, 721434887, 721617167, 721618315, 721625537, 721682639, 721688591, 721879241, 721885193]
def c6_28 : List Nat := [721887239, 721887425, 722538829, 722547013, 722547913, 722602317, 722610563, 722798733, 722800717, 722864267, 722865415, 722866251, 722872389, 722872451, 722895049, 722901001, 722903047, 722903233, 722904133, 722904195, 738402769, 738410953, 738411853, 738664657]
def c6_29 : List Nat := [744497617, 744505801, 744506701, 744765457, 746592721, 746783185, 747061255, 747061441, 747062341, 747062403, 747062433, 752883985, 753074449, 753139921, 753145873, 754981135, 754982283, 754989319, 755171599, 755172747, 755179969, 755237071, 755243023, 755433673]
def c6_30 : List Nat := [755439625, 755441671, 755441857, 755442757, 755442819, 755442849, 756093261, 756101445, 756102345, 756156749, 756164995, 756353165, 756355149, 756418699, 756419847, 756420683, 756426821, 756426883, 756449481, 756455433, 756457479, 756457665, 756458565, 756458627]
def c6_31 : List Nat := [756458657]
def fnT : Nat → List (Nat × List Nat)
  | 0 => [(0, c0_0)]
  | 1 => [(3, c1_0)]
  | 2 => [(193, c2_0)]
  | 3 => [(10401, c3_0)]
  | 4 => [(141699, c4_0), (340037, c4_1), (468129, c4_2)]
  | 5 => [(2239953, c5_0), (3393931, c5_1), (4606275, c5_2), (6817101, c5_3), (10555795, c5_4), (12668167, c5_5), (14942417, c5_6), (17236169, c5_7), (18261123, c5_8), (19309729, c5_9)]
  | 6 => [(7716471, c6_0), (17505675, c6_1), (71969171, c6_2), (89342409, c6_3), (108379795, c6_4), (124263819, c6_5), (145099383, c6_6), (153496195, c6_7), (202056145, c6_8), (210175573, c6_9), (274741783, c6_10), (284234359, c6_11), (337785429, c6_12), (339854031, c6_13), (348801093, c6_14), (406923923, c6_15), (422221833, c6_16), (424255681, c6_17), (478348919, c6_18), (487268545, c6_19), (551819287, c6_20), (561121613, c6_21), (608260429, c6_22), (618340359, c6_23), (625386627, c6_24), (684001427, c6_25), (704856521, c6_26), (721885193, c6_27), (738664657, c6_28), (755433673, c6_29), (756458627, c6_30), (756458657, c6_31)]
  | _ => []
def inT : List (Nat × List Nat) → Nat → Bool
  | [], _ => false
  | q :: t, k => cond (Nat.ble k q.1) (q.2.elem k) (inT t k)
theorem inT_mem {t : List (Nat × List Nat)} {k : Nat} (h : inT t k = true) : ∃ q ∈ t, k ∈ q.2 := by
  induction t with
  | nil => cases h
  | cons q t ih =>
    unfold inT at h
    cases hb : Nat.ble k q.1 with
    | true => rw [hb] at h; exact ⟨q, List.mem_cons_self, List.elem_iff.mp h⟩
    | false =>
      rw [hb] at h
      obtain ⟨r, h1, h2⟩ := ih h
      exact ⟨r, List.mem_cons_of_mem _ h1, h2⟩
def fnM (n k : Nat) : Prop := ∃ q ∈ fnT n, k ∈ q.2
def unLay (n k : Nat) : zLy := (unK (nI k) n ([], [])).1
def rch (n : Nat) (L : zLy) : Prop := ∃ k, fnM n k ∧ L = unLay n k
theorem fnM_le {n k : Nat} (h : fnM n k) : n ≤ 6 := by
  match n, h with
  | 0, _ => decide
  | 1, _ => decide
  | 2, _ => decide
  | 3, _ => decide
  | 4, _ => decide
  | 5, _ => decide
  | 6, _ => decide
  | n + 7, h => obtain ⟨q, hq, -⟩ := h; exact absurd hq List.not_mem_nil
def ckKey (n k : Nat) : Bool := decide ((unK (nI k) n ([], [])).2 = []) && decide (lyKey (unLay n k) = nI k)
def ckFold (n : Nat) (L : zLy) : Bool := (List.range L.length).all (fun line => line == 0 || (List.range 4).all (fun way => inT (fnT n) (lyKey (lyFold L line way)).toNatClampNeg && decide (unLay n (lyKey (lyFold L line way)).toNatClampNeg = lyFold L line way)))
def ckCell (n : Nat) (L : zLy) : Bool := decide (L.flatten.length = n) && (L.flatten.all (fun p => decide (p.1 < n)) && ((List.range n).all (fun c => decide (0 ≤ lyPlace L (c : Nat))) && (L.all (fun col => !col.isEmpty) && decide (L.length ≤ n))))
def ckA (n k : Nat) : Bool := ckKey n k && (ckFold n (unLay n k) && ckCell n (unLay n k))
theorem ckA_0_0 : c0_0.all (ckA 0) = true := by decide +kernel
theorem ckA_1_0 : c1_0.all (ckA 1) = true := by decide +kernel
theorem ckA_2_0 : c2_0.all (ckA 2) = true := by decide +kernel
theorem ckA_3_0 : c3_0.all (ckA 3) = true := by decide +kernel
theorem ckA_4_0 : c4_0.all (ckA 4) = true := by decide +kernel
theorem ckA_4_1 : c4_1.all (ckA 4) = true := by decide +kernel
theorem ckA_4_2 : c4_2.all (ckA 4) = true := by decide +kernel
theorem ckA_5_0 : c5_0.all (ckA 5) = true := by decide +kernel
theorem ckA_5_1 : c5_1.all (ckA 5) = true := by decide +kernel
theorem ckA_5_2 : c5_2.all (ckA 5) = true := by decide +kernel
theorem ckA_5_3 : c5_3.all (ckA 5) = true := by decide +kernel
theorem ckA_5_4 : c5_4.all (ckA 5) = true := by decide +kernel
theorem ckA_5_5 : c5_5.all (ckA 5) = true := by decide +kernel
theorem ckA_5_6 : c5_6.all (ckA 5) = true := by decide +kernel
theorem ckA_5_7 : c5_7.all (ckA 5) = true := by decide +kernel
theorem ckA_5_8 : c5_8.all (ckA 5) = true := by decide +kernel
theorem ckA_5_9 : c5_9.all (ckA 5) = true := by decide +kernel
theorem ckA_6_0 : c6_0.all (ckA 6) = true := by decide +kernel
theorem ckA_6_1 : c6_1.all (ckA 6) = true := by decide +kernel
theorem ckA_6_2 : c6_2.all (ckA 6) = true := by decide +kernel
theorem ckA_6_3 : c6_3.all (ckA 6) = true := by decide +kernel
theorem ckA_6_4 : c6_4.all (ckA 6) = true := by decide +kernel
theorem ckA_6_5 : c6_5.all (ckA 6) = true := by decide +kernel
theorem ckA_6_6 : c6_6.all (ckA 6) = true := by decide +kernel
theorem ckA_6_7 : c6_7.all (ckA 6) = true := by decide +kernel
theorem ckA_6_8 : c6_8.all (ckA 6) = true := by decide +kernel
theorem ckA_6_9 : c6_9.all (ckA 6) = true := by decide +kernel
theorem ckA_6_10 : c6_10.all (ckA 6) = true := by decide +kernel
theorem ckA_6_11 : c6_11.all (ckA 6) = true := by decide +kernel
theorem ckA_6_12 : c6_12.all (ckA 6) = true := by decide +kernel
theorem ckA_6_13 : c6_13.all (ckA 6) = true := by decide +kernel
theorem ckA_6_14 : c6_14.all (ckA 6) = true := by decide +kernel
theorem ckA_6_15 : c6_15.all (ckA 6) = true := by decide +kernel
theorem ckA_6_16 : c6_16.all (ckA 6) = true := by decide +kernel
theorem ckA_6_17 : c6_17.all (ckA 6) = true := by decide +kernel
theorem ckA_6_18 : c6_18.all (ckA 6) = true := by decide +kernel
theorem ckA_6_19 : c6_19.all (ckA 6) = true := by decide +kernel
theorem ckA_6_20 : c6_20.all (ckA 6) = true := by decide +kernel
theorem ckA_6_21 : c6_21.all (ckA 6) = true := by decide +kernel
theorem ckA_6_22 : c6_22.all (ckA 6) = true := by decide +kernel
theorem ckA_6_23 : c6_23.all (ckA 6) = true := by decide +kernel
theorem ckA_6_24 : c6_24.all (ckA 6) = true := by decide +kernel
theorem ckA_6_25 : c6_25.all (ckA 6) = true := by decide +kernel
theorem ckA_6_26 : c6_26.all (ckA 6) = true := by decide +kernel
theorem ckA_6_27 : c6_27.all (ckA 6) = true := by decide +kernel
theorem ckA_6_28 : c6_28.all (ckA 6) = true := by decide +kernel
theorem ckA_6_29 : c6_29.all (ckA 6) = true := by decide +kernel
theorem ckA_6_30 : c6_30.all (ckA 6) = true := by decide +kernel
theorem ckA_6_31 : c6_31.all (ckA 6) = true := by decide +kernel
theorem ckA_all {n k : Nat} (h : fnM n k) : ckA n k = true := by
  have h6 := fnM_le h
  obtain ⟨q, h1, h2⟩ := h
  match n, h6, h1 with
  | 0, _, h1 =>
    have e : (fnT 0).all (fun q => q.2.all (ckA 0)) = true := by
      show ((c0_0.all (ckA 0) && true)) = true
      rw [ckA_0_0]
      rfl
    exact List.all_eq_true.mp (List.all_eq_true.mp e q h1) k h2
  | 1, _, h1 =>
    have e : (fnT 1).all (fun q => q.2.all (ckA 1)) = true := by
      show ((c1_0.all (ckA 1) && true)) = true
      rw [ckA_1_0]
      rfl
    exact List.all_eq_true.mp (List.all_eq_true.mp e q h1) k h2
  | 2, _, h1 =>
    have e : (fnT 2).all (fun q => q.2.all (ckA 2)) = true := by
      show ((c2_0.all (ckA 2) && true)) = true
      rw [ckA_2_0]
      rfl
    exact List.all_eq_true.mp (List.all_eq_true.mp e q h1) k h2
  | 3, _, h1 =>
    have e : (fnT 3).all (fun q => q.2.all (ckA 3)) = true := by
      show ((c3_0.all (ckA 3) && true)) = true
      rw [ckA_3_0]
      rfl
    exact List.all_eq_true.mp (List.all_eq_true.mp e q h1) k h2
  | 4, _, h1 =>
    have e : (fnT 4).all (fun q => q.2.all (ckA 4)) = true := by
      show ((c4_0.all (ckA 4) && (c4_1.all (ckA 4) && (c4_2.all (ckA 4) && true)))) = true
      rw [ckA_4_0, ckA_4_1, ckA_4_2]
      rfl
    exact List.all_eq_true.mp (List.all_eq_true.mp e q h1) k h2
  | 5, _, h1 =>
    have e : (fnT 5).all (fun q => q.2.all (ckA 5)) = true := by
      show ((c5_0.all (ckA 5) && (c5_1.all (ckA 5) && (c5_2.all (ckA 5) && (c5_3.all (ckA 5) && (c5_4.all (ckA 5) && (c5_5.all (ckA 5) && (c5_6.all (ckA 5) && (c5_7.all (ckA 5) && (c5_8.all (ckA 5) && (c5_9.all (ckA 5) && true))))))))))) = true
      rw [ckA_5_0, ckA_5_1, ckA_5_2, ckA_5_3, ckA_5_4, ckA_5_5, ckA_5_6, ckA_5_7, ckA_5_8, ckA_5_9]
      rfl
    exact List.all_eq_true.mp (List.all_eq_true.mp e q h1) k h2
  | 6, _, h1 =>
    have e : (fnT 6).all (fun q => q.2.all (ckA 6)) = true := by
      show ((c6_0.all (ckA 6) && (c6_1.all (ckA 6) && (c6_2.all (ckA 6) && (c6_3.all (ckA 6) && (c6_4.all (ckA 6) && (c6_5.all (ckA 6) && (c6_6.all (ckA 6) && (c6_7.all (ckA 6) && (c6_8.all (ckA 6) && (c6_9.all (ckA 6) && (c6_10.all (ckA 6) && (c6_11.all (ckA 6) && (c6_12.all (ckA 6) && (c6_13.all (ckA 6) && (c6_14.all (ckA 6) && (c6_15.all (ckA 6) && (c6_16.all (ckA 6) && (c6_17.all (ckA 6) && (c6_18.all (ckA 6) && (c6_19.all (ckA 6) && (c6_20.all (ckA 6) && (c6_21.all (ckA 6) && (c6_22.all (ckA 6) && (c6_23.all (ckA 6) && (c6_24.all (ckA 6) && (c6_25.all (ckA 6) && (c6_26.all (ckA 6) && (c6_27.all (ckA 6) && (c6_28.all (ckA 6) && (c6_29.all (ckA 6) && (c6_30.all (ckA 6) && (c6_31.all (ckA 6) && true))))))))))))))))))))))))))))))))) = true
      rw [ckA_6_0, ckA_6_1, ckA_6_2, ckA_6_3, ckA_6_4, ckA_6_5, ckA_6_6, ckA_6_7, ckA_6_8, ckA_6_9, ckA_6_10, ckA_6_11, ckA_6_12, ckA_6_13, ckA_6_14, ckA_6_15, ckA_6_16, ckA_6_17, ckA_6_18, ckA_6_19, ckA_6_20, ckA_6_21, ckA_6_22, ckA_6_23, ckA_6_24, ckA_6_25, ckA_6_26, ckA_6_27, ckA_6_28, ckA_6_29, ckA_6_30, ckA_6_31]
      rfl
    exact List.all_eq_true.mp (List.all_eq_true.mp e q h1) k h2
  | n + 7, h6, _ => exact absurd h6 (by omega)
theorem fnF_0 : inT (fnT 0) (lyKey (lyFlat 0)).toNatClampNeg = true ∧ unLay 0 (lyKey (lyFlat 0)).toNatClampNeg = lyFlat 0 := by decide +kernel
theorem fnF_1 : inT (fnT 1) (lyKey (lyFlat 1)).toNatClampNeg = true ∧ unLay 1 (lyKey (lyFlat 1)).toNatClampNeg = lyFlat 1 := by decide +kernel
theorem fnF_2 : inT (fnT 2) (lyKey (lyFlat 2)).toNatClampNeg = true ∧ unLay 2 (lyKey (lyFlat 2)).toNatClampNeg = lyFlat 2 := by decide +kernel
theorem fnF_3 : inT (fnT 3) (lyKey (lyFlat 3)).toNatClampNeg = true ∧ unLay 3 (lyKey (lyFlat 3)).toNatClampNeg = lyFlat 3 := by decide +kernel
theorem fnF_4 : inT (fnT 4) (lyKey (lyFlat 4)).toNatClampNeg = true ∧ unLay 4 (lyKey (lyFlat 4)).toNatClampNeg = lyFlat 4 := by decide +kernel
theorem fnF_5 : inT (fnT 5) (lyKey (lyFlat 5)).toNatClampNeg = true ∧ unLay 5 (lyKey (lyFlat 5)).toNatClampNeg = lyFlat 5 := by decide +kernel
theorem fnF_6 : inT (fnT 6) (lyKey (lyFlat 6)).toNatClampNeg = true ∧ unLay 6 (lyKey (lyFlat 6)).toNatClampNeg = lyFlat 6 := by decide +kernel
theorem rch_le {n : Nat} {L : zLy} (h : rch n L) : n ≤ 6 := by
  obtain ⟨k, hk, -⟩ := h
  exact fnM_le hk
theorem rch_a {n k : Nat} (h : fnM n k) : ckKey n k = true ∧ ckFold n (unLay n k) = true ∧ ckCell n (unLay n k) = true := by
  have := ckA_all h
  unfold ckA at this
  rw [Bool.and_eq_true, Bool.and_eq_true] at this
  exact this
theorem rch_key {n : Nat} {L : zLy} (h : rch n L) : unK (lyKey L) n ([], []) = (L, []) := by
  obtain ⟨k, hk, rfl⟩ := h
  have := (rch_a hk).1
  unfold ckKey at this
  rw [Bool.and_eq_true, decide_eq_true_iff, decide_eq_true_iff] at this
  rw [this.2]
  exact Prod.ext rfl this.1
theorem rch_inj {n : Nat} {L L2 : zLy} (h : rch n L) (h2 : rch n L2) (e : lyKey L = lyKey L2) : L = L2 := by
  have e1 := rch_key h
  rw [e, rch_key h2] at e1
  exact (congrArg Prod.fst e1).symm
theorem rch_fold {n line way : Nat} {L : zLy} (h : rch n L) (h1 : 1 ≤ line) (h2 : line < L.length) (h3 : way < 4) : rch n (lyFold L line way) := by
  obtain ⟨k, hk, rfl⟩ := h
  have := (rch_a hk).2.1
  unfold ckFold at this
  have a := List.all_eq_true.mp this line (List.mem_range.mpr h2)
  rw [Bool.or_eq_true, beq_iff_eq] at a
  have b := List.all_eq_true.mp (a.resolve_left (by omega)) way (List.mem_range.mpr h3)
  rw [Bool.and_eq_true, decide_eq_true_iff] at b
  exact ⟨_, inT_mem b.1, b.2.symm⟩
theorem rch_cell {n : Nat} {L : zLy} (h : rch n L) : L.flatten.length = n ∧ (∀ p ∈ L.flatten, p.1 < n) ∧ hasLay n L ∧ (∀ col ∈ L, col ≠ []) ∧ L.length ≤ n := by
  obtain ⟨k, hk, rfl⟩ := h
  have := (rch_a hk).2.2
  generalize unLay n k = L at this
  unfold ckCell at this
  rw [Bool.and_eq_true, Bool.and_eq_true, Bool.and_eq_true, Bool.and_eq_true, decide_eq_true_iff, decide_eq_true_iff] at this
  obtain ⟨a, b, c, d, e⟩ := this
  refine ⟨a, fun p hp => of_decide_eq_true (List.all_eq_true.mp b p hp), fun i hi => of_decide_eq_true (List.all_eq_true.mp c i (List.mem_range.mpr hi)), fun col hc e2 => ?_, e⟩
  have := List.all_eq_true.mp d col hc
  rw [e2] at this
  exact absurd this (by decide)
theorem rch_bd {n : Nat} {L : zLy} (h : rch n L) : bdLay L := fun p hp => Nat.lt_of_lt_of_le ((rch_cell h).2.1 p hp) (rch_le h)
theorem rch_flat {n : Nat} (h : n ≤ 6) : rch n (lyFlat n) := by
  match n, h with
  | 0, _ => exact ⟨_, inT_mem fnF_0.1, fnF_0.2.symm⟩
  | 1, _ => exact ⟨_, inT_mem fnF_1.1, fnF_1.2.symm⟩
  | 2, _ => exact ⟨_, inT_mem fnF_2.1, fnF_2.2.symm⟩
  | 3, _ => exact ⟨_, inT_mem fnF_3.1, fnF_3.2.symm⟩
  | 4, _ => exact ⟨_, inT_mem fnF_4.1, fnF_4.2.symm⟩
  | 5, _ => exact ⟨_, inT_mem fnF_5.1, fnF_5.2.symm⟩
  | 6, _ => exact ⟨_, inT_mem fnF_6.1, fnF_6.2.symm⟩
  | n + 7, h => exact absurd h (by omega)
