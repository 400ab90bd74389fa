/-! the looks by how many folds lead to them from flat -/
def v0_0_0 : List Nat := [0]
def v1_0_0 : List Nat := [3]
def v2_0_0 : List Nat := [103]
def v2_1_0 : List Nat := [7, 69, 131, 193]
def v3_0_0 : List Nat := [3307]
def v3_1_0 : List Nat := [235, 3273, 3335, 4449, 6187, 9285, 9347, 10401]
def v3_2_0 : List Nat := [201, 263, 2187, 2373, 4171, 4419, 6153, 6401, 8199, 8385, 10309, 10371]
def v4_0_0 : List Nat := [105839]
def v4_1_0 : List Nat := [7535, 79049, 105805, 105867, 142351, 197999, 277665, 333249, 396551, 435269, 435331, 468129]
def v4_2_0 : List Nat := [7501, 7563, 14599, 69999, 78149, 104719, 104905, 106951, 112903, 133487, 141699, 141729, 143713, 197965, 198027, 205249, 268303, 277573, 277635, 329903, 331853, 331887, 340129, 395403]
def v4_2_1 : List Nat := [403617, 426185, 432137, 434183, 434369, 458953, 468037, 468099]
def v4_3_0 : List Nat := [6415, 6601, 8647, 14599, 69965, 70027, 76165, 78149, 133453, 133515, 141699, 143683, 196879, 197065, 205249, 211201, 262351, 268303, 276487, 276673, 329869, 331853, 340037, 340099]
def v4_3_1 : List Nat := [395403, 397387, 403525, 403587, 458953, 464905, 466951, 467137]
def v5_0_0 : List Nat := [3386867]
def v5_1_0 : List Nat := [241139, 3360077, 3386833, 3386895, 3677579, 4555251, 6335987, 8884833, 10663987, 13214881, 14993569, 17904841, 18222343, 18261061, 18261123, 19309729]
def v5_2_0 : List Nat := [214349, 241105, 241167, 467187, 531851, 2239987, 2510025, 2700489, 3359177, 3385747, 3385933, 3387979, 3393931, 3422727, 3612881, 3676431, 4271603, 4555217, 4555279, 4571151, 4796769, 6309197, 6335953, 6336015]
def v5_2_1 : List Nat := [6567987, 6817101, 8585715, 8864929, 8882323, 8884307, 8884803, 8928417, 10556915, 10620403, 10663953, 10664449, 10666433, 10897569, 12668167, 12915297, 13176071, 13214789, 13214851, 14686515, 14977605, 14993477, 14993539, 15213729]
def v5_2_2 : List Nat := [16784779, 16975243, 17245345, 17903941, 17967491, 18157645, 18221195, 18251977, 18257929, 18259975, 18260161, 18953417, 19016097, 19270919, 19309637, 19309699]
def v5_3_0 : List Nat := [205299, 213449, 240019, 240205, 242251, 248203, 276999, 467153, 475399, 530703, 538887, 2239953, 2240015, 2247051, 2437701, 2500755, 2509125, 2691405, 2699589, 3350993, 3351055, 3357193, 3359177, 3422727]
def v5_3_1 : List Nat := [3424711, 3621127, 3684615, 4271569, 4271631, 4278667, 4534355, 4534851, 4534881, 4540803, 4540833, 4606305, 4786571, 4796739, 4796769, 6300147, 6308297, 6334867, 6335053, 6337099, 6343051, 6567953, 6568449, 6570433]
def v5_3_2 : List Nat := [6816201, 6830337, 8395251, 8585681, 8585715, 8585743, 8601615, 8847879, 8863751, 8863937, 8864837, 8864899, 8928325, 8928387, 10556881, 10556943, 10619283, 10619469, 10620369, 10620431, 10635341, 10881605, 10897477, 10897539]
def v5_3_3 : List Nat := [10897569, 11088033, 12652883, 12667019, 12912787, 12914771, 12915267, 13174923, 13183137, 13205705, 13211657, 13213703, 13213889, 14686481, 14686515, 14696649, 14876979, 14942417, 14942451, 14948369, 14948403, 14948865, 15204553, 15213637]
def v5_3_4 : List Nat := [15213699, 16783631, 16791815, 16974095, 16982465, 17045519, 17236169, 17245253, 17245315, 17895757, 17959245, 18155661, 18157645, 18221195, 18223179, 18229317, 18229379, 18944333, 18952517, 19007821, 19016067, 19206221, 19269771, 19277985]
def v5_3_5 : List Nat := [19300553, 19306505, 19308551, 19308737]
def v5_4_0 : List Nat := [205265, 205327, 211465, 213449, 276999, 278983, 475399, 538887, 2238867, 2239053, 2241099, 2247051, 2437701, 2443653, 2509125, 2699589, 4270483, 4270669, 4272715, 4278667, 4534851, 4540803, 4606275, 4796739]
def v5_4_1 : List Nat := [6300113, 6300175, 6306313, 6308297, 6568449, 6570433, 6766849, 6830337, 8395217, 8395279, 8585681, 8585743, 8863751, 8863937, 8927239, 8927425, 10555795, 10555981, 10619283, 10619469, 10897477, 10897539, 11087941, 11088003]
def v5_4_2 : List Nat := [12652883, 12716371, 12912787, 12914771, 13174923, 13176907, 13183045, 13183107, 14686481, 14876945, 14942417, 14948369, 15204553, 15210505, 15212551, 15212737, 16783631, 16974095, 17039567, 17045519, 17236169, 17242121, 17244167, 17244353]
def v5_4_3 : List Nat := [18944333, 19007821, 19204237, 19206221, 19269771, 19271755, 19277893, 19277955]
def v6_0_0 : List Nat := [108379767]
def v6_1_0 : List Nat := [7716471, 89343309, 108352977, 108379733, 108379795, 108670479, 145768055, 202751607, 284314647, 341247607, 422861985, 479794881, 561423521, 618341537, 674766219, 722547913, 722865415, 722904133, 722904195, 756458657]
def v6_2_0 : List Nat := [7689681, 7716437, 7716499, 8007183, 14950007, 23600523, 71679607, 80320791, 86416073, 89342409, 89596113, 107502925, 107693389, 108352077, 108378647, 108378833, 108380879, 108386831, 108415627, 108605781, 108669331, 118168971, 124263819, 136691319]
def v6_2_1 : List Nat := [145392081, 145768021, 145768083, 153496599, 155550223, 202724817, 202751573, 202751635, 203042319, 210175607, 218826061, 274742903, 284234359, 284297847, 284314243, 284314273, 284316257, 284821651, 292043937, 337821303, 339852919, 340441105, 341247573, 341247635]
def v6_2_2 : List Nat := [348722881, 356694529, 405381335, 413289495, 421634759, 422225057, 422861893, 422861955, 424256673, 469968503, 479285829, 479791287, 479793237, 479793271, 479809697, 479873185, 487269537, 543186315, 551836833, 561067209, 561384711, 561423429, 561423491, 606525641]
def v6_2_3 : List Nat := [608515777, 616683783, 618341445, 618341507, 625386657, 674511367, 674765071, 675659791, 681755073, 690398369, 704857421, 710952269, 721427851, 721618315, 722547013, 722610563, 722800717, 722864267, 722895049, 722901001, 722903047, 722903233, 738411853, 747062433]
def v6_2_4 : List Nat := [756102345, 756419847, 756458565, 756458627]
def v6_3_0 : List Nat := [6569591, 6839629, 7030093, 7688781, 7715351, 7715537, 7717583, 7723535, 7752331, 7942485, 8006035, 14949973, 14950035, 15227143, 17244871, 17505675, 23345671, 23599375, 23600523, 71652817, 71679573, 71679635, 71905655, 71970319]
def v6_3_1 : List Nat := [80024183, 80302405, 80303305, 80366793, 86387333, 86652105, 88420933, 88674637, 88683721, 107239951, 107430601, 107493655, 107502025, 107684305, 107692489, 108343893, 108343955, 108350093, 108352077, 108415627, 108417611, 108614027, 108677515, 109527751]
def v6_3_2 : List Nat := [109533703, 109789639, 115612183, 115612369, 115890439, 117908167, 118167823, 124008967, 124262671, 136664529, 136691285, 136691347, 136917367, 136982031, 145099383, 145377667, 145377697, 145766935, 145767121, 145769167, 145775119, 146298895, 146489359, 147411297]
def v6_3_3 : List Nat := [153496195, 153496225, 153749899, 153760097, 155529795, 155529825, 155791713, 201604727, 201874765, 202065229, 202723917, 202750487, 202750673, 202752719, 202758671, 202787467, 202977621, 203041171, 210175573, 210175635, 210452929, 218571457, 218825161, 218826061]
def v6_3_4 : List Nat := [224672257, 224920909, 268648055, 274742869, 274742903, 274742931, 275464207, 283138567, 283645975, 283663521, 283853985, 284234325, 284234387, 284297813, 284297875, 284314243, 284316227, 284821651, 284823635, 285949089, 291701263, 292043845, 292043907, 292043937]
def v6_3_5 : List Nat := [337794513, 337821269, 337821331, 339817079, 339826129, 339852885, 339852947, 340412493, 341246487, 341246673, 341263041, 341268993, 341334465, 341524929, 348213829, 348719287, 348721237, 348721271, 348737697, 348801185, 356586961, 356649549, 356650449, 357118113]
def v6_3_6 : List Nat := [404892279, 405360779, 405361927, 405425415, 413209207, 413272695, 413289091, 413289121, 413291105, 413796499, 421597835, 422186247, 422193313, 422224965, 422225027, 422582551, 422773015, 422838487, 422844439, 422860807, 422860993, 424217863, 424256581, 424256643]
def v6_3_7 : List Nat := [469968469, 469968503, 469968531, 470309065, 476063351, 478158455, 478348919, 478364353, 478871761, 479283845, 479285829, 479791253, 479793237, 479809605, 479809667, 479873093, 479873155, 486546121, 487269445, 487269507, 487269537, 493364385, 537091467, 537338071]
def v6_3_8 : List Nat := [543185167, 543186315, 543438871, 551557399, 551836741, 551836803, 559947147, 560137611, 560407713, 561066309, 561129859, 561320013, 561383563, 561414345, 561420297, 561422343, 561422529, 606218679, 606480533, 606480567, 608250295, 608260429, 608514133, 608514167]
def v6_3_9 : List Nat := [614599095, 616632661, 616632695, 616911009, 617618121, 617808585, 618332361, 618338313, 618340359, 618340545, 625030345, 625093025, 625347847, 625386565, 625386627, 673328655, 673335691, 673589395, 675360271, 675622995, 681645583, 681707923, 681709071, 681986209]
def v6_3_10 : List Nat := [690042057, 690104737, 690359559, 690398277, 690398339, 704856521, 705110225, 710951369, 711211025, 713228753, 713506823, 713507009, 719329553, 719585489, 719591441, 721426703, 721434887, 721617167, 721625537, 721688591, 721879241, 722538829, 722602317, 722798733]
def v6_3_11 : List Nat := [722800717, 722864267, 722866251, 722872389, 722872451, 738410953, 738411853, 738664657, 744506701, 744765457, 746783185, 747062341, 747062403, 754982283, 755172747, 755442849, 756101445, 756164995, 756355149, 756418699, 756449481, 756455433, 756457479, 756457665]
def v6_4_0 : List Nat := [6569557, 6569619, 6576655, 6767305, 6830359, 6838729, 7021009, 7029193, 7680597, 7680659, 7686797, 7688781, 7752331, 7754315, 7950731, 8014219, 8864455, 8870407, 9126343, 14948887, 14949073, 15227143, 15417607, 17244871]
def v6_4_1 : List Nat := [17504527, 17512711, 23345671, 23599375, 23607559, 71643767, 71651917, 71678487, 71678673, 71680719, 71686671, 71715467, 71905621, 71913867, 71969171, 71977355, 78006917, 78008901, 78268805, 80024149, 80024211, 80302405, 80365893, 86387333]
def v6_4_2 : List Nat := [86643021, 86651205, 88420933, 88674637, 88682821, 107231767, 107231953, 107233999, 107239951, 107430601, 107436553, 107502025, 107692489, 109527751, 109533703, 109599175, 109789639, 115890439, 116080903, 118176007, 124270855, 136655479, 136663629, 136690199]
def v6_4_3 : List Nat := [136690385, 136692431, 136698383, 136727179, 136917333, 136925579, 136980883, 136989067, 145099349, 145099411, 145115779, 145115809, 145117763, 145117793, 145314179, 145314209, 145377667, 145377697, 147411267, 147411297, 147474785, 153496195, 153749899, 153760067]
def v6_4_4 : List Nat := [153760097, 155529795, 155781515, 155791683, 155791713, 201604693, 201604755, 201611791, 201802441, 201865495, 201873865, 202056145, 202064329, 202715733, 202715795, 202721933, 202723917, 202787467, 202789451, 202985867, 203049355, 210174487, 210174673, 210191041]
def v6_4_5 : List Nat := [210196993, 210262465, 210452929, 216553729, 218571457, 218825161, 218839297, 224672257, 224920009, 224934145, 268648021, 268648083, 268655119, 274741783, 274741969, 274742869, 274742931, 274744015, 274749967, 275273743, 275464207, 283132615, 283138567, 283640023]
def v6_4_6 : List Nat := [283645975, 283662343, 283662529, 283663429, 283663491, 283852807, 283852993, 283853893, 283853955, 285948997, 285949059, 291510799, 291701263, 292042759, 292042945, 292043845, 292043907, 337785463, 337793613, 337820183, 337820369, 337822415, 337828367, 339817045]
def v6_4_7 : List Nat := [339817079, 339817107, 339823245, 339825229, 339851799, 339851985, 339854031, 339859983, 340349005, 340412493, 348211845, 348213829, 348719253, 348721237, 348737605, 348737667, 348737697, 348801093, 348801155, 348801185, 355086497, 356586061, 356649549, 357118021]
def v6_4_8 : List Nat := [357118083, 357118113, 404892245, 404892279, 404892307, 405360779, 405424267, 406923895, 413209173, 413209207, 413209235, 413272661, 413272695, 413272723, 413289091, 413291075, 413796499, 413798483, 421597835, 421661323, 422185099, 422187083, 422193221, 422193283]
def v6_4_9 : List Nat := [422193313, 422215881, 422221833, 422223879, 422224065, 424216715, 424224929, 424247497, 424253449, 424255495, 424255681, 469967383, 469967569, 469968469, 469968531, 470309065, 470499529, 476063317, 476063379, 478157335, 478157521, 478158421, 478158483, 478347799]
def v6_4_10 : List Nat := [478347985, 478348885, 478348947, 478364353, 478370305, 478871761, 478877713, 486546121, 486736585, 487260361, 487266313, 487268359, 487268545, 487269445, 487269507, 493355209, 493364293, 493364355, 537076183, 537090319, 537338071, 543171031, 543185167, 543438871]
def v6_4_11 : List Nat := [545456599, 551557399, 551747863, 551813335, 551819287, 551835655, 551835841, 559945999, 559954183, 560136463, 560144833, 560207887, 560398537, 560407621, 560407683, 561058125, 561121613, 561318029, 561320013, 561383563, 561385547, 561391685, 561391747, 606218645]
def v6_4_12 : List Nat := [606218679, 606228813, 606480533, 608250261, 608250295, 608260429, 608514133, 614535607, 614599061, 614599095, 616632661, 616632695, 616696149, 616696183, 616892565, 616892599, 616894549, 616894583, 616910917, 616910979, 625021261, 625029445, 625084749, 625092995]
def v6_4_13 : List Nat := [625283149, 625346699, 625354913, 625377481, 625383433, 625385479, 625385665, 673327507, 673335691, 673589395, 675359123, 675367307, 675622995, 681644435, 681707923, 681986117, 681986179, 683741523, 684001427, 684003411, 690032973, 690041157, 690096461, 690104707]
def v6_4_14 : List Nat := [690294861, 690358411, 690366625, 690389193, 690395145, 690397191, 690397377, 704848337, 710943185, 713038289, 713228753, 719329553, 719520017, 719585489, 719591441, 721426703, 721617167, 721682639, 721688591, 721879241, 721885193, 721887239, 721887425, 738402769]
def v6_4_15 : List Nat := [738410953, 738664657, 744497617, 744505801, 744765457, 746592721, 746783185, 747061255, 747061441, 752883985, 753139921, 753145873, 754981135, 754989319, 755171599, 755179969, 755243023, 755433673, 755442757, 755442819, 756093261, 756156749, 756353165, 756355149]
def v6_4_16 : List Nat := [756418699, 756420683, 756426821, 756426883]
def v6_5_0 : List Nat := [6568471, 6568657, 6570703, 6576655, 6767305, 6773257, 6838729, 7029193, 8864455, 8870407, 8935879, 9126343, 15227143, 15417607, 17512711, 23607559, 71643733, 71643795, 71649933, 71651917, 71715467, 71717451, 71913867, 71977355]
def v6_5_1 : List Nat := [78006917, 78008901, 78205317, 78268805, 80302405, 80365893, 86651205, 88682821, 136655445, 136655507, 136661645, 136663629, 136727179, 136729163, 136925579, 136989067, 145115779, 145117763, 145314179, 145377667, 147411267, 147474755, 153760067, 155791683]
def v6_5_2 : List Nat := [201603607, 201603793, 201605839, 201611791, 201802441, 201808393, 201873865, 202064329, 210191041, 210196993, 210262465, 210452929, 216553729, 216744193, 218839297, 224934145, 268646935, 268647121, 268649167, 268655119, 274741783, 274741969, 274744015, 274749967]
def v6_5_3 : List Nat := [283662343, 283662529, 283852807, 283852993, 285947911, 285948097, 292042759, 292042945, 337785429, 337785491, 337791629, 337793613, 339817045, 339817107, 339823245, 339825229, 348737605, 348737667, 348801093, 348801155, 355086405, 355086467, 357118021, 357118083]
def v6_5_4 : List Nat := [404892245, 404892307, 406923861, 406923923, 413209173, 413209235, 413272661, 413272723, 422185099, 422187083, 422193221, 422193283, 424216715, 424218699, 424224837, 424224899, 469967383, 469967569, 476062231, 476062417, 478157335, 478157521, 478347799, 478347985]
def v6_5_5 : List Nat := [487260361, 487266313, 487268359, 487268545, 493355209, 493361161, 493363207, 493363393, 537076183, 543171031, 545266135, 545456599, 551557399, 551747863, 551813335, 551819287, 559945999, 560136463, 560201935, 560207887, 560398537, 560404489, 560406535, 560406721]
def v6_5_6 : List Nat := [606218645, 608250261, 614535573, 614599061, 616632661, 616696149, 616892565, 616894549, 625021261, 625084749, 625281165, 625283149, 625346699, 625348683, 625354821, 625354883, 673327507, 675359123, 681644435, 681707923, 683741523, 683805011, 684001427, 684003411]
def v6_5_7 : List Nat := [690032973, 690096461, 690292877, 690294861, 690358411, 690360395, 690366533, 690366595, 738402769, 744497617, 746592721, 746783185, 752883985, 753074449, 753139921, 753145873, 754981135, 755171599, 755237071, 755243023, 755433673, 755439625, 755441671, 755441857]
def kvT : Nat → Nat → List (Nat × List Nat)
  | 0, 0 => [(0, v0_0_0)]
  | 1, 0 => [(3, v1_0_0)]
  | 2, 0 => [(103, v2_0_0)]
  | 2, 1 => [(193, v2_1_0)]
  | 3, 0 => [(3307, v3_0_0)]
  | 3, 1 => [(10401, v3_1_0)]
  | 3, 2 => [(10371, v3_2_0)]
  | 4, 0 => [(105839, v4_0_0)]
  | 4, 1 => [(468129, v4_1_0)]
  | 4, 2 => [(395403, v4_2_0), (468099, v4_2_1)]
  | 4, 3 => [(340099, v4_3_0), (467137, v4_3_1)]
  | 5, 0 => [(3386867, v5_0_0)]
  | 5, 1 => [(19309729, v5_1_0)]
  | 5, 2 => [(6336015, v5_2_0), (15213729, v5_2_1), (19309699, v5_2_2)]
  | 5, 3 => [(3422727, v5_3_0), (6570433, v5_3_1), (10897539, v5_3_2), (15213637, v5_3_3), (19277985, v5_3_4), (19308737, v5_3_5)]
  | 5, 4 => [(4796739, v5_4_0), (11088003, v5_4_1), (17244353, v5_4_2), (19277955, v5_4_3)]
  | 6, 0 => [(108379767, v6_0_0)]
  | 6, 1 => [(756458657, v6_1_0)]
  | 6, 2 => [(136691319, v6_2_0), (341247635, v6_2_1), (606525641, v6_2_2), (747062433, v6_2_3), (756458627, v6_2_4)]
  | 6, 3 => [(71970319, v6_3_0), (109527751, v6_3_1), (147411297, v6_3_2), (218826061, v6_3_3), (292043937, v6_3_4), (357118113, v6_3_5), (424256643, v6_3_6), (537338071, v6_3_7), (608514167, v6_3_8), (681986209, v6_3_9), (722798733, v6_3_10), (756457665, v6_3_11)]
  | 6, 4 => [(17244871, v6_4_0), (86387333, v6_4_1), (136690199, v6_4_2), (153760067, v6_4_3), (210191041, v6_4_4), (283640023, v6_4_5), (339817045, v6_4_6), (357118021, v6_4_7), (422193283, v6_4_8), (478347799, v6_4_9), (543438871, v6_4_10), (606218645, v6_4_11), (625092995, v6_4_12), (690104707, v6_4_13), (738402769, v6_4_14), (756355149, v6_4_15), (756426883, v6_4_16)]
  | 6, 5 => [(71977355, v6_5_0), (155791683, v6_5_1), (274749967, v6_5_2), (357118083, v6_5_3), (478347985, v6_5_4), (560406721, v6_5_5), (684003411, v6_5_6), (755441857, v6_5_7)]
  | _, _ => []
def kvN (n d : Nat) : Nat := ((kvT n d).map (fun q => q.2.length)).sum
def rchV (n d : Nat) (L : zLy) : Prop := rch n L ∧ inT (kvT n d) (lyKey L).toNatClampNeg = true
def ckLev (n k : Nat) : Bool := (List.range 6).any (fun d => inT (kvT n d) k)
def ckKid (n d k : Nat) : Bool := decide ((lyKey (unLay n k)).toNatClampNeg = k) && (List.range (unLay n k).length).all (fun line => line == 0 || (List.range 4).all (fun way => inT (kvT n (d + 1)) (lyKey (lyFold (unLay n k) line way)).toNatClampNeg))
theorem ckL_0_0 : c0_0.all (ckLev 0) = true := by decide +kernel
theorem ckL_1_0 : c1_0.all (ckLev 1) = true := by decide +kernel
theorem ckL_2_0 : c2_0.all (ckLev 2) = true := by decide +kernel
theorem ckL_3_0 : c3_0.all (ckLev 3) = true := by decide +kernel
theorem ckL_4_0 : c4_0.all (ckLev 4) = true := by decide +kernel
theorem ckL_4_1 : c4_1.all (ckLev 4) = true := by decide +kernel
theorem ckL_4_2 : c4_2.all (ckLev 4) = true := by decide +kernel
theorem ckL_5_0 : c5_0.all (ckLev 5) = true := by decide +kernel
theorem ckL_5_1 : c5_1.all (ckLev 5) = true := by decide +kernel
theorem ckL_5_2 : c5_2.all (ckLev 5) = true := by decide +kernel
theorem ckL_5_3 : c5_3.all (ckLev 5) = true := by decide +kernel
theorem ckL_5_4 : c5_4.all (ckLev 5) = true := by decide +kernel
theorem ckL_5_5 : c5_5.all (ckLev 5) = true := by decide +kernel
theorem ckL_5_6 : c5_6.all (ckLev 5) = true := by decide +kernel
theorem ckL_5_7 : c5_7.all (ckLev 5) = true := by decide +kernel
theorem ckL_5_8 : c5_8.all (ckLev 5) = true := by decide +kernel
theorem ckL_5_9 : c5_9.all (ckLev 5) = true := by decide +kernel
theorem ckL_6_0 : c6_0.all (ckLev 6) = true := by decide +kernel
theorem ckL_6_1 : c6_1.all (ckLev 6) = true := by decide +kernel
theorem ckL_6_2 : c6_2.all (ckLev 6) = true := by decide +kernel
theorem ckL_6_3 : c6_3.all (ckLev 6) = true := by decide +kernel
theorem ckL_6_4 : c6_4.all (ckLev 6) = true := by decide +kernel
theorem ckL_6_5 : c6_5.all (ckLev 6) = true := by decide +kernel
theorem ckL_6_6 : c6_6.all (ckLev 6) = true := by decide +kernel
theorem ckL_6_7 : c6_7.all (ckLev 6) = true := by decide +kernel
theorem ckL_6_8 : c6_8.all (ckLev 6) = true := by decide +kernel
theorem ckL_6_9 : c6_9.all (ckLev 6) = true := by decide +kernel
theorem ckL_6_10 : c6_10.all (ckLev 6) = true := by decide +kernel
theorem ckL_6_11 : c6_11.all (ckLev 6) = true := by decide +kernel
theorem ckL_6_12 : c6_12.all (ckLev 6) = true := by decide +kernel
theorem ckL_6_13 : c6_13.all (ckLev 6) = true := by decide +kernel
theorem ckL_6_14 : c6_14.all (ckLev 6) = true := by decide +kernel
theorem ckL_6_15 : c6_15.all (ckLev 6) = true := by decide +kernel
theorem ckL_6_16 : c6_16.all (ckLev 6) = true := by decide +kernel
theorem ckL_6_17 : c6_17.all (ckLev 6) = true := by decide +kernel
theorem ckL_6_18 : c6_18.all (ckLev 6) = true := by decide +kernel
theorem ckL_6_19 : c6_19.all (ckLev 6) = true := by decide +kernel
theorem ckL_6_20 : c6_20.all (ckLev 6) = true := by decide +kernel
theorem ckL_6_21 : c6_21.all (ckLev 6) = true := by decide +kernel
theorem ckL_6_22 : c6_22.all (ckLev 6) = true := by decide +kernel
theorem ckL_6_23 : c6_23.all (ckLev 6) = true := by decide +kernel
theorem ckL_6_24 : c6_24.all (ckLev 6) = true := by decide +kernel
theorem ckL_6_25 : c6_25.all (ckLev 6) = true := by decide +kernel
theorem ckL_6_26 : c6_26.all (ckLev 6) = true := by decide +kernel
theorem ckL_6_27 : c6_27.all (ckLev 6) = true := by decide +kernel
theorem ckL_6_28 : c6_28.all (ckLev 6) = true := by decide +kernel
theorem ckL_6_29 : c6_29.all (ckLev 6) = true := by decide +kernel
theorem ckL_6_30 : c6_30.all (ckLev 6) = true := by decide +kernel
theorem ckL_6_31 : c6_31.all (ckLev 6) = true := by decide +kernel
theorem ckL_all {n k : Nat} (h : fnM n k) : ckLev n k = true := by
  have h6 := fnM_le h
  obtain ⟨q, h1, h2⟩ := h
  match n, h6, h1 with
  | 0, _, h1 =>
    have e : (fnT 0).all (fun q => q.2.all (ckLev 0)) = true := by
      show ((c0_0.all (ckLev 0) && true)) = true
      rw [ckL_0_0]
      rfl
    exact List.all_eq_true.mp (List.all_eq_true.mp e q h1) k h2
  | 1, _, h1 =>
    have e : (fnT 1).all (fun q => q.2.all (ckLev 1)) = true := by
      show ((c1_0.all (ckLev 1) && true)) = true
      rw [ckL_1_0]
      rfl
    exact List.all_eq_true.mp (List.all_eq_true.mp e q h1) k h2
  | 2, _, h1 =>
    have e : (fnT 2).all (fun q => q.2.all (ckLev 2)) = true := by
      show ((c2_0.all (ckLev 2) && true)) = true
      rw [ckL_2_0]
      rfl
    exact List.all_eq_true.mp (List.all_eq_true.mp e q h1) k h2
  | 3, _, h1 =>
    have e : (fnT 3).all (fun q => q.2.all (ckLev 3)) = true := by
      show ((c3_0.all (ckLev 3) && true)) = true
      rw [ckL_3_0]
      rfl
    exact List.all_eq_true.mp (List.all_eq_true.mp e q h1) k h2
  | 4, _, h1 =>
    have e : (fnT 4).all (fun q => q.2.all (ckLev 4)) = true := by
      show ((c4_0.all (ckLev 4) && (c4_1.all (ckLev 4) && (c4_2.all (ckLev 4) && true)))) = true
      rw [ckL_4_0, ckL_4_1, ckL_4_2]
      rfl
    exact List.all_eq_true.mp (List.all_eq_true.mp e q h1) k h2
  | 5, _, h1 =>
    have e : (fnT 5).all (fun q => q.2.all (ckLev 5)) = true := by
      show ((c5_0.all (ckLev 5) && (c5_1.all (ckLev 5) && (c5_2.all (ckLev 5) && (c5_3.all (ckLev 5) && (c5_4.all (ckLev 5) && (c5_5.all (ckLev 5) && (c5_6.all (ckLev 5) && (c5_7.all (ckLev 5) && (c5_8.all (ckLev 5) && (c5_9.all (ckLev 5) && true))))))))))) = true
      rw [ckL_5_0, ckL_5_1, ckL_5_2, ckL_5_3, ckL_5_4, ckL_5_5, ckL_5_6, ckL_5_7, ckL_5_8, ckL_5_9]
      rfl
    exact List.all_eq_true.mp (List.all_eq_true.mp e q h1) k h2
  | 6, _, h1 =>
    have e : (fnT 6).all (fun q => q.2.all (ckLev 6)) = true := by
      show ((c6_0.all (ckLev 6) && (c6_1.all (ckLev 6) && (c6_2.all (ckLev 6) && (c6_3.all (ckLev 6) && (c6_4.all (ckLev 6) && (c6_5.all (ckLev 6) && (c6_6.all (ckLev 6) && (c6_7.all (ckLev 6) && (c6_8.all (ckLev 6) && (c6_9.all (ckLev 6) && (c6_10.all (ckLev 6) && (c6_11.all (ckLev 6) && (c6_12.all (ckLev 6) && (c6_13.all (ckLev 6) && (c6_14.all (ckLev 6) && (c6_15.all (ckLev 6) && (c6_16.all (ckLev 6) && (c6_17.all (ckLev 6) && (c6_18.all (ckLev 6) && (c6_19.all (ckLev 6) && (c6_20.all (ckLev 6) && (c6_21.all (ckLev 6) && (c6_22.all (ckLev 6) && (c6_23.all (ckLev 6) && (c6_24.all (ckLev 6) && (c6_25.all (ckLev 6) && (c6_26.all (ckLev 6) && (c6_27.all (ckLev 6) && (c6_28.all (ckLev 6) && (c6_29.all (ckLev 6) && (c6_30.all (ckLev 6) && (c6_31.all (ckLev 6) && true))))))))))))))))))))))))))))))))) = true
      rw [ckL_6_0, ckL_6_1, ckL_6_2, ckL_6_3, ckL_6_4, ckL_6_5, ckL_6_6, ckL_6_7, ckL_6_8, ckL_6_9, ckL_6_10, ckL_6_11, ckL_6_12, ckL_6_13, ckL_6_14, ckL_6_15, ckL_6_16, ckL_6_17, ckL_6_18, ckL_6_19, ckL_6_20, ckL_6_21, ckL_6_22, ckL_6_23, ckL_6_24, ckL_6_25, ckL_6_26, ckL_6_27, ckL_6_28, ckL_6_29, ckL_6_30, ckL_6_31]
      rfl
    exact List.all_eq_true.mp (List.all_eq_true.mp e q h1) k h2
  | n + 7, h6, _ => exact absurd h6 (by omega)
theorem ckD_0_0_0 : v0_0_0.all (ckKid 0 0) = true := by decide +kernel
theorem ckD_1_0_0 : v1_0_0.all (ckKid 1 0) = true := by decide +kernel
theorem ckD_2_0_0 : v2_0_0.all (ckKid 2 0) = true := by decide +kernel
theorem ckD_2_1_0 : v2_1_0.all (ckKid 2 1) = true := by decide +kernel
theorem ckD_3_0_0 : v3_0_0.all (ckKid 3 0) = true := by decide +kernel
theorem ckD_3_1_0 : v3_1_0.all (ckKid 3 1) = true := by decide +kernel
theorem ckD_3_2_0 : v3_2_0.all (ckKid 3 2) = true := by decide +kernel
theorem ckD_4_0_0 : v4_0_0.all (ckKid 4 0) = true := by decide +kernel
theorem ckD_4_1_0 : v4_1_0.all (ckKid 4 1) = true := by decide +kernel
theorem ckD_4_2_0 : v4_2_0.all (ckKid 4 2) = true := by decide +kernel
theorem ckD_4_2_1 : v4_2_1.all (ckKid 4 2) = true := by decide +kernel
theorem ckD_4_3_0 : v4_3_0.all (ckKid 4 3) = true := by decide +kernel
theorem ckD_4_3_1 : v4_3_1.all (ckKid 4 3) = true := by decide +kernel
theorem ckD_5_0_0 : v5_0_0.all (ckKid 5 0) = true := by decide +kernel
theorem ckD_5_1_0 : v5_1_0.all (ckKid 5 1) = true := by decide +kernel
theorem ckD_5_2_0 : v5_2_0.all (ckKid 5 2) = true := by decide +kernel
theorem ckD_5_2_1 : v5_2_1.all (ckKid 5 2) = true := by decide +kernel
theorem ckD_5_2_2 : v5_2_2.all (ckKid 5 2) = true := by decide +kernel
theorem ckD_5_3_0 : v5_3_0.all (ckKid 5 3) = true := by decide +kernel
theorem ckD_5_3_1 : v5_3_1.all (ckKid 5 3) = true := by decide +kernel
theorem ckD_5_3_2 : v5_3_2.all (ckKid 5 3) = true := by decide +kernel
theorem ckD_5_3_3 : v5_3_3.all (ckKid 5 3) = true := by decide +kernel
theorem ckD_5_3_4 : v5_3_4.all (ckKid 5 3) = true := by decide +kernel
theorem ckD_5_3_5 : v5_3_5.all (ckKid 5 3) = true := by decide +kernel
theorem ckD_5_4_0 : v5_4_0.all (ckKid 5 4) = true := by decide +kernel
theorem ckD_5_4_1 : v5_4_1.all (ckKid 5 4) = true := by decide +kernel
theorem ckD_5_4_2 : v5_4_2.all (ckKid 5 4) = true := by decide +kernel
theorem ckD_5_4_3 : v5_4_3.all (ckKid 5 4) = true := by decide +kernel
theorem ckD_6_0_0 : v6_0_0.all (ckKid 6 0) = true := by decide +kernel
theorem ckD_6_1_0 : v6_1_0.all (ckKid 6 1) = true := by decide +kernel
theorem ckD_6_2_0 : v6_2_0.all (ckKid 6 2) = true := by decide +kernel
theorem ckD_6_2_1 : v6_2_1.all (ckKid 6 2) = true := by decide +kernel
theorem ckD_6_2_2 : v6_2_2.all (ckKid 6 2) = true := by decide +kernel
theorem ckD_6_2_3 : v6_2_3.all (ckKid 6 2) = true := by decide +kernel
theorem ckD_6_2_4 : v6_2_4.all (ckKid 6 2) = true := by decide +kernel
theorem ckD_6_3_0 : v6_3_0.all (ckKid 6 3) = true := by decide +kernel
theorem ckD_6_3_1 : v6_3_1.all (ckKid 6 3) = true := by decide +kernel
theorem ckD_6_3_2 : v6_3_2.all (ckKid 6 3) = true := by decide +kernel
theorem ckD_6_3_3 : v6_3_3.all (ckKid 6 3) = true := by decide +kernel
theorem ckD_6_3_4 : v6_3_4.all (ckKid 6 3) = true := by decide +kernel
theorem ckD_6_3_5 : v6_3_5.all (ckKid 6 3) = true := by decide +kernel
theorem ckD_6_3_6 : v6_3_6.all (ckKid 6 3) = true := by decide +kernel
theorem ckD_6_3_7 : v6_3_7.all (ckKid 6 3) = true := by decide +kernel
theorem ckD_6_3_8 : v6_3_8.all (ckKid 6 3) = true := by decide +kernel
theorem ckD_6_3_9 : v6_3_9.all (ckKid 6 3) = true := by decide +kernel
theorem ckD_6_3_10 : v6_3_10.all (ckKid 6 3) = true := by decide +kernel
theorem ckD_6_3_11 : v6_3_11.all (ckKid 6 3) = true := by decide +kernel
theorem ckD_6_4_0 : v6_4_0.all (ckKid 6 4) = true := by decide +kernel
theorem ckD_6_4_1 : v6_4_1.all (ckKid 6 4) = true := by decide +kernel
theorem ckD_6_4_2 : v6_4_2.all (ckKid 6 4) = true := by decide +kernel
theorem ckD_6_4_3 : v6_4_3.all (ckKid 6 4) = true := by decide +kernel
theorem ckD_6_4_4 : v6_4_4.all (ckKid 6 4) = true := by decide +kernel
theorem ckD_6_4_5 : v6_4_5.all (ckKid 6 4) = true := by decide +kernel
theorem ckD_6_4_6 : v6_4_6.all (ckKid 6 4) = true := by decide +kernel
theorem ckD_6_4_7 : v6_4_7.all (ckKid 6 4) = true := by decide +kernel
theorem ckD_6_4_8 : v6_4_8.all (ckKid 6 4) = true := by decide +kernel
theorem ckD_6_4_9 : v6_4_9.all (ckKid 6 4) = true := by decide +kernel
theorem ckD_6_4_10 : v6_4_10.all (ckKid 6 4) = true := by decide +kernel
theorem ckD_6_4_11 : v6_4_11.all (ckKid 6 4) = true := by decide +kernel
theorem ckD_6_4_12 : v6_4_12.all (ckKid 6 4) = true := by decide +kernel
theorem ckD_6_4_13 : v6_4_13.all (ckKid 6 4) = true := by decide +kernel
theorem ckD_6_4_14 : v6_4_14.all (ckKid 6 4) = true := by decide +kernel
theorem ckD_6_4_15 : v6_4_15.all (ckKid 6 4) = true := by decide +kernel
theorem ckD_6_4_16 : v6_4_16.all (ckKid 6 4) = true := by decide +kernel
theorem ckD_6_5_0 : v6_5_0.all (ckKid 6 5) = true := by decide +kernel
theorem ckD_6_5_1 : v6_5_1.all (ckKid 6 5) = true := by decide +kernel
theorem ckD_6_5_2 : v6_5_2.all (ckKid 6 5) = true := by decide +kernel
theorem ckD_6_5_3 : v6_5_3.all (ckKid 6 5) = true := by decide +kernel
theorem ckD_6_5_4 : v6_5_4.all (ckKid 6 5) = true := by decide +kernel
theorem ckD_6_5_5 : v6_5_5.all (ckKid 6 5) = true := by decide +kernel
theorem ckD_6_5_6 : v6_5_6.all (ckKid 6 5) = true := by decide +kernel
theorem ckD_6_5_7 : v6_5_7.all (ckKid 6 5) = true := by decide +kernel
theorem ckD_all {n d k : Nat} (h : inT (kvT n d) k = true) : ckKid n d k = true := by
  obtain ⟨q, h1, h2⟩ := inT_mem h
  match n, d, h1 with
  | 0, 0, h1 =>
    have e : (kvT 0 0).all (fun q => q.2.all (ckKid 0 0)) = true := by
      show ((v0_0_0.all (ckKid 0 0) && true)) = true
      rw [ckD_0_0_0]
      rfl
    exact List.all_eq_true.mp (List.all_eq_true.mp e q h1) k h2
  | 1, 0, h1 =>
    have e : (kvT 1 0).all (fun q => q.2.all (ckKid 1 0)) = true := by
      show ((v1_0_0.all (ckKid 1 0) && true)) = true
      rw [ckD_1_0_0]
      rfl
    exact List.all_eq_true.mp (List.all_eq_true.mp e q h1) k h2
  | 2, 0, h1 =>
    have e : (kvT 2 0).all (fun q => q.2.all (ckKid 2 0)) = true := by
      show ((v2_0_0.all (ckKid 2 0) && true)) = true
      rw [ckD_2_0_0]
      rfl
    exact List.all_eq_true.mp (List.all_eq_true.mp e q h1) k h2
  | 2, 1, h1 =>
    have e : (kvT 2 1).all (fun q => q.2.all (ckKid 2 1)) = true := by
      show ((v2_1_0.all (ckKid 2 1) && true)) = true
      rw [ckD_2_1_0]
      rfl
    exact List.all_eq_true.mp (List.all_eq_true.mp e q h1) k h2
  | 3, 0, h1 =>
    have e : (kvT 3 0).all (fun q => q.2.all (ckKid 3 0)) = true := by
      show ((v3_0_0.all (ckKid 3 0) && true)) = true
      rw [ckD_3_0_0]
      rfl
    exact List.all_eq_true.mp (List.all_eq_true.mp e q h1) k h2
  | 3, 1, h1 =>
    have e : (kvT 3 1).all (fun q => q.2.all (ckKid 3 1)) = true := by
      show ((v3_1_0.all (ckKid 3 1) && true)) = true
      rw [ckD_3_1_0]
      rfl
    exact List.all_eq_true.mp (List.all_eq_true.mp e q h1) k h2
  | 3, 2, h1 =>
    have e : (kvT 3 2).all (fun q => q.2.all (ckKid 3 2)) = true := by
      show ((v3_2_0.all (ckKid 3 2) && true)) = true
      rw [ckD_3_2_0]
      rfl
    exact List.all_eq_true.mp (List.all_eq_true.mp e q h1) k h2
  | 4, 0, h1 =>
    have e : (kvT 4 0).all (fun q => q.2.all (ckKid 4 0)) = true := by
      show ((v4_0_0.all (ckKid 4 0) && true)) = true
      rw [ckD_4_0_0]
      rfl
    exact List.all_eq_true.mp (List.all_eq_true.mp e q h1) k h2
  | 4, 1, h1 =>
    have e : (kvT 4 1).all (fun q => q.2.all (ckKid 4 1)) = true := by
      show ((v4_1_0.all (ckKid 4 1) && true)) = true
      rw [ckD_4_1_0]
      rfl
    exact List.all_eq_true.mp (List.all_eq_true.mp e q h1) k h2
  | 4, 2, h1 =>
    have e : (kvT 4 2).all (fun q => q.2.all (ckKid 4 2)) = true := by
      show ((v4_2_0.all (ckKid 4 2) && (v4_2_1.all (ckKid 4 2) && true))) = true
      rw [ckD_4_2_0, ckD_4_2_1]
      rfl
    exact List.all_eq_true.mp (List.all_eq_true.mp e q h1) k h2
  | 4, 3, h1 =>
    have e : (kvT 4 3).all (fun q => q.2.all (ckKid 4 3)) = true := by
      show ((v4_3_0.all (ckKid 4 3) && (v4_3_1.all (ckKid 4 3) && true))) = true
      rw [ckD_4_3_0, ckD_4_3_1]
      rfl
    exact List.all_eq_true.mp (List.all_eq_true.mp e q h1) k h2
  | 5, 0, h1 =>
    have e : (kvT 5 0).all (fun q => q.2.all (ckKid 5 0)) = true := by
      show ((v5_0_0.all (ckKid 5 0) && true)) = true
      rw [ckD_5_0_0]
      rfl
    exact List.all_eq_true.mp (List.all_eq_true.mp e q h1) k h2
  | 5, 1, h1 =>
    have e : (kvT 5 1).all (fun q => q.2.all (ckKid 5 1)) = true := by
      show ((v5_1_0.all (ckKid 5 1) && true)) = true
      rw [ckD_5_1_0]
      rfl
    exact List.all_eq_true.mp (List.all_eq_true.mp e q h1) k h2
  | 5, 2, h1 =>
    have e : (kvT 5 2).all (fun q => q.2.all (ckKid 5 2)) = true := by
      show ((v5_2_0.all (ckKid 5 2) && (v5_2_1.all (ckKid 5 2) && (v5_2_2.all (ckKid 5 2) && true)))) = true
      rw [ckD_5_2_0, ckD_5_2_1, ckD_5_2_2]
      rfl
    exact List.all_eq_true.mp (List.all_eq_true.mp e q h1) k h2
  | 5, 3, h1 =>
    have e : (kvT 5 3).all (fun q => q.2.all (ckKid 5 3)) = true := by
      show ((v5_3_0.all (ckKid 5 3) && (v5_3_1.all (ckKid 5 3) && (v5_3_2.all (ckKid 5 3) && (v5_3_3.all (ckKid 5 3) && (v5_3_4.all (ckKid 5 3) && (v5_3_5.all (ckKid 5 3) && true))))))) = true
      rw [ckD_5_3_0, ckD_5_3_1, ckD_5_3_2, ckD_5_3_3, ckD_5_3_4, ckD_5_3_5]
      rfl
    exact List.all_eq_true.mp (List.all_eq_true.mp e q h1) k h2
  | 5, 4, h1 =>
    have e : (kvT 5 4).all (fun q => q.2.all (ckKid 5 4)) = true := by
      show ((v5_4_0.all (ckKid 5 4) && (v5_4_1.all (ckKid 5 4) && (v5_4_2.all (ckKid 5 4) && (v5_4_3.all (ckKid 5 4) && true))))) = true
      rw [ckD_5_4_0, ckD_5_4_1, ckD_5_4_2, ckD_5_4_3]
      rfl
    exact List.all_eq_true.mp (List.all_eq_true.mp e q h1) k h2
  | 6, 0, h1 =>
    have e : (kvT 6 0).all (fun q => q.2.all (ckKid 6 0)) = true := by
      show ((v6_0_0.all (ckKid 6 0) && true)) = true
      rw [ckD_6_0_0]
      rfl
    exact List.all_eq_true.mp (List.all_eq_true.mp e q h1) k h2
  | 6, 1, h1 =>
    have e : (kvT 6 1).all (fun q => q.2.all (ckKid 6 1)) = true := by
      show ((v6_1_0.all (ckKid 6 1) && true)) = true
      rw [ckD_6_1_0]
      rfl
    exact List.all_eq_true.mp (List.all_eq_true.mp e q h1) k h2
  | 6, 2, h1 =>
    have e : (kvT 6 2).all (fun q => q.2.all (ckKid 6 2)) = true := by
      show ((v6_2_0.all (ckKid 6 2) && (v6_2_1.all (ckKid 6 2) && (v6_2_2.all (ckKid 6 2) && (v6_2_3.all (ckKid 6 2) && (v6_2_4.all (ckKid 6 2) && true)))))) = true
      rw [ckD_6_2_0, ckD_6_2_1, ckD_6_2_2, ckD_6_2_3, ckD_6_2_4]
      rfl
    exact List.all_eq_true.mp (List.all_eq_true.mp e q h1) k h2
  | 6, 3, h1 =>
    have e : (kvT 6 3).all (fun q => q.2.all (ckKid 6 3)) = true := by
      show ((v6_3_0.all (ckKid 6 3) && (v6_3_1.all (ckKid 6 3) && (v6_3_2.all (ckKid 6 3) && (v6_3_3.all (ckKid 6 3) && (v6_3_4.all (ckKid 6 3) && (v6_3_5.all (ckKid 6 3) && (v6_3_6.all (ckKid 6 3) && (v6_3_7.all (ckKid 6 3) && (v6_3_8.all (ckKid 6 3) && (v6_3_9.all (ckKid 6 3) && (v6_3_10.all (ckKid 6 3) && (v6_3_11.all (ckKid 6 3) && true))))))))))))) = true
      rw [ckD_6_3_0, ckD_6_3_1, ckD_6_3_2, ckD_6_3_3, ckD_6_3_4, ckD_6_3_5, ckD_6_3_6, ckD_6_3_7, ckD_6_3_8, ckD_6_3_9, ckD_6_3_10, ckD_6_3_11]
      rfl
    exact List.all_eq_true.mp (List.all_eq_true.mp e q h1) k h2
  | 6, 4, h1 =>
    have e : (kvT 6 4).all (fun q => q.2.all (ckKid 6 4)) = true := by
      show ((v6_4_0.all (ckKid 6 4) && (v6_4_1.all (ckKid 6 4) && (v6_4_2.all (ckKid 6 4) && (v6_4_3.all (ckKid 6 4) && (v6_4_4.all (ckKid 6 4) && (v6_4_5.all (ckKid 6 4) && (v6_4_6.all (ckKid 6 4) && (v6_4_7.all (ckKid 6 4) && (v6_4_8.all (ckKid 6 4) && (v6_4_9.all (ckKid 6 4) && (v6_4_10.all (ckKid 6 4) && (v6_4_11.all (ckKid 6 4) && (v6_4_12.all (ckKid 6 4) && (v6_4_13.all (ckKid 6 4) && (v6_4_14.all (ckKid 6 4) && (v6_4_15.all (ckKid 6 4) && (v6_4_16.all (ckKid 6 4) && true)))))))))))))))))) = true
      rw [ckD_6_4_0, ckD_6_4_1, ckD_6_4_2, ckD_6_4_3, ckD_6_4_4, ckD_6_4_5, ckD_6_4_6, ckD_6_4_7, ckD_6_4_8, ckD_6_4_9, ckD_6_4_10, ckD_6_4_11, ckD_6_4_12, ckD_6_4_13, ckD_6_4_14, ckD_6_4_15, ckD_6_4_16]
      rfl
    exact List.all_eq_true.mp (List.all_eq_true.mp e q h1) k h2
  | 6, 5, h1 =>
    have e : (kvT 6 5).all (fun q => q.2.all (ckKid 6 5)) = true := by
      show ((v6_5_0.all (ckKid 6 5) && (v6_5_1.all (ckKid 6 5) && (v6_5_2.all (ckKid 6 5) && (v6_5_3.all (ckKid 6 5) && (v6_5_4.all (ckKid 6 5) && (v6_5_5.all (ckKid 6 5) && (v6_5_6.all (ckKid 6 5) && (v6_5_7.all (ckKid 6 5) && true))))))))) = true
      rw [ckD_6_5_0, ckD_6_5_1, ckD_6_5_2, ckD_6_5_3, ckD_6_5_4, ckD_6_5_5, ckD_6_5_6, ckD_6_5_7]
      rfl
    exact List.all_eq_true.mp (List.all_eq_true.mp e q h1) k h2
  | 0, d + 1, h1 => exact absurd h1 List.not_mem_nil
  | 1, d + 1, h1 => exact absurd h1 List.not_mem_nil
  | 2, d + 2, h1 => exact absurd h1 List.not_mem_nil
  | 3, d + 3, h1 => exact absurd h1 List.not_mem_nil
  | 4, d + 4, h1 => exact absurd h1 List.not_mem_nil
  | 5, d + 5, h1 => exact absurd h1 List.not_mem_nil
  | 6, d + 6, h1 => exact absurd h1 List.not_mem_nil
  | n + 7, d, h1 => exact absurd h1 List.not_mem_nil
theorem kvN_sum : ∀ n, n < 7 → kvN n 0 + kvN n 1 + kvN n 2 + kvN n 3 + kvN n 4 + kvN n 5 ≤ 1000 := by decide +kernel
theorem kvN_6 {n d : Nat} (h : 6 ≤ d) : kvN n d = 0 := by
  match n, d, h with
  | 0, d + 6, _ => rfl
  | 1, d + 6, _ => rfl
  | 2, d + 6, _ => rfl
  | 3, d + 6, _ => rfl
  | 4, d + 6, _ => rfl
  | 5, d + 6, _ => rfl
  | 6, d + 6, _ => rfl
  | n + 7, d, _ => rfl
theorem rchV_ex {n : Nat} {L : zLy} (h : rch n L) : ∃ d, d < 6 ∧ rchV n d L := by
  have h0 := h
  obtain ⟨k, hk, rfl⟩ := h
  have h1 := ckL_all hk
  have h2 := rch_a hk
  have h3 := h2.1
  unfold ckKey at h3
  rw [Bool.and_eq_true, decide_eq_true_iff, decide_eq_true_iff] at h3
  unfold ckLev at h1
  obtain ⟨d, hd, h4⟩ := List.any_eq_true.mp h1
  have h5 := ckD_all h4
  unfold ckKid at h5
  rw [Bool.and_eq_true, decide_eq_true_iff] at h5
  exact ⟨d, List.mem_range.mp hd, h0, by rw [h5.1]; exact h4⟩
theorem rchV_kid {n d line way : Nat} {L : zLy} (h : rchV n d L) (h1 : 1 ≤ line) (h2 : line < L.length) (h3 : way < 4) : rchV n (d + 1) (lyFold L line way) := by
  obtain ⟨hr, hk⟩ := h
  refine ⟨rch_fold hr h1 h2 h3, ?_⟩
  have h5 := ckD_all hk
  have e : unLay n (lyKey L).toNatClampNeg = L := by
    have hu := rch_key hr
    obtain ⟨k, hk2, rfl⟩ := hr
    have h6 := (rch_a hk2).1
    unfold ckKey at h6
    rw [Bool.and_eq_true, decide_eq_true_iff, decide_eq_true_iff] at h6
    have h7 := ckL_all hk2
    unfold ckLev at h7
    obtain ⟨d2, -, h8⟩ := List.any_eq_true.mp h7
    have h9 := ckD_all h8
    unfold ckKid at h9
    rw [Bool.and_eq_true, decide_eq_true_iff] at h9
    rw [h9.1]
  unfold ckKid at h5
  rw [Bool.and_eq_true] at h5
  have h6 := h5.2
  rw [e] at h6
  have a := List.all_eq_true.mp h6 line (List.mem_range.mpr h2)
  rw [Bool.or_eq_true, beq_iff_eq] at a
  exact List.all_eq_true.mp (a.resolve_left (by omega)) way (List.mem_range.mpr h3)
def distR (B : List zRw) : Prop := ∀ (i k : Nat) (y u : zRw), B[i]? = some y → B[k]? = some u → y.1 = u.1 → i = k
theorem inT_flat {t : List (Nat × List Nat)} {k : Nat} (h : inT t k = true) : k ∈ (t.map (fun q => q.2)).flatten := by
  obtain ⟨q, h1, h2⟩ := inT_mem h
  exact List.mem_flatten.mpr ⟨q.2, List.mem_map.mpr ⟨q, h1, rfl⟩, h2⟩
/-- rows of unlike looks of one level: no more than the level has -/
theorem lev_cap {n d : Nat} {B : List zRw} (h : distR B) (hv : ∀ y ∈ B, rchV n d y.1) : B.length ≤ kvN n d := by
  have h1 : (B.map (fun y => lyKey y.1)).Nodup := by
    refine List.pairwise_iff_getElem.mpr (fun i k hi hk hik e => ?_)
    rw [List.length_map] at hi hk
    rw [List.getElem_map, List.getElem_map] at e
    have e3 := rch_inj (hv _ (List.getElem_mem hi)).1 (hv _ (List.getElem_mem hk)).1 e
    have := h i k _ _ (List.getElem?_eq_getElem hi) (List.getElem?_eq_getElem hk) e3
    omega
  have h2 : B.map (fun y => lyKey y.1) ⊆ ((kvT n d).map (fun q => q.2)).flatten.map nI := by
    intro x hx
    obtain ⟨y, hy, rfl⟩ := List.mem_map.mp hx
    have h3 := hv y hy
    refine List.mem_map.mpr ⟨_, inT_flat h3.2, ?_⟩
    obtain ⟨k, hk2, e⟩ := h3.1
    have h6 := (rch_a hk2).1
    unfold ckKey at h6
    rw [Bool.and_eq_true, decide_eq_true_iff, decide_eq_true_iff] at h6
    have h7 := ckL_all hk2
    unfold ckLev at h7
    obtain ⟨d2, -, h8⟩ := List.any_eq_true.mp h7
    have h9 := ckD_all h8
    unfold ckKid at h9
    rw [Bool.and_eq_true, decide_eq_true_iff] at h9
    rw [e, h9.1]
    exact h6.2.symm
  have h3 := List.Nodup.length_le_of_subset h1 h2
  rw [List.length_map, List.length_map, List.length_flatten, List.map_map] at h3
  exact h3
