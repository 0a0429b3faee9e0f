/-! THE LITTLE MACHINE: object rows by (group, kind, number); 1, 2, 3: the sites, 0: the class's own, 4: the reference's, 9: constants -/
abbrev Cd : Type := Nat × Nat × Nat
abbrev AV : Type := Option (Int32 ⊕ Cd)
abbrev Mm : Type := Nat → Nat → Nat → Nat → Int32
abbrev Rs : Type := Option Int32 × Mm
abbrev Ss : Type := Nat × List AV × List AV × Mm
abbrev aI (v : Int32) : AV := some (.inl v)
abbrev aR (g k i : Nat) : AV := some (.inr (g, k, i))
def wr (M : Mm) (g k i j : Nat) (v : Int32) : Mm := va_up M g (va_up (M g) k (va_up (M g k) i (va_up (M g k i) j v)))
def mT0 : List (MethodName × ByteArray × Nat × Option FieldType) := [(yX0_become, cX0_become, 2, none), (yX0_begin, cX0_begin, 5, none), (yX0_usualOf, cX0_usualOf, 2, some .int), (yX0_wants, cX0_wants, 2, some .int), (yX0_lasts, cX0_lasts, 1, some .int), (yX0_lay, cX0_lay, 5, some .int), (yX0_receiveMortar, cX0_receiveMortar, 3, some .int), (yX0_receiveBricks, cX0_receiveBricks, 3, some .int), (yX1_become, cX1_become, 2, none), (yX1_begin, cX1_begin, 3, none), (yX1_climb, cX1_climb, 4, none), (yX2_become, cX2_become, 3, none), (yX2_hasLayer, cX2_hasLayer, 2, some .boolean), (yX2_hasTimeFor, cX2_hasTimeFor, 2, some .boolean), (yX2_anyBusy, cX2_anyBusy, 2, some .boolean), (yX2_freeMates, cX2_freeMates, 2, none), (yX2_setting, cX2_setting, 2, some .int), (yX2_change, cX2_change, 3, none), (yX2_addLayer, cX2_addLayer, 5, some .boolean), (yX2_muckLeft, cX2_muckLeft, 3, some .int)]
def mT1 : List (MethodName × ByteArray × Nat × Option FieldType) := [(yX2_pass, cX2_pass, 3, none), (yX2_send, cX2_send, 4, none), (yX2_choose, cX2_choose, 5, some .int), (yX2_needs, cX2_needs, 3, some .boolean), (yX2_rank, cX2_rank, 3, some .int), (yX2_allLay, cX2_allLay, 5, none), (yX2_spendMinute, cX2_spendMinute, 2, none), (yX2_unload, cX2_unload, 3, none), (yX3_clear, cX3_clear, 1, none), (yX3_noteBegun, cX3_noteBegun, 2, none), (yX3_noteStanding, cX3_noteStanding, 3, none), (yX4_add, cX4_add, 2, none), (yX4_at, cX4_at, 2, some .int), (yX4_number, cX4_number, 5, some .int), (yX4_shapeFault, cX4_shapeFault, 4, some .int), (yX4_statementLength, cX4_statementLength, 2, some .int), (yX4_fits, cX4_fits, 4, some .boolean), (yX5_letter, cX5_letter, 2, some .int), (yX5_site, cX5_site, 4, some .int), (yX5_layer, cX5_layer, 4, some .int)]
def mT2 : List (MethodName × ByteArray × Nat × Option FieldType) := [(yX5_put, cX5_put, 7, some .int), (yX5_set, cX5_set, 5, some .int), (yX5_go, cX5_go, 2, some .int), (yX5_mates, cX5_mates, 4, some .int), (yX5_total, cX5_total, 4, some .int), (yX5_stood, cX5_stood, 4, some .int), (yX5_left, cX5_left, 6, some .int), (yX5_bestRule, cX5_bestRule, 9, some .int), (yX5_bestHod, cX5_bestHod, 3, some .int), (yX5_bestBatch, cX5_bestBatch, 3, some .int), (yX5_mate, cX5_mate, 3, some .int), (yX5_hoist, cX5_hoist, 3, some .int), (yX5_ahead, cX5_ahead, 6, some .int), (yX5_inStep, cX5_inStep, 3, some .int), (yX5_keeps, cX5_keeps, 4, some .int), (yX5_emptyFirst, cX5_emptyFirst, 2, some .int), (yX5_tea, cX5_tea, 6, some .int), (yX5_fault, cX5_fault, 6, some .int), (yX5_watered, cX5_watered, 7, some .int), (yX5_badly, cX5_badly, 3, some .int)]
def mT3 : List (MethodName × ByteArray × Nat × Option FieldType) := [(yX5_row, cX5_row, 2, some .int), (yX5_judge, cX5_judge, 3, some .int), (yX5_lots, cX5_lots, 8, some .int), (yX5_image, cX5_image, 1, some .int), (yX5_on, cX5_on, 1, some .int), (yX5_count, cX5_count, 2, some .int), (yX5_refuse, cX5_refuse, 3, some .int), (yX5_outside, cX5_outside, 3, some .int), (yX5_outsideEither, cX5_outsideEither, 3, some .int), (yX5_refusalOfLayerInMind, cX5_refusalOfLayerInMind, 5, some .int), (yX5_foresee, cX5_foresee, 2, none), (yX5_laidAsItIs, cX5_laidAsItIs, 2, some .int), (yX5_laidWith, cX5_laidWith, 4, some .int), (yX5_passWithMixing, cX5_passWithMixing, 3, none), (yX5_bestSetting, cX5_bestSetting, 8, some .int), (yX5_rowFitsUnits, cX5_rowFitsUnits, 3, some .boolean), (yX5_nextSeed, cX5_nextSeed, 1, some .int), (yX5_draw, cX5_draw, 2, some .int), (yX5_unitsOf, cX5_unitsOf, 1, some .int), (yX5_statementComes, cX5_statementComes, 3, some .boolean)]
def mT4 : List (MethodName × ByteArray × Nat × Option FieldType) := [(yX5_settingComes, cX5_settingComes, 3, some .boolean), (yX6_no, cX6_no, 2, some .int), (yX6_lower, cX6_lower, 2, some .int), (yX6_isIn, cX6_isIn, 3, some .boolean), (yX6_bound, cX6_bound, 3, some .int), (yX6_isLayer, cX6_isLayer, 2, some .boolean), (yX6_leastOf, cX6_leastOf, 1, some .int), (yX6_mostOf, cX6_mostOf, 1, some .int), (yX6_letter, cX6_letter, 3, some .int), (yX6_next, cX6_next, 1, some .int), (yX6_readsDigits, cX6_readsDigits, 5, some .boolean), (yX6_layerOf, cX6_layerOf, 1, some .int), (yX6_ruleOf, cX6_ruleOf, 1, some .int), (yX6_readsKind, cX6_readsKind, 3, some .boolean), (yX6_readsAll, cX6_readsAll, 3, some .boolean), (yX6_statement, cX6_statement, 2, some .boolean), (yX6_comesLayer, cX6_comesLayer, 2, some .boolean), (yX6_isBusy, cX6_isBusy, 2, some .boolean), (yX6_comesSet, cX6_comesSet, 3, some .boolean), (yX6_comes, cX6_comes, 3, some .boolean)]
def mT5 : List (MethodName × ByteArray × Nat × Option FieldType) := [(yX6_site, cX6_site, 3, some .int), (yX6_passes, cX6_passes, 3, none), (yX6_passOne, cX6_passOne, 3, some .int), (yX6_passesAll, cX6_passesAll, 3, none), (yX6_image, cX6_image, 1, some .int), (yX6_on, cX6_on, 1, some .int), (yX6_bricksOf, cX6_bricksOf, 3, some .int), (yX6_unitsOf, cX6_unitsOf, 1, some .int), (yX6_wouldLay, cX6_wouldLay, 2, some .int), (yX6_lesser, cX6_lesser, 2, some .int), (yX6_lays, cX6_lays, 2, some .int), (yX6_isWanting, cX6_isWanting, 3, some .boolean), (yX6_emptyBy, cX6_emptyBy, 2, some .int), (yX6_lastsBy, cX6_lastsBy, 2, some .int), (yX6_keyOf, cX6_keyOf, 2, some .int), (yX6_served, cX6_served, 3, some .int), (yX6_keyBy, cX6_keyBy, 2, some .int), (yX6_begins, cX6_begins, 4, none), (yX6_tells, cX6_tells, 2, none), (yX6_starts, cX6_starts, 4, none)]
def mT6 : List (MethodName × ByteArray × Nat × Option FieldType) := [(yX6_heldBy, cX6_heldBy, 3, some .int), (yX6_comesThere, cX6_comesThere, 3, none), (yX6_ends, cX6_ends, 2, none), (yX6_layerGoes, cX6_layerGoes, 4, none), (yX6_goes, cX6_goes, 4, none), (yX6_stoodAll, cX6_stoodAll, 3, some .int), (yX6_clearsCounts, cX6_clearsCounts, 2, none), (yX6_goesMinutes, cX6_goesMinutes, 3, none), (yX6_goesBy, cX6_goesBy, 2, none), (yX6_allMuck, cX6_allMuck, 3, some .int), (yX6_minds, cX6_minds, 2, none), (yX6_layer, cX6_layer, 3, some .int), (yX6_put, cX6_put, 6, some .int), (yX6_set, cX6_set, 5, some .int), (yX6_go, cX6_go, 3, some .int), (yX6_mates, cX6_mates, 3, some .int), (yX6_total, cX6_total, 4, some .int), (yX6_stood, cX6_stood, 4, some .int), (yX6_left, cX6_left, 6, some .int), (yX6_bestRule, cX6_bestRule, 9, some .int)]
def mT7 : List (MethodName × ByteArray × Nat × Option FieldType) := [(yX6_laidWith, cX6_laidWith, 5, some .int), (yX6_bestHod, cX6_bestHod, 7, some .int), (yX6_bestBatch, cX6_bestBatch, 7, some .int), (yX6_laidIn, cX6_laidIn, 2, some .int), (yX6_mate, cX6_mate, 5, some .int), (yX6_hoist, cX6_hoist, 4, some .int), (yX6_ahead, cX6_ahead, 6, some .int), (yX6_inStep, cX6_inStep, 3, some .int), (yX6_standsOf, cX6_standsOf, 4, some .int), (yX6_keeps, cX6_keeps, 5, some .int), (yX6_emptyFirst, cX6_emptyFirst, 2, some .int), (yX6_laidDry, cX6_laidDry, 3, some .int), (yX6_tea, cX6_tea, 6, some .int), (yX6_fault, cX6_fault, 5, some .int), (yX6_watered, cX6_watered, 7, some .int), (yX6_badly, cX6_badly, 4, some .int), (yX6_row, cX6_row, 3, some .int), (yX6_judge, cX6_judge, 3, some .int), (yX6_draw, cX6_draw, 2, some .int), (yX6_lots, cX6_lots, 7, some .int)]
def mT8 : List (MethodName × ByteArray × Nat × Option FieldType) := [(yX6_count, cX6_count, 2, some .int), (yX4_statementFault, cX4_statementFault, 4, some .int), (yX5_weakOf, cX5_weakOf, 3, some .int)]
def mT : List (MethodName × ByteArray × Nat × Option FieldType) := mT0 ++ (mT1 ++ (mT2 ++ (mT3 ++ (mT4 ++ (mT5 ++ (mT6 ++ (mT7 ++ (mT8))))))))
/-- class, locals, answer (0 void, 1 int, 2 boolean), level, static, parameters -/
def mIs : List (Nat × Nat × Nat × Nat × Bool × Nat) := [(0, 2, 0, 0, false, 1), (0, 5, 0, 1, false, 4), (0, 2, 1, 0, true, 2), (0, 2, 1, 0, false, 1), (0, 1, 1, 0, false, 0), (0, 5, 1, 1, false, 1), (0, 3, 1, 0, false, 1), (0, 3, 1, 0, false, 1), (1, 2, 0, 0, false, 1), (1, 3, 0, 0, false, 2), (1, 4, 0, 0, false, 3), (2, 3, 0, 1, false, 1), (2, 2, 2, 0, false, 1), (2, 2, 2, 0, false, 1), (2, 2, 2, 0, false, 0), (2, 2, 0, 1, false, 0), (2, 2, 1, 0, false, 1), (2, 3, 0, 0, false, 2), (2, 5, 2, 2, false, 4), (2, 3, 1, 0, false, 0), (2, 3, 0, 3, false, 1), (2, 4, 0, 1, false, 2), (2, 5, 1, 2, false, 0), (2, 3, 2, 0, false, 1), (2, 3, 1, 1, false, 1), (2, 5, 0, 2, false, 0), (2, 2, 0, 2, false, 1), (2, 3, 0, 1, false, 1), (3, 1, 0, 0, false, 0), (3, 2, 0, 0, false, 1), (3, 3, 0, 0, false, 2), (4, 2, 0, 0, false, 1), (4, 2, 1, 0, false, 1), (4, 5, 1, 1, false, 2), (4, 4, 1, 6, false, 0), (4, 2, 1, 1, false, 1), (4, 4, 2, 4, false, 2), (5, 2, 1, 1, false, 1), (5, 4, 1, 7, false, 0), (5, 4, 1, 1, false, 2), (5, 7, 1, 1, false, 3), (5, 5, 1, 1, false, 2), (5, 2, 1, 4, false, 1), (5, 4, 1, 1, false, 2), (5, 4, 1, 5, false, 2), (5, 4, 1, 5, false, 2), (5, 6, 1, 5, false, 3), (5, 9, 1, 5, false, 1), (5, 3, 1, 6, false, 1), (5, 3, 1, 6, false, 1), (5, 3, 1, 6, false, 1), (5, 3, 1, 6, false, 1), (5, 6, 1, 5, false, 2), (5, 3, 1, 5, false, 1), (5, 4, 1, 4, false, 1), (5, 2, 1, 5, false, 1), (5, 6, 1, 6, false, 2), (5, 6, 1, 5, false, 3), (5, 7, 1, 6, false, 3), (5, 3, 1, 1, false, 0), (5, 2, 1, 1, false, 1), (5, 3, 1, 5, false, 0), (5, 8, 1, 4, false, 2), (5, 1, 1, 2, false, 0), (5, 1, 1, 2, false, 0), (5, 2, 1, 0, false, 1), (5, 3, 1, 0, false, 1), (5, 3, 1, 0, true, 3), (5, 3, 1, 0, true, 3), (5, 5, 1, 1, false, 3), (5, 2, 0, 4, false, 1), (5, 2, 1, 5, false, 1), (5, 4, 1, 4, false, 3), (5, 3, 0, 4, false, 2), (5, 8, 1, 5, false, 3), (5, 3, 2, 0, false, 1), (5, 1, 1, 0, true, 1), (5, 2, 1, 0, true, 2), (5, 1, 1, 0, true, 1), (5, 3, 2, 4, false, 1), (5, 3, 2, 1, false, 2), (6, 2, 1, 0, false, 1), (6, 2, 1, 0, false, 1), (6, 3, 2, 0, true, 3), (6, 3, 1, 0, true, 3), (6, 2, 2, 0, false, 1), (6, 1, 1, 0, true, 1), (6, 1, 1, 0, true, 1), (6, 3, 1, 1, false, 1), (6, 1, 1, 0, false, 0), (6, 5, 2, 1, false, 2), (6, 1, 1, 0, true, 1), (6, 1, 1, 0, true, 1), (6, 3, 2, 0, false, 2), (6, 3, 2, 2, false, 2), (6, 2, 2, 3, false, 0), (6, 2, 2, 1, false, 1), (6, 2, 2, 0, false, 0), (6, 3, 2, 1, false, 2), (6, 3, 2, 9, false, 1), (6, 3, 1, 10, false, 0), (6, 3, 0, 0, false, 1), (6, 3, 1, 0, false, 1), (6, 3, 0, 1, false, 2), (6, 1, 1, 2, false, 0), (6, 1, 1, 2, false, 0), (6, 3, 1, 0, false, 1), (6, 1, 1, 0, true, 1), (6, 2, 1, 1, false, 1), (6, 2, 1, 0, true, 2), (6, 2, 1, 2, false, 1), (6, 3, 2, 0, false, 1), (6, 2, 1, 1, false, 1), (6, 2, 1, 1, false, 1), (6, 2, 1, 2, false, 1), (6, 3, 1, 4, false, 0), (6, 2, 1, 3, false, 1), (6, 4, 0, 0, false, 3), (6, 2, 0, 0, false, 1), (6, 4, 0, 5, false, 1), (6, 3, 1, 1, false, 2), (6, 3, 0, 2, false, 1), (6, 2, 0, 3, false, 1), (6, 4, 0, 3, false, 1), (6, 4, 0, 6, false, 0), (6, 3, 1, 0, false, 0), (6, 2, 0, 0, false, 0), (6, 3, 0, 7, false, 1), (6, 2, 0, 8, false, 1), (6, 3, 1, 0, false, 0), (6, 2, 0, 8, false, 1), (6, 3, 1, 2, false, 2), (6, 6, 1, 1, false, 3), (6, 5, 1, 1, false, 2), (6, 3, 1, 9, false, 1), (6, 3, 1, 1, false, 2), (6, 4, 1, 9, false, 2), (6, 4, 1, 9, false, 2), (6, 6, 1, 8, false, 3), (6, 9, 1, 9, false, 1), (6, 5, 1, 9, false, 3), (6, 7, 1, 10, false, 1), (6, 7, 1, 10, false, 1), (6, 2, 1, 9, false, 1), (6, 5, 1, 10, false, 1), (6, 4, 1, 10, false, 1), (6, 6, 1, 9, false, 2), (6, 3, 1, 9, false, 1), (6, 4, 1, 8, false, 2), (6, 5, 1, 9, false, 1), (6, 2, 1, 9, false, 1), (6, 3, 1, 9, false, 2), (6, 6, 1, 10, false, 2), (6, 5, 1, 9, false, 3), (6, 7, 1, 10, false, 3), (6, 4, 1, 1, false, 0), (6, 3, 1, 1, false, 1), (6, 3, 1, 9, false, 0), (6, 2, 1, 0, false, 1), (6, 7, 1, 8, false, 2), (6, 2, 1, 1, false, 1), (4, 4, 1, 5, false, 1), (5, 3, 1, 0, true, 3)]
/-- places in lw_tbl: code, instanceMethod or static, selects, initialized -/
def mPs : List (Nat × Nat × Nat × Nat) := [(448, 446, 447, 66), (474, 472, 473, 66), (477, 476, 0, 66), (559, 557, 558, 66), (526, 524, 525, 66), (555, 553, 554, 66), (575, 573, 574, 66), (579, 577, 578, 66), (452, 450, 451, 67), (539, 537, 538, 67), (547, 545, 546, 67), (444, 442, 443, 64), (535, 533, 534, 64), (502, 500, 501, 64), (484, 482, 483, 64), (685, 683, 684, 64), (600, 598, 599, 64), (497, 495, 496, 64), (467, 465, 466, 64), (620, 618, 619, 64), (506, 504, 505, 64), (531, 530, 8, 64), (514, 513, 5, 64), (518, 517, 6, 64), (522, 521, 7, 64), (551, 550, 9, 64), (567, 566, 10, 64), (571, 570, 11, 64), (510, 508, 509, 65), (543, 541, 542, 65), (563, 561, 562, 65), (328, 326, 327, 68), (348, 346, 347, 68), (463, 461, 462, 68), (336, 334, 335, 68), (344, 342, 343, 68), (352, 351, 2, 68), (320, 318, 319, 63), (332, 330, 331, 63), (586, 584, 585, 63), (592, 590, 591, 63), (596, 594, 595, 63), (604, 602, 603, 63), (608, 606, 607, 63), (612, 610, 611, 63), (624, 622, 623, 63), (628, 626, 627, 63), (636, 634, 635, 63), (644, 642, 643, 63), (652, 650, 651, 63), (656, 654, 655, 63), (665, 663, 664, 63), (669, 667, 668, 63), (677, 675, 676, 63), (681, 679, 680, 63), (689, 687, 688, 63), (693, 691, 692, 63), (701, 699, 700, 63), (705, 703, 704, 63), (712, 710, 711, 63), (721, 719, 720, 63), (725, 723, 724, 63), (729, 727, 728, 63), (742, 740, 741, 63), (746, 744, 745, 63), (750, 748, 749, 63), (324, 323, 0, 63), (470, 469, 0, 63), (672, 671, 0, 63), (632, 631, 13, 63), (616, 615, 12, 63), (661, 660, 16, 63), (640, 639, 14, 63), (697, 696, 17, 63), (648, 647, 15, 63), (717, 716, 18, 63), (732, 731, 0, 63), (737, 736, 0, 63), (480, 479, 0, 63), (456, 455, 3, 63), (488, 487, 4, 63), (901, 900, 19, 69), (1134, 1133, 57, 69), (931, 930, 0, 69), (897, 896, 0, 69), (1074, 1073, 53, 69), (961, 960, 0, 69), (964, 963, 0, 69), (894, 892, 893, 69), (913, 912, 21, 69), (928, 927, 24, 69), (920, 919, 0, 69), (934, 933, 0, 69), (924, 923, 23, 69), (917, 916, 22, 69), (909, 908, 20, 69), (954, 953, 29, 69), (968, 967, 31, 69), (958, 957, 30, 69), (950, 949, 28, 69), (905, 903, 904, 69), (942, 941, 26, 69), (946, 945, 27, 69), (938, 937, 25, 69), (1062, 1060, 1061, 69), (1066, 1064, 1065, 69), (1023, 1022, 44, 69), (1026, 1025, 0, 69), (1042, 1041, 48, 69), (1015, 1014, 0, 69), (1046, 1045, 49, 69), (1000, 999, 39, 69), (1012, 1011, 42, 69), (1019, 1018, 43, 69), (1008, 1007, 41, 69), (996, 995, 38, 69), (1004, 1003, 40, 69), (1030, 1029, 45, 69), (1034, 1033, 46, 69), (992, 991, 37, 69), (1058, 1057, 52, 69), (1054, 1053, 51, 69), (1050, 1049, 50, 69), (1038, 1037, 47, 69), (984, 983, 35, 69), (988, 987, 36, 69), (980, 979, 34, 69), (976, 975, 33, 69), (972, 971, 32, 69), (1102, 1101, 55, 69), (1098, 1097, 54, 69), (1070, 1068, 1069, 69), (1078, 1076, 1077, 69), (1082, 1080, 1081, 69), (1086, 1084, 1085, 69), (1090, 1088, 1089, 69), (1094, 1092, 1093, 69), (1106, 1104, 1105, 69), (1110, 1108, 1109, 69), (1114, 1112, 1113, 69), (1122, 1121, 56, 69), (1118, 1116, 1117, 69), (1126, 1124, 1125, 69), (1139, 1138, 58, 69), (1130, 1128, 1129, 69), (1143, 1141, 1142, 69), (1147, 1145, 1146, 69), (1151, 1149, 1150, 69), (1159, 1158, 59, 69), (1155, 1153, 1154, 69), (1163, 1161, 1162, 69), (1171, 1170, 60, 69), (1167, 1165, 1166, 69), (1175, 1173, 1174, 69), (1179, 1177, 1178, 69), (1183, 1181, 1182, 69), (1187, 1185, 1186, 69), (1191, 1189, 1190, 69), (1199, 1198, 61, 69), (1195, 1193, 1194, 69), (1206, 1204, 1205, 69), (340, 339, 1, 68), (708, 707, 0, 63)]
def mTy (y : Nat) : MethodName × ByteArray × Nat × Option FieldType := mT.getD y (yX0_become, cX0_become, 2, none)
def mN (y : Nat) : MethodName := (mTy y).1
def cod (y : Nat) : ByteArray := (mTy y).2.1
def mI (y : Nat) : Nat × Nat × Nat × Nat × Bool × Nat := mIs.getD y (0, 0, 0, 0, false, 0)
def mP (y : Nat) : Nat × Nat × Nat × Nat := mPs.getD y (0, 0, 0, 0)
def mcl (y : Nat) : Nat := (mI y).1
def mxL (y : Nat) : Nat := (mI y).2.1
def mrt (y : Nat) : Nat := (mI y).2.2.1
def lvl (y : Nat) : Nat := (mI y).2.2.2.1
def mst (y : Nat) : Bool := (mI y).2.2.2.2.1
def mnp (y : Nat) : Nat := (mI y).2.2.2.2.2
def rtT (y : Nat) : Option FieldType := (mTy y).2.2.2
def clR (c : Nat) : String := ([RX0, RX1, RX2, RX3, RX4, RX5, RX6] : List String).getD c RX0
def clT (c : Nat) : u_T := ([TX0, TX1, TX2, TX3, TX4, TX5, TX6] : List u_T).getD c TX0
def clN (c : Nat) : Nat := ([8, 4, 16, 11, 2, 8, 44] : List Nat).getD c 0
def cKi (c : Nat) : Nat := ([2, 4, 0, 5, 8, 7, 12] : List Nat).getD c 99
/-- field links: own class, index; class, slot, nest mate (1), place in lw_tbl -/
def fls : List (Nat × Nat × Nat × Nat × Nat × Nat) := [(0, 9, 0, 0, 0, 154), (0, 15, 0, 1, 0, 156), (0, 18, 0, 2, 0, 159), (0, 21, 0, 3, 0, 160), (0, 24, 0, 4, 0, 162), (0, 27, 0, 5, 0, 165), (0, 30, 0, 6, 0, 168), (0, 33, 0, 7, 0, 171), (1, 11, 1, 0, 0, 196), (1, 15, 1, 1, 0, 198), (1, 18, 1, 2, 0, 201), (1, 21, 1, 3, 0, 204), (2, 11, 2, 0, 0, 216), (2, 17, 2, 1, 0, 218), (2, 23, 2, 2, 0, 220), (2, 27, 2, 3, 0, 222), (2, 30, 2, 4, 0, 224), (2, 33, 2, 5, 0, 226), (2, 36, 2, 6, 0, 227), (2, 39, 2, 7, 0, 228), (2, 42, 2, 8, 0, 229), (2, 45, 2, 9, 0, 231), (2, 48, 2, 10, 0, 233), (2, 51, 2, 11, 0, 235), (2, 54, 2, 12, 0, 237), (2, 57, 2, 13, 0, 239), (2, 61, 2, 14, 0, 241), (2, 67, 2, 15, 0, 243), (2, 80, 1, 0, 1, 197), (2, 94, 0, 4, 1, 164), (2, 100, 0, 6, 1, 170), (2, 103, 0, 7, 1, 172), (2, 106, 3, 0, 1, 102), (2, 123, 3, 1, 1, 105), (2, 130, 0, 5, 1, 167), (2, 148, 1, 2, 1, 203), (2, 151, 0, 1, 1, 158), (2, 163, 1, 1, 1, 200), (2, 173, 3, 8, 1, 120), (2, 176, 1, 3, 1, 206), (3, 9, 3, 9, 0, 121), (3, 15, 3, 0, 0, 101), (3, 19, 3, 1, 0, 103), (3, 22, 3, 2, 0, 106), (3, 25, 3, 3, 0, 108), (3, 28, 3, 4, 0, 110), (3, 31, 3, 5, 0, 112), (3, 34, 3, 6, 0, 114), (3, 37, 3, 7, 0, 116), (3, 40, 3, 8, 0, 118), (3, 43, 3, 10, 0, 123), (4, 9, 4, 0, 0, 284), (4, 15, 4, 1, 0, 285), (5, 10, 5, 0, 0, 292), (5, 16, 5, 1, 0, 293), (5, 19, 5, 2, 0, 294), (5, 22, 5, 3, 0, 295), (5, 29, 5, 4, 0, 296), (5, 33, 5, 5, 0, 297), (5, 37, 5, 6, 0, 298), (5, 41, 5, 7, 0, 299), (5, 48, 4, 1, 1, 286), (5, 73, 2, 0, 1, 217), (5, 77, 0, 0, 1, 155), (5, 82, 0, 1, 1, 157), (5, 85, 0, 4, 1, 163), (5, 88, 0, 5, 1, 166), (5, 91, 2, 10, 1, 234), (5, 97, 0, 3, 1, 161), (5, 127, 2, 15, 1, 244), (5, 131, 3, 1, 1, 104), (5, 136, 2, 3, 1, 223), (5, 139, 2, 2, 1, 221), (5, 143, 1, 1, 1, 199), (5, 148, 1, 2, 1, 202), (5, 151, 1, 3, 1, 205), (5, 157, 3, 2, 1, 107), (5, 160, 3, 6, 1, 115), (5, 163, 3, 7, 1, 117), (5, 166, 3, 8, 1, 119), (5, 172, 0, 6, 1, 169), (5, 189, 2, 1, 1, 219), (5, 195, 3, 3, 1, 109), (5, 201, 3, 4, 1, 111), (5, 204, 3, 5, 1, 113), (5, 210, 0, 7, 1, 173), (5, 213, 2, 13, 1, 240), (5, 216, 2, 4, 1, 225), (5, 228, 3, 10, 1, 124), (5, 231, 3, 9, 1, 122), (5, 241, 2, 8, 1, 230), (5, 244, 2, 11, 1, 236), (5, 247, 2, 9, 1, 232), (5, 250, 2, 12, 1, 238), (5, 253, 2, 14, 1, 242), (6, 7, 6, 0, 0, 758), (6, 13, 6, 1, 0, 759), (6, 16, 6, 2, 0, 760), (6, 19, 6, 3, 0, 761), (6, 22, 6, 4, 0, 762), (6, 25, 6, 5, 0, 763), (6, 28, 6, 6, 0, 764), (6, 31, 6, 7, 0, 765), (6, 34, 6, 8, 0, 766), (6, 37, 6, 9, 0, 767), (6, 40, 6, 14, 0, 772), (6, 43, 6, 15, 0, 773), (6, 46, 6, 16, 0, 774), (6, 49, 6, 17, 0, 775), (6, 52, 6, 21, 0, 779), (6, 55, 6, 25, 0, 783), (6, 58, 6, 26, 0, 784), (6, 61, 6, 27, 0, 785), (6, 64, 6, 28, 0, 786), (6, 67, 6, 41, 0, 799), (6, 70, 6, 12, 0, 770), (6, 75, 6, 38, 0, 796), (6, 79, 6, 10, 0, 768), (6, 86, 6, 18, 0, 776), (6, 93, 6, 19, 0, 777), (6, 117, 6, 20, 0, 778), (6, 140, 6, 11, 0, 769), (6, 157, 6, 23, 0, 781), (6, 161, 6, 24, 0, 782), (6, 171, 6, 13, 0, 771), (6, 174, 6, 22, 0, 780), (6, 205, 6, 33, 0, 791), (6, 211, 6, 39, 0, 797), (6, 218, 6, 31, 0, 789), (6, 224, 6, 30, 0, 788), (6, 227, 6, 32, 0, 790), (6, 230, 6, 37, 0, 795), (6, 242, 6, 29, 0, 787), (6, 254, 6, 35, 0, 793), (6, 257, 6, 36, 0, 794), (6, 260, 6, 34, 0, 792), (6, 278, 6, 40, 0, 798), (6, 302, 6, 42, 0, 800), (6, 305, 6, 43, 0, 801)]
def fre (own idx : Nat) : Option (Nat × Nat × Nat × Nat) := (fls.find? (fun r => r.1 == own && r.2.1 == idx)).map (fun r => r.2.2)
/-- calls: own class, index; method (1000 Math.min, 1001 String.indexOf), nest mate (1), place in lw_tbl -/
def cls_ : List (Nat × Nat × Nat × Nat × Nat) := [(0, 36, 2, 0, 475), (0, 40, 78, 1, 478), (0, 44, 1000, 0, 527), (0, 49, 3, 0, 556), (2, 73, 0, 0, 445), (2, 77, 8, 0, 449), (2, 83, 9, 0, 536), (2, 87, 67, 1, 468), (2, 91, 1, 0, 471), (2, 97, 28, 0, 507), (2, 109, 22, 0, 511), (2, 113, 21, 0, 528), (2, 117, 25, 0, 548), (2, 120, 26, 0, 564), (2, 126, 12, 0, 532), (2, 133, 29, 0, 540), (2, 137, 10, 0, 544), (2, 141, 23, 0, 515), (2, 144, 24, 0, 519), (2, 154, 4, 0, 523), (2, 157, 5, 0, 552), (2, 160, 30, 0, 560), (2, 164, 27, 0, 568), (2, 167, 1000, 0, 580), (2, 180, 6, 0, 572), (2, 183, 7, 0, 576), (4, 19, 32, 0, 345), (4, 23, 161, 0, 337), (4, 26, 35, 0, 341), (4, 29, 36, 0, 349), (4, 35, 1001, 0, 354), (5, 44, 66, 0, 321), (5, 51, 31, 0, 325), (5, 55, 34, 0, 333), (5, 59, 11, 0, 441), (5, 63, 79, 0, 453), (5, 67, 35, 0, 581), (5, 70, 12, 0, 587), (5, 94, 3, 0, 588), (5, 100, 67, 0, 493), (5, 104, 14, 0, 481), (5, 114, 16, 0, 597), (5, 117, 17, 0, 494), (5, 121, 13, 0, 499), (5, 124, 20, 0, 503), (5, 154, 70, 0, 613), (5, 169, 19, 0, 617), (5, 173, 69, 0, 629), (5, 176, 72, 0, 637), (5, 179, 74, 0, 645), (5, 183, 71, 0, 658), (5, 186, 68, 0, 670), (5, 192, 7, 0, 673), (5, 198, 15, 0, 682), (5, 207, 73, 0, 694), (5, 219, 162, 0, 706), (5, 222, 78, 0, 713), (5, 225, 75, 0, 714), (5, 234, 76, 0, 730), (5, 237, 77, 0, 735), (5, 259, 32, 0, 457), (5, 264, 1001, 0, 459), (5, 269, 33, 0, 460), (5, 272, 18, 0, 464), (5, 276, 80, 0, 485), (6, 82, 84, 0, 895), (6, 89, 81, 0, 898), (6, 96, 89, 0, 910), (6, 100, 83, 0, 929), (6, 104, 91, 0, 918), (6, 107, 93, 0, 921), (6, 111, 90, 0, 925), (6, 114, 92, 0, 932), (6, 120, 94, 0, 914), (6, 123, 86, 0, 959), (6, 126, 87, 0, 962), (6, 129, 97, 0, 965), (6, 133, 96, 0, 951), (6, 137, 98, 0, 955), (6, 143, 128, 0, 969), (6, 147, 95, 0, 906), (6, 150, 103, 0, 935), (6, 154, 99, 0, 947), (6, 164, 101, 0, 939), (6, 168, 102, 0, 943), (6, 177, 106, 0, 1020), (6, 180, 108, 0, 1039), (6, 183, 107, 0, 1024), (6, 186, 109, 0, 1013), (6, 190, 112, 0, 1009), (6, 193, 113, 0, 1016), (6, 196, 111, 0, 997), (6, 199, 116, 0, 1001), (6, 202, 114, 0, 1005), (6, 208, 115, 0, 993), (6, 214, 117, 0, 1027), (6, 221, 118, 0, 1031), (6, 233, 120, 0, 1055), (6, 236, 121, 0, 1051), (6, 239, 110, 0, 1043), (6, 245, 125, 0, 985), (6, 248, 119, 0, 989), (6, 251, 123, 0, 1035), (6, 263, 122, 0, 1047), (6, 266, 126, 0, 977), (6, 269, 124, 0, 981), (6, 272, 127, 0, 973), (6, 275, 129, 0, 1099), (6, 281, 85, 0, 1071), (6, 284, 130, 0, 1095), (6, 287, 140, 0, 1119), (6, 290, 82, 0, 1131), (6, 293, 143, 0, 1136), (6, 296, 148, 0, 1156), (6, 299, 151, 0, 1168), (6, 311, 158, 0, 1196)]
def cre (own idx : Nat) : Option (Nat × Nat × Nat) := (cls_.find? (fun r => r.1 == own && r.2.1 == idx)).map (fun r => r.2.2)
def kos : List (Nat × Nat × Int32 × Nat) := [(2, 60, 1000000, 94), (5, 182, 1000000000, 657), (5, 256, 1664525, 733), (5, 257, 1013904223, 734), (5, 258, 2147483647, 738), (6, 74, 100000, 757), (6, 78, 1000000000, 1135), (6, 308, 1664525, 1200), (6, 309, 1013904223, 1201), (6, 310, 2147483647, 1202)]
def kre (own idx : Nat) : Option (Int32 × Nat) := (kos.find? (fun r => r.1 == own && r.2.1 == idx)).map (fun r => r.2.2)
def sre (own idx : Nat) : Option Nat := if own = 4 ∧ idx = 33 then some 35 else if own = 4 ∧ idx = 40 then some 36 else if own = 5 ∧ idx = 262 then some 35 else if own = 5 ∧ idx = 280 then some 36 else none
def gre (own idx : Nat) : Option (Nat × Nat) := if own = 5 ∧ idx = 108 then some (33, 489) else if own = 5 ∧ idx = 111 then some (34, 491) else none
/-- where a field that holds a reference leads -/
def tgs : List (Nat × Nat × (Nat → Cd)) := [(0, 0, fun g => (g, 1, 0)), (0, 2, fun g => (g, 3, 0)), (0, 15, fun g => (g, 5, 0)), (5, 9, fun g => (g, 6, 0)), (7, 0, fun g => (1, 0, 0)), (7, 1, fun g => (2, 0, 0)), (7, 2, fun g => (3, 0, 0)), (7, 4, fun g => (0, 8, 0)), (7, 5, fun g => (0, 10, 0)), (7, 7, fun g => (0, 11, 0)), (8, 0, fun g => (0, 9, 0)), (12, 0, fun g => (4, 13, 0)), (12, 1, fun g => (4, 14, 0)), (12, 2, fun g => (4, 15, 0)), (12, 3, fun g => (4, 16, 0)), (12, 4, fun g => (4, 17, 0)), (12, 5, fun g => (4, 18, 0)), (12, 6, fun g => (4, 19, 0)), (12, 7, fun g => (4, 20, 0)), (12, 8, fun g => (4, 21, 0)), (12, 9, fun g => (4, 22, 0)), (12, 14, fun g => (4, 23, 0)), (12, 15, fun g => (4, 24, 0)), (12, 16, fun g => (4, 25, 0)), (12, 17, fun g => (4, 26, 0)), (12, 21, fun g => (4, 27, 0)), (12, 25, fun g => (4, 28, 0)), (12, 26, fun g => (4, 29, 0)), (12, 27, fun g => (4, 30, 0)), (12, 28, fun g => (4, 31, 0)), (12, 41, fun g => (4, 32, 0))]
def tgf (k j : Nat) : Option (Nat → Cd) := (tgs.find? (fun r => r.1 == k && r.2.1 == j)).map (fun r => r.2.2)
/-- boolean fields, by kind and slot -/
def isZ (k j : Nat) : Bool := (k == 4 && j == 3) || (k == 7 && j == 3) || (k == 12 && j == 22) || (k == 12 && j == 23)
def alens : List Nat := [0, 0, 0, 0, 0, 0, 20, 0, 0, 96, 20, 6, 0, 7, 7, 4, 4, 4, 4, 3, 3, 3, 3, 96, 48, 48, 192, 100, 4, 4, 4, 800, 20, 7, 7, 0, 0]
def alen (k : Nat) : Nat := alens.getD k 0
/-- what the constant rows hold -/
def stV (k n : Nat) : Int32 := if k = 33 then ([1, 10, 1, 1, 20, 0, 0] : List Int32).getD n 0 else ([3, 40, 9, 20, 120, 120, 5] : List Int32).getD n 0
/-- indexOf in a constant text -/
def ixB (k : Nat) : List Int32 := if k = 35 then [108, 99, 119, 116, 98, 115] else [102, 101, 114, 113, 115, 108]
def ixF (c : Int32) : List Int32 → Nat → Int32
  | [], _ => -1
  | b :: r, n => if b = c then nI n else ixF c r (n + 1)
def ix (k : Nat) (c : Int32) : Int32 := ixF c (ixB k) 0
def cnB : _root_.Jvm.ClassFile.Cond → Int32 → Int32 → Bool
  | .eq, a, b => decide (a = b)
  | .ne, a, b => decide (¬ a = b)
  | .lt, a, b => decide (a < b)
  | .ge, a, b => decide (b ≤ a)
  | .gt, a, b => decide (b < a)
  | .le, a, b => decide (a ≤ b)
def vpB (i : Int32) (n : Nat) : Bool := decide (¬ (i < 0 ∨ n ≤ i.toNatClampNeg))
abbrev Oc : Type := Option (Rs ⊕ Ss)
def nx (pc : Nat) (ls st : List AV) (M : Mm) : Oc := some (.inr (pc, ls, st, M))
def jmp (pc : Nat) (off : Int) (ls st : List AV) (M : Mm) : Oc := if 0 ≤ (pc : Int) + off then nx ((pc : Int) + off).toNat ls st M else none
/-- two ints on the stack -/
def bin (f : Int32 → Int32 → Option Int32) (pc : Nat) (ls st : List AV) (M : Mm) : Oc := match st with
  | some (.inl b) :: some (.inl a) :: r => (match f a b with | some x => nx (pc + 1) ls (aI x :: r) M | none => none)
  | _ => none
def una (f : Int32 → Int32) (pc : Nat) (ls st : List AV) (M : Mm) : Oc := match st with
  | some (.inl a) :: r => nx (pc + 1) ls (aI (f a) :: r) M
  | _ => none
def ldi (i n pc : Nat) (ls st : List AV) (M : Mm) : Oc := match ls[i]? with
  | some (some (.inl x)) => nx (pc + n) ls (aI x :: st) M
  | _ => none
def lda (i n pc : Nat) (ls st : List AV) (M : Mm) : Oc := match ls[i]? with
  | some (some (.inr c)) => nx (pc + n) ls (some (.inr c) :: st) M
  | _ => none
def sti (i n pc : Nat) (ls st : List AV) (M : Mm) : Oc := match st with
  | some (.inl x) :: r => if i < ls.length then nx (pc + n) (ls.set i (aI x)) r M else none
  | _ => none
def sta (i n pc : Nat) (ls st : List AV) (M : Mm) : Oc := match st with
  | some (.inr c) :: r => if i < ls.length then nx (pc + n) (ls.set i (some (.inr c))) r M else none
  | _ => none
def inc (i : Nat) (k : Int) (pc : Nat) (ls st : List AV) (M : Mm) : Oc := match ls[i]? with
  | some (some (.inl x)) => nx (pc + 3) (ls.set i (aI (x + Int32.ofInt k))) st M
  | _ => none
def if1 (cd : _root_.Jvm.ClassFile.Cond) (off : Int) (pc : Nat) (ls st : List AV) (M : Mm) : Oc := match st with
  | some (.inl a) :: r => if 0 ≤ (pc : Int) + off then (if cnB cd a 0 = true then jmp pc off ls r M else nx (pc + 3) ls r M) else none
  | _ => none
def if2 (cd : _root_.Jvm.ClassFile.Cond) (off : Int) (pc : Nat) (ls st : List AV) (M : Mm) : Oc := match st with
  | some (.inl b) :: some (.inl a) :: r => if 0 ≤ (pc : Int) + off then (if cnB cd a b = true then jmp pc off ls r M else nx (pc + 3) ls r M) else none
  | _ => none
def tsw (d lo hi : Int) (offs : Array Int) (pc : Nat) (ls st : List AV) (M : Mm) : Oc := match st with
  | some (.inl x) :: r => if x.toInt < lo ∨ hi < x.toInt then jmp pc d ls r M else (match offs[(x.toInt - lo).toNat]? with | some off => jmp pc off ls r M | none => none)
  | _ => none
def lsw (d : Int) (ps : Array (Int × Int)) (pc : Nat) (ls st : List AV) (M : Mm) : Oc := match st with
  | some (.inl x) :: r => if (ps.toList.zip (ps.toList.drop 1)).all (fun (a, next) => a.1 < next.1) = true then jmp pc (Op.lookupswitch.offset ps.toList d x.toInt) ls r M else none
  | _ => none
def dp1 (pc : Nat) (ls st : List AV) (M : Mm) : Oc := match st with
  | some a :: r => nx (pc + 1) ls (some a :: some a :: r) M
  | _ => none
def dp2 (pc : Nat) (ls st : List AV) (M : Mm) : Oc := match st with
  | some a :: some b :: r => nx (pc + 1) ls (some a :: some b :: some a :: some b :: r) M
  | _ => none
def pp1 (pc : Nat) (ls st : List AV) (M : Mm) : Oc := match st with
  | some _ :: r => nx (pc + 1) ls r M
  | _ => none
def gfd (own idx pc : Nat) (ls st : List AV) (M : Mm) : Oc := match fre own idx with
  | some (ci, j, _) => (match st with
    | some (.inr (g, k, i)) :: r => if k = cKi ci then (match tgf k j with | some f => nx (pc + 3) ls (some (.inr (f g)) :: r) M | none => nx (pc + 3) ls (aI (M g k i j) :: r) M) else none
    | _ => none)
  | _ => none
def pfd (own idx pc : Nat) (ls st : List AV) (M : Mm) : Oc := match fre own idx with
  | some (ci, j, _) => (match st with
    | some (.inl v) :: some (.inr (g, k, i)) :: r => if k = cKi ci ∧ (tgf k j).isNone = true ∧ (isZ k j = true → v = 0 ∨ v = 1) then nx (pc + 3) ls r (wr M g k i j v) else none
    | _ => none)
  | _ => none
def gst (own idx pc : Nat) (ls st : List AV) (M : Mm) : Oc := match gre own idx with
  | some (k, _) => nx (pc + 3) ls (aR 9 k 0 :: st) M
  | _ => none
def ldk (own idx n pc : Nat) (ls st : List AV) (M : Mm) : Oc := match kre own idx with
  | some (v, _) => nx (pc + n) ls (aI v :: st) M
  | none => (match sre own idx with | some k => nx (pc + n) ls (aR 9 k 0 :: st) M | none => none)
def rdA (M : Mm) (g k i n : Nat) : Int32 := if 33 ≤ k then stV k n else M g k i n
def ial (pc : Nat) (ls st : List AV) (M : Mm) : Oc := match st with
  | some (.inl i) :: some (.inr (g, k, j)) :: r => if vpB i (alen k) = true then nx (pc + 1) ls (aI (rdA M g k j i.toNatClampNeg) :: r) M else none
  | _ => none
def ias (pc : Nat) (ls st : List AV) (M : Mm) : Oc := match st with
  | some (.inl v) :: some (.inl i) :: some (.inr (g, k, j)) :: r => if vpB i (alen k) = true ∧ k < 33 then nx (pc + 1) ls r (wr M g k j i.toNatClampNeg v) else none
  | _ => none
def aal (pc : Nat) (ls st : List AV) (M : Mm) : Oc := match st with
  | some (.inl i) :: some (.inr (g, k, _)) :: r => if k = 1 ∧ vpB i 4 = true then nx (pc + 1) ls (aR g 2 i.toNatClampNeg :: r) M else if k = 3 ∧ vpB i 3 = true then nx (pc + 1) ls (aR g 4 i.toNatClampNeg :: r) M else none
  | _ => none
def aln (pc : Nat) (ls st : List AV) (M : Mm) : Oc := match st with
  | some (.inr (_, k, _)) :: r => if 0 < alen k ∧ k < 33 then nx (pc + 1) ls (aI (Int32.ofNat (alen k)) :: r) M else none
  | _ => none
def rcv (as : List AV) (ci : Nat) : Bool := match as with
  | some (.inr (_, k, _)) :: _ => k == cKi ci
  | _ => false
/-- a call: the callee's values off the stack, the last on top -/
def ivk (cal : Nat → List AV → Mm → Option Rs) (lv own idx : Nat) (stc : Bool) (pc : Nat) (ls st : List AV) (M : Mm) : Oc := match cre own idx with
  | some (y, _) =>
    if y = 1000 then (if st.length ≤ 10 ∧ stc = true then bin (fun a b => some (if b < a then b else a)) (pc + 2) ls st M else none)
    else if y = 1001 then (match st with
      | some (.inl c) :: some (.inr (_, k, _)) :: r => if (k = 35 ∨ k = 36) ∧ r.length ≤ 8 ∧ stc = false ∧ 4 ≤ lv then nx (pc + 3) ls (aI (ix k c) :: r) M else none
      | _ => none)
    else
      let n := if stc then mnp y else mnp y + 1
      if y < 163 ∧ mst y = stc ∧ n ≤ st.length ∧ (st.drop n).length ≤ 8 ∧ (stc = true ∨ rcv (st.take n).reverse (mcl y) = true) then (match cal y (st.take n).reverse M with
        | some (v, M') => if v.isNone = decide (mrt y = 0) then nx (pc + 3) ls (v.toList.map aI ++ st.drop n) M' else none
        | none => none) else none
  | _ => none
def irt (y : Nat) (st : List AV) (M : Mm) : Oc := match st with
  | [some (.inl v)] => if mrt y = 1 ∨ (mrt y = 2 ∧ (v = 0 ∨ v = 1)) then some (.inl (some v, M)) else none
  | _ => none
def stpI (cal : Nat → List AV → Mm → Option Rs) (y pc n : Nat) (ins : Instr) (ls st : List AV) (M : Mm) : Oc :=
  match ins with
  | .iconst k => nx (pc + 1) ls (aI (Int32.ofInt k) :: st) M
  | .bipush k => nx (pc + 2) ls (aI (Int8.ofInt k).toInt32 :: st) M
  | .sipush k => nx (pc + 3) ls (aI (Int16.ofInt k).toInt32 :: st) M
  | .iload_n k => ldi k 1 pc ls st M
  | .iload i => ldi i 2 pc ls st M
  | .aload_n k => lda k 1 pc ls st M
  | .aload i => lda i 2 pc ls st M
  | .istore_n k => sti k 1 pc ls st M
  | .istore i => sti i 2 pc ls st M
  | .astore_n k => sta k 1 pc ls st M
  | .astore i => sta i 2 pc ls st M
  | .iinc i k => inc i k pc ls st M
  | .iadd => bin (fun a b => some (a + b)) pc ls st M
  | .isub => bin (fun a b => some (a - b)) pc ls st M
  | .imul => bin (fun a b => some (a * b)) pc ls st M
  | .idiv => bin (fun a b => if b = 0 then none else some (a / b)) pc ls st M
  | .irem => bin (fun a b => if b = 0 then none else some (a - a / b * b)) pc ls st M
  | .iand => bin (fun a b => some (a &&& b)) pc ls st M
  | .ior => bin (fun a b => some (a ||| b)) pc ls st M
  | .ixor => bin (fun a b => some (a ^^^ b)) pc ls st M
  | .ishl => bin (fun a b => some (a <<< (b &&& 31))) pc ls st M
  | .ineg => una (fun a => -a) pc ls st M
  | .i2c => una (fun a => (a.toUInt32 % 65536).toInt32) pc ls st M
  | .ifCond c off => if1 c off pc ls st M
  | .if_icmp c off => if2 c off pc ls st M
  | .goto off => jmp pc off ls st M
  | .tableswitch d lo hi offs => tsw d lo hi offs pc ls st M
  | .lookupswitch d ps => lsw d ps pc ls st M
  | .dup => dp1 pc ls st M
  | .dup2 => dp2 pc ls st M
  | .pop => pp1 pc ls st M
  | .getfield idx => gfd (mcl y) idx pc ls st M
  | .putfield idx => pfd (mcl y) idx pc ls st M
  | .getstatic idx => gst (mcl y) idx pc ls st M
  | .ldc idx => ldk (mcl y) idx 2 pc ls st M
  | .ldc_w idx => ldk (mcl y) idx 3 pc ls st M
  | .iaload => ial pc ls st M
  | .iastore => ias pc ls st M
  | .aaload => aal pc ls st M
  | .arraylength => aln pc ls st M
  | .invokevirtual idx => ivk cal (lvl y) (mcl y) idx false pc ls st M
  | .invokestatic idx => ivk cal (lvl y) (mcl y) idx true pc ls st M
  | .ireturn => irt y st M
  | .return_ => if mrt y = 0 ∧ st = [] then some (.inl (none, M)) else none
  | _ => none
/-- the length that the rows of the kit ask for -/
def lenOk (ins : Instr) (n : Nat) : Bool :=
  match ins with
  | .bipush _ | .iload _ | .aload _ | .istore _ | .astore _ | .ldc _ => n == 2
  | .sipush _ | .iinc _ _ | .ifCond _ _ | .if_icmp _ _ | .goto _ | .getfield _ | .putfield _ | .getstatic _ | .ldc_w _ | .invokevirtual _ | .invokestatic _ => n == 3
  | .tableswitch _ _ _ _ | .lookupswitch _ _ => true
  | _ => n == 1
def stp (cal : Nat → List AV → Mm → Option Rs) (y : Nat) (q : Ss) : Oc :=
  match decode (cod y) q.1 with
  | .ok (ins, n) => if lenOk ins n = true then stpI cal y q.1 n ins q.2.1 q.2.2.1 q.2.2.2 else none
  | .error _ => none
/-! runs -/
def runN (f : Ss → Oc) : Nat → Ss → Option Rs
  | 0, _ => none
  | n + 1, s => match f s with
    | none => none
    | some (.inl r) => some r
    | some (.inr s') => runN f n s'
theorem runN_one {f : Ss → Oc} : ∀ {n : Nat} {s : Ss} {r : Rs}, runN f n s = some r → runN f (n + 1) s = some r := by
  intro n
  induction n with
  | zero => intro s r h; cases h
  | succ n ih =>
    intro s r h
    rw [runN] at h ⊢
    split at h
    · cases h
    · exact h
    · rename_i s' e
      exact ih h
theorem runN_add {f : Ss → Oc} {n : Nat} {s : Ss} {r : Rs} (h : runN f n s = some r) : ∀ k, runN f (n + k) s = some r
  | 0 => h
  | k + 1 => runN_one (runN_add h k)
theorem runN_uni {f : Ss → Oc} {n m : Nat} {s : Ss} {r q : Rs} (h : runN f n s = some r) (h2 : runN f m s = some q) : r = q := by
  have a := runN_add h m
  have b := runN_add h2 n
  rw [Nat.add_comm] at b
  exact Option.some.inj (a.symm.trans b)
noncomputable def runF (f : Ss → Oc) (s : Ss) : Option Rs := @dite (Option Rs) (∃ r, ∃ n, runN f n s = some r) (Classical.propDecidable _) (fun h => some (Classical.choose h)) (fun _ => none)
theorem runF_of {f : Ss → Oc} {s : Ss} {r : Rs} {n : Nat} (h : runN f n s = some r) : runF f s = some r := by
  have hx : ∃ r, ∃ n, runN f n s = some r := ⟨r, n, h⟩
  unfold runF
  rw [dif_pos hx]
  obtain ⟨m, hm⟩ := Classical.choose_spec hx
  exact congrArg some (runN_uni hm h)
theorem runF_some {f : Ss → Oc} {s : Ss} {r : Rs} (h : runF f s = some r) : ∃ n, runN f n s = some r := by
  unfold runF at h
  split at h
  · rename_i hx
    obtain ⟨m, hm⟩ := Classical.choose_spec hx
    cases h
    exact ⟨m, hm⟩
  · cases h
theorem runF_eq (f : Ss → Oc) (s : Ss) : runF f s = match f s with | none => none | some (.inl r) => some r | some (.inr s') => runF f s' := by
  cases e : f s with
  | none =>
    cases h : runF f s with
    | none => rfl
    | some r =>
      obtain ⟨n, hn⟩ := runF_some h
      cases n with
      | zero => cases hn
      | succ n => rw [runN, e] at hn; cases hn
  | some q =>
    cases q with
    | inl r => exact runF_of (n := 1) (by rw [runN, e])
    | inr s' =>
      show runF f s = runF f s'
      cases h : runF f s' with
      | some r =>
        obtain ⟨n, hn⟩ := runF_some h
        exact runF_of (n := n + 1) (by rw [runN, e]; exact hn)
      | none =>
        cases h2 : runF f s with
        | none => rfl
        | some r =>
          obtain ⟨n, hn⟩ := runF_some h2
          cases n with
          | zero => cases hn
          | succ n =>
            rw [runN, e] at hn
            rw [runF_of hn] at h
            cases h
/-- a callee must lie below its caller -/
def gd (cal : Nat → List AV → Mm → Option Rs) (y : Nat) : Nat → List AV → Mm → Option Rs := fun y' as M => if lvl y' < lvl y then cal y' as M else none
def ini (y : Nat) (as : List AV) (M : Mm) : Ss := (0, as ++ List.replicate (mxL y - as.length) none, [], M)
noncomputable def callL : Nat → Nat → List AV → Mm → Option Rs
  | 0 => fun _ _ _ => none
  | n + 1 => fun y as M => if lvl y = n then runF (stp (gd (callL n) y) y) (ini y as M) else callL n y as M
noncomputable def call (y : Nat) : List AV → Mm → Option Rs := callL (lvl y + 1) y
theorem callL_up {y : Nat} : ∀ {n : Nat}, lvl y < n → callL n y = call y := by
  intro n
  induction n with
  | zero => intro h; exact absurd h (Nat.not_lt_zero _)
  | succ n ih =>
    intro h
    by_cases e : lvl y = n
    · unfold call
      rw [e]
    · have : callL (n + 1) y = callL n y := by
        funext as M
        show (if lvl y = n then _ else callL n y as M) = _
        rw [if_neg e]
      rw [this]
      exact ih (by omega)
theorem gd_call (y : Nat) : gd (callL (lvl y)) y = gd call y := by
  funext y' as M
  unfold gd
  by_cases h : lvl y' < lvl y
  · rw [if_pos h, if_pos h, callL_up h]
  · rw [if_neg h, if_neg h]
noncomputable def run (y : Nat) (pc : Nat) (ls st : List AV) (M : Mm) : Option Rs := runF (stp (gd call y) y) (pc, ls, st, M)
theorem call_run (y : Nat) (as : List AV) (M : Mm) : call y as M = run y 0 (as ++ List.replicate (mxL y - as.length) none) [] M := by
  unfold call run
  show (if lvl y = lvl y then runF (stp (gd (callL (lvl y)) y) y) (ini y as M) else _) = _
  rw [if_pos rfl, gd_call]
  rfl
theorem run_step {y pc : Nat} {ls st : List AV} {M : Mm} {ins : Instr} {n : Nat} (h : decode (cod y) pc = .ok (ins, n)) (hl : lenOk ins n = true) : run y pc ls st M = match stpI (gd call y) y pc n ins ls st M with | none => none | some (.inl r) => some r | some (.inr s') => run y s'.1 s'.2.1 s'.2.2.1 s'.2.2.2 := by
  unfold run
  rw [runF_eq]
  have : stp (gd call y) y (pc, ls, st, M) = stpI (gd call y) y pc n ins ls st M := by
    unfold stp
    rw [h]
    simp only [hl, if_true]
  rw [this]
