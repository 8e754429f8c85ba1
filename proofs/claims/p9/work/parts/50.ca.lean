/-! THE CLASS: its field tables, constants, calls and words. -/
def gj_Mf : gx_M := (yJ7_fill_53178, cJ7_fill_53178, 4, none)
def gc_f0 : List (Nat × Nat × Nat × Nat) := [(9, 0, 1, 14), (15, 0, 2, 14), (18, 0, 4, 14), (21, 0, 5, 14), (24, 0, 7, 14), (27, 0, 8, 14), (31, 0, 9, 14), (34, 0, 15, 14), (37, 0, 16, 14), (40, 0, 19, 14), (43, 0, 20, 14), (46, 0, 21, 14), (49, 0, 0, 14), (53, 0, 3, 0), (57, 0, 6, 0), (60, 0, 11, 0), (63, 0, 13, 4), (67, 0, 14, 4), (71, 0, 12, 1), (81, 9, 4, 0), (86, 11, 15, 9), (92, 9, 0, 9), (96, 9, 2, 9), (99, 9, 3, 9), (108, 8, 0, 9), (114, 4, 1, 0), (127, 0, 10, 0), (130, 11, 13, 0), (133, 8, 6, 9), (136, 11, 14, 9), (140, 3, 1, 0), (145, 0, 17, 0), (148, 0, 18, 0), (155, 3, 4, 0), (160, 2, 5, 9), (178, 3, 0, 0), (181, 3, 5, 9), (184, 3, 6, 9), (187, 3, 7, 9), (194, 8, 8, 9), (198, 3, 10, 9), (205, 8, 16, 9)]
def gc_k0 : List (Nat × gz_V) := [(30, .inl 36000), (197, .inl 400000)]
def gc_T0 : gz_T := (gq_a gc_f0, gq_a gc_k0)
def gc_cv0 : List (Nat × gx_M × Nat) := [(75, (yX0_forget, cX0_forget, 1, none), 0), (78, (yX0_orderLins, cX0_orderLins, 4, none), 0), (102, (yX2_findSame, cX2_findSame, 7, (some .int)), 3), (119, (yX0_fillSpan, cX0_fillSpan, 7, none), 4), (151, (yX0_layForms, cX0_layForms, 5, none), 2), (156, (yX0_lay, cX0_lay, 11, none), 4), (163, (yX11_wordFun, cX11_wordFun, 2, (some .int)), 1), (167, (yX11_formValues, cX11_formValues, 6, (some .int)), 1), (170, (yX0_putWay, cX0_putWay, 5, none), 3), (174, (yX3_unite, cX3_unite, 9, (some .int)), 2), (190, (yX0_isAt, cX0_isAt, 5, (some .boolean)), 3)]
def gc_cs0 : List (Nat × gx_M × Nat) := [(123, (yX0_spanAt, cX0_spanAt, 3, (some .int)), 3), (201, (yX3_fit, cX3_fit, 5, (some .int)), 2)]
def gc_f1 : List (Nat × Nat × Nat × Nat) := [(9, 1, 3, 14), (15, 1, 5, 14), (18, 1, 6, 14), (23, 1, 10, 14), (27, 1, 11, 14), (33, 1, 12, 14), (37, 1, 13, 14), (40, 1, 15, 14), (43, 1, 16, 14), (46, 1, 18, 14), (49, 1, 0, 14), (53, 1, 2, 0), (61, 1, 1, 0), (64, 11, 15, 9), (70, 9, 0, 9), (73, 9, 1, 0), (82, 2, 5, 9), (91, 8, 4, 9), (104, 8, 9, 9), (113, 1, 4, 0), (116, 1, 7, 0), (125, 1, 8, 0), (132, 11, 8, 9), (136, 4, 1, 0), (145, 11, 11, 0), (158, 1, 9, 0), (165, 1, 14, 0), (183, 1, 17, 0), (189, 9, 7, 0), (192, 8, 0, 9), (195, 9, 9, 3), (203, 9, 5, 0), (213, 9, 4, 0), (223, 9, 2, 9), (226, 9, 3, 9), (229, 8, 6, 9)]
def gc_k1 : List (Nat × gz_V) := []
def gc_T1 : gz_T := (gq_a gc_f1, gq_a gc_k1)
def gc_cv1 : List (Nat × gx_M × Nat) := [(57, (yX9_isWord, cX9_isWord, 2, (some .boolean)), 0), (76, (yX2_findSame, cX2_findSame, 7, (some .int)), 3), (97, (yX11_wordFun, cX11_wordFun, 2, (some .int)), 1), (101, (yX11_wordCost, cX11_wordCost, 2, (some .int)), 1), (107, (yX11_formValues, cX11_formValues, 6, (some .int)), 1), (128, (yX1_countEndings, cX1_countEndings, 6, none), 3), (148, (yX11_cellsOf, cX11_cellsOf, 2, (some .int)), 1), (151, (yX2_endsWith, cX2_endsWith, 7, (some .boolean)), 4), (155, (yX11_wordPattern, cX11_wordPattern, 2, (some .int)), 1), (168, (yX1_readQuestion, cX1_readQuestion, 5, (some .boolean)), 1), (172, (yX9_putBytes, cX9_putBytes, 5, none), 3), (176, (yX9_split, cX9_split, 4, (some .boolean)), 0), (179, (yX1_searchWords, cX1_searchWords, 7, none), 3), (186, (yX9_rewind, cX9_rewind, 1, none), 0), (199, (yX4_find, cX4_find, 4, (some .int)), 1), (206, (yX9_lettersSize, cX9_lettersSize, 1, (some .int)), 0), (210, (yX9_advance, cX9_advance, 3, none), 0), (215, (yX1_kindsOf, cX1_kindsOf, 6, (some .int)), 2), (219, (yX1_fitsAt, cX1_fitsAt, 7, (some .boolean)), 3)]
def gc_cs1 : List (Nat × gx_M × Nat) := [(110, (yX11_shiftOf, cX11_shiftOf, 1, (some .int)), 1), (119, gj_Mi, 2), (139, gj_Mf, 2)]
def gc_f2 : List (Nat × Nat × Nat × Nat) := [(10, 2, 1, 14), (16, 2, 2, 14), (20, 2, 3, 14), (23, 2, 4, 14), (26, 2, 5, 14), (29, 2, 6, 4), (32, 2, 7, 4), (35, 2, 0, 14), (44, 2, 8, 0), (48, 11, 11, 0), (53, 2, 9, 0), (56, 11, 6, 0), (88, 11, 10, 9), (91, 11, 12, 9), (94, 9, 0, 9), (99, 9, 1, 0), (104, 11, 7, 9), (119, 11, 5, 9)]
def gc_k2 : List (Nat × gz_V) := [(9, .inl 36864)]
def gc_T2 : gz_T := (gq_a gc_f2, gq_a gc_k2)
def gc_cv2 : List (Nat × gx_M × Nat) := [(59, (yX11_cellsOf, cX11_cellsOf, 2, (some .int)), 1), (63, (yX2_join, cX2_join, 13, (some .int)), 3), (67, (yX2_soundAll, cX2_soundAll, 6, (some .int)), 2), (81, (yX2_endsWith, cX2_endsWith, 7, (some .boolean)), 4), (85, (yX11_wordPattern, cX11_wordPattern, 2, (some .int)), 1), (101, (yX2_soundOnce, cX2_soundOnce, 9, (some .int)), 3), (107, (yX2_fitsAt, cX2_fitsAt, 8, (some .int)), 5), (111, (yX2_leftFits, cX2_leftFits, 8, (some .boolean)), 3), (115, (yX2_rightFits, cX2_rightFits, 7, (some .boolean)), 4)]
def gc_cs2 : List (Nat × gx_M × Nat) := [(77, (yX2_hash, cX2_hash, 5, (some .int)), 3), (38, gj_Mf, 2)]
def gc_f3 : List (Nat × Nat × Nat × Nat) := [(9, 3, 5, 14), (15, 3, 6, 14), (18, 3, 7, 14), (21, 3, 9, 14), (24, 3, 10, 14), (27, 3, 11, 14), (30, 3, 13, 14), (33, 3, 15, 14), (36, 3, 12, 0), (46, 3, 8, 0), (49, 3, 14, 0)]
def gc_k3 : List (Nat × gz_V) := []
def gc_T3 : gz_T := (gq_a gc_f3, gq_a gc_k3)
def gc_cv3 : List (Nat × gx_M × Nat) := []
def gc_cs3 : List (Nat × gx_M × Nat) := [(40, gj_Mx, 2)]
def gc_f4 : List (Nat × Nat × Nat × Nat) := [(9, 4, 0, 14), (15, 4, 1, 0)]
def gc_k4 : List (Nat × gz_V) := []
def gc_T4 : gz_T := (gq_a gc_f4, gq_a gc_k4)
def gc_cv4 : List (Nat × gx_M × Nat) := []
def gc_cs4 : List (Nat × gx_M × Nat) := []
def gc_f5 : List (Nat × Nat × Nat × Nat) := [(9, 5, 5, 14), (17, 5, 6, 14), (21, 5, 7, 14), (24, 5, 9, 4), (28, 5, 10, 4), (31, 5, 11, 14), (35, 5, 12, 14), (38, 5, 13, 14), (41, 5, 14, 14), (44, 5, 16, 14), (47, 5, 17, 14), (50, 5, 18, 14), (53, 5, 0, 14), (57, 5, 1, 14), (61, 5, 3, 1), (65, 5, 4, 1), (68, 5, 15, 0), (72, 5, 2, 4), (76, 0, 8, 9), (85, 11, 14, 9), (89, 3, 1, 0), (94, 3, 8, 0), (100, 3, 3, 0), (103, 8, 9, 9), (111, 0, 3, 0), (114, 0, 6, 0), (120, 0, 9, 9), (127, 0, 7, 9), (137, 0, 1, 9), (140, 0, 10, 0), (143, 0, 2, 9), (149, 3, 11, 9), (158, 5, 8, 0), (182, 3, 2, 0), (188, 0, 4, 9), (191, 0, 5, 9)]
def gc_k5 : List (Nat × gz_V) := [(34, .inl 48000), (130, .inr (.inl 1000000000000000000))]
def gc_T5 : gz_T := (gq_a gc_f5, gq_a gc_k5)
def gc_cv5 : List (Nat × gx_M × Nat) := [(79, (yX11_wordFun, cX11_wordFun, 2, (some .int)), 1), (97, (yX11_wordCost, cX11_wordCost, 2, (some .int)), 1), (108, (yX5_funOf, cX5_funOf, 3, (some .int)), 1), (117, (yX5_slotsOf, cX5_slotsOf, 3, (some .int)), 1), (146, (yX5_rank, cX5_rank, 4, none), 0), (152, (yX5_reach, cX5_reach, 4, none), 0), (155, (yX5_sortWays, cX5_sortWays, 3, none), 0), (161, (yX5_ownPrice, cX5_ownPrice, 4, (some .int)), 1), (164, (yX5_choose, cX5_choose, 9, none), 5), (168, (yX5_putTop, cX5_putTop, 4, none), 1), (175, (yX5_merge, cX5_merge, 8, none), 3), (179, (yX5_compare, cX5_compare, 7, (some .int)), 2), (184, (yX5_compareArguments, cX5_compareArguments, 6, (some .int)), 3), (194, (yX5_putList, cX5_putList, 8, none), 3), (197, (yX5_comesBefore, cX5_comesBefore, 3, (some .boolean)), 2)]
def gc_cs5 : List (Nat × gx_M × Nat) := [(123, (yX5_times, cX5_times, 4, (some .long)), 2), (132, gj_Ml, 2), (172, gj_Mi, 2)]
def gc_f6 : List (Nat × Nat × Nat × Nat) := [(11, 6, 9, 14), (17, 6, 10, 14), (20, 6, 11, 14), (24, 6, 13, 14), (27, 6, 14, 14), (30, 6, 16, 14), (33, 6, 17, 14), (36, 6, 18, 14), (39, 6, 0, 14), (43, 6, 1, 14), (47, 6, 3, 0), (61, 9, 5, 0), (64, 6, 5, 0), (67, 9, 7, 0), (74, 9, 9, 3), (89, 8, 0, 9), (109, 8, 2, 9), (129, 8, 5, 0), (132, 8, 4, 9), (136, 6, 2, 4), (158, 6, 4, 0), (174, 8, 18, 1), (178, 6, 7, 0), (187, 9, 8, 0), (190, 6, 6, 0), (193, 11, 1, 9), (195, 11, 2, 9), (202, 11, 3, 9), (205, 8, 17, 0), (212, 9, 0, 9), (220, 8, 3, 9), (229, 4, 1, 0), (242, 8, 1, 9), (251, 8, 6, 9), (254, 8, 7, 9), (257, 8, 9, 9), (260, 8, 8, 9), (273, 8, 13, 0), (276, 8, 14, 9), (279, 8, 15, 9), (282, 11, 0, 9), (285, 11, 4, 9), (288, 11, 5, 9), (306, 11, 6, 0), (309, 11, 7, 9), (312, 11, 8, 9), (315, 6, 8, 0), (329, 11, 9, 9), (332, 11, 10, 9), (351, 11, 11, 0), (354, 11, 12, 9), (362, 3, 1, 0), (365, 3, 11, 9), (375, 3, 3, 0), (376, 3, 4, 0), (377, 3, 8, 0), (380, 3, 5, 9), (386, 3, 2, 0), (389, 11, 13, 0), (392, 11, 14, 9), (396, 3, 0, 0), (402, 3, 6, 9), (405, 3, 7, 9), (408, 3, 9, 9), (411, 3, 10, 9), (418, 3, 12, 0), (421, 3, 14, 0), (433, 3, 13, 9), (436, 3, 15, 9), (439, 8, 10, 9), (442, 6, 12, 0), (445, 6, 15, 0), (451, 8, 11, 9), (454, 8, 12, 9)]
def gc_k6 : List (Nat × gz_V) := [(81, .inr (.inl 128021942465893)), (87, .inr (.inl 1802071652)), (97, .inr (.inl 6714734)), (102, .inr (.inl 1835360622)), (107, .inr (.inl 499967946343)), (112, .inr (.inl 1717658484)), (117, .inr (.inl 28821916864574053)), (119, .inr (.inl 30510848328168051)), (121, .inr (.inl 495791205988)), (123, .inr (.inl 31632350188499566)), (125, .inr (.inl 2003792484)), (127, .inr (.inl 7104878)), (181, .inr (.inl 1668248436)), (318, .inr (.inl 28518)), (357, .inr (.inl 6840691)), (414, .inr (.inl 418347378021)), (416, .inr (.inl 1734964837))]
def gc_T6 : gz_T := (gq_a gc_f6, gq_a gc_k6)
def gc_cv6 : List (Nat × gx_M × Nat) := [(51, (yX8_mark, cX8_mark, 2, none), 0), (56, (yX9_rewind, cX9_rewind, 1, none), 0), (70, (yX6_wrong, cX6_wrong, 3, (some .boolean)), 2), (78, (yX9_advance, cX9_advance, 3, none), 0), (83, (yX6_readTongue, cX6_readTongue, 4, (some .boolean)), 0), (93, (yX6_readNewName, cX6_readNewName, 4, (some .boolean)), 1), (99, (yX6_readFun, cX6_readFun, 7, (some .boolean)), 0), (104, (yX6_readMean, cX6_readMean, 2, (some .boolean)), 0), (114, (yX6_readFact, cX6_readFact, 6, (some .boolean)), 0), (140, (yX6_readFeature, cX6_readFeature, 7, (some .boolean)), 0), (143, (yX6_readClass, cX6_readClass, 5, (some .boolean)), 0), (146, (yX6_readSound, cX6_readSound, 1, (some .boolean)), 0), (149, (yX6_readPattern, cX6_readPattern, 6, (some .boolean)), 0), (152, (yX6_readWord, cX6_readWord, 2, (some .boolean)), 0), (155, (yX6_readLin, cX6_readLin, 4, (some .boolean)), 0), (161, (yX6_need, cX6_need, 2, (some .boolean)), 1), (165, (yX4_find, cX4_find, 4, (some .int)), 1), (171, (yX6_take, cX6_take, 2, (some .boolean)), 1), (183, (yX6_isWord, cX6_isWord, 3, (some .boolean)), 1), (208, (yX9_lettersSize, cX9_lettersSize, 1, (some .int)), 0), (216, (yX8_keepByte, cX8_keepByte, 2, none), 1), (223, (yX4_isFull, cX4_isFull, 1, (some .boolean)), 0), (225, (yX6_closes, cX6_closes, 2, (some .boolean)), 1), (232, (yX8_makeTongue, cX8_makeTongue, 4, none), 1), (236, (yX6_needNew, cX6_needNew, 2, (some .boolean)), 1), (239, (yX4_put, cX4_put, 3, none), 1), (245, (yX6_needKnown, cX6_needKnown, 2, (some .boolean)), 1), (248, (yX6_readCost, cX6_readCost, 1, (some .boolean)), 0), (269, (yX8_findFact, cX8_findFact, 6, (some .int)), 3), (297, (yX6_readContext, cX6_readContext, 2, (some .boolean)), 1), (300, (yX6_keepLetters, cX6_keepLetters, 4, (some .int)), 0), (303, (yX6_readSide, cX6_readSide, 4, (some .boolean)), 2), (320, (yX6_readParent, cX6_readParent, 2, (some .boolean)), 0), (323, (yX6_readCell, cX6_readCell, 3, (some .boolean)), 0), (326, (yX6_placeCell, cX6_placeCell, 2, (some .boolean)), 0), (333, (yX6_readValues, cX6_readValues, 5, (some .boolean)), 1), (336, (yX6_readPart, cX6_readPart, 1, (some .boolean)), 0), (345, (yX6_readStems, cX6_readStems, 2, (some .boolean)), 0), (348, (yX6_readHas, cX6_readHas, 1, (some .boolean)), 0), (368, (yX6_readItems, cX6_readItems, 3, (some .boolean)), 1), (372, (yX6_readSaids, cX6_readSaids, 4, (some .boolean)), 1), (383, (yX11_linsOf, cX11_linsOf, 4, (some .int)), 1), (399, (yX6_readArgument, cX6_readArgument, 3, (some .boolean)), 1), (424, (yX6_readAgree, cX6_readAgree, 4, (some .boolean)), 1), (427, (yX6_readGive, cX6_readGive, 4, (some .boolean)), 1), (430, (yX6_needArgument, cX6_needArgument, 3, (some .boolean)), 1), (448, (yX6_readTerm, cX6_readTerm, 7, (some .boolean)), 2), (457, (yX6_readBinder, cX6_readBinder, 3, (some .boolean)), 2), (460, (yX6_readAtom, cX6_readAtom, 4, (some .boolean)), 2), (465, (yX6_putNode, cX6_putNode, 6, none), 3), (469, (yX6_kindWanted, cX6_kindWanted, 2, (some .int)), 1), (472, (yX6_closeArguments, cX6_closeArguments, 4, (some .int)), 1)]
def gc_cs6 : List (Nat × gx_M × Nat) := [(198, (yX11_shiftOf, cX11_shiftOf, 1, (some .int)), 1), (291, gj_Mf, 2), (339, gj_Mx, 2)]
def gc_f7 : List (Nat × Nat × Nat × Nat) := [(9, 7, 2, 14), (15, 7, 3, 14), (18, 7, 4, 14), (21, 7, 5, 14), (24, 7, 6, 14), (27, 7, 7, 14), (30, 7, 8, 14), (33, 7, 10, 14), (36, 7, 11, 14), (39, 7, 12, 14), (42, 7, 13, 14), (45, 7, 0, 14), (49, 7, 1, 4), (59, 7, 9, 0), (63, 8, 7, 9), (73, 11, 11, 0), (85, 11, 15, 9), (89, 2, 2, 9), (97, 8, 9, 9), (107, 11, 13, 0), (110, 11, 14, 9), (114, 3, 1, 0), (119, 3, 4, 0), (121, 3, 5, 9), (124, 3, 7, 9), (125, 3, 3, 0), (131, 3, 8, 0), (138, 3, 0, 0), (141, 3, 9, 9), (144, 3, 10, 9), (155, 2, 1, 9), (165, 8, 16, 9), (168, 3, 6, 9), (171, 3, 11, 9)]
def gc_k7 : List (Nat × gz_V) := []
def gc_T7 : gz_T := (gq_a gc_f7, gq_a gc_k7)
def gc_cv7 : List (Nat × gx_M × Nat) := [(53, (yX8_findChildren, cX8_findChildren, 8, none), 3), (66, (yX7_pickWords, cX7_pickWords, 6, none), 1), (70, (yX7_pickLins, cX7_pickLins, 6, none), 1), (78, (yX11_wordFun, cX11_wordFun, 2, (some .int)), 1), (82, (yX11_cellsOf, cX11_cellsOf, 2, (some .int)), 1), (94, (yX11_wordCost, cX11_wordCost, 2, (some .int)), 1), (100, (yX11_formValues, cX11_formValues, 6, (some .int)), 1), (103, (yX7_putOption, cX7_putOption, 9, none), 5), (127, (yX7_pick, cX7_pick, 10, none), 5), (134, (yX3_unite, cX3_unite, 9, (some .int)), 2), (151, (yX3_clashes, cX3_clashes, 8, (some .boolean)), 2), (159, (yX9_putSpaced, cX9_putSpaced, 4, none), 3)]
def gc_cs7 : List (Nat × gx_M × Nat) := [(147, (yX3_fit, cX3_fit, 5, (some .int)), 2)]
def gc_f8 : List (Nat × Nat × Nat × Nat) := [(18, 8, 0, 14), (22, 8, 1, 14), (25, 8, 2, 14), (28, 8, 3, 14), (31, 8, 4, 14), (35, 8, 5, 0), (39, 8, 6, 14), (43, 8, 7, 14), (46, 8, 8, 14), (49, 8, 9, 14), (52, 8, 10, 14), (55, 8, 11, 14), (58, 8, 12, 14), (62, 8, 14, 14), (65, 8, 15, 14), (68, 8, 16, 14), (72, 8, 19, 14), (75, 8, 20, 14), (78, 8, 18, 1), (82, 4, 1, 0), (85, 8, 13, 0), (88, 8, 17, 0), (114, 4, 0, 9)]
def gc_k8 : List (Nat × gz_V) := []
def gc_T8 : gz_T := (gq_a gc_f8, gq_a gc_k8)
def gc_cv8 : List (Nat × gx_M × Nat) := [(91, (yX11_saveSizes, cX11_saveSizes, 3, none), 2), (101, (yX11_loadSizes, cX11_loadSizes, 3, none), 2), (107, (yX11_forgetAll, cX11_forgetAll, 1, none), 0), (110, (yX4_put, cX4_put, 3, none), 1), (117, (yX9_putName, cX9_putName, 5, none), 1), (122, (yX9_put, cX9_put, 2, none), 1)]
def gc_cs8 : List (Nat × gx_M × Nat) := []
def gc_f9 : List (Nat × Nat × Nat × Nat) := [(11, 9, 0, 14), (15, 9, 2, 14), (19, 9, 3, 14), (22, 9, 1, 0), (34, 9, 4, 0), (49, 9, 6, 0), (55, 9, 5, 0), (58, 9, 7, 0), (73, 9, 9, 3), (77, 9, 8, 0)]
def gc_k9 : List (Nat × gz_V) := [(44, .inl 100000000)]
def gc_T9 : gz_T := (gq_a gc_f9, gq_a gc_k9)
def gc_cv9 : List (Nat × gx_M × Nat) := [(26, (yX9_put, cX9_put, 2, none), 1), (30, (yX9_putBytes, cX9_putBytes, 5, none), 3), (37, (yX9_putSpaced, cX9_putSpaced, 4, none), 3), (40, (yX9_putWordsBetween, cX9_putWordsBetween, 5, none), 3), (52, (yX9_advance, cX9_advance, 3, none), 0), (61, (yX9_takeName, cX9_takeName, 3, none), 0), (64, (yX9_takeNumber, cX9_takeNumber, 2, none), 0), (67, (yX9_takeLetters, cX9_takeLetters, 3, none), 0), (80, (yX9_rewind, cX9_rewind, 1, none), 0)]
def gc_cs9 : List (Nat × gx_M × Nat) := [(45, (yX9_isLetter, cX9_isLetter, 1, (some .boolean)), 1), (70, (yX9_isSign, cX9_isSign, 1, (some .boolean)), 1)]
def gc_f10 : List (Nat × Nat × Nat × Nat) := [(11, 10, 2, 4), (15, 10, 3, 4), (19, 10, 4, 4), (22, 10, 5, 4), (25, 10, 6, 14), (28, 10, 7, 14), (31, 10, 8, 14), (34, 10, 10, 14), (37, 10, 11, 14), (40, 10, 12, 14), (43, 10, 13, 14), (46, 10, 14, 14), (49, 10, 15, 14), (52, 10, 0, 14), (56, 8, 10, 9), (73, 10, 1, 0), (78, 8, 11, 9), (81, 8, 12, 9), (123, 10, 16, 0), (126, 10, 17, 0), (129, 10, 9, 0), (132, 10, 18, 1), (174, 8, 2, 9), (184, 4, 1, 0)]
def gc_k10 : List (Nat × gz_V) := [(77, .inl 2000000), (146, .inr (.inl 6385252)), (148, .inr (.inl 28530)), (150, .inr (.inl 26982)), (156, .inr (.inl 7237492)), (158, .inr (.inl 6384748)), (160, .inr (.inl 1936682341)), (169, .inr (.inl 26995))]
def gc_T10 : gz_T := (gq_a gc_f10, gq_a gc_k10)
def gc_cv10 : List (Nat × gx_M × Nat) := [(61, (yX10_putTogether, cX10_putTogether, 9, (some .boolean)), 2), (65, (yX10_reduce, cX10_reduce, 3, (some .boolean)), 0), (69, (yX8_findChildren, cX8_findChildren, 8, none), 3), (84, (yX10_contract, cX10_contract, 9, (some .boolean)), 1), (88, (yX10_endOf, cX10_endOf, 4, (some .int)), 1), (98, (yX10_paste, cX10_paste, 10, (some .int)), 4), (102, (yX10_takeRest, cX10_takeRest, 6, (some .boolean)), 2), (106, (yX9_put, cX9_put, 2, none), 1), (112, (yX9_putNumber, cX9_putNumber, 4, none), 1), (115, (yX10_tellLeaf, cX10_tellLeaf, 4, none), 3), (119, (yX9_putName, cX9_putName, 5, none), 1), (136, (yX10_goOn, cX10_goOn, 5, (some .int)), 1), (139, (yX10_lookAt, cX10_lookAt, 10, (some .int)), 0), (143, (yX10_stray, cX10_stray, 1, (some .int)), 0), (152, (yX10_openUp, cX10_openUp, 5, (some .int)), 3), (162, (yX10_openAll, cX10_openAll, 5, (some .int)), 2), (166, (yX10_thingAt, cX10_thingAt, 2, (some .int)), 1), (171, (yX8_findFact, cX8_findFact, 6, (some .int)), 3), (178, (yX4_find, cX4_find, 4, (some .int)), 1)]
def gc_cs10 : List (Nat × gx_M × Nat) := []
def gc_f11 : List (Nat × Nat × Nat × Nat) := [(14, 11, 0, 14), (20, 11, 1, 14), (23, 11, 2, 14), (27, 11, 3, 14), (30, 11, 4, 14), (33, 11, 5, 14), (36, 11, 7, 14), (39, 11, 8, 14), (42, 11, 9, 14), (45, 11, 10, 14), (48, 11, 12, 14), (53, 11, 14, 14), (62, 11, 15, 14), (66, 4, 1, 0), (70, 11, 6, 0), (73, 11, 11, 0), (76, 11, 13, 0), (83, 3, 1, 0)]
def gc_k11 : List (Nat × gz_V) := []
def gc_T11 : gz_T := (gq_a gc_f11, gq_a gc_k11)
def gc_cv11 : List (Nat × gx_M × Nat) := [(79, (yX11_wordPattern, cX11_wordPattern, 2, (some .int)), 1)]
def gc_cs11 : List (Nat × gx_M × Nat) := []
def gc_f12 : List (Nat × Nat × Nat × Nat) := [(12, 12, 0, 14), (19, 12, 1, 14), (23, 12, 2, 14), (26, 12, 3, 14), (29, 12, 4, 14), (37, 12, 5, 14), (46, 12, 6, 14), (55, 12, 7, 14), (62, 12, 8, 14), (69, 12, 9, 14), (76, 12, 10, 14), (82, 12, 11, 14), (85, 12, 12, 14), (91, 12, 13, 14), (94, 12, 14, 14), (97, 12, 16, 14), (100, 9, 1, 0), (123, 9, 7, 0), (133, 6, 4, 0), (136, 6, 3, 0), (139, 9, 0, 9), (145, 8, 0, 9), (149, 8, 3, 9), (152, 8, 1, 9), (178, 11, 15, 9), (188, 2, 6, 4), (207, 11, 11, 0), (218, 2, 2, 9), (220, 2, 1, 9), (239, 4, 1, 0), (289, 12, 15, 0), (319, 9, 4, 0), (346, 0, 3, 0), (349, 0, 6, 0), (352, 1, 9, 0), (356, 8, 4, 9), (374, 9, 2, 9), (377, 9, 3, 9), (384, 2, 5, 9)]
def gc_k12 : List (Nat × gz_V) := [(391, .inl 65536), (392, .inl 131072), (393, .inl 196608)]
def gc_T12 : gz_T := (gq_a gc_f12, gq_a gc_k12)
def gc_cv12 : List (Nat × gx_M × Nat) := [(111, (yX9_putFour, cX9_putFour, 2, none), 1), (120, (yX6_begin, cX6_begin, 1, none), 0), (126, (yX6_readStatement, cX6_readStatement, 4, (some .boolean)), 0), (130, (yX8_restore, cX8_restore, 2, none), 0), (155, (yX12_tongueAt, cX12_tongueAt, 2, (some (.object "TongueHouse$Tongue"))), 1), (159, (yX11_namesOf, cX11_namesOf, 2, (some (.object "TongueHouse$Names"))), 1), (165, (yX9_onlyName, cX9_onlyName, 3, (some .long)), 0), (169, (yX4_find, cX4_find, 4, (some .int)), 1), (175, (yX9_isWord, cX9_isWord, 2, (some .boolean)), 0), (182, (yX2_soundWord, cX2_soundWord, 3, (some .int)), 2), (191, (yX9_putBytes, cX9_putBytes, 5, none), 3), (195, (yX2_build, cX2_build, 7, none), 1), (199, (yX1_noteAnalyses, cX1_noteAnalyses, 4, (some .int)), 3), (203, (yX1_tellAnalysis, cX1_tellAnalysis, 6, (some .int)), 2), (212, (yX11_cellsOf, cX11_cellsOf, 2, (some .int)), 1), (223, (yX1_noteGuesses, cX1_noteGuesses, 4, (some .int)), 2), (226, (yX1_tellGuess, cX1_tellGuess, 3, (some .int)), 2), (229, (yX12_checkKind, cX12_checkKind, 2, none), 1), (232, (yX12_parseTape, cX12_parseTape, 4, (some .int)), 2), (236, (yX5_total, cX5_total, 5, (some .long)), 0), (242, (yX5_setBarred, cX5_setBarred, 3, none), 2), (246, (yX5_priceOf, cX5_priceOf, 2, (some .int)), 1), (252, (yX5_spell, cX5_spell, 11, (some .int)), 2), (262, (yX6_readTree, cX6_readTree, 5, (some .int)), 1), (266, (yX8_writeTree, cX8_writeTree, 6, none), 3), (270, (yX7_findOptions, cX7_findOptions, 4, (some .int)), 3), (274, (yX7_write, cX7_write, 10, none), 2), (278, (yX12_meaningOf, cX12_meaningOf, 2, (some .int)), 1), (281, (yX10_tell, cX10_tell, 6, none), 1), (285, (yX10_judge, cX10_judge, 4, (some .int)), 0), (292, (yX12_noteCandidate, cX12_noteCandidate, 2, none), 0), (295, (yX1_isFull, cX1_isFull, 1, (some .boolean)), 0), (300, (yX9_split, cX9_split, 4, (some .boolean)), 0), (303, (yX1_collect, cX1_collect, 3, (some .int)), 2), (307, (yX1_search, cX1_search, 5, (some .int)), 3), (310, (yX1_tellHit, cX1_tellHit, 3, (some .int)), 2), (313, (yX5_close, cX5_close, 1, none), 0), (316, (yX0_forget, cX0_forget, 1, none), 0), (322, (yX9_putWords, cX9_putWords, 2, none), 1), (325, (yX0_forgetTries, cX0_forgetTries, 1, none), 0), (328, (yX0_fill, cX0_fill, 9, (some .int)), 3), (332, (yX12_listChanges, cX12_listChanges, 11, (some .int)), 1), (336, (yX12_writeChange, cX12_writeChange, 6, none), 2), (340, (yX5_open, cX5_open, 3, none), 1), (343, (yX11_sizeOf, cX11_sizeOf, 2, (some .int)), 1), (355, (yX8_sizeOf, cX8_sizeOf, 2, (some .int)), 1), (366, (yX10_ponder, cX10_ponder, 4, (some .int)), 2), (370, (yX9_equalsBytes, cX9_equalsBytes, 4, (some .boolean)), 2), (380, (yX2_findSame, cX2_findSame, 7, (some .int)), 3), (387, (yX2_isForm, cX2_isForm, 5, (some .boolean)), 4), (394, (yX9_putWordsBetween, cX9_putWordsBetween, 5, none), 3), (398, (yX9_putSpaced, cX9_putSpaced, 4, none), 3)]
def gc_cs12 : List (Nat × gx_M × Nat) := [(249, (yX12_checkPlace, cX12_checkPlace, 1, none), 1)]
def gc_wv (own : String) (l : List (Nat × gx_M × Nat)) : List Cond := l.flatMap (fun q => [gx_code q.2.1, Cond.methodLink own q.1 q.2.1.1, Cond.instanceMethod q.2.1.1, Cond.selects q.2.1.1.cls q.2.1.1 q.2.1.1, Cond.initialized q.2.1.1.cls])
def gc_wt (own : String) (l : List (Nat × gx_M × Nat)) : List Cond := l.flatMap (fun q => [gx_code q.2.1, Cond.methodLink own q.1 q.2.1.1, Cond.static q.2.1.1, Cond.initialized q.2.1.1.cls])
def gc_am (q : Nat × gx_M × Nat) : Bool := decide (q.2.1.1.cls ≠ "java/lang/invoke/MethodHandle") && (decide (q.2.1.1.cls ≠ "java/lang/invoke/VarHandle") && (decide ((parseMethodDescriptor q.2.1.1.desc).map (fun d => d.parameters.length) = some q.2.2) && decide (q.2.1.2.2.1 ≤ 45)))
theorem gc_lV {ws0 : List Cond} {own : String} {l : List (Nat × gx_M × Nat)} (hws : ∀ w ∈ gc_wv own l, w ∈ ws0) (ha : l.all gc_am = true) {ix n : Nat} {M : gx_M} (h : gq_a l ix = some (M, n)) : gx_lV ws0 own ix M n := by
  have hm := gq_a_mem h
  have h1 := List.all_eq_true.mp ha _ hm
  unfold gc_am at h1
  rw [Bool.and_eq_true, Bool.and_eq_true, Bool.and_eq_true, decide_eq_true_eq, decide_eq_true_eq, decide_eq_true_eq, decide_eq_true_eq] at h1
  obtain ⟨h2, h3, h4, h5⟩ := h1
  have hw : ∀ w ∈ [gx_code M, Cond.methodLink own ix M.1, Cond.instanceMethod M.1, Cond.selects M.1.cls M.1 M.1, Cond.initialized M.1.cls], w ∈ ws0 := fun w hw => hws w (List.mem_flatMap.mpr ⟨_, hm, hw⟩)
  exact ⟨hw _ (by simp), hw _ (by simp), hw _ (by simp), hw _ (by simp), hw _ (by simp), ⟨h2, h3, h4⟩, h5⟩
theorem gc_lS {ws0 : List Cond} {own : String} {l : List (Nat × gx_M × Nat)} (hws : ∀ w ∈ gc_wt own l, w ∈ ws0) (ha : l.all gc_am = true) {ix n : Nat} {M : gx_M} (h : gq_a l ix = some (M, n)) : gx_lS ws0 own ix M n := by
  have hm := gq_a_mem h
  have h1 := List.all_eq_true.mp ha _ hm
  unfold gc_am at h1
  rw [Bool.and_eq_true, Bool.and_eq_true, Bool.and_eq_true, decide_eq_true_eq, decide_eq_true_eq, decide_eq_true_eq, decide_eq_true_eq] at h1
  obtain ⟨h2, h3, h4, h5⟩ := h1
  have hw : ∀ w ∈ [gx_code M, Cond.methodLink own ix M.1, Cond.static M.1, Cond.initialized M.1.cls], w ∈ ws0 := fun w hw => hws w (List.mem_flatMap.mpr ⟨_, hm, hw⟩)
  exact ⟨hw _ (by simp), hw _ (by simp), hw _ (by simp), hw _ (by simp), ⟨h2, h3, h4⟩, h5⟩
theorem gc_av0 : gc_cv0.all gc_am = true := by decide +kernel
theorem gc_as0 : gc_cs0.all gc_am = true := by decide +kernel
theorem gc_av1 : gc_cv1.all gc_am = true := by decide +kernel
theorem gc_as1 : gc_cs1.all gc_am = true := by decide +kernel
theorem gc_av2 : gc_cv2.all gc_am = true := by decide +kernel
theorem gc_as2 : gc_cs2.all gc_am = true := by decide +kernel
theorem gc_as3 : gc_cs3.all gc_am = true := by decide +kernel
theorem gc_av5 : gc_cv5.all gc_am = true := by decide +kernel
theorem gc_as5 : gc_cs5.all gc_am = true := by decide +kernel
theorem gc_av6 : gc_cv6.all gc_am = true := by decide +kernel
theorem gc_as6 : gc_cs6.all gc_am = true := by decide +kernel
theorem gc_av7 : gc_cv7.all gc_am = true := by decide +kernel
theorem gc_as7 : gc_cs7.all gc_am = true := by decide +kernel
theorem gc_av8 : gc_cv8.all gc_am = true := by decide +kernel
theorem gc_av9 : gc_cv9.all gc_am = true := by decide +kernel
theorem gc_as9 : gc_cs9.all gc_am = true := by decide +kernel
theorem gc_av10 : gc_cv10.all gc_am = true := by decide +kernel
theorem gc_av11 : gc_cv11.all gc_am = true := by decide +kernel
theorem gc_av12 : gc_cv12.all gc_am = true := by decide +kernel
theorem gc_as12 : gc_cs12.all gc_am = true := by decide +kernel
def gc_wc : List Cond := [Cond.native arraycopyName, Cond.static arraycopyName, Cond.initialized "java/lang/System", Cond.methodLink RX0 208 arraycopyName, Cond.methodLink RX1 85 arraycopyName, Cond.methodLink RX2 71 arraycopyName, Cond.methodLink RX6 263 arraycopyName, Cond.methodLink RX8 95 arraycopyName, Cond.methodLink RX10 92 arraycopyName, Cond.methodLink RX12 256 arraycopyName]
def gc_wsl : List (List Cond) := [gc_wv RX0 gc_cv0, gc_wt RX0 gc_cs0, gc_wv RX1 gc_cv1, gc_wt RX1 gc_cs1, gc_wv RX2 gc_cv2, gc_wt RX2 gc_cs2, gc_wv RX3 gc_cv3, gc_wt RX3 gc_cs3, gc_wv RX4 gc_cv4, gc_wt RX4 gc_cs4, gc_wv RX5 gc_cv5, gc_wt RX5 gc_cs5, gc_wv RX6 gc_cv6, gc_wt RX6 gc_cs6, gc_wv RX7 gc_cv7, gc_wt RX7 gc_cs7, gc_wv RX8 gc_cv8, gc_wt RX8 gc_cs8, gc_wv RX9 gc_cv9, gc_wt RX9 gc_cs9, gc_wv RX10 gc_cv10, gc_wt RX10 gc_cs10, gc_wv RX11 gc_cv11, gc_wt RX11 gc_cs11, gc_wv RX12 gc_cv12, gc_wt RX12 gc_cs12, gc_wc]
def gc_Ws (ws0 : List Cond) : Prop := ∀ l ∈ gc_wsl, ∀ w ∈ l, w ∈ ws0
def gc_tbs (tb : String → gz_T) : Prop := tb RX0 = gc_T0 ∧ tb RX1 = gc_T1 ∧ tb RX2 = gc_T2 ∧ tb RX3 = gc_T3 ∧ tb RX4 = gc_T4 ∧ tb RX5 = gc_T5 ∧ tb RX6 = gc_T6 ∧ tb RX7 = gc_T7 ∧ tb RX8 = gc_T8 ∧ tb RX9 = gc_T9 ∧ tb RX10 = gc_T10 ∧ tb RX11 = gc_T11 ∧ tb RX12 = gc_T12
theorem gc_lC0_208 {ws0 : List Cond} (hws : gc_Ws ws0) : gz_lC ws0 RX0 208 := by
  have h := hws gc_wc (List.mem_of_getElem? (i := 26) rfl)
  exact ⟨h _ (List.mem_of_getElem? (i := 3) rfl), h _ (List.mem_of_getElem? (i := 0) rfl), h _ (List.mem_of_getElem? (i := 1) rfl), h _ (List.mem_of_getElem? (i := 2) rfl)⟩
theorem gc_lC1_85 {ws0 : List Cond} (hws : gc_Ws ws0) : gz_lC ws0 RX1 85 := by
  have h := hws gc_wc (List.mem_of_getElem? (i := 26) rfl)
  exact ⟨h _ (List.mem_of_getElem? (i := 4) rfl), h _ (List.mem_of_getElem? (i := 0) rfl), h _ (List.mem_of_getElem? (i := 1) rfl), h _ (List.mem_of_getElem? (i := 2) rfl)⟩
theorem gc_lC2_71 {ws0 : List Cond} (hws : gc_Ws ws0) : gz_lC ws0 RX2 71 := by
  have h := hws gc_wc (List.mem_of_getElem? (i := 26) rfl)
  exact ⟨h _ (List.mem_of_getElem? (i := 5) rfl), h _ (List.mem_of_getElem? (i := 0) rfl), h _ (List.mem_of_getElem? (i := 1) rfl), h _ (List.mem_of_getElem? (i := 2) rfl)⟩
theorem gc_lC6_263 {ws0 : List Cond} (hws : gc_Ws ws0) : gz_lC ws0 RX6 263 := by
  have h := hws gc_wc (List.mem_of_getElem? (i := 26) rfl)
  exact ⟨h _ (List.mem_of_getElem? (i := 6) rfl), h _ (List.mem_of_getElem? (i := 0) rfl), h _ (List.mem_of_getElem? (i := 1) rfl), h _ (List.mem_of_getElem? (i := 2) rfl)⟩
theorem gc_lC8_95 {ws0 : List Cond} (hws : gc_Ws ws0) : gz_lC ws0 RX8 95 := by
  have h := hws gc_wc (List.mem_of_getElem? (i := 26) rfl)
  exact ⟨h _ (List.mem_of_getElem? (i := 7) rfl), h _ (List.mem_of_getElem? (i := 0) rfl), h _ (List.mem_of_getElem? (i := 1) rfl), h _ (List.mem_of_getElem? (i := 2) rfl)⟩
theorem gc_lC10_92 {ws0 : List Cond} (hws : gc_Ws ws0) : gz_lC ws0 RX10 92 := by
  have h := hws gc_wc (List.mem_of_getElem? (i := 26) rfl)
  exact ⟨h _ (List.mem_of_getElem? (i := 8) rfl), h _ (List.mem_of_getElem? (i := 0) rfl), h _ (List.mem_of_getElem? (i := 1) rfl), h _ (List.mem_of_getElem? (i := 2) rfl)⟩
theorem gc_lC12_256 {ws0 : List Cond} (hws : gc_Ws ws0) : gz_lC ws0 RX12 256 := by
  have h := hws gc_wc (List.mem_of_getElem? (i := 26) rfl)
  exact ⟨h _ (List.mem_of_getElem? (i := 9) rfl), h _ (List.mem_of_getElem? (i := 0) rfl), h _ (List.mem_of_getElem? (i := 1) rfl), h _ (List.mem_of_getElem? (i := 2) rfl)⟩
theorem gc_lV0 {ws0 : List Cond} (hws : gc_Ws ws0) {ix n : Nat} {M : gx_M} (h : gq_a gc_cv0 ix = some (M, n)) : gx_lV ws0 RX0 ix M n := gc_lV (hws _ (List.mem_of_getElem? (i := 0) rfl)) gc_av0 h
theorem gc_lS0 {ws0 : List Cond} (hws : gc_Ws ws0) {ix n : Nat} {M : gx_M} (h : gq_a gc_cs0 ix = some (M, n)) : gx_lS ws0 RX0 ix M n := gc_lS (hws _ (List.mem_of_getElem? (i := 1) rfl)) gc_as0 h
theorem gc_tb0 {tb : String → gz_T} (h : gc_tbs tb) : tb RX0 = gc_T0 := h.1
def gc_E0 (ws0 : List Cond) (tb : String → gz_T) (d : Nat) (M : gx_M) (l : Nat → Option Instr) : gv_E := (ws0, RX0, gc_T0, M.2.1, M.2.2.1, gz_Ev ws0 tb d, l)
theorem gc_ev0 {ws0 : List Cond} {tb : String → gz_T} (htb : gc_tbs tb) {d : Nat} {M : gx_M} {l : Nat → Option Instr} {av : List gz_V} {sh : gz_Sh} {h : gz_H} {Po : Option gz_V → gz_H → Prop} (hc : M.1.cls = RX0) (hn : (av.map gz_c).sum ≤ M.2.2.1) (hX : gv_X (gc_E0 ws0 tb d M l) (gv_Q M.2.1 M.2.2.2 sh Po) (0, gz_args 0 av, [], sh, h)) : ∃ r hₚ, gz_Ev ws0 tb (d + 1) M av sh h r sh hₚ 0 0 ∧ Po r hₚ := by
  refine gv_ev (code := l) (hp := by rw [hc]; decide) hn ?_
  rw [hc, gc_tb0 htb]
  exact hX
theorem gc_lV1 {ws0 : List Cond} (hws : gc_Ws ws0) {ix n : Nat} {M : gx_M} (h : gq_a gc_cv1 ix = some (M, n)) : gx_lV ws0 RX1 ix M n := gc_lV (hws _ (List.mem_of_getElem? (i := 2) rfl)) gc_av1 h
theorem gc_lS1 {ws0 : List Cond} (hws : gc_Ws ws0) {ix n : Nat} {M : gx_M} (h : gq_a gc_cs1 ix = some (M, n)) : gx_lS ws0 RX1 ix M n := gc_lS (hws _ (List.mem_of_getElem? (i := 3) rfl)) gc_as1 h
theorem gc_tb1 {tb : String → gz_T} (h : gc_tbs tb) : tb RX1 = gc_T1 := h.2.1
def gc_E1 (ws0 : List Cond) (tb : String → gz_T) (d : Nat) (M : gx_M) (l : Nat → Option Instr) : gv_E := (ws0, RX1, gc_T1, M.2.1, M.2.2.1, gz_Ev ws0 tb d, l)
theorem gc_ev1 {ws0 : List Cond} {tb : String → gz_T} (htb : gc_tbs tb) {d : Nat} {M : gx_M} {l : Nat → Option Instr} {av : List gz_V} {sh : gz_Sh} {h : gz_H} {Po : Option gz_V → gz_H → Prop} (hc : M.1.cls = RX1) (hn : (av.map gz_c).sum ≤ M.2.2.1) (hX : gv_X (gc_E1 ws0 tb d M l) (gv_Q M.2.1 M.2.2.2 sh Po) (0, gz_args 0 av, [], sh, h)) : ∃ r hₚ, gz_Ev ws0 tb (d + 1) M av sh h r sh hₚ 0 0 ∧ Po r hₚ := by
  refine gv_ev (code := l) (hp := by rw [hc]; decide) hn ?_
  rw [hc, gc_tb1 htb]
  exact hX
theorem gc_lV2 {ws0 : List Cond} (hws : gc_Ws ws0) {ix n : Nat} {M : gx_M} (h : gq_a gc_cv2 ix = some (M, n)) : gx_lV ws0 RX2 ix M n := gc_lV (hws _ (List.mem_of_getElem? (i := 4) rfl)) gc_av2 h
theorem gc_lS2 {ws0 : List Cond} (hws : gc_Ws ws0) {ix n : Nat} {M : gx_M} (h : gq_a gc_cs2 ix = some (M, n)) : gx_lS ws0 RX2 ix M n := gc_lS (hws _ (List.mem_of_getElem? (i := 5) rfl)) gc_as2 h
theorem gc_tb2 {tb : String → gz_T} (h : gc_tbs tb) : tb RX2 = gc_T2 := h.2.2.1
def gc_E2 (ws0 : List Cond) (tb : String → gz_T) (d : Nat) (M : gx_M) (l : Nat → Option Instr) : gv_E := (ws0, RX2, gc_T2, M.2.1, M.2.2.1, gz_Ev ws0 tb d, l)
theorem gc_ev2 {ws0 : List Cond} {tb : String → gz_T} (htb : gc_tbs tb) {d : Nat} {M : gx_M} {l : Nat → Option Instr} {av : List gz_V} {sh : gz_Sh} {h : gz_H} {Po : Option gz_V → gz_H → Prop} (hc : M.1.cls = RX2) (hn : (av.map gz_c).sum ≤ M.2.2.1) (hX : gv_X (gc_E2 ws0 tb d M l) (gv_Q M.2.1 M.2.2.2 sh Po) (0, gz_args 0 av, [], sh, h)) : ∃ r hₚ, gz_Ev ws0 tb (d + 1) M av sh h r sh hₚ 0 0 ∧ Po r hₚ := by
  refine gv_ev (code := l) (hp := by rw [hc]; decide) hn ?_
  rw [hc, gc_tb2 htb]
  exact hX
theorem gc_lS3 {ws0 : List Cond} (hws : gc_Ws ws0) {ix n : Nat} {M : gx_M} (h : gq_a gc_cs3 ix = some (M, n)) : gx_lS ws0 RX3 ix M n := gc_lS (hws _ (List.mem_of_getElem? (i := 7) rfl)) gc_as3 h
theorem gc_tb3 {tb : String → gz_T} (h : gc_tbs tb) : tb RX3 = gc_T3 := h.2.2.2.1
def gc_E3 (ws0 : List Cond) (tb : String → gz_T) (d : Nat) (M : gx_M) (l : Nat → Option Instr) : gv_E := (ws0, RX3, gc_T3, M.2.1, M.2.2.1, gz_Ev ws0 tb d, l)
theorem gc_ev3 {ws0 : List Cond} {tb : String → gz_T} (htb : gc_tbs tb) {d : Nat} {M : gx_M} {l : Nat → Option Instr} {av : List gz_V} {sh : gz_Sh} {h : gz_H} {Po : Option gz_V → gz_H → Prop} (hc : M.1.cls = RX3) (hn : (av.map gz_c).sum ≤ M.2.2.1) (hX : gv_X (gc_E3 ws0 tb d M l) (gv_Q M.2.1 M.2.2.2 sh Po) (0, gz_args 0 av, [], sh, h)) : ∃ r hₚ, gz_Ev ws0 tb (d + 1) M av sh h r sh hₚ 0 0 ∧ Po r hₚ := by
  refine gv_ev (code := l) (hp := by rw [hc]; decide) hn ?_
  rw [hc, gc_tb3 htb]
  exact hX
theorem gc_tb4 {tb : String → gz_T} (h : gc_tbs tb) : tb RX4 = gc_T4 := h.2.2.2.2.1
def gc_E4 (ws0 : List Cond) (tb : String → gz_T) (d : Nat) (M : gx_M) (l : Nat → Option Instr) : gv_E := (ws0, RX4, gc_T4, M.2.1, M.2.2.1, gz_Ev ws0 tb d, l)
theorem gc_ev4 {ws0 : List Cond} {tb : String → gz_T} (htb : gc_tbs tb) {d : Nat} {M : gx_M} {l : Nat → Option Instr} {av : List gz_V} {sh : gz_Sh} {h : gz_H} {Po : Option gz_V → gz_H → Prop} (hc : M.1.cls = RX4) (hn : (av.map gz_c).sum ≤ M.2.2.1) (hX : gv_X (gc_E4 ws0 tb d M l) (gv_Q M.2.1 M.2.2.2 sh Po) (0, gz_args 0 av, [], sh, h)) : ∃ r hₚ, gz_Ev ws0 tb (d + 1) M av sh h r sh hₚ 0 0 ∧ Po r hₚ := by
  refine gv_ev (code := l) (hp := by rw [hc]; decide) hn ?_
  rw [hc, gc_tb4 htb]
  exact hX
theorem gc_lV5 {ws0 : List Cond} (hws : gc_Ws ws0) {ix n : Nat} {M : gx_M} (h : gq_a gc_cv5 ix = some (M, n)) : gx_lV ws0 RX5 ix M n := gc_lV (hws _ (List.mem_of_getElem? (i := 10) rfl)) gc_av5 h
theorem gc_lS5 {ws0 : List Cond} (hws : gc_Ws ws0) {ix n : Nat} {M : gx_M} (h : gq_a gc_cs5 ix = some (M, n)) : gx_lS ws0 RX5 ix M n := gc_lS (hws _ (List.mem_of_getElem? (i := 11) rfl)) gc_as5 h
theorem gc_tb5 {tb : String → gz_T} (h : gc_tbs tb) : tb RX5 = gc_T5 := h.2.2.2.2.2.1
def gc_E5 (ws0 : List Cond) (tb : String → gz_T) (d : Nat) (M : gx_M) (l : Nat → Option Instr) : gv_E := (ws0, RX5, gc_T5, M.2.1, M.2.2.1, gz_Ev ws0 tb d, l)
theorem gc_ev5 {ws0 : List Cond} {tb : String → gz_T} (htb : gc_tbs tb) {d : Nat} {M : gx_M} {l : Nat → Option Instr} {av : List gz_V} {sh : gz_Sh} {h : gz_H} {Po : Option gz_V → gz_H → Prop} (hc : M.1.cls = RX5) (hn : (av.map gz_c).sum ≤ M.2.2.1) (hX : gv_X (gc_E5 ws0 tb d M l) (gv_Q M.2.1 M.2.2.2 sh Po) (0, gz_args 0 av, [], sh, h)) : ∃ r hₚ, gz_Ev ws0 tb (d + 1) M av sh h r sh hₚ 0 0 ∧ Po r hₚ := by
  refine gv_ev (code := l) (hp := by rw [hc]; decide) hn ?_
  rw [hc, gc_tb5 htb]
  exact hX
theorem gc_lV6 {ws0 : List Cond} (hws : gc_Ws ws0) {ix n : Nat} {M : gx_M} (h : gq_a gc_cv6 ix = some (M, n)) : gx_lV ws0 RX6 ix M n := gc_lV (hws _ (List.mem_of_getElem? (i := 12) rfl)) gc_av6 h
theorem gc_lS6 {ws0 : List Cond} (hws : gc_Ws ws0) {ix n : Nat} {M : gx_M} (h : gq_a gc_cs6 ix = some (M, n)) : gx_lS ws0 RX6 ix M n := gc_lS (hws _ (List.mem_of_getElem? (i := 13) rfl)) gc_as6 h
theorem gc_tb6 {tb : String → gz_T} (h : gc_tbs tb) : tb RX6 = gc_T6 := h.2.2.2.2.2.2.1
def gc_E6 (ws0 : List Cond) (tb : String → gz_T) (d : Nat) (M : gx_M) (l : Nat → Option Instr) : gv_E := (ws0, RX6, gc_T6, M.2.1, M.2.2.1, gz_Ev ws0 tb d, l)
theorem gc_ev6 {ws0 : List Cond} {tb : String → gz_T} (htb : gc_tbs tb) {d : Nat} {M : gx_M} {l : Nat → Option Instr} {av : List gz_V} {sh : gz_Sh} {h : gz_H} {Po : Option gz_V → gz_H → Prop} (hc : M.1.cls = RX6) (hn : (av.map gz_c).sum ≤ M.2.2.1) (hX : gv_X (gc_E6 ws0 tb d M l) (gv_Q M.2.1 M.2.2.2 sh Po) (0, gz_args 0 av, [], sh, h)) : ∃ r hₚ, gz_Ev ws0 tb (d + 1) M av sh h r sh hₚ 0 0 ∧ Po r hₚ := by
  refine gv_ev (code := l) (hp := by rw [hc]; decide) hn ?_
  rw [hc, gc_tb6 htb]
  exact hX
theorem gc_lV7 {ws0 : List Cond} (hws : gc_Ws ws0) {ix n : Nat} {M : gx_M} (h : gq_a gc_cv7 ix = some (M, n)) : gx_lV ws0 RX7 ix M n := gc_lV (hws _ (List.mem_of_getElem? (i := 14) rfl)) gc_av7 h
theorem gc_lS7 {ws0 : List Cond} (hws : gc_Ws ws0) {ix n : Nat} {M : gx_M} (h : gq_a gc_cs7 ix = some (M, n)) : gx_lS ws0 RX7 ix M n := gc_lS (hws _ (List.mem_of_getElem? (i := 15) rfl)) gc_as7 h
theorem gc_tb7 {tb : String → gz_T} (h : gc_tbs tb) : tb RX7 = gc_T7 := h.2.2.2.2.2.2.2.1
def gc_E7 (ws0 : List Cond) (tb : String → gz_T) (d : Nat) (M : gx_M) (l : Nat → Option Instr) : gv_E := (ws0, RX7, gc_T7, M.2.1, M.2.2.1, gz_Ev ws0 tb d, l)
theorem gc_ev7 {ws0 : List Cond} {tb : String → gz_T} (htb : gc_tbs tb) {d : Nat} {M : gx_M} {l : Nat → Option Instr} {av : List gz_V} {sh : gz_Sh} {h : gz_H} {Po : Option gz_V → gz_H → Prop} (hc : M.1.cls = RX7) (hn : (av.map gz_c).sum ≤ M.2.2.1) (hX : gv_X (gc_E7 ws0 tb d M l) (gv_Q M.2.1 M.2.2.2 sh Po) (0, gz_args 0 av, [], sh, h)) : ∃ r hₚ, gz_Ev ws0 tb (d + 1) M av sh h r sh hₚ 0 0 ∧ Po r hₚ := by
  refine gv_ev (code := l) (hp := by rw [hc]; decide) hn ?_
  rw [hc, gc_tb7 htb]
  exact hX
theorem gc_lV8 {ws0 : List Cond} (hws : gc_Ws ws0) {ix n : Nat} {M : gx_M} (h : gq_a gc_cv8 ix = some (M, n)) : gx_lV ws0 RX8 ix M n := gc_lV (hws _ (List.mem_of_getElem? (i := 16) rfl)) gc_av8 h
theorem gc_tb8 {tb : String → gz_T} (h : gc_tbs tb) : tb RX8 = gc_T8 := h.2.2.2.2.2.2.2.2.1
def gc_E8 (ws0 : List Cond) (tb : String → gz_T) (d : Nat) (M : gx_M) (l : Nat → Option Instr) : gv_E := (ws0, RX8, gc_T8, M.2.1, M.2.2.1, gz_Ev ws0 tb d, l)
theorem gc_ev8 {ws0 : List Cond} {tb : String → gz_T} (htb : gc_tbs tb) {d : Nat} {M : gx_M} {l : Nat → Option Instr} {av : List gz_V} {sh : gz_Sh} {h : gz_H} {Po : Option gz_V → gz_H → Prop} (hc : M.1.cls = RX8) (hn : (av.map gz_c).sum ≤ M.2.2.1) (hX : gv_X (gc_E8 ws0 tb d M l) (gv_Q M.2.1 M.2.2.2 sh Po) (0, gz_args 0 av, [], sh, h)) : ∃ r hₚ, gz_Ev ws0 tb (d + 1) M av sh h r sh hₚ 0 0 ∧ Po r hₚ := by
  refine gv_ev (code := l) (hp := by rw [hc]; decide) hn ?_
  rw [hc, gc_tb8 htb]
  exact hX
theorem gc_lV9 {ws0 : List Cond} (hws : gc_Ws ws0) {ix n : Nat} {M : gx_M} (h : gq_a gc_cv9 ix = some (M, n)) : gx_lV ws0 RX9 ix M n := gc_lV (hws _ (List.mem_of_getElem? (i := 18) rfl)) gc_av9 h
theorem gc_lS9 {ws0 : List Cond} (hws : gc_Ws ws0) {ix n : Nat} {M : gx_M} (h : gq_a gc_cs9 ix = some (M, n)) : gx_lS ws0 RX9 ix M n := gc_lS (hws _ (List.mem_of_getElem? (i := 19) rfl)) gc_as9 h
theorem gc_tb9 {tb : String → gz_T} (h : gc_tbs tb) : tb RX9 = gc_T9 := h.2.2.2.2.2.2.2.2.2.1
def gc_E9 (ws0 : List Cond) (tb : String → gz_T) (d : Nat) (M : gx_M) (l : Nat → Option Instr) : gv_E := (ws0, RX9, gc_T9, M.2.1, M.2.2.1, gz_Ev ws0 tb d, l)
theorem gc_ev9 {ws0 : List Cond} {tb : String → gz_T} (htb : gc_tbs tb) {d : Nat} {M : gx_M} {l : Nat → Option Instr} {av : List gz_V} {sh : gz_Sh} {h : gz_H} {Po : Option gz_V → gz_H → Prop} (hc : M.1.cls = RX9) (hn : (av.map gz_c).sum ≤ M.2.2.1) (hX : gv_X (gc_E9 ws0 tb d M l) (gv_Q M.2.1 M.2.2.2 sh Po) (0, gz_args 0 av, [], sh, h)) : ∃ r hₚ, gz_Ev ws0 tb (d + 1) M av sh h r sh hₚ 0 0 ∧ Po r hₚ := by
  refine gv_ev (code := l) (hp := by rw [hc]; decide) hn ?_
  rw [hc, gc_tb9 htb]
  exact hX
theorem gc_lV10 {ws0 : List Cond} (hws : gc_Ws ws0) {ix n : Nat} {M : gx_M} (h : gq_a gc_cv10 ix = some (M, n)) : gx_lV ws0 RX10 ix M n := gc_lV (hws _ (List.mem_of_getElem? (i := 20) rfl)) gc_av10 h
theorem gc_tb10 {tb : String → gz_T} (h : gc_tbs tb) : tb RX10 = gc_T10 := h.2.2.2.2.2.2.2.2.2.2.1
def gc_E10 (ws0 : List Cond) (tb : String → gz_T) (d : Nat) (M : gx_M) (l : Nat → Option Instr) : gv_E := (ws0, RX10, gc_T10, M.2.1, M.2.2.1, gz_Ev ws0 tb d, l)
theorem gc_ev10 {ws0 : List Cond} {tb : String → gz_T} (htb : gc_tbs tb) {d : Nat} {M : gx_M} {l : Nat → Option Instr} {av : List gz_V} {sh : gz_Sh} {h : gz_H} {Po : Option gz_V → gz_H → Prop} (hc : M.1.cls = RX10) (hn : (av.map gz_c).sum ≤ M.2.2.1) (hX : gv_X (gc_E10 ws0 tb d M l) (gv_Q M.2.1 M.2.2.2 sh Po) (0, gz_args 0 av, [], sh, h)) : ∃ r hₚ, gz_Ev ws0 tb (d + 1) M av sh h r sh hₚ 0 0 ∧ Po r hₚ := by
  refine gv_ev (code := l) (hp := by rw [hc]; decide) hn ?_
  rw [hc, gc_tb10 htb]
  exact hX
theorem gc_lV11 {ws0 : List Cond} (hws : gc_Ws ws0) {ix n : Nat} {M : gx_M} (h : gq_a gc_cv11 ix = some (M, n)) : gx_lV ws0 RX11 ix M n := gc_lV (hws _ (List.mem_of_getElem? (i := 22) rfl)) gc_av11 h
theorem gc_tb11 {tb : String → gz_T} (h : gc_tbs tb) : tb RX11 = gc_T11 := h.2.2.2.2.2.2.2.2.2.2.2.1
def gc_E11 (ws0 : List Cond) (tb : String → gz_T) (d : Nat) (M : gx_M) (l : Nat → Option Instr) : gv_E := (ws0, RX11, gc_T11, M.2.1, M.2.2.1, gz_Ev ws0 tb d, l)
theorem gc_ev11 {ws0 : List Cond} {tb : String → gz_T} (htb : gc_tbs tb) {d : Nat} {M : gx_M} {l : Nat → Option Instr} {av : List gz_V} {sh : gz_Sh} {h : gz_H} {Po : Option gz_V → gz_H → Prop} (hc : M.1.cls = RX11) (hn : (av.map gz_c).sum ≤ M.2.2.1) (hX : gv_X (gc_E11 ws0 tb d M l) (gv_Q M.2.1 M.2.2.2 sh Po) (0, gz_args 0 av, [], sh, h)) : ∃ r hₚ, gz_Ev ws0 tb (d + 1) M av sh h r sh hₚ 0 0 ∧ Po r hₚ := by
  refine gv_ev (code := l) (hp := by rw [hc]; decide) hn ?_
  rw [hc, gc_tb11 htb]
  exact hX
theorem gc_lV12 {ws0 : List Cond} (hws : gc_Ws ws0) {ix n : Nat} {M : gx_M} (h : gq_a gc_cv12 ix = some (M, n)) : gx_lV ws0 RX12 ix M n := gc_lV (hws _ (List.mem_of_getElem? (i := 24) rfl)) gc_av12 h
theorem gc_lS12 {ws0 : List Cond} (hws : gc_Ws ws0) {ix n : Nat} {M : gx_M} (h : gq_a gc_cs12 ix = some (M, n)) : gx_lS ws0 RX12 ix M n := gc_lS (hws _ (List.mem_of_getElem? (i := 25) rfl)) gc_as12 h
theorem gc_tb12 {tb : String → gz_T} (h : gc_tbs tb) : tb RX12 = gc_T12 := h.2.2.2.2.2.2.2.2.2.2.2.2
def gc_E12 (ws0 : List Cond) (tb : String → gz_T) (d : Nat) (M : gx_M) (l : Nat → Option Instr) : gv_E := (ws0, RX12, gc_T12, M.2.1, M.2.2.1, gz_Ev ws0 tb d, l)
theorem gc_ev12 {ws0 : List Cond} {tb : String → gz_T} (htb : gc_tbs tb) {d : Nat} {M : gx_M} {l : Nat → Option Instr} {av : List gz_V} {sh : gz_Sh} {h : gz_H} {Po : Option gz_V → gz_H → Prop} (hc : M.1.cls = RX12) (hn : (av.map gz_c).sum ≤ M.2.2.1) (hX : gv_X (gc_E12 ws0 tb d M l) (gv_Q M.2.1 M.2.2.2 sh Po) (0, gz_args 0 av, [], sh, h)) : ∃ r hₚ, gz_Ev ws0 tb (d + 1) M av sh h r sh hₚ 0 0 ∧ Po r hₚ := by
  refine gv_ev (code := l) (hp := by rw [hc]; decide) hn ?_
  rw [hc, gc_tb12 htb]
  exact hX
