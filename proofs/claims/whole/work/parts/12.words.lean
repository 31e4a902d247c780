/-! the pool's entries and the words that the tables hold of them (printed) -/
def sx_fw_T : List (Nat × List (Nat × Nat)) := [(0, [(9, 229), (29, 231), (37, 233), (40, 235), (47, 237)]), (1, [(9, 43), (15, 44), (18, 45), (21, 48), (25, 46), (28, 47)]), (2, [(12, 166), (18, 168), (27, 174), (31, 176), (34, 178), (45, 171), (49, 172)]), (3, [(12, 205), (18, 209), (26, 210), (30, 207), (61, 211), (64, 49)]), (4, [(15, 149), (21, 151), (24, 153), (27, 155)]), (5, [(12, 108), (21, 110), (25, 112), (29, 114), (32, 122), (35, 116), (43, 120), (46, 118), (53, 91), (56, 87), (59, 82), (79, 50), (89, 80), (92, 74), (95, 77), (113, 86)]), (6, [(9, 72), (15, 75), (18, 78), (21, 81), (24, 84), (27, 90), (35, 88)]), (7, [(12, 250), (18, 251), (24, 253), (31, 254), (38, 255), (42, 256), (46, 257), (49, 170), (53, 169), (60, 173), (67, 208), (70, 167), (73, 109), (77, 206), (93, 111), (97, 92), (110, 73), (117, 76), (120, 79), (123, 83), (126, 89), (140, 85), (151, 113), (154, 117), (163, 115), (166, 119), (169, 121), (172, 51), (204, 175), (208, 156), (239, 177), (242, 150), (245, 152), (252, 179), (255, 232), (258, 234), (261, 236), (263, 238), (269, 230), (278, 252), (300, 154)]), (8, [(9, 737), (15, 738), (18, 739), (21, 746), (24, 747), (28, 748), (31, 749), (34, 751), (45, 742), (48, 743), (51, 744), (72, 741), (75, 745), (186, 750), (227, 752), (233, 754), (236, 753), (249, 755), (264, 740)])]
def sx_fw (c i : Nat) : Nat := (((sx_fw_T.lookup c).getD []).lookup i).getD 0
def sx_clR (ci : Nat) : vw_C := sx_cl.getD ci (RX0, TX0, 0)
def sx_fB (c i ci j : Nat) : Bool := decide (ci < 9) && decide (j < (sx_clR ci).2.2) && sx_wB (.fieldLink (sx_own c) i ((sx_clR ci).2.1 j).1 ((sx_clR ci).2.1 j).2.1 ((sx_clR ci).2.1 j).2.2.1) (sx_fw c i)
theorem sx_f_0 : (((fq_fld_T).lookup 0).getD []).all (fun e => sx_fB 0 e.1 e.2.1 e.2.2) = true := by decide +kernel
theorem sx_f_1 : (((fq_fld_T).lookup 1).getD []).all (fun e => sx_fB 1 e.1 e.2.1 e.2.2) = true := by decide +kernel
theorem sx_f_2 : (((fq_fld_T).lookup 2).getD []).all (fun e => sx_fB 2 e.1 e.2.1 e.2.2) = true := by decide +kernel
theorem sx_f_3 : (((fq_fld_T).lookup 3).getD []).all (fun e => sx_fB 3 e.1 e.2.1 e.2.2) = true := by decide +kernel
theorem sx_f_4 : (((fq_fld_T).lookup 4).getD []).all (fun e => sx_fB 4 e.1 e.2.1 e.2.2) = true := by decide +kernel
theorem sx_f_5 : (((fq_fld_T).lookup 5).getD []).all (fun e => sx_fB 5 e.1 e.2.1 e.2.2) = true := by decide +kernel
theorem sx_f_6 : (((fq_fld_T).lookup 6).getD []).all (fun e => sx_fB 6 e.1 e.2.1 e.2.2) = true := by decide +kernel
theorem sx_f_7 : (((fq_fld_T).lookup 7).getD []).all (fun e => sx_fB 7 e.1 e.2.1 e.2.2) = true := by decide +kernel
theorem sx_f_8 : (((fq_fld_T).lookup 8).getD []).all (fun e => sx_fB 8 e.1 e.2.1 e.2.2) = true := by decide +kernel
theorem sx_f_all : fq_fld_T.all (fun t => t.2.all (fun e => sx_fB t.1 e.1 e.2.1 e.2.2)) = true := by
  unfold fq_fld_T
  simp only [List.all_cons, List.all_nil, Bool.and_true, Bool.and_eq_true]
  refine ⟨?_, ?_, ?_, ?_, ?_, ?_, ?_, ?_, ?_⟩ <;> decide +kernel
/-- a link: by its place, and whether it is a nest mate's -/
def sx_mw_T : List (Nat × List (Nat × (Nat × Bool))) := [(0, [(3, (228, false)), (15, (686, false)), (22, (691, true)), (33, (694, true)), (43, (695, false))]), (1, [(3, (42, false)), (31, (378, true)), (35, (405, true)), (39, (467, false)), (43, (412, true))]), (2, [(3, (30, false)), (11, (33, true)), (24, (142, false)), (37, (716, false)), (41, (717, true)), (52, (718, false))]), (3, [(3, (202, false)), (11, (204, true)), (22, (290, true)), (33, (299, false)), (36, (303, false)), (40, (366, false)), (44, (307, false)), (54, (314, false)), (58, (370, false)), (67, (374, false)), (71, (379, false)), (74, (383, false)), (77, (401, false)), (80, (397, false)), (84, (387, false)), (89, (392, false)), (95, (318, false)), (100, (328, false))]), (4, [(3, (145, false)), (9, (146, false)), (31, (602, true)), (35, (619, true)), (39, (722, true))]), (5, [(3, (36, false)), (11, (39, true)), (20, (68, true)), (39, (449, true)), (49, (450, true)), (62, (451, true)), (66, (555, false)), (69, (541, false)), (73, (456, false)), (82, (542, false)), (86, (546, false)), (98, (462, true)), (102, (463, false)), (106, (471, false)), (110, (475, false)), (116, (526, false)), (120, (527, false)), (123, (532, true)), (127, (533, false))]), (6, [(3, (71, false)), (31, (428, true)), (38, (429, true)), (42, (646, true)), (46, (647, true)), (50, (531, true))]), (7, [(3, (22, false)), (11, (27, true)), (23, (196, true)), (30, (199, true)), (37, (225, true)), (56, (279, false)), (63, (286, false)), (80, (408, false)), (86, (418, false)), (90, (421, false)), (102, (424, false)), (106, (436, false)), (113, (441, false)), (129, (442, false)), (133, (445, false)), (137, (452, false)), (143, (483, false)), (147, (494, false)), (157, (503, false)), (160, (506, false)), (175, (518, false)), (178, (551, false)), (182, (522, false)), (185, (537, false)), (188, (568, false)), (192, (582, false)), (195, (574, false)), (200, (590, false)), (211, (598, false)), (212, (607, false)), (215, (624, false)), (218, (631, false)), (223, (635, false)), (227, (638, false)), (236, (642, false)), (248, (667, false)), (265, (683, true)), (272, (704, false)), (275, (712, false)), (282, (572, false)), (286, (573, false)), (289, (575, false)), (293, (611, false)), (297, (615, false)), (306, (293, false)), (311, (296, false))]), (8, [(3, (736, false)), (41, (802, false)), (55, (813, false)), (59, (826, false)), (64, (827, false)), (68, (828, false)), (78, (849, false)), (81, (853, false)), (84, (841, false)), (89, (858, false)), (95, (832, false)), (98, (845, false)), (101, (822, false)), (107, (818, false)), (113, (837, false)), (118, (809, false)), (121, (895, false)), (124, (899, false)), (128, (891, false)), (131, (880, false)), (135, (868, false)), (138, (875, false)), (142, (884, false)), (145, (887, false)), (148, (907, false)), (151, (927, false)), (154, (947, false)), (157, (951, false)), (161, (954, false)), (165, (943, false)), (168, (939, false)), (171, (962, false)), (174, (966, false)), (177, (970, false)), (180, (982, false)), (183, (998, false)), (189, (994, false)), (192, (990, false)), (196, (1010, false)), (199, (1006, false)), (202, (1030, false)), (205, (1026, false)), (211, (1043, false)), (214, (1047, false)), (218, (1050, false)), (224, (1070, false)), (230, (1093, false)), (239, (1090, false)), (243, (1097, false)), (246, (1086, false)), (252, (1105, false)), (255, (1101, false)), (258, (1113, false)), (261, (1109, false))]), (9, [(9, (19, false)), (12, (733, false)), (13, (275, false)), (17, (798, false)), (18, (282, false)), (22, (805, false)), (23, (414, false)), (27, (864, false)), (28, (432, false)), (32, (871, false)), (33, (479, false)), (36, (903, false)), (37, (486, false)), (40, (911, false)), (41, (490, false)), (45, (915, false)), (46, (495, false)), (49, (919, false)), (50, (499, false)), (53, (923, false)), (54, (510, false)), (57, (931, false)), (58, (514, false)), (61, (978, false)), (62, (547, false)), (65, (935, false)), (66, (556, false)), (69, (958, false)), (70, (560, false)), (73, (974, false)), (74, (564, false)), (77, (986, false)), (78, (578, false)), (81, (1002, false)), (82, (586, false)), (85, (1014, false)), (86, (594, false)), (90, (1018, false)), (91, (603, false)), (94, (1022, false)), (95, (620, false)), (98, (1034, false)), (99, (627, false)), (103, (1038, false)), (104, (650, false)), (107, (1053, false)), (108, (655, false)), (112, (1058, false)), (113, (659, false)), (116, (1062, false)), (117, (663, false)), (120, (1066, false)), (121, (671, false)), (124, (1074, false)), (125, (675, false)), (128, (1078, false)), (129, (679, false)), (132, (1082, false)), (133, (696, false)), (136, (1117, false)), (137, (700, false)), (140, (1121, false)), (141, (708, false)), (144, (1125, false)), (145, (723, false)), (148, (1129, false)), (149, (727, false)), (152, (1133, false))])]
def sx_mw (c i : Nat) : Nat × Bool := (((sx_mw_T.lookup c).getD []).lookup i).getD (0, false)
def sx_bn : Nat → MethodName
  | 900 => Lib.objectInit
  | 901 => arraycopyName
  | 902 => ⟨"java/lang/String", "length", "()I"⟩
  | 903 => ⟨"java/lang/String", "charAt", "(I)C"⟩
  | 904 => Lib.Math.max.name
  | 905 => Lib.Math.min.name
  | y => sx_nm y
def sx_host : String := "FlotsamQuorum"
def sx_lw (c i : Nat) (y : MethodName) : Cond := if (sx_mw c i).2 = true then .methodLinkNest (sx_own c) i y sx_host else .methodLink (sx_own c) i y
def sx_mB (c i w z n ci : Nat) : Bool := (if (sx_mw c i).2 = true then decide (tables_1[(sx_mw c i).1]? = some (sx_lw c i (sx_bn z))) else sx_wB (sx_lw c i (sx_bn z)) (sx_mw c i).1) && (decide (900 ≤ z ∧ (sx_mw c i).2 = false ∧ ((z = 900 ∧ w = 2) ∨ (z = 901 ∧ w = 0) ∨ ((z = 902 ∨ z = 903) ∧ w = 3) ∨ ((z = 904 ∨ z = 905) ∧ w = 0))) || decide (z < 187 ∧ (parseMethodDescriptor (sx_nm z).desc).map (fun d => d.parameters.length) = some (if w = 0 then n else n - 1) ∧ (w = 0 ∨ 0 < n) ∧ (w = 1 → ci < 9 ∧ (sx_clR ci).1 = (sx_nm z).cls) ∧ (w = 2 → (sx_nm z).name = "<init>" ∧ sx_rt z = none) ∧ w < 3))
theorem sx_m_all : fq_mth_T.all (fun t => t.2.all (fun e => sx_mB t.1 e.1 e.2.1 e.2.2.1 e.2.2.2.1 e.2.2.2.2)) = true := by
  unfold fq_mth_T
  simp only [List.all_cons, List.all_nil, Bool.and_true, Bool.and_eq_true]
  refine ⟨⟨?_, ?_, ?_, ?_, ?_⟩, ⟨?_, ?_, ?_, ?_, ?_⟩, ⟨?_, ?_, ?_, ?_, ?_, ?_⟩, ⟨?_, ?_, ?_, ?_, ?_, ?_, ?_, ?_, ?_, ?_, ?_, ?_, ?_, ?_, ?_, ?_, ?_, ?_⟩, ⟨?_, ?_, ?_, ?_, ?_⟩, ⟨?_, ?_, ?_, ?_, ?_, ?_, ?_, ?_, ?_, ?_, ?_, ?_, ?_, ?_, ?_, ?_, ?_, ?_, ?_⟩, ⟨?_, ?_, ?_, ?_, ?_, ?_⟩, ⟨?_, ?_, ?_, ?_, ?_, ?_, ?_, ?_, ?_, ?_, ?_, ?_, ?_, ?_, ?_, ?_, ?_, ?_, ?_, ?_, ?_, ?_, ?_, ?_, ?_, ?_, ?_, ?_, ?_, ?_, ?_, ?_, ?_, ?_, ?_, ?_, ?_, ?_, ?_, ?_, ?_, ?_, ?_, ?_, ?_, ?_⟩, ⟨?_, ?_, ?_, ?_, ?_, ?_, ?_, ?_, ?_, ?_, ?_, ?_, ?_, ?_, ?_, ?_, ?_, ?_, ?_, ?_, ?_, ?_, ?_, ?_, ?_, ?_, ?_, ?_, ?_, ?_, ?_, ?_, ?_, ?_, ?_, ?_, ?_, ?_, ?_, ?_, ?_, ?_, ?_, ?_, ?_, ?_, ?_, ?_, ?_, ?_, ?_, ?_, ?_, ?_⟩, ⟨?_, ?_, ?_, ?_, ?_, ?_, ?_, ?_, ?_, ?_, ?_, ?_, ?_, ?_, ?_, ?_, ?_, ?_, ?_, ?_, ?_, ?_, ?_, ?_, ?_, ?_, ?_, ?_, ?_, ?_, ?_, ?_, ?_, ?_, ?_, ?_, ?_, ?_, ?_, ?_, ?_, ?_, ?_, ?_, ?_, ?_, ?_, ?_, ?_, ?_, ?_, ?_, ?_, ?_, ?_, ?_, ?_, ?_, ?_, ?_, ?_, ?_, ?_, ?_, ?_, ?_, ?_, ?_⟩⟩ <;> decide +kernel
/-- of each method: the places of its words: code; its class's initialized; static or instanceMethod; selects (a private one's stands among lw_privs) -/
def sx_yw_T : List (Nat × Nat × Nat × Nat × Nat) := [(227, 9, 226, 0, 0), (685, 9, 684, 0, 0), (688, 9, 687, 0, 0), (41, 4, 40, 0, 0), (302, 4, 300, 1, 301), (377, 4, 375, 1, 376), (400, 4, 398, 1, 399), (404, 4, 402, 1, 403), (466, 4, 464, 1, 465), (470, 4, 469, 2, 9), (411, 4, 409, 1, 410), (29, 2, 28, 0, 0), (715, 2, 713, 1, 714), (201, 8, 200, 0, 0), (289, 8, 287, 1, 288), (306, 8, 305, 2, 0), (382, 8, 381, 2, 5), (386, 8, 385, 2, 6), (390, 8, 389, 2, 7), (395, 8, 394, 2, 8), (317, 8, 316, 2, 2), (373, 8, 372, 2, 4), (369, 8, 368, 2, 3), (310, 8, 309, 2, 1), (144, 6, 143, 0, 0), (601, 6, 599, 1, 600), (618, 6, 616, 1, 617), (721, 6, 719, 1, 720), (35, 3, 34, 0, 0), (509, 3, 507, 1, 508), (448, 3, 446, 1, 447), (554, 3, 552, 1, 553), (540, 3, 538, 1, 539), (545, 3, 544, 2, 13), (455, 3, 453, 1, 454), (474, 3, 473, 2, 10), (478, 3, 477, 2, 11), (536, 3, 534, 1, 535), (525, 3, 523, 1, 524), (70, 5, 69, 0, 0), (439, 5, 437, 1, 438), (427, 5, 425, 1, 426), (645, 5, 643, 1, 644), (530, 5, 528, 1, 529), (21, 1, 20, 0, 0), (278, 1, 276, 1, 277), (285, 1, 283, 1, 284), (417, 1, 415, 1, 416), (435, 1, 433, 1, 434), (482, 1, 480, 1, 481), (489, 1, 487, 1, 488), (493, 1, 491, 1, 492), (498, 1, 496, 1, 497), (502, 1, 500, 1, 501), (513, 1, 511, 1, 512), (517, 1, 515, 1, 516), (550, 1, 548, 1, 549), (559, 1, 557, 1, 558), (563, 1, 561, 1, 562), (567, 1, 565, 1, 566), (581, 1, 579, 1, 580), (589, 1, 587, 1, 588), (597, 1, 595, 1, 596), (606, 1, 604, 1, 605), (623, 1, 621, 1, 622), (630, 1, 628, 1, 629), (653, 1, 651, 1, 652), (658, 1, 656, 1, 657), (662, 1, 660, 1, 661), (666, 1, 664, 1, 665), (674, 1, 672, 1, 673), (678, 1, 676, 1, 677), (682, 1, 680, 1, 681), (699, 1, 697, 1, 698), (703, 1, 701, 1, 702), (711, 1, 709, 1, 710), (726, 1, 724, 1, 725), (730, 1, 728, 1, 729), (521, 1, 520, 2, 12), (571, 1, 570, 2, 14), (585, 1, 584, 2, 15), (593, 1, 592, 2, 16), (610, 1, 609, 2, 17), (614, 1, 613, 2, 18), (641, 1, 640, 2, 19), (670, 1, 669, 2, 20), (423, 1, 422, 0, 0), (505, 1, 504, 0, 0), (420, 1, 419, 0, 0), (633, 1, 632, 0, 0), (706, 1, 705, 0, 0), (407, 1, 406, 0, 0), (281, 1, 280, 0, 0), (485, 1, 484, 0, 0), (292, 1, 291, 0, 0), (444, 1, 443, 0, 0), (431, 1, 430, 0, 0), (626, 1, 625, 0, 0), (577, 1, 576, 0, 0), (637, 1, 636, 0, 0), (735, 10, 734, 0, 0), (804, 10, 803, 0, 0), (870, 10, 869, 0, 0), (886, 10, 885, 0, 0), (878, 10, 877, 2, 33), (965, 10, 964, 2, 45), (973, 10, 972, 2, 47), (801, 10, 799, 1, 800), (816, 10, 815, 2, 22), (831, 10, 830, 2, 25), (825, 10, 824, 2, 24), (835, 10, 834, 2, 26), (861, 10, 860, 2, 32), (856, 10, 855, 2, 31), (852, 10, 851, 2, 30), (848, 10, 847, 2, 29), (844, 10, 843, 2, 28), (840, 10, 839, 2, 27), (821, 10, 820, 2, 23), (812, 10, 811, 2, 21), (808, 10, 806, 1, 807), (902, 10, 901, 2, 38), (898, 10, 897, 2, 37), (894, 10, 893, 2, 36), (890, 10, 889, 2, 35), (883, 10, 882, 2, 34), (950, 10, 949, 2, 43), (953, 10, 952, 0, 0), (969, 10, 968, 2, 46), (910, 10, 909, 2, 39), (867, 10, 865, 1, 866), (874, 10, 872, 1, 873), (906, 10, 904, 1, 905), (914, 10, 912, 1, 913), (918, 10, 916, 1, 917), (922, 10, 920, 1, 921), (930, 10, 929, 2, 40), (926, 10, 924, 1, 925), (934, 10, 932, 1, 933), (957, 10, 956, 2, 44), (946, 10, 945, 2, 42), (1001, 10, 1000, 2, 51), (942, 10, 941, 2, 41), (938, 10, 936, 1, 937), (961, 10, 959, 1, 960), (977, 10, 975, 1, 976), (985, 10, 984, 2, 48), (981, 10, 979, 1, 980), (997, 10, 996, 2, 50), (993, 10, 992, 2, 49), (989, 10, 987, 1, 988), (1013, 10, 1012, 2, 53), (1009, 10, 1008, 2, 52), (1005, 10, 1003, 1, 1004), (1017, 10, 1015, 1, 1016), (1021, 10, 1019, 1, 1020), (1033, 10, 1032, 2, 55), (1029, 10, 1028, 2, 54), (1025, 10, 1023, 1, 1024), (1037, 10, 1035, 1, 1036), (1052, 10, 1051, 0, 0), (1049, 10, 1048, 0, 0), (1046, 10, 1045, 2, 56), (1041, 10, 1039, 1, 1040), (1056, 10, 1054, 1, 1055), (1061, 10, 1059, 1, 1060), (1065, 10, 1063, 1, 1064), (1073, 10, 1072, 2, 57), (1069, 10, 1067, 1, 1068), (1077, 10, 1075, 1, 1076), (1081, 10, 1079, 1, 1080), (1096, 10, 1095, 2, 59), (1092, 10, 1091, 0, 0), (1100, 10, 1099, 2, 60), (1089, 10, 1088, 2, 58), (1108, 10, 1107, 2, 62), (1104, 10, 1103, 2, 61), (1116, 10, 1115, 2, 64), (1112, 10, 1111, 2, 63), (1085, 10, 1083, 1, 1084), (1120, 10, 1118, 1, 1119), (1124, 10, 1122, 1, 1123), (1128, 10, 1126, 1, 1127), (1132, 10, 1130, 1, 1131), (1136, 10, 1134, 1, 1135), (458, 16, 457, 0, 0), (0, 0, 0, 0, 0)]
def sx_yw (y : Nat) : Nat × Nat × Nat × Nat × Nat := sx_yw_T.getD y (0, 0, 0, 0, 0)
def sx_st (y : Nat) : Bool := decide (y ∈ [1, 2, 86, 87, 88, 89, 90, 91, 92, 93, 94, 95, 96, 97, 98, 99, 101, 102, 103, 127, 160, 161, 172, 185])
def sx_yB (y : Nat) : Bool := sx_wB (.code (sx_nm y) (sx_by y) (fq_met y).2.1 (sx_rt y)) (sx_yw y).1 && sx_wB (.initialized (sx_nm y).cls) (sx_yw y).2.1 && sx_wB (if sx_st y = true then .static (sx_nm y) else .instanceMethod (sx_nm y)) (sx_yw y).2.2.1 && plainName (sx_nm y).cls && decide ((sx_nm y).cls ≠ "java/lang/invoke/MethodHandle") && decide ((sx_nm y).cls ≠ "java/lang/invoke/VarHandle") && decide ((sx_nm y).cls = sx_own (fq_met y).1) && decide ((fq_met y).2.1 ≤ 20) && decide ((fq_met y).2.2.1 = true ↔ sx_rt y = some .boolean) && decide (sx_rt y = none ∨ sx_rt y = some .int ∨ sx_rt y = some .long ∨ sx_rt y = some .boolean) && decide ((fq_met y).2.2.2 = true → (sx_nm y).name = "<init>")
def sx_law : Nat := 186
theorem sx_y_0 : sx_yB 0 = true := by decide +kernel
theorem sx_y_1 : sx_yB 1 = true := by decide +kernel
theorem sx_y_2 : sx_yB 2 = true := by decide +kernel
theorem sx_y_3 : sx_yB 3 = true := by decide +kernel
theorem sx_y_4 : sx_yB 4 = true := by decide +kernel
theorem sx_y_5 : sx_yB 5 = true := by decide +kernel
theorem sx_y_6 : sx_yB 6 = true := by decide +kernel
theorem sx_y_7 : sx_yB 7 = true := by decide +kernel
theorem sx_y_8 : sx_yB 8 = true := by decide +kernel
theorem sx_y_9 : sx_yB 9 = true := by decide +kernel
theorem sx_y_10 : sx_yB 10 = true := by decide +kernel
theorem sx_y_11 : sx_yB 11 = true := by decide +kernel
theorem sx_y_12 : sx_yB 12 = true := by decide +kernel
theorem sx_y_13 : sx_yB 13 = true := by decide +kernel
theorem sx_y_14 : sx_yB 14 = true := by decide +kernel
theorem sx_y_15 : sx_yB 15 = true := by decide +kernel
theorem sx_y_16 : sx_yB 16 = true := by decide +kernel
theorem sx_y_17 : sx_yB 17 = true := by decide +kernel
theorem sx_y_18 : sx_yB 18 = true := by decide +kernel
theorem sx_y_19 : sx_yB 19 = true := by decide +kernel
theorem sx_y_20 : sx_yB 20 = true := by decide +kernel
theorem sx_y_21 : sx_yB 21 = true := by decide +kernel
theorem sx_y_22 : sx_yB 22 = true := by decide +kernel
theorem sx_y_23 : sx_yB 23 = true := by decide +kernel
theorem sx_y_24 : sx_yB 24 = true := by decide +kernel
theorem sx_y_25 : sx_yB 25 = true := by decide +kernel
theorem sx_y_26 : sx_yB 26 = true := by decide +kernel
theorem sx_y_27 : sx_yB 27 = true := by decide +kernel
theorem sx_y_28 : sx_yB 28 = true := by decide +kernel
theorem sx_y_29 : sx_yB 29 = true := by decide +kernel
theorem sx_y_30 : sx_yB 30 = true := by decide +kernel
theorem sx_y_31 : sx_yB 31 = true := by decide +kernel
theorem sx_y_32 : sx_yB 32 = true := by decide +kernel
theorem sx_y_33 : sx_yB 33 = true := by decide +kernel
theorem sx_y_34 : sx_yB 34 = true := by decide +kernel
theorem sx_y_35 : sx_yB 35 = true := by decide +kernel
theorem sx_y_36 : sx_yB 36 = true := by decide +kernel
theorem sx_y_37 : sx_yB 37 = true := by decide +kernel
theorem sx_y_38 : sx_yB 38 = true := by decide +kernel
theorem sx_y_39 : sx_yB 39 = true := by decide +kernel
theorem sx_y_40 : sx_yB 40 = true := by decide +kernel
theorem sx_y_41 : sx_yB 41 = true := by decide +kernel
theorem sx_y_42 : sx_yB 42 = true := by decide +kernel
theorem sx_y_43 : sx_yB 43 = true := by decide +kernel
theorem sx_y_44 : sx_yB 44 = true := by decide +kernel
theorem sx_y_45 : sx_yB 45 = true := by decide +kernel
theorem sx_y_46 : sx_yB 46 = true := by decide +kernel
theorem sx_y_47 : sx_yB 47 = true := by decide +kernel
theorem sx_y_48 : sx_yB 48 = true := by decide +kernel
theorem sx_y_49 : sx_yB 49 = true := by decide +kernel
theorem sx_y_50 : sx_yB 50 = true := by decide +kernel
theorem sx_y_51 : sx_yB 51 = true := by decide +kernel
theorem sx_y_52 : sx_yB 52 = true := by decide +kernel
theorem sx_y_53 : sx_yB 53 = true := by decide +kernel
theorem sx_y_54 : sx_yB 54 = true := by decide +kernel
theorem sx_y_55 : sx_yB 55 = true := by decide +kernel
theorem sx_y_56 : sx_yB 56 = true := by decide +kernel
theorem sx_y_57 : sx_yB 57 = true := by decide +kernel
theorem sx_y_58 : sx_yB 58 = true := by decide +kernel
theorem sx_y_59 : sx_yB 59 = true := by decide +kernel
theorem sx_y_60 : sx_yB 60 = true := by decide +kernel
theorem sx_y_61 : sx_yB 61 = true := by decide +kernel
theorem sx_y_62 : sx_yB 62 = true := by decide +kernel
theorem sx_y_63 : sx_yB 63 = true := by decide +kernel
theorem sx_y_64 : sx_yB 64 = true := by decide +kernel
theorem sx_y_65 : sx_yB 65 = true := by decide +kernel
theorem sx_y_66 : sx_yB 66 = true := by decide +kernel
theorem sx_y_67 : sx_yB 67 = true := by decide +kernel
theorem sx_y_68 : sx_yB 68 = true := by decide +kernel
theorem sx_y_69 : sx_yB 69 = true := by decide +kernel
theorem sx_y_70 : sx_yB 70 = true := by decide +kernel
theorem sx_y_71 : sx_yB 71 = true := by decide +kernel
theorem sx_y_72 : sx_yB 72 = true := by decide +kernel
theorem sx_y_73 : sx_yB 73 = true := by decide +kernel
theorem sx_y_74 : sx_yB 74 = true := by decide +kernel
theorem sx_y_75 : sx_yB 75 = true := by decide +kernel
theorem sx_y_76 : sx_yB 76 = true := by decide +kernel
theorem sx_y_77 : sx_yB 77 = true := by decide +kernel
theorem sx_y_78 : sx_yB 78 = true := by decide +kernel
theorem sx_y_79 : sx_yB 79 = true := by decide +kernel
theorem sx_y_80 : sx_yB 80 = true := by decide +kernel
theorem sx_y_81 : sx_yB 81 = true := by decide +kernel
theorem sx_y_82 : sx_yB 82 = true := by decide +kernel
theorem sx_y_83 : sx_yB 83 = true := by decide +kernel
theorem sx_y_84 : sx_yB 84 = true := by decide +kernel
theorem sx_y_85 : sx_yB 85 = true := by decide +kernel
theorem sx_y_86 : sx_yB 86 = true := by decide +kernel
theorem sx_y_87 : sx_yB 87 = true := by decide +kernel
theorem sx_y_88 : sx_yB 88 = true := by decide +kernel
theorem sx_y_89 : sx_yB 89 = true := by decide +kernel
theorem sx_y_90 : sx_yB 90 = true := by decide +kernel
theorem sx_y_91 : sx_yB 91 = true := by decide +kernel
theorem sx_y_92 : sx_yB 92 = true := by decide +kernel
theorem sx_y_93 : sx_yB 93 = true := by decide +kernel
theorem sx_y_94 : sx_yB 94 = true := by decide +kernel
theorem sx_y_95 : sx_yB 95 = true := by decide +kernel
theorem sx_y_96 : sx_yB 96 = true := by decide +kernel
theorem sx_y_97 : sx_yB 97 = true := by decide +kernel
theorem sx_y_98 : sx_yB 98 = true := by decide +kernel
theorem sx_y_99 : sx_yB 99 = true := by decide +kernel
theorem sx_y_100 : sx_yB 100 = true := by decide +kernel
theorem sx_y_101 : sx_yB 101 = true := by decide +kernel
theorem sx_y_102 : sx_yB 102 = true := by decide +kernel
theorem sx_y_103 : sx_yB 103 = true := by decide +kernel
theorem sx_y_104 : sx_yB 104 = true := by decide +kernel
theorem sx_y_105 : sx_yB 105 = true := by decide +kernel
theorem sx_y_106 : sx_yB 106 = true := by decide +kernel
theorem sx_y_107 : sx_yB 107 = true := by decide +kernel
theorem sx_y_108 : sx_yB 108 = true := by decide +kernel
theorem sx_y_109 : sx_yB 109 = true := by decide +kernel
theorem sx_y_110 : sx_yB 110 = true := by decide +kernel
theorem sx_y_111 : sx_yB 111 = true := by decide +kernel
theorem sx_y_112 : sx_yB 112 = true := by decide +kernel
theorem sx_y_113 : sx_yB 113 = true := by decide +kernel
theorem sx_y_114 : sx_yB 114 = true := by decide +kernel
theorem sx_y_115 : sx_yB 115 = true := by decide +kernel
theorem sx_y_116 : sx_yB 116 = true := by decide +kernel
theorem sx_y_117 : sx_yB 117 = true := by decide +kernel
theorem sx_y_118 : sx_yB 118 = true := by decide +kernel
theorem sx_y_119 : sx_yB 119 = true := by decide +kernel
theorem sx_y_120 : sx_yB 120 = true := by decide +kernel
theorem sx_y_121 : sx_yB 121 = true := by decide +kernel
theorem sx_y_122 : sx_yB 122 = true := by decide +kernel
theorem sx_y_123 : sx_yB 123 = true := by decide +kernel
theorem sx_y_124 : sx_yB 124 = true := by decide +kernel
theorem sx_y_125 : sx_yB 125 = true := by decide +kernel
theorem sx_y_126 : sx_yB 126 = true := by decide +kernel
theorem sx_y_127 : sx_yB 127 = true := by decide +kernel
theorem sx_y_128 : sx_yB 128 = true := by decide +kernel
theorem sx_y_129 : sx_yB 129 = true := by decide +kernel
theorem sx_y_130 : sx_yB 130 = true := by decide +kernel
theorem sx_y_131 : sx_yB 131 = true := by decide +kernel
theorem sx_y_132 : sx_yB 132 = true := by decide +kernel
theorem sx_y_133 : sx_yB 133 = true := by decide +kernel
theorem sx_y_134 : sx_yB 134 = true := by decide +kernel
theorem sx_y_135 : sx_yB 135 = true := by decide +kernel
theorem sx_y_136 : sx_yB 136 = true := by decide +kernel
theorem sx_y_137 : sx_yB 137 = true := by decide +kernel
theorem sx_y_138 : sx_yB 138 = true := by decide +kernel
theorem sx_y_139 : sx_yB 139 = true := by decide +kernel
theorem sx_y_140 : sx_yB 140 = true := by decide +kernel
theorem sx_y_141 : sx_yB 141 = true := by decide +kernel
theorem sx_y_142 : sx_yB 142 = true := by decide +kernel
theorem sx_y_143 : sx_yB 143 = true := by decide +kernel
theorem sx_y_144 : sx_yB 144 = true := by decide +kernel
theorem sx_y_145 : sx_yB 145 = true := by decide +kernel
theorem sx_y_146 : sx_yB 146 = true := by decide +kernel
theorem sx_y_147 : sx_yB 147 = true := by decide +kernel
theorem sx_y_148 : sx_yB 148 = true := by decide +kernel
theorem sx_y_149 : sx_yB 149 = true := by decide +kernel
theorem sx_y_150 : sx_yB 150 = true := by decide +kernel
theorem sx_y_151 : sx_yB 151 = true := by decide +kernel
theorem sx_y_152 : sx_yB 152 = true := by decide +kernel
theorem sx_y_153 : sx_yB 153 = true := by decide +kernel
theorem sx_y_154 : sx_yB 154 = true := by decide +kernel
theorem sx_y_155 : sx_yB 155 = true := by decide +kernel
theorem sx_y_156 : sx_yB 156 = true := by decide +kernel
theorem sx_y_157 : sx_yB 157 = true := by decide +kernel
theorem sx_y_158 : sx_yB 158 = true := by decide +kernel
theorem sx_y_159 : sx_yB 159 = true := by decide +kernel
theorem sx_y_160 : sx_yB 160 = true := by decide +kernel
theorem sx_y_161 : sx_yB 161 = true := by decide +kernel
theorem sx_y_162 : sx_yB 162 = true := by decide +kernel
theorem sx_y_163 : sx_yB 163 = true := by decide +kernel
theorem sx_y_164 : sx_yB 164 = true := by decide +kernel
theorem sx_y_165 : sx_yB 165 = true := by decide +kernel
theorem sx_y_166 : sx_yB 166 = true := by decide +kernel
theorem sx_y_167 : sx_yB 167 = true := by decide +kernel
theorem sx_y_168 : sx_yB 168 = true := by decide +kernel
theorem sx_y_169 : sx_yB 169 = true := by decide +kernel
theorem sx_y_170 : sx_yB 170 = true := by decide +kernel
theorem sx_y_171 : sx_yB 171 = true := by decide +kernel
theorem sx_y_172 : sx_yB 172 = true := by decide +kernel
theorem sx_y_173 : sx_yB 173 = true := by decide +kernel
theorem sx_y_174 : sx_yB 174 = true := by decide +kernel
theorem sx_y_175 : sx_yB 175 = true := by decide +kernel
theorem sx_y_176 : sx_yB 176 = true := by decide +kernel
theorem sx_y_177 : sx_yB 177 = true := by decide +kernel
theorem sx_y_178 : sx_yB 178 = true := by decide +kernel
theorem sx_y_179 : sx_yB 179 = true := by decide +kernel
theorem sx_y_180 : sx_yB 180 = true := by decide +kernel
theorem sx_y_181 : sx_yB 181 = true := by decide +kernel
theorem sx_y_182 : sx_yB 182 = true := by decide +kernel
theorem sx_y_183 : sx_yB 183 = true := by decide +kernel
theorem sx_y_184 : sx_yB 184 = true := by decide +kernel
theorem sx_y_185 : sx_yB 185 = true := by decide +kernel
theorem sx_y_all : ∀ y, y < 187 → y ≠ 186 → sx_yB y = true := by
  intro y hy hn
  match y, hy with
  | 0, _ => exact sx_y_0
  | 1, _ => exact sx_y_1
  | 2, _ => exact sx_y_2
  | 3, _ => exact sx_y_3
  | 4, _ => exact sx_y_4
  | 5, _ => exact sx_y_5
  | 6, _ => exact sx_y_6
  | 7, _ => exact sx_y_7
  | 8, _ => exact sx_y_8
  | 9, _ => exact sx_y_9
  | 10, _ => exact sx_y_10
  | 11, _ => exact sx_y_11
  | 12, _ => exact sx_y_12
  | 13, _ => exact sx_y_13
  | 14, _ => exact sx_y_14
  | 15, _ => exact sx_y_15
  | 16, _ => exact sx_y_16
  | 17, _ => exact sx_y_17
  | 18, _ => exact sx_y_18
  | 19, _ => exact sx_y_19
  | 20, _ => exact sx_y_20
  | 21, _ => exact sx_y_21
  | 22, _ => exact sx_y_22
  | 23, _ => exact sx_y_23
  | 24, _ => exact sx_y_24
  | 25, _ => exact sx_y_25
  | 26, _ => exact sx_y_26
  | 27, _ => exact sx_y_27
  | 28, _ => exact sx_y_28
  | 29, _ => exact sx_y_29
  | 30, _ => exact sx_y_30
  | 31, _ => exact sx_y_31
  | 32, _ => exact sx_y_32
  | 33, _ => exact sx_y_33
  | 34, _ => exact sx_y_34
  | 35, _ => exact sx_y_35
  | 36, _ => exact sx_y_36
  | 37, _ => exact sx_y_37
  | 38, _ => exact sx_y_38
  | 39, _ => exact sx_y_39
  | 40, _ => exact sx_y_40
  | 41, _ => exact sx_y_41
  | 42, _ => exact sx_y_42
  | 43, _ => exact sx_y_43
  | 44, _ => exact sx_y_44
  | 45, _ => exact sx_y_45
  | 46, _ => exact sx_y_46
  | 47, _ => exact sx_y_47
  | 48, _ => exact sx_y_48
  | 49, _ => exact sx_y_49
  | 50, _ => exact sx_y_50
  | 51, _ => exact sx_y_51
  | 52, _ => exact sx_y_52
  | 53, _ => exact sx_y_53
  | 54, _ => exact sx_y_54
  | 55, _ => exact sx_y_55
  | 56, _ => exact sx_y_56
  | 57, _ => exact sx_y_57
  | 58, _ => exact sx_y_58
  | 59, _ => exact sx_y_59
  | 60, _ => exact sx_y_60
  | 61, _ => exact sx_y_61
  | 62, _ => exact sx_y_62
  | 63, _ => exact sx_y_63
  | 64, _ => exact sx_y_64
  | 65, _ => exact sx_y_65
  | 66, _ => exact sx_y_66
  | 67, _ => exact sx_y_67
  | 68, _ => exact sx_y_68
  | 69, _ => exact sx_y_69
  | 70, _ => exact sx_y_70
  | 71, _ => exact sx_y_71
  | 72, _ => exact sx_y_72
  | 73, _ => exact sx_y_73
  | 74, _ => exact sx_y_74
  | 75, _ => exact sx_y_75
  | 76, _ => exact sx_y_76
  | 77, _ => exact sx_y_77
  | 78, _ => exact sx_y_78
  | 79, _ => exact sx_y_79
  | 80, _ => exact sx_y_80
  | 81, _ => exact sx_y_81
  | 82, _ => exact sx_y_82
  | 83, _ => exact sx_y_83
  | 84, _ => exact sx_y_84
  | 85, _ => exact sx_y_85
  | 86, _ => exact sx_y_86
  | 87, _ => exact sx_y_87
  | 88, _ => exact sx_y_88
  | 89, _ => exact sx_y_89
  | 90, _ => exact sx_y_90
  | 91, _ => exact sx_y_91
  | 92, _ => exact sx_y_92
  | 93, _ => exact sx_y_93
  | 94, _ => exact sx_y_94
  | 95, _ => exact sx_y_95
  | 96, _ => exact sx_y_96
  | 97, _ => exact sx_y_97
  | 98, _ => exact sx_y_98
  | 99, _ => exact sx_y_99
  | 100, _ => exact sx_y_100
  | 101, _ => exact sx_y_101
  | 102, _ => exact sx_y_102
  | 103, _ => exact sx_y_103
  | 104, _ => exact sx_y_104
  | 105, _ => exact sx_y_105
  | 106, _ => exact sx_y_106
  | 107, _ => exact sx_y_107
  | 108, _ => exact sx_y_108
  | 109, _ => exact sx_y_109
  | 110, _ => exact sx_y_110
  | 111, _ => exact sx_y_111
  | 112, _ => exact sx_y_112
  | 113, _ => exact sx_y_113
  | 114, _ => exact sx_y_114
  | 115, _ => exact sx_y_115
  | 116, _ => exact sx_y_116
  | 117, _ => exact sx_y_117
  | 118, _ => exact sx_y_118
  | 119, _ => exact sx_y_119
  | 120, _ => exact sx_y_120
  | 121, _ => exact sx_y_121
  | 122, _ => exact sx_y_122
  | 123, _ => exact sx_y_123
  | 124, _ => exact sx_y_124
  | 125, _ => exact sx_y_125
  | 126, _ => exact sx_y_126
  | 127, _ => exact sx_y_127
  | 128, _ => exact sx_y_128
  | 129, _ => exact sx_y_129
  | 130, _ => exact sx_y_130
  | 131, _ => exact sx_y_131
  | 132, _ => exact sx_y_132
  | 133, _ => exact sx_y_133
  | 134, _ => exact sx_y_134
  | 135, _ => exact sx_y_135
  | 136, _ => exact sx_y_136
  | 137, _ => exact sx_y_137
  | 138, _ => exact sx_y_138
  | 139, _ => exact sx_y_139
  | 140, _ => exact sx_y_140
  | 141, _ => exact sx_y_141
  | 142, _ => exact sx_y_142
  | 143, _ => exact sx_y_143
  | 144, _ => exact sx_y_144
  | 145, _ => exact sx_y_145
  | 146, _ => exact sx_y_146
  | 147, _ => exact sx_y_147
  | 148, _ => exact sx_y_148
  | 149, _ => exact sx_y_149
  | 150, _ => exact sx_y_150
  | 151, _ => exact sx_y_151
  | 152, _ => exact sx_y_152
  | 153, _ => exact sx_y_153
  | 154, _ => exact sx_y_154
  | 155, _ => exact sx_y_155
  | 156, _ => exact sx_y_156
  | 157, _ => exact sx_y_157
  | 158, _ => exact sx_y_158
  | 159, _ => exact sx_y_159
  | 160, _ => exact sx_y_160
  | 161, _ => exact sx_y_161
  | 162, _ => exact sx_y_162
  | 163, _ => exact sx_y_163
  | 164, _ => exact sx_y_164
  | 165, _ => exact sx_y_165
  | 166, _ => exact sx_y_166
  | 167, _ => exact sx_y_167
  | 168, _ => exact sx_y_168
  | 169, _ => exact sx_y_169
  | 170, _ => exact sx_y_170
  | 171, _ => exact sx_y_171
  | 172, _ => exact sx_y_172
  | 173, _ => exact sx_y_173
  | 174, _ => exact sx_y_174
  | 175, _ => exact sx_y_175
  | 176, _ => exact sx_y_176
  | 177, _ => exact sx_y_177
  | 178, _ => exact sx_y_178
  | 179, _ => exact sx_y_179
  | 180, _ => exact sx_y_180
  | 181, _ => exact sx_y_181
  | 182, _ => exact sx_y_182
  | 183, _ => exact sx_y_183
  | 184, _ => exact sx_y_184
  | 185, _ => exact sx_y_185
  | 186, _ => exact absurd rfl hn
  | y + 187, hy => exact absurd hy (by omega)
def sx_selB (y : Nat) : Bool := if (sx_yw y).2.2.2.1 = 1 then sx_wB (.selects (sx_nm y).cls (sx_nm y) (sx_nm y)) (sx_yw y).2.2.2.2 else if (sx_yw y).2.2.2.1 = 2 then decide ((k2_sels lw_privs)[(sx_yw y).2.2.2.2]? = some (.selects (sx_nm y).cls (sx_nm y) (sx_nm y))) && goodWord (.selects (sx_nm y).cls (sx_nm y) (sx_nm y)) else false
def sx_virt : List Nat := [4, 5, 6, 7, 8, 9, 10, 12, 14, 15, 16, 17, 18, 19, 20, 21, 22, 23, 25, 26, 27, 29, 30, 31, 32, 33, 34, 35, 36, 37, 38, 40, 41, 42, 43, 45, 46, 47, 48, 49, 50, 51, 52, 53, 54, 55, 56, 57, 58, 59, 60, 61, 62, 63, 64, 65, 66, 67, 68, 69, 70, 71, 72, 73, 74, 75, 76, 77, 78, 79, 80, 81, 82, 83, 84, 85, 104, 105, 106, 107, 108, 109, 110, 111, 112, 113, 114, 115, 116, 117, 118, 119, 120, 121, 122, 123, 124, 125, 126, 128, 129, 130, 131, 132, 133, 134, 135, 136, 137, 138, 139, 140, 141, 142, 143, 144, 145, 146, 147, 148, 149, 150, 151, 152, 153, 154, 155, 156, 157, 158, 159, 162, 163, 164, 165, 166, 167, 168, 169, 170, 171, 173, 174, 175, 176, 177, 178, 179, 180, 181, 182, 183, 184]
theorem sx_sel_all : sx_virt.all sx_selB = true := by
  unfold sx_virt
  simp only [List.all_cons, List.all_nil, Bool.and_true, Bool.and_eq_true]
  refine ⟨?_, ?_, ?_, ?_, ?_, ?_, ?_, ?_, ?_, ?_, ?_, ?_, ?_, ?_, ?_, ?_, ?_, ?_, ?_, ?_, ?_, ?_, ?_, ?_, ?_, ?_, ?_, ?_, ?_, ?_, ?_, ?_, ?_, ?_, ?_, ?_, ?_, ?_, ?_, ?_, ?_, ?_, ?_, ?_, ?_, ?_, ?_, ?_, ?_, ?_, ?_, ?_, ?_, ?_, ?_, ?_, ?_, ?_, ?_, ?_, ?_, ?_, ?_, ?_, ?_, ?_, ?_, ?_, ?_, ?_, ?_, ?_, ?_, ?_, ?_, ?_, ?_, ?_, ?_, ?_, ?_, ?_, ?_, ?_, ?_, ?_, ?_, ?_, ?_, ?_, ?_, ?_, ?_, ?_, ?_, ?_, ?_, ?_, ?_, ?_, ?_, ?_, ?_, ?_, ?_, ?_, ?_, ?_, ?_, ?_, ?_, ?_, ?_, ?_, ?_, ?_, ?_, ?_, ?_, ?_, ?_, ?_, ?_, ?_, ?_, ?_, ?_, ?_, ?_, ?_, ?_, ?_, ?_, ?_, ?_, ?_, ?_, ?_, ?_, ?_, ?_, ?_, ?_, ?_, ?_, ?_, ?_, ?_, ?_, ?_, ?_, ?_, ?_⟩ <;> decide +kernel
theorem sx_v_all : fq_mth_T.all (fun t => t.2.all (fun e => decide (e.2.1 = 1 → e.2.2.1 ∈ sx_virt) && decide (e.2.1 = 0 ∧ e.2.2.1 < 900 → sx_st e.2.2.1 = true) && decide ((e.2.1 = 1 ∨ e.2.1 = 2) ∧ e.2.2.1 < 900 → sx_st e.2.2.1 = false) && decide (e.2.1 ≠ 1 ∨ e.2.2.1 < 900) && decide (e.2.2.1 ≠ sx_law))) = true := by decide +kernel
def sx_kw_T : List (Nat × List (Nat × Nat)) := [(3, []), (7, [(109, 440), (221, 634), (234, 654)]), (8, [(141, 879), (209, 1042), (222, 1057)]), (10, [(265, 459), (266, 460), (267, 461)])]
def sx_kw (c i : Nat) : Nat := (((sx_kw_T.lookup c).getD []).lookup i).getD 0
/-- the texts' places in the pools: class, place, text -/
def sx_sr : List (Nat × Nat × Nat) := [(3, 48, 0), (3, 50, 1), (3, 52, 2), (3, 87, 3), (3, 93, 4), (8, 105, 0), (8, 111, 1), (8, 87, 3), (8, 93, 4), (8, 116, 2)]
def sx_tx (i : Nat) : String := ["quorum ", "favour ", "resent ", "pkvmct", "<=>"].getD i ""
def sx_kB (c i : Nat) : Value → Bool
  | .int v => sx_wB (.constant (sx_own c) i v) (sx_kw c i)
  | .long v => sx_wB (.constantLong (sx_own c) i v) (sx_kw c i)
  | .ref k => decide ((c, i, k - 1000) ∈ sx_sr ∧ 1000 ≤ k)
  | _ => true
theorem sx_k_all : fq_kon_T.all (fun t => t.2.all (fun e => sx_kB t.1 e.1 e.2)) = true := by decide +kernel
def sx_cw_T : List (Nat × List (Nat × (Nat × Nat × Nat))) := [(2, [(9, (31, 32, 3)), (22, (140, 141, 6))]), (3, [(9, (203, 38, 4))]), (5, [(9, (37, 38, 4)), (18, (66, 67, 5))]), (7, [(9, (25, 26, 2)), (21, (195, 32, 3)), (28, (197, 198, 8)), (35, (223, 224, 9))]), (9, [(7, (17, 18, 1)), (10, (731, 732, 10))])]
def sx_cw (c i : Nat) : Nat × Nat × Nat := (((sx_cw_T.lookup c).getD []).lookup i).getD (0, 0, 0)
def sx_cB (c i ci : Nat) : Bool := decide (ci < 9) && sx_wB (.classLink (sx_own c) i (sx_clR ci).1) (sx_cw c i).1 && sx_wB (.instantiable (sx_clR ci).1 (sx_clR ci).2.2) (sx_cw c i).2.1 && sx_wB (.initialized (sx_clR ci).1) (sx_cw c i).2.2
theorem sx_c_all : fq_cls_T.all (fun t => t.2.all (fun e => sx_cB t.1 e.1 e.2)) = true := by decide +kernel
theorem sx_in_0 : ∀ w ∈ u_ws RX0 TX0 5, w ∈ sx_big := by
  have h : ((u_ws RX0 TX0 5).zip [239, 241, 243, 245, 247]).all (fun q => sx_wB q.1 q.2) = true := by decide +kernel
  have hl : (u_ws RX0 TX0 5).length = [239, 241, 243, 245, 247].length := by decide +kernel
  intro w hw
  obtain ⟨i, hi⟩ := List.getElem?_of_mem hw
  have hi2 : i < [239, 241, 243, 245, 247].length := by rw [← hl]; exact (List.getElem?_eq_some_iff.mp hi).1
  exact sx_wB_mem (List.all_eq_true.mp h (w, [239, 241, 243, 245, 247][i]) (List.mem_of_getElem? (i := i) (by rw [List.getElem?_zip_eq_some]; exact ⟨hi, List.getElem?_eq_getElem hi2⟩)))
theorem sx_in_1 : ∀ w ∈ u_ws RX1 TX1 6, w ∈ sx_big := by
  have h : ((u_ws RX1 TX1 6).zip [52, 54, 56, 58, 60, 62]).all (fun q => sx_wB q.1 q.2) = true := by decide +kernel
  have hl : (u_ws RX1 TX1 6).length = [52, 54, 56, 58, 60, 62].length := by decide +kernel
  intro w hw
  obtain ⟨i, hi⟩ := List.getElem?_of_mem hw
  have hi2 : i < [52, 54, 56, 58, 60, 62].length := by rw [← hl]; exact (List.getElem?_eq_some_iff.mp hi).1
  exact sx_wB_mem (List.all_eq_true.mp h (w, [52, 54, 56, 58, 60, 62][i]) (List.mem_of_getElem? (i := i) (by rw [List.getElem?_zip_eq_some]; exact ⟨hi, List.getElem?_eq_getElem hi2⟩)))
theorem sx_in_2 : ∀ w ∈ u_ws RX2 TX2 7, w ∈ sx_big := by
  have h : ((u_ws RX2 TX2 7).zip [180, 182, 184, 186, 188, 190, 192]).all (fun q => sx_wB q.1 q.2) = true := by decide +kernel
  have hl : (u_ws RX2 TX2 7).length = [180, 182, 184, 186, 188, 190, 192].length := by decide +kernel
  intro w hw
  obtain ⟨i, hi⟩ := List.getElem?_of_mem hw
  have hi2 : i < [180, 182, 184, 186, 188, 190, 192].length := by rw [← hl]; exact (List.getElem?_eq_some_iff.mp hi).1
  exact sx_wB_mem (List.all_eq_true.mp h (w, [180, 182, 184, 186, 188, 190, 192][i]) (List.mem_of_getElem? (i := i) (by rw [List.getElem?_zip_eq_some]; exact ⟨hi, List.getElem?_eq_getElem hi2⟩)))
theorem sx_in_3 : ∀ w ∈ u_ws RX3 TX3 5, w ∈ sx_big := by
  have h : ((u_ws RX3 TX3 5).zip [212, 214, 216, 218, 220]).all (fun q => sx_wB q.1 q.2) = true := by decide +kernel
  have hl : (u_ws RX3 TX3 5).length = [212, 214, 216, 218, 220].length := by decide +kernel
  intro w hw
  obtain ⟨i, hi⟩ := List.getElem?_of_mem hw
  have hi2 : i < [212, 214, 216, 218, 220].length := by rw [← hl]; exact (List.getElem?_eq_some_iff.mp hi).1
  exact sx_wB_mem (List.all_eq_true.mp h (w, [212, 214, 216, 218, 220][i]) (List.mem_of_getElem? (i := i) (by rw [List.getElem?_zip_eq_some]; exact ⟨hi, List.getElem?_eq_getElem hi2⟩)))
theorem sx_in_4 : ∀ w ∈ u_ws RX4 TX4 4, w ∈ sx_big := by
  have h : ((u_ws RX4 TX4 4).zip [157, 159, 161, 163]).all (fun q => sx_wB q.1 q.2) = true := by decide +kernel
  have hl : (u_ws RX4 TX4 4).length = [157, 159, 161, 163].length := by decide +kernel
  intro w hw
  obtain ⟨i, hi⟩ := List.getElem?_of_mem hw
  have hi2 : i < [157, 159, 161, 163].length := by rw [← hl]; exact (List.getElem?_eq_some_iff.mp hi).1
  exact sx_wB_mem (List.all_eq_true.mp h (w, [157, 159, 161, 163][i]) (List.mem_of_getElem? (i := i) (by rw [List.getElem?_zip_eq_some]; exact ⟨hi, List.getElem?_eq_getElem hi2⟩)))
theorem sx_in_5 : ∀ w ∈ u_ws RX5 TX5 8, w ∈ sx_big := by
  have h : ((u_ws RX5 TX5 8).zip [123, 125, 127, 129, 131, 133, 135, 137]).all (fun q => sx_wB q.1 q.2) = true := by decide +kernel
  have hl : (u_ws RX5 TX5 8).length = [123, 125, 127, 129, 131, 133, 135, 137].length := by decide +kernel
  intro w hw
  obtain ⟨i, hi⟩ := List.getElem?_of_mem hw
  have hi2 : i < [123, 125, 127, 129, 131, 133, 135, 137].length := by rw [← hl]; exact (List.getElem?_eq_some_iff.mp hi).1
  exact sx_wB_mem (List.all_eq_true.mp h (w, [123, 125, 127, 129, 131, 133, 135, 137][i]) (List.mem_of_getElem? (i := i) (by rw [List.getElem?_zip_eq_some]; exact ⟨hi, List.getElem?_eq_getElem hi2⟩)))
theorem sx_in_6 : ∀ w ∈ u_ws RX6 TX6 7, w ∈ sx_big := by
  have h : ((u_ws RX6 TX6 7).zip [93, 95, 97, 99, 101, 103, 105]).all (fun q => sx_wB q.1 q.2) = true := by decide +kernel
  have hl : (u_ws RX6 TX6 7).length = [93, 95, 97, 99, 101, 103, 105].length := by decide +kernel
  intro w hw
  obtain ⟨i, hi⟩ := List.getElem?_of_mem hw
  have hi2 : i < [93, 95, 97, 99, 101, 103, 105].length := by rw [← hl]; exact (List.getElem?_eq_some_iff.mp hi).1
  exact sx_wB_mem (List.all_eq_true.mp h (w, [93, 95, 97, 99, 101, 103, 105][i]) (List.mem_of_getElem? (i := i) (by rw [List.getElem?_zip_eq_some]; exact ⟨hi, List.getElem?_eq_getElem hi2⟩)))
theorem sx_in_7 : ∀ w ∈ u_ws RX7 TX7 8, w ∈ sx_big := by
  have h : ((u_ws RX7 TX7 8).zip [258, 260, 262, 264, 266, 268, 270, 272]).all (fun q => sx_wB q.1 q.2) = true := by decide +kernel
  have hl : (u_ws RX7 TX7 8).length = [258, 260, 262, 264, 266, 268, 270, 272].length := by decide +kernel
  intro w hw
  obtain ⟨i, hi⟩ := List.getElem?_of_mem hw
  have hi2 : i < [258, 260, 262, 264, 266, 268, 270, 272].length := by rw [← hl]; exact (List.getElem?_eq_some_iff.mp hi).1
  exact sx_wB_mem (List.all_eq_true.mp h (w, [258, 260, 262, 264, 266, 268, 270, 272][i]) (List.mem_of_getElem? (i := i) (by rw [List.getElem?_zip_eq_some]; exact ⟨hi, List.getElem?_eq_getElem hi2⟩)))
theorem sx_in_8 : ∀ w ∈ u_ws RX8 TX8 20, w ∈ sx_big := by
  have h : ((u_ws RX8 TX8 20).zip [756, 758, 760, 762, 764, 766, 768, 770, 772, 774, 776, 778, 780, 782, 784, 786, 788, 790, 792, 794]).all (fun q => sx_wB q.1 q.2) = true := by decide +kernel
  have hl : (u_ws RX8 TX8 20).length = [756, 758, 760, 762, 764, 766, 768, 770, 772, 774, 776, 778, 780, 782, 784, 786, 788, 790, 792, 794].length := by decide +kernel
  intro w hw
  obtain ⟨i, hi⟩ := List.getElem?_of_mem hw
  have hi2 : i < [756, 758, 760, 762, 764, 766, 768, 770, 772, 774, 776, 778, 780, 782, 784, 786, 788, 790, 792, 794].length := by rw [← hl]; exact (List.getElem?_eq_some_iff.mp hi).1
  exact sx_wB_mem (List.all_eq_true.mp h (w, [756, 758, 760, 762, 764, 766, 768, 770, 772, 774, 776, 778, 780, 782, 784, 786, 788, 790, 792, 794][i]) (List.mem_of_getElem? (i := i) (by rw [List.getElem?_zip_eq_some]; exact ⟨hi, List.getElem?_eq_getElem hi2⟩)))
def sx_sn : Nat → String
  | 1 => "ABOVE"
  | 2 => "BODIES"
  | 3 => "FACTORIALS"
  | _ => ""
def sx_gw_T : List (Nat × List (Nat × (Nat × Bool))) := [(0, [(19, (689, true)), (26, (692, true))]), (7, [(231, (648, false)), (303, (707, false))])]
def sx_gw (c i : Nat) : Nat × Bool := (((sx_gw_T.lookup c).getD []).lookup i).getD (0, false)
def sx_gB (c i k : Nat) : Bool := decide (1 ≤ k ∧ k < 4) && (if (sx_gw c i).2 = true then decide (tables_1[(sx_gw c i).1]? = some (.fieldLinkNest (sx_own c) i "FlotsamQuorum" (sx_sn k) "[I" sx_host)) else sx_wB (.fieldLink (sx_own c) i "FlotsamQuorum" (sx_sn k) "[I") (sx_gw c i).1)
theorem sx_g_all : fq_sta_T.all (fun t => t.2.all (fun e => sx_gB t.1 e.1 e.2)) = true := by decide +kernel
/-- the nest mates' links -/
def sx_nest : List Cond := tables_1.filter fun w => match w with | .methodLinkNest _ _ _ _ => true | .fieldLinkNest _ _ _ _ _ _ => true | _ => false
