def mj_okK (q : Nat × Nat × Nat × Nat × Nat) : Bool := decide (lw_tbl[q.2.2.2.2]? = some (match mj_cv q.2.2.1 with
  | .int v => Cond.constant (mj_cn q.1) q.2.1 v
  | .long v => Cond.constantLong (mj_cn q.1) q.2.1 v
  | _ => Cond.initialized "")) && (bif Nat.beq q.2.2.2.1 0 then (match mj_cv q.2.2.1 with
  | .int _ => true
  | _ => false) else (match mj_cv q.2.2.1 with
  | .long _ => true
  | _ => false))
theorem mj_clk_ok : mj_clk.all mj_okK = true := by decide +kernel
def mj_okS (q : Nat × Nat × Nat × Nat × Nat) : Bool := match mj_xs[q.2.2.1]? with
  | some r => bif Nat.beq q.2.2.2.1 0 then decide (lw_tbl[q.2.2.2.2]? = some (Cond.fieldLink (mj_cn q.1) q.2.1 r.1 r.2.1 r.2.2.1)) else decide (lw_tbl[q.2.2.2.2]? = some (Cond.fieldLinkNest (mj_cn q.1) q.2.1 r.1 r.2.1 r.2.2.1 "DreamsPayRent"))
  | none => false
theorem mj_stk_ok : mj_stk.all mj_okS = true := by decide +kernel
def mj_okX (q : Nat × Nat × Nat × Nat) : Bool := decide (lw_tbl[q.2.2.2]? = some (bif Nat.beq q.2.2.1 0 then Cond.fieldLink (mj_cn q.1) q.2.1 "java/lang/String" "coder" "B" else Cond.fieldLink (mj_cn q.1) q.2.1 "java/lang/String" "value" "[B"))
theorem mj_xfk_ok : mj_xfk.all mj_okX = true := by decide +kernel
def mj_okW (q : Nat × Nat × Nat × Nat) : Bool := match vwCl[q.2.2.1]? with
  | some r => decide (lw_tbl[q.2.2.2]? = some (Cond.classLink (mj_cn q.1) q.2.1 r.1)) && mj_ww.contains (Cond.instantiable r.1 r.2.2) && mj_ww.contains (Cond.initialized r.1)
  | none => false
theorem mj_nwk_ok : mj_nwk.all mj_okW = true := by decide +kernel
theorem mj_mnk_ok : mj_mnk.all (fun q => decide (lw_tbl[q.2.2]? = some (Cond.classLink (mj_cn q.1) q.2.1 "[[I"))) = true := by decide +kernel
/-- method, and the places of its words: code, static or instanceMethod, selects, initialized -/
def mj_mw : List (Nat × Nat × Nat × Nat × Nat) := [(0, 493, 491, 492, 64), (1, 469, 467, 468, 64), (2, 618, 616, 617, 64), (3, 670, 669, 16, 64), (4, 666, 664, 665, 64), (5, 501, 499, 500, 64), (6, 159, 158, 0, 64), (7, 458, 456, 457, 64), (8, 576, 574, 575, 64), (9, 548, 546, 547, 64), (10, 509, 507, 508, 64), (11, 626, 624, 625, 64), (12, 552, 550, 551, 64), (13, 462, 460, 461, 64), (14, 602, 600, 601, 64), (15, 518, 516, 517, 64), (16, 522, 521, 12, 64), (17, 675, 673, 674, 64), (18, 591, 589, 590, 64), (19, 779, 778, 0, 74), (20, 472, 471, 0, 74), (21, 776, 775, 0, 74), (22, 504, 503, 0, 74), (23, 465, 464, 0, 74), (24, 544, 543, 0, 74), (25, 327, 325, 326, 63), (26, 335, 334, 0, 63), (27, 342, 341, 1, 63), (28, 353, 352, 3, 63), (29, 396, 395, 0, 63), (30, 393, 392, 8, 63), (31, 116, 115, 0, 63), (32, 338, 337, 0, 63), (33, 349, 348, 0, 63), (34, 410, 409, 0, 63), (35, 385, 384, 6, 63), (36, 399, 398, 0, 63), (37, 407, 406, 10, 63), (38, 389, 388, 7, 63), (39, 331, 329, 330, 63), (40, 376, 375, 5, 63), (41, 403, 402, 9, 63), (42, 346, 345, 2, 63), (43, 357, 356, 4, 63), (44, 714, 712, 713, 66), (45, 763, 761, 762, 66), (46, 259, 258, 0, 66), (47, 718, 716, 717, 66), (48, 381, 380, 0, 71), (49, 360, 359, 0, 71), (50, 414, 412, 413, 62), (51, 529, 528, 0, 62), (52, 89, 88, 0, 62), (53, 532, 531, 0, 62), (54, 526, 524, 525, 62), (55, 219, 218, 0, 65), (56, 651, 650, 14, 65), (57, 656, 655, 15, 65), (58, 647, 646, 0, 65), (59, 635, 633, 634, 65), (60, 639, 638, 13, 65), (61, 743, 741, 742, 61), (62, 630, 628, 629, 61), (63, 535, 534, 0, 61), (64, 755, 753, 754, 61), (65, 731, 729, 730, 61), (66, 662, 660, 661, 61), (67, 759, 757, 758, 61), (68, 747, 745, 746, 61), (69, 722, 720, 721, 61), (70, 486, 484, 485, 61), (71, 768, 766, 767, 61), (72, 560, 558, 559, 61), (73, 710, 708, 709, 61), (74, 694, 693, 17, 61), (75, 568, 566, 567, 61), (76, 739, 737, 738, 61), (77, 735, 734, 0, 61), (78, 81, 80, 0, 61), (79, 489, 488, 0, 61), (80, 454, 453, 0, 61), (81, 476, 475, 11, 61), (82, 690, 689, 0, 61), (83, 572, 570, 571, 61), (84, 479, 478, 0, 61), (85, 497, 495, 496, 61), (86, 683, 681, 682, 61), (87, 622, 621, 0, 61), (88, 482, 481, 0, 61), (89, 598, 596, 597, 61), (90, 679, 677, 678, 61), (91, 698, 697, 18, 61), (92, 687, 685, 686, 61), (93, 614, 612, 613, 61), (94, 726, 725, 21, 61), (95, 447, 445, 446, 61), (96, 751, 749, 750, 61), (97, 706, 705, 20, 61), (98, 702, 701, 19, 61), (99, 773, 771, 772, 61), (100, 564, 562, 563, 61), (101, 451, 449, 450, 61), (102, 556, 554, 555, 61), (103, 587, 585, 586, 61), (104, 514, 512, 513, 61), (105, 1093, 1092, 42, 73), (106, 1128, 1127, 48, 73), (107, 1101, 1100, 44, 73), (108, 1255, 1253, 1254, 73), (109, 1006, 1005, 26, 73), (110, 1169, 1168, 52, 73), (111, 1190, 1188, 1189, 73), (112, 1081, 1080, 39, 73), (113, 1053, 1052, 33, 73), (114, 1264, 1262, 1263, 73), (115, 1246, 1244, 1245, 73), (116, 1199, 1197, 1198, 73), (117, 1268, 1266, 1267, 73), (118, 1259, 1257, 1258, 73), (119, 1237, 1235, 1236, 73), (120, 1241, 1240, 59, 73), (121, 1014, 1012, 1013, 73), (122, 1272, 1270, 1271, 73), (123, 1077, 1076, 38, 73), (124, 1204, 1203, 57, 73), (125, 1073, 1072, 37, 73), (126, 1036, 1034, 1035, 73), (127, 1227, 1225, 1226, 73), (128, 1223, 1222, 58, 73), (129, 1023, 1022, 28, 73), (130, 1115, 1113, 1114, 73), (131, 1143, 1142, 49, 73), (132, 1251, 1249, 1250, 73), (133, 972, 971, 0, 73), (134, 784, 783, 0, 73), (135, 984, 983, 24, 73), (136, 1065, 1064, 35, 73), (137, 976, 975, 23, 73), (138, 979, 978, 0, 73), (139, 1219, 1218, 0, 73), (140, 1105, 1104, 45, 73), (141, 987, 986, 0, 73), (142, 1061, 1060, 34, 73), (143, 1010, 1009, 27, 73), (144, 1182, 1181, 54, 73), (145, 1186, 1185, 55, 73), (146, 1139, 1137, 1138, 73), (147, 1147, 1146, 50, 73), (148, 1019, 1017, 1018, 73), (149, 1027, 1026, 29, 73), (150, 1212, 1210, 1211, 73), (151, 1173, 1172, 53, 73), (152, 1109, 1108, 46, 73), (153, 1002, 1001, 25, 73), (154, 1049, 1048, 32, 73), (155, 1165, 1163, 1164, 73), (156, 1085, 1084, 40, 73), (157, 1150, 1149, 0, 73), (158, 1089, 1088, 41, 73), (159, 1153, 1152, 0, 73), (160, 1280, 1279, 0, 73), (161, 1069, 1068, 36, 73), (162, 1124, 1123, 47, 73), (163, 1208, 1206, 1207, 73), (164, 1045, 1044, 31, 73), (165, 1216, 1214, 1215, 73), (166, 1177, 1175, 1176, 73), (167, 1195, 1194, 56, 73), (168, 968, 966, 967, 73), (169, 1231, 1229, 1230, 73), (170, 789, 788, 22, 73), (171, 1277, 1275, 1276, 73), (172, 1097, 1096, 43, 73), (173, 1041, 1039, 1040, 73), (174, 997, 995, 996, 73), (175, 1135, 1133, 1134, 73), (176, 1031, 1030, 30, 73), (177, 1131, 1130, 0, 73), (178, 1157, 1155, 1156, 73), (179, 1161, 1160, 51, 73), (180, 1119, 1117, 1118, 73), (181, 607, 606, 0, 76), (182, 289, 287, 288, 67), (183, 299, 298, 0, 67), (184, 283, 281, 282, 67), (185, 293, 291, 292, 67), (186, 279, 277, 278, 67), (187, 296, 295, 0, 68), (188, 307, 306, 0, 70), (189, 310, 309, 0, 70), (190, 317, 316, 0, 70), (191, 313, 312, 0, 70), (192, 304, 303, 0, 69)]
def mj_okI (q : Nat × Nat × Nat × Nat × Nat) : Bool := decide (lw_tbl[q.2.2.1]? = some (bif Nat.beq (mj_ki q.1) 0 then Cond.static (mj_y q.1) else Cond.instanceMethod (mj_y q.1))) && ((bif Nat.beq (mj_ki q.1) 1 then decide (lw_tbl[q.2.2.2.1]? = some (Cond.selects (mj_y q.1).cls (mj_y q.1) (mj_y q.1))) else bif Nat.beq (mj_ki q.1) 2 then decide ((mj_y q.1).name = "<init>") else true) && (decide (lw_tbl[q.2.2.2.2]? = some (Cond.initialized (mj_y q.1).cls)) && (decide ((mj_y q.1).cls ≠ "java/lang/invoke/MethodHandle" ∧ (mj_y q.1).cls ≠ "java/lang/invoke/VarHandle") && (decide ((parseMethodDescriptor (mj_y q.1).desc).map (fun d => d.parameters.length) = some (mj_np q.1)) && (plainName (mj_y q.1).cls && (decide (mj_cn (mj_ow q.1) = (mj_y q.1).cls) && decide (mj_ml q.1 ≤ 45)))))))
theorem mj_mw_I : mj_mw.all mj_okI = true := by decide +kernel
theorem mj_mw_ids : mj_mw.map (fun q => q.1) = List.range mj_N := by decide +kernel
set_option maxRecDepth 1000000 in
theorem mj_t0 : lw_tbl[493]? = some (Cond.code (mj_y 0) (mj_cc 0) (mj_ml 0) (mj_rt 0)) := rfl
set_option maxRecDepth 1000000 in
theorem mj_t1 : lw_tbl[469]? = some (Cond.code (mj_y 1) (mj_cc 1) (mj_ml 1) (mj_rt 1)) := rfl
set_option maxRecDepth 1000000 in
theorem mj_t2 : lw_tbl[618]? = some (Cond.code (mj_y 2) (mj_cc 2) (mj_ml 2) (mj_rt 2)) := rfl
set_option maxRecDepth 1000000 in
theorem mj_t3 : lw_tbl[670]? = some (Cond.code (mj_y 3) (mj_cc 3) (mj_ml 3) (mj_rt 3)) := rfl
set_option maxRecDepth 1000000 in
theorem mj_t4 : lw_tbl[666]? = some (Cond.code (mj_y 4) (mj_cc 4) (mj_ml 4) (mj_rt 4)) := rfl
set_option maxRecDepth 1000000 in
theorem mj_t5 : lw_tbl[501]? = some (Cond.code (mj_y 5) (mj_cc 5) (mj_ml 5) (mj_rt 5)) := rfl
set_option maxRecDepth 1000000 in
theorem mj_t6 : lw_tbl[159]? = some (Cond.code (mj_y 6) (mj_cc 6) (mj_ml 6) (mj_rt 6)) := rfl
set_option maxRecDepth 1000000 in
theorem mj_t7 : lw_tbl[458]? = some (Cond.code (mj_y 7) (mj_cc 7) (mj_ml 7) (mj_rt 7)) := rfl
set_option maxRecDepth 1000000 in
theorem mj_t8 : lw_tbl[576]? = some (Cond.code (mj_y 8) (mj_cc 8) (mj_ml 8) (mj_rt 8)) := rfl
set_option maxRecDepth 1000000 in
theorem mj_t9 : lw_tbl[548]? = some (Cond.code (mj_y 9) (mj_cc 9) (mj_ml 9) (mj_rt 9)) := rfl
set_option maxRecDepth 1000000 in
theorem mj_t10 : lw_tbl[509]? = some (Cond.code (mj_y 10) (mj_cc 10) (mj_ml 10) (mj_rt 10)) := rfl
set_option maxRecDepth 1000000 in
theorem mj_t11 : lw_tbl[626]? = some (Cond.code (mj_y 11) (mj_cc 11) (mj_ml 11) (mj_rt 11)) := rfl
set_option maxRecDepth 1000000 in
theorem mj_t12 : lw_tbl[552]? = some (Cond.code (mj_y 12) (mj_cc 12) (mj_ml 12) (mj_rt 12)) := rfl
set_option maxRecDepth 1000000 in
theorem mj_t13 : lw_tbl[462]? = some (Cond.code (mj_y 13) (mj_cc 13) (mj_ml 13) (mj_rt 13)) := rfl
set_option maxRecDepth 1000000 in
theorem mj_t14 : lw_tbl[602]? = some (Cond.code (mj_y 14) (mj_cc 14) (mj_ml 14) (mj_rt 14)) := rfl
set_option maxRecDepth 1000000 in
theorem mj_t15 : lw_tbl[518]? = some (Cond.code (mj_y 15) (mj_cc 15) (mj_ml 15) (mj_rt 15)) := rfl
set_option maxRecDepth 1000000 in
theorem mj_t16 : lw_tbl[522]? = some (Cond.code (mj_y 16) (mj_cc 16) (mj_ml 16) (mj_rt 16)) := rfl
set_option maxRecDepth 1000000 in
theorem mj_t17 : lw_tbl[675]? = some (Cond.code (mj_y 17) (mj_cc 17) (mj_ml 17) (mj_rt 17)) := rfl
set_option maxRecDepth 1000000 in
theorem mj_t18 : lw_tbl[591]? = some (Cond.code (mj_y 18) (mj_cc 18) (mj_ml 18) (mj_rt 18)) := rfl
set_option maxRecDepth 1000000 in
theorem mj_t19 : lw_tbl[779]? = some (Cond.code (mj_y 19) (mj_cc 19) (mj_ml 19) (mj_rt 19)) := rfl
set_option maxRecDepth 1000000 in
theorem mj_t20 : lw_tbl[472]? = some (Cond.code (mj_y 20) (mj_cc 20) (mj_ml 20) (mj_rt 20)) := rfl
set_option maxRecDepth 1000000 in
theorem mj_t21 : lw_tbl[776]? = some (Cond.code (mj_y 21) (mj_cc 21) (mj_ml 21) (mj_rt 21)) := rfl
set_option maxRecDepth 1000000 in
theorem mj_t22 : lw_tbl[504]? = some (Cond.code (mj_y 22) (mj_cc 22) (mj_ml 22) (mj_rt 22)) := rfl
set_option maxRecDepth 1000000 in
theorem mj_t23 : lw_tbl[465]? = some (Cond.code (mj_y 23) (mj_cc 23) (mj_ml 23) (mj_rt 23)) := rfl
set_option maxRecDepth 1000000 in
theorem mj_t24 : lw_tbl[544]? = some (Cond.code (mj_y 24) (mj_cc 24) (mj_ml 24) (mj_rt 24)) := rfl
set_option maxRecDepth 1000000 in
theorem mj_t25 : lw_tbl[327]? = some (Cond.code (mj_y 25) (mj_cc 25) (mj_ml 25) (mj_rt 25)) := rfl
set_option maxRecDepth 1000000 in
theorem mj_t26 : lw_tbl[335]? = some (Cond.code (mj_y 26) (mj_cc 26) (mj_ml 26) (mj_rt 26)) := rfl
set_option maxRecDepth 1000000 in
theorem mj_t27 : lw_tbl[342]? = some (Cond.code (mj_y 27) (mj_cc 27) (mj_ml 27) (mj_rt 27)) := rfl
set_option maxRecDepth 1000000 in
theorem mj_t28 : lw_tbl[353]? = some (Cond.code (mj_y 28) (mj_cc 28) (mj_ml 28) (mj_rt 28)) := rfl
set_option maxRecDepth 1000000 in
theorem mj_t29 : lw_tbl[396]? = some (Cond.code (mj_y 29) (mj_cc 29) (mj_ml 29) (mj_rt 29)) := rfl
set_option maxRecDepth 1000000 in
theorem mj_t30 : lw_tbl[393]? = some (Cond.code (mj_y 30) (mj_cc 30) (mj_ml 30) (mj_rt 30)) := rfl
set_option maxRecDepth 1000000 in
theorem mj_t31 : lw_tbl[116]? = some (Cond.code (mj_y 31) (mj_cc 31) (mj_ml 31) (mj_rt 31)) := rfl
set_option maxRecDepth 1000000 in
theorem mj_t32 : lw_tbl[338]? = some (Cond.code (mj_y 32) (mj_cc 32) (mj_ml 32) (mj_rt 32)) := rfl
set_option maxRecDepth 1000000 in
theorem mj_t33 : lw_tbl[349]? = some (Cond.code (mj_y 33) (mj_cc 33) (mj_ml 33) (mj_rt 33)) := rfl
set_option maxRecDepth 1000000 in
theorem mj_t34 : lw_tbl[410]? = some (Cond.code (mj_y 34) (mj_cc 34) (mj_ml 34) (mj_rt 34)) := rfl
set_option maxRecDepth 1000000 in
theorem mj_t35 : lw_tbl[385]? = some (Cond.code (mj_y 35) (mj_cc 35) (mj_ml 35) (mj_rt 35)) := rfl
set_option maxRecDepth 1000000 in
theorem mj_t36 : lw_tbl[399]? = some (Cond.code (mj_y 36) (mj_cc 36) (mj_ml 36) (mj_rt 36)) := rfl
set_option maxRecDepth 1000000 in
theorem mj_t37 : lw_tbl[407]? = some (Cond.code (mj_y 37) (mj_cc 37) (mj_ml 37) (mj_rt 37)) := rfl
set_option maxRecDepth 1000000 in
theorem mj_t38 : lw_tbl[389]? = some (Cond.code (mj_y 38) (mj_cc 38) (mj_ml 38) (mj_rt 38)) := rfl
set_option maxRecDepth 1000000 in
theorem mj_t39 : lw_tbl[331]? = some (Cond.code (mj_y 39) (mj_cc 39) (mj_ml 39) (mj_rt 39)) := rfl
set_option maxRecDepth 1000000 in
theorem mj_t40 : lw_tbl[376]? = some (Cond.code (mj_y 40) (mj_cc 40) (mj_ml 40) (mj_rt 40)) := rfl
set_option maxRecDepth 1000000 in
theorem mj_t41 : lw_tbl[403]? = some (Cond.code (mj_y 41) (mj_cc 41) (mj_ml 41) (mj_rt 41)) := rfl
set_option maxRecDepth 1000000 in
theorem mj_t42 : lw_tbl[346]? = some (Cond.code (mj_y 42) (mj_cc 42) (mj_ml 42) (mj_rt 42)) := rfl
set_option maxRecDepth 1000000 in
theorem mj_t43 : lw_tbl[357]? = some (Cond.code (mj_y 43) (mj_cc 43) (mj_ml 43) (mj_rt 43)) := rfl
set_option maxRecDepth 1000000 in
theorem mj_t44 : lw_tbl[714]? = some (Cond.code (mj_y 44) (mj_cc 44) (mj_ml 44) (mj_rt 44)) := rfl
set_option maxRecDepth 1000000 in
theorem mj_t45 : lw_tbl[763]? = some (Cond.code (mj_y 45) (mj_cc 45) (mj_ml 45) (mj_rt 45)) := rfl
set_option maxRecDepth 1000000 in
theorem mj_t46 : lw_tbl[259]? = some (Cond.code (mj_y 46) (mj_cc 46) (mj_ml 46) (mj_rt 46)) := rfl
set_option maxRecDepth 1000000 in
theorem mj_t47 : lw_tbl[718]? = some (Cond.code (mj_y 47) (mj_cc 47) (mj_ml 47) (mj_rt 47)) := rfl
set_option maxRecDepth 1000000 in
theorem mj_t48 : lw_tbl[381]? = some (Cond.code (mj_y 48) (mj_cc 48) (mj_ml 48) (mj_rt 48)) := rfl
set_option maxRecDepth 1000000 in
theorem mj_t49 : lw_tbl[360]? = some (Cond.code (mj_y 49) (mj_cc 49) (mj_ml 49) (mj_rt 49)) := rfl
set_option maxRecDepth 1000000 in
theorem mj_t50 : lw_tbl[414]? = some (Cond.code (mj_y 50) (mj_cc 50) (mj_ml 50) (mj_rt 50)) := rfl
set_option maxRecDepth 1000000 in
theorem mj_t51 : lw_tbl[529]? = some (Cond.code (mj_y 51) (mj_cc 51) (mj_ml 51) (mj_rt 51)) := rfl
set_option maxRecDepth 1000000 in
theorem mj_t52 : lw_tbl[89]? = some (Cond.code (mj_y 52) (mj_cc 52) (mj_ml 52) (mj_rt 52)) := rfl
set_option maxRecDepth 1000000 in
theorem mj_t53 : lw_tbl[532]? = some (Cond.code (mj_y 53) (mj_cc 53) (mj_ml 53) (mj_rt 53)) := rfl
set_option maxRecDepth 1000000 in
theorem mj_t54 : lw_tbl[526]? = some (Cond.code (mj_y 54) (mj_cc 54) (mj_ml 54) (mj_rt 54)) := rfl
set_option maxRecDepth 1000000 in
theorem mj_t55 : lw_tbl[219]? = some (Cond.code (mj_y 55) (mj_cc 55) (mj_ml 55) (mj_rt 55)) := rfl
set_option maxRecDepth 1000000 in
theorem mj_t56 : lw_tbl[651]? = some (Cond.code (mj_y 56) (mj_cc 56) (mj_ml 56) (mj_rt 56)) := rfl
set_option maxRecDepth 1000000 in
theorem mj_t57 : lw_tbl[656]? = some (Cond.code (mj_y 57) (mj_cc 57) (mj_ml 57) (mj_rt 57)) := rfl
set_option maxRecDepth 1000000 in
theorem mj_t58 : lw_tbl[647]? = some (Cond.code (mj_y 58) (mj_cc 58) (mj_ml 58) (mj_rt 58)) := rfl
set_option maxRecDepth 1000000 in
theorem mj_t59 : lw_tbl[635]? = some (Cond.code (mj_y 59) (mj_cc 59) (mj_ml 59) (mj_rt 59)) := rfl
set_option maxRecDepth 1000000 in
theorem mj_t60 : lw_tbl[639]? = some (Cond.code (mj_y 60) (mj_cc 60) (mj_ml 60) (mj_rt 60)) := rfl
set_option maxRecDepth 1000000 in
theorem mj_t61 : lw_tbl[743]? = some (Cond.code (mj_y 61) (mj_cc 61) (mj_ml 61) (mj_rt 61)) := rfl
set_option maxRecDepth 1000000 in
theorem mj_t62 : lw_tbl[630]? = some (Cond.code (mj_y 62) (mj_cc 62) (mj_ml 62) (mj_rt 62)) := rfl
set_option maxRecDepth 1000000 in
theorem mj_t63 : lw_tbl[535]? = some (Cond.code (mj_y 63) (mj_cc 63) (mj_ml 63) (mj_rt 63)) := rfl
set_option maxRecDepth 1000000 in
theorem mj_t64 : lw_tbl[755]? = some (Cond.code (mj_y 64) (mj_cc 64) (mj_ml 64) (mj_rt 64)) := rfl
set_option maxRecDepth 1000000 in
theorem mj_t65 : lw_tbl[731]? = some (Cond.code (mj_y 65) (mj_cc 65) (mj_ml 65) (mj_rt 65)) := rfl
set_option maxRecDepth 1000000 in
theorem mj_t66 : lw_tbl[662]? = some (Cond.code (mj_y 66) (mj_cc 66) (mj_ml 66) (mj_rt 66)) := rfl
set_option maxRecDepth 1000000 in
theorem mj_t67 : lw_tbl[759]? = some (Cond.code (mj_y 67) (mj_cc 67) (mj_ml 67) (mj_rt 67)) := rfl
set_option maxRecDepth 1000000 in
theorem mj_t68 : lw_tbl[747]? = some (Cond.code (mj_y 68) (mj_cc 68) (mj_ml 68) (mj_rt 68)) := rfl
set_option maxRecDepth 1000000 in
theorem mj_t69 : lw_tbl[722]? = some (Cond.code (mj_y 69) (mj_cc 69) (mj_ml 69) (mj_rt 69)) := rfl
set_option maxRecDepth 1000000 in
theorem mj_t70 : lw_tbl[486]? = some (Cond.code (mj_y 70) (mj_cc 70) (mj_ml 70) (mj_rt 70)) := rfl
set_option maxRecDepth 1000000 in
theorem mj_t71 : lw_tbl[768]? = some (Cond.code (mj_y 71) (mj_cc 71) (mj_ml 71) (mj_rt 71)) := rfl
set_option maxRecDepth 1000000 in
theorem mj_t72 : lw_tbl[560]? = some (Cond.code (mj_y 72) (mj_cc 72) (mj_ml 72) (mj_rt 72)) := rfl
set_option maxRecDepth 1000000 in
theorem mj_t73 : lw_tbl[710]? = some (Cond.code (mj_y 73) (mj_cc 73) (mj_ml 73) (mj_rt 73)) := rfl
set_option maxRecDepth 1000000 in
theorem mj_t74 : lw_tbl[694]? = some (Cond.code (mj_y 74) (mj_cc 74) (mj_ml 74) (mj_rt 74)) := rfl
set_option maxRecDepth 1000000 in
theorem mj_t75 : lw_tbl[568]? = some (Cond.code (mj_y 75) (mj_cc 75) (mj_ml 75) (mj_rt 75)) := rfl
set_option maxRecDepth 1000000 in
theorem mj_t76 : lw_tbl[739]? = some (Cond.code (mj_y 76) (mj_cc 76) (mj_ml 76) (mj_rt 76)) := rfl
set_option maxRecDepth 1000000 in
theorem mj_t77 : lw_tbl[735]? = some (Cond.code (mj_y 77) (mj_cc 77) (mj_ml 77) (mj_rt 77)) := rfl
set_option maxRecDepth 1000000 in
theorem mj_t78 : lw_tbl[81]? = some (Cond.code (mj_y 78) (mj_cc 78) (mj_ml 78) (mj_rt 78)) := rfl
set_option maxRecDepth 1000000 in
theorem mj_t79 : lw_tbl[489]? = some (Cond.code (mj_y 79) (mj_cc 79) (mj_ml 79) (mj_rt 79)) := rfl
set_option maxRecDepth 1000000 in
theorem mj_t80 : lw_tbl[454]? = some (Cond.code (mj_y 80) (mj_cc 80) (mj_ml 80) (mj_rt 80)) := rfl
set_option maxRecDepth 1000000 in
theorem mj_t81 : lw_tbl[476]? = some (Cond.code (mj_y 81) (mj_cc 81) (mj_ml 81) (mj_rt 81)) := rfl
set_option maxRecDepth 1000000 in
theorem mj_t82 : lw_tbl[690]? = some (Cond.code (mj_y 82) (mj_cc 82) (mj_ml 82) (mj_rt 82)) := rfl
set_option maxRecDepth 1000000 in
theorem mj_t83 : lw_tbl[572]? = some (Cond.code (mj_y 83) (mj_cc 83) (mj_ml 83) (mj_rt 83)) := rfl
set_option maxRecDepth 1000000 in
theorem mj_t84 : lw_tbl[479]? = some (Cond.code (mj_y 84) (mj_cc 84) (mj_ml 84) (mj_rt 84)) := rfl
set_option maxRecDepth 1000000 in
theorem mj_t85 : lw_tbl[497]? = some (Cond.code (mj_y 85) (mj_cc 85) (mj_ml 85) (mj_rt 85)) := rfl
set_option maxRecDepth 1000000 in
theorem mj_t86 : lw_tbl[683]? = some (Cond.code (mj_y 86) (mj_cc 86) (mj_ml 86) (mj_rt 86)) := rfl
set_option maxRecDepth 1000000 in
theorem mj_t87 : lw_tbl[622]? = some (Cond.code (mj_y 87) (mj_cc 87) (mj_ml 87) (mj_rt 87)) := rfl
set_option maxRecDepth 1000000 in
theorem mj_t88 : lw_tbl[482]? = some (Cond.code (mj_y 88) (mj_cc 88) (mj_ml 88) (mj_rt 88)) := rfl
set_option maxRecDepth 1000000 in
theorem mj_t89 : lw_tbl[598]? = some (Cond.code (mj_y 89) (mj_cc 89) (mj_ml 89) (mj_rt 89)) := rfl
set_option maxRecDepth 1000000 in
theorem mj_t90 : lw_tbl[679]? = some (Cond.code (mj_y 90) (mj_cc 90) (mj_ml 90) (mj_rt 90)) := rfl
set_option maxRecDepth 1000000 in
theorem mj_t91 : lw_tbl[698]? = some (Cond.code (mj_y 91) (mj_cc 91) (mj_ml 91) (mj_rt 91)) := rfl
set_option maxRecDepth 1000000 in
theorem mj_t92 : lw_tbl[687]? = some (Cond.code (mj_y 92) (mj_cc 92) (mj_ml 92) (mj_rt 92)) := rfl
set_option maxRecDepth 1000000 in
theorem mj_t93 : lw_tbl[614]? = some (Cond.code (mj_y 93) (mj_cc 93) (mj_ml 93) (mj_rt 93)) := rfl
set_option maxRecDepth 1000000 in
theorem mj_t94 : lw_tbl[726]? = some (Cond.code (mj_y 94) (mj_cc 94) (mj_ml 94) (mj_rt 94)) := rfl
set_option maxRecDepth 1000000 in
theorem mj_t95 : lw_tbl[447]? = some (Cond.code (mj_y 95) (mj_cc 95) (mj_ml 95) (mj_rt 95)) := rfl
set_option maxRecDepth 1000000 in
theorem mj_t96 : lw_tbl[751]? = some (Cond.code (mj_y 96) (mj_cc 96) (mj_ml 96) (mj_rt 96)) := rfl
set_option maxRecDepth 1000000 in
theorem mj_t97 : lw_tbl[706]? = some (Cond.code (mj_y 97) (mj_cc 97) (mj_ml 97) (mj_rt 97)) := rfl
set_option maxRecDepth 1000000 in
theorem mj_t98 : lw_tbl[702]? = some (Cond.code (mj_y 98) (mj_cc 98) (mj_ml 98) (mj_rt 98)) := rfl
set_option maxRecDepth 1000000 in
theorem mj_t99 : lw_tbl[773]? = some (Cond.code (mj_y 99) (mj_cc 99) (mj_ml 99) (mj_rt 99)) := rfl
set_option maxRecDepth 1000000 in
theorem mj_t100 : lw_tbl[564]? = some (Cond.code (mj_y 100) (mj_cc 100) (mj_ml 100) (mj_rt 100)) := rfl
set_option maxRecDepth 1000000 in
theorem mj_t101 : lw_tbl[451]? = some (Cond.code (mj_y 101) (mj_cc 101) (mj_ml 101) (mj_rt 101)) := rfl
set_option maxRecDepth 1000000 in
theorem mj_t102 : lw_tbl[556]? = some (Cond.code (mj_y 102) (mj_cc 102) (mj_ml 102) (mj_rt 102)) := rfl
set_option maxRecDepth 1000000 in
theorem mj_t103 : lw_tbl[587]? = some (Cond.code (mj_y 103) (mj_cc 103) (mj_ml 103) (mj_rt 103)) := rfl
set_option maxRecDepth 1000000 in
theorem mj_t104 : lw_tbl[514]? = some (Cond.code (mj_y 104) (mj_cc 104) (mj_ml 104) (mj_rt 104)) := rfl
set_option maxRecDepth 1000000 in
theorem mj_t105 : lw_tbl[1093]? = some (Cond.code (mj_y 105) (mj_cc 105) (mj_ml 105) (mj_rt 105)) := rfl
set_option maxRecDepth 1000000 in
theorem mj_t106 : lw_tbl[1128]? = some (Cond.code (mj_y 106) (mj_cc 106) (mj_ml 106) (mj_rt 106)) := rfl
set_option maxRecDepth 1000000 in
theorem mj_t107 : lw_tbl[1101]? = some (Cond.code (mj_y 107) (mj_cc 107) (mj_ml 107) (mj_rt 107)) := rfl
set_option maxRecDepth 1000000 in
theorem mj_t108 : lw_tbl[1255]? = some (Cond.code (mj_y 108) (mj_cc 108) (mj_ml 108) (mj_rt 108)) := rfl
set_option maxRecDepth 1000000 in
theorem mj_t109 : lw_tbl[1006]? = some (Cond.code (mj_y 109) (mj_cc 109) (mj_ml 109) (mj_rt 109)) := rfl
set_option maxRecDepth 1000000 in
theorem mj_t110 : lw_tbl[1169]? = some (Cond.code (mj_y 110) (mj_cc 110) (mj_ml 110) (mj_rt 110)) := rfl
set_option maxRecDepth 1000000 in
theorem mj_t111 : lw_tbl[1190]? = some (Cond.code (mj_y 111) (mj_cc 111) (mj_ml 111) (mj_rt 111)) := rfl
set_option maxRecDepth 1000000 in
theorem mj_t112 : lw_tbl[1081]? = some (Cond.code (mj_y 112) (mj_cc 112) (mj_ml 112) (mj_rt 112)) := rfl
set_option maxRecDepth 1000000 in
theorem mj_t113 : lw_tbl[1053]? = some (Cond.code (mj_y 113) (mj_cc 113) (mj_ml 113) (mj_rt 113)) := rfl
set_option maxRecDepth 1000000 in
theorem mj_t114 : lw_tbl[1264]? = some (Cond.code (mj_y 114) (mj_cc 114) (mj_ml 114) (mj_rt 114)) := rfl
set_option maxRecDepth 1000000 in
theorem mj_t115 : lw_tbl[1246]? = some (Cond.code (mj_y 115) (mj_cc 115) (mj_ml 115) (mj_rt 115)) := rfl
set_option maxRecDepth 1000000 in
theorem mj_t116 : lw_tbl[1199]? = some (Cond.code (mj_y 116) (mj_cc 116) (mj_ml 116) (mj_rt 116)) := rfl
set_option maxRecDepth 1000000 in
theorem mj_t117 : lw_tbl[1268]? = some (Cond.code (mj_y 117) (mj_cc 117) (mj_ml 117) (mj_rt 117)) := rfl
set_option maxRecDepth 1000000 in
theorem mj_t118 : lw_tbl[1259]? = some (Cond.code (mj_y 118) (mj_cc 118) (mj_ml 118) (mj_rt 118)) := rfl
set_option maxRecDepth 1000000 in
theorem mj_t119 : lw_tbl[1237]? = some (Cond.code (mj_y 119) (mj_cc 119) (mj_ml 119) (mj_rt 119)) := rfl
set_option maxRecDepth 1000000 in
theorem mj_t120 : lw_tbl[1241]? = some (Cond.code (mj_y 120) (mj_cc 120) (mj_ml 120) (mj_rt 120)) := rfl
set_option maxRecDepth 1000000 in
theorem mj_t121 : lw_tbl[1014]? = some (Cond.code (mj_y 121) (mj_cc 121) (mj_ml 121) (mj_rt 121)) := rfl
set_option maxRecDepth 1000000 in
theorem mj_t122 : lw_tbl[1272]? = some (Cond.code (mj_y 122) (mj_cc 122) (mj_ml 122) (mj_rt 122)) := rfl
set_option maxRecDepth 1000000 in
theorem mj_t123 : lw_tbl[1077]? = some (Cond.code (mj_y 123) (mj_cc 123) (mj_ml 123) (mj_rt 123)) := rfl
set_option maxRecDepth 1000000 in
theorem mj_t124 : lw_tbl[1204]? = some (Cond.code (mj_y 124) (mj_cc 124) (mj_ml 124) (mj_rt 124)) := rfl
set_option maxRecDepth 1000000 in
theorem mj_t125 : lw_tbl[1073]? = some (Cond.code (mj_y 125) (mj_cc 125) (mj_ml 125) (mj_rt 125)) := rfl
set_option maxRecDepth 1000000 in
theorem mj_t126 : lw_tbl[1036]? = some (Cond.code (mj_y 126) (mj_cc 126) (mj_ml 126) (mj_rt 126)) := rfl
set_option maxRecDepth 1000000 in
theorem mj_t127 : lw_tbl[1227]? = some (Cond.code (mj_y 127) (mj_cc 127) (mj_ml 127) (mj_rt 127)) := rfl
set_option maxRecDepth 1000000 in
theorem mj_t128 : lw_tbl[1223]? = some (Cond.code (mj_y 128) (mj_cc 128) (mj_ml 128) (mj_rt 128)) := rfl
set_option maxRecDepth 1000000 in
theorem mj_t129 : lw_tbl[1023]? = some (Cond.code (mj_y 129) (mj_cc 129) (mj_ml 129) (mj_rt 129)) := rfl
set_option maxRecDepth 1000000 in
theorem mj_t130 : lw_tbl[1115]? = some (Cond.code (mj_y 130) (mj_cc 130) (mj_ml 130) (mj_rt 130)) := rfl
set_option maxRecDepth 1000000 in
theorem mj_t131 : lw_tbl[1143]? = some (Cond.code (mj_y 131) (mj_cc 131) (mj_ml 131) (mj_rt 131)) := rfl
set_option maxRecDepth 1000000 in
theorem mj_t132 : lw_tbl[1251]? = some (Cond.code (mj_y 132) (mj_cc 132) (mj_ml 132) (mj_rt 132)) := rfl
set_option maxRecDepth 1000000 in
theorem mj_t133 : lw_tbl[972]? = some (Cond.code (mj_y 133) (mj_cc 133) (mj_ml 133) (mj_rt 133)) := rfl
set_option maxRecDepth 1000000 in
theorem mj_t134 : lw_tbl[784]? = some (Cond.code (mj_y 134) (mj_cc 134) (mj_ml 134) (mj_rt 134)) := rfl
set_option maxRecDepth 1000000 in
theorem mj_t135 : lw_tbl[984]? = some (Cond.code (mj_y 135) (mj_cc 135) (mj_ml 135) (mj_rt 135)) := rfl
set_option maxRecDepth 1000000 in
theorem mj_t136 : lw_tbl[1065]? = some (Cond.code (mj_y 136) (mj_cc 136) (mj_ml 136) (mj_rt 136)) := rfl
set_option maxRecDepth 1000000 in
theorem mj_t137 : lw_tbl[976]? = some (Cond.code (mj_y 137) (mj_cc 137) (mj_ml 137) (mj_rt 137)) := rfl
set_option maxRecDepth 1000000 in
theorem mj_t138 : lw_tbl[979]? = some (Cond.code (mj_y 138) (mj_cc 138) (mj_ml 138) (mj_rt 138)) := rfl
set_option maxRecDepth 1000000 in
theorem mj_t139 : lw_tbl[1219]? = some (Cond.code (mj_y 139) (mj_cc 139) (mj_ml 139) (mj_rt 139)) := rfl
set_option maxRecDepth 1000000 in
theorem mj_t140 : lw_tbl[1105]? = some (Cond.code (mj_y 140) (mj_cc 140) (mj_ml 140) (mj_rt 140)) := rfl
set_option maxRecDepth 1000000 in
theorem mj_t141 : lw_tbl[987]? = some (Cond.code (mj_y 141) (mj_cc 141) (mj_ml 141) (mj_rt 141)) := rfl
set_option maxRecDepth 1000000 in
theorem mj_t142 : lw_tbl[1061]? = some (Cond.code (mj_y 142) (mj_cc 142) (mj_ml 142) (mj_rt 142)) := rfl
set_option maxRecDepth 1000000 in
theorem mj_t143 : lw_tbl[1010]? = some (Cond.code (mj_y 143) (mj_cc 143) (mj_ml 143) (mj_rt 143)) := rfl
set_option maxRecDepth 1000000 in
theorem mj_t144 : lw_tbl[1182]? = some (Cond.code (mj_y 144) (mj_cc 144) (mj_ml 144) (mj_rt 144)) := rfl
set_option maxRecDepth 1000000 in
theorem mj_t145 : lw_tbl[1186]? = some (Cond.code (mj_y 145) (mj_cc 145) (mj_ml 145) (mj_rt 145)) := rfl
set_option maxRecDepth 1000000 in
theorem mj_t146 : lw_tbl[1139]? = some (Cond.code (mj_y 146) (mj_cc 146) (mj_ml 146) (mj_rt 146)) := rfl
set_option maxRecDepth 1000000 in
theorem mj_t147 : lw_tbl[1147]? = some (Cond.code (mj_y 147) (mj_cc 147) (mj_ml 147) (mj_rt 147)) := rfl
set_option maxRecDepth 1000000 in
theorem mj_t148 : lw_tbl[1019]? = some (Cond.code (mj_y 148) (mj_cc 148) (mj_ml 148) (mj_rt 148)) := rfl
set_option maxRecDepth 1000000 in
theorem mj_t149 : lw_tbl[1027]? = some (Cond.code (mj_y 149) (mj_cc 149) (mj_ml 149) (mj_rt 149)) := rfl
set_option maxRecDepth 1000000 in
theorem mj_t150 : lw_tbl[1212]? = some (Cond.code (mj_y 150) (mj_cc 150) (mj_ml 150) (mj_rt 150)) := rfl
set_option maxRecDepth 1000000 in
theorem mj_t151 : lw_tbl[1173]? = some (Cond.code (mj_y 151) (mj_cc 151) (mj_ml 151) (mj_rt 151)) := rfl
set_option maxRecDepth 1000000 in
theorem mj_t152 : lw_tbl[1109]? = some (Cond.code (mj_y 152) (mj_cc 152) (mj_ml 152) (mj_rt 152)) := rfl
set_option maxRecDepth 1000000 in
theorem mj_t153 : lw_tbl[1002]? = some (Cond.code (mj_y 153) (mj_cc 153) (mj_ml 153) (mj_rt 153)) := rfl
set_option maxRecDepth 1000000 in
theorem mj_t154 : lw_tbl[1049]? = some (Cond.code (mj_y 154) (mj_cc 154) (mj_ml 154) (mj_rt 154)) := rfl
set_option maxRecDepth 1000000 in
theorem mj_t155 : lw_tbl[1165]? = some (Cond.code (mj_y 155) (mj_cc 155) (mj_ml 155) (mj_rt 155)) := rfl
set_option maxRecDepth 1000000 in
theorem mj_t156 : lw_tbl[1085]? = some (Cond.code (mj_y 156) (mj_cc 156) (mj_ml 156) (mj_rt 156)) := rfl
set_option maxRecDepth 1000000 in
theorem mj_t157 : lw_tbl[1150]? = some (Cond.code (mj_y 157) (mj_cc 157) (mj_ml 157) (mj_rt 157)) := rfl
set_option maxRecDepth 1000000 in
theorem mj_t158 : lw_tbl[1089]? = some (Cond.code (mj_y 158) (mj_cc 158) (mj_ml 158) (mj_rt 158)) := rfl
set_option maxRecDepth 1000000 in
theorem mj_t159 : lw_tbl[1153]? = some (Cond.code (mj_y 159) (mj_cc 159) (mj_ml 159) (mj_rt 159)) := rfl
set_option maxRecDepth 1000000 in
theorem mj_t160 : lw_tbl[1280]? = some (Cond.code (mj_y 160) (mj_cc 160) (mj_ml 160) (mj_rt 160)) := rfl
set_option maxRecDepth 1000000 in
theorem mj_t161 : lw_tbl[1069]? = some (Cond.code (mj_y 161) (mj_cc 161) (mj_ml 161) (mj_rt 161)) := rfl
set_option maxRecDepth 1000000 in
theorem mj_t162 : lw_tbl[1124]? = some (Cond.code (mj_y 162) (mj_cc 162) (mj_ml 162) (mj_rt 162)) := rfl
set_option maxRecDepth 1000000 in
theorem mj_t163 : lw_tbl[1208]? = some (Cond.code (mj_y 163) (mj_cc 163) (mj_ml 163) (mj_rt 163)) := rfl
set_option maxRecDepth 1000000 in
theorem mj_t164 : lw_tbl[1045]? = some (Cond.code (mj_y 164) (mj_cc 164) (mj_ml 164) (mj_rt 164)) := rfl
set_option maxRecDepth 1000000 in
theorem mj_t165 : lw_tbl[1216]? = some (Cond.code (mj_y 165) (mj_cc 165) (mj_ml 165) (mj_rt 165)) := rfl
set_option maxRecDepth 1000000 in
theorem mj_t166 : lw_tbl[1177]? = some (Cond.code (mj_y 166) (mj_cc 166) (mj_ml 166) (mj_rt 166)) := rfl
set_option maxRecDepth 1000000 in
theorem mj_t167 : lw_tbl[1195]? = some (Cond.code (mj_y 167) (mj_cc 167) (mj_ml 167) (mj_rt 167)) := rfl
set_option maxRecDepth 1000000 in
theorem mj_t168 : lw_tbl[968]? = some (Cond.code (mj_y 168) (mj_cc 168) (mj_ml 168) (mj_rt 168)) := rfl
set_option maxRecDepth 1000000 in
theorem mj_t169 : lw_tbl[1231]? = some (Cond.code (mj_y 169) (mj_cc 169) (mj_ml 169) (mj_rt 169)) := rfl
set_option maxRecDepth 1000000 in
theorem mj_t170 : lw_tbl[789]? = some (Cond.code (mj_y 170) (mj_cc 170) (mj_ml 170) (mj_rt 170)) := rfl
set_option maxRecDepth 1000000 in
theorem mj_t171 : lw_tbl[1277]? = some (Cond.code (mj_y 171) (mj_cc 171) (mj_ml 171) (mj_rt 171)) := rfl
set_option maxRecDepth 1000000 in
theorem mj_t172 : lw_tbl[1097]? = some (Cond.code (mj_y 172) (mj_cc 172) (mj_ml 172) (mj_rt 172)) := rfl
set_option maxRecDepth 1000000 in
theorem mj_t173 : lw_tbl[1041]? = some (Cond.code (mj_y 173) (mj_cc 173) (mj_ml 173) (mj_rt 173)) := rfl
set_option maxRecDepth 1000000 in
theorem mj_t174 : lw_tbl[997]? = some (Cond.code (mj_y 174) (mj_cc 174) (mj_ml 174) (mj_rt 174)) := rfl
set_option maxRecDepth 1000000 in
theorem mj_t175 : lw_tbl[1135]? = some (Cond.code (mj_y 175) (mj_cc 175) (mj_ml 175) (mj_rt 175)) := rfl
set_option maxRecDepth 1000000 in
theorem mj_t176 : lw_tbl[1031]? = some (Cond.code (mj_y 176) (mj_cc 176) (mj_ml 176) (mj_rt 176)) := rfl
set_option maxRecDepth 1000000 in
theorem mj_t177 : lw_tbl[1131]? = some (Cond.code (mj_y 177) (mj_cc 177) (mj_ml 177) (mj_rt 177)) := rfl
set_option maxRecDepth 1000000 in
theorem mj_t178 : lw_tbl[1157]? = some (Cond.code (mj_y 178) (mj_cc 178) (mj_ml 178) (mj_rt 178)) := rfl
set_option maxRecDepth 1000000 in
theorem mj_t179 : lw_tbl[1161]? = some (Cond.code (mj_y 179) (mj_cc 179) (mj_ml 179) (mj_rt 179)) := rfl
set_option maxRecDepth 1000000 in
theorem mj_t180 : lw_tbl[1119]? = some (Cond.code (mj_y 180) (mj_cc 180) (mj_ml 180) (mj_rt 180)) := rfl
set_option maxRecDepth 1000000 in
theorem mj_t181 : lw_tbl[607]? = some (Cond.code (mj_y 181) (mj_cc 181) (mj_ml 181) (mj_rt 181)) := rfl
set_option maxRecDepth 1000000 in
theorem mj_t182 : lw_tbl[289]? = some (Cond.code (mj_y 182) (mj_cc 182) (mj_ml 182) (mj_rt 182)) := rfl
set_option maxRecDepth 1000000 in
theorem mj_t183 : lw_tbl[299]? = some (Cond.code (mj_y 183) (mj_cc 183) (mj_ml 183) (mj_rt 183)) := rfl
set_option maxRecDepth 1000000 in
theorem mj_t184 : lw_tbl[283]? = some (Cond.code (mj_y 184) (mj_cc 184) (mj_ml 184) (mj_rt 184)) := rfl
set_option maxRecDepth 1000000 in
theorem mj_t185 : lw_tbl[293]? = some (Cond.code (mj_y 185) (mj_cc 185) (mj_ml 185) (mj_rt 185)) := rfl
set_option maxRecDepth 1000000 in
theorem mj_t186 : lw_tbl[279]? = some (Cond.code (mj_y 186) (mj_cc 186) (mj_ml 186) (mj_rt 186)) := rfl
set_option maxRecDepth 1000000 in
theorem mj_t187 : lw_tbl[296]? = some (Cond.code (mj_y 187) (mj_cc 187) (mj_ml 187) (mj_rt 187)) := rfl
set_option maxRecDepth 1000000 in
theorem mj_t188 : lw_tbl[307]? = some (Cond.code (mj_y 188) (mj_cc 188) (mj_ml 188) (mj_rt 188)) := rfl
set_option maxRecDepth 1000000 in
theorem mj_t189 : lw_tbl[310]? = some (Cond.code (mj_y 189) (mj_cc 189) (mj_ml 189) (mj_rt 189)) := rfl
set_option maxRecDepth 1000000 in
theorem mj_t190 : lw_tbl[317]? = some (Cond.code (mj_y 190) (mj_cc 190) (mj_ml 190) (mj_rt 190)) := rfl
set_option maxRecDepth 1000000 in
theorem mj_t191 : lw_tbl[313]? = some (Cond.code (mj_y 191) (mj_cc 191) (mj_ml 191) (mj_rt 191)) := rfl
set_option maxRecDepth 1000000 in
theorem mj_t192 : lw_tbl[304]? = some (Cond.code (mj_y 192) (mj_cc 192) (mj_ml 192) (mj_rt 192)) := rfl
theorem mj_tc0 : ∀ j, j < 16 → Cond.code (mj_y (0 + j)) (mj_cc (0 + j)) (mj_ml (0 + j)) (mj_rt (0 + j)) ∈ mj_ww
  | 0, _ => mj_ww_of mj_t0 rfl
  | 1, _ => mj_ww_of mj_t1 rfl
  | 2, _ => mj_ww_of mj_t2 rfl
  | 3, _ => mj_ww_of mj_t3 rfl
  | 4, _ => mj_ww_of mj_t4 rfl
  | 5, _ => mj_ww_of mj_t5 rfl
  | 6, _ => mj_ww_of mj_t6 rfl
  | 7, _ => mj_ww_of mj_t7 rfl
  | 8, _ => mj_ww_of mj_t8 rfl
  | 9, _ => mj_ww_of mj_t9 rfl
  | 10, _ => mj_ww_of mj_t10 rfl
  | 11, _ => mj_ww_of mj_t11 rfl
  | 12, _ => mj_ww_of mj_t12 rfl
  | 13, _ => mj_ww_of mj_t13 rfl
  | 14, _ => mj_ww_of mj_t14 rfl
  | 15, _ => mj_ww_of mj_t15 rfl
  | j + 16, h => absurd h (by omega)
theorem mj_tc1 : ∀ j, j < 16 → Cond.code (mj_y (16 + j)) (mj_cc (16 + j)) (mj_ml (16 + j)) (mj_rt (16 + j)) ∈ mj_ww
  | 0, _ => mj_ww_of mj_t16 rfl
  | 1, _ => mj_ww_of mj_t17 rfl
  | 2, _ => mj_ww_of mj_t18 rfl
  | 3, _ => mj_ww_of mj_t19 rfl
  | 4, _ => mj_ww_of mj_t20 rfl
  | 5, _ => mj_ww_of mj_t21 rfl
  | 6, _ => mj_ww_of mj_t22 rfl
  | 7, _ => mj_ww_of mj_t23 rfl
  | 8, _ => mj_ww_of mj_t24 rfl
  | 9, _ => mj_ww_of mj_t25 rfl
  | 10, _ => mj_ww_of mj_t26 rfl
  | 11, _ => mj_ww_of mj_t27 rfl
  | 12, _ => mj_ww_of mj_t28 rfl
  | 13, _ => mj_ww_of mj_t29 rfl
  | 14, _ => mj_ww_of mj_t30 rfl
  | 15, _ => mj_ww_of mj_t31 rfl
  | j + 16, h => absurd h (by omega)
theorem mj_tc2 : ∀ j, j < 16 → Cond.code (mj_y (32 + j)) (mj_cc (32 + j)) (mj_ml (32 + j)) (mj_rt (32 + j)) ∈ mj_ww
  | 0, _ => mj_ww_of mj_t32 rfl
  | 1, _ => mj_ww_of mj_t33 rfl
  | 2, _ => mj_ww_of mj_t34 rfl
  | 3, _ => mj_ww_of mj_t35 rfl
  | 4, _ => mj_ww_of mj_t36 rfl
  | 5, _ => mj_ww_of mj_t37 rfl
  | 6, _ => mj_ww_of mj_t38 rfl
  | 7, _ => mj_ww_of mj_t39 rfl
  | 8, _ => mj_ww_of mj_t40 rfl
  | 9, _ => mj_ww_of mj_t41 rfl
  | 10, _ => mj_ww_of mj_t42 rfl
  | 11, _ => mj_ww_of mj_t43 rfl
  | 12, _ => mj_ww_of mj_t44 rfl
  | 13, _ => mj_ww_of mj_t45 rfl
  | 14, _ => mj_ww_of mj_t46 rfl
  | 15, _ => mj_ww_of mj_t47 rfl
  | j + 16, h => absurd h (by omega)
theorem mj_tc3 : ∀ j, j < 16 → Cond.code (mj_y (48 + j)) (mj_cc (48 + j)) (mj_ml (48 + j)) (mj_rt (48 + j)) ∈ mj_ww
  | 0, _ => mj_ww_of mj_t48 rfl
  | 1, _ => mj_ww_of mj_t49 rfl
  | 2, _ => mj_ww_of mj_t50 rfl
  | 3, _ => mj_ww_of mj_t51 rfl
  | 4, _ => mj_ww_of mj_t52 rfl
  | 5, _ => mj_ww_of mj_t53 rfl
  | 6, _ => mj_ww_of mj_t54 rfl
  | 7, _ => mj_ww_of mj_t55 rfl
  | 8, _ => mj_ww_of mj_t56 rfl
  | 9, _ => mj_ww_of mj_t57 rfl
  | 10, _ => mj_ww_of mj_t58 rfl
  | 11, _ => mj_ww_of mj_t59 rfl
  | 12, _ => mj_ww_of mj_t60 rfl
  | 13, _ => mj_ww_of mj_t61 rfl
  | 14, _ => mj_ww_of mj_t62 rfl
  | 15, _ => mj_ww_of mj_t63 rfl
  | j + 16, h => absurd h (by omega)
theorem mj_tc4 : ∀ j, j < 16 → Cond.code (mj_y (64 + j)) (mj_cc (64 + j)) (mj_ml (64 + j)) (mj_rt (64 + j)) ∈ mj_ww
  | 0, _ => mj_ww_of mj_t64 rfl
  | 1, _ => mj_ww_of mj_t65 rfl
  | 2, _ => mj_ww_of mj_t66 rfl
  | 3, _ => mj_ww_of mj_t67 rfl
  | 4, _ => mj_ww_of mj_t68 rfl
  | 5, _ => mj_ww_of mj_t69 rfl
  | 6, _ => mj_ww_of mj_t70 rfl
  | 7, _ => mj_ww_of mj_t71 rfl
  | 8, _ => mj_ww_of mj_t72 rfl
  | 9, _ => mj_ww_of mj_t73 rfl
  | 10, _ => mj_ww_of mj_t74 rfl
  | 11, _ => mj_ww_of mj_t75 rfl
  | 12, _ => mj_ww_of mj_t76 rfl
  | 13, _ => mj_ww_of mj_t77 rfl
  | 14, _ => mj_ww_of mj_t78 rfl
  | 15, _ => mj_ww_of mj_t79 rfl
  | j + 16, h => absurd h (by omega)
theorem mj_tc5 : ∀ j, j < 16 → Cond.code (mj_y (80 + j)) (mj_cc (80 + j)) (mj_ml (80 + j)) (mj_rt (80 + j)) ∈ mj_ww
  | 0, _ => mj_ww_of mj_t80 rfl
  | 1, _ => mj_ww_of mj_t81 rfl
  | 2, _ => mj_ww_of mj_t82 rfl
  | 3, _ => mj_ww_of mj_t83 rfl
  | 4, _ => mj_ww_of mj_t84 rfl
  | 5, _ => mj_ww_of mj_t85 rfl
  | 6, _ => mj_ww_of mj_t86 rfl
  | 7, _ => mj_ww_of mj_t87 rfl
  | 8, _ => mj_ww_of mj_t88 rfl
  | 9, _ => mj_ww_of mj_t89 rfl
  | 10, _ => mj_ww_of mj_t90 rfl
  | 11, _ => mj_ww_of mj_t91 rfl
  | 12, _ => mj_ww_of mj_t92 rfl
  | 13, _ => mj_ww_of mj_t93 rfl
  | 14, _ => mj_ww_of mj_t94 rfl
  | 15, _ => mj_ww_of mj_t95 rfl
  | j + 16, h => absurd h (by omega)
theorem mj_tc6 : ∀ j, j < 16 → Cond.code (mj_y (96 + j)) (mj_cc (96 + j)) (mj_ml (96 + j)) (mj_rt (96 + j)) ∈ mj_ww
  | 0, _ => mj_ww_of mj_t96 rfl
  | 1, _ => mj_ww_of mj_t97 rfl
  | 2, _ => mj_ww_of mj_t98 rfl
  | 3, _ => mj_ww_of mj_t99 rfl
  | 4, _ => mj_ww_of mj_t100 rfl
  | 5, _ => mj_ww_of mj_t101 rfl
  | 6, _ => mj_ww_of mj_t102 rfl
  | 7, _ => mj_ww_of mj_t103 rfl
  | 8, _ => mj_ww_of mj_t104 rfl
  | 9, _ => mj_ww_of mj_t105 rfl
  | 10, _ => mj_ww_of mj_t106 rfl
  | 11, _ => mj_ww_of mj_t107 rfl
  | 12, _ => mj_ww_of mj_t108 rfl
  | 13, _ => mj_ww_of mj_t109 rfl
  | 14, _ => mj_ww_of mj_t110 rfl
  | 15, _ => mj_ww_of mj_t111 rfl
  | j + 16, h => absurd h (by omega)
theorem mj_tc7 : ∀ j, j < 16 → Cond.code (mj_y (112 + j)) (mj_cc (112 + j)) (mj_ml (112 + j)) (mj_rt (112 + j)) ∈ mj_ww
  | 0, _ => mj_ww_of mj_t112 rfl
  | 1, _ => mj_ww_of mj_t113 rfl
  | 2, _ => mj_ww_of mj_t114 rfl
  | 3, _ => mj_ww_of mj_t115 rfl
  | 4, _ => mj_ww_of mj_t116 rfl
  | 5, _ => mj_ww_of mj_t117 rfl
  | 6, _ => mj_ww_of mj_t118 rfl
  | 7, _ => mj_ww_of mj_t119 rfl
  | 8, _ => mj_ww_of mj_t120 rfl
  | 9, _ => mj_ww_of mj_t121 rfl
  | 10, _ => mj_ww_of mj_t122 rfl
  | 11, _ => mj_ww_of mj_t123 rfl
  | 12, _ => mj_ww_of mj_t124 rfl
  | 13, _ => mj_ww_of mj_t125 rfl
  | 14, _ => mj_ww_of mj_t126 rfl
  | 15, _ => mj_ww_of mj_t127 rfl
  | j + 16, h => absurd h (by omega)
theorem mj_tc8 : ∀ j, j < 16 → Cond.code (mj_y (128 + j)) (mj_cc (128 + j)) (mj_ml (128 + j)) (mj_rt (128 + j)) ∈ mj_ww
  | 0, _ => mj_ww_of mj_t128 rfl
  | 1, _ => mj_ww_of mj_t129 rfl
  | 2, _ => mj_ww_of mj_t130 rfl
  | 3, _ => mj_ww_of mj_t131 rfl
  | 4, _ => mj_ww_of mj_t132 rfl
  | 5, _ => mj_ww_of mj_t133 rfl
  | 6, _ => mj_ww_of mj_t134 rfl
  | 7, _ => mj_ww_of mj_t135 rfl
  | 8, _ => mj_ww_of mj_t136 rfl
  | 9, _ => mj_ww_of mj_t137 rfl
  | 10, _ => mj_ww_of mj_t138 rfl
  | 11, _ => mj_ww_of mj_t139 rfl
  | 12, _ => mj_ww_of mj_t140 rfl
  | 13, _ => mj_ww_of mj_t141 rfl
  | 14, _ => mj_ww_of mj_t142 rfl
  | 15, _ => mj_ww_of mj_t143 rfl
  | j + 16, h => absurd h (by omega)
theorem mj_tc9 : ∀ j, j < 16 → Cond.code (mj_y (144 + j)) (mj_cc (144 + j)) (mj_ml (144 + j)) (mj_rt (144 + j)) ∈ mj_ww
  | 0, _ => mj_ww_of mj_t144 rfl
  | 1, _ => mj_ww_of mj_t145 rfl
  | 2, _ => mj_ww_of mj_t146 rfl
  | 3, _ => mj_ww_of mj_t147 rfl
  | 4, _ => mj_ww_of mj_t148 rfl
  | 5, _ => mj_ww_of mj_t149 rfl
  | 6, _ => mj_ww_of mj_t150 rfl
  | 7, _ => mj_ww_of mj_t151 rfl
  | 8, _ => mj_ww_of mj_t152 rfl
  | 9, _ => mj_ww_of mj_t153 rfl
  | 10, _ => mj_ww_of mj_t154 rfl
  | 11, _ => mj_ww_of mj_t155 rfl
  | 12, _ => mj_ww_of mj_t156 rfl
  | 13, _ => mj_ww_of mj_t157 rfl
  | 14, _ => mj_ww_of mj_t158 rfl
  | 15, _ => mj_ww_of mj_t159 rfl
  | j + 16, h => absurd h (by omega)
theorem mj_tc10 : ∀ j, j < 16 → Cond.code (mj_y (160 + j)) (mj_cc (160 + j)) (mj_ml (160 + j)) (mj_rt (160 + j)) ∈ mj_ww
  | 0, _ => mj_ww_of mj_t160 rfl
  | 1, _ => mj_ww_of mj_t161 rfl
  | 2, _ => mj_ww_of mj_t162 rfl
  | 3, _ => mj_ww_of mj_t163 rfl
  | 4, _ => mj_ww_of mj_t164 rfl
  | 5, _ => mj_ww_of mj_t165 rfl
  | 6, _ => mj_ww_of mj_t166 rfl
  | 7, _ => mj_ww_of mj_t167 rfl
  | 8, _ => mj_ww_of mj_t168 rfl
  | 9, _ => mj_ww_of mj_t169 rfl
  | 10, _ => mj_ww_of mj_t170 rfl
  | 11, _ => mj_ww_of mj_t171 rfl
  | 12, _ => mj_ww_of mj_t172 rfl
  | 13, _ => mj_ww_of mj_t173 rfl
  | 14, _ => mj_ww_of mj_t174 rfl
  | 15, _ => mj_ww_of mj_t175 rfl
  | j + 16, h => absurd h (by omega)
theorem mj_tc11 : ∀ j, j < 16 → Cond.code (mj_y (176 + j)) (mj_cc (176 + j)) (mj_ml (176 + j)) (mj_rt (176 + j)) ∈ mj_ww
  | 0, _ => mj_ww_of mj_t176 rfl
  | 1, _ => mj_ww_of mj_t177 rfl
  | 2, _ => mj_ww_of mj_t178 rfl
  | 3, _ => mj_ww_of mj_t179 rfl
  | 4, _ => mj_ww_of mj_t180 rfl
  | 5, _ => mj_ww_of mj_t181 rfl
  | 6, _ => mj_ww_of mj_t182 rfl
  | 7, _ => mj_ww_of mj_t183 rfl
  | 8, _ => mj_ww_of mj_t184 rfl
  | 9, _ => mj_ww_of mj_t185 rfl
  | 10, _ => mj_ww_of mj_t186 rfl
  | 11, _ => mj_ww_of mj_t187 rfl
  | 12, _ => mj_ww_of mj_t188 rfl
  | 13, _ => mj_ww_of mj_t189 rfl
  | 14, _ => mj_ww_of mj_t190 rfl
  | 15, _ => mj_ww_of mj_t191 rfl
  | j + 16, h => absurd h (by omega)
theorem mj_tc12 : ∀ j, j < 1 → Cond.code (mj_y (192 + j)) (mj_cc (192 + j)) (mj_ml (192 + j)) (mj_rt (192 + j)) ∈ mj_ww
  | 0, _ => mj_ww_of mj_t192 rfl
  | j + 1, h => absurd h (by omega)
theorem mj_tca : ∀ i, i < mj_N → Cond.code (mj_y i) (mj_cc i) (mj_ml i) (mj_rt i) ∈ mj_ww := by
  intro i hi
  have hi : i < 193 := hi
  by_cases h0 : i < 16
  · have := mj_tc0 (i - 0) (by omega)
    rw [show 0 + (i - 0) = i by omega] at this
    exact this
  by_cases h1 : i < 32
  · have := mj_tc1 (i - 16) (by omega)
    rw [show 16 + (i - 16) = i by omega] at this
    exact this
  by_cases h2 : i < 48
  · have := mj_tc2 (i - 32) (by omega)
    rw [show 32 + (i - 32) = i by omega] at this
    exact this
  by_cases h3 : i < 64
  · have := mj_tc3 (i - 48) (by omega)
    rw [show 48 + (i - 48) = i by omega] at this
    exact this
  by_cases h4 : i < 80
  · have := mj_tc4 (i - 64) (by omega)
    rw [show 64 + (i - 64) = i by omega] at this
    exact this
  by_cases h5 : i < 96
  · have := mj_tc5 (i - 80) (by omega)
    rw [show 80 + (i - 80) = i by omega] at this
    exact this
  by_cases h6 : i < 112
  · have := mj_tc6 (i - 96) (by omega)
    rw [show 96 + (i - 96) = i by omega] at this
    exact this
  by_cases h7 : i < 128
  · have := mj_tc7 (i - 112) (by omega)
    rw [show 112 + (i - 112) = i by omega] at this
    exact this
  by_cases h8 : i < 144
  · have := mj_tc8 (i - 128) (by omega)
    rw [show 128 + (i - 128) = i by omega] at this
    exact this
  by_cases h9 : i < 160
  · have := mj_tc9 (i - 144) (by omega)
    rw [show 144 + (i - 144) = i by omega] at this
    exact this
  by_cases h10 : i < 176
  · have := mj_tc10 (i - 160) (by omega)
    rw [show 160 + (i - 160) = i by omega] at this
    exact this
  by_cases h11 : i < 192
  · have := mj_tc11 (i - 176) (by omega)
    rw [show 176 + (i - 176) = i by omega] at this
    exact this
  by_cases h12 : i < 193
  · have := mj_tc12 (i - 192) (by omega)
    rw [show 192 + (i - 192) = i by omega] at this
    exact this
  omega
