def sk_mH : List (Nat × Nat × Nat × Nat) := [(811, 76, 810, 0), (916, 76, 915, 0), (923, 76, 922, 0), (930, 76, 929, 0), (941, 76, 940, 0), (948, 76, 947, 0), (955, 76, 954, 0), (962, 76, 961, 0), (969, 76, 968, 0), (976, 76, 975, 0), (983, 76, 982, 0), (990, 76, 989, 0), (997, 76, 996, 0), (1004, 76, 1003, 0), (1024, 76, 1023, 0), (1031, 76, 1030, 0), (1042, 76, 1041, 0), (1053, 76, 1052, 0), (1061, 76, 1060, 0), (1072, 76, 1071, 0), (1079, 76, 1078, 0), (1090, 76, 1089, 0), (1105, 76, 1104, 0), (0, 0, 0, 0), (103, 77, 102, 0), (817, 77, 815, 816), (920, 77, 918, 919), (927, 77, 925, 926), (934, 77, 932, 933), (945, 77, 943, 944), (952, 77, 950, 951), (959, 77, 957, 958), (966, 77, 964, 965), (973, 77, 971, 972), (980, 77, 978, 979), (987, 77, 985, 986), (994, 77, 992, 993), (1001, 77, 999, 1000), (1008, 77, 1006, 1007), (1028, 77, 1026, 1027), (1035, 77, 1033, 1034), (1046, 77, 1044, 1045), (1057, 77, 1055, 1056), (1065, 77, 1063, 1064), (1076, 77, 1074, 1075), (370, 77, 368, 369), (1083, 77, 1081, 1082), (1094, 77, 1092, 1093), (452, 77, 450, 451), (460, 77, 458, 459), (1109, 77, 1107, 1108), (756, 77, 754, 755), (786, 77, 785, 34), (801, 77, 800, 0), (764, 77, 763, 0), (769, 77, 768, 33), (551, 77, 550, 21), (563, 77, 562, 22), (614, 77, 613, 24), (630, 77, 629, 25), (669, 77, 668, 27), (689, 77, 688, 28), (820, 77, 819, 0), (893, 77, 892, 0), (897, 77, 896, 0), (566, 77, 565, 0), (677, 77, 676, 0), (680, 77, 679, 0), (692, 77, 691, 0), (111, 78, 110, 0), (117, 78, 116, 0), (171, 78, 170, 1), (175, 78, 173, 174), (179, 78, 177, 178), (444, 78, 442, 443), (1015, 78, 1013, 1014), (440, 78, 438, 439), (196, 83, 195, 0), (540, 83, 538, 539), (578, 83, 576, 577), (622, 83, 620, 621), (648, 83, 646, 647), (570, 83, 568, 569), (618, 83, 616, 617), (590, 83, 588, 589), (586, 83, 584, 585), (704, 83, 702, 703), (626, 83, 624, 625), (938, 83, 936, 937), (752, 83, 750, 751), (424, 83, 422, 423), (684, 83, 682, 683), (448, 83, 446, 447), (700, 83, 698, 699), (713, 83, 711, 712), (740, 83, 738, 739), (744, 83, 743, 32), (664, 83, 662, 663), (638, 83, 637, 26), (634, 83, 632, 633), (652, 83, 650, 651), (792, 83, 790, 791), (777, 83, 775, 776), (202, 84, 201, 0), (379, 84, 377, 378), (574, 84, 572, 573), (387, 84, 386, 2), (383, 84, 381, 382), (644, 84, 642, 643), (594, 84, 592, 593), (805, 84, 803, 804), (599, 84, 597, 598), (582, 84, 580, 581), (797, 84, 795, 796), (781, 84, 779, 780), (748, 84, 746, 747), (603, 84, 601, 602), (656, 84, 654, 655), (610, 84, 609, 23), (660, 84, 658, 659), (544, 84, 542, 543), (256, 86, 255, 0), (1039, 86, 1037, 1038), (1050, 86, 1048, 1049), (708, 86, 706, 707), (719, 86, 718, 29), (724, 86, 723, 30), (730, 86, 728, 729), (735, 86, 734, 31), (1069, 86, 1067, 1068), (396, 86, 395, 3), (392, 86, 390, 391), (374, 86, 372, 373), (1087, 86, 1085, 1086), (262, 87, 261, 0), (400, 87, 398, 399), (403, 87, 402, 0), (417, 87, 416, 4), (428, 87, 427, 5), (432, 87, 431, 6), (420, 87, 419, 0), (436, 87, 435, 7), (300, 88, 299, 0), (761, 88, 759, 760), (528, 88, 526, 527), (532, 88, 531, 19), (1113, 88, 1111, 1112), (536, 88, 535, 20), (316, 89, 315, 0), (773, 89, 771, 772), (1098, 89, 1096, 1097), (1102, 89, 1100, 1101), (456, 89, 454, 455), (468, 89, 466, 467), (464, 89, 462, 463), (472, 89, 470, 471), (484, 89, 483, 10), (494, 89, 493, 12), (500, 89, 499, 13), (516, 89, 515, 16), (504, 89, 503, 14), (524, 89, 523, 18), (508, 89, 507, 15), (476, 89, 475, 8), (488, 89, 487, 11), (520, 89, 519, 17), (480, 89, 479, 9), (823, 91, 822, 0), (406, 91, 405, 0), (672, 91, 671, 0), (412, 91, 411, 0), (511, 91, 510, 0), (606, 91, 605, 0), (1118, 90, 1117, 0), (1181, 90, 1179, 1180), (1199, 90, 1198, 36), (1194, 90, 1193, 0), (1207, 90, 1206, 38), (1188, 90, 1187, 0), (1225, 90, 1224, 0), (1222, 90, 1221, 0), (1300, 90, 1299, 0), (1211, 90, 1210, 39), (1285, 90, 1284, 49), (1203, 90, 1202, 37), (1245, 90, 1244, 44), (1281, 90, 1280, 48), (1237, 90, 1236, 43), (1229, 90, 1228, 42), (1219, 90, 1218, 41), (1249, 90, 1248, 45), (1215, 90, 1214, 40), (1185, 90, 1183, 1184), (1233, 90, 1231, 1232), (1241, 90, 1239, 1240), (1253, 90, 1251, 1252), (1257, 90, 1255, 1256), (1262, 90, 1260, 1261), (1315, 90, 1314, 55), (1319, 90, 1318, 56), (1307, 90, 1306, 0), (1304, 90, 1303, 53), (1311, 90, 1310, 54), (1297, 90, 1296, 52), (1277, 90, 1276, 47), (1293, 90, 1292, 51), (1323, 90, 1322, 57), (1289, 90, 1288, 50), (1273, 90, 1272, 46), (1327, 90, 1326, 58), (1331, 90, 1330, 59), (1344, 90, 1343, 62), (1339, 90, 1338, 61), (1335, 90, 1334, 60), (1269, 90, 1267, 1268), (1348, 90, 1346, 1347), (1352, 90, 1350, 1351), (1365, 90, 1364, 64), (1361, 90, 1360, 63), (1356, 90, 1354, 1355), (1369, 90, 1367, 1368), (1378, 90, 1377, 65), (1374, 90, 1372, 1373), (1386, 90, 1385, 66), (1382, 90, 1380, 1381), (1394, 90, 1393, 67), (1390, 90, 1388, 1389), (1403, 90, 1402, 68), (1398, 90, 1396, 1397), (1407, 90, 1405, 1406), (1411, 90, 1409, 1410), (1415, 90, 1413, 1414), (1419, 90, 1417, 1418), (1427, 90, 1426, 69), (1423, 90, 1421, 1422), (1431, 90, 1429, 1430), (1435, 90, 1433, 1434), (1439, 90, 1437, 1438), (1444, 90, 1442, 1443), (1460, 90, 1459, 72), (1456, 90, 1455, 71), (1469, 90, 1468, 0), (1464, 90, 1463, 73), (1484, 90, 1483, 74), (1480, 90, 1479, 0), (1452, 90, 1451, 70), (1490, 90, 1489, 75), (1448, 90, 1446, 1447), (1502, 90, 1500, 1501), (1506, 90, 1504, 1505), (206, 85, 205, 0), (409, 85, 408, 0), (1018, 97, 1017, 0), (559, 0, 558, 557), (121, 79, 119, 120), (131, 79, 129, 130), (125, 79, 123, 124), (135, 79, 133, 134), (141, 79, 140, 0), (138, 80, 137, 0), (146, 81, 145, 0)]
def sk_cw (m : Nat) : Cond := if (sk_hh m).isEmpty = true then .code (sk_nm m) (sk_by m) (sk_mx m) (sk_rt m) else .codeWith (sk_nm m) (sk_by m) (sk_mx m) (sk_rt m) (sk_hh m)
def sk_isw (i : Nat) (w : Cond) : Bool := decide (lw_tbl[i]? = some w) && goodWord w
theorem sk_isw_mem {i : Nat} {w : Cond} (h : sk_isw i w = true) : w ∈ sk_TB := by
  simp only [sk_isw, Bool.and_eq_true, decide_eq_true_eq] at h
  exact sk_mem h.1 h.2
/-- methods that are no callees by contract: the law, Math.max, Math.min, Enum.ordinal -/
def sk_sp (m : Nat) : Bool := m == 23 || m == 250 || m == 251 || m == 253
def sk_mf (m : Nat) : Bool := match sk_mH.getD m (0, 0, 0, 0) with
  | (_, b, c, d) => sk_isw b (.initialized (sk_nm m).cls) &&
    (match sk_kd m with
      | 0 => sk_isw c (.static (sk_nm m))
      | 1 => sk_isw c (.instanceMethod (sk_nm m)) && sk_isw d (.selects (sk_nm m).cls (sk_nm m) (sk_nm m))
      | _ => sk_isw c (.instanceMethod (sk_nm m)) && decide ((sk_nm m).name = "<init>") && decide (sk_rt m = none) && (sk_hh m).isEmpty) &&
    plainName (sk_nm m).cls && decide ((sk_nm m).cls ≠ "java/lang/invoke/MethodHandle") && decide ((sk_nm m).cls ≠ "java/lang/invoke/VarHandle") &&
    decide ((parseMethodDescriptor (sk_nm m).desc).map (fun d => d.parameters.length) = some (if sk_kd m = 0 then sk_na m else sk_na m - 1)) && decide ((sk_nm m).cls = sk_cn (sk_cl m)) && decide (sk_kd m < 3) && decide (sk_kd m = 0 ∨ 0 < sk_na m)

set_option maxRecDepth 100000 in
theorem sk_mf_0 : sk_sp 0 = false → sk_mf 0 = true ∧ sk_cw 0 ∈ sk_TB := fun _ => ⟨by decide +kernel, sk_mem (i := 811) rfl rfl⟩
set_option maxRecDepth 100000 in
theorem sk_mf_1 : sk_sp 1 = false → sk_mf 1 = true ∧ sk_cw 1 ∈ sk_TB := fun _ => ⟨by decide +kernel, sk_mem (i := 916) rfl rfl⟩
set_option maxRecDepth 100000 in
theorem sk_mf_2 : sk_sp 2 = false → sk_mf 2 = true ∧ sk_cw 2 ∈ sk_TB := fun _ => ⟨by decide +kernel, sk_mem (i := 923) rfl rfl⟩
set_option maxRecDepth 100000 in
theorem sk_mf_3 : sk_sp 3 = false → sk_mf 3 = true ∧ sk_cw 3 ∈ sk_TB := fun _ => ⟨by decide +kernel, sk_mem (i := 930) rfl rfl⟩
set_option maxRecDepth 100000 in
theorem sk_mf_4 : sk_sp 4 = false → sk_mf 4 = true ∧ sk_cw 4 ∈ sk_TB := fun _ => ⟨by decide +kernel, sk_mem (i := 941) rfl rfl⟩
set_option maxRecDepth 100000 in
theorem sk_mf_5 : sk_sp 5 = false → sk_mf 5 = true ∧ sk_cw 5 ∈ sk_TB := fun _ => ⟨by decide +kernel, sk_mem (i := 948) rfl rfl⟩
set_option maxRecDepth 100000 in
theorem sk_mf_6 : sk_sp 6 = false → sk_mf 6 = true ∧ sk_cw 6 ∈ sk_TB := fun _ => ⟨by decide +kernel, sk_mem (i := 955) rfl rfl⟩
set_option maxRecDepth 100000 in
theorem sk_mf_7 : sk_sp 7 = false → sk_mf 7 = true ∧ sk_cw 7 ∈ sk_TB := fun _ => ⟨by decide +kernel, sk_mem (i := 962) rfl rfl⟩
set_option maxRecDepth 100000 in
theorem sk_mf_8 : sk_sp 8 = false → sk_mf 8 = true ∧ sk_cw 8 ∈ sk_TB := fun _ => ⟨by decide +kernel, sk_mem (i := 969) rfl rfl⟩
set_option maxRecDepth 100000 in
theorem sk_mf_9 : sk_sp 9 = false → sk_mf 9 = true ∧ sk_cw 9 ∈ sk_TB := fun _ => ⟨by decide +kernel, sk_mem (i := 976) rfl rfl⟩
set_option maxRecDepth 100000 in
theorem sk_mf_10 : sk_sp 10 = false → sk_mf 10 = true ∧ sk_cw 10 ∈ sk_TB := fun _ => ⟨by decide +kernel, sk_mem (i := 983) rfl rfl⟩
set_option maxRecDepth 100000 in
theorem sk_mf_11 : sk_sp 11 = false → sk_mf 11 = true ∧ sk_cw 11 ∈ sk_TB := fun _ => ⟨by decide +kernel, sk_mem (i := 990) rfl rfl⟩
set_option maxRecDepth 100000 in
theorem sk_mf_12 : sk_sp 12 = false → sk_mf 12 = true ∧ sk_cw 12 ∈ sk_TB := fun _ => ⟨by decide +kernel, sk_mem (i := 997) rfl rfl⟩
set_option maxRecDepth 100000 in
theorem sk_mf_13 : sk_sp 13 = false → sk_mf 13 = true ∧ sk_cw 13 ∈ sk_TB := fun _ => ⟨by decide +kernel, sk_mem (i := 1004) rfl rfl⟩
set_option maxRecDepth 100000 in
theorem sk_mf_14 : sk_sp 14 = false → sk_mf 14 = true ∧ sk_cw 14 ∈ sk_TB := fun _ => ⟨by decide +kernel, sk_mem (i := 1024) rfl rfl⟩
set_option maxRecDepth 100000 in
theorem sk_mf_15 : sk_sp 15 = false → sk_mf 15 = true ∧ sk_cw 15 ∈ sk_TB := fun _ => ⟨by decide +kernel, sk_mem (i := 1031) rfl rfl⟩
set_option maxRecDepth 100000 in
theorem sk_mf_16 : sk_sp 16 = false → sk_mf 16 = true ∧ sk_cw 16 ∈ sk_TB := fun _ => ⟨by decide +kernel, sk_mem (i := 1042) rfl rfl⟩
set_option maxRecDepth 100000 in
theorem sk_mf_17 : sk_sp 17 = false → sk_mf 17 = true ∧ sk_cw 17 ∈ sk_TB := fun _ => ⟨by decide +kernel, sk_mem (i := 1053) rfl rfl⟩
set_option maxRecDepth 100000 in
theorem sk_mf_18 : sk_sp 18 = false → sk_mf 18 = true ∧ sk_cw 18 ∈ sk_TB := fun _ => ⟨by decide +kernel, sk_mem (i := 1061) rfl rfl⟩
set_option maxRecDepth 100000 in
theorem sk_mf_19 : sk_sp 19 = false → sk_mf 19 = true ∧ sk_cw 19 ∈ sk_TB := fun _ => ⟨by decide +kernel, sk_mem (i := 1072) rfl rfl⟩
set_option maxRecDepth 100000 in
theorem sk_mf_20 : sk_sp 20 = false → sk_mf 20 = true ∧ sk_cw 20 ∈ sk_TB := fun _ => ⟨by decide +kernel, sk_mem (i := 1079) rfl rfl⟩
set_option maxRecDepth 100000 in
theorem sk_mf_21 : sk_sp 21 = false → sk_mf 21 = true ∧ sk_cw 21 ∈ sk_TB := fun _ => ⟨by decide +kernel, sk_mem (i := 1090) rfl rfl⟩
set_option maxRecDepth 100000 in
theorem sk_mf_22 : sk_sp 22 = false → sk_mf 22 = true ∧ sk_cw 22 ∈ sk_TB := fun _ => ⟨by decide +kernel, sk_mem (i := 1105) rfl rfl⟩
theorem sk_mf_23 : sk_sp 23 = false → sk_mf 23 = true ∧ sk_cw 23 ∈ sk_TB := fun h => by cases h
set_option maxRecDepth 100000 in
theorem sk_mf_24 : sk_sp 24 = false → sk_mf 24 = true ∧ sk_cw 24 ∈ sk_TB := fun _ => ⟨by decide +kernel, sk_mem (i := 103) rfl rfl⟩
set_option maxRecDepth 100000 in
theorem sk_mf_25 : sk_sp 25 = false → sk_mf 25 = true ∧ sk_cw 25 ∈ sk_TB := fun _ => ⟨by decide +kernel, sk_mem (i := 817) rfl rfl⟩
set_option maxRecDepth 100000 in
theorem sk_mf_26 : sk_sp 26 = false → sk_mf 26 = true ∧ sk_cw 26 ∈ sk_TB := fun _ => ⟨by decide +kernel, sk_mem (i := 920) rfl rfl⟩
set_option maxRecDepth 100000 in
theorem sk_mf_27 : sk_sp 27 = false → sk_mf 27 = true ∧ sk_cw 27 ∈ sk_TB := fun _ => ⟨by decide +kernel, sk_mem (i := 927) rfl rfl⟩
set_option maxRecDepth 100000 in
theorem sk_mf_28 : sk_sp 28 = false → sk_mf 28 = true ∧ sk_cw 28 ∈ sk_TB := fun _ => ⟨by decide +kernel, sk_mem (i := 934) rfl rfl⟩
set_option maxRecDepth 100000 in
theorem sk_mf_29 : sk_sp 29 = false → sk_mf 29 = true ∧ sk_cw 29 ∈ sk_TB := fun _ => ⟨by decide +kernel, sk_mem (i := 945) rfl rfl⟩
set_option maxRecDepth 100000 in
theorem sk_mf_30 : sk_sp 30 = false → sk_mf 30 = true ∧ sk_cw 30 ∈ sk_TB := fun _ => ⟨by decide +kernel, sk_mem (i := 952) rfl rfl⟩
set_option maxRecDepth 100000 in
theorem sk_mf_31 : sk_sp 31 = false → sk_mf 31 = true ∧ sk_cw 31 ∈ sk_TB := fun _ => ⟨by decide +kernel, sk_mem (i := 959) rfl rfl⟩
set_option maxRecDepth 100000 in
theorem sk_mf_32 : sk_sp 32 = false → sk_mf 32 = true ∧ sk_cw 32 ∈ sk_TB := fun _ => ⟨by decide +kernel, sk_mem (i := 966) rfl rfl⟩
set_option maxRecDepth 100000 in
theorem sk_mf_33 : sk_sp 33 = false → sk_mf 33 = true ∧ sk_cw 33 ∈ sk_TB := fun _ => ⟨by decide +kernel, sk_mem (i := 973) rfl rfl⟩
set_option maxRecDepth 100000 in
theorem sk_mf_34 : sk_sp 34 = false → sk_mf 34 = true ∧ sk_cw 34 ∈ sk_TB := fun _ => ⟨by decide +kernel, sk_mem (i := 980) rfl rfl⟩
set_option maxRecDepth 100000 in
theorem sk_mf_35 : sk_sp 35 = false → sk_mf 35 = true ∧ sk_cw 35 ∈ sk_TB := fun _ => ⟨by decide +kernel, sk_mem (i := 987) rfl rfl⟩
set_option maxRecDepth 100000 in
theorem sk_mf_36 : sk_sp 36 = false → sk_mf 36 = true ∧ sk_cw 36 ∈ sk_TB := fun _ => ⟨by decide +kernel, sk_mem (i := 994) rfl rfl⟩
set_option maxRecDepth 100000 in
theorem sk_mf_37 : sk_sp 37 = false → sk_mf 37 = true ∧ sk_cw 37 ∈ sk_TB := fun _ => ⟨by decide +kernel, sk_mem (i := 1001) rfl rfl⟩
set_option maxRecDepth 100000 in
theorem sk_mf_38 : sk_sp 38 = false → sk_mf 38 = true ∧ sk_cw 38 ∈ sk_TB := fun _ => ⟨by decide +kernel, sk_mem (i := 1008) rfl rfl⟩
set_option maxRecDepth 100000 in
theorem sk_mf_39 : sk_sp 39 = false → sk_mf 39 = true ∧ sk_cw 39 ∈ sk_TB := fun _ => ⟨by decide +kernel, sk_mem (i := 1028) rfl rfl⟩
set_option maxRecDepth 100000 in
theorem sk_mf_40 : sk_sp 40 = false → sk_mf 40 = true ∧ sk_cw 40 ∈ sk_TB := fun _ => ⟨by decide +kernel, sk_mem (i := 1035) rfl rfl⟩
set_option maxRecDepth 100000 in
theorem sk_mf_41 : sk_sp 41 = false → sk_mf 41 = true ∧ sk_cw 41 ∈ sk_TB := fun _ => ⟨by decide +kernel, sk_mem (i := 1046) rfl rfl⟩
set_option maxRecDepth 100000 in
theorem sk_mf_42 : sk_sp 42 = false → sk_mf 42 = true ∧ sk_cw 42 ∈ sk_TB := fun _ => ⟨by decide +kernel, sk_mem (i := 1057) rfl rfl⟩
set_option maxRecDepth 100000 in
theorem sk_mf_43 : sk_sp 43 = false → sk_mf 43 = true ∧ sk_cw 43 ∈ sk_TB := fun _ => ⟨by decide +kernel, sk_mem (i := 1065) rfl rfl⟩
set_option maxRecDepth 100000 in
theorem sk_mf_44 : sk_sp 44 = false → sk_mf 44 = true ∧ sk_cw 44 ∈ sk_TB := fun _ => ⟨by decide +kernel, sk_mem (i := 1076) rfl rfl⟩
set_option maxRecDepth 100000 in
theorem sk_mf_45 : sk_sp 45 = false → sk_mf 45 = true ∧ sk_cw 45 ∈ sk_TB := fun _ => ⟨by decide +kernel, sk_mem (i := 370) rfl rfl⟩
set_option maxRecDepth 100000 in
theorem sk_mf_46 : sk_sp 46 = false → sk_mf 46 = true ∧ sk_cw 46 ∈ sk_TB := fun _ => ⟨by decide +kernel, sk_mem (i := 1083) rfl rfl⟩
set_option maxRecDepth 100000 in
theorem sk_mf_47 : sk_sp 47 = false → sk_mf 47 = true ∧ sk_cw 47 ∈ sk_TB := fun _ => ⟨by decide +kernel, sk_mem (i := 1094) rfl rfl⟩
set_option maxRecDepth 100000 in
theorem sk_mf_48 : sk_sp 48 = false → sk_mf 48 = true ∧ sk_cw 48 ∈ sk_TB := fun _ => ⟨by decide +kernel, sk_mem (i := 452) rfl rfl⟩
set_option maxRecDepth 100000 in
theorem sk_mf_49 : sk_sp 49 = false → sk_mf 49 = true ∧ sk_cw 49 ∈ sk_TB := fun _ => ⟨by decide +kernel, sk_mem (i := 460) rfl rfl⟩
set_option maxRecDepth 100000 in
theorem sk_mf_50 : sk_sp 50 = false → sk_mf 50 = true ∧ sk_cw 50 ∈ sk_TB := fun _ => ⟨by decide +kernel, sk_mem (i := 1109) rfl rfl⟩
set_option maxRecDepth 100000 in
theorem sk_mf_51 : sk_sp 51 = false → sk_mf 51 = true ∧ sk_cw 51 ∈ sk_TB := fun _ => ⟨by decide +kernel, sk_mem (i := 756) rfl rfl⟩
set_option maxRecDepth 100000 in
theorem sk_mf_52 : sk_sp 52 = false → sk_mf 52 = true ∧ sk_cw 52 ∈ sk_TB := fun _ => ⟨by decide +kernel, sk_mem (i := 786) rfl rfl⟩
set_option maxRecDepth 100000 in
theorem sk_mf_53 : sk_sp 53 = false → sk_mf 53 = true ∧ sk_cw 53 ∈ sk_TB := fun _ => ⟨by decide +kernel, sk_mem (i := 801) rfl rfl⟩
set_option maxRecDepth 100000 in
theorem sk_mf_54 : sk_sp 54 = false → sk_mf 54 = true ∧ sk_cw 54 ∈ sk_TB := fun _ => ⟨by decide +kernel, sk_mem (i := 764) rfl rfl⟩
set_option maxRecDepth 100000 in
theorem sk_mf_55 : sk_sp 55 = false → sk_mf 55 = true ∧ sk_cw 55 ∈ sk_TB := fun _ => ⟨by decide +kernel, sk_mem (i := 769) rfl rfl⟩
set_option maxRecDepth 100000 in
theorem sk_mf_56 : sk_sp 56 = false → sk_mf 56 = true ∧ sk_cw 56 ∈ sk_TB := fun _ => ⟨by decide +kernel, sk_mem (i := 551) rfl rfl⟩
set_option maxRecDepth 100000 in
theorem sk_mf_57 : sk_sp 57 = false → sk_mf 57 = true ∧ sk_cw 57 ∈ sk_TB := fun _ => ⟨by decide +kernel, sk_mem (i := 563) rfl rfl⟩
set_option maxRecDepth 100000 in
theorem sk_mf_58 : sk_sp 58 = false → sk_mf 58 = true ∧ sk_cw 58 ∈ sk_TB := fun _ => ⟨by decide +kernel, sk_mem (i := 614) rfl rfl⟩
set_option maxRecDepth 100000 in
theorem sk_mf_59 : sk_sp 59 = false → sk_mf 59 = true ∧ sk_cw 59 ∈ sk_TB := fun _ => ⟨by decide +kernel, sk_mem (i := 630) rfl rfl⟩
set_option maxRecDepth 100000 in
theorem sk_mf_60 : sk_sp 60 = false → sk_mf 60 = true ∧ sk_cw 60 ∈ sk_TB := fun _ => ⟨by decide +kernel, sk_mem (i := 669) rfl rfl⟩
set_option maxRecDepth 100000 in
theorem sk_mf_61 : sk_sp 61 = false → sk_mf 61 = true ∧ sk_cw 61 ∈ sk_TB := fun _ => ⟨by decide +kernel, sk_mem (i := 689) rfl rfl⟩
set_option maxRecDepth 100000 in
theorem sk_mf_62 : sk_sp 62 = false → sk_mf 62 = true ∧ sk_cw 62 ∈ sk_TB := fun _ => ⟨by decide +kernel, sk_mem (i := 820) rfl rfl⟩
set_option maxRecDepth 100000 in
theorem sk_mf_63 : sk_sp 63 = false → sk_mf 63 = true ∧ sk_cw 63 ∈ sk_TB := fun _ => ⟨by decide +kernel, sk_mem (i := 893) rfl rfl⟩
set_option maxRecDepth 100000 in
theorem sk_mf_64 : sk_sp 64 = false → sk_mf 64 = true ∧ sk_cw 64 ∈ sk_TB := fun _ => ⟨by decide +kernel, sk_mem (i := 897) rfl rfl⟩
set_option maxRecDepth 100000 in
theorem sk_mf_65 : sk_sp 65 = false → sk_mf 65 = true ∧ sk_cw 65 ∈ sk_TB := fun _ => ⟨by decide +kernel, sk_mem (i := 566) rfl rfl⟩
set_option maxRecDepth 100000 in
theorem sk_mf_66 : sk_sp 66 = false → sk_mf 66 = true ∧ sk_cw 66 ∈ sk_TB := fun _ => ⟨by decide +kernel, sk_mem (i := 677) rfl rfl⟩
set_option maxRecDepth 100000 in
theorem sk_mf_67 : sk_sp 67 = false → sk_mf 67 = true ∧ sk_cw 67 ∈ sk_TB := fun _ => ⟨by decide +kernel, sk_mem (i := 680) rfl rfl⟩
set_option maxRecDepth 100000 in
theorem sk_mf_68 : sk_sp 68 = false → sk_mf 68 = true ∧ sk_cw 68 ∈ sk_TB := fun _ => ⟨by decide +kernel, sk_mem (i := 692) rfl rfl⟩
set_option maxRecDepth 100000 in
theorem sk_mf_69 : sk_sp 69 = false → sk_mf 69 = true ∧ sk_cw 69 ∈ sk_TB := fun _ => ⟨by decide +kernel, sk_mem (i := 111) rfl rfl⟩
set_option maxRecDepth 100000 in
theorem sk_mf_70 : sk_sp 70 = false → sk_mf 70 = true ∧ sk_cw 70 ∈ sk_TB := fun _ => ⟨by decide +kernel, sk_mem (i := 117) rfl rfl⟩
set_option maxRecDepth 100000 in
theorem sk_mf_71 : sk_sp 71 = false → sk_mf 71 = true ∧ sk_cw 71 ∈ sk_TB := fun _ => ⟨by decide +kernel, sk_mem (i := 171) rfl rfl⟩
set_option maxRecDepth 100000 in
theorem sk_mf_72 : sk_sp 72 = false → sk_mf 72 = true ∧ sk_cw 72 ∈ sk_TB := fun _ => ⟨by decide +kernel, sk_mem (i := 175) rfl rfl⟩
set_option maxRecDepth 100000 in
theorem sk_mf_73 : sk_sp 73 = false → sk_mf 73 = true ∧ sk_cw 73 ∈ sk_TB := fun _ => ⟨by decide +kernel, sk_mem (i := 179) rfl rfl⟩
set_option maxRecDepth 100000 in
theorem sk_mf_74 : sk_sp 74 = false → sk_mf 74 = true ∧ sk_cw 74 ∈ sk_TB := fun _ => ⟨by decide +kernel, sk_mem (i := 444) rfl rfl⟩
set_option maxRecDepth 100000 in
theorem sk_mf_75 : sk_sp 75 = false → sk_mf 75 = true ∧ sk_cw 75 ∈ sk_TB := fun _ => ⟨by decide +kernel, sk_mem (i := 1015) rfl rfl⟩
set_option maxRecDepth 100000 in
theorem sk_mf_76 : sk_sp 76 = false → sk_mf 76 = true ∧ sk_cw 76 ∈ sk_TB := fun _ => ⟨by decide +kernel, sk_mem (i := 440) rfl rfl⟩
set_option maxRecDepth 100000 in
theorem sk_mf_77 : sk_sp 77 = false → sk_mf 77 = true ∧ sk_cw 77 ∈ sk_TB := fun _ => ⟨by decide +kernel, sk_mem (i := 196) rfl rfl⟩
set_option maxRecDepth 100000 in
theorem sk_mf_78 : sk_sp 78 = false → sk_mf 78 = true ∧ sk_cw 78 ∈ sk_TB := fun _ => ⟨by decide +kernel, sk_mem (i := 540) rfl rfl⟩
set_option maxRecDepth 100000 in
theorem sk_mf_79 : sk_sp 79 = false → sk_mf 79 = true ∧ sk_cw 79 ∈ sk_TB := fun _ => ⟨by decide +kernel, sk_mem (i := 578) rfl rfl⟩
set_option maxRecDepth 100000 in
theorem sk_mf_80 : sk_sp 80 = false → sk_mf 80 = true ∧ sk_cw 80 ∈ sk_TB := fun _ => ⟨by decide +kernel, sk_mem (i := 622) rfl rfl⟩
set_option maxRecDepth 100000 in
theorem sk_mf_81 : sk_sp 81 = false → sk_mf 81 = true ∧ sk_cw 81 ∈ sk_TB := fun _ => ⟨by decide +kernel, sk_mem (i := 648) rfl rfl⟩
set_option maxRecDepth 100000 in
theorem sk_mf_82 : sk_sp 82 = false → sk_mf 82 = true ∧ sk_cw 82 ∈ sk_TB := fun _ => ⟨by decide +kernel, sk_mem (i := 570) rfl rfl⟩
set_option maxRecDepth 100000 in
theorem sk_mf_83 : sk_sp 83 = false → sk_mf 83 = true ∧ sk_cw 83 ∈ sk_TB := fun _ => ⟨by decide +kernel, sk_mem (i := 618) rfl rfl⟩
set_option maxRecDepth 100000 in
theorem sk_mf_84 : sk_sp 84 = false → sk_mf 84 = true ∧ sk_cw 84 ∈ sk_TB := fun _ => ⟨by decide +kernel, sk_mem (i := 590) rfl rfl⟩
set_option maxRecDepth 100000 in
theorem sk_mf_85 : sk_sp 85 = false → sk_mf 85 = true ∧ sk_cw 85 ∈ sk_TB := fun _ => ⟨by decide +kernel, sk_mem (i := 586) rfl rfl⟩
set_option maxRecDepth 100000 in
theorem sk_mf_86 : sk_sp 86 = false → sk_mf 86 = true ∧ sk_cw 86 ∈ sk_TB := fun _ => ⟨by decide +kernel, sk_mem (i := 704) rfl rfl⟩
set_option maxRecDepth 100000 in
theorem sk_mf_87 : sk_sp 87 = false → sk_mf 87 = true ∧ sk_cw 87 ∈ sk_TB := fun _ => ⟨by decide +kernel, sk_mem (i := 626) rfl rfl⟩
set_option maxRecDepth 100000 in
theorem sk_mf_88 : sk_sp 88 = false → sk_mf 88 = true ∧ sk_cw 88 ∈ sk_TB := fun _ => ⟨by decide +kernel, sk_mem (i := 938) rfl rfl⟩
set_option maxRecDepth 100000 in
theorem sk_mf_89 : sk_sp 89 = false → sk_mf 89 = true ∧ sk_cw 89 ∈ sk_TB := fun _ => ⟨by decide +kernel, sk_mem (i := 752) rfl rfl⟩
set_option maxRecDepth 100000 in
theorem sk_mf_90 : sk_sp 90 = false → sk_mf 90 = true ∧ sk_cw 90 ∈ sk_TB := fun _ => ⟨by decide +kernel, sk_mem (i := 424) rfl rfl⟩
set_option maxRecDepth 100000 in
theorem sk_mf_91 : sk_sp 91 = false → sk_mf 91 = true ∧ sk_cw 91 ∈ sk_TB := fun _ => ⟨by decide +kernel, sk_mem (i := 684) rfl rfl⟩
set_option maxRecDepth 100000 in
theorem sk_mf_92 : sk_sp 92 = false → sk_mf 92 = true ∧ sk_cw 92 ∈ sk_TB := fun _ => ⟨by decide +kernel, sk_mem (i := 448) rfl rfl⟩
set_option maxRecDepth 100000 in
theorem sk_mf_93 : sk_sp 93 = false → sk_mf 93 = true ∧ sk_cw 93 ∈ sk_TB := fun _ => ⟨by decide +kernel, sk_mem (i := 700) rfl rfl⟩
set_option maxRecDepth 100000 in
theorem sk_mf_94 : sk_sp 94 = false → sk_mf 94 = true ∧ sk_cw 94 ∈ sk_TB := fun _ => ⟨by decide +kernel, sk_mem (i := 713) rfl rfl⟩
set_option maxRecDepth 100000 in
theorem sk_mf_95 : sk_sp 95 = false → sk_mf 95 = true ∧ sk_cw 95 ∈ sk_TB := fun _ => ⟨by decide +kernel, sk_mem (i := 740) rfl rfl⟩
set_option maxRecDepth 100000 in
theorem sk_mf_96 : sk_sp 96 = false → sk_mf 96 = true ∧ sk_cw 96 ∈ sk_TB := fun _ => ⟨by decide +kernel, sk_mem (i := 744) rfl rfl⟩
set_option maxRecDepth 100000 in
theorem sk_mf_97 : sk_sp 97 = false → sk_mf 97 = true ∧ sk_cw 97 ∈ sk_TB := fun _ => ⟨by decide +kernel, sk_mem (i := 664) rfl rfl⟩
set_option maxRecDepth 100000 in
theorem sk_mf_98 : sk_sp 98 = false → sk_mf 98 = true ∧ sk_cw 98 ∈ sk_TB := fun _ => ⟨by decide +kernel, sk_mem (i := 638) rfl rfl⟩
set_option maxRecDepth 100000 in
theorem sk_mf_99 : sk_sp 99 = false → sk_mf 99 = true ∧ sk_cw 99 ∈ sk_TB := fun _ => ⟨by decide +kernel, sk_mem (i := 634) rfl rfl⟩
set_option maxRecDepth 100000 in
theorem sk_mf_100 : sk_sp 100 = false → sk_mf 100 = true ∧ sk_cw 100 ∈ sk_TB := fun _ => ⟨by decide +kernel, sk_mem (i := 652) rfl rfl⟩
set_option maxRecDepth 100000 in
theorem sk_mf_101 : sk_sp 101 = false → sk_mf 101 = true ∧ sk_cw 101 ∈ sk_TB := fun _ => ⟨by decide +kernel, sk_mem (i := 792) rfl rfl⟩
set_option maxRecDepth 100000 in
theorem sk_mf_102 : sk_sp 102 = false → sk_mf 102 = true ∧ sk_cw 102 ∈ sk_TB := fun _ => ⟨by decide +kernel, sk_mem (i := 777) rfl rfl⟩
set_option maxRecDepth 100000 in
theorem sk_mf_103 : sk_sp 103 = false → sk_mf 103 = true ∧ sk_cw 103 ∈ sk_TB := fun _ => ⟨by decide +kernel, sk_mem (i := 202) rfl rfl⟩
set_option maxRecDepth 100000 in
theorem sk_mf_104 : sk_sp 104 = false → sk_mf 104 = true ∧ sk_cw 104 ∈ sk_TB := fun _ => ⟨by decide +kernel, sk_mem (i := 379) rfl rfl⟩
set_option maxRecDepth 100000 in
theorem sk_mf_105 : sk_sp 105 = false → sk_mf 105 = true ∧ sk_cw 105 ∈ sk_TB := fun _ => ⟨by decide +kernel, sk_mem (i := 574) rfl rfl⟩
set_option maxRecDepth 100000 in
theorem sk_mf_106 : sk_sp 106 = false → sk_mf 106 = true ∧ sk_cw 106 ∈ sk_TB := fun _ => ⟨by decide +kernel, sk_mem (i := 387) rfl rfl⟩
set_option maxRecDepth 100000 in
theorem sk_mf_107 : sk_sp 107 = false → sk_mf 107 = true ∧ sk_cw 107 ∈ sk_TB := fun _ => ⟨by decide +kernel, sk_mem (i := 383) rfl rfl⟩
set_option maxRecDepth 100000 in
theorem sk_mf_108 : sk_sp 108 = false → sk_mf 108 = true ∧ sk_cw 108 ∈ sk_TB := fun _ => ⟨by decide +kernel, sk_mem (i := 644) rfl rfl⟩
set_option maxRecDepth 100000 in
theorem sk_mf_109 : sk_sp 109 = false → sk_mf 109 = true ∧ sk_cw 109 ∈ sk_TB := fun _ => ⟨by decide +kernel, sk_mem (i := 594) rfl rfl⟩
set_option maxRecDepth 100000 in
theorem sk_mf_110 : sk_sp 110 = false → sk_mf 110 = true ∧ sk_cw 110 ∈ sk_TB := fun _ => ⟨by decide +kernel, sk_mem (i := 805) rfl rfl⟩
set_option maxRecDepth 100000 in
theorem sk_mf_111 : sk_sp 111 = false → sk_mf 111 = true ∧ sk_cw 111 ∈ sk_TB := fun _ => ⟨by decide +kernel, sk_mem (i := 599) rfl rfl⟩
set_option maxRecDepth 100000 in
theorem sk_mf_112 : sk_sp 112 = false → sk_mf 112 = true ∧ sk_cw 112 ∈ sk_TB := fun _ => ⟨by decide +kernel, sk_mem (i := 582) rfl rfl⟩
set_option maxRecDepth 100000 in
theorem sk_mf_113 : sk_sp 113 = false → sk_mf 113 = true ∧ sk_cw 113 ∈ sk_TB := fun _ => ⟨by decide +kernel, sk_mem (i := 797) rfl rfl⟩
set_option maxRecDepth 100000 in
theorem sk_mf_114 : sk_sp 114 = false → sk_mf 114 = true ∧ sk_cw 114 ∈ sk_TB := fun _ => ⟨by decide +kernel, sk_mem (i := 781) rfl rfl⟩
set_option maxRecDepth 100000 in
theorem sk_mf_115 : sk_sp 115 = false → sk_mf 115 = true ∧ sk_cw 115 ∈ sk_TB := fun _ => ⟨by decide +kernel, sk_mem (i := 748) rfl rfl⟩
set_option maxRecDepth 100000 in
theorem sk_mf_116 : sk_sp 116 = false → sk_mf 116 = true ∧ sk_cw 116 ∈ sk_TB := fun _ => ⟨by decide +kernel, sk_mem (i := 603) rfl rfl⟩
set_option maxRecDepth 100000 in
theorem sk_mf_117 : sk_sp 117 = false → sk_mf 117 = true ∧ sk_cw 117 ∈ sk_TB := fun _ => ⟨by decide +kernel, sk_mem (i := 656) rfl rfl⟩
set_option maxRecDepth 100000 in
theorem sk_mf_118 : sk_sp 118 = false → sk_mf 118 = true ∧ sk_cw 118 ∈ sk_TB := fun _ => ⟨by decide +kernel, sk_mem (i := 610) rfl rfl⟩
set_option maxRecDepth 100000 in
theorem sk_mf_119 : sk_sp 119 = false → sk_mf 119 = true ∧ sk_cw 119 ∈ sk_TB := fun _ => ⟨by decide +kernel, sk_mem (i := 660) rfl rfl⟩
set_option maxRecDepth 100000 in
theorem sk_mf_120 : sk_sp 120 = false → sk_mf 120 = true ∧ sk_cw 120 ∈ sk_TB := fun _ => ⟨by decide +kernel, sk_mem (i := 544) rfl rfl⟩
set_option maxRecDepth 100000 in
theorem sk_mf_121 : sk_sp 121 = false → sk_mf 121 = true ∧ sk_cw 121 ∈ sk_TB := fun _ => ⟨by decide +kernel, sk_mem (i := 256) rfl rfl⟩
set_option maxRecDepth 100000 in
theorem sk_mf_122 : sk_sp 122 = false → sk_mf 122 = true ∧ sk_cw 122 ∈ sk_TB := fun _ => ⟨by decide +kernel, sk_mem (i := 1039) rfl rfl⟩
set_option maxRecDepth 100000 in
theorem sk_mf_123 : sk_sp 123 = false → sk_mf 123 = true ∧ sk_cw 123 ∈ sk_TB := fun _ => ⟨by decide +kernel, sk_mem (i := 1050) rfl rfl⟩
set_option maxRecDepth 100000 in
theorem sk_mf_124 : sk_sp 124 = false → sk_mf 124 = true ∧ sk_cw 124 ∈ sk_TB := fun _ => ⟨by decide +kernel, sk_mem (i := 708) rfl rfl⟩
set_option maxRecDepth 100000 in
theorem sk_mf_125 : sk_sp 125 = false → sk_mf 125 = true ∧ sk_cw 125 ∈ sk_TB := fun _ => ⟨by decide +kernel, sk_mem (i := 719) rfl rfl⟩
set_option maxRecDepth 100000 in
theorem sk_mf_126 : sk_sp 126 = false → sk_mf 126 = true ∧ sk_cw 126 ∈ sk_TB := fun _ => ⟨by decide +kernel, sk_mem (i := 724) rfl rfl⟩
set_option maxRecDepth 100000 in
theorem sk_mf_127 : sk_sp 127 = false → sk_mf 127 = true ∧ sk_cw 127 ∈ sk_TB := fun _ => ⟨by decide +kernel, sk_mem (i := 730) rfl rfl⟩
set_option maxRecDepth 100000 in
theorem sk_mf_128 : sk_sp 128 = false → sk_mf 128 = true ∧ sk_cw 128 ∈ sk_TB := fun _ => ⟨by decide +kernel, sk_mem (i := 735) rfl rfl⟩
set_option maxRecDepth 100000 in
theorem sk_mf_129 : sk_sp 129 = false → sk_mf 129 = true ∧ sk_cw 129 ∈ sk_TB := fun _ => ⟨by decide +kernel, sk_mem (i := 1069) rfl rfl⟩
set_option maxRecDepth 100000 in
theorem sk_mf_130 : sk_sp 130 = false → sk_mf 130 = true ∧ sk_cw 130 ∈ sk_TB := fun _ => ⟨by decide +kernel, sk_mem (i := 396) rfl rfl⟩
set_option maxRecDepth 100000 in
theorem sk_mf_131 : sk_sp 131 = false → sk_mf 131 = true ∧ sk_cw 131 ∈ sk_TB := fun _ => ⟨by decide +kernel, sk_mem (i := 392) rfl rfl⟩
set_option maxRecDepth 100000 in
theorem sk_mf_132 : sk_sp 132 = false → sk_mf 132 = true ∧ sk_cw 132 ∈ sk_TB := fun _ => ⟨by decide +kernel, sk_mem (i := 374) rfl rfl⟩
set_option maxRecDepth 100000 in
theorem sk_mf_133 : sk_sp 133 = false → sk_mf 133 = true ∧ sk_cw 133 ∈ sk_TB := fun _ => ⟨by decide +kernel, sk_mem (i := 1087) rfl rfl⟩
set_option maxRecDepth 100000 in
theorem sk_mf_134 : sk_sp 134 = false → sk_mf 134 = true ∧ sk_cw 134 ∈ sk_TB := fun _ => ⟨by decide +kernel, sk_mem (i := 262) rfl rfl⟩
set_option maxRecDepth 100000 in
theorem sk_mf_135 : sk_sp 135 = false → sk_mf 135 = true ∧ sk_cw 135 ∈ sk_TB := fun _ => ⟨by decide +kernel, sk_mem (i := 400) rfl rfl⟩
set_option maxRecDepth 100000 in
theorem sk_mf_136 : sk_sp 136 = false → sk_mf 136 = true ∧ sk_cw 136 ∈ sk_TB := fun _ => ⟨by decide +kernel, sk_mem (i := 403) rfl rfl⟩
set_option maxRecDepth 100000 in
theorem sk_mf_137 : sk_sp 137 = false → sk_mf 137 = true ∧ sk_cw 137 ∈ sk_TB := fun _ => ⟨by decide +kernel, sk_mem (i := 417) rfl rfl⟩
set_option maxRecDepth 100000 in
theorem sk_mf_138 : sk_sp 138 = false → sk_mf 138 = true ∧ sk_cw 138 ∈ sk_TB := fun _ => ⟨by decide +kernel, sk_mem (i := 428) rfl rfl⟩
set_option maxRecDepth 100000 in
theorem sk_mf_139 : sk_sp 139 = false → sk_mf 139 = true ∧ sk_cw 139 ∈ sk_TB := fun _ => ⟨by decide +kernel, sk_mem (i := 432) rfl rfl⟩
set_option maxRecDepth 100000 in
theorem sk_mf_140 : sk_sp 140 = false → sk_mf 140 = true ∧ sk_cw 140 ∈ sk_TB := fun _ => ⟨by decide +kernel, sk_mem (i := 420) rfl rfl⟩
set_option maxRecDepth 100000 in
theorem sk_mf_141 : sk_sp 141 = false → sk_mf 141 = true ∧ sk_cw 141 ∈ sk_TB := fun _ => ⟨by decide +kernel, sk_mem (i := 436) rfl rfl⟩
set_option maxRecDepth 100000 in
theorem sk_mf_142 : sk_sp 142 = false → sk_mf 142 = true ∧ sk_cw 142 ∈ sk_TB := fun _ => ⟨by decide +kernel, sk_mem (i := 300) rfl rfl⟩
set_option maxRecDepth 100000 in
theorem sk_mf_143 : sk_sp 143 = false → sk_mf 143 = true ∧ sk_cw 143 ∈ sk_TB := fun _ => ⟨by decide +kernel, sk_mem (i := 761) rfl rfl⟩
set_option maxRecDepth 100000 in
theorem sk_mf_144 : sk_sp 144 = false → sk_mf 144 = true ∧ sk_cw 144 ∈ sk_TB := fun _ => ⟨by decide +kernel, sk_mem (i := 528) rfl rfl⟩
set_option maxRecDepth 100000 in
theorem sk_mf_145 : sk_sp 145 = false → sk_mf 145 = true ∧ sk_cw 145 ∈ sk_TB := fun _ => ⟨by decide +kernel, sk_mem (i := 532) rfl rfl⟩
set_option maxRecDepth 100000 in
theorem sk_mf_146 : sk_sp 146 = false → sk_mf 146 = true ∧ sk_cw 146 ∈ sk_TB := fun _ => ⟨by decide +kernel, sk_mem (i := 1113) rfl rfl⟩
set_option maxRecDepth 100000 in
theorem sk_mf_147 : sk_sp 147 = false → sk_mf 147 = true ∧ sk_cw 147 ∈ sk_TB := fun _ => ⟨by decide +kernel, sk_mem (i := 536) rfl rfl⟩
set_option maxRecDepth 100000 in
theorem sk_mf_148 : sk_sp 148 = false → sk_mf 148 = true ∧ sk_cw 148 ∈ sk_TB := fun _ => ⟨by decide +kernel, sk_mem (i := 316) rfl rfl⟩
set_option maxRecDepth 100000 in
theorem sk_mf_149 : sk_sp 149 = false → sk_mf 149 = true ∧ sk_cw 149 ∈ sk_TB := fun _ => ⟨by decide +kernel, sk_mem (i := 773) rfl rfl⟩
set_option maxRecDepth 100000 in
theorem sk_mf_150 : sk_sp 150 = false → sk_mf 150 = true ∧ sk_cw 150 ∈ sk_TB := fun _ => ⟨by decide +kernel, sk_mem (i := 1098) rfl rfl⟩
set_option maxRecDepth 100000 in
theorem sk_mf_151 : sk_sp 151 = false → sk_mf 151 = true ∧ sk_cw 151 ∈ sk_TB := fun _ => ⟨by decide +kernel, sk_mem (i := 1102) rfl rfl⟩
set_option maxRecDepth 100000 in
theorem sk_mf_152 : sk_sp 152 = false → sk_mf 152 = true ∧ sk_cw 152 ∈ sk_TB := fun _ => ⟨by decide +kernel, sk_mem (i := 456) rfl rfl⟩
set_option maxRecDepth 100000 in
theorem sk_mf_153 : sk_sp 153 = false → sk_mf 153 = true ∧ sk_cw 153 ∈ sk_TB := fun _ => ⟨by decide +kernel, sk_mem (i := 468) rfl rfl⟩
set_option maxRecDepth 100000 in
theorem sk_mf_154 : sk_sp 154 = false → sk_mf 154 = true ∧ sk_cw 154 ∈ sk_TB := fun _ => ⟨by decide +kernel, sk_mem (i := 464) rfl rfl⟩
set_option maxRecDepth 100000 in
theorem sk_mf_155 : sk_sp 155 = false → sk_mf 155 = true ∧ sk_cw 155 ∈ sk_TB := fun _ => ⟨by decide +kernel, sk_mem (i := 472) rfl rfl⟩
set_option maxRecDepth 100000 in
theorem sk_mf_156 : sk_sp 156 = false → sk_mf 156 = true ∧ sk_cw 156 ∈ sk_TB := fun _ => ⟨by decide +kernel, sk_mem (i := 484) rfl rfl⟩
set_option maxRecDepth 100000 in
theorem sk_mf_157 : sk_sp 157 = false → sk_mf 157 = true ∧ sk_cw 157 ∈ sk_TB := fun _ => ⟨by decide +kernel, sk_mem (i := 494) rfl rfl⟩
set_option maxRecDepth 100000 in
theorem sk_mf_158 : sk_sp 158 = false → sk_mf 158 = true ∧ sk_cw 158 ∈ sk_TB := fun _ => ⟨by decide +kernel, sk_mem (i := 500) rfl rfl⟩
set_option maxRecDepth 100000 in
theorem sk_mf_159 : sk_sp 159 = false → sk_mf 159 = true ∧ sk_cw 159 ∈ sk_TB := fun _ => ⟨by decide +kernel, sk_mem (i := 516) rfl rfl⟩
set_option maxRecDepth 100000 in
theorem sk_mf_160 : sk_sp 160 = false → sk_mf 160 = true ∧ sk_cw 160 ∈ sk_TB := fun _ => ⟨by decide +kernel, sk_mem (i := 504) rfl rfl⟩
set_option maxRecDepth 100000 in
theorem sk_mf_161 : sk_sp 161 = false → sk_mf 161 = true ∧ sk_cw 161 ∈ sk_TB := fun _ => ⟨by decide +kernel, sk_mem (i := 524) rfl rfl⟩
set_option maxRecDepth 100000 in
theorem sk_mf_162 : sk_sp 162 = false → sk_mf 162 = true ∧ sk_cw 162 ∈ sk_TB := fun _ => ⟨by decide +kernel, sk_mem (i := 508) rfl rfl⟩
set_option maxRecDepth 100000 in
theorem sk_mf_163 : sk_sp 163 = false → sk_mf 163 = true ∧ sk_cw 163 ∈ sk_TB := fun _ => ⟨by decide +kernel, sk_mem (i := 476) rfl rfl⟩
set_option maxRecDepth 100000 in
theorem sk_mf_164 : sk_sp 164 = false → sk_mf 164 = true ∧ sk_cw 164 ∈ sk_TB := fun _ => ⟨by decide +kernel, sk_mem (i := 488) rfl rfl⟩
set_option maxRecDepth 100000 in
theorem sk_mf_165 : sk_sp 165 = false → sk_mf 165 = true ∧ sk_cw 165 ∈ sk_TB := fun _ => ⟨by decide +kernel, sk_mem (i := 520) rfl rfl⟩
set_option maxRecDepth 100000 in
theorem sk_mf_166 : sk_sp 166 = false → sk_mf 166 = true ∧ sk_cw 166 ∈ sk_TB := fun _ => ⟨by decide +kernel, sk_mem (i := 480) rfl rfl⟩
set_option maxRecDepth 100000 in
theorem sk_mf_167 : sk_sp 167 = false → sk_mf 167 = true ∧ sk_cw 167 ∈ sk_TB := fun _ => ⟨by decide +kernel, sk_mem (i := 823) rfl rfl⟩
set_option maxRecDepth 100000 in
theorem sk_mf_168 : sk_sp 168 = false → sk_mf 168 = true ∧ sk_cw 168 ∈ sk_TB := fun _ => ⟨by decide +kernel, sk_mem (i := 406) rfl rfl⟩
set_option maxRecDepth 100000 in
theorem sk_mf_169 : sk_sp 169 = false → sk_mf 169 = true ∧ sk_cw 169 ∈ sk_TB := fun _ => ⟨by decide +kernel, sk_mem (i := 672) rfl rfl⟩
set_option maxRecDepth 100000 in
theorem sk_mf_170 : sk_sp 170 = false → sk_mf 170 = true ∧ sk_cw 170 ∈ sk_TB := fun _ => ⟨by decide +kernel, sk_mem (i := 412) rfl rfl⟩
set_option maxRecDepth 100000 in
theorem sk_mf_171 : sk_sp 171 = false → sk_mf 171 = true ∧ sk_cw 171 ∈ sk_TB := fun _ => ⟨by decide +kernel, sk_mem (i := 511) rfl rfl⟩
set_option maxRecDepth 100000 in
theorem sk_mf_172 : sk_sp 172 = false → sk_mf 172 = true ∧ sk_cw 172 ∈ sk_TB := fun _ => ⟨by decide +kernel, sk_mem (i := 606) rfl rfl⟩
set_option maxRecDepth 100000 in
theorem sk_mf_173 : sk_sp 173 = false → sk_mf 173 = true ∧ sk_cw 173 ∈ sk_TB := fun _ => ⟨by decide +kernel, sk_mem (i := 1118) rfl rfl⟩
set_option maxRecDepth 100000 in
theorem sk_mf_174 : sk_sp 174 = false → sk_mf 174 = true ∧ sk_cw 174 ∈ sk_TB := fun _ => ⟨by decide +kernel, sk_mem (i := 1181) rfl rfl⟩
set_option maxRecDepth 100000 in
theorem sk_mf_175 : sk_sp 175 = false → sk_mf 175 = true ∧ sk_cw 175 ∈ sk_TB := fun _ => ⟨by decide +kernel, sk_mem (i := 1199) rfl rfl⟩
set_option maxRecDepth 100000 in
theorem sk_mf_176 : sk_sp 176 = false → sk_mf 176 = true ∧ sk_cw 176 ∈ sk_TB := fun _ => ⟨by decide +kernel, sk_mem (i := 1194) rfl rfl⟩
set_option maxRecDepth 100000 in
theorem sk_mf_177 : sk_sp 177 = false → sk_mf 177 = true ∧ sk_cw 177 ∈ sk_TB := fun _ => ⟨by decide +kernel, sk_mem (i := 1207) rfl rfl⟩
set_option maxRecDepth 100000 in
theorem sk_mf_178 : sk_sp 178 = false → sk_mf 178 = true ∧ sk_cw 178 ∈ sk_TB := fun _ => ⟨by decide +kernel, sk_mem (i := 1188) rfl rfl⟩
set_option maxRecDepth 100000 in
theorem sk_mf_179 : sk_sp 179 = false → sk_mf 179 = true ∧ sk_cw 179 ∈ sk_TB := fun _ => ⟨by decide +kernel, sk_mem (i := 1225) rfl rfl⟩
set_option maxRecDepth 100000 in
theorem sk_mf_180 : sk_sp 180 = false → sk_mf 180 = true ∧ sk_cw 180 ∈ sk_TB := fun _ => ⟨by decide +kernel, sk_mem (i := 1222) rfl rfl⟩
set_option maxRecDepth 100000 in
theorem sk_mf_181 : sk_sp 181 = false → sk_mf 181 = true ∧ sk_cw 181 ∈ sk_TB := fun _ => ⟨by decide +kernel, sk_mem (i := 1300) rfl rfl⟩
set_option maxRecDepth 100000 in
theorem sk_mf_182 : sk_sp 182 = false → sk_mf 182 = true ∧ sk_cw 182 ∈ sk_TB := fun _ => ⟨by decide +kernel, sk_mem (i := 1211) rfl rfl⟩
set_option maxRecDepth 100000 in
theorem sk_mf_183 : sk_sp 183 = false → sk_mf 183 = true ∧ sk_cw 183 ∈ sk_TB := fun _ => ⟨by decide +kernel, sk_mem (i := 1285) rfl rfl⟩
set_option maxRecDepth 100000 in
theorem sk_mf_184 : sk_sp 184 = false → sk_mf 184 = true ∧ sk_cw 184 ∈ sk_TB := fun _ => ⟨by decide +kernel, sk_mem (i := 1203) rfl rfl⟩
set_option maxRecDepth 100000 in
theorem sk_mf_185 : sk_sp 185 = false → sk_mf 185 = true ∧ sk_cw 185 ∈ sk_TB := fun _ => ⟨by decide +kernel, sk_mem (i := 1245) rfl rfl⟩
set_option maxRecDepth 100000 in
theorem sk_mf_186 : sk_sp 186 = false → sk_mf 186 = true ∧ sk_cw 186 ∈ sk_TB := fun _ => ⟨by decide +kernel, sk_mem (i := 1281) rfl rfl⟩
set_option maxRecDepth 100000 in
theorem sk_mf_187 : sk_sp 187 = false → sk_mf 187 = true ∧ sk_cw 187 ∈ sk_TB := fun _ => ⟨by decide +kernel, sk_mem (i := 1237) rfl rfl⟩
set_option maxRecDepth 100000 in
theorem sk_mf_188 : sk_sp 188 = false → sk_mf 188 = true ∧ sk_cw 188 ∈ sk_TB := fun _ => ⟨by decide +kernel, sk_mem (i := 1229) rfl rfl⟩
set_option maxRecDepth 100000 in
theorem sk_mf_189 : sk_sp 189 = false → sk_mf 189 = true ∧ sk_cw 189 ∈ sk_TB := fun _ => ⟨by decide +kernel, sk_mem (i := 1219) rfl rfl⟩
set_option maxRecDepth 100000 in
theorem sk_mf_190 : sk_sp 190 = false → sk_mf 190 = true ∧ sk_cw 190 ∈ sk_TB := fun _ => ⟨by decide +kernel, sk_mem (i := 1249) rfl rfl⟩
set_option maxRecDepth 100000 in
theorem sk_mf_191 : sk_sp 191 = false → sk_mf 191 = true ∧ sk_cw 191 ∈ sk_TB := fun _ => ⟨by decide +kernel, sk_mem (i := 1215) rfl rfl⟩
set_option maxRecDepth 100000 in
theorem sk_mf_192 : sk_sp 192 = false → sk_mf 192 = true ∧ sk_cw 192 ∈ sk_TB := fun _ => ⟨by decide +kernel, sk_mem (i := 1185) rfl rfl⟩
set_option maxRecDepth 100000 in
theorem sk_mf_193 : sk_sp 193 = false → sk_mf 193 = true ∧ sk_cw 193 ∈ sk_TB := fun _ => ⟨by decide +kernel, sk_mem (i := 1233) rfl rfl⟩
set_option maxRecDepth 100000 in
theorem sk_mf_194 : sk_sp 194 = false → sk_mf 194 = true ∧ sk_cw 194 ∈ sk_TB := fun _ => ⟨by decide +kernel, sk_mem (i := 1241) rfl rfl⟩
set_option maxRecDepth 100000 in
theorem sk_mf_195 : sk_sp 195 = false → sk_mf 195 = true ∧ sk_cw 195 ∈ sk_TB := fun _ => ⟨by decide +kernel, sk_mem (i := 1253) rfl rfl⟩
set_option maxRecDepth 100000 in
theorem sk_mf_196 : sk_sp 196 = false → sk_mf 196 = true ∧ sk_cw 196 ∈ sk_TB := fun _ => ⟨by decide +kernel, sk_mem (i := 1257) rfl rfl⟩
set_option maxRecDepth 100000 in
theorem sk_mf_197 : sk_sp 197 = false → sk_mf 197 = true ∧ sk_cw 197 ∈ sk_TB := fun _ => ⟨by decide +kernel, sk_mem (i := 1262) rfl rfl⟩
set_option maxRecDepth 100000 in
theorem sk_mf_198 : sk_sp 198 = false → sk_mf 198 = true ∧ sk_cw 198 ∈ sk_TB := fun _ => ⟨by decide +kernel, sk_mem (i := 1315) rfl rfl⟩
set_option maxRecDepth 100000 in
theorem sk_mf_199 : sk_sp 199 = false → sk_mf 199 = true ∧ sk_cw 199 ∈ sk_TB := fun _ => ⟨by decide +kernel, sk_mem (i := 1319) rfl rfl⟩
set_option maxRecDepth 100000 in
theorem sk_mf_200 : sk_sp 200 = false → sk_mf 200 = true ∧ sk_cw 200 ∈ sk_TB := fun _ => ⟨by decide +kernel, sk_mem (i := 1307) rfl rfl⟩
set_option maxRecDepth 100000 in
theorem sk_mf_201 : sk_sp 201 = false → sk_mf 201 = true ∧ sk_cw 201 ∈ sk_TB := fun _ => ⟨by decide +kernel, sk_mem (i := 1304) rfl rfl⟩
set_option maxRecDepth 100000 in
theorem sk_mf_202 : sk_sp 202 = false → sk_mf 202 = true ∧ sk_cw 202 ∈ sk_TB := fun _ => ⟨by decide +kernel, sk_mem (i := 1311) rfl rfl⟩
set_option maxRecDepth 100000 in
theorem sk_mf_203 : sk_sp 203 = false → sk_mf 203 = true ∧ sk_cw 203 ∈ sk_TB := fun _ => ⟨by decide +kernel, sk_mem (i := 1297) rfl rfl⟩
set_option maxRecDepth 100000 in
theorem sk_mf_204 : sk_sp 204 = false → sk_mf 204 = true ∧ sk_cw 204 ∈ sk_TB := fun _ => ⟨by decide +kernel, sk_mem (i := 1277) rfl rfl⟩
set_option maxRecDepth 100000 in
theorem sk_mf_205 : sk_sp 205 = false → sk_mf 205 = true ∧ sk_cw 205 ∈ sk_TB := fun _ => ⟨by decide +kernel, sk_mem (i := 1293) rfl rfl⟩
set_option maxRecDepth 100000 in
theorem sk_mf_206 : sk_sp 206 = false → sk_mf 206 = true ∧ sk_cw 206 ∈ sk_TB := fun _ => ⟨by decide +kernel, sk_mem (i := 1323) rfl rfl⟩
set_option maxRecDepth 100000 in
theorem sk_mf_207 : sk_sp 207 = false → sk_mf 207 = true ∧ sk_cw 207 ∈ sk_TB := fun _ => ⟨by decide +kernel, sk_mem (i := 1289) rfl rfl⟩
set_option maxRecDepth 100000 in
theorem sk_mf_208 : sk_sp 208 = false → sk_mf 208 = true ∧ sk_cw 208 ∈ sk_TB := fun _ => ⟨by decide +kernel, sk_mem (i := 1273) rfl rfl⟩
set_option maxRecDepth 100000 in
theorem sk_mf_209 : sk_sp 209 = false → sk_mf 209 = true ∧ sk_cw 209 ∈ sk_TB := fun _ => ⟨by decide +kernel, sk_mem (i := 1327) rfl rfl⟩
set_option maxRecDepth 100000 in
theorem sk_mf_210 : sk_sp 210 = false → sk_mf 210 = true ∧ sk_cw 210 ∈ sk_TB := fun _ => ⟨by decide +kernel, sk_mem (i := 1331) rfl rfl⟩
set_option maxRecDepth 100000 in
theorem sk_mf_211 : sk_sp 211 = false → sk_mf 211 = true ∧ sk_cw 211 ∈ sk_TB := fun _ => ⟨by decide +kernel, sk_mem (i := 1344) rfl rfl⟩
set_option maxRecDepth 100000 in
theorem sk_mf_212 : sk_sp 212 = false → sk_mf 212 = true ∧ sk_cw 212 ∈ sk_TB := fun _ => ⟨by decide +kernel, sk_mem (i := 1339) rfl rfl⟩
set_option maxRecDepth 100000 in
theorem sk_mf_213 : sk_sp 213 = false → sk_mf 213 = true ∧ sk_cw 213 ∈ sk_TB := fun _ => ⟨by decide +kernel, sk_mem (i := 1335) rfl rfl⟩
set_option maxRecDepth 100000 in
theorem sk_mf_214 : sk_sp 214 = false → sk_mf 214 = true ∧ sk_cw 214 ∈ sk_TB := fun _ => ⟨by decide +kernel, sk_mem (i := 1269) rfl rfl⟩
set_option maxRecDepth 100000 in
theorem sk_mf_215 : sk_sp 215 = false → sk_mf 215 = true ∧ sk_cw 215 ∈ sk_TB := fun _ => ⟨by decide +kernel, sk_mem (i := 1348) rfl rfl⟩
set_option maxRecDepth 100000 in
theorem sk_mf_216 : sk_sp 216 = false → sk_mf 216 = true ∧ sk_cw 216 ∈ sk_TB := fun _ => ⟨by decide +kernel, sk_mem (i := 1352) rfl rfl⟩
set_option maxRecDepth 100000 in
theorem sk_mf_217 : sk_sp 217 = false → sk_mf 217 = true ∧ sk_cw 217 ∈ sk_TB := fun _ => ⟨by decide +kernel, sk_mem (i := 1365) rfl rfl⟩
set_option maxRecDepth 100000 in
theorem sk_mf_218 : sk_sp 218 = false → sk_mf 218 = true ∧ sk_cw 218 ∈ sk_TB := fun _ => ⟨by decide +kernel, sk_mem (i := 1361) rfl rfl⟩
set_option maxRecDepth 100000 in
theorem sk_mf_219 : sk_sp 219 = false → sk_mf 219 = true ∧ sk_cw 219 ∈ sk_TB := fun _ => ⟨by decide +kernel, sk_mem (i := 1356) rfl rfl⟩
set_option maxRecDepth 100000 in
theorem sk_mf_220 : sk_sp 220 = false → sk_mf 220 = true ∧ sk_cw 220 ∈ sk_TB := fun _ => ⟨by decide +kernel, sk_mem (i := 1369) rfl rfl⟩
set_option maxRecDepth 100000 in
theorem sk_mf_221 : sk_sp 221 = false → sk_mf 221 = true ∧ sk_cw 221 ∈ sk_TB := fun _ => ⟨by decide +kernel, sk_mem (i := 1378) rfl rfl⟩
set_option maxRecDepth 100000 in
theorem sk_mf_222 : sk_sp 222 = false → sk_mf 222 = true ∧ sk_cw 222 ∈ sk_TB := fun _ => ⟨by decide +kernel, sk_mem (i := 1374) rfl rfl⟩
set_option maxRecDepth 100000 in
theorem sk_mf_223 : sk_sp 223 = false → sk_mf 223 = true ∧ sk_cw 223 ∈ sk_TB := fun _ => ⟨by decide +kernel, sk_mem (i := 1386) rfl rfl⟩
set_option maxRecDepth 100000 in
theorem sk_mf_224 : sk_sp 224 = false → sk_mf 224 = true ∧ sk_cw 224 ∈ sk_TB := fun _ => ⟨by decide +kernel, sk_mem (i := 1382) rfl rfl⟩
set_option maxRecDepth 100000 in
theorem sk_mf_225 : sk_sp 225 = false → sk_mf 225 = true ∧ sk_cw 225 ∈ sk_TB := fun _ => ⟨by decide +kernel, sk_mem (i := 1394) rfl rfl⟩
set_option maxRecDepth 100000 in
theorem sk_mf_226 : sk_sp 226 = false → sk_mf 226 = true ∧ sk_cw 226 ∈ sk_TB := fun _ => ⟨by decide +kernel, sk_mem (i := 1390) rfl rfl⟩
set_option maxRecDepth 100000 in
theorem sk_mf_227 : sk_sp 227 = false → sk_mf 227 = true ∧ sk_cw 227 ∈ sk_TB := fun _ => ⟨by decide +kernel, sk_mem (i := 1403) rfl rfl⟩
set_option maxRecDepth 100000 in
theorem sk_mf_228 : sk_sp 228 = false → sk_mf 228 = true ∧ sk_cw 228 ∈ sk_TB := fun _ => ⟨by decide +kernel, sk_mem (i := 1398) rfl rfl⟩
set_option maxRecDepth 100000 in
theorem sk_mf_229 : sk_sp 229 = false → sk_mf 229 = true ∧ sk_cw 229 ∈ sk_TB := fun _ => ⟨by decide +kernel, sk_mem (i := 1407) rfl rfl⟩
set_option maxRecDepth 100000 in
theorem sk_mf_230 : sk_sp 230 = false → sk_mf 230 = true ∧ sk_cw 230 ∈ sk_TB := fun _ => ⟨by decide +kernel, sk_mem (i := 1411) rfl rfl⟩
set_option maxRecDepth 100000 in
theorem sk_mf_231 : sk_sp 231 = false → sk_mf 231 = true ∧ sk_cw 231 ∈ sk_TB := fun _ => ⟨by decide +kernel, sk_mem (i := 1415) rfl rfl⟩
set_option maxRecDepth 100000 in
theorem sk_mf_232 : sk_sp 232 = false → sk_mf 232 = true ∧ sk_cw 232 ∈ sk_TB := fun _ => ⟨by decide +kernel, sk_mem (i := 1419) rfl rfl⟩
set_option maxRecDepth 100000 in
theorem sk_mf_233 : sk_sp 233 = false → sk_mf 233 = true ∧ sk_cw 233 ∈ sk_TB := fun _ => ⟨by decide +kernel, sk_mem (i := 1427) rfl rfl⟩
set_option maxRecDepth 100000 in
theorem sk_mf_234 : sk_sp 234 = false → sk_mf 234 = true ∧ sk_cw 234 ∈ sk_TB := fun _ => ⟨by decide +kernel, sk_mem (i := 1423) rfl rfl⟩
set_option maxRecDepth 100000 in
theorem sk_mf_235 : sk_sp 235 = false → sk_mf 235 = true ∧ sk_cw 235 ∈ sk_TB := fun _ => ⟨by decide +kernel, sk_mem (i := 1431) rfl rfl⟩
set_option maxRecDepth 100000 in
theorem sk_mf_236 : sk_sp 236 = false → sk_mf 236 = true ∧ sk_cw 236 ∈ sk_TB := fun _ => ⟨by decide +kernel, sk_mem (i := 1435) rfl rfl⟩
set_option maxRecDepth 100000 in
theorem sk_mf_237 : sk_sp 237 = false → sk_mf 237 = true ∧ sk_cw 237 ∈ sk_TB := fun _ => ⟨by decide +kernel, sk_mem (i := 1439) rfl rfl⟩
set_option maxRecDepth 100000 in
theorem sk_mf_238 : sk_sp 238 = false → sk_mf 238 = true ∧ sk_cw 238 ∈ sk_TB := fun _ => ⟨by decide +kernel, sk_mem (i := 1444) rfl rfl⟩
set_option maxRecDepth 100000 in
theorem sk_mf_239 : sk_sp 239 = false → sk_mf 239 = true ∧ sk_cw 239 ∈ sk_TB := fun _ => ⟨by decide +kernel, sk_mem (i := 1460) rfl rfl⟩
set_option maxRecDepth 100000 in
theorem sk_mf_240 : sk_sp 240 = false → sk_mf 240 = true ∧ sk_cw 240 ∈ sk_TB := fun _ => ⟨by decide +kernel, sk_mem (i := 1456) rfl rfl⟩
set_option maxRecDepth 100000 in
theorem sk_mf_241 : sk_sp 241 = false → sk_mf 241 = true ∧ sk_cw 241 ∈ sk_TB := fun _ => ⟨by decide +kernel, sk_mem (i := 1469) rfl rfl⟩
set_option maxRecDepth 100000 in
theorem sk_mf_242 : sk_sp 242 = false → sk_mf 242 = true ∧ sk_cw 242 ∈ sk_TB := fun _ => ⟨by decide +kernel, sk_mem (i := 1464) rfl rfl⟩
set_option maxRecDepth 100000 in
theorem sk_mf_243 : sk_sp 243 = false → sk_mf 243 = true ∧ sk_cw 243 ∈ sk_TB := fun _ => ⟨by decide +kernel, sk_mem (i := 1484) rfl rfl⟩
set_option maxRecDepth 100000 in
theorem sk_mf_244 : sk_sp 244 = false → sk_mf 244 = true ∧ sk_cw 244 ∈ sk_TB := fun _ => ⟨by decide +kernel, sk_mem (i := 1480) rfl rfl⟩
set_option maxRecDepth 100000 in
theorem sk_mf_245 : sk_sp 245 = false → sk_mf 245 = true ∧ sk_cw 245 ∈ sk_TB := fun _ => ⟨by decide +kernel, sk_mem (i := 1452) rfl rfl⟩
set_option maxRecDepth 100000 in
theorem sk_mf_246 : sk_sp 246 = false → sk_mf 246 = true ∧ sk_cw 246 ∈ sk_TB := fun _ => ⟨by decide +kernel, sk_mem (i := 1490) rfl rfl⟩
set_option maxRecDepth 100000 in
theorem sk_mf_247 : sk_sp 247 = false → sk_mf 247 = true ∧ sk_cw 247 ∈ sk_TB := fun _ => ⟨by decide +kernel, sk_mem (i := 1448) rfl rfl⟩
set_option maxRecDepth 100000 in
theorem sk_mf_248 : sk_sp 248 = false → sk_mf 248 = true ∧ sk_cw 248 ∈ sk_TB := fun _ => ⟨by decide +kernel, sk_mem (i := 1502) rfl rfl⟩
set_option maxRecDepth 100000 in
theorem sk_mf_249 : sk_sp 249 = false → sk_mf 249 = true ∧ sk_cw 249 ∈ sk_TB := fun _ => ⟨by decide +kernel, sk_mem (i := 1506) rfl rfl⟩
theorem sk_mf_250 : sk_sp 250 = false → sk_mf 250 = true ∧ sk_cw 250 ∈ sk_TB := fun h => by cases h
theorem sk_mf_251 : sk_sp 251 = false → sk_mf 251 = true ∧ sk_cw 251 ∈ sk_TB := fun h => by cases h
set_option maxRecDepth 100000 in
theorem sk_mf_252 : sk_sp 252 = false → sk_mf 252 = true ∧ sk_cw 252 ∈ sk_TB := fun _ => ⟨by decide +kernel, sk_mem (i := 1018) rfl rfl⟩
theorem sk_mf_253 : sk_sp 253 = false → sk_mf 253 = true ∧ sk_cw 253 ∈ sk_TB := fun h => by cases h
set_option maxRecDepth 100000 in
theorem sk_mf_254 : sk_sp 254 = false → sk_mf 254 = true ∧ sk_cw 254 ∈ sk_TB := fun _ => ⟨by decide +kernel, sk_mem (i := 121) rfl rfl⟩
set_option maxRecDepth 100000 in
theorem sk_mf_255 : sk_sp 255 = false → sk_mf 255 = true ∧ sk_cw 255 ∈ sk_TB := fun _ => ⟨by decide +kernel, sk_mem (i := 131) rfl rfl⟩
set_option maxRecDepth 100000 in
theorem sk_mf_256 : sk_sp 256 = false → sk_mf 256 = true ∧ sk_cw 256 ∈ sk_TB := fun _ => ⟨by decide +kernel, sk_mem (i := 125) rfl rfl⟩
set_option maxRecDepth 100000 in
theorem sk_mf_257 : sk_sp 257 = false → sk_mf 257 = true ∧ sk_cw 257 ∈ sk_TB := fun _ => ⟨by decide +kernel, sk_mem (i := 135) rfl rfl⟩
set_option maxRecDepth 100000 in
theorem sk_mf_258 : sk_sp 258 = false → sk_mf 258 = true ∧ sk_cw 258 ∈ sk_TB := fun _ => ⟨by decide +kernel, sk_mem (i := 141) rfl rfl⟩
set_option maxRecDepth 100000 in
theorem sk_mf_259 : sk_sp 259 = false → sk_mf 259 = true ∧ sk_cw 259 ∈ sk_TB := fun _ => ⟨by decide +kernel, sk_mem (i := 138) rfl rfl⟩
set_option maxRecDepth 100000 in
theorem sk_mf_260 : sk_sp 260 = false → sk_mf 260 = true ∧ sk_cw 260 ∈ sk_TB := fun _ => ⟨by decide +kernel, sk_mem (i := 146) rfl rfl⟩
set_option maxRecDepth 100000 in
theorem sk_mf_all : ∀ m, m < 261 → sk_sp m = false → sk_mf m = true ∧ sk_cw m ∈ sk_TB :=
  lt_s (lt_s (lt_s (lt_s (lt_s (lt_s (lt_s (lt_s (lt_s (lt_s (lt_s (lt_s (lt_s (lt_s (lt_s (lt_s (lt_s (lt_s (lt_s (lt_s (lt_s (lt_s (lt_s (lt_s (lt_s (lt_s (lt_s (lt_s (lt_s (lt_s (lt_s (lt_s (lt_s (lt_s (lt_s (lt_s (lt_s (lt_s (lt_s (lt_s (lt_s (lt_s (lt_s (lt_s (lt_s (lt_s (lt_s (lt_s (lt_s (lt_s (lt_s (lt_s (lt_s (lt_s (lt_s (lt_s (lt_s (lt_s (lt_s (lt_s (lt_s (lt_s (lt_s (lt_s (lt_s (lt_s (lt_s (lt_s (lt_s (lt_s (lt_s (lt_s (lt_s (lt_s (lt_s (lt_s (lt_s (lt_s (lt_s (lt_s (lt_s (lt_s (lt_s (lt_s (lt_s (lt_s (lt_s (lt_s (lt_s (lt_s (lt_s (lt_s (lt_s (lt_s (lt_s (lt_s (lt_s (lt_s (lt_s (lt_s (lt_s (lt_s (lt_s (lt_s (lt_s (lt_s (lt_s (lt_s (lt_s (lt_s (lt_s (lt_s (lt_s (lt_s (lt_s (lt_s (lt_s (lt_s (lt_s (lt_s (lt_s (lt_s (lt_s (lt_s (lt_s (lt_s (lt_s (lt_s (lt_s (lt_s (lt_s (lt_s (lt_s (lt_s (lt_s (lt_s (lt_s (lt_s (lt_s (lt_s (lt_s (lt_s (lt_s (lt_s (lt_s (lt_s (lt_s (lt_s (lt_s (lt_s (lt_s (lt_s (lt_s (lt_s (lt_s (lt_s (lt_s (lt_s (lt_s (lt_s (lt_s (lt_s (lt_s (lt_s (lt_s (lt_s (lt_s (lt_s (lt_s (lt_s (lt_s (lt_s (lt_s (lt_s (lt_s (lt_s (lt_s (lt_s (lt_s (lt_s (lt_s (lt_s (lt_s (lt_s (lt_s (lt_s (lt_s (lt_s (lt_s (lt_s (lt_s (lt_s (lt_s (lt_s (lt_s (lt_s (lt_s (lt_s (lt_s (lt_s (lt_s (lt_s (lt_s (lt_s (lt_s (lt_s (lt_s (lt_s (lt_s (lt_s (lt_s (lt_s (lt_s (lt_s (lt_s (lt_s (lt_s (lt_s (lt_s (lt_s (lt_s (lt_s (lt_s (lt_s (lt_s (lt_s (lt_s (lt_s (lt_s (lt_s (lt_s (lt_s (lt_s (lt_s (lt_s (lt_s (lt_s (lt_s (lt_s (lt_s (lt_s (lt_s (lt_s (lt_s (lt_s (lt_s (lt_s (lt_s (lt_s (lt_s (lt_s (lt_s (lt_s (lt_s (lt_s (lt_s (lt_s (lt_s (lt_s (lt_s (lt_s (lt_0) sk_mf_0) sk_mf_1) sk_mf_2) sk_mf_3) sk_mf_4) sk_mf_5) sk_mf_6) sk_mf_7) sk_mf_8) sk_mf_9) sk_mf_10) sk_mf_11) sk_mf_12) sk_mf_13) sk_mf_14) sk_mf_15) sk_mf_16) sk_mf_17) sk_mf_18) sk_mf_19) sk_mf_20) sk_mf_21) sk_mf_22) sk_mf_23) sk_mf_24) sk_mf_25) sk_mf_26) sk_mf_27) sk_mf_28) sk_mf_29) sk_mf_30) sk_mf_31) sk_mf_32) sk_mf_33) sk_mf_34) sk_mf_35) sk_mf_36) sk_mf_37) sk_mf_38) sk_mf_39) sk_mf_40) sk_mf_41) sk_mf_42) sk_mf_43) sk_mf_44) sk_mf_45) sk_mf_46) sk_mf_47) sk_mf_48) sk_mf_49) sk_mf_50) sk_mf_51) sk_mf_52) sk_mf_53) sk_mf_54) sk_mf_55) sk_mf_56) sk_mf_57) sk_mf_58) sk_mf_59) sk_mf_60) sk_mf_61) sk_mf_62) sk_mf_63) sk_mf_64) sk_mf_65) sk_mf_66) sk_mf_67) sk_mf_68) sk_mf_69) sk_mf_70) sk_mf_71) sk_mf_72) sk_mf_73) sk_mf_74) sk_mf_75) sk_mf_76) sk_mf_77) sk_mf_78) sk_mf_79) sk_mf_80) sk_mf_81) sk_mf_82) sk_mf_83) sk_mf_84) sk_mf_85) sk_mf_86) sk_mf_87) sk_mf_88) sk_mf_89) sk_mf_90) sk_mf_91) sk_mf_92) sk_mf_93) sk_mf_94) sk_mf_95) sk_mf_96) sk_mf_97) sk_mf_98) sk_mf_99) sk_mf_100) sk_mf_101) sk_mf_102) sk_mf_103) sk_mf_104) sk_mf_105) sk_mf_106) sk_mf_107) sk_mf_108) sk_mf_109) sk_mf_110) sk_mf_111) sk_mf_112) sk_mf_113) sk_mf_114) sk_mf_115) sk_mf_116) sk_mf_117) sk_mf_118) sk_mf_119) sk_mf_120) sk_mf_121) sk_mf_122) sk_mf_123) sk_mf_124) sk_mf_125) sk_mf_126) sk_mf_127) sk_mf_128) sk_mf_129) sk_mf_130) sk_mf_131) sk_mf_132) sk_mf_133) sk_mf_134) sk_mf_135) sk_mf_136) sk_mf_137) sk_mf_138) sk_mf_139) sk_mf_140) sk_mf_141) sk_mf_142) sk_mf_143) sk_mf_144) sk_mf_145) sk_mf_146) sk_mf_147) sk_mf_148) sk_mf_149) sk_mf_150) sk_mf_151) sk_mf_152) sk_mf_153) sk_mf_154) sk_mf_155) sk_mf_156) sk_mf_157) sk_mf_158) sk_mf_159) sk_mf_160) sk_mf_161) sk_mf_162) sk_mf_163) sk_mf_164) sk_mf_165) sk_mf_166) sk_mf_167) sk_mf_168) sk_mf_169) sk_mf_170) sk_mf_171) sk_mf_172) sk_mf_173) sk_mf_174) sk_mf_175) sk_mf_176) sk_mf_177) sk_mf_178) sk_mf_179) sk_mf_180) sk_mf_181) sk_mf_182) sk_mf_183) sk_mf_184) sk_mf_185) sk_mf_186) sk_mf_187) sk_mf_188) sk_mf_189) sk_mf_190) sk_mf_191) sk_mf_192) sk_mf_193) sk_mf_194) sk_mf_195) sk_mf_196) sk_mf_197) sk_mf_198) sk_mf_199) sk_mf_200) sk_mf_201) sk_mf_202) sk_mf_203) sk_mf_204) sk_mf_205) sk_mf_206) sk_mf_207) sk_mf_208) sk_mf_209) sk_mf_210) sk_mf_211) sk_mf_212) sk_mf_213) sk_mf_214) sk_mf_215) sk_mf_216) sk_mf_217) sk_mf_218) sk_mf_219) sk_mf_220) sk_mf_221) sk_mf_222) sk_mf_223) sk_mf_224) sk_mf_225) sk_mf_226) sk_mf_227) sk_mf_228) sk_mf_229) sk_mf_230) sk_mf_231) sk_mf_232) sk_mf_233) sk_mf_234) sk_mf_235) sk_mf_236) sk_mf_237) sk_mf_238) sk_mf_239) sk_mf_240) sk_mf_241) sk_mf_242) sk_mf_243) sk_mf_244) sk_mf_245) sk_mf_246) sk_mf_247) sk_mf_248) sk_mf_249) sk_mf_250) sk_mf_251) sk_mf_252) sk_mf_253) sk_mf_254) sk_mf_255) sk_mf_256) sk_mf_257) sk_mf_258) sk_mf_259) sk_mf_260
def sk_nwL : List Cond := [(Cond.fieldLinkNest "StuckKeys$Speller" (94 : Nat) "StuckKeys$Book" "words" "LStuckKeys$Rows;" "StuckKeys"), (Cond.fieldLinkNest "StuckKeys" (132 : Nat) "StuckKeys$Book" "words" "LStuckKeys$Rows;" "StuckKeys"), (Cond.fieldLinkNest "StuckKeys" (122 : Nat) "StuckKeys$Book" "names" "LStuckKeys$Rows;" "StuckKeys"), (Cond.fieldLinkNest "StuckKeys$Speller" (66 : Nat) "StuckKeys$Book" "pairs" "LStuckKeys$Rows;" "StuckKeys"), (Cond.fieldLinkNest "StuckKeys" (135 : Nat) "StuckKeys$Book" "pairs" "LStuckKeys$Rows;" "StuckKeys"), (Cond.fieldLinkNest "StuckKeys" (142 : Nat) "StuckKeys$Book" "log" "LStuckKeys$Rows;" "StuckKeys"), (Cond.fieldLinkNest "StuckKeys" (237 : Nat) "StuckKeys$Script" "command" "LStuckKeys$Command;" "StuckKeys"), (Cond.fieldLinkNest "StuckKeys" (252 : Nat) "StuckKeys$Script" "firstWord" "J" "StuckKeys"), (Cond.fieldLinkNest "StuckKeys" (279 : Nat) "StuckKeys$Script" "secondWord" "J" "StuckKeys"), (Cond.fieldLinkNest "StuckKeys" (256 : Nat) "StuckKeys$Script" "firstNumber" "I" "StuckKeys"), (Cond.fieldLinkNest "StuckKeys" (273 : Nat) "StuckKeys$Script" "secondNumber" "I" "StuckKeys"), (Cond.fieldLinkNest "StuckKeys$Script" (84 : Nat) "StuckKeys$Command" "text" "Ljava/lang/String;" "StuckKeys"), (Cond.fieldLinkNest "StuckKeys$Script" (43 : Nat) "StuckKeys$Command" "words" "I" "StuckKeys"), (Cond.fieldLinkNest "StuckKeys$Script" (61 : Nat) "StuckKeys$Command" "numbers" "I" "StuckKeys"), (Cond.methodLinkNest "StuckKeys" (18 : Nat) ({ cls := "StuckKeys$Book", name := "<init>", desc := "()V" } : MethodName) "StuckKeys"), (Cond.methodLinkNest "StuckKeys$History" (15 : Nat) ({ cls := "StuckKeys$Book", name := "<init>", desc := "()V" } : MethodName) "StuckKeys"), (Cond.methodLinkNest "StuckKeys" (41 : Nat) ({ cls := "StuckKeys$Script", name := "<init>", desc := "()V" } : MethodName) "StuckKeys")]
def sk_nwT : List (List (Nat × Nat)) := [[], [(132, 1), (122, 2), (135, 4), (142, 5), (237, 6), (252, 7), (279, 8), (256, 9), (273, 10), (18, 14), (41, 16)], [], [], [], [(94, 0), (66, 3)], [], [(15, 15)], [(84, 11), (43, 12), (61, 13)], [], [], [], [], [], [], [], [], [], []]
def sk_nw (c idx : Nat) : Option Nat := (sk_nwT.getD c []).lookup idx
def sk_hMT : List (List (Nat × Nat)) := [[(93, 101), (171, 367), (181, 449), (185, 457), (192, 753), (99, 809), (7, 814), (108, 914), (17, 917), (112, 921), (21, 924), (115, 928), (24, 931), (118, 939), (27, 942), (122, 946), (31, 949), (125, 953), (34, 956), (128, 960), (38, 963), (132, 967), (42, 970), (136, 974), (46, 977), (139, 981), (49, 984), (143, 988), (53, 991), (146, 995), (57, 998), (149, 1002), (60, 1005), (152, 1022), (63, 1025), (156, 1029), (67, 1032), (159, 1040), (70, 1043), (162, 1051), (73, 1054), (165, 1059), (77, 1062), (168, 1070), (80, 1073), (175, 1077), (83, 1080), (178, 1088), (86, 1091), (189, 1103), (89, 1106), (96, 1116), (105, 1178), (104, 1182), (111, 1230), (114, 1238), (117, 1250), (121, 1254), (124, 1259), (127, 1266), (131, 1345), (135, 1349), (138, 1353), (142, 1366), (145, 1371), (148, 1379), (151, 1387), (155, 1395), (158, 1404), (161, 1408), (164, 1412), (167, 1416), (170, 1420), (174, 1428), (177, 1432), (180, 1436), (184, 1441), (188, 1445), (191, 1499), (195, 1503)], [(1, 104), (9, 109), (18, 194), (25, 254), (34, 298), (41, 314), (184, 371), (196, 453), (199, 461), (65, 525), (202, 546), (205, 547), (208, 548), (247, 554), (260, 560), (50, 564), (58, 567), (69, 583), (264, 611), (77, 615), (80, 623), (267, 627), (107, 631), (111, 649), (270, 666), (282, 670), (86, 675), (89, 678), (92, 681), (276, 686), (96, 690), (100, 697), (73, 701), (103, 705), (115, 749), (211, 758), (218, 762), (165, 766), (231, 770), (234, 774), (159, 782), (222, 783), (145, 787), (126, 788), (119, 789), (181, 798), (225, 799), (138, 802), (46, 818), (287, 821), (54, 891), (62, 895), (83, 935), (149, 1009), (153, 1010), (156, 1011), (162, 1012), (168, 1036), (171, 1047), (174, 1058), (178, 1066), (187, 1084), (190, 1095), (193, 1099), (212, 1110)], [(3, 112), (23, 114), (35, 118), (41, 128), (31, 168), (45, 172), (49, 176), (52, 1016)], [(3, 197), (11, 200), (42, 541), (50, 571), (54, 575), (46, 579), (71, 587), (61, 591), (65, 595), (75, 596), (79, 600), (58, 619), (114, 635), (111, 639), (117, 640), (121, 641), (86, 645), (99, 653), (83, 657), (124, 661), (93, 665), (90, 685), (96, 714), (103, 741), (107, 745), (136, 778), (128, 793), (133, 794)], [(3, 203), (9, 204), (32, 384), (59, 545), (49, 604), (55, 607), (38, 806), (42, 807), (45, 808)], [(3, 257), (21, 260), (70, 376), (87, 380), (109, 389), (106, 393), (28, 397), (62, 445), (32, 709), (51, 710), (38, 715), (41, 716), (76, 720), (79, 721), (83, 725), (90, 726), (47, 727), (97, 731), (103, 732), (55, 736), (58, 737)], [(3, 263), (35, 401), (53, 404), (59, 407), (64, 410), (39, 414), (68, 418), (72, 421), (43, 425), (46, 429), (50, 433), (78, 437), (83, 441)], [(1, 301), (15, 304), (20, 529), (23, 533), (27, 537)], [(3, 317), (25, 465), (28, 469), (32, 473), (100, 477), (35, 481), (77, 485), (88, 491), (92, 495), (96, 496), (48, 497), (104, 501), (113, 505), (107, 509), (64, 513), (116, 517), (74, 521)], [(11, 673), (19, 674)], [(1, 1119), (99, 1186), (57, 1192), (104, 1196), (107, 1200), (65, 1204), (69, 1208), (110, 1212), (85, 1216), (77, 1220), (61, 1223), (88, 1226), (113, 1234), (81, 1242), (117, 1246), (185, 1270), (170, 1274), (150, 1278), (73, 1282), (173, 1286), (158, 1290), (154, 1294), (129, 1298), (133, 1301), (136, 1305), (140, 1308), (143, 1312), (147, 1316), (162, 1320), (188, 1324), (176, 1328), (191, 1332), (195, 1336), (182, 1341), (203, 1358), (198, 1362), (209, 1375), (213, 1383), (216, 1391), (224, 1400), (227, 1424), (310, 1449), (261, 1453), (235, 1457), (274, 1461), (258, 1467), (278, 1478), (281, 1481), (314, 1487), (285, 1491), (288, 1492), (291, 1493), (294, 1494), (297, 1495), (301, 1496), (304, 1497), (307, 1498)], [], [], [], [], [(335, 122), (492, 132), (495, 136), (1059, 144)], [(9, 139)], [], []]
def sk_hM (c idx : Nat) : Nat := ((sk_hMT.getD c []).lookup idx).getD 0
theorem sk_lookup {β : Type} {i : Nat} {v : β} : ∀ {l : List (Nat × β)}, l.lookup i = some v → (i, v) ∈ l
  | [], h => by simp at h
  | (a, b) :: l, h => by
    rw [List.lookup_cons] at h
    by_cases e : (i == a) = true
    · rw [e] at h
      have e2 : i = a := by simpa using e
      cases h
      rw [e2]
      exact List.mem_cons_self
    · rw [Bool.not_eq_true] at e
      rw [e] at h
      exact List.mem_cons_of_mem _ (sk_lookup h)
/-- what stands behind a call's link -/
def sk_ml (c : Nat) (e : Nat × Nat) : Bool :=
  if e.2 = 999 then sk_isw (sk_hM c e.1) (.methodLink (sk_cn c) e.1 objectInit)
  else if e.2 = 253 then sk_isw (sk_hM c e.1) (.methodLink (sk_cn c) e.1 ⟨"StuckKeys$Command", "ordinal", "()I"⟩)
  else decide (e.2 < 261) && decide (e.2 ≠ 23) && (sk_sp e.2 == false || e.2 == 250 || e.2 == 251) && (match sk_nw c e.1 with
    | some j => decide (sk_nwL[j]? = some (.methodLinkNest (sk_cn c) e.1 (sk_nm e.2) "StuckKeys")) && decide (sk_kd e.2 = 2)
    | none => sk_isw (sk_hM c e.1) (.methodLink (sk_cn c) e.1 (sk_nm e.2)))
set_option maxRecDepth 100000 in
theorem sk_ml_all : ∀ c, c < 19 → ∀ e ∈ sk_lkMT.getD c [], sk_ml c e = true := by decide +kernel
def sk_hFT : List (List (Nat × Nat)) := [[], [(132, 223), (122, 225), (135, 228), (142, 232), (237, 323), (252, 325), (279, 327), (256, 329), (273, 331), (10, 351), (19, 352), (28, 353), (35, 354), (42, 355)], [(9, 180), (15, 181), (18, 182)], [(14, 221), (20, 224), (23, 226), (26, 229), (29, 230), (32, 231), (35, 233), (39, 234)], [(15, 207), (21, 208), (24, 209), (28, 210)], [(94, 222), (66, 227), (15, 286), (24, 287), (9, 288)], [(27, 264), (31, 265), (9, 266), (15, 267), (18, 268), (21, 269), (24, 270)], [(11, 305), (16, 306)], [(11, 318), (19, 319), (22, 320), (15, 321), (39, 322), (54, 324), (58, 326), (68, 328), (71, 330), (84, 1512), (43, 1513), (61, 1514)], [], [(7, 1123), (13, 1124), (96, 1125), (92, 1126), (47, 1127), (16, 1128), (20, 1129), (23, 1130), (26, 1131), (166, 1132), (29, 1133), (219, 1134), (232, 1135), (32, 1136), (35, 1137), (38, 1138), (271, 1139), (264, 1140)], [], [], [], [(7, 1515)], [(9, 1510), (15, 1511)], [], [], []]
def sk_hF (c idx : Nat) : Nat := ((sk_hFT.getD c []).lookup idx).getD 0
/-- fields of the constants: owner, name, descriptor -/
def sk_cfL : List (List (String × String × String)) := [[("java/lang/Enum", "ordinal", "I"), ("StuckKeys$Command", "text", "Ljava/lang/String;"), ("StuckKeys$Command", "words", "I"), ("StuckKeys$Command", "numbers", "I")], [("java/lang/String", "value", "[B"), ("java/lang/String", "coder", "B")]]
def sk_cf (c k : Nat) : Option (String × String × String) := (sk_cfL.getD (c - 20) [])[k]?
def sk_cty (c k : Nat) : Nat := (([[0, 2, 0, 0], [2, 4]] : List (List Nat)).getD (c - 20) []).getD k 0
def sk_fN (c k : Nat) : String × String × String := match sk_ow[c]? with
  | some r => ((r.2.1 k).1, (r.2.1 k).2.1, (r.2.1 k).2.2.1)
  | none => ("", "", "")
def sk_fFin (c k : Nat) : Bool := match sk_ow[c]? with
  | some r => (r.2.1 k).2.2.2
  | none => true
/-- what stands behind a field's link: own objects (c < 9), constants (20, 21) -/
def sk_fl (c : Nat) (e : Nat × Nat × Nat × Nat × Nat × Nat) : Bool := match e with
  | (idx, ci, k, t, fin, nest) =>
    (if ci < 9 then decide (k < (sk_tyL.getD ci []).length) && decide (t = sk_ty ci k) && decide (sk_fFin ci k = (fin == 1)) && decide (((sk_ow[ci]?).map (·.1)) = some (sk_fN ci k).1) &&
      (match nest with
        | 0 => sk_isw (sk_hF c idx) (.fieldLink (sk_cn c) idx (sk_fN ci k).1 (sk_fN ci k).2.1 (sk_fN ci k).2.2)
        | _ => (match sk_nw c idx with
          | some j => decide (sk_nwL[j]? = some (.fieldLinkNest (sk_cn c) idx (sk_fN ci k).1 (sk_fN ci k).2.1 (sk_fN ci k).2.2 "StuckKeys"))
          | none => false))
    else (match sk_cf ci k with
      | some q => decide (t = sk_cty ci k) && decide (ci = 20 ∨ ci = 21) && (match nest with
        | 0 => sk_isw (sk_hF c idx) (.fieldLink (sk_cn c) idx q.1 q.2.1 q.2.2)
        | _ => (match sk_nw c idx with
          | some j => decide (sk_nwL[j]? = some (.fieldLinkNest (sk_cn c) idx q.1 q.2.1 q.2.2 "StuckKeys"))
          | none => false))
      | none => false))
set_option maxRecDepth 100000 in
theorem sk_fl_all : ∀ c, c < 19 → ∀ e ∈ sk_lkFT.getD c [], sk_fl c e = true := by decide +kernel
def sk_hST : List (List (Nat × Nat)) := [[], [(241, 552), (304, 693), (307, 695)], [], [], [], [], [], [], [(80, 489)], [], [], [], [], [], [], [(38, 126), (1053, 142)], [], [], []]
def sk_hS (c idx : Nat) : Nat := ((sk_hST.getD c []).lookup idx).getD 0
/-- the static fields that are read -/
def sk_sfL : List (String × String × String) := [("StuckKeys", "LEAST_SETTINGS", "[I"), ("StuckKeys", "GREATEST_SETTINGS", "[I"), ("StuckKeys$Script", "COMMANDS", "[LStuckKeys$Command;"), ("StuckKeys$1", "$SwitchMap$StuckKeys$Command", "[I"), ("java/lang/String", "COMPACT_STRINGS", "Z"), ("jdk/internal/util/Preconditions", "SIOOBE_FORMATTER", "Ljava/util/function/BiFunction;")]
def sk_sl (c : Nat) (e : Nat × Nat) : Bool := match sk_sfL[e.2]? with
  | some q => sk_isw (sk_hS c e.1) (.fieldLink (sk_cn c) e.1 q.1 q.2.1 q.2.2)
  | none => false
theorem sk_sl_all : ∀ c, c < 19 → ∀ e ∈ sk_lkST.getD c [], sk_sl c e = true := by decide +kernel
def sk_hKT : List (List (Nat × Nat)) := [[(97, 1508)], [(216, 757), (229, 765)], [], [], [(36, 388)], [(45, 375)], [], [], [(52, 512)], [(15, 413), (17, 824)], [(41, 1120), (43, 1121), (45, 1122), (51, 1189), (53, 1190), (55, 1191), (102, 1195), (121, 1258), (123, 1263), (125, 1264), (127, 1265), (180, 1340), (201, 1357), (207, 1370), (222, 1399), (230, 1440), (254, 1465), (256, 1466), (238, 1470), (240, 1471), (242, 1472), (244, 1473), (246, 1474), (248, 1475), (250, 1476), (252, 1477), (267, 1485), (269, 1486), (317, 1507)], [], [], [], [], [], [], [], []]
def sk_hK (c idx : Nat) : Nat := ((sk_hKT.getD c []).lookup idx).getD 0
theorem sk_kl_all : ∀ c, c < 19 → ∀ e ∈ sk_lkKT.getD c [], sk_isw (sk_hK c e.1) (.constantLong (sk_cn c) e.1 e.2) = true := by decide +kernel
def sk_hIT : List (List (Nat × Nat)) := [[], [], [], [], [], [], [], [], [], [], [], [], [], [(265, 1019), (266, 1020), (267, 1021)], [], [], [], [], []]
def sk_hI (c idx : Nat) : Nat := ((sk_hIT.getD c []).lookup idx).getD 0
theorem sk_il_all : ∀ c, c < 19 → ∀ e ∈ sk_lkIT.getD c [], sk_isw (sk_hI c e.1) (.constant (sk_cn c) e.1 e.2) = true := by decide +kernel
def sk_hNT : List (List (Nat × Nat × Nat × Nat)) := [[(8, 99, 100, 77), (94, 1114, 1115, 90)], [(7, 107, 108, 78), (16, 192, 193, 83), (23, 252, 253, 86), (32, 296, 297, 88), (39, 312, 313, 89)], [], [(9, 198, 199, 84)], [], [(19, 258, 259, 87)], [], [(9, 302, 193, 83)], [], [], [], [], [], [], [], [], [], [], []]
def sk_hN (c idx : Nat) : Nat × Nat × Nat := ((sk_hNT.getD c []).lookup idx).getD (0, 0, 0)
def sk_nl (c : Nat) (e : Nat × Nat) : Bool := match sk_ow[e.2]?, sk_hN c e.1 with
  | some r, (a, b, d) => sk_isw a (.classLink (sk_cn c) e.1 r.1) && (sk_isw b (.instantiable r.1 r.2.2) && sk_isw d (.initialized r.1)) && decide (r.2.2 = (sk_tyL.getD e.2 []).length)
  | none, _ => false
theorem sk_nl_all : ∀ c, c < 19 → ∀ e ∈ sk_lkNT.getD c [], sk_nl c e = true := by decide +kernel
