def TBL : List Jvm.Cond := lw_tbl.filter goodWord
def isNest : Jvm.Cond → Bool
  | .methodLinkNest _ _ _ _ => true
  | .fieldLinkNest _ _ _ _ _ _ => true
  | _ => false
def NWS : List Jvm.Cond := tables_1.filter isNest
/-! THE WORDS of the methods, by their places (laid by wip/whole/mk77.py) -/
def mIdx : List (Nat × Nat × Nat × Nat) := [(592, 139, 591, 38), (596, 139, 595, 39), (616, 139, 615, 44), (604, 139, 603, 41), (608, 139, 607, 42), (600, 139, 599, 40), (623, 139, 622, 0), (620, 139, 619, 45), (637, 139, 636, 46), (697, 139, 696, 48), (700, 139, 699, 0), (692, 139, 691, 47), (706, 139, 705, 49), (711, 139, 710, 50), (716, 139, 715, 51), (722, 139, 721, 52), (989, 141, 988, 83), (993, 141, 992, 84), (997, 141, 996, 85), (1018, 141, 1017, 88), (1010, 141, 1009, 87), (1005, 141, 1004, 0), (1002, 141, 1001, 86), (859, 140, 858, 70), (855, 140, 854, 69), (864, 140, 863, 71), (868, 140, 867, 72), (879, 140, 878, 74), (392, 142, 391, 5), (388, 142, 387, 4), (413, 142, 412, 9), (446, 142, 445, 14), (376, 142, 375, 2), (396, 142, 395, 6), (418, 142, 417, 10), (422, 142, 421, 11), (434, 142, 433, 12), (612, 142, 611, 43), (400, 142, 399, 7), (405, 142, 404, 8), (587, 138, 586, 37), (442, 138, 441, 13), (505, 138, 504, 24), (509, 138, 508, 25), (462, 138, 461, 16), (518, 138, 517, 26), (494, 138, 493, 23), (530, 138, 529, 28), (1038, 138, 1037, 90), (458, 138, 457, 15), (566, 138, 565, 33), (553, 138, 552, 31), (557, 138, 556, 32), (766, 138, 765, 59), (774, 138, 773, 61), (570, 138, 569, 34), (579, 138, 578, 36), (575, 138, 574, 35), (541, 138, 540, 29), (545, 138, 544, 30), (522, 138, 521, 27), (731, 138, 730, 54), (872, 138, 871, 73), (742, 138, 741, 55), (964, 138, 963, 81), (829, 138, 828, 68), (482, 138, 481, 20), (474, 138, 473, 18), (478, 138, 477, 19), (490, 138, 489, 22), (486, 138, 485, 21), (726, 138, 725, 53), (751, 138, 750, 57), (757, 138, 756, 58), (770, 138, 769, 60), (747, 138, 746, 56), (816, 138, 815, 67), (778, 138, 777, 62), (783, 138, 782, 63), (789, 138, 788, 64), (794, 138, 793, 65), (890, 138, 889, 75), (894, 138, 893, 76), (976, 138, 975, 82), (364, 137, 362, 363), (380, 137, 378, 379), (409, 137, 407, 408), (430, 137, 428, 429), (438, 137, 436, 437), (450, 137, 448, 449), (454, 137, 452, 453), (470, 137, 469, 17), (498, 137, 496, 497), (513, 137, 511, 512), (526, 137, 524, 525), (534, 137, 532, 533), (537, 137, 536, 0), (549, 137, 547, 548), (562, 137, 560, 561), (583, 137, 581, 582), (799, 137, 797, 798), (803, 137, 801, 802), (808, 137, 806, 807), (821, 137, 819, 820), (825, 137, 823, 824), (833, 137, 831, 832), (838, 137, 836, 837), (842, 137, 840, 841), (846, 137, 844, 845), (851, 137, 849, 850), (883, 137, 881, 882), (901, 137, 899, 900), (905, 137, 903, 904), (910, 137, 908, 909), (914, 137, 913, 77), (918, 137, 917, 78), (923, 137, 921, 922), (926, 137, 925, 0), (931, 137, 929, 930), (943, 137, 941, 942), (948, 137, 946, 947), (935, 137, 934, 79), (939, 137, 938, 80), (952, 137, 950, 951), (956, 137, 954, 955), (960, 137, 958, 959), (968, 137, 966, 967), (972, 137, 970, 971), (981, 137, 979, 980), (985, 137, 983, 984), (1014, 137, 1012, 1013), (1022, 137, 1020, 1021), (1026, 137, 1024, 1025), (1030, 137, 1028, 1029), (372, 137, 371, 1), (1034, 137, 1033, 89), (368, 137, 367, 0), (384, 137, 383, 3), (812, 137, 811, 66), (886, 137, 885, 0), (501, 137, 500, 0), (466, 137, 465, 0), (1150, 143, 1149, 91), (1385, 143, 1384, 122), (1146, 143, 1145, 0), (1178, 143, 1177, 94), (1256, 143, 1255, 104), (1162, 143, 1161, 93), (1143, 143, 1141, 1142), (1158, 143, 1157, 92), (1154, 143, 1152, 1153), (1166, 143, 1164, 1165), (1170, 143, 1168, 1169), (1174, 143, 1172, 1173), (1182, 143, 1180, 1181), (1192, 143, 1191, 0), (1189, 143, 1188, 0), (1186, 143, 1184, 1185), (1200, 143, 1199, 96), (1196, 143, 1195, 95), (1204, 143, 1203, 97), (1208, 143, 1207, 98), (1259, 143, 1258, 0), (1216, 143, 1215, 99), (1212, 143, 1210, 1211), (1220, 143, 1218, 1219), (1224, 143, 1222, 1223), (1232, 143, 1231, 100), (1236, 143, 1235, 101), (1228, 143, 1226, 1227), (1244, 143, 1243, 102), (1248, 143, 1247, 103), (1240, 143, 1238, 1239), (1252, 143, 1250, 1251), (1275, 143, 1274, 107), (1286, 143, 1285, 109), (1280, 143, 1279, 108), (1295, 143, 1294, 111), (1290, 143, 1289, 110), (1319, 143, 1318, 115), (1271, 143, 1270, 106), (1263, 143, 1261, 1262), (1342, 143, 1340, 1341), (1311, 143, 1310, 113), (1397, 143, 1396, 123), (1315, 143, 1314, 114), (1307, 143, 1306, 112), (1327, 143, 1326, 117), (1333, 143, 1332, 118), (1323, 143, 1322, 116), (1346, 143, 1344, 1345), (1357, 143, 1356, 120), (1353, 143, 1352, 0), (1350, 143, 1348, 1349), (1361, 143, 1359, 1360), (1369, 143, 1368, 121), (1365, 143, 1363, 1364), (1373, 143, 1371, 1372), (1377, 143, 1375, 1376), (1381, 143, 1379, 1380), (1389, 143, 1387, 1388), (1393, 143, 1391, 1392), (1416, 143, 1415, 126), (1412, 143, 1411, 125), (1408, 143, 1407, 124), (1404, 143, 1403, 0), (1401, 143, 1399, 1400), (1424, 143, 1423, 127), (1420, 143, 1418, 1419), (1428, 143, 1426, 1427), (1432, 143, 1430, 1431), (1440, 143, 1439, 128), (1436, 143, 1434, 1435), (1448, 143, 1447, 129), (1452, 143, 1451, 130), (1444, 143, 1442, 1443), (1456, 143, 1454, 1455), (1460, 143, 1458, 1459), (1464, 143, 1462, 1463), (1468, 143, 1466, 1467), (1472, 143, 1470, 1471), (1476, 143, 1474, 1475), (1484, 143, 1483, 131), (1480, 143, 1478, 1479), (1489, 143, 1487, 1488), (1501, 143, 1500, 133), (1497, 143, 1496, 132), (1505, 143, 1504, 134), (1509, 143, 1508, 135), (1493, 143, 1491, 1492), (1513, 143, 1511, 1512), (1267, 143, 1266, 105), (1338, 143, 1337, 119), (1517, 143, 1515, 1516), (1521, 143, 1519, 1520), (1525, 143, 1523, 1524), (735, 150, 734, 0)]
def lIdx : List Nat := [605, 613, 473, 601, 617, 689, 694, 703, 708, 713, 719, 621, 634, 698, 565, 557, 566, 571, 576, 581, 582, 587, 608, 998, 999, 1003, 870, 1007, 856, 724, 861, 865, 738, 739, 733, 414, 423, 401, 402, 463, 459, 328, 558, 571, 732, 733, 743, 759, 475, 479, 727, 728, 739, 752, 753, 754, 767, 771, 763, 748, 775, 780, 786, 791, 817, 779, 784, 790, 891, 895, 896, 365, 369, 237, 381, 257, 261, 249, 274, 253, 279, 283, 295, 303, 307, 319, 467, 335, 347, 351, 355, 499, 366, 370, 378, 379, 383, 391, 535, 402, 406, 414, 418, 427, 431, 436, 440, 448, 453, 457, 461, 668, 809, 690, 698, 711, 677, 716, 740, 884, 751, 761, 911, 915, 924, 791, 932, 936, 808, 825, 837, 850, 854, 858, 879, 1031, 899, 903, 1147, 1144, 1159, 1155, 1175, 1190, 1187, 1193, 1201, 1205, 1197, 1213, 1229, 1233, 1241, 1245, 1253, 1257, 1272, 1283, 1277, 1287, 1292, 1304, 1316, 1320, 1264, 1268, 1335, 1308, 1312, 1330, 1324, 1351, 1354, 1366, 1382, 1394, 1413, 1409, 1402, 1405, 1421, 1437, 1445, 1449, 1481, 1498, 1494, 1502, 1506, 361, 1140, 377, 1151, 406, 1163, 427, 1167, 435, 1171, 447, 1179, 451, 1183, 495, 1209, 510, 1217, 523, 1221, 531, 1225, 546, 1237, 559, 1249, 580, 1260, 796, 1339, 800, 1343, 805, 1347, 818, 1358, 822, 1362, 830, 1370, 835, 1374, 839, 1378, 843, 1386, 848, 1390, 880, 1398, 898, 1417, 902, 1425, 907, 1429, 920, 1433, 928, 1441, 940, 1453, 945, 1457, 949, 1461, 953, 1465, 957, 1469, 965, 1473, 969, 1477, 978, 1486, 982, 1490, 1011, 1510, 1019, 1514, 1023, 1518, 1027, 1522]
/-- a method's code, as the tables have it -/
def mCodeW (k : Nat) : Jvm.Cond := match mIdx[k]? with
  | some q => (lw_tbl[q.1]?).getD (.initialized "")
  | none => .initialized ""
def mBytes (k : Nat) : ByteArray := match mCodeW k with
  | .code _ b _ _ => b
  | _ => ⟨#[]⟩
def atW (i : Nat) (q : Jvm.Cond) : Bool := decide (lw_tbl[i]? = some q) && goodWord q
theorem atW_in {i : Nat} {q : Jvm.Cond} (h : atW i q = true) : q ∈ TBL := by
  unfold atW at h
  rw [Bool.and_eq_true, decide_eq_true_eq] at h
  exact List.mem_filter.mpr ⟨List.mem_of_getElem? h.1, h.2⟩
def atN (i : Nat) (q : Jvm.Cond) : Bool := decide (tables_1[i]? = some q) && isNest q
theorem atN_in {i : Nat} {q : Jvm.Cond} (h : atN i q = true) : q ∈ NWS := by
  unfold atN at h
  rw [Bool.and_eq_true, decide_eq_true_eq] at h
  exact List.mem_filter.mpr ⟨List.mem_of_getElem? h.1, h.2⟩
def mChk (k : Nat) : Bool := match mIdx[k]? with
  | some (_, b, c, d) => (match mCodeW k with | .code y _ n r => decide (y = mName k ∧ n = maxLA k ∧ r = mRet k) | _ => false) && atW b (.initialized (mName k).cls) && (if mStat k then atW c (.static (mName k)) else atW c (.instanceMethod (mName k)) && atW d (.selects (mName k).cls (mName k) (mName k)))
  | none => false
def lChk (i : Nat) : Bool := match MLT[i]?, lIdx[i]? with
  | some q, some a => if q.2.2.2 then atN a (.methodLinkNest q.1 q.2.1 (mName q.2.2.1) "PaidInFog") else atW a (.methodLink q.1 q.2.1 (mName q.2.2.1))
  | _, _ => false
def rngB (f : Nat → Bool) (b : Nat) : Nat → Bool
  | 0 => true
  | n + 1 => f (b + n) && rngB f b n
theorem rngB_at {f : Nat → Bool} {b : Nat} : ∀ {n : Nat}, rngB f b n = true → ∀ k, b ≤ k → k < b + n → f k = true
  | 0, _, k, h1, h2 => by omega
  | n + 1, h, k, h1, h2 => by
    simp only [rngB, Bool.and_eq_true] at h
    by_cases hk : k = b + n
    · rw [hk]; exact h.1
    · exact rngB_at h.2 k h1 (by omega)
set_option maxRecDepth 20000 in
theorem mChk_0 : rngB mChk 0 20 = true := by decide +kernel
set_option maxRecDepth 20000 in
theorem mChk_20 : rngB mChk 20 20 = true := by decide +kernel
set_option maxRecDepth 20000 in
theorem mChk_40 : rngB mChk 40 20 = true := by decide +kernel
set_option maxRecDepth 20000 in
theorem mChk_60 : rngB mChk 60 20 = true := by decide +kernel
set_option maxRecDepth 20000 in
theorem mChk_80 : rngB mChk 80 20 = true := by decide +kernel
set_option maxRecDepth 20000 in
theorem mChk_100 : rngB mChk 100 20 = true := by decide +kernel
set_option maxRecDepth 20000 in
theorem mChk_120 : rngB mChk 120 20 = true := by decide +kernel
set_option maxRecDepth 20000 in
theorem mChk_140 : rngB mChk 140 20 = true := by decide +kernel
set_option maxRecDepth 20000 in
theorem mChk_160 : rngB mChk 160 20 = true := by decide +kernel
set_option maxRecDepth 20000 in
theorem mChk_180 : rngB mChk 180 20 = true := by decide +kernel
set_option maxRecDepth 20000 in
theorem mChk_200 : rngB mChk 200 20 = true := by decide +kernel
set_option maxRecDepth 20000 in
theorem mChk_220 : rngB mChk 220 17 = true := by decide +kernel
theorem mChk_all : ∀ k, k < nMeth → mChk k = true := by
  intro k hk
  unfold nMeth at hk
  by_cases h0 : k < 20
  · exact rngB_at mChk_0 k (by omega) (by omega)
  by_cases h20 : k < 40
  · exact rngB_at mChk_20 k (by omega) (by omega)
  by_cases h40 : k < 60
  · exact rngB_at mChk_40 k (by omega) (by omega)
  by_cases h60 : k < 80
  · exact rngB_at mChk_60 k (by omega) (by omega)
  by_cases h80 : k < 100
  · exact rngB_at mChk_80 k (by omega) (by omega)
  by_cases h100 : k < 120
  · exact rngB_at mChk_100 k (by omega) (by omega)
  by_cases h120 : k < 140
  · exact rngB_at mChk_120 k (by omega) (by omega)
  by_cases h140 : k < 160
  · exact rngB_at mChk_140 k (by omega) (by omega)
  by_cases h160 : k < 180
  · exact rngB_at mChk_160 k (by omega) (by omega)
  by_cases h180 : k < 200
  · exact rngB_at mChk_180 k (by omega) (by omega)
  by_cases h200 : k < 220
  · exact rngB_at mChk_200 k (by omega) (by omega)
  by_cases h220 : k < 237
  · exact rngB_at mChk_220 k (by omega) (by omega)
  omega
set_option maxRecDepth 20000 in
theorem lChk_0 : rngB lChk 0 25 = true := by decide +kernel
set_option maxRecDepth 20000 in
theorem lChk_25 : rngB lChk 25 25 = true := by decide +kernel
set_option maxRecDepth 20000 in
theorem lChk_50 : rngB lChk 50 25 = true := by decide +kernel
set_option maxRecDepth 20000 in
theorem lChk_75 : rngB lChk 75 25 = true := by decide +kernel
set_option maxRecDepth 20000 in
theorem lChk_100 : rngB lChk 100 25 = true := by decide +kernel
set_option maxRecDepth 20000 in
theorem lChk_125 : rngB lChk 125 25 = true := by decide +kernel
set_option maxRecDepth 20000 in
theorem lChk_150 : rngB lChk 150 25 = true := by decide +kernel
set_option maxRecDepth 20000 in
theorem lChk_175 : rngB lChk 175 25 = true := by decide +kernel
set_option maxRecDepth 20000 in
theorem lChk_200 : rngB lChk 200 25 = true := by decide +kernel
set_option maxRecDepth 20000 in
theorem lChk_225 : rngB lChk 225 25 = true := by decide +kernel
set_option maxRecDepth 20000 in
theorem lChk_250 : rngB lChk 250 25 = true := by decide +kernel
set_option maxRecDepth 20000 in
theorem MLT_len : MLT.length = 275 := by decide +kernel
theorem lChk_all : ∀ i, i < 275 → lChk i = true := by
  intro k hk
  by_cases h0 : k < 25
  · exact rngB_at lChk_0 k (by omega) (by omega)
  by_cases h25 : k < 50
  · exact rngB_at lChk_25 k (by omega) (by omega)
  by_cases h50 : k < 75
  · exact rngB_at lChk_50 k (by omega) (by omega)
  by_cases h75 : k < 100
  · exact rngB_at lChk_75 k (by omega) (by omega)
  by_cases h100 : k < 125
  · exact rngB_at lChk_100 k (by omega) (by omega)
  by_cases h125 : k < 150
  · exact rngB_at lChk_125 k (by omega) (by omega)
  by_cases h150 : k < 175
  · exact rngB_at lChk_150 k (by omega) (by omega)
  by_cases h175 : k < 200
  · exact rngB_at lChk_175 k (by omega) (by omega)
  by_cases h200 : k < 225
  · exact rngB_at lChk_200 k (by omega) (by omega)
  by_cases h225 : k < 250
  · exact rngB_at lChk_225 k (by omega) (by omega)
  by_cases h250 : k < 275
  · exact rngB_at lChk_250 k (by omega) (by omega)
  omega
theorem mCode_in {k : Nat} {q : Nat × Nat × Nat × Nat} (hq : mIdx[k]? = some q) (h : (match mCodeW k with | .code y _ n r => decide (y = mName k ∧ n = maxLA k ∧ r = mRet k) | _ => false) = true) : Jvm.Cond.code (mName k) (mBytes k) (maxLA k) (mRet k) ∈ TBL := by
  split at h
  · next y b n r he =>
    rw [decide_eq_true_eq] at h
    obtain ⟨rfl, rfl, rfl⟩ := h
    have hb : mBytes k = b := by unfold mBytes; rw [he]
    rw [hb]
    unfold mCodeW at he
    rw [hq] at he
    simp only at he
    cases hl : lw_tbl[q.1]? with
    | none => rw [hl] at he; cases he
    | some z =>
      rw [hl] at he
      simp only [Option.getD_some] at he
      subst he
      exact List.mem_filter.mpr ⟨List.mem_of_getElem? hl, rfl⟩
  · cases h
theorem mChk_spec {k : Nat} (hk : k < nMeth) : Jvm.Cond.code (mName k) (mBytes k) (maxLA k) (mRet k) ∈ TBL ∧ Jvm.Cond.initialized (mName k).cls ∈ TBL ∧ (mStat k = true → Jvm.Cond.static (mName k) ∈ TBL) ∧ (mStat k = false → Jvm.Cond.instanceMethod (mName k) ∈ TBL ∧ Jvm.Cond.selects (mName k).cls (mName k) (mName k) ∈ TBL) := by
  have h := mChk_all k hk
  unfold mChk at h
  split at h
  · rw [Bool.and_eq_true, Bool.and_eq_true] at h
    obtain ⟨⟨h1, h2⟩, h3⟩ := h
    refine ⟨mCode_in (by assumption) h1, atW_in h2, fun hs => ?_, fun hs => ?_⟩
    · rw [if_pos hs] at h3
      exact atW_in h3
    · rw [if_neg (by rw [hs]; decide), Bool.and_eq_true] at h3
      exact ⟨atW_in h3.1, atW_in h3.2⟩
  · cases h
theorem MLT_ok {i : Nat} {q : String × Nat × Nat × Bool} (hq : MLT[i]? = some q) : (q.2.2.2 = true → Jvm.Cond.methodLinkNest q.1 q.2.1 (mName q.2.2.1) "PaidInFog" ∈ NWS) ∧ (q.2.2.2 = false → Jvm.Cond.methodLink q.1 q.2.1 (mName q.2.2.1) ∈ TBL) := by
  have hi : i < 275 := by rw [← MLT_len]; exact (List.getElem?_eq_some_iff.mp hq).1
  have h := lChk_all i hi
  unfold lChk at h
  rw [hq] at h
  split at h
  · next he1 he2 =>
    cases he1
    refine ⟨fun hs => ?_, fun hs => ?_⟩
    · rw [if_pos hs] at h; exact atN_in h
    · rw [if_neg (by rw [hs]; decide)] at h; exact atW_in h
  · cases h
