abbrev am_fl : List (Nat × Nat × Nat × Nat) := [(10, 9, 10, 0), (10, 15, 10, 1), (10, 18, 10, 2), (10, 21, 10, 3), (10, 28, 10, 4), (11, 107, 10, 5), (10, 24, 10, 5), (7, 9, 7, 0), (7, 15, 7, 1), (7, 18, 7, 2), (7, 21, 7, 3), (7, 24, 7, 4), (7, 27, 7, 5), (7, 30, 7, 6), (6, 59, 7, 6), (7, 34, 7, 7), (6, 49, 7, 7), (1, 56, 7, 7), (11, 141, 7, 7), (7, 37, 7, 8), (6, 69, 7, 8), (11, 378, 7, 8), (6, 22, 6, 0), (6, 9, 6, 1), (6, 34, 6, 2), (6, 18, 6, 3), (11, 127, 6, 3), (8, 9, 8, 0), (9, 57, 8, 0), (11, 148, 8, 0), (8, 15, 8, 1), (11, 162, 8, 1), (8, 18, 8, 2), (11, 165, 8, 2), (8, 21, 8, 3), (9, 46, 8, 3), (11, 168, 8, 3), (8, 24, 8, 4), (9, 60, 8, 4), (11, 171, 8, 4), (8, 27, 8, 5), (9, 39, 8, 5), (4, 137, 8, 5), (8, 30, 8, 6), (9, 34, 8, 6), (4, 80, 8, 6), (11, 186, 8, 6), (8, 33, 8, 7), (1, 64, 8, 7), (11, 151, 8, 7), (8, 37, 8, 8), (11, 177, 8, 8), (3, 9, 3, 0), (4, 62, 3, 0), (9, 101, 3, 0), (11, 384, 3, 0), (3, 15, 3, 1), (5, 65, 3, 1), (4, 104, 3, 1), (3, 18, 3, 2), (4, 101, 3, 2), (9, 104, 3, 2), (11, 393, 3, 2), (3, 21, 3, 3), (11, 222, 3, 3), (3, 24, 3, 4), (5, 47, 3, 4), (11, 265, 3, 4), (3, 28, 3, 5), (3, 31, 3, 6), (3, 44, 3, 7), (5, 42, 3, 7), (0, 42, 3, 7), (9, 98, 3, 7), (4, 127, 3, 7), (11, 203, 3, 7), (3, 34, 3, 8), (2, 19, 3, 8), (0, 16, 3, 8), (4, 48, 3, 8), (11, 225, 3, 8), (3, 38, 3, 9), (2, 25, 3, 9), (0, 23, 3, 9), (4, 51, 3, 9), (11, 228, 3, 9), (0, 27, 3, 10), (4, 44, 3, 10), (3, 53, 3, 10), (11, 231, 3, 10), (3, 56, 3, 11), (4, 74, 3, 11), (0, 47, 3, 11), (2, 96, 3, 11), (11, 234, 3, 11), (2, 28, 3, 12), (0, 31, 3, 12), (3, 59, 3, 12), (4, 113, 3, 12), (11, 237, 3, 12), (3, 41, 3, 13), (0, 35, 3, 13), (4, 116, 3, 13), (11, 240, 3, 13), (9, 22, 9, 0), (9, 26, 9, 1), (9, 30, 9, 2), (9, 9, 9, 3), (9, 90, 9, 4), (9, 15, 9, 5), (11, 259, 9, 5), (9, 118, 9, 6), (11, 329, 9, 6), (9, 18, 9, 7), (11, 332, 9, 7), (4, 18, 4, 0), (4, 22, 4, 1), (4, 26, 4, 2), (4, 9, 4, 3), (4, 15, 4, 4), (4, 83, 4, 5), (4, 86, 4, 6), (4, 89, 4, 7), (4, 92, 4, 8), (5, 30, 5, 0), (5, 34, 5, 1), (5, 9, 5, 2), (5, 15, 5, 3), (5, 18, 5, 4), (5, 21, 5, 5), (5, 24, 5, 6), (5, 27, 5, 7), (2, 83, 5, 7), (11, 390, 5, 7), (5, 38, 5, 8), (2, 56, 5, 8), (11, 275, 5, 8), (2, 9, 2, 0), (2, 15, 2, 1), (2, 59, 2, 2), (11, 293, 2, 2), (2, 62, 2, 3), (11, 296, 2, 3), (2, 65, 2, 4), (11, 299, 2, 4), (2, 68, 2, 5), (11, 302, 2, 5), (2, 31, 2, 6), (11, 305, 2, 6), (2, 99, 2, 7), (11, 322, 2, 7), (2, 102, 2, 8), (11, 323, 2, 8), (2, 34, 2, 9), (1, 31, 1, 0), (1, 35, 1, 1), (1, 39, 1, 2), (1, 9, 1, 3), (1, 15, 1, 4), (1, 19, 1, 5), (1, 22, 1, 6), (1, 25, 1, 7), (1, 43, 1, 8), (1, 47, 1, 9), (1, 69, 1, 10), (1, 61, 1, 11), (1, 28, 1, 12), (11, 355, 1, 12), (1, 53, 1, 13), (11, 352, 1, 13), (1, 50, 1, 14), (11, 349, 1, 14), (0, 7, 0, 0), (11, 371, 0, 0), (0, 13, 0, 1), (11, 137, 0, 1), (0, 22, 0, 2), (0, 26, 0, 3), (0, 30, 0, 4), (0, 34, 0, 5), (0, 38, 0, 6), (0, 39, 0, 7), (11, 9, 11, 0), (11, 16, 11, 1), (11, 25, 11, 2), (11, 32, 11, 3), (11, 39, 11, 4), (11, 46, 11, 5), (11, 50, 11, 6), (11, 53, 11, 7), (11, 62, 11, 8), (11, 69, 11, 9), (11, 78, 11, 10), (11, 87, 11, 11), (11, 96, 11, 12), (11, 103, 11, 13), (12, 7, 12, 0), (12, 13, 12, 1), (12, 16, 12, 2), (12, 19, 12, 3), (12, 22, 12, 4), (12, 25, 12, 5), (12, 28, 12, 6), (12, 31, 12, 7), (12, 203, 12, 8), (12, 214, 12, 9), (12, 34, 12, 10), (12, 37, 12, 11), (12, 40, 12, 12), (12, 43, 12, 13), (12, 46, 12, 14), (12, 49, 12, 15), (12, 52, 12, 16), (12, 220, 12, 17), (12, 55, 12, 18), (12, 59, 12, 19), (12, 242, 12, 20), (12, 249, 12, 21), (12, 254, 12, 22), (12, 62, 12, 23), (12, 65, 12, 24), (12, 282, 12, 25), (12, 292, 12, 26), (12, 289, 12, 27), (12, 299, 12, 28), (12, 71, 12, 29), (12, 74, 12, 30), (12, 77, 12, 31), (12, 80, 12, 32), (12, 84, 12, 33), (12, 87, 12, 34), (12, 90, 12, 35), (12, 93, 12, 36), (12, 96, 12, 37), (12, 109, 12, 38), (12, 137, 12, 39), (12, 362, 12, 40), (12, 140, 12, 41), (12, 143, 12, 42), (12, 379, 12, 43), (12, 146, 12, 44), (12, 149, 12, 45), (12, 153, 12, 46), (12, 401, 12, 47), (12, 404, 12, 48), (12, 407, 12, 49), (12, 428, 12, 50), (12, 156, 12, 51), (12, 431, 12, 52), (12, 159, 12, 53), (12, 162, 12, 54), (12, 165, 12, 55), (12, 168, 12, 56), (12, 461, 12, 57), (12, 458, 12, 58), (12, 171, 12, 59), (12, 490, 12, 60), (12, 174, 12, 61), (12, 177, 12, 62), (12, 496, 12, 63)]
def am_flw (z : Nat × Nat × Nat × Nat) : Cond := .fieldLink (am_cn z.1) z.2.1 (am_F z.2.2.1 z.2.2.2).1 (am_F z.2.2.1 z.2.2.2).2.1 (am_F z.2.2.1 z.2.2.2).2.2.1
set_option maxRecDepth 100000 in
theorem am_fl_ok : ∀ z ∈ am_fl, am_flw z ∈ am_gt := fun z hz => am_in_r (am_fl.map am_flw) [35, 36, 37, 38, 39, 40, 41, 68, 69, 70, 71, 72, 73, 74, 75, 76, 77, 78, 79, 80, 81, 82, 102, 103, 104, 105, 106, 124, 125, 126, 127, 128, 129, 130, 131, 132, 133, 134, 135, 136, 137, 138, 139, 140, 141, 142, 143, 144, 145, 146, 147, 148, 174, 175, 176, 177, 178, 179, 180, 181, 182, 183, 184, 185, 186, 187, 188, 189, 190, 191, 192, 193, 194, 195, 196, 197, 198, 199, 200, 201, 202, 203, 204, 205, 206, 207, 208, 209, 210, 211, 212, 213, 214, 215, 216, 217, 218, 219, 220, 221, 222, 223, 224, 225, 263, 264, 265, 266, 267, 268, 269, 270, 271, 272, 273, 297, 298, 299, 300, 301, 302, 303, 304, 305, 331, 332, 333, 334, 335, 336, 337, 338, 339, 340, 341, 342, 343, 369, 370, 371, 372, 373, 374, 375, 376, 377, 378, 379, 380, 381, 382, 383, 384, 385, 413, 414, 415, 416, 417, 418, 419, 420, 421, 422, 423, 424, 425, 426, 427, 428, 429, 430, 468, 469, 470, 471, 472, 473, 474, 475, 476, 477, 495, 496, 497, 498, 499, 500, 501, 502, 503, 504, 505, 506, 507, 508, 1257, 1258, 1259, 1260, 1261, 1262, 1263, 1264, 1265, 1266, 1267, 1268, 1269, 1270, 1271, 1272, 1273, 1274, 1275, 1276, 1277, 1278, 1279, 1280, 1281, 1282, 1283, 1284, 1285, 1286, 1287, 1288, 1289, 1290, 1291, 1292, 1293, 1294, 1295, 1296, 1297, 1298, 1299, 1300, 1301, 1302, 1303, 1304, 1305, 1306, 1307, 1308, 1309, 1310, 1311, 1312, 1313, 1314, 1315, 1316, 1317, 1318, 1319, 1320] (by decide +kernel) (by decide +kernel) _ (List.mem_map.mpr ⟨z, hz, rfl⟩)
def am_sfn (i : Nat) : String × String × String := if i = 0 then ("java/lang/String", "coder", "B") else if i = 1 then ("java/lang/String", "value", "[B") else if i = 2 then ("java/lang/String", "COMPACT_STRINGS", "Z") else ("jdk/internal/util/Preconditions", "SIOOBE_FORMATTER", "Ljava/util/function/BiFunction;")
abbrev am_sf : List (Nat × Nat × Nat) := [(15, 38, 2), (15, 1053, 3), (15, 15, 0), (15, 9, 1)]
def am_sfw (z : Nat × Nat × Nat) : Cond := .fieldLink (am_cn z.1) z.2.1 (am_sfn z.2.2).1 (am_sfn z.2.2).2.1 (am_sfn z.2.2).2.2
set_option maxRecDepth 100000 in
theorem am_sf_ok : ∀ z ∈ am_sf, am_sfw z ∈ am_gt := fun z hz => am_in_r (am_sf.map am_sfw) [608, 616, 1873, 1874] (by decide +kernel) (by decide +kernel) _ (List.mem_map.mpr ⟨z, hz, rfl⟩)
abbrev am_ml : List (Nat × Nat × Nat) := [(20, 9, 107), (11, 22, 53), (11, 59, 83), (11, 68, 32), (11, 75, 42), (11, 84, 10), (11, 93, 3), (20, 13, 108), (11, 111, 151), (11, 115, 92), (20, 18, 109), (11, 119, 152), (20, 23, 110), (11, 123, 54), (6, 26, 93), (10, 31, 99), (10, 54, 106), (10, 58, 104), (10, 61, 105), (10, 35, 98), (10, 39, 100), (10, 64, 102), (10, 70, 103), (10, 76, 256), (15, 492, 258), (15, 495, 260), (16, 9, 259), (15, 1059, 261), (10, 67, 101), (6, 31, 63), (6, 38, 94), (6, 42, 95), (6, 45, 55), (6, 52, 57), (6, 75, 96), (6, 78, 97), (10, 48, 96), (10, 51, 95), (6, 55, 56), (6, 62, 58), (6, 82, 59), (6, 88, 60), (6, 91, 61), (6, 85, 66), (6, 65, 67), (6, 72, 68), (20, 28, 111), (11, 130, 64), (11, 134, 4), (20, 32, 112), (11, 144, 156), (20, 37, 113), (11, 154, 79), (20, 42, 114), (11, 158, 74), (11, 174, 77), (20, 47, 115), (11, 180, 80), (20, 51, 116), (11, 183, 75), (11, 189, 24), (11, 192, 81), (20, 55, 117), (11, 196, 76), (8, 40, 75), (11, 200, 78), (20, 59, 118), (11, 206, 26), (20, 64, 119), (11, 210, 153), (11, 219, 23), (11, 213, 27), (11, 216, 29), (20, 68, 120), (20, 72, 121), (20, 77, 122), (20, 81, 123), (20, 85, 124), (11, 243, 34), (4, 59, 33), (4, 30, 31), (4, 36, 27), (4, 40, 28), (4, 65, 78), (4, 70, 77), (20, 89, 125), (11, 246, 35), (4, 95, 34), (11, 249, 37), (4, 119, 38), (20, 93, 126), (11, 252, 65), (11, 255, 84), (9, 42, 85), (9, 49, 77), (9, 53, 82), (9, 63, 69), (7, 46, 65), (7, 50, 71), (7, 54, 72), (20, 97, 127), (11, 262, 36), (4, 107, 70), (20, 101, 128), (20, 106, 129), (11, 269, 39), (4, 123, 37), (20, 111, 130), (11, 272, 43), (5, 51, 35), (5, 57, 39), (5, 62, 36), (11, 278, 44), (11, 281, 46), (11, 284, 47), (5, 68, 49), (5, 71, 50), (5, 74, 51), (5, 78, 52), (11, 287, 48), (20, 115, 131), (11, 290, 11), (2, 44, 12), (2, 47, 43), (2, 52, 47), (20, 119, 132), (11, 308, 13), (2, 71, 48), (2, 74, 14), (2, 77, 15), (2, 80, 16), (20, 123, 133), (11, 311, 45), (11, 314, 253), (20, 127, 134), (11, 319, 17), (2, 86, 19), (2, 89, 45), (2, 92, 20), (20, 131, 135), (11, 326, 18), (20, 135, 136), (20, 139, 137), (11, 336, 88), (9, 93, 30), (9, 73, 84), (9, 107, 31), (9, 111, 89), (9, 121, 90), (9, 115, 29), (20, 143, 138), (11, 339, 22), (20, 147, 139), (11, 342, 86), (9, 77, 78), (9, 81, 87), (9, 85, 251), (20, 151, 140), (11, 345, 5), (1, 72, 6), (1, 76, 7), (1, 83, 77), (1, 87, 85), (1, 80, 8), (1, 93, 9), (1, 103, 87), (20, 155, 141), (11, 358, 41), (4, 130, 35), (4, 134, 36), (4, 140, 82), (20, 159, 142), (11, 361, 40), (20, 163, 143), (11, 364, 154), (11, 387, 155), (11, 396, 33), (20, 167, 144), (20, 171, 145), (11, 367, 1), (20, 175, 146), (11, 374, 2), (0, 43, 25), (20, 179, 147), (20, 183, 148), (20, 187, 149), (20, 191, 150), (11, 381, 25), (20, 12, 158), (20, 190, 162), (12, 187, 159), (20, 36, 163), (12, 195, 161), (12, 181, 160), (20, 41, 164), (20, 46, 167), (12, 206, 165), (12, 211, 166), (20, 50, 168), (20, 54, 170), (12, 217, 169), (20, 58, 171), (20, 63, 172), (20, 67, 175), (12, 232, 174), (12, 229, 173), (20, 71, 176), (20, 76, 177), (20, 80, 178), (20, 84, 179), (20, 88, 183), (12, 272, 182), (12, 263, 181), (12, 266, 180), (20, 92, 186), (12, 279, 185), (12, 275, 184), (20, 17, 188), (12, 285, 187), (20, 22, 189), (20, 27, 205), (12, 359, 204), (12, 302, 191), (12, 295, 190), (12, 355, 203), (12, 313, 193), (12, 305, 255), (15, 335, 257), (12, 309, 256), (12, 320, 192), (12, 348, 201), (12, 324, 200), (12, 339, 199), (12, 336, 198), (12, 333, 197), (12, 317, 194), (12, 327, 196), (12, 330, 195), (12, 351, 202), (20, 31, 206), (20, 96, 212), (12, 385, 209), (12, 388, 210), (12, 391, 211), (12, 382, 208), (12, 375, 207), (20, 100, 214), (12, 395, 213), (20, 105, 215), (20, 110, 217), (12, 398, 216), (20, 114, 220), (12, 417, 218), (12, 410, 252), (12, 420, 219), (20, 118, 221), (20, 122, 222), (12, 423, 253), (20, 126, 223), (20, 130, 224), (12, 426, 223), (20, 134, 225), (20, 138, 226), (20, 142, 230), (12, 446, 229), (12, 449, 228), (12, 443, 227), (20, 146, 231), (20, 150, 233), (12, 455, 232), (12, 452, 254), (20, 154, 236), (12, 467, 235), (12, 464, 234), (20, 158, 237), (20, 162, 238), (20, 166, 241), (12, 479, 240), (12, 476, 239), (20, 170, 242), (12, 482, 220), (12, 485, 241), (20, 174, 243), (20, 178, 245), (12, 493, 244), (20, 182, 248), (12, 503, 247), (12, 499, 246), (20, 186, 249), (20, 194, 250)]
def am_yn (y : Nat) : MethodName := ((am_mt[y]?).map (fun q => q.1)).getD ⟨"", "", ""⟩
def am_mlw (z : Nat × Nat × Nat) : Cond := .methodLink (am_cn z.1) z.2.1 (am_yn z.2.2)
set_option maxRecDepth 100000 in
theorem am_ml_ok : ∀ z ∈ am_ml, am_mlw z ∈ am_gt := fun z hz => am_in_r (am_ml.map am_mlw) [23, 58, 259, 293, 327, 365, 409, 538, 542, 546, 550, 554, 558, 562, 566, 570, 574, 577, 580, 583, 587, 591, 595, 600, 604, 610, 613, 618, 640, 647, 651, 655, 659, 663, 667, 671, 675, 676, 677, 681, 685, 689, 693, 697, 701, 705, 710, 714, 721, 725, 729, 732, 736, 740, 744, 749, 753, 757, 761, 765, 769, 773, 777, 781, 785, 786, 790, 794, 798, 802, 806, 810, 814, 818, 822, 826, 830, 834, 838, 842, 846, 850, 851, 858, 859, 865, 869, 873, 875, 879, 882, 886, 890, 894, 898, 899, 903, 907, 908, 912, 920, 924, 928, 932, 936, 940, 944, 946, 950, 954, 955, 957, 958, 962, 966, 970, 974, 978, 982, 987, 991, 995, 1003, 1007, 1008, 1009, 1013, 1017, 1018, 1022, 1026, 1030, 1034, 1038, 1044, 1048, 1052, 1056, 1057, 1063, 1067, 1071, 1075, 1080, 1084, 1088, 1089, 1090, 1094, 1101, 1102, 1106, 1111, 1115, 1119, 1120, 1123, 1126, 1130, 1134, 1138, 1142, 1143, 1144, 1148, 1152, 1154, 1158, 1162, 1163, 1164, 1165, 1169, 1173, 1177, 1181, 1185, 1189, 1193, 1197, 1201, 1205, 1209, 1213, 1217, 1221, 1225, 1229, 1232, 1451, 1456, 1459, 1465, 1469, 1473, 1479, 1483, 1488, 1492, 1496, 1500, 1504, 1508, 1515, 1519, 1523, 1528, 1532, 1538, 1544, 1549, 1553, 1557, 1562, 1567, 1571, 1575, 1579, 1583, 1587, 1591, 1595, 1599, 1603, 1607, 1611, 1615, 1619, 1623, 1624, 1628, 1632, 1636, 1640, 1644, 1648, 1652, 1656, 1660, 1667, 1671, 1675, 1679, 1683, 1687, 1691, 1702, 1706, 1710, 1714, 1718, 1722, 1726, 1730, 1734, 1739, 1743, 1747, 1748, 1752, 1756, 1757, 1761, 1765, 1769, 1773, 1777, 1785, 1789, 1793, 1797, 1800, 1804, 1808, 1812, 1817, 1821, 1825, 1829, 1834, 1838, 1839, 1840, 1845, 1849, 1853, 1857, 1861, 1865, 1869] (by decide +kernel) (by decide +kernel) _ (List.mem_map.mpr ⟨z, hz, rfl⟩)
abbrev am_nl : List (Nat × Nat × Nat) := [(11, 15, 91), (6, 17, 62), (11, 31, 62), (11, 38, 73), (11, 45, 21), (11, 102, 0), (4, 77, 157), (9, 69, 157)]
theorem am_nl_ok : ∀ z ∈ am_nl, Cond.methodLinkNest (am_cn z.1) z.2.1 (am_yn z.2.2) "LookTimes" ∈ am_nest := by decide +kernel
abbrev am_ol : List (Nat × Nat) := [(11, 3), (10, 3), (6, 3), (7, 3), (8, 3), (3, 3), (9, 3), (4, 3), (5, 3), (2, 3), (1, 3), (0, 1), (12, 1)]
set_option maxRecDepth 100000 in
theorem am_ol_ok : ∀ z ∈ am_ol, Cond.methodLink (am_cn z.1) z.2 objectInit ∈ am_gt := fun z hz => am_in_r (am_ol.map (fun z => Cond.methodLink (am_cn z.1) z.2 objectInit)) [26, 34, 61, 67, 123, 173, 262, 296, 330, 368, 412, 467, 1235] (by decide +kernel) (by decide +kernel) _ (List.mem_map.mpr ⟨z, hz, rfl⟩)
def am_pn (i : Nat) : MethodName := if i = 0 then Lib.Math.max.name else if i = 1 then Lib.Math.min.name else if i = 2 then Lib.Math.abs.name else if i = 3 then Lib.MathLoose.max_long.x else if i = 4 then Lib.MathLoose.min_long.x else arraycopyName
abbrev am_pl : List (Nat × Nat × Nat) := [(10, 43, 0), (7, 40, 5), (4, 54, 1), (11, 404, 1), (11, 407, 0), (4, 98, 0), (5, 82, 5), (2, 105, 1), (2, 111, 0), (3, 47, 5), (1, 97, 5), (11, 399, 2), (12, 257, 1), (12, 269, 0), (12, 370, 4), (12, 373, 3), (12, 473, 2)]
set_option maxRecDepth 100000 in
theorem am_pl_ok : ∀ z ∈ am_pl, Cond.methodLink (am_cn z.1) z.2.1 (am_pn z.2.2) ∈ am_gt := fun z hz => am_in_r (am_pl.map (fun z => Cond.methodLink (am_cn z.1) z.2.1 (am_pn z.2.2))) [644, 718, 855, 863, 864, 874, 986, 1061, 1062, 1110, 1153, 1186, 1561, 1566, 1696, 1699, 1833] (by decide +kernel) (by decide +kernel) _ (List.mem_map.mpr ⟨z, hz, rfl⟩)
abbrev am_kl : List (Nat × Nat × Int32) := [(11, 161, -2147483648), (7, 60, 1000000), (7, 63, -1000000), (4, 126, -2147483648), (5, 61, -2147483648), (13, 265, 1431655765), (13, 266, 858993459), (13, 267, 252645135), (11, 335, 1000000), (12, 152, 65536), (12, 210, -2147483648), (13, 264, 65536)]
set_option maxRecDepth 100000 in
theorem am_kl_ok : ∀ z ∈ am_kl, Cond.constant (am_cn z.1) z.2.1 z.2.2 ∈ am_gt := fun z hz => am_in_r (am_kl.map (fun z => Cond.constant (am_cn z.1) z.2.1 z.2.2)) [748, 916, 918, 945, 956, 1041, 1042, 1043, 1079, 1256, 1487, 1733] (by decide +kernel) (by decide +kernel) _ (List.mem_map.mpr ⟨z, hz, rfl⟩)
abbrev am_jl : List (Nat × Nat × Int64) := [(7, 58, 1000000), (7, 61, -1000000), (9, 124, 1103515245), (9, 126, 12345), (9, 128, 2147483647), (12, 185, 2), (12, 191, 4), (12, 193, 99), (12, 199, 9), (12, 201, -9), (12, 223, 5), (12, 225, 8), (12, 227, 60), (12, 236, 600), (12, 238, 100), (12, 240, 10), (12, 245, -50), (12, 247, 50), (12, 252, 3), (12, 342, -1), (12, 344, 32), (12, 346, 97), (12, 366, -1000000), (12, 368, 1000000), (12, 415, 1000), (12, 435, 1103515245), (12, 437, 12345), (12, 439, 2147483647), (12, 441, 256), (12, 471, 7), (12, 488, 16)]
set_option maxRecDepth 100000 in
theorem am_jl_ok : ∀ z ∈ am_jl, Cond.constantLong (am_cn z.1) z.2.1 z.2.2 ∈ am_gt := fun z hz => am_in_r (am_jl.map (fun z => Cond.constantLong (am_cn z.1) z.2.1 z.2.2)) [915, 917, 1098, 1099, 1100, 1455, 1463, 1464, 1477, 1478, 1512, 1513, 1514, 1527, 1536, 1537, 1542, 1543, 1548, 1664, 1665, 1666, 1694, 1695, 1738, 1781, 1782, 1783, 1784, 1816, 1844] (by decide +kernel) (by decide +kernel) _ (List.mem_map.mpr ⟨z, hz, rfl⟩)
def am_ln (i : Nat) : String := if i = 98 then "[[I" else am_cn i
abbrev am_cc : List (Nat × Nat × Nat) := [(20, 7, 11), (11, 13, 10), (11, 20, 6), (6, 15, 7), (11, 29, 7), (11, 36, 8), (11, 43, 3), (11, 57, 9), (11, 66, 4), (11, 73, 5), (11, 82, 2), (11, 91, 1), (11, 100, 0), (20, 10, 12), (12, 69, 98), (12, 99, 15)]
set_option maxRecDepth 100000 in
theorem am_cc_ok : ∀ z ∈ am_cc, Cond.classLink (am_cn z.1) z.2.1 (am_ln z.2.2) ∈ am_gt := fun z hz => am_in_r (am_cc.map (fun z => Cond.classLink (am_cn z.1) z.2.1 (am_ln z.2.2))) [21, 29, 56, 62, 116, 118, 168, 257, 291, 325, 363, 407, 462, 1230, 1236, 1238] (by decide +kernel) (by decide +kernel) _ (List.mem_map.mpr ⟨z, hz, rfl⟩)
set_option maxRecDepth 100000 in
theorem w_arrI : Cond.arrayClass .int ∈ am_gt := am_in 55 (by decide +kernel) (by decide +kernel)
set_option maxRecDepth 100000 in
theorem w_arrB : Cond.arrayClass .byte ∈ am_gt := am_in 709 (by decide +kernel) (by decide +kernel)
set_option maxRecDepth 100000 in
theorem w_arrZ : Cond.arrayClass .boolean ∈ am_gt := am_in 255 (by decide +kernel) (by decide +kernel)
set_option maxRecDepth 100000 in
theorem w_arrJ : Cond.arrayClass .long ∈ am_gt := am_in 1450 (by decide +kernel) (by decide +kernel)
set_option maxRecDepth 100000 in
theorem w_objI : Cond.instanceMethod objectInit ∈ am_gt := am_in 27 (by decide +kernel) (by decide +kernel)
set_option maxRecDepth 100000 in
theorem w_objC : Cond.code objectInit ⟨#[0xb1]⟩ 1 none ∈ am_gt := am_in 28 (by decide +kernel) (by decide +kernel)
set_option maxRecDepth 100000 in
theorem w_math : Cond.initialized "java/lang/Math" ∈ am_gt := am_in 18 (by decide +kernel) (by decide +kernel)
set_option maxRecDepth 100000 in
theorem w_sys : Cond.initialized "java/lang/System" ∈ am_gt := am_in 19 (by decide +kernel) (by decide +kernel)
set_option maxRecDepth 100000 in
theorem w_acN : Cond.native arraycopyName ∈ am_gt := am_in 720 (by decide +kernel) (by decide +kernel)
set_option maxRecDepth 100000 in
theorem w_acS : Cond.static arraycopyName ∈ am_gt := am_in 719 (by decide +kernel) (by decide +kernel)
set_option maxRecDepth 100000 in
theorem w_maxS : Cond.static Lib.Math.max.name ∈ am_gt := am_in 645 (by decide +kernel) (by decide +kernel)
set_option maxRecDepth 100000 in
theorem w_maxC : Cond.code Lib.Math.max.name Lib.Math.max.code 2 (some .int) ∈ am_gt := am_in 646 (by decide +kernel) (by decide +kernel)
set_option maxRecDepth 100000 in
theorem w_minS : Cond.static Lib.Math.min.name ∈ am_gt := am_in 856 (by decide +kernel) (by decide +kernel)
set_option maxRecDepth 100000 in
theorem w_minC : Cond.code Lib.Math.min.name Lib.Math.min.code 2 (some .int) ∈ am_gt := am_in 857 (by decide +kernel) (by decide +kernel)
set_option maxRecDepth 100000 in
theorem w_absS : Cond.static Lib.Math.abs.name ∈ am_gt := am_in 1187 (by decide +kernel) (by decide +kernel)
set_option maxRecDepth 100000 in
theorem w_absC : Cond.code Lib.Math.abs.name Lib.Math.abs.code 1 (some .int) ∈ am_gt := am_in 1188 (by decide +kernel) (by decide +kernel)
set_option maxRecDepth 100000 in
theorem w_maxlS : Cond.static Lib.MathLoose.max_long.x ∈ am_gt := am_in 1700 (by decide +kernel) (by decide +kernel)
set_option maxRecDepth 100000 in
theorem w_maxlC : Cond.code Lib.MathLoose.max_long.x Lib.MathLoose.max_long.code 4 (some .long) ∈ am_gt := am_in 1701 (by decide +kernel) (by decide +kernel)
set_option maxRecDepth 100000 in
theorem w_minlS : Cond.static Lib.MathLoose.min_long.x ∈ am_gt := am_in 1697 (by decide +kernel) (by decide +kernel)
set_option maxRecDepth 100000 in
theorem w_minlC : Cond.code Lib.MathLoose.min_long.x Lib.MathLoose.min_long.code 4 (some .long) ∈ am_gt := am_in 1698 (by decide +kernel) (by decide +kernel)
set_option maxRecDepth 100000 in
theorem w_inst : ∀ r ∈ vwCl, Cond.instantiable r.1 r.2.2 ∈ am_gt ∧ Cond.initialized r.1 ∈ am_gt ∧ r.2.2 ≤ 64 := fun r hr => ⟨am_in_r (vwCl.map (fun r => Cond.instantiable r.1 r.2.2)) [463, 408, 364, 169, 292, 326, 57, 63, 119, 258, 30, 22, 1231] (by decide +kernel) (by decide +kernel) _ (List.mem_map.mpr ⟨r, hr, rfl⟩), am_in_r (vwCl.map (fun r => Cond.initialized r.1)) [12, 11, 10, 6, 8, 9, 3, 4, 5, 7, 2, 1, 13] (by decide +kernel) (by decide +kernel) _ (List.mem_map.mpr ⟨r, hr, rfl⟩), by simp only [vwCl, List.mem_cons, List.not_mem_nil, or_false] at hr; rcases hr with rfl | rfl | rfl | rfl | rfl | rfl | rfl | rfl | rfl | rfl | rfl | rfl | rfl <;> decide⟩
set_option maxRecDepth 100000 in
theorem am_moks : ∀ (y : Nat) (q : am_Q), y ≠ 262 → am_mt[y]? = some q → am_mok q
  | 0, q, _, h => by obtain rfl := Option.some.inj (show some (yX0_init, cX0_init, 1, none, 2, 0, 0, 0) = some q from h); exact am_mok_0
  | 1, q, _, h => by obtain rfl := Option.some.inj (show some (yX0_write, cX0_write, 3, none, 0, 2, 0, 0) = some q from h); exact am_mok_1
  | 2, q, _, h => by obtain rfl := Option.some.inj (show some (yX0_broken, cX0_broken, 3, (some .int), 0, 1, 0, 0) = some q from h); exact am_mok_2
  | 3, q, _, h => by obtain rfl := Option.some.inj (show some (yX1_init, cX1_init, 4, none, 2, 3, 6, 85) = some q from h); exact am_mok_3
  | 4, q, _, h => by obtain rfl := Option.some.inj (show some (yX1_forget, cX1_forget, 1, none, 0, 0, 0, 0) = some q from h); exact am_mok_4
  | 5, q, _, h => by obtain rfl := Option.some.inj (show some (yX1_find, cX1_find, 4, none, 0, 2, 0, 0) = some q from h); exact am_mok_5
  | 6, q, _, h => by obtain rfl := Option.some.inj (show some (yX1_extend, cX1_extend, 3, none, 0, 1, 0, 0) = some q from h); exact am_mok_6
  | 7, q, _, h => by obtain rfl := Option.some.inj (show some (yX1_place, cX1_place, 8, none, 0, 2, 0, 0) = some q from h); exact am_mok_7
  | 8, q, _, h => by obtain rfl := Option.some.inj (show some (yX1_weigh, cX1_weigh, 2, none, 0, 0, 0, 0) = some q from h); exact am_mok_8
  | 9, q, _, h => by obtain rfl := Option.some.inj (show some (yX1_partedCouples, cX1_partedCouples, 7, (some .int), 0, 0, 0, 0) = some q from h); exact am_mok_9
  | 10, q, _, h => by obtain rfl := Option.some.inj (show some (yX2_init, cX2_init, 3, none, 2, 2, 0, 0) = some q from h); exact am_mok_10
  | 11, q, _, h => by obtain rfl := Option.some.inj (show some (yX2_lookBack, cX2_lookBack, 6, none, 0, 0, 0, 0) = some q from h); exact am_mok_11
  | 12, q, _, h => by obtain rfl := Option.some.inj (show some (yX2_tryReadings, cX2_tryReadings, 5, none, 0, 0, 0, 0) = some q from h); exact am_mok_12
  | 13, q, _, h => by obtain rfl := Option.some.inj (show some (yX2_fewestToLeave, cX2_fewestToLeave, 3, (some .int), 0, 1, 0, 0) = some q from h); exact am_mok_13
  | 14, q, _, h => by obtain rfl := Option.some.inj (show some (yX2_oneToLeave, cX2_oneToLeave, 4, (some .int), 0, 1, 0, 0) = some q from h); exact am_mok_14
  | 15, q, _, h => by obtain rfl := Option.some.inj (show some (yX2_twoToLeave, cX2_twoToLeave, 5, (some .int), 0, 1, 0, 0) = some q from h); exact am_mok_15
  | 16, q, _, h => by obtain rfl := Option.some.inj (show some (yX2_threeToLeave, cX2_threeToLeave, 6, (some .int), 0, 1, 0, 0) = some q from h); exact am_mok_16
  | 17, q, _, h => by obtain rfl := Option.some.inj (show some (yX2_withoutEachHouse, cX2_withoutEachHouse, 3, none, 0, 0, 0, 0) = some q from h); exact am_mok_17
  | 18, q, _, h => by obtain rfl := Option.some.inj (show some (yX2_leanAll, cX2_leanAll, 4, none, 0, 1, 0, 0) = some q from h); exact am_mok_18
  | 19, q, _, h => by obtain rfl := Option.some.inj (show some (yX2_noticeNone, cX2_noticeNone, 1, none, 0, 0, 0, 0) = some q from h); exact am_mok_19
  | 20, q, _, h => by obtain rfl := Option.some.inj (show some (yX2_notice, cX2_notice, 2, none, 0, 1, 0, 0) = some q from h); exact am_mok_20
  | 21, q, _, h => by obtain rfl := Option.some.inj (show some (yX3_init, cX3_init, 1, none, 2, 0, 7, 1232) = some q from h); exact am_mok_21
  | 22, q, _, h => by obtain rfl := Option.some.inj (show some (yX3_take, cX3_take, 3, none, 0, 1, 0, 0) = some q from h); exact am_mok_22
  | 23, q, _, h => by obtain rfl := Option.some.inj (show some (yX3_hasBaby, cX3_hasBaby, 2, (some .boolean), 0, 1, 0, 0) = some q from h); exact am_mok_23
  | 24, q, _, h => by obtain rfl := Option.some.inj (show some (yX3_usesPlan, cX3_usesPlan, 3, (some .boolean), 0, 1, 0, 0) = some q from h); exact am_mok_24
  | 25, q, _, h => by obtain rfl := Option.some.inj (show some (yX3_leftCount, cX3_leftCount, 3, (some .int), 0, 0, 0, 0) = some q from h); exact am_mok_25
  | 26, q, _, h => by obtain rfl := Option.some.inj (show some (yX3_addBaby, cX3_addBaby, 5, (some .int), 0, 3, 0, 0) = some q from h); exact am_mok_26
  | 27, q, _, h => by obtain rfl := Option.some.inj (show some (yX3_gazeSize, cX3_gazeSize, 3, (some .int), 0, 2, 0, 0) = some q from h); exact am_mok_27
  | 28, q, _, h => by obtain rfl := Option.some.inj (show some (yX3_gazeAt, cX3_gazeAt, 4, (some .int), 0, 3, 0, 0) = some q from h); exact am_mok_28
  | 29, q, _, h => by obtain rfl := Option.some.inj (show some (yX3_addLength, cX3_addLength, 5, (some .int), 0, 3, 0, 0) = some q from h); exact am_mok_29
  | 30, q, _, h => by obtain rfl := Option.some.inj (show some (yX3_clearGazes, cX3_clearGazes, 2, none, 0, 0, 0, 0) = some q from h); exact am_mok_30
  | 31, q, _, h => by obtain rfl := Option.some.inj (show some (yX3_isCrying, cX3_isCrying, 3, (some .boolean), 0, 2, 0, 0) = some q from h); exact am_mok_31
  | 32, q, _, h => by obtain rfl := Option.some.inj (show some (yX4_init, cX4_init, 4, none, 2, 3, 2, 20) = some q from h); exact am_mok_32
  | 33, q, _, h => by obtain rfl := Option.some.inj (show some (yX4_bareLength, cX4_bareLength, 8, (some .int), 0, 2, 0, 0) = some q from h); exact am_mok_33
  | 34, q, _, h => by obtain rfl := Option.some.inj (show some (yX4_leanedLength, cX4_leanedLength, 4, (some .int), 0, 2, 0, 0) = some q from h); exact am_mok_34
  | 35, q, _, h => by obtain rfl := Option.some.inj (show some (yX4_measure, cX4_measure, 4, none, 0, 1, 0, 0) = some q from h); exact am_mok_35
  | 36, q, _, h => by obtain rfl := Option.some.inj (show some (yX4_clauseAgainst, cX4_clauseAgainst, 2, (some .int), 0, 1, 0, 0) = some q from h); exact am_mok_36
  | 37, q, _, h => by obtain rfl := Option.some.inj (show some (yX4_readingAt, cX4_readingAt, 3, (some .int), 0, 1, 0, 0) = some q from h); exact am_mok_37
  | 38, q, _, h => by obtain rfl := Option.some.inj (show some (yX4_digits, cX4_digits, 3, (some .int), 1, 1, 0, 0) = some q from h); exact am_mok_38
  | 39, q, _, h => by obtain rfl := Option.some.inj (show some (yX4_differenceOf, cX4_differenceOf, 8, (some .int), 0, 1, 0, 0) = some q from h); exact am_mok_39
  | 40, q, _, h => by obtain rfl := Option.some.inj (show some (yX4_settledAt, cX4_settledAt, 3, (some .int), 0, 0, 0, 0) = some q from h); exact am_mok_40
  | 41, q, _, h => by obtain rfl := Option.some.inj (show some (yX4_meanFresh, cX4_meanFresh, 7, (some .int), 0, 1, 0, 0) = some q from h); exact am_mok_41
  | 42, q, _, h => by obtain rfl := Option.some.inj (show some (yX5_init, cX5_init, 3, none, 2, 2, 6, 816) = some q from h); exact am_mok_42
  | 43, q, _, h => by obtain rfl := Option.some.inj (show some (yX5_countAll, cX5_countAll, 3, none, 0, 0, 0, 0) = some q from h); exact am_mok_43
  | 44, q, _, h => by obtain rfl := Option.some.inj (show some (yX5_allBits, cX5_allBits, 3, (some .int), 0, 0, 0, 0) = some q from h); exact am_mok_44
  | 45, q, _, h => by obtain rfl := Option.some.inj (show some (yX5_houseBits, cX5_houseBits, 4, (some .int), 0, 1, 0, 0) = some q from h); exact am_mok_45
  | 46, q, _, h => by obtain rfl := Option.some.inj (show some (yX5_sumOf, cX5_sumOf, 4, (some .int), 0, 1, 0, 0) = some q from h); exact am_mok_46
  | 47, q, _, h => by obtain rfl := Option.some.inj (show some (yX5_waysWithout, cX5_waysWithout, 2, (some .int), 0, 1, 0, 0) = some q from h); exact am_mok_47
  | 48, q, _, h => by obtain rfl := Option.some.inj (show some (yX5_thousandWithout, cX5_thousandWithout, 3, (some .int), 0, 1, 0, 0) = some q from h); exact am_mok_48
  | 49, q, _, h => by obtain rfl := Option.some.inj (show some (yX5_choose, cX5_choose, 4, (some .int), 0, 1, 0, 0) = some q from h); exact am_mok_49
  | 50, q, _, h => by obtain rfl := Option.some.inj (show some (yX5_waysOf, cX5_waysOf, 8, (some .int), 0, 1, 0, 0) = some q from h); exact am_mok_50
  | 51, q, _, h => by obtain rfl := Option.some.inj (show some (yX5_gather, cX5_gather, 6, (some .int), 0, 3, 0, 0) = some q from h); exact am_mok_51
  | 52, q, _, h => by obtain rfl := Option.some.inj (show some (yX5_addValue, cX5_addValue, 7, none, 0, 3, 0, 0) = some q from h); exact am_mok_52
  | 53, q, _, h => by obtain rfl := Option.some.inj (show some (yX6_init, cX6_init, 2, none, 2, 1, 8, 599) = some q from h); exact am_mok_53
  | 54, q, _, h => by obtain rfl := Option.some.inj (show some (yX6_findFault, cX6_findFault, 2, (some .int), 0, 0, 0, 0) = some q from h); exact am_mok_54
  | 55, q, _, h => by obtain rfl := Option.some.inj (show some (yX6_parseLine, cX6_parseLine, 3, (some .boolean), 0, 0, 0, 0) = some q from h); exact am_mok_55
  | 56, q, _, h => by obtain rfl := Option.some.inj (show some (yX6_parseToken, cX6_parseToken, 2, (some .boolean), 0, 1, 0, 0) = some q from h); exact am_mok_56
  | 57, q, _, h => by obtain rfl := Option.some.inj (show some (yX6_parseNewName, cX6_parseNewName, 2, (some .boolean), 0, 0, 0, 0) = some q from h); exact am_mok_57
  | 58, q, _, h => by obtain rfl := Option.some.inj (show some (yX6_parseExpression, cX6_parseExpression, 3, (some .boolean), 0, 1, 0, 0) = some q from h); exact am_mok_58
  | 59, q, _, h => by obtain rfl := Option.some.inj (show some (yX6_parseSum, cX6_parseSum, 4, (some .boolean), 0, 1, 0, 0) = some q from h); exact am_mok_59
  | 60, q, _, h => by obtain rfl := Option.some.inj (show some (yX6_parseProduct, cX6_parseProduct, 4, (some .boolean), 0, 1, 0, 0) = some q from h); exact am_mok_60
  | 61, q, _, h => by obtain rfl := Option.some.inj (show some (yX6_parseFactor, cX6_parseFactor, 3, (some .boolean), 0, 1, 0, 0) = some q from h); exact am_mok_61
  | 62, q, _, h => by obtain rfl := Option.some.inj (show some (yX7_init, cX7_init, 1, none, 2, 0, 6, 584) = some q from h); exact am_mok_62
  | 63, q, _, h => by obtain rfl := Option.some.inj (show some (yX7_empty, cX7_empty, 1, none, 0, 0, 0, 0) = some q from h); exact am_mok_63
  | 64, q, _, h => by obtain rfl := Option.some.inj (show some (yX7_take, cX7_take, 2, none, 0, 1, 0, 0) = some q from h); exact am_mok_64
  | 65, q, _, h => by obtain rfl := Option.some.inj (show some (yX7_hasLaw, cX7_hasLaw, 2, (some .boolean), 0, 1, 0, 0) = some q from h); exact am_mok_65
  | 66, q, _, h => by obtain rfl := Option.some.inj (show some (yX7_emit, cX7_emit, 2, none, 0, 1, 0, 0) = some q from h); exact am_mok_66
  | 67, q, _, h => by obtain rfl := Option.some.inj (show some (yX7_addLaw, cX7_addLaw, 2, none, 0, 1, 0, 0) = some q from h); exact am_mok_67
  | 68, q, _, h => by obtain rfl := Option.some.inj (show some (yX7_addClause, cX7_addClause, 2, none, 0, 1, 0, 0) = some q from h); exact am_mok_68
  | 69, q, _, h => by obtain rfl := Option.some.inj (show some (yX7_workLaw, cX7_workLaw, 3, (some .int), 0, 2, 0, 0) = some q from h); exact am_mok_69
  | 70, q, _, h => by obtain rfl := Option.some.inj (show some (yX7_firstClause, cX7_firstClause, 3, (some .int), 0, 1, 0, 0) = some q from h); exact am_mok_70
  | 71, q, _, h => by obtain rfl := Option.some.inj (show some (yX7_work, cX7_work, 7, (some .int), 0, 3, 0, 0) = some q from h); exact am_mok_71
  | 72, q, _, h => by obtain rfl := Option.some.inj (show some (yX7_joinBy, cX7_joinBy, 5, (some .int), 1, 3, 0, 0) = some q from h); exact am_mok_72
  | 73, q, _, h => by obtain rfl := Option.some.inj (show some (yX8_init, cX8_init, 1, none, 2, 0, 7, 89) = some q from h); exact am_mok_73
  | 74, q, _, h => by obtain rfl := Option.some.inj (show some (yX8_hasScreen, cX8_hasScreen, 2, (some .boolean), 0, 1, 0, 0) = some q from h); exact am_mok_74
  | 75, q, _, h => by obtain rfl := Option.some.inj (show some (yX8_hasPlan, cX8_hasPlan, 2, (some .boolean), 0, 1, 0, 0) = some q from h); exact am_mok_75
  | 76, q, _, h => by obtain rfl := Option.some.inj (show some (yX8_hasTrial, cX8_hasTrial, 3, (some .boolean), 0, 2, 0, 0) = some q from h); exact am_mok_76
  | 77, q, _, h => by obtain rfl := Option.some.inj (show some (yX8_isOdd, cX8_isOdd, 2, (some .boolean), 0, 1, 0, 0) = some q from h); exact am_mok_77
  | 78, q, _, h => by obtain rfl := Option.some.inj (show some (yX8_screenOf, cX8_screenOf, 3, (some .int), 0, 2, 0, 0) = some q from h); exact am_mok_78
  | 79, q, _, h => by obtain rfl := Option.some.inj (show some (yX8_addScreen, cX8_addScreen, 5, (some .int), 0, 4, 0, 0) = some q from h); exact am_mok_79
  | 80, q, _, h => by obtain rfl := Option.some.inj (show some (yX8_addPlan, cX8_addPlan, 1, (some .int), 0, 0, 0, 0) = some q from h); exact am_mok_80
  | 81, q, _, h => by obtain rfl := Option.some.inj (show some (yX8_addTrial, cX8_addTrial, 3, (some .int), 0, 2, 0, 0) = some q from h); exact am_mok_81
  | 82, q, _, h => by obtain rfl := Option.some.inj (show some (yX8_sameAhead, cX8_sameAhead, 6, (some .int), 0, 3, 0, 0) = some q from h); exact am_mok_82
  | 83, q, _, h => by obtain rfl := Option.some.inj (show some (yX9_init, cX9_init, 4, none, 2, 3, 2, 20) = some q from h); exact am_mok_83
  | 84, q, _, h => by obtain rfl := Option.some.inj (show some (yX9_tellPlan, cX9_tellPlan, 7, none, 0, 3, 0, 0) = some q from h); exact am_mok_84
  | 85, q, _, h => by obtain rfl := Option.some.inj (show some (yX9_tell, cX9_tell, 9, (some .int), 0, 6, 0, 0) = some q from h); exact am_mok_85
  | 86, q, _, h => by obtain rfl := Option.some.inj (show some (yX9_planSign, cX9_planSign, 9, (some .int), 0, 3, 0, 0) = some q from h); exact am_mok_86
  | 87, q, _, h => by obtain rfl := Option.some.inj (show some (yX9_signOf, cX9_signOf, 4, (some .int), 1, 4, 0, 0) = some q from h); exact am_mok_87
  | 88, q, _, h => by obtain rfl := Option.some.inj (show some (yX9_drawWorld, cX9_drawWorld, 7, (some .int), 0, 2, 0, 0) = some q from h); exact am_mok_88
  | 89, q, _, h => by obtain rfl := Option.some.inj (show some (yX9_drawLook, cX9_drawLook, 3, (some .int), 0, 1, 0, 0) = some q from h); exact am_mok_89
  | 90, q, _, h => by obtain rfl := Option.some.inj (show some (yX9_lot, cX9_lot, 2, (some .int), 0, 1, 0, 0) = some q from h); exact am_mok_90
  | 91, q, _, h => by obtain rfl := Option.some.inj (show some (yX10_init, cX10_init, 1, none, 2, 0, 4, 2003) = some q from h); exact am_mok_91
  | 92, q, _, h => by obtain rfl := Option.some.inj (show some (yX10_append, cX10_append, 3, none, 0, 1, 0, 0) = some q from h); exact am_mok_92
  | 93, q, _, h => by obtain rfl := Option.some.inj (show some (yX10_split, cX10_split, 4, none, 0, 0, 0, 0) = some q from h); exact am_mok_93
  | 94, q, _, h => by obtain rfl := Option.some.inj (show some (yX10_code, cX10_code, 2, (some .int), 0, 1, 0, 0) = some q from h); exact am_mok_94
  | 95, q, _, h => by obtain rfl := Option.some.inj (show some (yX10_start, cX10_start, 2, (some .int), 0, 1, 0, 0) = some q from h); exact am_mok_95
  | 96, q, _, h => by obtain rfl := Option.some.inj (show some (yX10_wordSize, cX10_wordSize, 2, (some .int), 0, 1, 0, 0) = some q from h); exact am_mok_96
  | 97, q, _, h => by obtain rfl := Option.some.inj (show some (yX10_sameWords, cX10_sameWords, 5, (some .boolean), 0, 2, 0, 0) = some q from h); exact am_mok_97
  | 98, q, _, h => by obtain rfl := Option.some.inj (show some (yX10_keep, cX10_keep, 4, none, 0, 3, 0, 0) = some q from h); exact am_mok_98
  | 99, q, _, h => by obtain rfl := Option.some.inj (show some (yX10_endOfToken, cX10_endOfToken, 4, (some .int), 0, 1, 0, 0) = some q from h); exact am_mok_99
  | 100, q, _, h => by obtain rfl := Option.some.inj (show some (yX10_codeOf, cX10_codeOf, 4, (some .int), 0, 2, 0, 0) = some q from h); exact am_mok_100
  | 101, q, _, h => by obtain rfl := Option.some.inj (show some (yX10_numberCode, cX10_numberCode, 5, (some .int), 0, 2, 0, 0) = some q from h); exact am_mok_101
  | 102, q, _, h => by obtain rfl := Option.some.inj (show some (yX10_wordCode, cX10_wordCode, 4, (some .int), 0, 2, 0, 0) = some q from h); exact am_mok_102
  | 103, q, _, h => by obtain rfl := Option.some.inj (show some (yX10_isWord, cX10_isWord, 6, (some .boolean), 0, 3, 0, 0) = some q from h); exact am_mok_103
  | 104, q, _, h => by obtain rfl := Option.some.inj (show some (yX10_isLetter, cX10_isLetter, 1, (some .boolean), 1, 1, 0, 0) = some q from h); exact am_mok_104
  | 105, q, _, h => by obtain rfl := Option.some.inj (show some (yX10_isDigit, cX10_isDigit, 1, (some .boolean), 1, 1, 0, 0) = some q from h); exact am_mok_105
  | 106, q, _, h => by obtain rfl := Option.some.inj (show some (yX10_isSign, cX10_isSign, 1, (some .boolean), 1, 1, 0, 0) = some q from h); exact am_mok_106
  | 107, q, _, h => by obtain rfl := Option.some.inj (show some (yX11_init, cX11_init, 1, none, 2, 0, 69, 6801) = some q from h); exact am_mok_107
  | 108, q, _, h => by obtain rfl := Option.some.inj (show some (yX11_feed, cX11_feed, 6, (some .int), 0, 5, 0, 0) = some q from h); exact am_mok_108
  | 109, q, _, h => by obtain rfl := Option.some.inj (show some (yX11_end, cX11_end, 2, (some .boolean), 0, 1, 0, 0) = some q from h); exact am_mok_109
  | 110, q, _, h => by obtain rfl := Option.some.inj (show some (yX11_fault, cX11_fault, 1, (some .int), 0, 0, 0, 0) = some q from h); exact am_mok_110
  | 111, q, _, h => by obtain rfl := Option.some.inj (show some (yX11_laws, cX11_laws, 1, (some .int), 0, 0, 0, 0) = some q from h); exact am_mok_111
  | 112, q, _, h => by obtain rfl := Option.some.inj (show some (yX11_liked, cX11_liked, 3, (some .boolean), 0, 2, 0, 0) = some q from h); exact am_mok_112
  | 113, q, _, h => by obtain rfl := Option.some.inj (show some (yX11_screen, cX11_screen, 6, (some .int), 0, 4, 0, 0) = some q from h); exact am_mok_113
  | 114, q, _, h => by obtain rfl := Option.some.inj (show some (yX11_on, cX11_on, 3, (some .int), 0, 2, 0, 0) = some q from h); exact am_mok_114
  | 115, q, _, h => by obtain rfl := Option.some.inj (show some (yX11_plan, cX11_plan, 1, (some .int), 0, 0, 0, 0) = some q from h); exact am_mok_115
  | 116, q, _, h => by obtain rfl := Option.some.inj (show some (yX11_trial, cX11_trial, 3, (some .int), 0, 2, 0, 0) = some q from h); exact am_mok_116
  | 117, q, _, h => by obtain rfl := Option.some.inj (show some (yX11_row, cX11_row, 3, (some .int), 0, 2, 0, 0) = some q from h); exact am_mok_117
  | 118, q, _, h => by obtain rfl := Option.some.inj (show some (yX11_baby, cX11_baby, 4, (some .int), 0, 3, 0, 0) = some q from h); exact am_mok_118
  | 119, q, _, h => by obtain rfl := Option.some.inj (show some (yX11_gaze, cX11_gaze, 4, (some .int), 0, 3, 0, 0) = some q from h); exact am_mok_119
  | 120, q, _, h => by obtain rfl := Option.some.inj (show some (yX11_cried, cX11_cried, 3, (some .boolean), 0, 2, 0, 0) = some q from h); exact am_mok_120
  | 121, q, _, h => by obtain rfl := Option.some.inj (show some (yX11_rule, cX11_rule, 4, (some .boolean), 0, 3, 0, 0) = some q from h); exact am_mok_121
  | 122, q, _, h => by obtain rfl := Option.some.inj (show some (yX11_lean, cX11_lean, 2, (some .boolean), 0, 1, 0, 0) = some q from h); exact am_mok_122
  | 123, q, _, h => by obtain rfl := Option.some.inj (show some (yX11_reading, cX11_reading, 3, (some .boolean), 0, 2, 0, 0) = some q from h); exact am_mok_123
  | 124, q, _, h => by obtain rfl := Option.some.inj (show some (yX11_length, cX11_length, 3, (some .int), 0, 2, 0, 0) = some q from h); exact am_mok_124
  | 125, q, _, h => by obtain rfl := Option.some.inj (show some (yX11_read, cX11_read, 3, (some .int), 0, 2, 0, 0) = some q from h); exact am_mok_125
  | 126, q, _, h => by obtain rfl := Option.some.inj (show some (yX11_says, cX11_says, 5, (some .int), 0, 4, 0, 0) = some q from h); exact am_mok_126
  | 127, q, _, h => by obtain rfl := Option.some.inj (show some (yX11_out, cX11_out, 4, (some .int), 0, 2, 0, 0) = some q from h); exact am_mok_127
  | 128, q, _, h => by obtain rfl := Option.some.inj (show some (yX11_leave, cX11_leave, 3, (some .boolean), 0, 2, 0, 0) = some q from h); exact am_mok_128
  | 129, q, _, h => by obtain rfl := Option.some.inj (show some (yX11_difference, cX11_difference, 2, (some .int), 0, 1, 0, 0) = some q from h); exact am_mok_129
  | 130, q, _, h => by obtain rfl := Option.some.inj (show some (yX11_odds, cX11_odds, 2, (some .int), 0, 1, 0, 0) = some q from h); exact am_mok_130
  | 131, q, _, h => by obtain rfl := Option.some.inj (show some (yX11_after, cX11_after, 2, (some .int), 0, 1, 0, 0) = some q from h); exact am_mok_131
  | 132, q, _, h => by obtain rfl := Option.some.inj (show some (yX11_leaving, cX11_leaving, 2, (some .int), 0, 1, 0, 0) = some q from h); exact am_mok_132
  | 133, q, _, h => by obtain rfl := Option.some.inj (show some (yX11_house, cX11_house, 4, (some .int), 0, 2, 0, 0) = some q from h); exact am_mok_133
  | 134, q, _, h => by obtain rfl := Option.some.inj (show some (yX11_joined, cX11_joined, 2, (some .int), 0, 1, 0, 0) = some q from h); exact am_mok_134
  | 135, q, _, h => by obtain rfl := Option.some.inj (show some (yX11_span, cX11_span, 3, (some .int), 0, 2, 0, 0) = some q from h); exact am_mok_135
  | 136, q, _, h => by obtain rfl := Option.some.inj (show some (yX11_spread, cX11_spread, 3, (some .boolean), 0, 2, 0, 0) = some q from h); exact am_mok_136
  | 137, q, _, h => by obtain rfl := Option.some.inj (show some (yX11_world, cX11_world, 3, (some .int), 0, 2, 0, 0) = some q from h); exact am_mok_137
  | 138, q, _, h => by obtain rfl := Option.some.inj (show some (yX11_worlds, cX11_worlds, 7, (some .int), 0, 4, 0, 0) = some q from h); exact am_mok_138
  | 139, q, _, h => by obtain rfl := Option.some.inj (show some (yX11_parts, cX11_parts, 5, (some .int), 0, 4, 0, 0) = some q from h); exact am_mok_139
  | 140, q, _, h => by obtain rfl := Option.some.inj (show some (yX11_next, cX11_next, 4, (some .int), 0, 3, 0, 0) = some q from h); exact am_mok_140
  | 141, q, _, h => by obtain rfl := Option.some.inj (show some (yX11_fresh, cX11_fresh, 2, (some .int), 0, 1, 0, 0) = some q from h); exact am_mok_141
  | 142, q, _, h => by obtain rfl := Option.some.inj (show some (yX11_settled, cX11_settled, 2, (some .int), 0, 1, 0, 0) = some q from h); exact am_mok_142
  | 143, q, _, h => by obtain rfl := Option.some.inj (show some (yX11_apart, cX11_apart, 3, (some .int), 0, 2, 0, 0) = some q from h); exact am_mok_143
  | 144, q, _, h => by obtain rfl := Option.some.inj (show some (yX11_nearest, cX11_nearest, 6, (some .int), 0, 1, 0, 0) = some q from h); exact am_mok_144
  | 145, q, _, h => by obtain rfl := Option.some.inj (show some (yX11_book, cX11_book, 2, (some .boolean), 0, 1, 0, 0) = some q from h); exact am_mok_145
  | 146, q, _, h => by obtain rfl := Option.some.inj (show some (yX11_kept, cX11_kept, 1, (some .int), 0, 0, 0, 0) = some q from h); exact am_mok_146
  | 147, q, _, h => by obtain rfl := Option.some.inj (show some (yX11_image, cX11_image, 2, (some .boolean), 0, 1, 8, 1246) = some q from h); exact am_mok_147
  | 148, q, _, h => by obtain rfl := Option.some.inj (show some (yX11_restore, cX11_restore, 2, (some .boolean), 0, 1, 0, 0) = some q from h); exact am_mok_148
  | 149, q, _, h => by obtain rfl := Option.some.inj (show some (yX11_status, cX11_status, 2, (some .int), 0, 1, 0, 0) = some q from h); exact am_mok_149
  | 150, q, _, h => by obtain rfl := Option.some.inj (show some (yX11_count, cX11_count, 2, (some .int), 0, 1, 0, 0) = some q from h); exact am_mok_150
  | 151, q, _, h => by obtain rfl := Option.some.inj (show some (yX11_refuse, cX11_refuse, 2, (some .int), 0, 1, 0, 0) = some q from h); exact am_mok_151
  | 152, q, _, h => by obtain rfl := Option.some.inj (show some (yX11_deny, cX11_deny, 2, (some .boolean), 0, 1, 0, 0) = some q from h); exact am_mok_152
  | 153, q, _, h => by obtain rfl := Option.some.inj (show some (yX11_hasBabyTrial, cX11_hasBabyTrial, 3, (some .boolean), 0, 2, 0, 0) = some q from h); exact am_mok_153
  | 154, q, _, h => by obtain rfl := Option.some.inj (show some (yX11_offFor, cX11_offFor, 5, (some .int), 0, 2, 0, 0) = some q from h); exact am_mok_154
  | 155, q, _, h => by obtain rfl := Option.some.inj (show some (yX11_offOf, cX11_offOf, 7, (some .int), 0, 2, 0, 0) = some q from h); exact am_mok_155
  | 156, q, _, h => by obtain rfl := Option.some.inj (show some (yX11_within, cX11_within, 3, (some .boolean), 1, 3, 0, 0) = some q from h); exact am_mok_156
  | 157, q, _, h => by obtain rfl := Option.some.inj (show some (yX11_brought, cX11_brought, 3, (some .int), 1, 3, 0, 0) = some q from h); exact am_mok_157
  | 158, q, _, h => by obtain rfl := Option.some.inj (show some (yX12_init, cX12_init, 1, none, 2, 0, 48, 74432) = some q from h); exact am_mok_158
  | 159, q, _, h => by obtain rfl := Option.some.inj (show some (yX12_in, cX12_in, 6, (some .boolean), 1, 3, 0, 0) = some q from h); exact am_mok_159
  | 160, q, _, h => by obtain rfl := Option.some.inj (show some (yX12_refuse, cX12_refuse, 3, (some .int), 0, 2, 0, 0) = some q from h); exact am_mok_160
  | 161, q, _, h => by obtain rfl := Option.some.inj (show some (yX12_deny, cX12_deny, 3, (some .boolean), 0, 2, 0, 0) = some q from h); exact am_mok_161
  | 162, q, _, h => by obtain rfl := Option.some.inj (show some (yX12_status, cX12_status, 2, (some .int), 0, 1, 0, 0) = some q from h); exact am_mok_162
  | 163, q, _, h => by obtain rfl := Option.some.inj (show some (yX12_liked, cX12_liked, 3, (some .boolean), 0, 2, 0, 0) = some q from h); exact am_mok_163
  | 164, q, _, h => by obtain rfl := Option.some.inj (show some (yX12_screen, cX12_screen, 6, (some .int), 0, 4, 0, 0) = some q from h); exact am_mok_164
  | 165, q, _, h => by obtain rfl := Option.some.inj (show some (yX12_isScreen, cX12_isScreen, 2, (some .boolean), 0, 1, 0, 0) = some q from h); exact am_mok_165
  | 166, q, _, h => by obtain rfl := Option.some.inj (show some (yX12_isOdd, cX12_isOdd, 2, (some .boolean), 0, 1, 0, 0) = some q from h); exact am_mok_166
  | 167, q, _, h => by obtain rfl := Option.some.inj (show some (yX12_on, cX12_on, 3, (some .int), 0, 2, 0, 0) = some q from h); exact am_mok_167
  | 168, q, _, h => by obtain rfl := Option.some.inj (show some (yX12_plan, cX12_plan, 1, (some .int), 0, 0, 0, 0) = some q from h); exact am_mok_168
  | 169, q, _, h => by obtain rfl := Option.some.inj (show some (yX12_isPlan, cX12_isPlan, 2, (some .boolean), 0, 1, 0, 0) = some q from h); exact am_mok_169
  | 170, q, _, h => by obtain rfl := Option.some.inj (show some (yX12_trial, cX12_trial, 7, (some .int), 0, 2, 0, 0) = some q from h); exact am_mok_170
  | 171, q, _, h => by obtain rfl := Option.some.inj (show some (yX12_row, cX12_row, 3, (some .int), 0, 2, 0, 0) = some q from h); exact am_mok_171
  | 172, q, _, h => by obtain rfl := Option.some.inj (show some (yX12_baby, cX12_baby, 5, (some .int), 0, 3, 0, 0) = some q from h); exact am_mok_172
  | 173, q, _, h => by obtain rfl := Option.some.inj (show some (yX12_isBaby, cX12_isBaby, 2, (some .boolean), 0, 1, 0, 0) = some q from h); exact am_mok_173
  | 174, q, _, h => by obtain rfl := Option.some.inj (show some (yX12_isTrial, cX12_isTrial, 3, (some .boolean), 0, 2, 0, 0) = some q from h); exact am_mok_174
  | 175, q, _, h => by obtain rfl := Option.some.inj (show some (yX12_gaze, cX12_gaze, 7, (some .int), 0, 3, 0, 0) = some q from h); exact am_mok_175
  | 176, q, _, h => by obtain rfl := Option.some.inj (show some (yX12_cried, cX12_cried, 3, (some .boolean), 0, 2, 0, 0) = some q from h); exact am_mok_176
  | 177, q, _, h => by obtain rfl := Option.some.inj (show some (yX12_rule, cX12_rule, 4, (some .boolean), 0, 3, 0, 0) = some q from h); exact am_mok_177
  | 178, q, _, h => by obtain rfl := Option.some.inj (show some (yX12_lean, cX12_lean, 2, (some .boolean), 0, 1, 0, 0) = some q from h); exact am_mok_178
  | 179, q, _, h => by obtain rfl := Option.some.inj (show some (yX12_reading, cX12_reading, 3, (some .boolean), 0, 2, 0, 0) = some q from h); exact am_mok_179
  | 180, q, _, h => by obtain rfl := Option.some.inj (show some (yX12_screenOf, cX12_screenOf, 3, (some .int), 0, 2, 0, 0) = some q from h); exact am_mok_180
  | 181, q, _, h => by obtain rfl := Option.some.inj (show some (yX12_plain, cX12_plain, 8, (some .int), 0, 2, 0, 0) = some q from h); exact am_mok_181
  | 182, q, _, h => by obtain rfl := Option.some.inj (show some (yX12_lengthOf, cX12_lengthOf, 4, (some .int), 0, 2, 0, 0) = some q from h); exact am_mok_182
  | 183, q, _, h => by obtain rfl := Option.some.inj (show some (yX12_length, cX12_length, 3, (some .int), 0, 2, 0, 0) = some q from h); exact am_mok_183
  | 184, q, _, h => by obtain rfl := Option.some.inj (show some (yX12_trialsOf, cX12_trialsOf, 2, (some .int), 0, 1, 0, 0) = some q from h); exact am_mok_184
  | 185, q, _, h => by obtain rfl := Option.some.inj (show some (yX12_readOf, cX12_readOf, 6, (some .int), 0, 2, 0, 0) = some q from h); exact am_mok_185
  | 186, q, _, h => by obtain rfl := Option.some.inj (show some (yX12_read, cX12_read, 3, (some .int), 0, 2, 0, 0) = some q from h); exact am_mok_186
  | 187, q, _, h => by obtain rfl := Option.some.inj (show some (yX12_feeds, cX12_feeds, 3, none, 0, 1, 0, 0) = some q from h); exact am_mok_187
  | 188, q, _, h => by obtain rfl := Option.some.inj (show some (yX12_feed, cX12_feed, 6, (some .int), 0, 5, 0, 0) = some q from h); exact am_mok_188
  | 189, q, _, h => by obtain rfl := Option.some.inj (show some (yX12_end, cX12_end, 2, (some .boolean), 0, 1, 0, 0) = some q from h); exact am_mok_189
  | 190, q, _, h => by obtain rfl := Option.some.inj (show some (yX12_between, cX12_between, 4, (some .boolean), 0, 3, 0, 0) = some q from h); exact am_mok_190
  | 191, q, _, h => by obtain rfl := Option.some.inj (show some (yX12_next, cX12_next, 1, none, 0, 0, 0, 0) = some q from h); exact am_mok_191
  | 192, q, _, h => by obtain rfl := Option.some.inj (show some (yX12_passes, cX12_passes, 2, (some .boolean), 0, 1, 0, 0) = some q from h); exact am_mok_192
  | 193, q, _, h => by obtain rfl := Option.some.inj (show some (yX12_isWord, cX12_isWord, 3, (some .boolean), 0, 1, 0, 0) = some q from h); exact am_mok_193
  | 194, q, _, h => by obtain rfl := Option.some.inj (show some (yX12_isSign, cX12_isSign, 2, (some .boolean), 0, 1, 0, 0) = some q from h); exact am_mok_194
  | 195, q, _, h => by obtain rfl := Option.some.inj (show some (yX12_nameHere, cX12_nameHere, 2, (some .int), 0, 0, 0, 0) = some q from h); exact am_mok_195
  | 196, q, _, h => by obtain rfl := Option.some.inj (show some (yX12_mark, cX12_mark, 2, none, 0, 1, 0, 0) = some q from h); exact am_mok_196
  | 197, q, _, h => by obtain rfl := Option.some.inj (show some (yX12_factor, cX12_factor, 4, (some .boolean), 0, 1, 0, 0) = some q from h); exact am_mok_197
  | 198, q, _, h => by obtain rfl := Option.some.inj (show some (yX12_product, cX12_product, 3, (some .boolean), 0, 1, 0, 0) = some q from h); exact am_mok_198
  | 199, q, _, h => by obtain rfl := Option.some.inj (show some (yX12_sum, cX12_sum, 3, (some .boolean), 0, 1, 0, 0) = some q from h); exact am_mok_199
  | 200, q, _, h => by obtain rfl := Option.some.inj (show some (yX12_whole, cX12_whole, 3, (some .boolean), 0, 1, 0, 0) = some q from h); exact am_mok_200
  | 201, q, _, h => by obtain rfl := Option.some.inj (show some (yX12_clause, cX12_clause, 2, (some .boolean), 0, 1, 0, 0) = some q from h); exact am_mok_201
  | 202, q, _, h => by obtain rfl := Option.some.inj (show some (yX12_newName, cX12_newName, 4, (some .long), 0, 0, 0, 0) = some q from h); exact am_mok_202
  | 203, q, _, h => by obtain rfl := Option.some.inj (show some (yX12_line, cX12_line, 3, (some .boolean), 0, 0, 0, 0) = some q from h); exact am_mok_203
  | 204, q, _, h => by obtain rfl := Option.some.inj (show some (yX12_reads, cX12_reads, 2, none, 0, 0, 0, 0) = some q from h); exact am_mok_204
  | 205, q, _, h => by obtain rfl := Option.some.inj (show some (yX12_fault, cX12_fault, 1, (some .int), 0, 0, 0, 0) = some q from h); exact am_mok_205
  | 206, q, _, h => by obtain rfl := Option.some.inj (show some (yX12_laws, cX12_laws, 2, (some .int), 0, 0, 0, 0) = some q from h); exact am_mok_206
  | 207, q, _, h => by obtain rfl := Option.some.inj (show some (yX12_brought, cX12_brought, 2, (some .int), 1, 1, 0, 0) = some q from h); exact am_mok_207
  | 208, q, _, h => by obtain rfl := Option.some.inj (show some (yX12_worked, cX12_worked, 9, (some .int), 0, 1, 0, 0) = some q from h); exact am_mok_208
  | 209, q, _, h => by obtain rfl := Option.some.inj (show some (yX12_isLaw, cX12_isLaw, 2, (some .boolean), 0, 1, 0, 0) = some q from h); exact am_mok_209
  | 210, q, _, h => by obtain rfl := Option.some.inj (show some (yX12_laysPlan, cX12_laysPlan, 3, none, 0, 1, 0, 0) = some q from h); exact am_mok_210
  | 211, q, _, h => by obtain rfl := Option.some.inj (show some (yX12_saysRow, cX12_saysRow, 8, none, 0, 2, 0, 0) = some q from h); exact am_mok_211
  | 212, q, _, h => by obtain rfl := Option.some.inj (show some (yX12_says, cX12_says, 5, (some .int), 0, 4, 0, 0) = some q from h); exact am_mok_212
  | 213, q, _, h => by obtain rfl := Option.some.inj (show some (yX12_outBy, cX12_outBy, 4, (some .int), 0, 1, 0, 0) = some q from h); exact am_mok_213
  | 214, q, _, h => by obtain rfl := Option.some.inj (show some (yX12_out, cX12_out, 4, (some .int), 0, 2, 0, 0) = some q from h); exact am_mok_214
  | 215, q, _, h => by obtain rfl := Option.some.inj (show some (yX12_leave, cX12_leave, 3, (some .boolean), 0, 2, 0, 0) = some q from h); exact am_mok_215
  | 216, q, _, h => by obtain rfl := Option.some.inj (show some (yX12_differenceOf, cX12_differenceOf, 8, (some .int), 0, 1, 0, 0) = some q from h); exact am_mok_216
  | 217, q, _, h => by obtain rfl := Option.some.inj (show some (yX12_difference, cX12_difference, 2, (some .int), 0, 1, 0, 0) = some q from h); exact am_mok_217
  | 218, q, _, h => by obtain rfl := Option.some.inj (show some (yX12_counts, cX12_counts, 5, none, 0, 2, 0, 0) = some q from h); exact am_mok_218
  | 219, q, _, h => by obtain rfl := Option.some.inj (show some (yX12_ofThousand, cX12_ofThousand, 1, (some .int), 0, 0, 0, 0) = some q from h); exact am_mok_219
  | 220, q, _, h => by obtain rfl := Option.some.inj (show some (yX12_odds, cX12_odds, 2, (some .int), 0, 1, 0, 0) = some q from h); exact am_mok_220
  | 221, q, _, h => by obtain rfl := Option.some.inj (show some (yX12_after, cX12_after, 16, (some .int), 0, 1, 0, 0) = some q from h); exact am_mok_221
  | 222, q, _, h => by obtain rfl := Option.some.inj (show some (yX12_leaving, cX12_leaving, 5, (some .int), 0, 1, 0, 0) = some q from h); exact am_mok_222
  | 223, q, _, h => by obtain rfl := Option.some.inj (show some (yX12_house, cX12_house, 6, (some .int), 0, 2, 0, 0) = some q from h); exact am_mok_223
  | 224, q, _, h => by obtain rfl := Option.some.inj (show some (yX12_joined, cX12_joined, 5, (some .int), 0, 1, 0, 0) = some q from h); exact am_mok_224
  | 225, q, _, h => by obtain rfl := Option.some.inj (show some (yX12_span, cX12_span, 6, (some .int), 0, 2, 0, 0) = some q from h); exact am_mok_225
  | 226, q, _, h => by obtain rfl := Option.some.inj (show some (yX12_spread, cX12_spread, 3, (some .boolean), 0, 2, 0, 0) = some q from h); exact am_mok_226
  | 227, q, _, h => by obtain rfl := Option.some.inj (show some (yX12_lot, cX12_lot, 2, (some .int), 0, 1, 0, 0) = some q from h); exact am_mok_227
  | 228, q, _, h => by obtain rfl := Option.some.inj (show some (yX12_draws, cX12_draws, 8, (some .int), 0, 2, 0, 0) = some q from h); exact am_mok_228
  | 229, q, _, h => by obtain rfl := Option.some.inj (show some (yX12_isLawOrNone, cX12_isLawOrNone, 2, (some .boolean), 0, 1, 0, 0) = some q from h); exact am_mok_229
  | 230, q, _, h => by obtain rfl := Option.some.inj (show some (yX12_world, cX12_world, 3, (some .int), 0, 2, 0, 0) = some q from h); exact am_mok_230
  | 231, q, _, h => by obtain rfl := Option.some.inj (show some (yX12_worlds, cX12_worlds, 8, (some .int), 0, 4, 0, 0) = some q from h); exact am_mok_231
  | 232, q, _, h => by obtain rfl := Option.some.inj (show some (yX12_signOf, cX12_signOf, 8, (some .int), 0, 2, 0, 0) = some q from h); exact am_mok_232
  | 233, q, _, h => by obtain rfl := Option.some.inj (show some (yX12_parts, cX12_parts, 5, (some .int), 0, 4, 0, 0) = some q from h); exact am_mok_233
  | 234, q, _, h => by obtain rfl := Option.some.inj (show some (yX12_rates, cX12_rates, 5, none, 0, 1, 0, 0) = some q from h); exact am_mok_234
  | 235, q, _, h => by obtain rfl := Option.some.inj (show some (yX12_rowsFrom, cX12_rowsFrom, 6, none, 0, 4, 0, 0) = some q from h); exact am_mok_235
  | 236, q, _, h => by obtain rfl := Option.some.inj (show some (yX12_next_, cX12_next_, 5, (some .int), 0, 3, 0, 0) = some q from h); exact am_mok_236
  | 237, q, _, h => by obtain rfl := Option.some.inj (show some (yX12_fresh, cX12_fresh, 8, (some .int), 0, 1, 0, 0) = some q from h); exact am_mok_237
  | 238, q, _, h => by obtain rfl := Option.some.inj (show some (yX12_settled, cX12_settled, 7, (some .int), 0, 1, 0, 0) = some q from h); exact am_mok_238
  | 239, q, _, h => by obtain rfl := Option.some.inj (show some (yX12_offOf, cX12_offOf, 6, (some .int), 0, 2, 0, 0) = some q from h); exact am_mok_239
  | 240, q, _, h => by obtain rfl := Option.some.inj (show some (yX12_offAll, cX12_offAll, 4, (some .int), 0, 1, 0, 0) = some q from h); exact am_mok_240
  | 241, q, _, h => by obtain rfl := Option.some.inj (show some (yX12_apart, cX12_apart, 3, (some .int), 0, 2, 0, 0) = some q from h); exact am_mok_241
  | 242, q, _, h => by obtain rfl := Option.some.inj (show some (yX12_nearest, cX12_nearest, 6, (some .int), 0, 1, 0, 0) = some q from h); exact am_mok_242
  | 243, q, _, h => by obtain rfl := Option.some.inj (show some (yX12_book, cX12_book, 4, (some .boolean), 0, 1, 1, 6) = some q from h); exact am_mok_243
  | 244, q, _, h => by obtain rfl := Option.some.inj (show some (yX12_leftMany, cX12_leftMany, 3, (some .int), 0, 0, 0, 0) = some q from h); exact am_mok_244
  | 245, q, _, h => by obtain rfl := Option.some.inj (show some (yX12_kept, cX12_kept, 2, (some .int), 0, 0, 0, 0) = some q from h); exact am_mok_245
  | 246, q, _, h => by obtain rfl := Option.some.inj (show some (yX12_move, cX12_move, 5, none, 0, 3, 0, 0) = some q from h); exact am_mok_246
  | 247, q, _, h => by obtain rfl := Option.some.inj (show some (yX12_moves, cX12_moves, 3, none, 0, 2, 0, 0) = some q from h); exact am_mok_247
  | 248, q, _, h => by obtain rfl := Option.some.inj (show some (yX12_image, cX12_image, 4, (some .boolean), 0, 1, 1, 7) = some q from h); exact am_mok_248
  | 249, q, _, h => by obtain rfl := Option.some.inj (show some (yX12_restore, cX12_restore, 2, (some .boolean), 0, 1, 0, 0) = some q from h); exact am_mok_249
  | 250, q, _, h => by obtain rfl := Option.some.inj (show some (yX12_count, cX12_count, 2, (some .int), 0, 1, 0, 0) = some q from h); exact am_mok_250
  | 251, q, _, h => by obtain rfl := Option.some.inj (show some (yJ6_compare_7cf53, cJ6_compare_7cf53, 2, (some .int), 1, 2, 0, 0) = some q from h); exact am_mok_251
  | 252, q, _, h => by obtain rfl := Option.some.inj (show some (yJ6_numberOfTrailingZeros_0f7a4, cJ6_numberOfTrailingZeros_0f7a4, 2, (some .int), 1, 1, 0, 0) = some q from h); exact am_mok_252
  | 253, q, _, h => by obtain rfl := Option.some.inj (show some (yJ6_bitCount_0f7a4, cJ6_bitCount_0f7a4, 1, (some .int), 1, 1, 0, 0) = some q from h); exact am_mok_253
  | 254, q, _, h => by obtain rfl := Option.some.inj (show some (yJ6_signum_0f7a4, cJ6_signum_0f7a4, 1, (some .int), 1, 1, 0, 0) = some q from h); exact am_mok_254
  | 255, q, _, h => by obtain rfl := Option.some.inj (show some (yJ0_length_8abf5, cJ0_length_8abf5, 1, (some .int), 0, 0, 0, 0) = some q from h); exact am_mok_255
  | 256, q, _, h => by obtain rfl := Option.some.inj (show some (yJ0_charAt_5068e, cJ0_charAt_5068e, 2, (some .char), 0, 1, 0, 0) = some q from h); exact am_mok_256
  | 257, q, _, h => by obtain rfl := Option.some.inj (show some (yJ0_coder_7d493, cJ0_coder_7d493, 1, (some .byte), 0, 0, 0, 0) = some q from h); exact am_mok_257
  | 258, q, _, h => by obtain rfl := Option.some.inj (show some (yJ0_isLatin1_aae02, cJ0_isLatin1_aae02, 1, (some .boolean), 0, 0, 0, 0) = some q from h); exact am_mok_258
  | 259, q, _, h => by obtain rfl := Option.some.inj (show some (yJ0_checkIndex_df160, cJ0_checkIndex_df160, 2, none, 1, 2, 0, 0) = some q from h); exact am_mok_259
  | 260, q, _, h => by obtain rfl := Option.some.inj (show some (yJ1_charAt_3b067, cJ1_charAt_3b067, 2, (some .char), 1, 2, 0, 0) = some q from h); exact am_mok_260
  | 261, q, _, h => by obtain rfl := Option.some.inj (show some (yJ3_checkIndex_8e157, cJ3_checkIndex_8e157, 3, (some .int), 1, 3, 0, 0) = some q from h); exact am_mok_261
  | 262, q, h, _ => absurd rfl h
  | n + 263, q, _, h => absurd (List.getElem?_eq_some_iff.mp h).1 (by show ¬ n + 263 < 263; omega)
