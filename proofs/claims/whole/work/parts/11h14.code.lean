def b_W_law_1552 : List am_E := [(.aload_n 1, 1, [], 0, 0), (.aload_n 0, 1, [], 0, 0), (.iload_n 3, 1, [], 0, 0), (.iconst 1, 1, [], 1, 0), (.iadd, 1, [], 0, 0), (.iaload, 1, [], 0, 0), (.invokevirtual 191, 3, [150, 1, 0, 0, 11], 0, 0), (.aload_n 2, 1, [], 0, 0), (.aload_n 0, 1, [], 0, 0), (.iload_n 3, 1, [], 0, 0), (.iconst 1, 1, [], 1, 0), (.iadd, 1, [], 0, 0), (.iaload, 1, [], 0, 0), (.invokevirtual 194, 3, [250, 1, 0, 0, 12], 0, 0), (.if_icmp .eq 5, 3, [1575], 0, 0), (.iconst 0, 1, [], 0, 0), (.ireturn, 1, [1], 0, 0)]
set_option maxRecDepth 100000 in
theorem ck_W_law_1552 : am_cks 20 (yL_law, cL_law, 4, (some .boolean), 1, 1, 708928, 6975464) b_W_law_1552 1552 = true := by decide +kernel
def b_W_law_1575 : List am_E := [(.iinc 3 6, 3, [], 6, 0), (.goto (-1560), 3, [18], 0, 0)]
set_option maxRecDepth 100000 in
theorem ck_W_law_1575 : am_cks 20 (yL_law, cL_law, 4, (some .boolean), 1, 1, 708928, 6975464) b_W_law_1575 1575 = true := by decide +kernel
def b_W_law_1581 : List am_E := [(.iconst 1, 1, [], 1, 0), (.ireturn, 1, [1], 0, 0)]
set_option maxRecDepth 100000 in
theorem ck_W_law_1581 : am_cks 20 (yL_law, cL_law, 4, (some .boolean), 1, 1, 708928, 6975464) b_W_law_1581 1581 = true := by decide +kernel
def b_W_law_18 : List am_E := [(.iload_n 3, 1, [], 0, 0), (.aload_n 0, 1, [], 0, 0), (.arraylength, 1, [], 0, 0), (.bipush 6, 2, [], 6, 0), (.isub, 1, [], 0, 0), (.if_icmp .gt 1557, 3, [1581], 0, 0), (.aload_n 0, 1, [], 0, 0), (.iload_n 3, 1, [], 0, 0), (.iaload, 1, [], 0, 0), (.bipush 63, 2, [], 63, 0), (.iand, 1, [], 0, 0), (.tableswitch 1542 0 42 #[187, 250, 273, 286, 299, 332, 385, 418, 431, 464, 497, 540, 583, 616, 659, 682, 715, 748, 781, 834, 867, 916, 939, 962, 985, 1008, 1041, 1064, 1097, 1130, 1163, 1216, 1269, 1312, 1335, 1358, 1391, 1414, 1437, 1450, 1473, 1496, 1519], 187, [1575, 220, 283, 306, 319, 332, 365, 418, 451, 464, 497, 530, 573, 616, 649, 692, 715, 748, 781, 814, 867, 900, 949, 972, 995, 1018, 1041, 1074, 1097, 1130, 1163, 1196, 1249, 1302, 1345, 1368, 1391, 1424, 1447, 1470, 1483, 1506, 1529, 1552], 0, 0)]
set_option maxRecDepth 100000 in
theorem ck_W_law_18 : am_cks 20 (yL_law, cL_law, 4, (some .boolean), 1, 1, 708928, 6975464) b_W_law_18 18 = true := by decide +kernel
