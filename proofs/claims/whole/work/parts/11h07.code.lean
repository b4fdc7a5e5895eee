def b_W_law_919 : List am_E := [(.invokevirtual 101, 3, [128, 2, 0, 0, 11], 0, 0), (.aload_n 2, 1, [], 0, 0), (.aload_n 0, 1, [], 0, 0), (.iload_n 3, 1, [], 0, 0), (.iconst 1, 1, [], 1, 0), (.iadd, 1, [], 0, 0), (.iaload, 1, [], 0, 0), (.aload_n 0, 1, [], 0, 0), (.iload_n 3, 1, [], 0, 0), (.iconst 2, 1, [], 2, 0), (.iadd, 1, [], 0, 0), (.iaload, 1, [], 0, 0), (.ifCond .eq 7, 3, [940], 0, 0), (.iconst 1, 1, [], 1, 0), (.goto 4, 3, [941], 0, 0)]
set_option maxRecDepth 100000 in
theorem ck_W_law_919 : am_cks 20 (yL_law, cL_law, 4, (some .boolean), 1, 1, 708928, 6975464) b_W_law_919 919 = true := by decide +kernel
def b_W_law_940 : List am_E := [(.iconst 0, 1, [], 0, 0)]
set_option maxRecDepth 100000 in
theorem ck_W_law_940 : am_cks 20 (yL_law, cL_law, 4, (some .boolean), 1, 1, 708928, 6975464) b_W_law_940 940 = true := by decide +kernel
def b_W_law_941 : List am_E := [(.invokevirtual 105, 3, [215, 2, 0, 0, 12], 0, 0), (.if_icmp .eq 631, 3, [1575], 0, 0), (.iconst 0, 1, [], 0, 0), (.ireturn, 1, [1], 0, 0)]
set_option maxRecDepth 100000 in
theorem ck_W_law_941 : am_cks 20 (yL_law, cL_law, 4, (some .boolean), 1, 1, 708928, 6975464) b_W_law_941 941 = true := by decide +kernel
def b_W_law_949 : List am_E := [(.aload_n 1, 1, [], 0, 0), (.aload_n 0, 1, [], 0, 0), (.iload_n 3, 1, [], 0, 0), (.iconst 1, 1, [], 1, 0), (.iadd, 1, [], 0, 0), (.iaload, 1, [], 0, 0), (.invokevirtual 106, 3, [129, 1, 0, 0, 11], 0, 0), (.aload_n 2, 1, [], 0, 0), (.aload_n 0, 1, [], 0, 0), (.iload_n 3, 1, [], 0, 0), (.iconst 1, 1, [], 1, 0), (.iadd, 1, [], 0, 0), (.iaload, 1, [], 0, 0), (.invokevirtual 110, 3, [217, 1, 0, 0, 12], 0, 0), (.if_icmp .eq 608, 3, [1575], 0, 0), (.iconst 0, 1, [], 0, 0), (.ireturn, 1, [1], 0, 0)]
set_option maxRecDepth 100000 in
theorem ck_W_law_949 : am_cks 20 (yL_law, cL_law, 4, (some .boolean), 1, 1, 708928, 6975464) b_W_law_949 949 = true := by decide +kernel
def b_W_law_972 : List am_E := [(.aload_n 1, 1, [], 0, 0), (.aload_n 0, 1, [], 0, 0), (.iload_n 3, 1, [], 0, 0), (.iconst 1, 1, [], 1, 0), (.iadd, 1, [], 0, 0), (.iaload, 1, [], 0, 0), (.invokevirtual 111, 3, [130, 1, 0, 0, 11], 0, 0), (.aload_n 2, 1, [], 0, 0), (.aload_n 0, 1, [], 0, 0), (.iload_n 3, 1, [], 0, 0), (.iconst 1, 1, [], 1, 0), (.iadd, 1, [], 0, 0), (.iaload, 1, [], 0, 0), (.invokevirtual 114, 3, [220, 1, 0, 0, 12], 0, 0), (.if_icmp .eq 585, 3, [1575], 0, 0), (.iconst 0, 1, [], 0, 0), (.ireturn, 1, [1], 0, 0)]
set_option maxRecDepth 100000 in
theorem ck_W_law_972 : am_cks 20 (yL_law, cL_law, 4, (some .boolean), 1, 1, 708928, 6975464) b_W_law_972 972 = true := by decide +kernel
def b_W_law_995 : List am_E := [(.aload_n 1, 1, [], 0, 0), (.aload_n 0, 1, [], 0, 0), (.iload_n 3, 1, [], 0, 0), (.iconst 1, 1, [], 1, 0), (.iadd, 1, [], 0, 0), (.iaload, 1, [], 0, 0), (.invokevirtual 115, 3, [131, 1, 0, 0, 11], 0, 0), (.aload_n 2, 1, [], 0, 0), (.aload_n 0, 1, [], 0, 0), (.iload_n 3, 1, [], 0, 0), (.iconst 1, 1, [], 1, 0), (.iadd, 1, [], 0, 0), (.iaload, 1, [], 0, 0), (.invokevirtual 118, 3, [221, 1, 0, 0, 12], 0, 0), (.if_icmp .eq 562, 3, [1575], 0, 0), (.iconst 0, 1, [], 0, 0), (.ireturn, 1, [1], 0, 0)]
set_option maxRecDepth 100000 in
theorem ck_W_law_995 : am_cks 20 (yL_law, cL_law, 4, (some .boolean), 1, 1, 708928, 6975464) b_W_law_995 995 = true := by decide +kernel
def b_W_law_1018 : List am_E := [(.aload_n 1, 1, [], 0, 0), (.aload_n 0, 1, [], 0, 0), (.iload_n 3, 1, [], 0, 0), (.iconst 1, 1, [], 1, 0), (.iadd, 1, [], 0, 0), (.iaload, 1, [], 0, 0), (.invokevirtual 119, 3, [132, 1, 0, 0, 11], 0, 0), (.aload_n 2, 1, [], 0, 0), (.aload_n 0, 1, [], 0, 0), (.iload_n 3, 1, [], 0, 0), (.iconst 1, 1, [], 1, 0), (.iadd, 1, [], 0, 0), (.iaload, 1, [], 0, 0), (.invokevirtual 122, 3, [222, 1, 0, 0, 12], 0, 0), (.if_icmp .eq 539, 3, [1575], 0, 0), (.iconst 0, 1, [], 0, 0), (.ireturn, 1, [1], 0, 0)]
set_option maxRecDepth 100000 in
theorem ck_W_law_1018 : am_cks 20 (yL_law, cL_law, 4, (some .boolean), 1, 1, 708928, 6975464) b_W_law_1018 1018 = true := by decide +kernel
