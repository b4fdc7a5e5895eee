def lI (n : Nat) : Int64 := Int64.ofNat n
theorem lI_T {n : Nat} (h : n < 9223372036854775808) : (lI n).toInt = (n : Int) := by
  unfold lI
  exact Int64.toInt_ofNat_of_lt h
theorem nI_lI {n : Nat} (h : n < 2147483648) : (nI n).toInt64 = lI n := by
  apply Int64.toInt_inj.mp
  rw [Int32.toInt_toInt64, nI_toInt h, lI_T (by omega)]
theorem lI_nI {n : Nat} (h : n < 2147483648) : (lI n).toInt32 = nI n := by
  apply Int32.toInt_inj.mp
  rw [Int64.toInt_toInt32, lI_T (by omega), nI_toInt h]
  apply Int.bmod_eq_of_le <;> omega
def lcg (x : Nat) : Nat := (x * 1103515245 + 12345) % 2147483648
theorem lcg_lt (x : Nat) : lcg x < 2147483648 := Nat.mod_lt _ (by decide)
theorem lI_mul (a b : Nat) : lI a * lI b = lI (a * b) := by unfold lI; rw [← Int64.ofNat_mul]
theorem lI_add (a b : Nat) : lI a + lI b = lI (a + b) := by unfold lI; rw [← Int64.ofNat_add]
theorem lI_bv (n : Nat) : (lI n).toBitVec = BitVec.ofNat 64 n := rfl
theorem lI_and (a b : Nat) : lI a &&& lI b = lI (a &&& b) := by
  apply Int64.toBitVec_inj.mp
  rw [Int64.toBitVec_and, lI_bv, lI_bv, lI_bv, BitVec.ofNat_and]
theorem lcg_64 (x : Nat) : (lI x * 1103515245 + 12345) &&& 2147483647 = lI (lcg x) := by
  rw [show (1103515245 : Int64) = lI 1103515245 from rfl, show (12345 : Int64) = lI 12345 from rfl, show (2147483647 : Int64) = lI 2147483647 from rfl, lI_mul, lI_add, lI_and]
  unfold lcg
  rw [show (2147483647 : Nat) = 2 ^ 31 - 1 from rfl, Nat.and_two_pow_sub_one_eq_mod]
theorem lI_div {a b : Nat} (ha : a < 9223372036854775808) (hb : b < 9223372036854775808) : lI a / lI b = lI (a / b) := by
  apply Int64.toInt_inj.mp
  have h1 : a / b ≤ a := Nat.div_le_self a b
  rw [Int64.toInt_div, lI_T ha, lI_T hb, lI_T (by omega), ← Int.ofNat_tdiv]
  generalize a / b = q at h1 ⊢
  apply Int.bmod_eq_of_le <;> omega
theorem lI_sub {a b : Nat} (h : b ≤ a) (ha : a < 9223372036854775808) : lI a - lI b = lI (a - b) := by
  apply Int64.toInt_inj.mp
  rw [Int64.toInt_sub, lI_T ha, lI_T (by omega), lI_T (by omega), Int.bmod_eq_of_le (by omega) (by omega)]
  omega
theorem lI_rem {a b : Nat} (ha : a < 9223372036854775808) (hb : b < 9223372036854775808) : lI a - lI a / lI b * lI b = lI (a % b) := by
  have h2 : a / b * b ≤ a := Nat.div_mul_le_self a b
  rw [lI_div ha hb, lI_mul, lI_sub h2 ha]
  have h1 := Nat.div_add_mod a b
  rw [Nat.mul_comm] at h1
  congr 1
  omega
theorem lI_0 {n : Nat} (h : n < 9223372036854775808) : (lI n = 0) = (n = 0) := by
  refine propext ⟨fun e => ?_, fun e => by rw [e]; rfl⟩
  have := congrArg Int64.toInt e
  rw [lI_T h, show (0 : Int64).toInt = 0 from rfl] at this
  omega
section T66
variable {X : am_X} {d : Nat} {K : am_K} {S : am_S} {M : am_M} {L : am_L} {V : am_M}
theorem c_R_lot {n x : Nat} (hE : am_env S) (hx : L 70 52 = lI x) (hn : 0 < n) (hn2 : n < 2147483648) (k : K (some (.int (nI (lcg x / 256 % n)))) S M (am_u L 70 52 (lI (lcg x)))) : am_Call X d m_R_lot [.ref 70, .int (nI n)] S M L K := by
  have e1 := lcg_64 x
  have l1 := lcg_lt x
  refine EE_R_lot pt34_ok ?_
  simp only [s_aload_0_ref, s_get1, s_i2l, s_iload_1_int, s_ireturn, s_l2i, s_ladd, s_land, s_ldc2_w, s_ldiv, s_lmul, s_lrem, s_put1, J_R_lot_0, b_R_lot_0, s_end, true_and, and_true, or_true, true_or, if_true, if_false, ite_true, ite_false, List.map_nil, List.map_cons, List.sum_nil, List.sum_cons, List.nil_append, List.cons_append, Option.toList_some, Option.toList_none, Nat.reduceAdd, Nat.reduceLeDiff, Nat.reduceSub, Nat.zero_le, List.headD_cons, List.tail_cons, List.length_cons, List.length_nil, ne_eq, reduceCtorEq, false_or, or_false, not_false_eq_true, Nat.reduceEqDiff, Nat.reduceLT, am_sw, bI_0, bI_z, bI_y, Classical.not_not, Nat.le_add_left, am_u_row2, am_r_row2, am_u_same, am_u_at, am_r_same, Int32.reduceLT, Int32.reduceLE, Int32.reduceAdd, Int32.reduceSub, Int32.reduceMul, forall_const, not_true_eq_false, implies_true, false_imp_iff, true_imp_iff, i_10, i_01, i_m10, i_m11, eq_self, or_self, false_and, and_false, and_self, am_so_some, am_pv_some, am_pv_none, l_cl_none, l_cl_int, l_cl_ref, l_cl_ra, l_cl_null, l_cl_long, cat_int, cat_ref, cat_long, cat_ra, cat_null, cl_0, cl_1, cl_2, cl_3, cl_4, cl_5, cl_6, cl_7, cl_8, cl_9, cl_10, cl_11, cl_12, cl_13, cl_14, cl_15, cl_16, cl_30, cl_64, cl_500, vl_0_2, vl_0_3, vl_0_4, vl_0_6, vl_0_7, vl_0_12, vl_0_16, vl_0_1400, vl_1_2, vl_1_3, vl_1_4, vl_1_6, vl_1_7, vl_1_12, vl_1_16, vl_1_1400, vl_2_3, vl_2_4, vl_2_6, vl_2_7, vl_2_12, vl_2_16, vl_2_1400, vl_3_4, vl_3_6, vl_3_7, vl_3_12, vl_3_16, vl_3_1400, vl_4_6, vl_4_7, vl_4_12, vl_4_16, vl_4_1400, vl_5_6, vl_5_7, vl_5_12, vl_5_16, vl_5_1400, vl_6_7, vl_6_12, vl_6_16, vl_6_1400, vl_7_12, vl_7_16, vl_8_12, vl_8_16, vl_9_12, vl_9_16, vl_10_12, vl_10_16, vl_11_12, vl_11_16, i_64le_e, i64a_0, i64b_0, i64a_1, i64b_1, i64a_2, i64b_2, i64a_3, i64b_3, i64a_4, i64b_4, i64a_5, i64b_5, i64a_7, i64b_7, i64a_8, i64b_8, i64a_9, i64b_9, i64a_10, i64b_10, i64a_16, i64b_16, i64a_50, i64b_50, i64a_m50, i64b_m50, i64a_60, i64b_60, i64a_99, i64b_99, i64a_100, i64b_100, i64a_500, i64b_500, i64a_600, i64b_600, i64a_1000, i64b_1000, i64a_1000000, i64b_1000000, i64a_m9, i64b_m9, e_s_70, e_i_70, e_l_70, e_p_70_0, e_p_70_1, e_p_70_2, e_p_70_3, e_p_70_4, e_p_70_5, e_p_70_6, e_p_70_7, e_p_70_10, e_p_70_11, e_p_70_12, e_p_70_13, e_p_70_14, e_p_70_15, e_p_70_16, e_p_70_24, e_p_70_29, e_p_70_30, e_p_70_31, e_p_70_32, e_p_70_33, e_p_70_34, e_p_70_35, e_p_70_36, e_p_70_37, e_p_70_38, e_p_70_39, e_p_70_41, e_p_70_42, e_p_70_44, e_p_70_45, e_p_70_46, e_p_70_53, e_p_70_54, e_p_70_55, e_p_70_56, e_p_70_59, e_p_70_61, e_p_70_62, hx, e1, hE]
  have i256 : ((256 : Int64) = 0) = False := by decide
  have e2 : lI (lcg x) / 256 = lI (lcg x / 256) := lI_div (b := 256) (by omega) (by decide)
  have d1 : lcg x / 256 ≤ lcg x := Nat.div_le_self _ _
  have e3 : lI (lcg x / 256) - lI (lcg x / 256) / lI n * lI n = lI (lcg x / 256 % n) := lI_rem (by omega) (by omega)
  have d2 : lcg x / 256 % n < n := Nat.mod_lt _ hn
  have e4 : (lI (lcg x / 256 % n)).toInt32 = nI (lcg x / 256 % n) := lI_nI (by omega)
  have e5 : (lI n = 0) = (n = 0) := lI_0 (by omega)
  have e6 : ¬ n = 0 := by omega
  simp only [nI_lI hn2, e2, e3, e4, e5, e6, i256, not_false_eq_true, true_and]
  exact k
theorem c_Teller_lot {n x : Nat} (hE : am_env S) (hx : M 48 4 = nI x) (hx2 : x < 2147483648) (hn : 0 < n) (hn2 : n < 2147483648) (k : K (some (.int (nI (lcg x / 256 % n)))) S (am_u M 48 4 (nI (lcg x))) L) : am_Call X d m_Teller_lot [.ref 48, .int (nI n)] S M L K := by
  have e1 := lcg_64 x
  have l1 := lcg_lt x
  have e0 := nI_lI hx2
  have e4 := lI_nI l1
  refine EE_Teller_lot pt34_ok ?_
  simp only [s_aload_0_ref, s_get0, s_goto, s_i2l, s_iconst, s_idiv, s_if_le, s_iload_1_int, s_irem, s_ireturn, s_l2i, s_ladd, s_land, s_ldc2_w, s_lmul, s_put0, s_sipush, J_Teller_lot_0, b_Teller_lot_0, J_Teller_lot_39, b_Teller_lot_39, J_Teller_lot_40, b_Teller_lot_40, s_end, true_and, and_true, or_true, true_or, if_true, if_false, ite_true, ite_false, List.map_nil, List.map_cons, List.sum_nil, List.sum_cons, List.nil_append, List.cons_append, Option.toList_some, Option.toList_none, Nat.reduceAdd, Nat.reduceLeDiff, Nat.reduceSub, Nat.zero_le, List.headD_cons, List.tail_cons, List.length_cons, List.length_nil, ne_eq, reduceCtorEq, false_or, or_false, not_false_eq_true, Nat.reduceEqDiff, Nat.reduceLT, am_sw, bI_0, bI_z, bI_y, Classical.not_not, Nat.le_add_left, am_u_row2, am_r_row2, am_u_same, am_u_at, am_r_same, Int32.reduceLT, Int32.reduceLE, Int32.reduceAdd, Int32.reduceSub, Int32.reduceMul, forall_const, not_true_eq_false, implies_true, false_imp_iff, true_imp_iff, i_10, i_01, i_m10, i_m11, eq_self, or_self, false_and, and_false, and_self, am_so_some, am_pv_some, am_pv_none, l_cl_none, l_cl_int, l_cl_ref, l_cl_ra, l_cl_null, l_cl_long, cat_int, cat_ref, cat_long, cat_ra, cat_null, cl_0, cl_1, cl_2, cl_3, cl_4, cl_5, cl_6, cl_7, cl_8, cl_9, cl_10, cl_11, cl_12, cl_13, cl_14, cl_15, cl_16, cl_30, cl_64, cl_500, vl_0_2, vl_0_3, vl_0_4, vl_0_6, vl_0_7, vl_0_12, vl_0_16, vl_0_1400, vl_1_2, vl_1_3, vl_1_4, vl_1_6, vl_1_7, vl_1_12, vl_1_16, vl_1_1400, vl_2_3, vl_2_4, vl_2_6, vl_2_7, vl_2_12, vl_2_16, vl_2_1400, vl_3_4, vl_3_6, vl_3_7, vl_3_12, vl_3_16, vl_3_1400, vl_4_6, vl_4_7, vl_4_12, vl_4_16, vl_4_1400, vl_5_6, vl_5_7, vl_5_12, vl_5_16, vl_5_1400, vl_6_7, vl_6_12, vl_6_16, vl_6_1400, vl_7_12, vl_7_16, vl_8_12, vl_8_16, vl_9_12, vl_9_16, vl_10_12, vl_10_16, vl_11_12, vl_11_16, i_64le_e, i64a_0, i64b_0, i64a_1, i64b_1, i64a_2, i64b_2, i64a_3, i64b_3, i64a_4, i64b_4, i64a_5, i64b_5, i64a_7, i64b_7, i64a_8, i64b_8, i64a_9, i64b_9, i64a_10, i64b_10, i64a_16, i64b_16, i64a_50, i64b_50, i64a_m50, i64b_m50, i64a_60, i64b_60, i64a_99, i64b_99, i64a_100, i64b_100, i64a_500, i64b_500, i64a_600, i64b_600, i64a_1000, i64b_1000, i64a_1000000, i64b_1000000, i64a_m9, i64b_m9, e_s_16, e_i_16, e_l_16, e_p_16_0, e_p_16_1, e_p_16_2, e_p_16_3, e_p_16_4, e_p_16_5, e_s_23, e_i_23, e_l_23, e_p_23_0, e_p_23_1, e_p_23_2, e_p_23_3, e_p_23_4, e_p_23_5, e_p_23_6, e_s_31, e_i_31, e_l_31, e_p_31_0, e_p_31_1, e_p_31_2, e_p_31_3, e_p_31_4, e_p_31_5, e_p_31_6, e_s_48, e_i_48, e_l_48, e_p_48_0, e_p_48_1, e_p_48_2, e_p_48_3, e_p_48_5, e_s_49, e_i_49, e_l_49, e_s_50, e_i_50, e_l_50, hx, e0, e1, e4, hE]
  have i256 : ((256 : Int32) = 0) = False := by decide
  have e2 : nI (lcg x) / 256 = nI (lcg x / 256) := nI_div (b := 256) (by omega) (by decide)
  have d1 : lcg x / 256 ≤ lcg x := Nat.div_le_self _ _
  have e3 : nI (lcg x / 256) - nI (lcg x / 256) / nI n * nI n = nI (lcg x / 256 % n) := nI_rem (by omega) (by omega)
  have e6 : ¬ n = 0 := by omega
  simp (disch := omega) only [e2, e3, e6, i256, nI_clamp, nI_le', nI_lt', nI_eq', rem2_1, rem2_0, nI_eq0, nI_le0, nI_0lt, nI_0le, nI_lt0, nI_m1, vp_inE, nm_nI, i_20, nI_1, nI_add, and_true, true_and, and_self, or_true, true_or, or_false, false_or, false_and, and_false, not_true_eq_false, not_false_eq_true, if_true, if_false, ite_true, ite_false, false_imp_iff, true_imp_iff, rsn_00, rsn_10, rsn_01, rsn_11, n_09, n_19, n_29, n_99, implies_true, bI_t, bI_f, or_self, ne_eq, eq_self, Classical.not_not, Bool.false_eq_true]
  exact k
/-- a look as it is drawn -/
def lkI (V : am_M) (u : Int32) (x : Nat) : Int32 := bro (if lcg (lcg x) / 256 % 16 = 0 then (u + nI (lcg x / 256 % (2 * nm (V 70 50) + 1)) - V 70 50) * V 70 51 else u + nI (lcg x / 256 % (2 * nm (V 70 50) + 1)) - V 70 50) 1 600
theorem c_Teller_drawLook {x : Nat} {u : Int32} (hE : am_env S) (hC : CV V M) (hI : IV V) (hx : M 48 4 = nI x) (hx2 : x < 2147483648) (k : K (some (.int (lkI V u x))) S (am_u M 48 4 (nI (lcg (lcg x)))) L) : am_Call X (d + 2) m_Teller_drawLook [.ref 48, .int u] S M L K := by
  have sp := hI.sp
  have s6 : M 48 6 = V 70 50 := hC.sp
  have s7 : M 48 7 = V 70 51 := hC.lo
  unfold lkI at k
  generalize hs : nm (V 70 50) = s at *
  have e1 : (2 : Int32) * nI s + 1 = nI (2 * s + 1) := by rw [show (2 : Int32) * nI s = nI (2 * s) from nI_mul 2 s, nI_succ]
  have s1 := sp.1
  refine EE_Teller_drawLook pt34_ok ?_
  simp only [s_aload_0_ref, s_bipush, s_get0, s_iadd, s_iconst, s_if_ne, s_iload_1_int, s_iload_2_int, s_imul, s_ireturn, s_ist_3, s_istore_2_int, s_isub, s_iv_1, s_sipush, J_Teller_drawLook_0, b_Teller_drawLook_0, J_Teller_drawLook_36, b_Teller_drawLook_36, s_end, true_and, and_true, or_true, true_or, if_true, if_false, ite_true, ite_false, List.map_nil, List.map_cons, List.sum_nil, List.sum_cons, List.nil_append, List.cons_append, Option.toList_some, Option.toList_none, Nat.reduceAdd, Nat.reduceLeDiff, Nat.reduceSub, Nat.zero_le, List.headD_cons, List.tail_cons, List.length_cons, List.length_nil, ne_eq, reduceCtorEq, false_or, or_false, not_false_eq_true, Nat.reduceEqDiff, Nat.reduceLT, am_sw, bI_0, bI_z, bI_y, Classical.not_not, Nat.le_add_left, am_u_row2, am_r_row2, am_u_same, am_u_at, am_r_same, Int32.reduceLT, Int32.reduceLE, Int32.reduceAdd, Int32.reduceSub, Int32.reduceMul, forall_const, not_true_eq_false, implies_true, false_imp_iff, true_imp_iff, i_10, i_01, i_m10, i_m11, eq_self, or_self, false_and, and_false, and_self, am_so_some, am_pv_some, am_pv_none, l_cl_none, l_cl_int, l_cl_ref, l_cl_ra, l_cl_null, l_cl_long, cat_int, cat_ref, cat_long, cat_ra, cat_null, cl_0, cl_1, cl_2, cl_3, cl_4, cl_5, cl_6, cl_7, cl_8, cl_9, cl_10, cl_11, cl_12, cl_13, cl_14, cl_15, cl_16, cl_30, cl_64, cl_500, vl_0_2, vl_0_3, vl_0_4, vl_0_6, vl_0_7, vl_0_12, vl_0_16, vl_0_1400, vl_1_2, vl_1_3, vl_1_4, vl_1_6, vl_1_7, vl_1_12, vl_1_16, vl_1_1400, vl_2_3, vl_2_4, vl_2_6, vl_2_7, vl_2_12, vl_2_16, vl_2_1400, vl_3_4, vl_3_6, vl_3_7, vl_3_12, vl_3_16, vl_3_1400, vl_4_6, vl_4_7, vl_4_12, vl_4_16, vl_4_1400, vl_5_6, vl_5_7, vl_5_12, vl_5_16, vl_5_1400, vl_6_7, vl_6_12, vl_6_16, vl_6_1400, vl_7_12, vl_7_16, vl_8_12, vl_8_16, vl_9_12, vl_9_16, vl_10_12, vl_10_16, vl_11_12, vl_11_16, i_64le_e, i64a_0, i64b_0, i64a_1, i64b_1, i64a_2, i64b_2, i64a_3, i64b_3, i64a_4, i64b_4, i64a_5, i64b_5, i64a_7, i64b_7, i64a_8, i64b_8, i64a_9, i64b_9, i64a_10, i64b_10, i64a_16, i64b_16, i64a_50, i64b_50, i64a_m50, i64b_m50, i64a_60, i64b_60, i64a_99, i64b_99, i64a_100, i64b_100, i64a_500, i64b_500, i64a_600, i64b_600, i64a_1000, i64b_1000, i64a_1000000, i64b_1000000, i64a_m9, i64b_m9, e_s_16, e_i_16, e_l_16, e_p_16_0, e_p_16_1, e_p_16_2, e_p_16_3, e_p_16_4, e_p_16_5, e_s_23, e_i_23, e_l_23, e_p_23_0, e_p_23_1, e_p_23_2, e_p_23_3, e_p_23_4, e_p_23_5, e_p_23_6, e_s_31, e_i_31, e_l_31, e_p_31_0, e_p_31_1, e_p_31_2, e_p_31_3, e_p_31_4, e_p_31_5, e_p_31_6, e_s_48, e_i_48, e_l_48, e_p_48_0, e_p_48_1, e_p_48_2, e_p_48_3, e_p_48_5, e_s_49, e_i_49, e_l_49, e_s_50, e_i_50, e_l_50, pt34_L_brought, s6, s1, e1, hE]
  refine am_cal_no rfl (c_Teller_lot hE hx hx2 (by omega) (by omega) ?_)
  simp only [s_aload_0_ref, s_bipush, s_get0, s_iadd, s_iconst, s_if_ne, s_iload_1_int, s_iload_2_int, s_imul, s_ireturn, s_ist_3, s_istore_2_int, s_isub, s_iv_1, s_sipush, J_Teller_drawLook_0, b_Teller_drawLook_0, J_Teller_drawLook_36, b_Teller_drawLook_36, s_end, true_and, and_true, or_true, true_or, if_true, if_false, ite_true, ite_false, List.map_nil, List.map_cons, List.sum_nil, List.sum_cons, List.nil_append, List.cons_append, Option.toList_some, Option.toList_none, Nat.reduceAdd, Nat.reduceLeDiff, Nat.reduceSub, Nat.zero_le, List.headD_cons, List.tail_cons, List.length_cons, List.length_nil, ne_eq, reduceCtorEq, false_or, or_false, not_false_eq_true, Nat.reduceEqDiff, Nat.reduceLT, am_sw, bI_0, bI_z, bI_y, Classical.not_not, Nat.le_add_left, am_u_row2, am_r_row2, am_u_same, am_u_at, am_r_same, Int32.reduceLT, Int32.reduceLE, Int32.reduceAdd, Int32.reduceSub, Int32.reduceMul, forall_const, not_true_eq_false, implies_true, false_imp_iff, true_imp_iff, i_10, i_01, i_m10, i_m11, eq_self, or_self, false_and, and_false, and_self, am_so_some, am_pv_some, am_pv_none, l_cl_none, l_cl_int, l_cl_ref, l_cl_ra, l_cl_null, l_cl_long, cat_int, cat_ref, cat_long, cat_ra, cat_null, cl_0, cl_1, cl_2, cl_3, cl_4, cl_5, cl_6, cl_7, cl_8, cl_9, cl_10, cl_11, cl_12, cl_13, cl_14, cl_15, cl_16, cl_30, cl_64, cl_500, vl_0_2, vl_0_3, vl_0_4, vl_0_6, vl_0_7, vl_0_12, vl_0_16, vl_0_1400, vl_1_2, vl_1_3, vl_1_4, vl_1_6, vl_1_7, vl_1_12, vl_1_16, vl_1_1400, vl_2_3, vl_2_4, vl_2_6, vl_2_7, vl_2_12, vl_2_16, vl_2_1400, vl_3_4, vl_3_6, vl_3_7, vl_3_12, vl_3_16, vl_3_1400, vl_4_6, vl_4_7, vl_4_12, vl_4_16, vl_4_1400, vl_5_6, vl_5_7, vl_5_12, vl_5_16, vl_5_1400, vl_6_7, vl_6_12, vl_6_16, vl_6_1400, vl_7_12, vl_7_16, vl_8_12, vl_8_16, vl_9_12, vl_9_16, vl_10_12, vl_10_16, vl_11_12, vl_11_16, i_64le_e, i64a_0, i64b_0, i64a_1, i64b_1, i64a_2, i64b_2, i64a_3, i64b_3, i64a_4, i64b_4, i64a_5, i64b_5, i64a_7, i64b_7, i64a_8, i64b_8, i64a_9, i64b_9, i64a_10, i64b_10, i64a_16, i64b_16, i64a_50, i64b_50, i64a_m50, i64b_m50, i64a_60, i64b_60, i64a_99, i64b_99, i64a_100, i64b_100, i64a_500, i64b_500, i64a_600, i64b_600, i64a_1000, i64b_1000, i64a_1000000, i64b_1000000, i64a_m9, i64b_m9, e_s_16, e_i_16, e_l_16, e_p_16_0, e_p_16_1, e_p_16_2, e_p_16_3, e_p_16_4, e_p_16_5, e_s_23, e_i_23, e_l_23, e_p_23_0, e_p_23_1, e_p_23_2, e_p_23_3, e_p_23_4, e_p_23_5, e_p_23_6, e_s_31, e_i_31, e_l_31, e_p_31_0, e_p_31_1, e_p_31_2, e_p_31_3, e_p_31_4, e_p_31_5, e_p_31_6, e_s_48, e_i_48, e_l_48, e_p_48_0, e_p_48_1, e_p_48_2, e_p_48_3, e_p_48_5, e_s_49, e_i_49, e_l_49, e_s_50, e_i_50, e_l_50, pt34_L_brought, s6, s7, hE]
  rw [show (16 : Int32) = nI 16 from rfl]
  refine am_cal_no rfl (c_Teller_lot (x := lcg x) hE am_u_same (lcg_lt x) (by decide) (by decide) ?_)
  simp only [s_aload_0_ref, s_bipush, s_get0, s_iadd, s_iconst, s_if_ne, s_iload_1_int, s_iload_2_int, s_imul, s_ireturn, s_ist_3, s_istore_2_int, s_isub, s_iv_1, s_sipush, J_Teller_drawLook_0, b_Teller_drawLook_0, J_Teller_drawLook_36, b_Teller_drawLook_36, s_end, true_and, and_true, or_true, true_or, if_true, if_false, ite_true, ite_false, List.map_nil, List.map_cons, List.sum_nil, List.sum_cons, List.nil_append, List.cons_append, Option.toList_some, Option.toList_none, Nat.reduceAdd, Nat.reduceLeDiff, Nat.reduceSub, Nat.zero_le, List.headD_cons, List.tail_cons, List.length_cons, List.length_nil, ne_eq, reduceCtorEq, false_or, or_false, not_false_eq_true, Nat.reduceEqDiff, Nat.reduceLT, am_sw, bI_0, bI_z, bI_y, Classical.not_not, Nat.le_add_left, am_u_row2, am_r_row2, am_u_same, am_u_at, am_r_same, Int32.reduceLT, Int32.reduceLE, Int32.reduceAdd, Int32.reduceSub, Int32.reduceMul, forall_const, not_true_eq_false, implies_true, false_imp_iff, true_imp_iff, i_10, i_01, i_m10, i_m11, eq_self, or_self, false_and, and_false, and_self, am_so_some, am_pv_some, am_pv_none, l_cl_none, l_cl_int, l_cl_ref, l_cl_ra, l_cl_null, l_cl_long, cat_int, cat_ref, cat_long, cat_ra, cat_null, cl_0, cl_1, cl_2, cl_3, cl_4, cl_5, cl_6, cl_7, cl_8, cl_9, cl_10, cl_11, cl_12, cl_13, cl_14, cl_15, cl_16, cl_30, cl_64, cl_500, vl_0_2, vl_0_3, vl_0_4, vl_0_6, vl_0_7, vl_0_12, vl_0_16, vl_0_1400, vl_1_2, vl_1_3, vl_1_4, vl_1_6, vl_1_7, vl_1_12, vl_1_16, vl_1_1400, vl_2_3, vl_2_4, vl_2_6, vl_2_7, vl_2_12, vl_2_16, vl_2_1400, vl_3_4, vl_3_6, vl_3_7, vl_3_12, vl_3_16, vl_3_1400, vl_4_6, vl_4_7, vl_4_12, vl_4_16, vl_4_1400, vl_5_6, vl_5_7, vl_5_12, vl_5_16, vl_5_1400, vl_6_7, vl_6_12, vl_6_16, vl_6_1400, vl_7_12, vl_7_16, vl_8_12, vl_8_16, vl_9_12, vl_9_16, vl_10_12, vl_10_16, vl_11_12, vl_11_16, i_64le_e, i64a_0, i64b_0, i64a_1, i64b_1, i64a_2, i64b_2, i64a_3, i64b_3, i64a_4, i64b_4, i64a_5, i64b_5, i64a_7, i64b_7, i64a_8, i64b_8, i64a_9, i64b_9, i64a_10, i64b_10, i64a_16, i64b_16, i64a_50, i64b_50, i64a_m50, i64b_m50, i64a_60, i64b_60, i64a_99, i64b_99, i64a_100, i64b_100, i64a_500, i64b_500, i64a_600, i64b_600, i64a_1000, i64b_1000, i64a_1000000, i64b_1000000, i64a_m9, i64b_m9, e_s_16, e_i_16, e_l_16, e_p_16_0, e_p_16_1, e_p_16_2, e_p_16_3, e_p_16_4, e_p_16_5, e_s_23, e_i_23, e_l_23, e_p_23_0, e_p_23_1, e_p_23_2, e_p_23_3, e_p_23_4, e_p_23_5, e_p_23_6, e_s_31, e_i_31, e_l_31, e_p_31_0, e_p_31_1, e_p_31_2, e_p_31_3, e_p_31_4, e_p_31_5, e_p_31_6, e_s_48, e_i_48, e_l_48, e_p_48_0, e_p_48_1, e_p_48_2, e_p_48_3, e_p_48_5, e_s_49, e_i_49, e_l_49, e_s_50, e_i_50, e_l_50, pt34_L_brought, s7, hE]
  have d2 : lcg (lcg x) / 256 % 16 < 16 := Nat.mod_lt _ (by decide)
  simp (disch := omega) only [s1, nI_clamp, nI_le', nI_lt', nI_eq', rem2_1, rem2_0, nI_eq0, nI_le0, nI_0lt, nI_0le, nI_lt0, nI_m1, vp_inE, nm_nI, i_20, nI_1, nI_add, and_true, true_and, and_self, or_true, true_or, or_false, false_or, false_and, and_false, not_true_eq_false, not_false_eq_true, if_true, if_false, ite_true, ite_false, false_imp_iff, true_imp_iff, rsn_00, rsn_10, rsn_01, rsn_11, n_09, n_19, n_29, n_99, implies_true, bI_t, bI_f, or_self, ne_eq, eq_self, Classical.not_not, Bool.false_eq_true]
  rw [u_u]
  refine ⟨fun z => ?_, fun z => ?_⟩
  · rw [if_neg z, s1] at k; exact k
  · rw [if_pos z, s1] at k; exact k
end T66
