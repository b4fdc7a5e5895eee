section T52
variable {X : am_X} {d : Nat} {K : am_K} {S : am_S} {M : am_M} {L : am_L} {V : am_M}
theorem vQ_eq {i j r : Nat} (hj : j < 3) (hr : r < 4) : vQ V (12 * i + 4 * j + r) = vA V i j r := by
  unfold vQ
  rw [show (12 * i + 4 * j + r) / 12 = i by omega, show (12 * i + 4 * j + r) / 4 % 3 = j by omega, show (12 * i + 4 * j + r) % 4 = r by omega]
theorem sh_le (hI : IV V) (q : Nat) (hq : q < 48) : wyA V q ≤ 2 ^ (clA V q).length ∧ (clA V q).length ≤ 16 ∧ wyA V q ≤ 65536 ∧ shA V q ≤ 65536 ∧ thA V q < 2147483648 := by
  have hI2 := vA_iv hI (i := q / 12) (j := q / 4 % 3) (r := q % 4) (by omega) (by omega) (by omega)
  have l := (ctd_all (V := vQ V q) hI2 (x := x0)).1
  have a := csI_le (dZ (vQ V q) (clA V q))
  have b : (dZ (vQ V q) (clA V q)).length = (clA V q).length := List.length_map _
  rw [b] at a
  refine ⟨a, l, ways_le l, ?_, thN_lt l⟩
  unfold shA
  have e : 2 ^ (clA V q).length * 2 ^ (16 - (clA V q).length) = 65536 := by
    rw [← Nat.pow_add, show (clA V q).length + (16 - (clA V q).length) = 16 from by unfold clA; omega]
  rw [← e]
  exact Nat.mul_le_mul_right _ a
theorem c_Hindsight_tryReadings {M0 : am_M} {i j : Nat} (hE : am_env S) (hC : CV V M0) (hI : IV V) (hP : IVp V) (hi : i < 4) (hj : j < 3) (f0 : Fr (61 :: csO) fsA M0 M) (h8 : M 31 8 = nI (5 * 2 ^ i)) (h9 : M 31 9 = nI (150 * 2 ^ j)) (hb : RB V M (12 * i + 4 * j)) (k : ∀ M', Fr (61 :: csO) fsA M0 M' → RB V M' (12 * i + 4 * j + 4) → K none S M' L) : am_Call X (d + 5) m_Hindsight_tryReadings [.ref 61] S M L K := by
  refine EE_Hindsight_tryReadings pt34_ok ?_
  simp only [s_aload_0_ref, s_bipush, s_dup_int, s_dup_ref, s_get0, s_get2, s_goto, s_iadd, s_ic_eq, s_ic_ge, s_iconst, s_iinc_1, s_iload_1_int, s_iload_2_int, s_iload_3_int, s_iload_4_int, s_imul, s_ishl, s_ishr, s_istore_1_int, s_istore_2_int, s_istore_3_int, s_istore_4_int, s_isub, s_iv_0, s_iv_1, s_put0, s_return, s_sipush, J_Hindsight_tryReadings_0, b_Hindsight_tryReadings_0, J_Hindsight_tryReadings_61, b_Hindsight_tryReadings_61, J_Hindsight_tryReadings_92, b_Hindsight_tryReadings_92, J_Hindsight_tryReadings_130, b_Hindsight_tryReadings_130, J_Hindsight_tryReadings_136, b_Hindsight_tryReadings_136, J_Hindsight_tryReadings_2, b_Hindsight_tryReadings_2, s_end, true_and, and_true, or_true, true_or, if_true, if_false, ite_true, ite_false, List.map_nil, List.map_cons, List.sum_nil, List.sum_cons, List.nil_append, List.cons_append, Option.toList_some, Option.toList_none, Nat.reduceAdd, Nat.reduceLeDiff, Nat.reduceSub, Nat.zero_le, List.headD_cons, List.tail_cons, List.length_cons, List.length_nil, ne_eq, reduceCtorEq, false_or, or_false, not_false_eq_true, Nat.reduceEqDiff, Nat.reduceLT, am_sw, bI_0, bI_z, bI_y, Classical.not_not, Nat.le_add_left, am_u_row2, am_r_row2, am_u_same, am_u_at, am_r_same, Int32.reduceLT, Int32.reduceLE, Int32.reduceAdd, Int32.reduceSub, Int32.reduceMul, forall_const, not_true_eq_false, implies_true, false_imp_iff, true_imp_iff, i_10, i_01, i_m10, i_m11, eq_self, or_self, false_and, and_false, and_self, am_so_some, am_pv_some, am_pv_none, l_cl_none, l_cl_int, l_cl_ref, l_cl_ra, l_cl_null, l_cl_long, cat_int, cat_ref, cat_long, cat_ra, cat_null, cl_0, cl_1, cl_2, cl_3, cl_4, cl_5, cl_6, cl_7, cl_8, cl_9, cl_10, cl_11, cl_12, cl_13, cl_14, cl_15, cl_16, cl_30, cl_64, cl_500, vl_0_2, vl_0_3, vl_0_4, vl_0_6, vl_0_7, vl_0_12, vl_0_16, vl_0_1400, vl_1_2, vl_1_3, vl_1_4, vl_1_6, vl_1_7, vl_1_12, vl_1_16, vl_1_1400, vl_2_3, vl_2_4, vl_2_6, vl_2_7, vl_2_12, vl_2_16, vl_2_1400, vl_3_4, vl_3_6, vl_3_7, vl_3_12, vl_3_16, vl_3_1400, vl_4_6, vl_4_7, vl_4_12, vl_4_16, vl_4_1400, vl_5_6, vl_5_7, vl_5_12, vl_5_16, vl_5_1400, vl_6_7, vl_6_12, vl_6_16, vl_6_1400, vl_7_12, vl_7_16, vl_8_12, vl_8_16, vl_9_12, vl_9_16, vl_10_12, vl_10_16, vl_11_12, vl_11_16, i_64le_e, i64a_0, i64b_0, i64a_1, i64b_1, i64a_2, i64b_2, i64a_3, i64b_3, i64a_4, i64b_4, i64a_5, i64b_5, i64a_7, i64b_7, i64a_8, i64b_8, i64a_9, i64b_9, i64a_10, i64b_10, i64a_16, i64b_16, i64a_50, i64b_50, i64a_m50, i64b_m50, i64a_60, i64b_60, i64a_99, i64b_99, i64a_100, i64b_100, i64a_500, i64b_500, i64a_600, i64b_600, i64a_1000, i64b_1000, i64a_1000000, i64b_1000000, i64a_m9, i64b_m9, e_s_31, e_i_31, e_l_31, e_p_31_0, e_p_31_1, e_p_31_2, e_p_31_3, e_p_31_4, e_p_31_5, e_p_31_6, e_s_54, e_i_54, e_l_54, e_p_54_0, e_p_54_1, e_p_54_2, e_p_54_3, e_p_54_4, e_p_54_5, e_p_54_6, e_p_54_7, e_s_61, e_i_61, e_l_61, e_p_61_0, e_p_61_1, hE]
  have loop : ∀ r, r ≤ 4 → ∀ M1 v2 v3 v4, Fr (61 :: csO) fsA M0 M1 → M1 31 8 = nI (5 * 2 ^ i) → M1 31 9 = nI (150 * 2 ^ j) → RB V M1 (12 * i + 4 * j + r) → am_WP X (d + 5) 12 2 [some (.ref 61), some (.int (nI r)), v2, v3, v4] [] S (M1) (L) 0 0 K := by
    refine am_ind ?_
    intro r hr ih M1 v2 v3 v4 f1 g8 g9 rb
    have e4 : (4 ≤ nI r) = (4 ≤ r) := nI_le' (a := 4) (by omega) (by omega)
    refine H_Hindsight_tryReadings_2 pt34_ok ?_
    simp only [s_aload_0_ref, s_bipush, s_dup_int, s_dup_ref, s_get0, s_get2, s_goto, s_iadd, s_ic_eq, s_ic_ge, s_iconst, s_iinc_1, s_iload_1_int, s_iload_2_int, s_iload_3_int, s_iload_4_int, s_imul, s_ishl, s_ishr, s_istore_1_int, s_istore_2_int, s_istore_3_int, s_istore_4_int, s_isub, s_iv_0, s_iv_1, s_put0, s_return, s_sipush, J_Hindsight_tryReadings_0, b_Hindsight_tryReadings_0, J_Hindsight_tryReadings_61, b_Hindsight_tryReadings_61, J_Hindsight_tryReadings_92, b_Hindsight_tryReadings_92, J_Hindsight_tryReadings_130, b_Hindsight_tryReadings_130, J_Hindsight_tryReadings_136, b_Hindsight_tryReadings_136, J_Hindsight_tryReadings_2, b_Hindsight_tryReadings_2, s_end, true_and, and_true, or_true, true_or, if_true, if_false, ite_true, ite_false, List.map_nil, List.map_cons, List.sum_nil, List.sum_cons, List.nil_append, List.cons_append, Option.toList_some, Option.toList_none, Nat.reduceAdd, Nat.reduceLeDiff, Nat.reduceSub, Nat.zero_le, List.headD_cons, List.tail_cons, List.length_cons, List.length_nil, ne_eq, reduceCtorEq, false_or, or_false, not_false_eq_true, Nat.reduceEqDiff, Nat.reduceLT, am_sw, bI_0, bI_z, bI_y, Classical.not_not, Nat.le_add_left, am_u_row2, am_r_row2, am_u_same, am_u_at, am_r_same, Int32.reduceLT, Int32.reduceLE, Int32.reduceAdd, Int32.reduceSub, Int32.reduceMul, forall_const, not_true_eq_false, implies_true, false_imp_iff, true_imp_iff, i_10, i_01, i_m10, i_m11, eq_self, or_self, false_and, and_false, and_self, am_so_some, am_pv_some, am_pv_none, l_cl_none, l_cl_int, l_cl_ref, l_cl_ra, l_cl_null, l_cl_long, cat_int, cat_ref, cat_long, cat_ra, cat_null, cl_0, cl_1, cl_2, cl_3, cl_4, cl_5, cl_6, cl_7, cl_8, cl_9, cl_10, cl_11, cl_12, cl_13, cl_14, cl_15, cl_16, cl_30, cl_64, cl_500, vl_0_2, vl_0_3, vl_0_4, vl_0_6, vl_0_7, vl_0_12, vl_0_16, vl_0_1400, vl_1_2, vl_1_3, vl_1_4, vl_1_6, vl_1_7, vl_1_12, vl_1_16, vl_1_1400, vl_2_3, vl_2_4, vl_2_6, vl_2_7, vl_2_12, vl_2_16, vl_2_1400, vl_3_4, vl_3_6, vl_3_7, vl_3_12, vl_3_16, vl_3_1400, vl_4_6, vl_4_7, vl_4_12, vl_4_16, vl_4_1400, vl_5_6, vl_5_7, vl_5_12, vl_5_16, vl_5_1400, vl_6_7, vl_6_12, vl_6_16, vl_6_1400, vl_7_12, vl_7_16, vl_8_12, vl_8_16, vl_9_12, vl_9_16, vl_10_12, vl_10_16, vl_11_12, vl_11_16, i_64le_e, i64a_0, i64b_0, i64a_1, i64b_1, i64a_2, i64b_2, i64a_3, i64b_3, i64a_4, i64b_4, i64a_5, i64b_5, i64a_7, i64b_7, i64a_8, i64b_8, i64a_9, i64b_9, i64a_10, i64b_10, i64a_16, i64b_16, i64a_50, i64b_50, i64a_m50, i64b_m50, i64a_60, i64b_60, i64a_99, i64b_99, i64a_100, i64b_100, i64a_500, i64b_500, i64a_600, i64b_600, i64a_1000, i64b_1000, i64a_1000000, i64b_1000000, i64a_m9, i64b_m9, e_s_31, e_i_31, e_l_31, e_p_31_0, e_p_31_1, e_p_31_2, e_p_31_3, e_p_31_4, e_p_31_5, e_p_31_6, e_s_54, e_i_54, e_l_54, e_p_54_0, e_p_54_1, e_p_54_2, e_p_54_3, e_p_54_4, e_p_54_5, e_p_54_6, e_p_54_7, e_s_61, e_i_61, e_l_61, e_p_61_0, e_p_61_1, hE]
    by_cases c0 : r < 4
    · simp (disch := omega) only [e4, Nat.not_le.mpr, c0, nI_clamp, nI_le', nI_lt', nI_eq', rem2_1, rem2_0, nI_eq0, nI_le0, nI_0lt, nI_0le, nI_lt0, nI_m1, vp_inE, nm_nI, i_20, nI_1, nI_add, and_true, true_and, and_self, or_true, true_or, or_false, false_or, false_and, and_false, not_true_eq_false, not_false_eq_true, if_true, if_false, ite_true, ite_false, false_imp_iff, true_imp_iff, rsn_00, rsn_10, rsn_01, rsn_11, n_09, n_19, n_29, n_99, implies_true, bI_t, bI_f, or_self, ne_eq, eq_self, Classical.not_not, Bool.false_eq_true]
      have f2 : Fr (61 :: csO) fsA M0 (am_u M1 31 12 (nI r)) := f1.uf (by decide)
      have hC2 : CV (vA V i j r) (am_u M1 31 12 (nI r)) := hC.a3 f2 (by rw [am_u_at (by decide)]; exact g8) (by rw [am_u_at (by decide)]; exact g9) am_u_same
      have hI2 := vA_iv hI hi hj c0
      have hP2 : IVp (vA V i j r) := hP.u.u.u
      have cd := ctd_all (V := vA V i j r) hI2 (x := x0)
      have fw := filter_w0 hI2 (l := ctL (vA V i j r) x0 (nB (vA V i j r))) (fun b hb => (cd.2 b hb).1)
      refine am_cal_no rfl (c_Odds_countAll hE hC2 hI2 hP2 ?_)
      intro M2 f3 hc
      simp only [s_aload_0_ref, s_bipush, s_dup_int, s_dup_ref, s_get0, s_get2, s_goto, s_iadd, s_ic_eq, s_ic_ge, s_iconst, s_iinc_1, s_iload_1_int, s_iload_2_int, s_iload_3_int, s_iload_4_int, s_imul, s_ishl, s_ishr, s_istore_1_int, s_istore_2_int, s_istore_3_int, s_istore_4_int, s_isub, s_iv_0, s_iv_1, s_put0, s_return, s_sipush, J_Hindsight_tryReadings_0, b_Hindsight_tryReadings_0, J_Hindsight_tryReadings_61, b_Hindsight_tryReadings_61, J_Hindsight_tryReadings_92, b_Hindsight_tryReadings_92, J_Hindsight_tryReadings_130, b_Hindsight_tryReadings_130, J_Hindsight_tryReadings_136, b_Hindsight_tryReadings_136, J_Hindsight_tryReadings_2, b_Hindsight_tryReadings_2, s_end, true_and, and_true, or_true, true_or, if_true, if_false, ite_true, ite_false, List.map_nil, List.map_cons, List.sum_nil, List.sum_cons, List.nil_append, List.cons_append, Option.toList_some, Option.toList_none, Nat.reduceAdd, Nat.reduceLeDiff, Nat.reduceSub, Nat.zero_le, List.headD_cons, List.tail_cons, List.length_cons, List.length_nil, ne_eq, reduceCtorEq, false_or, or_false, not_false_eq_true, Nat.reduceEqDiff, Nat.reduceLT, am_sw, bI_0, bI_z, bI_y, Classical.not_not, Nat.le_add_left, am_u_row2, am_r_row2, am_u_same, am_u_at, am_r_same, Int32.reduceLT, Int32.reduceLE, Int32.reduceAdd, Int32.reduceSub, Int32.reduceMul, forall_const, not_true_eq_false, implies_true, false_imp_iff, true_imp_iff, i_10, i_01, i_m10, i_m11, eq_self, or_self, false_and, and_false, and_self, am_so_some, am_pv_some, am_pv_none, l_cl_none, l_cl_int, l_cl_ref, l_cl_ra, l_cl_null, l_cl_long, cat_int, cat_ref, cat_long, cat_ra, cat_null, cl_0, cl_1, cl_2, cl_3, cl_4, cl_5, cl_6, cl_7, cl_8, cl_9, cl_10, cl_11, cl_12, cl_13, cl_14, cl_15, cl_16, cl_30, cl_64, cl_500, vl_0_2, vl_0_3, vl_0_4, vl_0_6, vl_0_7, vl_0_12, vl_0_16, vl_0_1400, vl_1_2, vl_1_3, vl_1_4, vl_1_6, vl_1_7, vl_1_12, vl_1_16, vl_1_1400, vl_2_3, vl_2_4, vl_2_6, vl_2_7, vl_2_12, vl_2_16, vl_2_1400, vl_3_4, vl_3_6, vl_3_7, vl_3_12, vl_3_16, vl_3_1400, vl_4_6, vl_4_7, vl_4_12, vl_4_16, vl_4_1400, vl_5_6, vl_5_7, vl_5_12, vl_5_16, vl_5_1400, vl_6_7, vl_6_12, vl_6_16, vl_6_1400, vl_7_12, vl_7_16, vl_8_12, vl_8_16, vl_9_12, vl_9_16, vl_10_12, vl_10_16, vl_11_12, vl_11_16, i_64le_e, i64a_0, i64b_0, i64a_1, i64b_1, i64a_2, i64b_2, i64a_3, i64b_3, i64a_4, i64b_4, i64a_5, i64b_5, i64a_7, i64b_7, i64a_8, i64b_8, i64a_9, i64b_9, i64a_10, i64b_10, i64a_16, i64b_16, i64a_50, i64b_50, i64a_m50, i64b_m50, i64a_60, i64b_60, i64a_99, i64b_99, i64a_100, i64b_100, i64a_500, i64b_500, i64a_600, i64b_600, i64a_1000, i64b_1000, i64a_1000000, i64b_1000000, i64a_m9, i64b_m9, e_s_31, e_i_31, e_l_31, e_p_31_0, e_p_31_1, e_p_31_2, e_p_31_3, e_p_31_4, e_p_31_5, e_p_31_6, e_s_54, e_i_54, e_l_54, e_p_54_0, e_p_54_1, e_p_54_2, e_p_54_3, e_p_54_4, e_p_54_5, e_p_54_6, e_p_54_7, e_s_61, e_i_61, e_l_61, e_p_61_0, e_p_61_1, hE]
      refine am_cal_no rfl (c_Odds_waysWithout hE hI2 hc cd ?_)
      intro M3 f4
      have f5 : Fr (61 :: csO) fsA M0 M3 := (f2.trans (f3.mono (by decide) (by decide))).trans (f4.mono (by decide) (by decide))
      have row61 : M3 61 = M1 61 := by
        rw [f4.row 61 (by decide) (by simp), f3.row 61 (by decide) (by decide), am_u_row2 (by decide)]
      have a8 : M3 31 8 = nI (5 * 2 ^ i) := by rw [f4 31 8 (by decide) (by simp), f3 31 8 (by decide) (by decide), am_u_at (by decide)]; exact g8
      have a9 : M3 31 9 = nI (150 * 2 ^ j) := by rw [f4 31 9 (by decide) (by simp), f3 31 9 (by decide) (by decide), am_u_at (by decide)]; exact g9
      have n54 : M3 54 8 = nI (ctL (vA V i j r) x0 (nB (vA V i j r))).length := by rw [f4 54 8 (by decide) (by simp)]; exact hc.n
      have rb3 := rb.of row61
      rw [fw]
      have eV := vQ_eq (V := V) (i := i) hj c0
      have hq : 12 * i + 4 * j + r < 48 := by omega
      obtain ⟨s1, s2, s3, s4, s5⟩ := sh_le hI (12 * i + 4 * j + r) hq
      have ec : ctL (vA V i j r) x0 (nB (vA V i j r)) = clA V (12 * i + 4 * j + r) := by unfold clA; rw [eV]
      have ew : csI (dZ (vA V i j r) (clA V (12 * i + 4 * j + r))) = wyA V (12 * i + 4 * j + r) := by unfold wyA; rw [eV]
      rw [ec] at n54 ⊢
      rw [ew]
      have et : nI (1000 * wyA V (12 * i + 4 * j + r)) >>> (nI (clA V (12 * i + 4 * j + r)).length &&& 31) = nI (thA V (12 * i + 4 * j + r)) := by
        rw [nI_shr (by omega) (by omega)]; rfl
      have es : nI (wyA V (12 * i + 4 * j + r)) <<< (nI (16 - (clA V (12 * i + 4 * j + r)).length) &&& 31) = nI (shA V (12 * i + 4 * j + r)) := by
        rw [nI_shl (by omega)]; rfl
      have em : 1000 * nI (wyA V (12 * i + 4 * j + r)) = nI (1000 * wyA V (12 * i + 4 * j + r)) := nI_mul 1000 _
      have e16 : 16 - nI (clA V (12 * i + 4 * j + r)).length = nI (16 - (clA V (12 * i + 4 * j + r)).length) := nI_sub (a := 16) s2 (by decide)
      have eq4 : (12 * i + 4 * j + r) / 12 = i := by omega
      have eq5 : (12 * i + 4 * j + r) / 4 % 3 = j := by omega
      have eq6 : (12 * i + 4 * j + r) % 4 = r := by omega
      have ih := ih c0
      rw [show 12 * i + 4 * j + (r + 1) = 12 * i + 4 * j + r + 1 by omega] at ih
      generalize 12 * i + 4 * j + r = q at *
      have rl := rr_le (V := V) q
      have e50 : (50 ≤ nI (thA V q)) = (50 ≤ thA V q) := nI_le' (a := 50) (by omega) s5
      have r6 : M3 61 6 = nI (rrA V q) := rb3.1
      simp only [s_aload_0_ref, s_bipush, s_dup_int, s_dup_ref, s_get0, s_get2, s_goto, s_iadd, s_ic_eq, s_ic_ge, s_iconst, s_iinc_1, s_iload_1_int, s_iload_2_int, s_iload_3_int, s_iload_4_int, s_imul, s_ishl, s_ishr, s_istore_1_int, s_istore_2_int, s_istore_3_int, s_istore_4_int, s_isub, s_iv_0, s_iv_1, s_put0, s_return, s_sipush, J_Hindsight_tryReadings_0, b_Hindsight_tryReadings_0, J_Hindsight_tryReadings_61, b_Hindsight_tryReadings_61, J_Hindsight_tryReadings_92, b_Hindsight_tryReadings_92, J_Hindsight_tryReadings_130, b_Hindsight_tryReadings_130, J_Hindsight_tryReadings_136, b_Hindsight_tryReadings_136, J_Hindsight_tryReadings_2, b_Hindsight_tryReadings_2, s_end, true_and, and_true, or_true, true_or, if_true, if_false, ite_true, ite_false, List.map_nil, List.map_cons, List.sum_nil, List.sum_cons, List.nil_append, List.cons_append, Option.toList_some, Option.toList_none, Nat.reduceAdd, Nat.reduceLeDiff, Nat.reduceSub, Nat.zero_le, List.headD_cons, List.tail_cons, List.length_cons, List.length_nil, ne_eq, reduceCtorEq, false_or, or_false, not_false_eq_true, Nat.reduceEqDiff, Nat.reduceLT, am_sw, bI_0, bI_z, bI_y, Classical.not_not, Nat.le_add_left, am_u_row2, am_r_row2, am_u_same, am_u_at, am_r_same, Int32.reduceLT, Int32.reduceLE, Int32.reduceAdd, Int32.reduceSub, Int32.reduceMul, forall_const, not_true_eq_false, implies_true, false_imp_iff, true_imp_iff, i_10, i_01, i_m10, i_m11, eq_self, or_self, false_and, and_false, and_self, am_so_some, am_pv_some, am_pv_none, l_cl_none, l_cl_int, l_cl_ref, l_cl_ra, l_cl_null, l_cl_long, cat_int, cat_ref, cat_long, cat_ra, cat_null, cl_0, cl_1, cl_2, cl_3, cl_4, cl_5, cl_6, cl_7, cl_8, cl_9, cl_10, cl_11, cl_12, cl_13, cl_14, cl_15, cl_16, cl_30, cl_64, cl_500, vl_0_2, vl_0_3, vl_0_4, vl_0_6, vl_0_7, vl_0_12, vl_0_16, vl_0_1400, vl_1_2, vl_1_3, vl_1_4, vl_1_6, vl_1_7, vl_1_12, vl_1_16, vl_1_1400, vl_2_3, vl_2_4, vl_2_6, vl_2_7, vl_2_12, vl_2_16, vl_2_1400, vl_3_4, vl_3_6, vl_3_7, vl_3_12, vl_3_16, vl_3_1400, vl_4_6, vl_4_7, vl_4_12, vl_4_16, vl_4_1400, vl_5_6, vl_5_7, vl_5_12, vl_5_16, vl_5_1400, vl_6_7, vl_6_12, vl_6_16, vl_6_1400, vl_7_12, vl_7_16, vl_8_12, vl_8_16, vl_9_12, vl_9_16, vl_10_12, vl_10_16, vl_11_12, vl_11_16, i_64le_e, i64a_0, i64b_0, i64a_1, i64b_1, i64a_2, i64b_2, i64a_3, i64b_3, i64a_4, i64b_4, i64a_5, i64b_5, i64a_7, i64b_7, i64a_8, i64b_8, i64a_9, i64b_9, i64a_10, i64b_10, i64a_16, i64b_16, i64a_50, i64b_50, i64a_m50, i64b_m50, i64a_60, i64b_60, i64a_99, i64b_99, i64a_100, i64b_100, i64a_500, i64b_500, i64a_600, i64b_600, i64a_1000, i64b_1000, i64a_1000000, i64b_1000000, i64a_m9, i64b_m9, e_s_31, e_i_31, e_l_31, e_p_31_0, e_p_31_1, e_p_31_2, e_p_31_3, e_p_31_4, e_p_31_5, e_p_31_6, e_s_54, e_i_54, e_l_54, e_p_54_0, e_p_54_1, e_p_54_2, e_p_54_3, e_p_54_4, e_p_54_5, e_p_54_6, e_p_54_7, e_s_61, e_i_61, e_l_61, e_p_61_0, e_p_61_1, n54, em, et, e16, es, e50, a8, a9, r6, hE]
      have bl := fun p hp => (sh_le hI p (Nat.lt_trans (bsA_lt (V := V) q p hp) hq)).2.2.2.1
      have fin : ∀ M4, Fr (61 :: csO) fsA M0 M4 → M4 31 8 = nI (5 * 2 ^ i) → M4 31 9 = nI (150 * 2 ^ j) → M4 61 6 = nI (rrA V (q + 1)) → (∀ f, f ≠ 6 → M4 61 f = M3 61 f) → ∀ v2 v3 v4, (M3 61 9 = -1 → am_WP X (d + 5) 12 2 [some (.ref 61), some (.int (nI (r + 1))), v2, v3, v4] [] S (am_u (am_u (am_u (am_u (am_u M4 61 9 (nI (shA V q))) 61 2 (nI (5 * 2 ^ i))) 61 3 (nI (150 * 2 ^ j))) 61 4 (nI r)) 61 5 (nI (thA V q))) (L) 0 0 K) ∧ (¬ M3 61 9 = -1 → (M3 61 9 ≤ nI (shA V q) → am_WP X (d + 5) 12 2 [some (.ref 61), some (.int (nI (r + 1))), v2, v3, v4] [] S (M4) (L) 0 0 K) ∧ (¬ M3 61 9 ≤ nI (shA V q) → am_WP X (d + 5) 12 2 [some (.ref 61), some (.int (nI (r + 1))), v2, v3, v4] [] S (am_u (am_u (am_u (am_u (am_u M4 61 9 (nI (shA V q))) 61 2 (nI (5 * 2 ^ i))) 61 3 (nI (150 * 2 ^ j))) 61 4 (nI r)) 61 5 (nI (thA V q))) (L) 0 0 K)) := by
        intro M4 f6 b8 b9 b6 bo v2 v3 v4
        have store : bsA V (q + 1) = some q → am_WP X (d + 5) 12 2 [some (.ref 61), some (.int (nI (r + 1))), v2, v3, v4] [] S (am_u (am_u (am_u (am_u (am_u M4 61 9 (nI (shA V q))) 61 2 (nI (5 * 2 ^ i))) 61 3 (nI (150 * 2 ^ j))) 61 4 (nI r)) 61 5 (nI (thA V q))) (L) 0 0 K := by
          intro eb
          refine ih _ _ _ _ (((((f6.u (by decide)).u (by decide)).u (by decide)).u (by decide)).u (by decide)) ?_ ?_ ?_
          · try simp only [am_u_same, am_u_row2, am_u_at, am_r_same, am_r_row2, Nat.reduceEqDiff, eq_self, reduceCtorEq, not_false_eq_true, true_and, and_true, if_true, if_false, ite_true, ite_false]
            exact b8
          · try simp only [am_u_same, am_u_row2, am_u_at, am_r_same, am_r_row2, Nat.reduceEqDiff, eq_self, reduceCtorEq, not_false_eq_true, true_and, and_true, if_true, if_false, ite_true, ite_false]
            exact b9
          · unfold RB
            rw [eb]
            simp only [eq4, eq5, eq6]
            refine ⟨?_, ?_, ?_, ?_, ?_, ?_⟩
            all_goals try simp only [am_u_same, am_u_row2, am_u_at, am_r_same, am_r_row2, Nat.reduceEqDiff, eq_self, reduceCtorEq, not_false_eq_true, true_and, and_true, if_true, if_false, ite_true, ite_false]
            exact b6
        have e1 : bsA V (q + 1) = match bsA V q with
          | none => some q
          | some p => if shA V q < shA V p then some q else some p := rfl
        have r2 := rb3.2
        cases eb : bsA V q with
        | none =>
          rw [eb] at e1 r2
          have r2 : M3 61 9 = -1 := r2
          exact ⟨fun _ => store e1, fun z => absurd r2 z⟩
        | some p =>
          rw [eb] at e1 r2
          have e1 : bsA V (q + 1) = if shA V q < shA V p then some q else some p := e1
          obtain ⟨x9, x2, x3, x4, x5⟩ := r2
          have pl := bl p eb
          refine ⟨fun z => absurd (x9.symm.trans z) (i_nI_ne_m1 (by omega)), fun _ => ?_⟩
          rw [x9, nI_le' (by omega) (by omega)]
          refine ⟨fun z => ?_, fun z => ?_⟩
          · rw [if_neg (by omega)] at e1
            refine ih M4 _ _ _ f6 b8 b9 ?_
            unfold RB
            rw [e1]
            refine ⟨b6, ?_, ?_, ?_, ?_, ?_⟩
            · rw [bo 9 (by decide)]; exact x9
            · rw [bo 2 (by decide)]; exact x2
            · rw [bo 3 (by decide)]; exact x3
            · rw [bo 4 (by decide)]; exact x4
            · rw [bo 5 (by decide)]; exact x5
          · rw [if_pos (by omega)] at e1
            exact store e1
      have e2 : rrA V (q + 1) = if thA V q < 50 then rrA V q + 1 else rrA V q := rfl
      simp (disch := omega) only [nI_clamp, nI_le', nI_lt', nI_eq', rem2_1, rem2_0, nI_eq0, nI_le0, nI_0lt, nI_0le, nI_lt0, nI_m1, vp_inE, nm_nI, i_20, nI_1, nI_add, and_true, true_and, and_self, or_true, true_or, or_false, false_or, false_and, and_false, not_true_eq_false, not_false_eq_true, if_true, if_false, ite_true, ite_false, false_imp_iff, true_imp_iff, rsn_00, rsn_10, rsn_01, rsn_11, n_09, n_19, n_29, n_99, implies_true, bI_t, bI_f, or_self, ne_eq, eq_self, Classical.not_not, Bool.false_eq_true]
      refine ⟨fun z => ?_, fun z => ?_⟩
      · rw [if_neg (by omega)] at e2
        exact fin M3 f5 a8 a9 (by rw [e2]; exact r6) (fun _ _ => rfl) _ _ _
      · rw [if_pos (by omega)] at e2
        exact fin (am_u M3 61 6 (nI (rrA V q + 1))) (f5.u (by decide)) (by rw [am_u_row2 (by decide)]; exact a8) (by rw [am_u_row2 (by decide)]; exact a9) (by rw [am_u_same, e2]) (fun f hf => am_u_ne (fun w => hf w.2)) _ _ _
    · have e : r = 4 := by omega
      subst e
      simp (disch := omega) only [e4, Nat.le_refl, nI_clamp, nI_le', nI_lt', nI_eq', rem2_1, rem2_0, nI_eq0, nI_le0, nI_0lt, nI_0le, nI_lt0, nI_m1, vp_inE, nm_nI, i_20, nI_1, nI_add, and_true, true_and, and_self, or_true, true_or, or_false, false_or, false_and, and_false, not_true_eq_false, not_false_eq_true, if_true, if_false, ite_true, ite_false, false_imp_iff, true_imp_iff, rsn_00, rsn_10, rsn_01, rsn_11, n_09, n_19, n_29, n_99, implies_true, bI_t, bI_f, or_self, ne_eq, eq_self, Classical.not_not, Bool.false_eq_true]
      exact k M1 f1 rb
  exact loop 0 (by omega) M _ _ _ f0 h8 h9 hb
end T52
