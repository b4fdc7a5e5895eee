section T43
variable {X : am_X} {d : Nat} {K : am_K} {S : am_S} {M : am_M} {L : am_L} {V : am_M}
def CtC (V M : am_M) (l : List Nat) : Prop := (M 54 8 = nI l.length) ∧ (Arr (M 60) (l.map nI)) ∧ (Arr (M 55) (l.map (difI V)))
theorem CtC.n {V M : am_M} {l : List Nat} (h : CtC V M l) : M 54 8 = nI l.length := h.1
theorem CtC.w {V M : am_M} {l : List Nat} (h : CtC V M l) : Arr (M 60) (l.map nI) := h.2.1
theorem CtC.p {V M : am_M} {l : List Nat} (h : CtC V M l) : Arr (M 55) (l.map (difI V)) := h.2.2
theorem CtC.of {V M M' : am_M} {l : List Nat} (h : CtC V M l) (e1 : M' 54 = M 54) (e2 : M' 60 = M 60) (e3 : M' 55 = M 55) : CtC V M' l := by
  unfold CtC at h ⊢
  rw [e1, e2, e3]; exact h
def x0 (_ : Nat) : Bool := false
def fsO : List (Nat × Nat) := [(52, 7), (52, 8), (52, 9), (52, 10), (52, 11)]
theorem c_Odds_countAll (hE : am_env S) (hC : CV V M) (hI : IV V) (hP : IVp V) (k : ∀ M', Fr [22, 51, 53, 54, 55, 60] fsO M M' → CtC V M' (ctL V x0 (nB V)) → K none S M' L) : am_Call X (d + 4) m_Odds_countAll [.ref 54] S M L K := by
  have n16 := hI.nb.2
  refine EE_Odds_countAll pt32_ok ?_
  simp only [s_aload_0_ref, s_bald, s_dup_int, s_dup_ref, s_get0, s_get2, s_goto, s_iadd, s_iast, s_ic_eq, s_ic_ge, s_ic_ne, s_iconst, s_if_eq, s_iinc_1, s_iload_1_int, s_iload_2_int, s_istore_1_int, s_istore_2_int, s_iv_1, s_ldc, s_put0, s_return, J_Odds_countAll_0, b_Odds_countAll_0, J_Odds_countAll_33, b_Odds_countAll_33, J_Odds_countAll_98, b_Odds_countAll_98, J_Odds_countAll_104, b_Odds_countAll_104, J_Odds_countAll_7, b_Odds_countAll_7, s_end, true_and, and_true, or_true, true_or, if_true, if_false, ite_true, ite_false, List.map_nil, List.map_cons, List.sum_nil, List.sum_cons, List.nil_append, List.cons_append, Option.toList_some, Option.toList_none, Nat.reduceAdd, Nat.reduceLeDiff, Nat.reduceSub, Nat.zero_le, List.headD_cons, List.tail_cons, List.length_cons, List.length_nil, ne_eq, reduceCtorEq, false_or, or_false, not_false_eq_true, Nat.reduceEqDiff, Nat.reduceLT, am_sw, bI_0, bI_z, bI_y, Classical.not_not, Nat.le_add_left, am_u_row2, am_r_row2, am_u_same, am_u_at, am_r_same, Int32.reduceLT, Int32.reduceLE, Int32.reduceAdd, Int32.reduceSub, Int32.reduceMul, forall_const, not_true_eq_false, implies_true, false_imp_iff, true_imp_iff, i_10, i_01, i_m10, i_m11, eq_self, or_self, false_and, and_false, and_self, am_so_some, am_pv_some, am_pv_none, l_cl_none, l_cl_int, l_cl_ref, l_cl_ra, l_cl_null, l_cl_long, cat_int, cat_ref, cat_long, cat_ra, cat_null, cl_0, cl_1, cl_2, cl_3, cl_4, cl_5, cl_6, cl_7, cl_8, cl_9, cl_10, cl_11, cl_12, cl_13, cl_14, cl_15, cl_16, cl_30, cl_64, cl_500, vl_0_2, vl_0_3, vl_0_4, vl_0_6, vl_0_7, vl_0_12, vl_0_16, vl_0_1400, vl_1_2, vl_1_3, vl_1_4, vl_1_6, vl_1_7, vl_1_12, vl_1_16, vl_1_1400, vl_2_3, vl_2_4, vl_2_6, vl_2_7, vl_2_12, vl_2_16, vl_2_1400, vl_3_4, vl_3_6, vl_3_7, vl_3_12, vl_3_16, vl_3_1400, vl_4_6, vl_4_7, vl_4_12, vl_4_16, vl_4_1400, vl_5_6, vl_5_7, vl_5_12, vl_5_16, vl_5_1400, vl_6_7, vl_6_12, vl_6_16, vl_6_1400, vl_7_12, vl_7_16, vl_8_12, vl_8_16, vl_9_12, vl_9_16, vl_10_12, vl_10_16, vl_11_12, vl_11_16, i_64le_e, i64a_0, i64b_0, i64a_1, i64b_1, i64a_2, i64b_2, i64a_3, i64b_3, i64a_4, i64b_4, i64a_5, i64b_5, i64a_7, i64b_7, i64a_8, i64b_8, i64a_9, i64b_9, i64a_10, i64b_10, i64a_16, i64b_16, i64a_50, i64b_50, i64a_m50, i64b_m50, i64a_60, i64b_60, i64a_99, i64b_99, i64a_100, i64b_100, i64a_500, i64b_500, i64a_600, i64b_600, i64a_1000, i64b_1000, i64a_1000000, i64b_1000000, i64a_m9, i64b_m9, e_s_31, e_i_31, e_l_31, e_p_31_0, e_p_31_1, e_p_31_2, e_p_31_3, e_p_31_4, e_p_31_5, e_p_31_6, e_s_36, e_i_36, e_l_36, e_s_51, e_i_51, e_l_51, e_p_51_0, e_p_51_1, e_p_51_2, e_p_51_3, e_p_51_4, e_s_54, e_i_54, e_l_54, e_p_54_0, e_p_54_1, e_p_54_2, e_p_54_3, e_p_54_4, e_p_54_5, e_p_54_6, e_p_54_7, e_s_55, e_i_55, e_l_55, e_s_56, e_i_56, e_l_56, e_s_57, e_i_57, e_l_57, e_s_58, e_i_58, e_l_58, e_s_59, e_i_59, e_l_59, e_s_60, e_i_60, e_l_60, hE]
  have loop1 : ∀ b, b ≤ nB V → ∀ M1 v2, Fr [22, 51, 53, 54, 55, 60] fsO M M1 → CtC V M1 (ctL V x0 b) → am_WP X (d + 4) 43 7 [some (.ref 54), some (.int (nI b)), v2] [] S (M1) (L) 0 0 K := by
    refine am_ind ?_
    intro b hi ih M1 v2 f1 hc
    have hC1 := hC.fr (f1.mono (by decide) (by decide))
    have e7 : M1 31 7 = nI (nB V) := hC1.lab.f7.trans hI.nb.1
    refine H_Odds_countAll_7 pt32_ok ?_
    simp only [s_aload_0_ref, s_bald, s_dup_int, s_dup_ref, s_get0, s_get2, s_goto, s_iadd, s_iast, s_ic_eq, s_ic_ge, s_ic_ne, s_iconst, s_if_eq, s_iinc_1, s_iload_1_int, s_iload_2_int, s_istore_1_int, s_istore_2_int, s_iv_1, s_ldc, s_put0, s_return, J_Odds_countAll_0, b_Odds_countAll_0, J_Odds_countAll_33, b_Odds_countAll_33, J_Odds_countAll_98, b_Odds_countAll_98, J_Odds_countAll_104, b_Odds_countAll_104, J_Odds_countAll_7, b_Odds_countAll_7, s_end, true_and, and_true, or_true, true_or, if_true, if_false, ite_true, ite_false, List.map_nil, List.map_cons, List.sum_nil, List.sum_cons, List.nil_append, List.cons_append, Option.toList_some, Option.toList_none, Nat.reduceAdd, Nat.reduceLeDiff, Nat.reduceSub, Nat.zero_le, List.headD_cons, List.tail_cons, List.length_cons, List.length_nil, ne_eq, reduceCtorEq, false_or, or_false, not_false_eq_true, Nat.reduceEqDiff, Nat.reduceLT, am_sw, bI_0, bI_z, bI_y, Classical.not_not, Nat.le_add_left, am_u_row2, am_r_row2, am_u_same, am_u_at, am_r_same, Int32.reduceLT, Int32.reduceLE, Int32.reduceAdd, Int32.reduceSub, Int32.reduceMul, forall_const, not_true_eq_false, implies_true, false_imp_iff, true_imp_iff, i_10, i_01, i_m10, i_m11, eq_self, or_self, false_and, and_false, and_self, am_so_some, am_pv_some, am_pv_none, l_cl_none, l_cl_int, l_cl_ref, l_cl_ra, l_cl_null, l_cl_long, cat_int, cat_ref, cat_long, cat_ra, cat_null, cl_0, cl_1, cl_2, cl_3, cl_4, cl_5, cl_6, cl_7, cl_8, cl_9, cl_10, cl_11, cl_12, cl_13, cl_14, cl_15, cl_16, cl_30, cl_64, cl_500, vl_0_2, vl_0_3, vl_0_4, vl_0_6, vl_0_7, vl_0_12, vl_0_16, vl_0_1400, vl_1_2, vl_1_3, vl_1_4, vl_1_6, vl_1_7, vl_1_12, vl_1_16, vl_1_1400, vl_2_3, vl_2_4, vl_2_6, vl_2_7, vl_2_12, vl_2_16, vl_2_1400, vl_3_4, vl_3_6, vl_3_7, vl_3_12, vl_3_16, vl_3_1400, vl_4_6, vl_4_7, vl_4_12, vl_4_16, vl_4_1400, vl_5_6, vl_5_7, vl_5_12, vl_5_16, vl_5_1400, vl_6_7, vl_6_12, vl_6_16, vl_6_1400, vl_7_12, vl_7_16, vl_8_12, vl_8_16, vl_9_12, vl_9_16, vl_10_12, vl_10_16, vl_11_12, vl_11_16, i_64le_e, i64a_0, i64b_0, i64a_1, i64b_1, i64a_2, i64b_2, i64a_3, i64b_3, i64a_4, i64b_4, i64a_5, i64b_5, i64a_7, i64b_7, i64a_8, i64b_8, i64a_9, i64b_9, i64a_10, i64b_10, i64a_16, i64b_16, i64a_50, i64b_50, i64a_m50, i64b_m50, i64a_60, i64b_60, i64a_99, i64b_99, i64a_100, i64b_100, i64a_500, i64b_500, i64a_600, i64b_600, i64a_1000, i64b_1000, i64a_1000000, i64b_1000000, i64a_m9, i64b_m9, e_s_31, e_i_31, e_l_31, e_p_31_0, e_p_31_1, e_p_31_2, e_p_31_3, e_p_31_4, e_p_31_5, e_p_31_6, e_s_36, e_i_36, e_l_36, e_s_51, e_i_51, e_l_51, e_p_51_0, e_p_51_1, e_p_51_2, e_p_51_3, e_p_51_4, e_s_54, e_i_54, e_l_54, e_p_54_0, e_p_54_1, e_p_54_2, e_p_54_3, e_p_54_4, e_p_54_5, e_p_54_6, e_p_54_7, e_s_55, e_i_55, e_l_55, e_s_56, e_i_56, e_l_56, e_s_57, e_i_57, e_l_57, e_s_58, e_i_58, e_l_58, e_s_59, e_i_59, e_l_59, e_s_60, e_i_60, e_l_60, e7, hE]
    by_cases c0 : b < nB V
    · have m36 : M1 36 b = V 83 b := hC1.lab.lf b c0
      have skip : ctP V b = false → ∀ M2 v2, Fr [22, 51, 53] fsO M1 M2 → am_WP X (d + 4) 43 7 [some (.ref 54), some (.int (nI (b + 1))), v2] [] S (M2) (L) 0 0 K := by
        intro q M2 v2 f2
        have ih := ih c0 M2 v2 (f1.trans (f2.mono (by decide) (by decide)))
        rw [ctL_no (Or.inr q)] at ih
        exact ih (hc.of (f2.row 54 (by decide) (by decide)) (f2.row 60 (by decide) (by decide)) (f2.row 55 (by decide) (by decide)))
      simp (disch := omega) only [Nat.not_le.mpr, c0, m36, nI_clamp, nI_le', nI_lt', nI_eq', rem2_1, rem2_0, nI_eq0, nI_le0, nI_0lt, nI_0le, nI_lt0, nI_m1, vp_inE, nm_nI, i_20, nI_1, nI_add, and_true, true_and, and_self, or_true, true_or, or_false, false_or, false_and, and_false, not_true_eq_false, not_false_eq_true, if_true, if_false, ite_true, ite_false, false_imp_iff, true_imp_iff, rsn_00, rsn_10, rsn_01, rsn_11, n_09, n_19, n_29, n_99, implies_true, bI_t, bI_f, or_self, ne_eq, eq_self, Classical.not_not, Bool.false_eq_true]
      refine ⟨fun h1 => ?_, fun h1 => ?_⟩
      · have h1' : ¬ V 83 b = 1 := by rw [h1]; decide
        refine am_cal_no rfl (c_Meter_measure hE hC1 hI c0 ?_)
        intro M2 f2 hm
        have hC2 := hC1.fr (f2.mono (by decide) (by decide))
        simp only [s_aload_0_ref, s_bald, s_dup_int, s_dup_ref, s_get0, s_get2, s_goto, s_iadd, s_iast, s_ic_eq, s_ic_ge, s_ic_ne, s_iconst, s_if_eq, s_iinc_1, s_iload_1_int, s_iload_2_int, s_istore_1_int, s_istore_2_int, s_iv_1, s_ldc, s_put0, s_return, J_Odds_countAll_0, b_Odds_countAll_0, J_Odds_countAll_33, b_Odds_countAll_33, J_Odds_countAll_98, b_Odds_countAll_98, J_Odds_countAll_104, b_Odds_countAll_104, J_Odds_countAll_7, b_Odds_countAll_7, s_end, true_and, and_true, or_true, true_or, if_true, if_false, ite_true, ite_false, List.map_nil, List.map_cons, List.sum_nil, List.sum_cons, List.nil_append, List.cons_append, Option.toList_some, Option.toList_none, Nat.reduceAdd, Nat.reduceLeDiff, Nat.reduceSub, Nat.zero_le, List.headD_cons, List.tail_cons, List.length_cons, List.length_nil, ne_eq, reduceCtorEq, false_or, or_false, not_false_eq_true, Nat.reduceEqDiff, Nat.reduceLT, am_sw, bI_0, bI_z, bI_y, Classical.not_not, Nat.le_add_left, am_u_row2, am_r_row2, am_u_same, am_u_at, am_r_same, Int32.reduceLT, Int32.reduceLE, Int32.reduceAdd, Int32.reduceSub, Int32.reduceMul, forall_const, not_true_eq_false, implies_true, false_imp_iff, true_imp_iff, i_10, i_01, i_m10, i_m11, eq_self, or_self, false_and, and_false, and_self, am_so_some, am_pv_some, am_pv_none, l_cl_none, l_cl_int, l_cl_ref, l_cl_ra, l_cl_null, l_cl_long, cat_int, cat_ref, cat_long, cat_ra, cat_null, cl_0, cl_1, cl_2, cl_3, cl_4, cl_5, cl_6, cl_7, cl_8, cl_9, cl_10, cl_11, cl_12, cl_13, cl_14, cl_15, cl_16, cl_30, cl_64, cl_500, vl_0_2, vl_0_3, vl_0_4, vl_0_6, vl_0_7, vl_0_12, vl_0_16, vl_0_1400, vl_1_2, vl_1_3, vl_1_4, vl_1_6, vl_1_7, vl_1_12, vl_1_16, vl_1_1400, vl_2_3, vl_2_4, vl_2_6, vl_2_7, vl_2_12, vl_2_16, vl_2_1400, vl_3_4, vl_3_6, vl_3_7, vl_3_12, vl_3_16, vl_3_1400, vl_4_6, vl_4_7, vl_4_12, vl_4_16, vl_4_1400, vl_5_6, vl_5_7, vl_5_12, vl_5_16, vl_5_1400, vl_6_7, vl_6_12, vl_6_16, vl_6_1400, vl_7_12, vl_7_16, vl_8_12, vl_8_16, vl_9_12, vl_9_16, vl_10_12, vl_10_16, vl_11_12, vl_11_16, i_64le_e, i64a_0, i64b_0, i64a_1, i64b_1, i64a_2, i64b_2, i64a_3, i64b_3, i64a_4, i64b_4, i64a_5, i64b_5, i64a_7, i64b_7, i64a_8, i64b_8, i64a_9, i64b_9, i64a_10, i64b_10, i64a_16, i64b_16, i64a_50, i64b_50, i64a_m50, i64b_m50, i64a_60, i64b_60, i64a_99, i64b_99, i64a_100, i64b_100, i64a_500, i64b_500, i64a_600, i64b_600, i64a_1000, i64b_1000, i64a_1000000, i64b_1000000, i64a_m9, i64b_m9, e_s_31, e_i_31, e_l_31, e_p_31_0, e_p_31_1, e_p_31_2, e_p_31_3, e_p_31_4, e_p_31_5, e_p_31_6, e_s_36, e_i_36, e_l_36, e_s_51, e_i_51, e_l_51, e_p_51_0, e_p_51_1, e_p_51_2, e_p_51_3, e_p_51_4, e_s_54, e_i_54, e_l_54, e_p_54_0, e_p_54_1, e_p_54_2, e_p_54_3, e_p_54_4, e_p_54_5, e_p_54_6, e_p_54_7, e_s_55, e_i_55, e_l_55, e_s_56, e_i_56, e_l_56, e_s_57, e_i_57, e_l_57, e_s_58, e_i_58, e_l_58, e_s_59, e_i_59, e_l_59, e_s_60, e_i_60, e_l_60, hE]
        refine am_cal_no rfl (c_Meter_differenceOf hE hC2 hI c0 hm ?_)
        simp only [s_aload_0_ref, s_bald, s_dup_int, s_dup_ref, s_get0, s_get2, s_goto, s_iadd, s_iast, s_ic_eq, s_ic_ge, s_ic_ne, s_iconst, s_if_eq, s_iinc_1, s_iload_1_int, s_iload_2_int, s_istore_1_int, s_istore_2_int, s_iv_1, s_ldc, s_put0, s_return, J_Odds_countAll_0, b_Odds_countAll_0, J_Odds_countAll_33, b_Odds_countAll_33, J_Odds_countAll_98, b_Odds_countAll_98, J_Odds_countAll_104, b_Odds_countAll_104, J_Odds_countAll_7, b_Odds_countAll_7, s_end, true_and, and_true, or_true, true_or, if_true, if_false, ite_true, ite_false, List.map_nil, List.map_cons, List.sum_nil, List.sum_cons, List.nil_append, List.cons_append, Option.toList_some, Option.toList_none, Nat.reduceAdd, Nat.reduceLeDiff, Nat.reduceSub, Nat.zero_le, List.headD_cons, List.tail_cons, List.length_cons, List.length_nil, ne_eq, reduceCtorEq, false_or, or_false, not_false_eq_true, Nat.reduceEqDiff, Nat.reduceLT, am_sw, bI_0, bI_z, bI_y, Classical.not_not, Nat.le_add_left, am_u_row2, am_r_row2, am_u_same, am_u_at, am_r_same, Int32.reduceLT, Int32.reduceLE, Int32.reduceAdd, Int32.reduceSub, Int32.reduceMul, forall_const, not_true_eq_false, implies_true, false_imp_iff, true_imp_iff, i_10, i_01, i_m10, i_m11, eq_self, or_self, false_and, and_false, and_self, am_so_some, am_pv_some, am_pv_none, l_cl_none, l_cl_int, l_cl_ref, l_cl_ra, l_cl_null, l_cl_long, cat_int, cat_ref, cat_long, cat_ra, cat_null, cl_0, cl_1, cl_2, cl_3, cl_4, cl_5, cl_6, cl_7, cl_8, cl_9, cl_10, cl_11, cl_12, cl_13, cl_14, cl_15, cl_16, cl_30, cl_64, cl_500, vl_0_2, vl_0_3, vl_0_4, vl_0_6, vl_0_7, vl_0_12, vl_0_16, vl_0_1400, vl_1_2, vl_1_3, vl_1_4, vl_1_6, vl_1_7, vl_1_12, vl_1_16, vl_1_1400, vl_2_3, vl_2_4, vl_2_6, vl_2_7, vl_2_12, vl_2_16, vl_2_1400, vl_3_4, vl_3_6, vl_3_7, vl_3_12, vl_3_16, vl_3_1400, vl_4_6, vl_4_7, vl_4_12, vl_4_16, vl_4_1400, vl_5_6, vl_5_7, vl_5_12, vl_5_16, vl_5_1400, vl_6_7, vl_6_12, vl_6_16, vl_6_1400, vl_7_12, vl_7_16, vl_8_12, vl_8_16, vl_9_12, vl_9_16, vl_10_12, vl_10_16, vl_11_12, vl_11_16, i_64le_e, i64a_0, i64b_0, i64a_1, i64b_1, i64a_2, i64b_2, i64a_3, i64b_3, i64a_4, i64b_4, i64a_5, i64b_5, i64a_7, i64b_7, i64a_8, i64b_8, i64a_9, i64b_9, i64a_10, i64b_10, i64a_16, i64b_16, i64a_50, i64b_50, i64a_m50, i64b_m50, i64a_60, i64b_60, i64a_99, i64b_99, i64a_100, i64b_100, i64a_500, i64b_500, i64a_600, i64b_600, i64a_1000, i64b_1000, i64a_1000000, i64b_1000000, i64a_m9, i64b_m9, e_s_31, e_i_31, e_l_31, e_p_31_0, e_p_31_1, e_p_31_2, e_p_31_3, e_p_31_4, e_p_31_5, e_p_31_6, e_s_36, e_i_36, e_l_36, e_s_51, e_i_51, e_l_51, e_p_51_0, e_p_51_1, e_p_51_2, e_p_51_3, e_p_51_4, e_s_54, e_i_54, e_l_54, e_p_54_0, e_p_54_1, e_p_54_2, e_p_54_3, e_p_54_4, e_p_54_5, e_p_54_6, e_p_54_7, e_s_55, e_i_55, e_l_55, e_s_56, e_i_56, e_l_56, e_s_57, e_i_57, e_l_57, e_s_58, e_i_58, e_l_58, e_s_59, e_i_59, e_l_59, e_s_60, e_i_60, e_l_60, hE]
        simp (disch := omega) only [nI_clamp, nI_le', nI_lt', nI_eq', rem2_1, rem2_0, nI_eq0, nI_le0, nI_0lt, nI_0le, nI_lt0, nI_m1, vp_inE, nm_nI, i_20, nI_1, nI_add, and_true, true_and, and_self, or_true, true_or, or_false, false_or, false_and, and_false, not_true_eq_false, not_false_eq_true, if_true, if_false, ite_true, ite_false, false_imp_iff, true_imp_iff, rsn_00, rsn_10, rsn_01, rsn_11, n_09, n_19, n_29, n_99, implies_true, bI_t, bI_f, or_self, ne_eq, eq_self, Classical.not_not, Bool.false_eq_true]
        refine ⟨fun h4 => skip (decide_eq_false (fun q => q.2.1 h4)) M2 _ (f2.mono (by decide) (by decide)), fun h4 => ?_⟩
        refine am_cal_no rfl (c_Meter_clauseAgainst hE hC2 hI hP c0 hm ?_)
        intro M3 f3
        have f4 : Fr [22, 51, 53] fsO M1 M3 := (f2.mono (by decide) (by decide)).trans (f3.mono (by decide) (by decide))
        have hc3 := hc.of (f4.row 54 (by decide) (by decide)) (f4.row 60 (by decide) (by decide)) (f4.row 55 (by decide) (by decide))
        have a1 := hc3.n
        have ll : (ctL V x0 b).length ≤ b := ctL_len
        simp only [s_aload_0_ref, s_bald, s_dup_int, s_dup_ref, s_get0, s_get2, s_goto, s_iadd, s_iast, s_ic_eq, s_ic_ge, s_ic_ne, s_iconst, s_if_eq, s_iinc_1, s_iload_1_int, s_iload_2_int, s_istore_1_int, s_istore_2_int, s_iv_1, s_ldc, s_put0, s_return, J_Odds_countAll_0, b_Odds_countAll_0, J_Odds_countAll_33, b_Odds_countAll_33, J_Odds_countAll_98, b_Odds_countAll_98, J_Odds_countAll_104, b_Odds_countAll_104, J_Odds_countAll_7, b_Odds_countAll_7, s_end, true_and, and_true, or_true, true_or, if_true, if_false, ite_true, ite_false, List.map_nil, List.map_cons, List.sum_nil, List.sum_cons, List.nil_append, List.cons_append, Option.toList_some, Option.toList_none, Nat.reduceAdd, Nat.reduceLeDiff, Nat.reduceSub, Nat.zero_le, List.headD_cons, List.tail_cons, List.length_cons, List.length_nil, ne_eq, reduceCtorEq, false_or, or_false, not_false_eq_true, Nat.reduceEqDiff, Nat.reduceLT, am_sw, bI_0, bI_z, bI_y, Classical.not_not, Nat.le_add_left, am_u_row2, am_r_row2, am_u_same, am_u_at, am_r_same, Int32.reduceLT, Int32.reduceLE, Int32.reduceAdd, Int32.reduceSub, Int32.reduceMul, forall_const, not_true_eq_false, implies_true, false_imp_iff, true_imp_iff, i_10, i_01, i_m10, i_m11, eq_self, or_self, false_and, and_false, and_self, am_so_some, am_pv_some, am_pv_none, l_cl_none, l_cl_int, l_cl_ref, l_cl_ra, l_cl_null, l_cl_long, cat_int, cat_ref, cat_long, cat_ra, cat_null, cl_0, cl_1, cl_2, cl_3, cl_4, cl_5, cl_6, cl_7, cl_8, cl_9, cl_10, cl_11, cl_12, cl_13, cl_14, cl_15, cl_16, cl_30, cl_64, cl_500, vl_0_2, vl_0_3, vl_0_4, vl_0_6, vl_0_7, vl_0_12, vl_0_16, vl_0_1400, vl_1_2, vl_1_3, vl_1_4, vl_1_6, vl_1_7, vl_1_12, vl_1_16, vl_1_1400, vl_2_3, vl_2_4, vl_2_6, vl_2_7, vl_2_12, vl_2_16, vl_2_1400, vl_3_4, vl_3_6, vl_3_7, vl_3_12, vl_3_16, vl_3_1400, vl_4_6, vl_4_7, vl_4_12, vl_4_16, vl_4_1400, vl_5_6, vl_5_7, vl_5_12, vl_5_16, vl_5_1400, vl_6_7, vl_6_12, vl_6_16, vl_6_1400, vl_7_12, vl_7_16, vl_8_12, vl_8_16, vl_9_12, vl_9_16, vl_10_12, vl_10_16, vl_11_12, vl_11_16, i_64le_e, i64a_0, i64b_0, i64a_1, i64b_1, i64a_2, i64b_2, i64a_3, i64b_3, i64a_4, i64b_4, i64a_5, i64b_5, i64a_7, i64b_7, i64a_8, i64b_8, i64a_9, i64b_9, i64a_10, i64b_10, i64a_16, i64b_16, i64a_50, i64b_50, i64a_m50, i64b_m50, i64a_60, i64b_60, i64a_99, i64b_99, i64a_100, i64b_100, i64a_500, i64b_500, i64a_600, i64b_600, i64a_1000, i64b_1000, i64a_1000000, i64b_1000000, i64a_m9, i64b_m9, e_s_31, e_i_31, e_l_31, e_p_31_0, e_p_31_1, e_p_31_2, e_p_31_3, e_p_31_4, e_p_31_5, e_p_31_6, e_s_36, e_i_36, e_l_36, e_s_51, e_i_51, e_l_51, e_p_51_0, e_p_51_1, e_p_51_2, e_p_51_3, e_p_51_4, e_s_54, e_i_54, e_l_54, e_p_54_0, e_p_54_1, e_p_54_2, e_p_54_3, e_p_54_4, e_p_54_5, e_p_54_6, e_p_54_7, e_s_55, e_i_55, e_l_55, e_s_56, e_i_56, e_l_56, e_s_57, e_i_57, e_l_57, e_s_58, e_i_58, e_l_58, e_s_59, e_i_59, e_l_59, e_s_60, e_i_60, e_l_60, a1, hE]
        simp (disch := omega) only [nI_clamp, nI_le', nI_lt', nI_eq', rem2_1, rem2_0, nI_eq0, nI_le0, nI_0lt, nI_0le, nI_lt0, nI_m1, vp_inE, nm_nI, i_20, nI_1, nI_add, and_true, true_and, and_self, or_true, true_or, or_false, false_or, false_and, and_false, not_true_eq_false, not_false_eq_true, if_true, if_false, ite_true, ite_false, false_imp_iff, true_imp_iff, rsn_00, rsn_10, rsn_01, rsn_11, n_09, n_19, n_29, n_99, implies_true, bI_t, bI_f, or_self, ne_eq, eq_self, Classical.not_not, Bool.false_eq_true]
        refine ⟨fun h5 => skip (decide_eq_false (fun q => h5 q.2.2)) M3 _ f4, fun h5 => ?_⟩
        have y := ctL_yes (V := V) (x := x0) (n := b) rfl (decide_eq_true ⟨h1', h4, h5⟩)
        have ih := ih c0
        rw [y] at ih
        refine ih _ _ (((f1.trans (f4.mono (by decide) (by decide))).u (by decide)).u (by decide) |>.u (by decide)) ⟨?_, ?_, ?_⟩
        all_goals try simp only [am_u_same, am_u_row2, am_u_at, am_r_same, am_r_row2, Nat.reduceEqDiff, eq_self, reduceCtorEq, not_false_eq_true, true_and, and_true, if_true, if_false, ite_true, ite_false]
        · rw [List.length_append]; rfl
        all_goals rw [List.map_append]
        · exact Arr.snoc hc3.w (by rw [List.length_map])
        · refine Arr.snoc (M := am_u M3 60 _ _) ?_ (by rw [List.length_map])
          rw [am_u_row2 (by decide)]; exact hc3.p
      · refine skip (decide_eq_false (fun q => ?_)) M1 _ Fr.refl
        rcases hI.bl b c0 with z | z
        · exact h1 z
        · exact q.1 z
    · have e : b = nB V := by omega
      subst e
      simp (disch := omega) only [Nat.le_refl, nI_clamp, nI_le', nI_lt', nI_eq', rem2_1, rem2_0, nI_eq0, nI_le0, nI_0lt, nI_0le, nI_lt0, nI_m1, vp_inE, nm_nI, i_20, nI_1, nI_add, and_true, true_and, and_self, or_true, true_or, or_false, false_or, false_and, and_false, not_true_eq_false, not_false_eq_true, if_true, if_false, ite_true, ite_false, false_imp_iff, true_imp_iff, rsn_00, rsn_10, rsn_01, rsn_11, n_09, n_19, n_29, n_99, implies_true, bI_t, bI_f, or_self, ne_eq, eq_self, Classical.not_not, Bool.false_eq_true]
      exact k M1 f1 hc
  refine loop1 0 (by omega) _ _ (Fr.refl.u (by decide)) ⟨?_, fun i hi => absurd hi (by simp [ctL]), fun i hi => absurd hi (by simp [ctL])⟩
  try simp only [am_u_same, am_u_row2, am_u_at, am_r_same, am_r_row2, Nat.reduceEqDiff, eq_self, reduceCtorEq, not_false_eq_true, true_and, and_true, if_true, if_false, ite_true, ite_false]
  rfl
theorem and1 (y : Int32) : y &&& 1 = 0 ∨ y &&& 1 = 1 := by
  have h : (y &&& 1).toBitVec.toNat = y.toBitVec.toNat % 2 := by
    rw [Int32.toBitVec_and, BitVec.toNat_and, show (1 : Int32).toBitVec.toNat = 2 ^ 1 - 1 from by decide, Nat.and_two_pow_sub_one_eq_mod]
  have q : y.toBitVec.toNat % 2 = 0 ∨ y.toBitVec.toNat % 2 = 1 := by omega
  rcases q with q | q
  · left
    apply Int32.toBitVec_inj.mp
    apply BitVec.eq_of_toNat_eq
    rw [h, q]; rfl
  · right
    apply Int32.toBitVec_inj.mp
    apply BitVec.eq_of_toNat_eq
    rw [h, q]; rfl
def xC (w : Int32) (b : Nat) : Bool := decide (¬ (w >>> (nI b &&& 31)) &&& 1 = 0)
theorem ctL_filter {x : Nat → Bool} {n : Nat} : (ctL V x0 n).filter (fun b => !(x b)) = ctL V x n := by
  unfold ctL
  rw [List.filter_filter]
  rfl
theorem ctL_x {x y : Nat → Bool} {n : Nat} (h : ∀ b, b < n → x b = y b) : ctL V x n = ctL V y n := by
  unfold ctL
  apply List.filter_congr
  intro b hb
  rw [h b (List.mem_range.mp hb)]
theorem xR_xC (hI : IV V) {w : Int32} {b : Nat} (hb : b < nB V) : xR V w (-1) b = xC w b := by
  unfold xR xC
  have e : V 80 b ≠ -1 := by rw [(hI.bh b hb).1]; exact i_nI_ne_m1 (by have := (hI.bh b hb).2; omega)
  rcases and1 (w >>> (nI b &&& 31)) with q | q
  · rw [q]; simp [e]
  · rw [q]; simp
theorem filter_snoc {p : Nat → Bool} {l : List Nat} {i : Nat} (hi : i < l.length) : (l.take (i + 1)).filter p = if p (l.getD i 0) = true then (l.take i).filter p ++ [l.getD i 0] else (l.take i).filter p := by
  have e : l.take (i + 1) = l.take i ++ [l.getD i 0] := by
    rw [List.take_add_one, List.getD_eq_getElem?_getD, List.getElem?_eq_getElem hi]
    rfl
  rw [e, List.filter_append]
  by_cases q : p (l.getD i 0) = true
  · rw [if_pos q, List.filter_cons_of_pos q, List.filter_nil]
  · rw [if_neg q, List.filter_cons_of_neg q, List.filter_nil, List.append_nil]
theorem c_Odds_choose {w : Int32} {l : List Nat} (hE : am_env S) (hc : CtC V M l) (hl : l.length ≤ 16) (k : ∀ M', Fr [56] [] M M' → Arr (M' 56) ((l.filter (fun b => !(xC w b))).map (difI V)) → K (some (.int (nI (l.filter (fun b => !(xC w b))).length))) S M' L) : am_Call X d m_Odds_choose [.ref 54, .int w] S M L K := by
  refine EE_Odds_choose pt32_ok ?_
  simp only [s_aload_0_ref, s_get0, s_get2, s_goto, s_iald, s_iand, s_iast, s_ic_ge, s_iconst, s_if_ne, s_iinc_2, s_iinc_3, s_iload_1_int, s_iload_2_int, s_iload_3_int, s_ireturn, s_ishr, s_istore_2_int, s_istore_3_int, J_Odds_choose_0, b_Odds_choose_0, J_Odds_choose_40, b_Odds_choose_40, J_Odds_choose_46, b_Odds_choose_46, J_Odds_choose_4, b_Odds_choose_4, s_end, true_and, and_true, or_true, true_or, if_true, if_false, ite_true, ite_false, List.map_nil, List.map_cons, List.sum_nil, List.sum_cons, List.nil_append, List.cons_append, Option.toList_some, Option.toList_none, Nat.reduceAdd, Nat.reduceLeDiff, Nat.reduceSub, Nat.zero_le, List.headD_cons, List.tail_cons, List.length_cons, List.length_nil, ne_eq, reduceCtorEq, false_or, or_false, not_false_eq_true, Nat.reduceEqDiff, Nat.reduceLT, am_sw, bI_0, bI_z, bI_y, Classical.not_not, Nat.le_add_left, am_u_row2, am_r_row2, am_u_same, am_u_at, am_r_same, Int32.reduceLT, Int32.reduceLE, Int32.reduceAdd, Int32.reduceSub, Int32.reduceMul, forall_const, not_true_eq_false, implies_true, false_imp_iff, true_imp_iff, i_10, i_01, i_m10, i_m11, eq_self, or_self, false_and, and_false, and_self, am_so_some, am_pv_some, am_pv_none, l_cl_none, l_cl_int, l_cl_ref, l_cl_ra, l_cl_null, l_cl_long, cat_int, cat_ref, cat_long, cat_ra, cat_null, cl_0, cl_1, cl_2, cl_3, cl_4, cl_5, cl_6, cl_7, cl_8, cl_9, cl_10, cl_11, cl_12, cl_13, cl_14, cl_15, cl_16, cl_30, cl_64, cl_500, vl_0_2, vl_0_3, vl_0_4, vl_0_6, vl_0_7, vl_0_12, vl_0_16, vl_0_1400, vl_1_2, vl_1_3, vl_1_4, vl_1_6, vl_1_7, vl_1_12, vl_1_16, vl_1_1400, vl_2_3, vl_2_4, vl_2_6, vl_2_7, vl_2_12, vl_2_16, vl_2_1400, vl_3_4, vl_3_6, vl_3_7, vl_3_12, vl_3_16, vl_3_1400, vl_4_6, vl_4_7, vl_4_12, vl_4_16, vl_4_1400, vl_5_6, vl_5_7, vl_5_12, vl_5_16, vl_5_1400, vl_6_7, vl_6_12, vl_6_16, vl_6_1400, vl_7_12, vl_7_16, vl_8_12, vl_8_16, vl_9_12, vl_9_16, vl_10_12, vl_10_16, vl_11_12, vl_11_16, i_64le_e, i64a_0, i64b_0, i64a_1, i64b_1, i64a_2, i64b_2, i64a_3, i64b_3, i64a_4, i64b_4, i64a_5, i64b_5, i64a_7, i64b_7, i64a_8, i64b_8, i64a_9, i64b_9, i64a_10, i64b_10, i64a_16, i64b_16, i64a_50, i64b_50, i64a_m50, i64b_m50, i64a_60, i64b_60, i64a_99, i64b_99, i64a_100, i64b_100, i64a_500, i64b_500, i64a_600, i64b_600, i64a_1000, i64b_1000, i64a_1000000, i64b_1000000, i64a_m9, i64b_m9, e_s_31, e_i_31, e_l_31, e_p_31_0, e_p_31_1, e_p_31_2, e_p_31_3, e_p_31_4, e_p_31_5, e_p_31_6, e_s_51, e_i_51, e_l_51, e_p_51_0, e_p_51_1, e_p_51_2, e_p_51_3, e_p_51_4, e_s_54, e_i_54, e_l_54, e_p_54_0, e_p_54_1, e_p_54_2, e_p_54_3, e_p_54_4, e_p_54_5, e_p_54_6, e_p_54_7, e_s_55, e_i_55, e_l_55, e_s_56, e_i_56, e_l_56, e_s_57, e_i_57, e_l_57, e_s_58, e_i_58, e_l_58, e_s_59, e_i_59, e_l_59, e_s_60, e_i_60, e_l_60, hE]
  have loop : ∀ i, i ≤ l.length → ∀ M1, Fr [56] [] M M1 → Arr (M1 56) (((l.take i).filter (fun b => !(xC w b))).map (difI V)) → am_WP X d 49 4 [some (.ref 54), some (.int (w)), some (.int (nI ((l.take i).filter (fun b => !(xC w b))).length)), some (.int (nI i))] [] S (M1) (L) 0 0 K := by
    refine am_ind ?_
    intro i hi ih M1 f1 ha
    have hc1 := hc.of (f1.row 54 (by decide) (by decide)) (f1.row 60 (by decide) (by decide)) (f1.row 55 (by decide) (by decide))
    have a1 := hc1.n
    have ll : ((l.take i).filter (fun b => !(xC w b))).length ≤ i := Nat.le_trans (List.length_filter_le _ _) (by rw [List.length_take]; omega)
    refine H_Odds_choose_4 pt32_ok ?_
    simp only [s_aload_0_ref, s_get0, s_get2, s_goto, s_iald, s_iand, s_iast, s_ic_ge, s_iconst, s_if_ne, s_iinc_2, s_iinc_3, s_iload_1_int, s_iload_2_int, s_iload_3_int, s_ireturn, s_ishr, s_istore_2_int, s_istore_3_int, J_Odds_choose_0, b_Odds_choose_0, J_Odds_choose_40, b_Odds_choose_40, J_Odds_choose_46, b_Odds_choose_46, J_Odds_choose_4, b_Odds_choose_4, s_end, true_and, and_true, or_true, true_or, if_true, if_false, ite_true, ite_false, List.map_nil, List.map_cons, List.sum_nil, List.sum_cons, List.nil_append, List.cons_append, Option.toList_some, Option.toList_none, Nat.reduceAdd, Nat.reduceLeDiff, Nat.reduceSub, Nat.zero_le, List.headD_cons, List.tail_cons, List.length_cons, List.length_nil, ne_eq, reduceCtorEq, false_or, or_false, not_false_eq_true, Nat.reduceEqDiff, Nat.reduceLT, am_sw, bI_0, bI_z, bI_y, Classical.not_not, Nat.le_add_left, am_u_row2, am_r_row2, am_u_same, am_u_at, am_r_same, Int32.reduceLT, Int32.reduceLE, Int32.reduceAdd, Int32.reduceSub, Int32.reduceMul, forall_const, not_true_eq_false, implies_true, false_imp_iff, true_imp_iff, i_10, i_01, i_m10, i_m11, eq_self, or_self, false_and, and_false, and_self, am_so_some, am_pv_some, am_pv_none, l_cl_none, l_cl_int, l_cl_ref, l_cl_ra, l_cl_null, l_cl_long, cat_int, cat_ref, cat_long, cat_ra, cat_null, cl_0, cl_1, cl_2, cl_3, cl_4, cl_5, cl_6, cl_7, cl_8, cl_9, cl_10, cl_11, cl_12, cl_13, cl_14, cl_15, cl_16, cl_30, cl_64, cl_500, vl_0_2, vl_0_3, vl_0_4, vl_0_6, vl_0_7, vl_0_12, vl_0_16, vl_0_1400, vl_1_2, vl_1_3, vl_1_4, vl_1_6, vl_1_7, vl_1_12, vl_1_16, vl_1_1400, vl_2_3, vl_2_4, vl_2_6, vl_2_7, vl_2_12, vl_2_16, vl_2_1400, vl_3_4, vl_3_6, vl_3_7, vl_3_12, vl_3_16, vl_3_1400, vl_4_6, vl_4_7, vl_4_12, vl_4_16, vl_4_1400, vl_5_6, vl_5_7, vl_5_12, vl_5_16, vl_5_1400, vl_6_7, vl_6_12, vl_6_16, vl_6_1400, vl_7_12, vl_7_16, vl_8_12, vl_8_16, vl_9_12, vl_9_16, vl_10_12, vl_10_16, vl_11_12, vl_11_16, i_64le_e, i64a_0, i64b_0, i64a_1, i64b_1, i64a_2, i64b_2, i64a_3, i64b_3, i64a_4, i64b_4, i64a_5, i64b_5, i64a_7, i64b_7, i64a_8, i64b_8, i64a_9, i64b_9, i64a_10, i64b_10, i64a_16, i64b_16, i64a_50, i64b_50, i64a_m50, i64b_m50, i64a_60, i64b_60, i64a_99, i64b_99, i64a_100, i64b_100, i64a_500, i64b_500, i64a_600, i64b_600, i64a_1000, i64b_1000, i64a_1000000, i64b_1000000, i64a_m9, i64b_m9, e_s_31, e_i_31, e_l_31, e_p_31_0, e_p_31_1, e_p_31_2, e_p_31_3, e_p_31_4, e_p_31_5, e_p_31_6, e_s_51, e_i_51, e_l_51, e_p_51_0, e_p_51_1, e_p_51_2, e_p_51_3, e_p_51_4, e_s_54, e_i_54, e_l_54, e_p_54_0, e_p_54_1, e_p_54_2, e_p_54_3, e_p_54_4, e_p_54_5, e_p_54_6, e_p_54_7, e_s_55, e_i_55, e_l_55, e_s_56, e_i_56, e_l_56, e_s_57, e_i_57, e_l_57, e_s_58, e_i_58, e_l_58, e_s_59, e_i_59, e_l_59, e_s_60, e_i_60, e_l_60, a1, hE]
    by_cases c0 : i < l.length
    · have a2 := hc1.w i (by rw [List.length_map]; exact c0)
      have a3 := hc1.p i (by rw [List.length_map]; exact c0)
      rw [getD_map (b := 0) c0] at a2 a3
      have ih := ih c0
      rw [filter_snoc c0] at ih
      simp (disch := omega) only [Nat.not_le.mpr, c0, a2, a3, nI_clamp, nI_le', nI_lt', nI_eq', rem2_1, rem2_0, nI_eq0, nI_le0, nI_0lt, nI_0le, nI_lt0, nI_m1, vp_inE, nm_nI, i_20, nI_1, nI_add, and_true, true_and, and_self, or_true, true_or, or_false, false_or, false_and, and_false, not_true_eq_false, not_false_eq_true, if_true, if_false, ite_true, ite_false, false_imp_iff, true_imp_iff, rsn_00, rsn_10, rsn_01, rsn_11, n_09, n_19, n_29, n_99, implies_true, bI_t, bI_f, or_self, ne_eq, eq_self, Classical.not_not, Bool.false_eq_true]
      refine ⟨fun h => ?_, fun h => ?_⟩
      · have q : ¬ (!(xC w (l.getD i 0))) = true := by unfold xC; rw [decide_eq_true h]; decide
        simp only [if_neg q] at ih
        exact ih M1 f1 ha
      · have q : (!(xC w (l.getD i 0))) = true := by unfold xC; rw [decide_eq_false (fun z => z h)]; rfl
        simp only [if_pos q] at ih
        rw [List.map_append, List.length_append] at ih
        exact ih _ (f1.u (by decide)) (Arr.snoc ha (by rw [List.length_map]))
    · have e : i = l.length := by omega
      subst e
      simp (disch := omega) only [Nat.le_refl, nI_clamp, nI_le', nI_lt', nI_eq', rem2_1, rem2_0, nI_eq0, nI_le0, nI_0lt, nI_0le, nI_lt0, nI_m1, vp_inE, nm_nI, i_20, nI_1, nI_add, and_true, true_and, and_self, or_true, true_or, or_false, false_or, false_and, and_false, not_true_eq_false, not_false_eq_true, if_true, if_false, ite_true, ite_false, false_imp_iff, true_imp_iff, rsn_00, rsn_10, rsn_01, rsn_11, n_09, n_19, n_29, n_99, implies_true, bI_t, bI_f, or_self, ne_eq, eq_self, Classical.not_not, Bool.false_eq_true]
      rw [List.take_length] at ha ⊢
      exact k M1 f1 ha
  refine loop 0 (by omega) M Fr.refl (fun i hi => absurd hi (by simp))
/-- a row of sums, least first -/
def Srt (f : Nat → Int32) (n : Nat) (l : List Int) : Prop := (∀ i j, i ≤ j → j < n → (f i).toInt ≤ (f j).toInt) ∧ (∀ i, i < n → -(3840000 * l.length) ≤ (f i).toInt ∧ (f i).toInt ≤ 3840000 * l.length) ∧ (∀ g : Int → Nat, sumN (fun i => g (f i).toInt) n = ss l g)
theorem Srt.so {f : Nat → Int32} {n : Nat} {l : List Int} (h : Srt f n l) : ∀ i j, i ≤ j → j < n → (f i).toInt ≤ (f j).toInt := h.1
theorem Srt.bd {f : Nat → Int32} {n : Nat} {l : List Int} (h : Srt f n l) : ∀ i, i < n → -(3840000 * l.length) ≤ (f i).toInt ∧ (f i).toInt ≤ 3840000 * l.length := h.2.1
theorem Srt.su {f : Nat → Int32} {n : Nat} {l : List Int} (h : Srt f n l) : ∀ g : Int → Nat, sumN (fun i => g (f i).toInt) n = ss l g := h.2.2
theorem Srt.congr {f g : Nat → Int32} {n : Nat} {l : List Int} (h : Srt f n l) (e : ∀ i, i < n → g i = f i) : Srt g n l := by
  refine ⟨fun i j h1 h2 => ?_, fun i hi => ?_, fun k => ?_⟩
  · rw [e i (by omega), e j h2]; exact h.so i j h1 h2
  · rw [e i hi]; exact h.bd i hi
  · rw [← h.su k]; exact sumN_congr (fun i hi => by rw [e i hi])
/-- two rows on their way into one -/
def MgI (F f : Nat → Int) (v B : Int) (n u w : Nat) : Prop := (∀ i j, i ≤ j → j < u + w → F i ≤ F j) ∧ (∀ i, i < u + w → (u < n → F i ≤ f u) ∧ (w < n → F i ≤ f w + v)) ∧ (∀ i, i < u + w → -B ≤ F i ∧ F i ≤ B) ∧ (∀ g : Int → Nat, sumN (fun i => g (F i)) (u + w) = sumN (fun i => g (f i)) u + sumN (fun i => g (f i + v)) w)
theorem MgI.so {F f : Nat → Int} {v B : Int} {n u w : Nat} (h : MgI F f v B n u w) : ∀ i j, i ≤ j → j < u + w → F i ≤ F j := h.1
theorem MgI.up {F f : Nat → Int} {v B : Int} {n u w : Nat} (h : MgI F f v B n u w) : ∀ i, i < u + w → (u < n → F i ≤ f u) ∧ (w < n → F i ≤ f w + v) := h.2.1
theorem MgI.bd {F f : Nat → Int} {v B : Int} {n u w : Nat} (h : MgI F f v B n u w) : ∀ i, i < u + w → -B ≤ F i ∧ F i ≤ B := h.2.2.1
theorem MgI.su {F f : Nat → Int} {v B : Int} {n u w : Nat} (h : MgI F f v B n u w) : ∀ g : Int → Nat, sumN (fun i => g (F i)) (u + w) = sumN (fun i => g (f i)) u + sumN (fun i => g (f i + v)) w := h.2.2.2
theorem MgI.u1 {F G f : Nat → Int} {v B : Int} {n u w : Nat} (hs : ∀ i j, i ≤ j → j < n → f i ≤ f j) (hb : ∀ i, i < n → -B ≤ f i ∧ f i ≤ B) (h : MgI F f v B n u w) (hu : u < n) (hx : w < n → f u ≤ f w + v) (e1 : ∀ i, i < u + w → G i = F i) (e2 : G (u + w) = f u) : MgI G f v B n (u + 1) w := by
  have k1 : u + 1 + w = u + w + 1 := by omega
  refine ⟨fun i j h1 h2 => ?_, fun i hi => ?_, fun i hi => ?_, fun g => ?_⟩
  · by_cases c : j = u + w
    · rw [c, e2]
      by_cases c2 : i = u + w
      · rw [c2, e2]; exact Int.le_refl _
      · rw [e1 i (by omega)]; exact (h.up i (by omega)).1 hu
    · rw [e1 i (by omega), e1 j (by omega)]; exact h.so i j h1 (by omega)
  · by_cases c : i = u + w
    · rw [c, e2]
      exact ⟨fun q => hs u (u + 1) (by omega) q, hx⟩
    · rw [e1 i (by omega)]
      have q := h.up i (by omega)
      exact ⟨fun z => Int.le_trans (q.1 hu) (hs u (u + 1) (by omega) z), q.2⟩
  · by_cases c : i = u + w
    · rw [c, e2]; exact hb u hu
    · rw [e1 i (by omega)]; exact h.bd i (by omega)
  · rw [k1]
    show sumN (fun i => g (G i)) (u + w) + g (G (u + w)) = sumN (fun i => g (f i)) u + g (f u) + _
    rw [e2, sumN_congr (g := fun i => g (F i)) (fun i hi => by rw [e1 i hi]), h.su g]
    omega
theorem MgI.w1 {F G f : Nat → Int} {v B : Int} {n u w : Nat} (hs : ∀ i j, i ≤ j → j < n → f i ≤ f j) (hb : ∀ i, i < n → -B ≤ f i + v ∧ f i + v ≤ B) (h : MgI F f v B n u w) (hw : w < n) (hx : u < n → f w + v ≤ f u) (e1 : ∀ i, i < u + w → G i = F i) (e2 : G (u + w) = f w + v) : MgI G f v B n u (w + 1) := by
  refine ⟨fun i j h1 h2 => ?_, fun i hi => ?_, fun i hi => ?_, fun g => ?_⟩
  · by_cases c : j = u + w
    · rw [c, e2]
      by_cases c2 : i = u + w
      · rw [c2, e2]; exact Int.le_refl _
      · rw [e1 i (by omega)]; exact (h.up i (by omega)).2 hw
    · rw [e1 i (by omega), e1 j (by omega)]; exact h.so i j h1 (by omega)
  · by_cases c : i = u + w
    · rw [c, e2]
      exact ⟨hx, fun q => by have := hs w (w + 1) (by omega) q; omega⟩
    · rw [e1 i (by omega)]
      have q := h.up i (by omega)
      exact ⟨q.1, fun z => by have := hs w (w + 1) (by omega) z; have := q.2 hw; omega⟩
  · by_cases c : i = u + w
    · rw [c, e2]; exact hb w hw
    · rw [e1 i (by omega)]; exact h.bd i (by omega)
  · show sumN (fun i => g (G i)) (u + w) + g (G (u + w)) = sumN (fun i => g (f i)) u + (sumN (fun i => g (f i + v)) w + g (f w + v))
    rw [e2, sumN_congr (g := fun i => g (F i)) (fun i hi => by rw [e1 i hi]), h.su g]
    omega
theorem c_Odds_addValue {v : Int32} {q n : Nat} {l : List Int} (hE : am_env S) (q1 : S.2.1 q = (1, 256)) (q2 : am_ia S q 1 = True) (q3 : (q < S.1) = True) (hq : (q = 59) = False) (hq2 : (59 = q) = False) (hn0 : 0 < n) (hn : 2 * n ≤ 256) (hl : l.length ≤ 8) (hv : -3840000 ≤ v.toInt ∧ v.toInt ≤ 3840000) (hs : Srt (M q) n l) (k : ∀ M', Fr [q, 59] [] M M' → Srt (M' q) (2 * n) (l ++ [v.toInt]) → K none S M' L) : am_Call X (d + 1) m_Odds_addValue [.ref 54, .int v, .ref q, .int (nI n)] S M L K := by
  refine EE_Odds_addValue pt32_ok ?_
  simp only [s_aload_0_ref, s_aload_2_ref, s_copy, s_get2, s_goto, s_iadd, s_iald, s_iast, s_ic_ge, s_ic_gt, s_iconst, s_iinc_4, s_iinc_5, s_iinc_6, s_iload_1_int, s_iload_3_int, s_iload_4_int, s_iload_5_int, s_iload_6_int, s_imul, s_istore_4_int, s_istore_5_int, s_istore_6_int, s_return, J_Odds_addValue_0, b_Odds_addValue_0, J_Odds_addValue_59, b_Odds_addValue_59, J_Odds_addValue_76, b_Odds_addValue_76, J_Odds_addValue_92, b_Odds_addValue_92, J_Odds_addValue_98, b_Odds_addValue_98, J_Odds_addValue_20, b_Odds_addValue_20, s_end, true_and, and_true, or_true, true_or, if_true, if_false, ite_true, ite_false, List.map_nil, List.map_cons, List.sum_nil, List.sum_cons, List.nil_append, List.cons_append, Option.toList_some, Option.toList_none, Nat.reduceAdd, Nat.reduceLeDiff, Nat.reduceSub, Nat.zero_le, List.headD_cons, List.tail_cons, List.length_cons, List.length_nil, ne_eq, reduceCtorEq, false_or, or_false, not_false_eq_true, Nat.reduceEqDiff, Nat.reduceLT, am_sw, bI_0, bI_z, bI_y, Classical.not_not, Nat.le_add_left, am_u_row2, am_r_row2, am_u_same, am_u_at, am_r_same, Int32.reduceLT, Int32.reduceLE, Int32.reduceAdd, Int32.reduceSub, Int32.reduceMul, forall_const, not_true_eq_false, implies_true, false_imp_iff, true_imp_iff, i_10, i_01, i_m10, i_m11, eq_self, or_self, false_and, and_false, and_self, am_so_some, am_pv_some, am_pv_none, l_cl_none, l_cl_int, l_cl_ref, l_cl_ra, l_cl_null, l_cl_long, cat_int, cat_ref, cat_long, cat_ra, cat_null, cl_0, cl_1, cl_2, cl_3, cl_4, cl_5, cl_6, cl_7, cl_8, cl_9, cl_10, cl_11, cl_12, cl_13, cl_14, cl_15, cl_16, cl_30, cl_64, cl_500, vl_0_2, vl_0_3, vl_0_4, vl_0_6, vl_0_7, vl_0_12, vl_0_16, vl_0_1400, vl_1_2, vl_1_3, vl_1_4, vl_1_6, vl_1_7, vl_1_12, vl_1_16, vl_1_1400, vl_2_3, vl_2_4, vl_2_6, vl_2_7, vl_2_12, vl_2_16, vl_2_1400, vl_3_4, vl_3_6, vl_3_7, vl_3_12, vl_3_16, vl_3_1400, vl_4_6, vl_4_7, vl_4_12, vl_4_16, vl_4_1400, vl_5_6, vl_5_7, vl_5_12, vl_5_16, vl_5_1400, vl_6_7, vl_6_12, vl_6_16, vl_6_1400, vl_7_12, vl_7_16, vl_8_12, vl_8_16, vl_9_12, vl_9_16, vl_10_12, vl_10_16, vl_11_12, vl_11_16, i_64le_e, i64a_0, i64b_0, i64a_1, i64b_1, i64a_2, i64b_2, i64a_3, i64b_3, i64a_4, i64b_4, i64a_5, i64b_5, i64a_7, i64b_7, i64a_8, i64b_8, i64a_9, i64b_9, i64a_10, i64b_10, i64a_16, i64b_16, i64a_50, i64b_50, i64a_m50, i64b_m50, i64a_60, i64b_60, i64a_99, i64b_99, i64a_100, i64b_100, i64a_500, i64b_500, i64a_600, i64b_600, i64a_1000, i64b_1000, i64a_1000000, i64b_1000000, i64a_m9, i64b_m9, e_s_31, e_i_31, e_l_31, e_p_31_0, e_p_31_1, e_p_31_2, e_p_31_3, e_p_31_4, e_p_31_5, e_p_31_6, e_s_51, e_i_51, e_l_51, e_p_51_0, e_p_51_1, e_p_51_2, e_p_51_3, e_p_51_4, e_s_54, e_i_54, e_l_54, e_p_54_0, e_p_54_1, e_p_54_2, e_p_54_3, e_p_54_4, e_p_54_5, e_p_54_6, e_p_54_7, e_s_55, e_i_55, e_l_55, e_s_56, e_i_56, e_l_56, e_s_57, e_i_57, e_l_57, e_s_58, e_i_58, e_l_58, e_s_59, e_i_59, e_l_59, e_s_60, e_i_60, e_l_60, q1, q2, q3, hq, hq2, hE]
  have e2n : (2 : Int32) * nI n = nI (2 * n) := nI_mul 2 n
  have bdz : ∀ i, i < n → -30720000 ≤ (M q i).toInt ∧ (M q i).toInt ≤ 30720000 := by
    intro i hi
    have := hs.bd i hi
    omega
  have hB : (0 : Int) ≤ 3840000 * l.length := by omega
  have loop : ∀ i, i ≤ 2 * n → ∀ u w M1, u + w = i → u ≤ n → w ≤ n → Fr [q, 59] [] M M1 → (∀ j, j < n → M1 59 j = M q j) → MgI (fun j => (M1 q j).toInt) (fun j => (M q j).toInt) v.toInt (3840000 * l.length + 3840000) n u w → am_WP X (d + 1) 52 20 [some (.ref 54), some (.int (v)), some (.ref (q)), some (.int (nI n)), some (.int (nI u)), some (.int (nI w)), some (.int (nI i))] [] S (M1) (L) 0 0 K := by
    refine am_ind ?_
    intro i hi ih u w M1 euw hu hw f1 h59 hm
    refine H_Odds_addValue_20 pt32_ok ?_
    simp only [s_aload_0_ref, s_aload_2_ref, s_copy, s_get2, s_goto, s_iadd, s_iald, s_iast, s_ic_ge, s_ic_gt, s_iconst, s_iinc_4, s_iinc_5, s_iinc_6, s_iload_1_int, s_iload_3_int, s_iload_4_int, s_iload_5_int, s_iload_6_int, s_imul, s_istore_4_int, s_istore_5_int, s_istore_6_int, s_return, J_Odds_addValue_0, b_Odds_addValue_0, J_Odds_addValue_59, b_Odds_addValue_59, J_Odds_addValue_76, b_Odds_addValue_76, J_Odds_addValue_92, b_Odds_addValue_92, J_Odds_addValue_98, b_Odds_addValue_98, J_Odds_addValue_20, b_Odds_addValue_20, s_end, true_and, and_true, or_true, true_or, if_true, if_false, ite_true, ite_false, List.map_nil, List.map_cons, List.sum_nil, List.sum_cons, List.nil_append, List.cons_append, Option.toList_some, Option.toList_none, Nat.reduceAdd, Nat.reduceLeDiff, Nat.reduceSub, Nat.zero_le, List.headD_cons, List.tail_cons, List.length_cons, List.length_nil, ne_eq, reduceCtorEq, false_or, or_false, not_false_eq_true, Nat.reduceEqDiff, Nat.reduceLT, am_sw, bI_0, bI_z, bI_y, Classical.not_not, Nat.le_add_left, am_u_row2, am_r_row2, am_u_same, am_u_at, am_r_same, Int32.reduceLT, Int32.reduceLE, Int32.reduceAdd, Int32.reduceSub, Int32.reduceMul, forall_const, not_true_eq_false, implies_true, false_imp_iff, true_imp_iff, i_10, i_01, i_m10, i_m11, eq_self, or_self, false_and, and_false, and_self, am_so_some, am_pv_some, am_pv_none, l_cl_none, l_cl_int, l_cl_ref, l_cl_ra, l_cl_null, l_cl_long, cat_int, cat_ref, cat_long, cat_ra, cat_null, cl_0, cl_1, cl_2, cl_3, cl_4, cl_5, cl_6, cl_7, cl_8, cl_9, cl_10, cl_11, cl_12, cl_13, cl_14, cl_15, cl_16, cl_30, cl_64, cl_500, vl_0_2, vl_0_3, vl_0_4, vl_0_6, vl_0_7, vl_0_12, vl_0_16, vl_0_1400, vl_1_2, vl_1_3, vl_1_4, vl_1_6, vl_1_7, vl_1_12, vl_1_16, vl_1_1400, vl_2_3, vl_2_4, vl_2_6, vl_2_7, vl_2_12, vl_2_16, vl_2_1400, vl_3_4, vl_3_6, vl_3_7, vl_3_12, vl_3_16, vl_3_1400, vl_4_6, vl_4_7, vl_4_12, vl_4_16, vl_4_1400, vl_5_6, vl_5_7, vl_5_12, vl_5_16, vl_5_1400, vl_6_7, vl_6_12, vl_6_16, vl_6_1400, vl_7_12, vl_7_16, vl_8_12, vl_8_16, vl_9_12, vl_9_16, vl_10_12, vl_10_16, vl_11_12, vl_11_16, i_64le_e, i64a_0, i64b_0, i64a_1, i64b_1, i64a_2, i64b_2, i64a_3, i64b_3, i64a_4, i64b_4, i64a_5, i64b_5, i64a_7, i64b_7, i64a_8, i64b_8, i64a_9, i64b_9, i64a_10, i64b_10, i64a_16, i64b_16, i64a_50, i64b_50, i64a_m50, i64b_m50, i64a_60, i64b_60, i64a_99, i64b_99, i64a_100, i64b_100, i64a_500, i64b_500, i64a_600, i64b_600, i64a_1000, i64b_1000, i64a_1000000, i64b_1000000, i64a_m9, i64b_m9, e_s_31, e_i_31, e_l_31, e_p_31_0, e_p_31_1, e_p_31_2, e_p_31_3, e_p_31_4, e_p_31_5, e_p_31_6, e_s_51, e_i_51, e_l_51, e_p_51_0, e_p_51_1, e_p_51_2, e_p_51_3, e_p_51_4, e_s_54, e_i_54, e_l_54, e_p_54_0, e_p_54_1, e_p_54_2, e_p_54_3, e_p_54_4, e_p_54_5, e_p_54_6, e_p_54_7, e_s_55, e_i_55, e_l_55, e_s_56, e_i_56, e_l_56, e_s_57, e_i_57, e_l_57, e_s_58, e_i_58, e_l_58, e_s_59, e_i_59, e_l_59, e_s_60, e_i_60, e_l_60, q1, q2, q3, hq, hq2, e2n, hE]
    by_cases c0 : i < 2 * n
    · have ih := ih c0
      have takeU : u < n → (w < n → (M q u).toInt ≤ (M q w).toInt + v.toInt) → am_WP X (d + 1) 52 20 [some (.ref 54), some (.int (v)), some (.ref (q)), some (.int (nI n)), some (.int (nI (u + 1))), some (.int (nI w)), some (.int (nI (i + 1)))] [] S (am_u M1 q i (M1 59 u)) (L) 0 0 K := by
        intro h1 h2
        refine ih (u + 1) w _ (by omega) (by omega) hw (f1.u (by simp)) (fun j hj => by rw [am_u_row2 hq2]; exact h59 j hj) ?_
        refine MgI.u1 (F := fun j => (M1 q j).toInt) (fun a b c e => hs.so a b c e) (fun a ha => ?_) hm h1 h2 (fun j hj => ?_) ?_
        · have := hs.bd a ha; omega
        · show (am_u M1 q i (M1 59 u) q j).toInt = _
          rw [am_u_ne (by omega)]
        · show (am_u M1 q i (M1 59 u) q (u + w)).toInt = _
          rw [euw, am_u_same, h59 u h1]
      have takeW : w < n → (u < n → (M q w).toInt + v.toInt ≤ (M q u).toInt) → am_WP X (d + 1) 52 20 [some (.ref 54), some (.int (v)), some (.ref (q)), some (.int (nI n)), some (.int (nI u)), some (.int (nI (w + 1))), some (.int (nI (i + 1)))] [] S (am_u M1 q i (M1 59 w + v)) (L) 0 0 K := by
        intro h1 h2
        have b1 := bdz w h1
        refine ih u (w + 1) _ (by omega) hu (by omega) (f1.u (by simp)) (fun j hj => by rw [am_u_row2 hq2]; exact h59 j hj) ?_
        refine MgI.w1 (F := fun j => (M1 q j).toInt) (fun a b c e => hs.so a b c e) (fun a ha => ?_) hm h1 h2 (fun j hj => ?_) ?_
        · have := hs.bd a ha; omega
        · show (am_u M1 q i (M1 59 w + v) q j).toInt = _
          rw [am_u_ne (by omega)]
        · show (am_u M1 q i (M1 59 w + v) q (u + w)).toInt = _
          rw [euw, am_u_same, h59 w h1, i_add (by omega) (by omega)]
      by_cases c1 : n ≤ w
      · have c2 : u < n := by omega
        simp (disch := omega) only [Nat.not_le.mpr, c0, c1, nI_clamp, nI_le', nI_lt', nI_eq', rem2_1, rem2_0, nI_eq0, nI_le0, nI_0lt, nI_0le, nI_lt0, nI_m1, vp_inE, nm_nI, i_20, nI_1, nI_add, and_true, true_and, and_self, or_true, true_or, or_false, false_or, false_and, and_false, not_true_eq_false, not_false_eq_true, if_true, if_false, ite_true, ite_false, false_imp_iff, true_imp_iff, rsn_00, rsn_10, rsn_01, rsn_11, n_09, n_19, n_29, n_99, implies_true, bI_t, bI_f, or_self, ne_eq, eq_self, Classical.not_not, Bool.false_eq_true]
        exact takeU c2 (fun z => by omega)
      · by_cases c2 : n ≤ u
        · simp (disch := omega) only [Nat.not_le.mpr, c0, c1, c2, nI_clamp, nI_le', nI_lt', nI_eq', rem2_1, rem2_0, nI_eq0, nI_le0, nI_0lt, nI_0le, nI_lt0, nI_m1, vp_inE, nm_nI, i_20, nI_1, nI_add, and_true, true_and, and_self, or_true, true_or, or_false, false_or, false_and, and_false, not_true_eq_false, not_false_eq_true, if_true, if_false, ite_true, ite_false, false_imp_iff, true_imp_iff, rsn_00, rsn_10, rsn_01, rsn_11, n_09, n_19, n_29, n_99, implies_true, bI_t, bI_f, or_self, ne_eq, eq_self, Classical.not_not, Bool.false_eq_true]
          exact takeW (by omega) (fun z => by omega)
        · have b1 := bdz w (by omega)
          have e3 : (M1 59 w + v < M1 59 u) = ((M q w).toInt + v.toInt < (M q u).toInt) := by
            rw [h59 w (by omega), h59 u (by omega), Int32.lt_iff_toInt_lt, i_add (by omega) (by omega)]
          simp (disch := omega) only [Nat.not_le.mpr, c0, c1, c2, e3, nI_clamp, nI_le', nI_lt', nI_eq', rem2_1, rem2_0, nI_eq0, nI_le0, nI_0lt, nI_0le, nI_lt0, nI_m1, vp_inE, nm_nI, i_20, nI_1, nI_add, and_true, true_and, and_self, or_true, true_or, or_false, false_or, false_and, and_false, not_true_eq_false, not_false_eq_true, if_true, if_false, ite_true, ite_false, false_imp_iff, true_imp_iff, rsn_00, rsn_10, rsn_01, rsn_11, n_09, n_19, n_29, n_99, implies_true, bI_t, bI_f, or_self, ne_eq, eq_self, Classical.not_not, Bool.false_eq_true]
          refine ⟨fun z => takeW (by omega) (fun _ => by omega), fun z => takeU (by omega) (fun _ => by omega)⟩
    · have e : i = 2 * n := by omega
      subst e
      simp (disch := omega) only [Nat.le_refl, nI_clamp, nI_le', nI_lt', nI_eq', rem2_1, rem2_0, nI_eq0, nI_le0, nI_0lt, nI_0le, nI_lt0, nI_m1, vp_inE, nm_nI, i_20, nI_1, nI_add, and_true, true_and, and_self, or_true, true_or, or_false, false_or, false_and, and_false, not_true_eq_false, not_false_eq_true, if_true, if_false, ite_true, ite_false, false_imp_iff, true_imp_iff, rsn_00, rsn_10, rsn_01, rsn_11, n_09, n_19, n_29, n_99, implies_true, bI_t, bI_f, or_self, ne_eq, eq_self, Classical.not_not, Bool.false_eq_true]
      have eu : u = n := by omega
      have ew : w = n := by omega
      subst eu
      subst ew
      refine k M1 f1 ⟨fun a b h1 h2 => hm.so a b h1 (by omega), fun a ha => ?_, fun g => ?_⟩
      · have := hm.bd a (by omega)
        rw [List.length_append, List.length_singleton, Int.natCast_add]
        omega
      · rw [ss_snoc, show 2 * w = w + w by omega]
        have z := hm.su g
        rw [← hs.su g, ← hs.su (fun x => g (x + v.toInt))]
        exact z
  simp (disch := omega) only [nI_clamp, nI_le', nI_lt', nI_eq', rem2_1, rem2_0, nI_eq0, nI_le0, nI_0lt, nI_0le, nI_lt0, nI_m1, vp_inE, nm_nI, i_20, nI_1, nI_add, and_true, true_and, and_self, or_true, true_or, or_false, false_or, false_and, and_false, not_true_eq_false, not_false_eq_true, if_true, if_false, ite_true, ite_false, false_imp_iff, true_imp_iff, rsn_00, rsn_10, rsn_01, rsn_11, n_09, n_19, n_29, n_99, implies_true, bI_t, bI_f, or_self, ne_eq, eq_self, Classical.not_not, Bool.false_eq_true]
  refine ⟨by omega, ?_⟩
  refine loop 0 (by omega) 0 0 _ rfl (by omega) (by omega) (Fr.refl.r (by simp)) (fun j hj => ?_) ⟨fun a b h1 h2 => by omega, fun a ha => by omega, fun a ha => by omega, fun g => rfl⟩
  rw [am_r_same]
  unfold va_cpy
  rw [if_pos (by omega)]
  congr 1
  omega
end T43
