section T79f
variable {X : am_X} {d : Nat} {K : am_K} {S : am_S} {M : am_M} {L : am_L} {V : am_M} {T : Nat → Nat} {n : Nat}
abbrev okC (T : Nat → Nat) (n k : Nat) : Prop := (gW (cdT T n) 8 k).1 = true ∧ cdT T n (gW (cdT T n) 8 k).2.1 = 20059
theorem c_R_clause {c k s : Nat} (hE : am_env S) (hT : TxR T n M) (hA : AtR T n k M) (hk5 : k ≤ 500) (h28 : M 70 28 = -1) (hs : M 99 1 = nI s) (hsk : s ≤ k) (hc : c < 10) (kk : ∀ M', Fr [89, 92, 95] fsK M M' → (okC T n k → AtR T n ((gW (cdT T n) 8 k).2.1 + 1) M' ∧ M' 70 28 = -1 ∧ EmR s (gW (cdT T n) 8 k).2.2 M M' ∧ M' 92 = am_u M 92 c (nI s) 92 ∧ M' 95 = am_u M 95 c (nI (gW (cdT T n) 8 k).2.2.length) 95) → (¬ okC T n k → M' 70 28 = nI (sqT T n (gW (cdT T n) 8 k).2.1)) → K (some (.int (if okC T n k then 1 else 0))) S M' L) : am_Call X (d + 42) m_R_clause [.ref 70, .int (nI c)] S M L K := by
  have n5 := hT.n5
  refine EE_R_clause pt38_ok ?_
  simp only [s_aald, s_aload_0_ref, s_bipush, s_get2, s_iald, s_iast, s_iconst, s_if_ne, s_iload_1_int, s_ireturnZ, s_isub, s_iv_1, J_R_clause_0, b_R_clause_0, J_R_clause_24, b_R_clause_24, s_end, true_and, and_true, or_true, true_or, if_true, if_false, ite_true, ite_false, List.map_nil, List.map_cons, List.sum_nil, List.sum_cons, List.nil_append, List.cons_append, Option.toList_some, Option.toList_none, Nat.reduceAdd, Nat.reduceLeDiff, Nat.reduceSub, Nat.zero_le, List.headD_cons, List.tail_cons, List.length_cons, List.length_nil, ne_eq, reduceCtorEq, false_or, or_false, not_false_eq_true, Nat.reduceEqDiff, Nat.reduceLT, am_sw, bI_0, bI_z, bI_y, Classical.not_not, Nat.le_add_left, am_u_row2, am_r_row2, am_u_same, am_u_at, am_r_same, Int32.reduceLT, Int32.reduceLE, Int32.reduceAdd, Int32.reduceSub, Int32.reduceMul, forall_const, not_true_eq_false, implies_true, false_imp_iff, true_imp_iff, i_10, i_01, i_m10, i_m11, eq_self, or_self, false_and, and_false, and_self, am_so_some, am_pv_some, am_pv_none, l_cl_none, l_cl_int, l_cl_ref, l_cl_ra, l_cl_null, l_cl_long, cat_int, cat_ref, cat_long, cat_ra, cat_null, cl_0, cl_1, cl_2, cl_3, cl_4, cl_5, cl_6, cl_7, cl_8, cl_9, cl_10, cl_11, cl_12, cl_13, cl_14, cl_15, cl_16, cl_30, cl_64, cl_500, vl_0_2, vl_0_3, vl_0_4, vl_0_6, vl_0_7, vl_0_12, vl_0_16, vl_0_1400, vl_1_2, vl_1_3, vl_1_4, vl_1_6, vl_1_7, vl_1_12, vl_1_16, vl_1_1400, vl_2_3, vl_2_4, vl_2_6, vl_2_7, vl_2_12, vl_2_16, vl_2_1400, vl_3_4, vl_3_6, vl_3_7, vl_3_12, vl_3_16, vl_3_1400, vl_4_6, vl_4_7, vl_4_12, vl_4_16, vl_4_1400, vl_5_6, vl_5_7, vl_5_12, vl_5_16, vl_5_1400, vl_6_7, vl_6_12, vl_6_16, vl_6_1400, vl_7_12, vl_7_16, vl_8_12, vl_8_16, vl_9_12, vl_9_16, vl_10_12, vl_10_16, vl_11_12, vl_11_16, i_64le_e, i64a_0, i64b_0, i64a_1, i64b_1, i64a_2, i64b_2, i64a_3, i64b_3, i64a_4, i64b_4, i64a_5, i64b_5, i64a_7, i64b_7, i64a_8, i64b_8, i64a_9, i64b_9, i64a_10, i64b_10, i64a_16, i64b_16, i64a_50, i64b_50, i64a_m50, i64b_m50, i64a_60, i64b_60, i64a_99, i64b_99, i64a_100, i64b_100, i64a_500, i64b_500, i64a_600, i64b_600, i64a_1000, i64b_1000, i64a_1000000, i64b_1000000, i64a_m9, i64b_m9, e_s_70, e_i_70, e_l_70, e_p_70_0, e_p_70_1, e_p_70_2, e_p_70_3, e_p_70_4, e_p_70_5, e_p_70_6, e_p_70_7, e_p_70_10, e_p_70_11, e_p_70_12, e_p_70_13, e_p_70_14, e_p_70_15, e_p_70_16, e_p_70_24, e_p_70_29, e_p_70_30, e_p_70_31, e_p_70_32, e_p_70_33, e_p_70_34, e_p_70_35, e_p_70_36, e_p_70_37, e_p_70_38, e_p_70_39, e_p_70_41, e_p_70_42, e_p_70_44, e_p_70_45, e_p_70_46, e_p_70_53, e_p_70_54, e_p_70_55, e_p_70_56, e_p_70_59, e_p_70_61, e_p_70_62, e_s_90, e_i_90, e_l_90, e_p_90_0, e_p_90_1, e_s_91, e_i_91, e_l_91, e_s_92, e_i_92, e_l_92, e_s_93, e_i_93, e_l_93, e_p_93_0, e_p_93_1, e_s_94, e_i_94, e_l_94, e_s_95, e_i_95, e_l_95, e_s_99, e_i_99, e_l_99, hs, hE]
  simp (disch := omega) only [nI_clamp, nI_le', nI_lt', nI_eq', rem2_1, rem2_0, nI_eq0, nI_le0, nI_0lt, nI_0le, nI_lt0, nI_m1, vp_inE, nm_nI, i_20, nI_1, nI_add, and_true, true_and, and_self, or_true, true_or, or_false, false_or, false_and, and_false, not_true_eq_false, not_false_eq_true, if_true, if_false, ite_true, ite_false, false_imp_iff, true_imp_iff, rsn_00, rsn_10, rsn_01, rsn_11, n_09, n_19, n_29, n_99, implies_true, bI_t, bI_f, or_self, ne_eq, eq_self, Classical.not_not, Bool.false_eq_true]
  have g0 : Fr [89, 92, 95] fsK M (am_u M 92 c (nI s)) := Fr.refl.u (by decide)
  refine am_cal_no rfl (RPa_W (T := T) (n := n) 8 (by omega) X d _ S _ L k s hE ?_ ?_ hk5 ?_ ?_ hsk ?_)
  · exact hT.of (by rw [u_row (by decide)]) (u_row (by decide))
  · exact hA.of (by rw [u_row (by decide)]) (by rw [u_row (by decide)])
  · rw [u_row (by decide)]; exact h28
  · rw [u_row (by decide)]; exact hs
  intro M1 g1 a1 m1
  have f1 : Fr [89, 92, 95] fsK M M1 := g0.trans (g1.mono (by decide) (by decide))
  have hT1 : TxR T n M1 := hT.of (f1 70 25 (by decide) (by decide)) (f1.row 86 (by decide) (by decide))
  have k92 : M1 92 = am_u M 92 c (nI s) 92 := g1.row 92 (by decide) (by decide)
  have k95 : M1 95 = M 95 := (g1.row 95 (by decide) (by decide)).trans (u_row (by decide))
  obtain ⟨y1, y2, y3⟩ := gok_W (c := cdT T n) 8 k
  have w5 := (gok_W (c := cdT T n) 8).end5 n5 hk5
  by_cases c1 : (gW (cdT T n) 8 k).1 = true
  · rw [if_pos c1]
    obtain ⟨A1, p28, em1⟩ := a1 c1
    have em1 := em1.of (M := M) (u_row (by decide))
    have h99 := em1.1
    have k92' : M1 92 c = nI s := by rw [k92, am_u_same]
    simp only [s_aald, s_aload_0_ref, s_bipush, s_get2, s_iald, s_iast, s_iconst, s_if_ne, s_iload_1_int, s_ireturnZ, s_isub, s_iv_1, J_R_clause_0, b_R_clause_0, J_R_clause_24, b_R_clause_24, s_end, true_and, and_true, or_true, true_or, if_true, if_false, ite_true, ite_false, List.map_nil, List.map_cons, List.sum_nil, List.sum_cons, List.nil_append, List.cons_append, Option.toList_some, Option.toList_none, Nat.reduceAdd, Nat.reduceLeDiff, Nat.reduceSub, Nat.zero_le, List.headD_cons, List.tail_cons, List.length_cons, List.length_nil, ne_eq, reduceCtorEq, false_or, or_false, not_false_eq_true, Nat.reduceEqDiff, Nat.reduceLT, am_sw, bI_0, bI_z, bI_y, Classical.not_not, Nat.le_add_left, am_u_row2, am_r_row2, am_u_same, am_u_at, am_r_same, Int32.reduceLT, Int32.reduceLE, Int32.reduceAdd, Int32.reduceSub, Int32.reduceMul, forall_const, not_true_eq_false, implies_true, false_imp_iff, true_imp_iff, i_10, i_01, i_m10, i_m11, eq_self, or_self, false_and, and_false, and_self, am_so_some, am_pv_some, am_pv_none, l_cl_none, l_cl_int, l_cl_ref, l_cl_ra, l_cl_null, l_cl_long, cat_int, cat_ref, cat_long, cat_ra, cat_null, cl_0, cl_1, cl_2, cl_3, cl_4, cl_5, cl_6, cl_7, cl_8, cl_9, cl_10, cl_11, cl_12, cl_13, cl_14, cl_15, cl_16, cl_30, cl_64, cl_500, vl_0_2, vl_0_3, vl_0_4, vl_0_6, vl_0_7, vl_0_12, vl_0_16, vl_0_1400, vl_1_2, vl_1_3, vl_1_4, vl_1_6, vl_1_7, vl_1_12, vl_1_16, vl_1_1400, vl_2_3, vl_2_4, vl_2_6, vl_2_7, vl_2_12, vl_2_16, vl_2_1400, vl_3_4, vl_3_6, vl_3_7, vl_3_12, vl_3_16, vl_3_1400, vl_4_6, vl_4_7, vl_4_12, vl_4_16, vl_4_1400, vl_5_6, vl_5_7, vl_5_12, vl_5_16, vl_5_1400, vl_6_7, vl_6_12, vl_6_16, vl_6_1400, vl_7_12, vl_7_16, vl_8_12, vl_8_16, vl_9_12, vl_9_16, vl_10_12, vl_10_16, vl_11_12, vl_11_16, i_64le_e, i64a_0, i64b_0, i64a_1, i64b_1, i64a_2, i64b_2, i64a_3, i64b_3, i64a_4, i64b_4, i64a_5, i64b_5, i64a_7, i64b_7, i64a_8, i64b_8, i64a_9, i64b_9, i64a_10, i64b_10, i64a_16, i64b_16, i64a_50, i64b_50, i64a_m50, i64b_m50, i64a_60, i64b_60, i64a_99, i64b_99, i64a_100, i64b_100, i64a_500, i64b_500, i64a_600, i64b_600, i64a_1000, i64b_1000, i64a_1000000, i64b_1000000, i64a_m9, i64b_m9, e_s_70, e_i_70, e_l_70, e_p_70_0, e_p_70_1, e_p_70_2, e_p_70_3, e_p_70_4, e_p_70_5, e_p_70_6, e_p_70_7, e_p_70_10, e_p_70_11, e_p_70_12, e_p_70_13, e_p_70_14, e_p_70_15, e_p_70_16, e_p_70_24, e_p_70_29, e_p_70_30, e_p_70_31, e_p_70_32, e_p_70_33, e_p_70_34, e_p_70_35, e_p_70_36, e_p_70_37, e_p_70_38, e_p_70_39, e_p_70_41, e_p_70_42, e_p_70_44, e_p_70_45, e_p_70_46, e_p_70_53, e_p_70_54, e_p_70_55, e_p_70_56, e_p_70_59, e_p_70_61, e_p_70_62, e_s_90, e_i_90, e_l_90, e_p_90_0, e_p_90_1, e_s_91, e_i_91, e_l_91, e_s_92, e_i_92, e_l_92, e_s_93, e_i_93, e_l_93, e_p_93_0, e_p_93_1, e_s_94, e_i_94, e_l_94, e_s_95, e_i_95, e_l_95, e_s_99, e_i_99, e_l_99, h99, hE]
    have e1 : nI (s + (gW (cdT T n) 8 k).2.2.length) - nI s = nI (gW (cdT T n) 8 k).2.2.length := by rw [nI_sub (by omega) (by have := (y3 c1).2.1; omega), Nat.add_sub_cancel_left]
    simp (disch := omega) only [k92', e1, nI_clamp, nI_le', nI_lt', nI_eq', rem2_1, rem2_0, nI_eq0, nI_le0, nI_0lt, nI_0le, nI_lt0, nI_m1, vp_inE, nm_nI, i_20, nI_1, nI_add, and_true, true_and, and_self, or_true, true_or, or_false, false_or, false_and, and_false, not_true_eq_false, not_false_eq_true, if_true, if_false, ite_true, ite_false, false_imp_iff, true_imp_iff, rsn_00, rsn_10, rsn_01, rsn_11, n_09, n_19, n_29, n_99, implies_true, bI_t, bI_f, or_self, ne_eq, eq_self, Classical.not_not, Bool.false_eq_true]
    have f2 : Fr [89, 92, 95] fsK M (am_u M1 95 c (nI (gW (cdT T n) 8 k).2.2.length)) := f1.u (by decide)
    have A2 : AtR T n (gW (cdT T n) 8 k).2.1 (am_u M1 95 c (nI (gW (cdT T n) 8 k).2.2.length)) := A1.of (by rw [u_row (by decide)]) (by rw [u_row (by decide)])
    have hT2 : TxR T n (am_u M1 95 c (nI (gW (cdT T n) 8 k).2.2.length)) := hT1.of (by rw [u_row (by decide)]) (u_row (by decide))
    have q95 : am_u M1 95 c (nI (gW (cdT T n) 8 k).2.2.length) 95 = am_u M 95 c (nI (gW (cdT T n) 8 k).2.2.length) 95 := by
      funext j
      unfold am_u
      rw [k95]
    rw [show (59 : Int32) = nI 59 from rfl]
    refine am_cal_no rfl (c_R_isSign hE hT2 A2 (by decide) ?_)
    by_cases c2 : cdT T n (gW (cdT T n) 8 k).2.1 = 20059
    · have ok : (gW (cdT T n) 8 k).1 = true ∧ cdT T n (gW (cdT T n) 8 k).2.1 = 20059 := ⟨c1, c2⟩
      rw [bI_t (show cdT T n (gW (cdT T n) 8 k).2.1 = 20000 + 59 from c2)]
      simp only [s_aald, s_aload_0_ref, s_bipush, s_get2, s_iald, s_iast, s_iconst, s_if_ne, s_iload_1_int, s_ireturnZ, s_isub, s_iv_1, J_R_clause_0, b_R_clause_0, J_R_clause_24, b_R_clause_24, s_end, true_and, and_true, or_true, true_or, if_true, if_false, ite_true, ite_false, List.map_nil, List.map_cons, List.sum_nil, List.sum_cons, List.nil_append, List.cons_append, Option.toList_some, Option.toList_none, Nat.reduceAdd, Nat.reduceLeDiff, Nat.reduceSub, Nat.zero_le, List.headD_cons, List.tail_cons, List.length_cons, List.length_nil, ne_eq, reduceCtorEq, false_or, or_false, not_false_eq_true, Nat.reduceEqDiff, Nat.reduceLT, am_sw, bI_0, bI_z, bI_y, Classical.not_not, Nat.le_add_left, am_u_row2, am_r_row2, am_u_same, am_u_at, am_r_same, Int32.reduceLT, Int32.reduceLE, Int32.reduceAdd, Int32.reduceSub, Int32.reduceMul, forall_const, not_true_eq_false, implies_true, false_imp_iff, true_imp_iff, i_10, i_01, i_m10, i_m11, eq_self, or_self, false_and, and_false, and_self, am_so_some, am_pv_some, am_pv_none, l_cl_none, l_cl_int, l_cl_ref, l_cl_ra, l_cl_null, l_cl_long, cat_int, cat_ref, cat_long, cat_ra, cat_null, cl_0, cl_1, cl_2, cl_3, cl_4, cl_5, cl_6, cl_7, cl_8, cl_9, cl_10, cl_11, cl_12, cl_13, cl_14, cl_15, cl_16, cl_30, cl_64, cl_500, vl_0_2, vl_0_3, vl_0_4, vl_0_6, vl_0_7, vl_0_12, vl_0_16, vl_0_1400, vl_1_2, vl_1_3, vl_1_4, vl_1_6, vl_1_7, vl_1_12, vl_1_16, vl_1_1400, vl_2_3, vl_2_4, vl_2_6, vl_2_7, vl_2_12, vl_2_16, vl_2_1400, vl_3_4, vl_3_6, vl_3_7, vl_3_12, vl_3_16, vl_3_1400, vl_4_6, vl_4_7, vl_4_12, vl_4_16, vl_4_1400, vl_5_6, vl_5_7, vl_5_12, vl_5_16, vl_5_1400, vl_6_7, vl_6_12, vl_6_16, vl_6_1400, vl_7_12, vl_7_16, vl_8_12, vl_8_16, vl_9_12, vl_9_16, vl_10_12, vl_10_16, vl_11_12, vl_11_16, i_64le_e, i64a_0, i64b_0, i64a_1, i64b_1, i64a_2, i64b_2, i64a_3, i64b_3, i64a_4, i64b_4, i64a_5, i64b_5, i64a_7, i64b_7, i64a_8, i64b_8, i64a_9, i64b_9, i64a_10, i64b_10, i64a_16, i64b_16, i64a_50, i64b_50, i64a_m50, i64b_m50, i64a_60, i64b_60, i64a_99, i64b_99, i64a_100, i64b_100, i64a_500, i64b_500, i64a_600, i64b_600, i64a_1000, i64b_1000, i64a_1000000, i64b_1000000, i64a_m9, i64b_m9, e_s_70, e_i_70, e_l_70, e_p_70_0, e_p_70_1, e_p_70_2, e_p_70_3, e_p_70_4, e_p_70_5, e_p_70_6, e_p_70_7, e_p_70_10, e_p_70_11, e_p_70_12, e_p_70_13, e_p_70_14, e_p_70_15, e_p_70_16, e_p_70_24, e_p_70_29, e_p_70_30, e_p_70_31, e_p_70_32, e_p_70_33, e_p_70_34, e_p_70_35, e_p_70_36, e_p_70_37, e_p_70_38, e_p_70_39, e_p_70_41, e_p_70_42, e_p_70_44, e_p_70_45, e_p_70_46, e_p_70_53, e_p_70_54, e_p_70_55, e_p_70_56, e_p_70_59, e_p_70_61, e_p_70_62, e_s_90, e_i_90, e_l_90, e_p_90_0, e_p_90_1, e_s_91, e_i_91, e_l_91, e_s_92, e_i_92, e_l_92, e_s_93, e_i_93, e_l_93, e_p_93_0, e_p_93_1, e_s_94, e_i_94, e_l_94, e_s_95, e_i_95, e_l_95, e_s_99, e_i_99, e_l_99, hE]
      refine am_cal_no rfl (c_R_passT hE hT2 A2 ?_)
      intro M3 g3 A3
      simp only [s_aald, s_aload_0_ref, s_bipush, s_get2, s_iald, s_iast, s_iconst, s_if_ne, s_iload_1_int, s_ireturnZ, s_isub, s_iv_1, J_R_clause_0, b_R_clause_0, J_R_clause_24, b_R_clause_24, s_end, true_and, and_true, or_true, true_or, if_true, if_false, ite_true, ite_false, List.map_nil, List.map_cons, List.sum_nil, List.sum_cons, List.nil_append, List.cons_append, Option.toList_some, Option.toList_none, Nat.reduceAdd, Nat.reduceLeDiff, Nat.reduceSub, Nat.zero_le, List.headD_cons, List.tail_cons, List.length_cons, List.length_nil, ne_eq, reduceCtorEq, false_or, or_false, not_false_eq_true, Nat.reduceEqDiff, Nat.reduceLT, am_sw, bI_0, bI_z, bI_y, Classical.not_not, Nat.le_add_left, am_u_row2, am_r_row2, am_u_same, am_u_at, am_r_same, Int32.reduceLT, Int32.reduceLE, Int32.reduceAdd, Int32.reduceSub, Int32.reduceMul, forall_const, not_true_eq_false, implies_true, false_imp_iff, true_imp_iff, i_10, i_01, i_m10, i_m11, eq_self, or_self, false_and, and_false, and_self, am_so_some, am_pv_some, am_pv_none, l_cl_none, l_cl_int, l_cl_ref, l_cl_ra, l_cl_null, l_cl_long, cat_int, cat_ref, cat_long, cat_ra, cat_null, cl_0, cl_1, cl_2, cl_3, cl_4, cl_5, cl_6, cl_7, cl_8, cl_9, cl_10, cl_11, cl_12, cl_13, cl_14, cl_15, cl_16, cl_30, cl_64, cl_500, vl_0_2, vl_0_3, vl_0_4, vl_0_6, vl_0_7, vl_0_12, vl_0_16, vl_0_1400, vl_1_2, vl_1_3, vl_1_4, vl_1_6, vl_1_7, vl_1_12, vl_1_16, vl_1_1400, vl_2_3, vl_2_4, vl_2_6, vl_2_7, vl_2_12, vl_2_16, vl_2_1400, vl_3_4, vl_3_6, vl_3_7, vl_3_12, vl_3_16, vl_3_1400, vl_4_6, vl_4_7, vl_4_12, vl_4_16, vl_4_1400, vl_5_6, vl_5_7, vl_5_12, vl_5_16, vl_5_1400, vl_6_7, vl_6_12, vl_6_16, vl_6_1400, vl_7_12, vl_7_16, vl_8_12, vl_8_16, vl_9_12, vl_9_16, vl_10_12, vl_10_16, vl_11_12, vl_11_16, i_64le_e, i64a_0, i64b_0, i64a_1, i64b_1, i64a_2, i64b_2, i64a_3, i64b_3, i64a_4, i64b_4, i64a_5, i64b_5, i64a_7, i64b_7, i64a_8, i64b_8, i64a_9, i64b_9, i64a_10, i64b_10, i64a_16, i64b_16, i64a_50, i64b_50, i64a_m50, i64b_m50, i64a_60, i64b_60, i64a_99, i64b_99, i64a_100, i64b_100, i64a_500, i64b_500, i64a_600, i64b_600, i64a_1000, i64b_1000, i64a_1000000, i64b_1000000, i64a_m9, i64b_m9, e_s_70, e_i_70, e_l_70, e_p_70_0, e_p_70_1, e_p_70_2, e_p_70_3, e_p_70_4, e_p_70_5, e_p_70_6, e_p_70_7, e_p_70_10, e_p_70_11, e_p_70_12, e_p_70_13, e_p_70_14, e_p_70_15, e_p_70_16, e_p_70_24, e_p_70_29, e_p_70_30, e_p_70_31, e_p_70_32, e_p_70_33, e_p_70_34, e_p_70_35, e_p_70_36, e_p_70_37, e_p_70_38, e_p_70_39, e_p_70_41, e_p_70_42, e_p_70_44, e_p_70_45, e_p_70_46, e_p_70_53, e_p_70_54, e_p_70_55, e_p_70_56, e_p_70_59, e_p_70_61, e_p_70_62, e_s_90, e_i_90, e_l_90, e_p_90_0, e_p_90_1, e_s_91, e_i_91, e_l_91, e_s_92, e_i_92, e_l_92, e_s_93, e_i_93, e_l_93, e_p_93_0, e_p_93_1, e_s_94, e_i_94, e_l_94, e_s_95, e_i_95, e_l_95, e_s_99, e_i_99, e_l_99, hE]
      have kk := kk M3 (f2.trans (g3.mono (by decide) (by decide)))
      rw [if_pos ok] at kk
      refine kk (fun _ => ⟨A3, ?_, em1.at ?_ ?_, ?_, ?_⟩) (fun y => absurd ok y)
      · rw [g3 70 28 (by decide) (by decide), u_row (by decide)]; exact p28
      · rw [g3.row 89 (by decide) (by decide), u_row (by decide)]
      · rw [g3 99 1 (by decide) (by decide), u_row (by decide)]
      · rw [g3.row 92 (by decide) (by decide), u_row (by decide)]; exact k92
      · rw [g3.row 95 (by decide) (by decide)]; exact q95
    · have nok : ¬ ((gW (cdT T n) 8 k).1 = true ∧ cdT T n (gW (cdT T n) 8 k).2.1 = 20059) := fun y => c2 y.2
      rw [bI_f (show ¬ cdT T n (gW (cdT T n) 8 k).2.1 = 20000 + 59 from c2)]
      simp only [s_aald, s_aload_0_ref, s_bipush, s_get2, s_iald, s_iast, s_iconst, s_if_ne, s_iload_1_int, s_ireturnZ, s_isub, s_iv_1, J_R_clause_0, b_R_clause_0, J_R_clause_24, b_R_clause_24, s_end, true_and, and_true, or_true, true_or, if_true, if_false, ite_true, ite_false, List.map_nil, List.map_cons, List.sum_nil, List.sum_cons, List.nil_append, List.cons_append, Option.toList_some, Option.toList_none, Nat.reduceAdd, Nat.reduceLeDiff, Nat.reduceSub, Nat.zero_le, List.headD_cons, List.tail_cons, List.length_cons, List.length_nil, ne_eq, reduceCtorEq, false_or, or_false, not_false_eq_true, Nat.reduceEqDiff, Nat.reduceLT, am_sw, bI_0, bI_z, bI_y, Classical.not_not, Nat.le_add_left, am_u_row2, am_r_row2, am_u_same, am_u_at, am_r_same, Int32.reduceLT, Int32.reduceLE, Int32.reduceAdd, Int32.reduceSub, Int32.reduceMul, forall_const, not_true_eq_false, implies_true, false_imp_iff, true_imp_iff, i_10, i_01, i_m10, i_m11, eq_self, or_self, false_and, and_false, and_self, am_so_some, am_pv_some, am_pv_none, l_cl_none, l_cl_int, l_cl_ref, l_cl_ra, l_cl_null, l_cl_long, cat_int, cat_ref, cat_long, cat_ra, cat_null, cl_0, cl_1, cl_2, cl_3, cl_4, cl_5, cl_6, cl_7, cl_8, cl_9, cl_10, cl_11, cl_12, cl_13, cl_14, cl_15, cl_16, cl_30, cl_64, cl_500, vl_0_2, vl_0_3, vl_0_4, vl_0_6, vl_0_7, vl_0_12, vl_0_16, vl_0_1400, vl_1_2, vl_1_3, vl_1_4, vl_1_6, vl_1_7, vl_1_12, vl_1_16, vl_1_1400, vl_2_3, vl_2_4, vl_2_6, vl_2_7, vl_2_12, vl_2_16, vl_2_1400, vl_3_4, vl_3_6, vl_3_7, vl_3_12, vl_3_16, vl_3_1400, vl_4_6, vl_4_7, vl_4_12, vl_4_16, vl_4_1400, vl_5_6, vl_5_7, vl_5_12, vl_5_16, vl_5_1400, vl_6_7, vl_6_12, vl_6_16, vl_6_1400, vl_7_12, vl_7_16, vl_8_12, vl_8_16, vl_9_12, vl_9_16, vl_10_12, vl_10_16, vl_11_12, vl_11_16, i_64le_e, i64a_0, i64b_0, i64a_1, i64b_1, i64a_2, i64b_2, i64a_3, i64b_3, i64a_4, i64b_4, i64a_5, i64b_5, i64a_7, i64b_7, i64a_8, i64b_8, i64a_9, i64b_9, i64a_10, i64b_10, i64a_16, i64b_16, i64a_50, i64b_50, i64a_m50, i64b_m50, i64a_60, i64b_60, i64a_99, i64b_99, i64a_100, i64b_100, i64a_500, i64b_500, i64a_600, i64b_600, i64a_1000, i64b_1000, i64a_1000000, i64b_1000000, i64a_m9, i64b_m9, e_s_70, e_i_70, e_l_70, e_p_70_0, e_p_70_1, e_p_70_2, e_p_70_3, e_p_70_4, e_p_70_5, e_p_70_6, e_p_70_7, e_p_70_10, e_p_70_11, e_p_70_12, e_p_70_13, e_p_70_14, e_p_70_15, e_p_70_16, e_p_70_24, e_p_70_29, e_p_70_30, e_p_70_31, e_p_70_32, e_p_70_33, e_p_70_34, e_p_70_35, e_p_70_36, e_p_70_37, e_p_70_38, e_p_70_39, e_p_70_41, e_p_70_42, e_p_70_44, e_p_70_45, e_p_70_46, e_p_70_53, e_p_70_54, e_p_70_55, e_p_70_56, e_p_70_59, e_p_70_61, e_p_70_62, e_s_90, e_i_90, e_l_90, e_p_90_0, e_p_90_1, e_s_91, e_i_91, e_l_91, e_s_92, e_i_92, e_l_92, e_s_93, e_i_93, e_l_93, e_p_93_0, e_p_93_1, e_s_94, e_i_94, e_l_94, e_s_95, e_i_95, e_l_95, e_s_99, e_i_99, e_l_99, hE]
      refine am_cal_no rfl (c_R_passF hE A2 (by rw [u_row (by decide)]; exact p28) ?_)
      simp only [s_aald, s_aload_0_ref, s_bipush, s_get2, s_iald, s_iast, s_iconst, s_if_ne, s_iload_1_int, s_ireturnZ, s_isub, s_iv_1, J_R_clause_0, b_R_clause_0, J_R_clause_24, b_R_clause_24, s_end, true_and, and_true, or_true, true_or, if_true, if_false, ite_true, ite_false, List.map_nil, List.map_cons, List.sum_nil, List.sum_cons, List.nil_append, List.cons_append, Option.toList_some, Option.toList_none, Nat.reduceAdd, Nat.reduceLeDiff, Nat.reduceSub, Nat.zero_le, List.headD_cons, List.tail_cons, List.length_cons, List.length_nil, ne_eq, reduceCtorEq, false_or, or_false, not_false_eq_true, Nat.reduceEqDiff, Nat.reduceLT, am_sw, bI_0, bI_z, bI_y, Classical.not_not, Nat.le_add_left, am_u_row2, am_r_row2, am_u_same, am_u_at, am_r_same, Int32.reduceLT, Int32.reduceLE, Int32.reduceAdd, Int32.reduceSub, Int32.reduceMul, forall_const, not_true_eq_false, implies_true, false_imp_iff, true_imp_iff, i_10, i_01, i_m10, i_m11, eq_self, or_self, false_and, and_false, and_self, am_so_some, am_pv_some, am_pv_none, l_cl_none, l_cl_int, l_cl_ref, l_cl_ra, l_cl_null, l_cl_long, cat_int, cat_ref, cat_long, cat_ra, cat_null, cl_0, cl_1, cl_2, cl_3, cl_4, cl_5, cl_6, cl_7, cl_8, cl_9, cl_10, cl_11, cl_12, cl_13, cl_14, cl_15, cl_16, cl_30, cl_64, cl_500, vl_0_2, vl_0_3, vl_0_4, vl_0_6, vl_0_7, vl_0_12, vl_0_16, vl_0_1400, vl_1_2, vl_1_3, vl_1_4, vl_1_6, vl_1_7, vl_1_12, vl_1_16, vl_1_1400, vl_2_3, vl_2_4, vl_2_6, vl_2_7, vl_2_12, vl_2_16, vl_2_1400, vl_3_4, vl_3_6, vl_3_7, vl_3_12, vl_3_16, vl_3_1400, vl_4_6, vl_4_7, vl_4_12, vl_4_16, vl_4_1400, vl_5_6, vl_5_7, vl_5_12, vl_5_16, vl_5_1400, vl_6_7, vl_6_12, vl_6_16, vl_6_1400, vl_7_12, vl_7_16, vl_8_12, vl_8_16, vl_9_12, vl_9_16, vl_10_12, vl_10_16, vl_11_12, vl_11_16, i_64le_e, i64a_0, i64b_0, i64a_1, i64b_1, i64a_2, i64b_2, i64a_3, i64b_3, i64a_4, i64b_4, i64a_5, i64b_5, i64a_7, i64b_7, i64a_8, i64b_8, i64a_9, i64b_9, i64a_10, i64b_10, i64a_16, i64b_16, i64a_50, i64b_50, i64a_m50, i64b_m50, i64a_60, i64b_60, i64a_99, i64b_99, i64a_100, i64b_100, i64a_500, i64b_500, i64a_600, i64b_600, i64a_1000, i64b_1000, i64a_1000000, i64b_1000000, i64a_m9, i64b_m9, e_s_70, e_i_70, e_l_70, e_p_70_0, e_p_70_1, e_p_70_2, e_p_70_3, e_p_70_4, e_p_70_5, e_p_70_6, e_p_70_7, e_p_70_10, e_p_70_11, e_p_70_12, e_p_70_13, e_p_70_14, e_p_70_15, e_p_70_16, e_p_70_24, e_p_70_29, e_p_70_30, e_p_70_31, e_p_70_32, e_p_70_33, e_p_70_34, e_p_70_35, e_p_70_36, e_p_70_37, e_p_70_38, e_p_70_39, e_p_70_41, e_p_70_42, e_p_70_44, e_p_70_45, e_p_70_46, e_p_70_53, e_p_70_54, e_p_70_55, e_p_70_56, e_p_70_59, e_p_70_61, e_p_70_62, e_s_90, e_i_90, e_l_90, e_p_90_0, e_p_90_1, e_s_91, e_i_91, e_l_91, e_s_92, e_i_92, e_l_92, e_s_93, e_i_93, e_l_93, e_p_93_0, e_p_93_1, e_s_94, e_i_94, e_l_94, e_s_95, e_i_95, e_l_95, e_s_99, e_i_99, e_l_99, hE]
      have kk := kk _ (f2.uf (by decide)) (fun y => absurd y nok) (fun _ => am_u_same)
      rw [if_neg nok] at kk
      exact kk
  · have nok : ¬ ((gW (cdT T n) 8 k).1 = true ∧ cdT T n (gW (cdT T n) 8 k).2.1 = 20059) := fun y => c1 y.1
    rw [if_neg c1]
    simp only [s_aald, s_aload_0_ref, s_bipush, s_get2, s_iald, s_iast, s_iconst, s_if_ne, s_iload_1_int, s_ireturnZ, s_isub, s_iv_1, J_R_clause_0, b_R_clause_0, J_R_clause_24, b_R_clause_24, s_end, true_and, and_true, or_true, true_or, if_true, if_false, ite_true, ite_false, List.map_nil, List.map_cons, List.sum_nil, List.sum_cons, List.nil_append, List.cons_append, Option.toList_some, Option.toList_none, Nat.reduceAdd, Nat.reduceLeDiff, Nat.reduceSub, Nat.zero_le, List.headD_cons, List.tail_cons, List.length_cons, List.length_nil, ne_eq, reduceCtorEq, false_or, or_false, not_false_eq_true, Nat.reduceEqDiff, Nat.reduceLT, am_sw, bI_0, bI_z, bI_y, Classical.not_not, Nat.le_add_left, am_u_row2, am_r_row2, am_u_same, am_u_at, am_r_same, Int32.reduceLT, Int32.reduceLE, Int32.reduceAdd, Int32.reduceSub, Int32.reduceMul, forall_const, not_true_eq_false, implies_true, false_imp_iff, true_imp_iff, i_10, i_01, i_m10, i_m11, eq_self, or_self, false_and, and_false, and_self, am_so_some, am_pv_some, am_pv_none, l_cl_none, l_cl_int, l_cl_ref, l_cl_ra, l_cl_null, l_cl_long, cat_int, cat_ref, cat_long, cat_ra, cat_null, cl_0, cl_1, cl_2, cl_3, cl_4, cl_5, cl_6, cl_7, cl_8, cl_9, cl_10, cl_11, cl_12, cl_13, cl_14, cl_15, cl_16, cl_30, cl_64, cl_500, vl_0_2, vl_0_3, vl_0_4, vl_0_6, vl_0_7, vl_0_12, vl_0_16, vl_0_1400, vl_1_2, vl_1_3, vl_1_4, vl_1_6, vl_1_7, vl_1_12, vl_1_16, vl_1_1400, vl_2_3, vl_2_4, vl_2_6, vl_2_7, vl_2_12, vl_2_16, vl_2_1400, vl_3_4, vl_3_6, vl_3_7, vl_3_12, vl_3_16, vl_3_1400, vl_4_6, vl_4_7, vl_4_12, vl_4_16, vl_4_1400, vl_5_6, vl_5_7, vl_5_12, vl_5_16, vl_5_1400, vl_6_7, vl_6_12, vl_6_16, vl_6_1400, vl_7_12, vl_7_16, vl_8_12, vl_8_16, vl_9_12, vl_9_16, vl_10_12, vl_10_16, vl_11_12, vl_11_16, i_64le_e, i64a_0, i64b_0, i64a_1, i64b_1, i64a_2, i64b_2, i64a_3, i64b_3, i64a_4, i64b_4, i64a_5, i64b_5, i64a_7, i64b_7, i64a_8, i64b_8, i64a_9, i64b_9, i64a_10, i64b_10, i64a_16, i64b_16, i64a_50, i64b_50, i64a_m50, i64b_m50, i64a_60, i64b_60, i64a_99, i64b_99, i64a_100, i64b_100, i64a_500, i64b_500, i64a_600, i64b_600, i64a_1000, i64b_1000, i64a_1000000, i64b_1000000, i64a_m9, i64b_m9, e_s_70, e_i_70, e_l_70, e_p_70_0, e_p_70_1, e_p_70_2, e_p_70_3, e_p_70_4, e_p_70_5, e_p_70_6, e_p_70_7, e_p_70_10, e_p_70_11, e_p_70_12, e_p_70_13, e_p_70_14, e_p_70_15, e_p_70_16, e_p_70_24, e_p_70_29, e_p_70_30, e_p_70_31, e_p_70_32, e_p_70_33, e_p_70_34, e_p_70_35, e_p_70_36, e_p_70_37, e_p_70_38, e_p_70_39, e_p_70_41, e_p_70_42, e_p_70_44, e_p_70_45, e_p_70_46, e_p_70_53, e_p_70_54, e_p_70_55, e_p_70_56, e_p_70_59, e_p_70_61, e_p_70_62, e_s_90, e_i_90, e_l_90, e_p_90_0, e_p_90_1, e_s_91, e_i_91, e_l_91, e_s_92, e_i_92, e_l_92, e_s_93, e_i_93, e_l_93, e_p_93_0, e_p_93_1, e_s_94, e_i_94, e_l_94, e_s_95, e_i_95, e_l_95, e_s_99, e_i_99, e_l_99, hE]
    have kk := kk M1 f1 (fun y => absurd y nok) (fun _ => m1 c1)
    rw [if_neg nok] at kk
    exact kk
/-- the reference's draft -/
def DrR (T : Nat → Nat) (n : Nat) (q : gP) (M : am_M) (L : am_L) : Prop := (M 97 1 = nI q.1.length) ∧ (M 98 1 = nI q.2.1.length) ∧ (M 99 1 = nI q.2.2.length) ∧ (∀ i, i < q.2.2.length → M 89 i = nI (q.2.2.getD i 0)) ∧ (∀ l, l < q.1.length → L 96 l = lI (nkC T n (lwA q l).1)) ∧ (∀ l, l < q.1.length → M 92 l = nI (lwA q l).2.1) ∧ (∀ l, l < q.1.length → M 95 l = nI (lwA q l).2.2) ∧ (∀ l, l < q.2.1.length → M 92 (6 + l) = nI (ctA q l).1) ∧ (∀ l, l < q.2.1.length → M 95 (6 + l) = nI (ctA q l).2)
theorem DrR.f7 {T : Nat → Nat} {n : Nat} {q : gP} {M : am_M} {L : am_L} (h : DrR T n q M L) : M 97 1 = nI q.1.length := h.1
theorem DrR.f8 {T : Nat → Nat} {n : Nat} {q : gP} {M : am_M} {L : am_L} (h : DrR T n q M L) : M 98 1 = nI q.2.1.length := h.2.1
theorem DrR.f6 {T : Nat → Nat} {n : Nat} {q : gP} {M : am_M} {L : am_L} (h : DrR T n q M L) : M 99 1 = nI q.2.2.length := h.2.2.1
theorem DrR.co {T : Nat → Nat} {n : Nat} {q : gP} {M : am_M} {L : am_L} (h : DrR T n q M L) : ∀ i, i < q.2.2.length → M 89 i = nI (q.2.2.getD i 0) := h.2.2.2.1
theorem DrR.nm {T : Nat → Nat} {n : Nat} {q : gP} {M : am_M} {L : am_L} (h : DrR T n q M L) : ∀ l, l < q.1.length → L 96 l = lI (nkC T n (lwA q l).1) := h.2.2.2.2.1
theorem DrR.l1 {T : Nat → Nat} {n : Nat} {q : gP} {M : am_M} {L : am_L} (h : DrR T n q M L) : ∀ l, l < q.1.length → M 92 l = nI (lwA q l).2.1 := h.2.2.2.2.2.1
theorem DrR.l2 {T : Nat → Nat} {n : Nat} {q : gP} {M : am_M} {L : am_L} (h : DrR T n q M L) : ∀ l, l < q.1.length → M 95 l = nI (lwA q l).2.2 := h.2.2.2.2.2.2.1
theorem DrR.c1 {T : Nat → Nat} {n : Nat} {q : gP} {M : am_M} {L : am_L} (h : DrR T n q M L) : ∀ l, l < q.2.1.length → M 92 (6 + l) = nI (ctA q l).1 := h.2.2.2.2.2.2.2.1
theorem DrR.c2 {T : Nat → Nat} {n : Nat} {q : gP} {M : am_M} {L : am_L} (h : DrR T n q M L) : ∀ l, l < q.2.1.length → M 95 (6 + l) = nI (ctA q l).2 := h.2.2.2.2.2.2.2.2
theorem em_co {q : gP} {e : List Nat} {M0 M : am_M} (co : ∀ i, i < q.2.2.length → M0 89 i = nI (q.2.2.getD i 0)) (he : EmR q.2.2.length e M0 M) : ∀ i, i < (q.2.2 ++ e).length → M 89 i = nI ((q.2.2 ++ e).getD i 0) := by
  intro i hi
  rw [List.length_append] at hi
  by_cases c : i < q.2.2.length
  · rw [he.2.1 i c, co i c, List.getD_eq_getElem?_getD, List.getD_eq_getElem?_getD, List.getElem?_append_left c]
  · have z := he.2.2 (i - q.2.2.length) (by omega)
    rw [show q.2.2.length + (i - q.2.2.length) = i by omega] at z
    rw [z, List.getD_eq_getElem?_getD, List.getD_eq_getElem?_getD, List.getElem?_append_right (by omega)]
theorem DrR.law {q : gP} {M0 M : am_M} {L0 L : am_L} {e : List Nat} {k : Nat} (h : DrR T n q M0 L0) (h4 : q.2.1.length ≤ 4) (h6 : q.1.length < 6) (hl : M 97 1 = nI (q.1.length + 1)) (ho : M 98 1 = M0 98 1) (he : EmR q.2.2.length e M0 M) (hL : ∀ l, L 96 l = if l = q.1.length then lI (nkC T n k) else L0 96 l) (h92 : M 92 = am_u M0 92 q.1.length (nI q.2.2.length) 92) (h95 : M 95 = am_u M0 95 q.1.length (nI e.length) 95) : DrR T n (q.1 ++ [(k, q.2.2.length, e.length)], q.2.1, q.2.2 ++ e) M L := by
  have ll : (q.1 ++ [(k, q.2.2.length, e.length)]).length = q.1.length + 1 := by rw [List.length_append, List.length_singleton]
  have lA : ∀ l, l < q.1.length → lwA (q.1 ++ [(k, q.2.2.length, e.length)], q.2.1, q.2.2 ++ e) l = lwA q l := fun l hl => by
    show (q.1 ++ [_]).getD l (0, 0, 0) = _
    rw [getD_app, if_pos hl]; rfl
  have lB : lwA (q.1 ++ [(k, q.2.2.length, e.length)], q.2.1, q.2.2 ++ e) q.1.length = (k, q.2.2.length, e.length) := by
    show (q.1 ++ [_]).getD q.1.length (0, 0, 0) = _
    rw [getD_app, if_neg (by omega), if_pos rfl]
  refine ⟨?_, ?_, ?_, em_co h.co he, ?_, ?_, ?_, ?_, ?_⟩
  · show _ = nI (q.1 ++ [(k, q.2.2.length, e.length)]).length
    rw [ll]; exact hl
  · rw [ho]; exact h.f8
  · show _ = nI (q.2.2 ++ e).length
    rw [he.1, List.length_append]
  · intro l hl
    have hl : l < (q.1 ++ [(k, q.2.2.length, e.length)]).length := hl
    rw [ll] at hl
    rw [hL]
    by_cases c : l < q.1.length
    · rw [if_neg (by omega), lA l c]; exact h.nm l c
    · rw [if_pos (by omega), show l = q.1.length by omega, lB]
  · intro l hl
    have hl : l < (q.1 ++ [(k, q.2.2.length, e.length)]).length := hl
    rw [ll] at hl
    rw [h92]
    by_cases c : l < q.1.length
    · rw [lA l c, am_u_ne (fun z => by omega)]; exact h.l1 l c
    · rw [show l = q.1.length by omega, lB, am_u_same]
  · intro l hl
    have hl : l < (q.1 ++ [(k, q.2.2.length, e.length)]).length := hl
    rw [ll] at hl
    rw [h95]
    by_cases c : l < q.1.length
    · rw [lA l c, am_u_ne (fun z => by omega)]; exact h.l2 l c
    · rw [show l = q.1.length by omega, lB, am_u_same]
  · intro l hl
    rw [h92, am_u_ne (fun z => by omega)]; exact h.c1 l hl
  · intro l hl
    rw [h95, am_u_ne (fun z => by omega)]; exact h.c2 l hl
theorem DrR.cls {q : gP} {M0 M : am_M} {L : am_L} {e : List Nat} (h : DrR T n q M0 L) (h6 : q.1.length ≤ 6) (hl : M 98 1 = nI (q.2.1.length + 1)) (ho : M 97 1 = M0 97 1) (he : EmR q.2.2.length e M0 M) (h92 : M 92 = am_u M0 92 (6 + q.2.1.length) (nI q.2.2.length) 92) (h95 : M 95 = am_u M0 95 (6 + q.2.1.length) (nI e.length) 95) : DrR T n (q.1, q.2.1 ++ [(q.2.2.length, e.length)], q.2.2 ++ e) M L := by
  have ll : (q.2.1 ++ [(q.2.2.length, e.length)]).length = q.2.1.length + 1 := by rw [List.length_append, List.length_singleton]
  have lA : ∀ l, l < q.2.1.length → ctA (q.1, q.2.1 ++ [(q.2.2.length, e.length)], q.2.2 ++ e) l = ctA q l := fun l hl => by
    show (q.2.1 ++ [_]).getD l (0, 0) = _
    rw [getD_app, if_pos hl]; rfl
  have lB : ctA (q.1, q.2.1 ++ [(q.2.2.length, e.length)], q.2.2 ++ e) q.2.1.length = (q.2.2.length, e.length) := by
    show (q.2.1 ++ [_]).getD q.2.1.length (0, 0) = _
    rw [getD_app, if_neg (by omega), if_pos rfl]
  refine ⟨?_, ?_, ?_, em_co h.co he, h.nm, ?_, ?_, ?_, ?_⟩
  · rw [ho]; exact h.f7
  · show _ = nI (q.2.1 ++ [(q.2.2.length, e.length)]).length
    rw [ll]; exact hl
  · show _ = nI (q.2.2 ++ e).length
    rw [he.1, List.length_append]
  · intro l hl
    have hl : l < q.1.length := hl
    rw [h92, am_u_ne (fun z => by omega)]; exact h.l1 l hl
  · intro l hl
    have hl : l < q.1.length := hl
    rw [h95, am_u_ne (fun z => by omega)]; exact h.l2 l hl
  · intro l hl
    have hl : l < (q.2.1 ++ [(q.2.2.length, e.length)]).length := hl
    rw [ll] at hl
    rw [h92]
    by_cases c : l < q.2.1.length
    · rw [lA l c, am_u_ne (fun z => by omega)]; exact h.c1 l c
    · rw [show l = q.2.1.length by omega, lB, am_u_same]
  · intro l hl
    have hl : l < (q.2.1 ++ [(q.2.2.length, e.length)]).length := hl
    rw [ll] at hl
    rw [h95]
    by_cases c : l < q.2.1.length
    · rw [lA l c, am_u_ne (fun z => by omega)]; exact h.c2 l c
    · rw [show l = q.2.1.length by omega, lB, am_u_same]
end T79f
