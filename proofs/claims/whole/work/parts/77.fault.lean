section T77
variable {X : am_X} {d : Nat} {K : am_K} {S : am_S} {M : am_M} {L : am_L} {V : am_M} {T : Nat → Nat} {n B : Nat}
/-- the class's draft -/
def DrC (q : gP) (M : am_M) : Prop := (M 9 6 = nI q.2.2.length) ∧ (M 9 7 = nI q.1.length) ∧ (M 9 8 = nI q.2.1.length) ∧ (∀ i, i < q.2.2.length → M 10 i = tkc (nI (q.2.2.getD i 0))) ∧ (∀ l, l < q.1.length → M 8 l = nI (lwA q l).1) ∧ (∀ l, l < q.1.length → M 11 l = nI (lwA q l).2.1) ∧ (∀ l, l < q.1.length → M 12 l = nI ((lwA q l).2.1 + (lwA q l).2.2)) ∧ (∀ l, l < q.2.1.length → M 13 l = nI (ctA q l).1) ∧ (∀ l, l < q.2.1.length → M 14 l = nI ((ctA q l).1 + (ctA q l).2))
theorem DrC.f6 {q : gP} {M : am_M} (h : DrC q M) : M 9 6 = nI q.2.2.length := h.1
theorem DrC.f7 {q : gP} {M : am_M} (h : DrC q M) : M 9 7 = nI q.1.length := h.2.1
theorem DrC.f8 {q : gP} {M : am_M} (h : DrC q M) : M 9 8 = nI q.2.1.length := h.2.2.1
theorem DrC.co {q : gP} {M : am_M} (h : DrC q M) : ∀ i, i < q.2.2.length → M 10 i = tkc (nI (q.2.2.getD i 0)) := h.2.2.2.1
theorem DrC.nm {q : gP} {M : am_M} (h : DrC q M) : ∀ l, l < q.1.length → M 8 l = nI (lwA q l).1 := h.2.2.2.2.1
theorem DrC.l1 {q : gP} {M : am_M} (h : DrC q M) : ∀ l, l < q.1.length → M 11 l = nI (lwA q l).2.1 := h.2.2.2.2.2.1
theorem DrC.l2 {q : gP} {M : am_M} (h : DrC q M) : ∀ l, l < q.1.length → M 12 l = nI ((lwA q l).2.1 + (lwA q l).2.2) := h.2.2.2.2.2.2.1
theorem DrC.c1 {q : gP} {M : am_M} (h : DrC q M) : ∀ l, l < q.2.1.length → M 13 l = nI (ctA q l).1 := h.2.2.2.2.2.2.2.1
theorem DrC.c2 {q : gP} {M : am_M} (h : DrC q M) : ∀ l, l < q.2.1.length → M 14 l = nI ((ctA q l).1 + (ctA q l).2) := h.2.2.2.2.2.2.2.2
def csG : List Nat := [8, 10, 11, 12, 13, 14]
def fsG : List (Nat × Nat) := [(7, 2), (9, 6), (9, 7), (9, 8)]
theorem TkC.g {M M' : am_M} (h : TkC T n B M) (f : Fr csG fsG M M') : TkC T n B M' := h.fr (f.mono (by decide) (by decide))
theorem TxC.g {M M' : am_M} (h : TxC T n M) (f : Fr csG fsG M M') : TxC T n M' := h.of (f 2 5 (by decide) (by decide)) (f.row 3 (by decide) (by decide))
theorem gIn.le {k : Nat} {q : gP} (h : gIn T n k q) (hK : TkC T n B M) : k ≤ B := by
  rcases Nat.lt_or_ge B k with c | c
  · exact absurd (h.gd B c) hK.no
  · exact c
theorem c_Parser_parseNewName {k : Nat} {q : gP} (hE : am_env S) (hT : TxC T n M) (hK : TkC T n B M) (hk : M 7 2 = nI k) (hB : k ≤ B) (hD : DrC q M) (h6 : q.1.length < 6) (hn : ∀ l, l < q.1.length → (lwA q l).1 < B) (kk : K (some (.int (if nmO T n k q = true then 1 else 0))) S (if nmO T n k q = true then am_u (am_u M 8 q.1.length (nI k)) 7 2 (nI (k + 1)) else M) L) : am_Call X (d + 2) m_Parser_parseNewName [.ref 7] S M L K := by
  have b5 := hK.b5
  have n5 := hT.n5
  have cl := cdT_le (n := n) (k := k) hT.t8
  have f7 := hD.f7
  refine EE_Parser_parseNewName pt38_ok ?_
  simp only [s_aload_0_ref, s_bipush, s_dup_int, s_dup_ref, s_get0, s_get2, s_goto, s_iadd, s_iald, s_iast, s_ic_ge, s_ic_le, s_ic_ne, s_iconst, s_if_eq, s_iinc_1, s_iload_1_int, s_ireturnZ, s_istore_1_int, s_iv_1, s_iv_2, s_put0, s_sipush, J_Parser_parseNewName_0, b_Parser_parseNewName_0, J_Parser_parseNewName_33, b_Parser_parseNewName_33, J_Parser_parseNewName_35, b_Parser_parseNewName_35, J_Parser_parseNewName_70, b_Parser_parseNewName_70, J_Parser_parseNewName_76, b_Parser_parseNewName_76, J_Parser_parseNewName_37, b_Parser_parseNewName_37, s_end, true_and, and_true, or_true, true_or, if_true, if_false, ite_true, ite_false, List.map_nil, List.map_cons, List.sum_nil, List.sum_cons, List.nil_append, List.cons_append, Option.toList_some, Option.toList_none, Nat.reduceAdd, Nat.reduceLeDiff, Nat.reduceSub, Nat.zero_le, List.headD_cons, List.tail_cons, List.length_cons, List.length_nil, ne_eq, reduceCtorEq, false_or, or_false, not_false_eq_true, Nat.reduceEqDiff, Nat.reduceLT, am_sw, bI_0, bI_z, bI_y, Classical.not_not, Nat.le_add_left, am_u_row2, am_r_row2, am_u_same, am_u_at, am_r_same, Int32.reduceLT, Int32.reduceLE, Int32.reduceAdd, Int32.reduceSub, Int32.reduceMul, forall_const, not_true_eq_false, implies_true, false_imp_iff, true_imp_iff, i_10, i_01, i_m10, i_m11, eq_self, or_self, false_and, and_false, and_self, am_so_some, am_pv_some, am_pv_none, l_cl_none, l_cl_int, l_cl_ref, l_cl_ra, l_cl_null, l_cl_long, cat_int, cat_ref, cat_long, cat_ra, cat_null, cl_0, cl_1, cl_2, cl_3, cl_4, cl_5, cl_6, cl_7, cl_8, cl_9, cl_10, cl_11, cl_12, cl_13, cl_14, cl_15, cl_16, cl_30, cl_64, cl_500, vl_0_2, vl_0_3, vl_0_4, vl_0_6, vl_0_7, vl_0_12, vl_0_16, vl_0_1400, vl_1_2, vl_1_3, vl_1_4, vl_1_6, vl_1_7, vl_1_12, vl_1_16, vl_1_1400, vl_2_3, vl_2_4, vl_2_6, vl_2_7, vl_2_12, vl_2_16, vl_2_1400, vl_3_4, vl_3_6, vl_3_7, vl_3_12, vl_3_16, vl_3_1400, vl_4_6, vl_4_7, vl_4_12, vl_4_16, vl_4_1400, vl_5_6, vl_5_7, vl_5_12, vl_5_16, vl_5_1400, vl_6_7, vl_6_12, vl_6_16, vl_6_1400, vl_7_12, vl_7_16, vl_8_12, vl_8_16, vl_9_12, vl_9_16, vl_10_12, vl_10_16, vl_11_12, vl_11_16, i_64le_e, i64a_0, i64b_0, i64a_1, i64b_1, i64a_2, i64b_2, i64a_3, i64b_3, i64a_4, i64b_4, i64a_5, i64b_5, i64a_7, i64b_7, i64a_8, i64b_8, i64a_9, i64b_9, i64a_10, i64b_10, i64a_16, i64b_16, i64a_50, i64b_50, i64a_m50, i64b_m50, i64a_60, i64b_60, i64a_99, i64b_99, i64a_100, i64b_100, i64a_500, i64b_500, i64a_600, i64b_600, i64a_1000, i64b_1000, i64a_1000000, i64b_1000000, i64a_m9, i64b_m9, e_s_2, e_i_2, e_l_2, e_p_2_0, e_p_2_1, e_p_2_2, e_p_2_3, e_s_7, e_i_7, e_l_7, e_p_7_0, e_p_7_1, e_p_7_3, e_s_8, e_i_8, e_l_8, e_s_9, e_i_9, e_l_9, e_p_9_0, e_p_9_1, e_p_9_2, e_p_9_3, e_p_9_4, e_p_9_5, hk, hE]
  refine am_cal_no rfl (c_Text_code hE hK hB ?_)
  simp only [s_aload_0_ref, s_bipush, s_dup_int, s_dup_ref, s_get0, s_get2, s_goto, s_iadd, s_iald, s_iast, s_ic_ge, s_ic_le, s_ic_ne, s_iconst, s_if_eq, s_iinc_1, s_iload_1_int, s_ireturnZ, s_istore_1_int, s_iv_1, s_iv_2, s_put0, s_sipush, J_Parser_parseNewName_0, b_Parser_parseNewName_0, J_Parser_parseNewName_33, b_Parser_parseNewName_33, J_Parser_parseNewName_35, b_Parser_parseNewName_35, J_Parser_parseNewName_70, b_Parser_parseNewName_70, J_Parser_parseNewName_76, b_Parser_parseNewName_76, J_Parser_parseNewName_37, b_Parser_parseNewName_37, s_end, true_and, and_true, or_true, true_or, if_true, if_false, ite_true, ite_false, List.map_nil, List.map_cons, List.sum_nil, List.sum_cons, List.nil_append, List.cons_append, Option.toList_some, Option.toList_none, Nat.reduceAdd, Nat.reduceLeDiff, Nat.reduceSub, Nat.zero_le, List.headD_cons, List.tail_cons, List.length_cons, List.length_nil, ne_eq, reduceCtorEq, false_or, or_false, not_false_eq_true, Nat.reduceEqDiff, Nat.reduceLT, am_sw, bI_0, bI_z, bI_y, Classical.not_not, Nat.le_add_left, am_u_row2, am_r_row2, am_u_same, am_u_at, am_r_same, Int32.reduceLT, Int32.reduceLE, Int32.reduceAdd, Int32.reduceSub, Int32.reduceMul, forall_const, not_true_eq_false, implies_true, false_imp_iff, true_imp_iff, i_10, i_01, i_m10, i_m11, eq_self, or_self, false_and, and_false, and_self, am_so_some, am_pv_some, am_pv_none, l_cl_none, l_cl_int, l_cl_ref, l_cl_ra, l_cl_null, l_cl_long, cat_int, cat_ref, cat_long, cat_ra, cat_null, cl_0, cl_1, cl_2, cl_3, cl_4, cl_5, cl_6, cl_7, cl_8, cl_9, cl_10, cl_11, cl_12, cl_13, cl_14, cl_15, cl_16, cl_30, cl_64, cl_500, vl_0_2, vl_0_3, vl_0_4, vl_0_6, vl_0_7, vl_0_12, vl_0_16, vl_0_1400, vl_1_2, vl_1_3, vl_1_4, vl_1_6, vl_1_7, vl_1_12, vl_1_16, vl_1_1400, vl_2_3, vl_2_4, vl_2_6, vl_2_7, vl_2_12, vl_2_16, vl_2_1400, vl_3_4, vl_3_6, vl_3_7, vl_3_12, vl_3_16, vl_3_1400, vl_4_6, vl_4_7, vl_4_12, vl_4_16, vl_4_1400, vl_5_6, vl_5_7, vl_5_12, vl_5_16, vl_5_1400, vl_6_7, vl_6_12, vl_6_16, vl_6_1400, vl_7_12, vl_7_16, vl_8_12, vl_8_16, vl_9_12, vl_9_16, vl_10_12, vl_10_16, vl_11_12, vl_11_16, i_64le_e, i64a_0, i64b_0, i64a_1, i64b_1, i64a_2, i64b_2, i64a_3, i64b_3, i64a_4, i64b_4, i64a_5, i64b_5, i64a_7, i64b_7, i64a_8, i64b_8, i64a_9, i64b_9, i64a_10, i64b_10, i64a_16, i64b_16, i64a_50, i64b_50, i64a_m50, i64b_m50, i64a_60, i64b_60, i64a_99, i64b_99, i64a_100, i64b_100, i64a_500, i64b_500, i64a_600, i64b_600, i64a_1000, i64b_1000, i64a_1000000, i64b_1000000, i64a_m9, i64b_m9, e_s_2, e_i_2, e_l_2, e_p_2_0, e_p_2_1, e_p_2_2, e_p_2_3, e_s_7, e_i_7, e_l_7, e_p_7_0, e_p_7_1, e_p_7_3, e_s_8, e_i_8, e_l_8, e_s_9, e_i_9, e_l_9, e_p_9_0, e_p_9_1, e_p_9_2, e_p_9_3, e_p_9_4, e_p_9_5, hk, hE]
  have q1 : (nI (cdT T n k) = 10016) = (cdT T n k = 10016) := nI_eq' (b := 10016) (by omega) (by omega)
  simp (disch := omega) only [q1, nI_clamp, nI_le', nI_lt', nI_eq', rem2_1, rem2_0, nI_eq0, nI_le0, nI_0lt, nI_0le, nI_lt0, nI_m1, vp_inE, nm_nI, i_20, nI_1, nI_add, and_true, true_and, and_self, or_true, true_or, or_false, false_or, false_and, and_false, not_true_eq_false, not_false_eq_true, if_true, if_false, ite_true, ite_false, false_imp_iff, true_imp_iff, rsn_00, rsn_10, rsn_01, rsn_11, n_09, n_19, n_29, n_99, implies_true, bI_t, bI_f, or_self, ne_eq, eq_self, Classical.not_not, Bool.false_eq_true]
  refine ⟨fun z => ?_, fun z => ?_⟩
  · have no : ¬ nmO T n k q = true := fun y => by
      unfold nmO at y
      simp only [Bool.and_eq_true, decide_eq_true_eq] at y
      exact z y.1.1
    rw [if_neg no, if_neg no] at kk
    exact kk
  · have kB := hK.lt hB (by omega)
    have le := eqT_le (T := T) (n := n) (k := k)
    refine am_cal_no rfl (c_Text_wordSize hE hK n5 kB ?_)
    simp only [s_aload_0_ref, s_bipush, s_dup_int, s_dup_ref, s_get0, s_get2, s_goto, s_iadd, s_iald, s_iast, s_ic_ge, s_ic_le, s_ic_ne, s_iconst, s_if_eq, s_iinc_1, s_iload_1_int, s_ireturnZ, s_istore_1_int, s_iv_1, s_iv_2, s_put0, s_sipush, J_Parser_parseNewName_0, b_Parser_parseNewName_0, J_Parser_parseNewName_33, b_Parser_parseNewName_33, J_Parser_parseNewName_35, b_Parser_parseNewName_35, J_Parser_parseNewName_70, b_Parser_parseNewName_70, J_Parser_parseNewName_76, b_Parser_parseNewName_76, J_Parser_parseNewName_37, b_Parser_parseNewName_37, s_end, true_and, and_true, or_true, true_or, if_true, if_false, ite_true, ite_false, List.map_nil, List.map_cons, List.sum_nil, List.sum_cons, List.nil_append, List.cons_append, Option.toList_some, Option.toList_none, Nat.reduceAdd, Nat.reduceLeDiff, Nat.reduceSub, Nat.zero_le, List.headD_cons, List.tail_cons, List.length_cons, List.length_nil, ne_eq, reduceCtorEq, false_or, or_false, not_false_eq_true, Nat.reduceEqDiff, Nat.reduceLT, am_sw, bI_0, bI_z, bI_y, Classical.not_not, Nat.le_add_left, am_u_row2, am_r_row2, am_u_same, am_u_at, am_r_same, Int32.reduceLT, Int32.reduceLE, Int32.reduceAdd, Int32.reduceSub, Int32.reduceMul, forall_const, not_true_eq_false, implies_true, false_imp_iff, true_imp_iff, i_10, i_01, i_m10, i_m11, eq_self, or_self, false_and, and_false, and_self, am_so_some, am_pv_some, am_pv_none, l_cl_none, l_cl_int, l_cl_ref, l_cl_ra, l_cl_null, l_cl_long, cat_int, cat_ref, cat_long, cat_ra, cat_null, cl_0, cl_1, cl_2, cl_3, cl_4, cl_5, cl_6, cl_7, cl_8, cl_9, cl_10, cl_11, cl_12, cl_13, cl_14, cl_15, cl_16, cl_30, cl_64, cl_500, vl_0_2, vl_0_3, vl_0_4, vl_0_6, vl_0_7, vl_0_12, vl_0_16, vl_0_1400, vl_1_2, vl_1_3, vl_1_4, vl_1_6, vl_1_7, vl_1_12, vl_1_16, vl_1_1400, vl_2_3, vl_2_4, vl_2_6, vl_2_7, vl_2_12, vl_2_16, vl_2_1400, vl_3_4, vl_3_6, vl_3_7, vl_3_12, vl_3_16, vl_3_1400, vl_4_6, vl_4_7, vl_4_12, vl_4_16, vl_4_1400, vl_5_6, vl_5_7, vl_5_12, vl_5_16, vl_5_1400, vl_6_7, vl_6_12, vl_6_16, vl_6_1400, vl_7_12, vl_7_16, vl_8_12, vl_8_16, vl_9_12, vl_9_16, vl_10_12, vl_10_16, vl_11_12, vl_11_16, i_64le_e, i64a_0, i64b_0, i64a_1, i64b_1, i64a_2, i64b_2, i64a_3, i64b_3, i64a_4, i64b_4, i64a_5, i64b_5, i64a_7, i64b_7, i64a_8, i64b_8, i64a_9, i64b_9, i64a_10, i64b_10, i64a_16, i64b_16, i64a_50, i64b_50, i64a_m50, i64b_m50, i64a_60, i64b_60, i64a_99, i64b_99, i64a_100, i64b_100, i64a_500, i64b_500, i64a_600, i64b_600, i64a_1000, i64b_1000, i64a_1000000, i64b_1000000, i64a_m9, i64b_m9, e_s_2, e_i_2, e_l_2, e_p_2_0, e_p_2_1, e_p_2_2, e_p_2_3, e_s_7, e_i_7, e_l_7, e_p_7_0, e_p_7_1, e_p_7_3, e_s_8, e_i_8, e_l_8, e_s_9, e_i_9, e_l_9, e_p_9_0, e_p_9_1, e_p_9_2, e_p_9_3, e_p_9_4, e_p_9_5, hk, hE]
    have q2 : (nI (eqT T n k - sqT T n k) ≤ 8) = (eqT T n k - sqT T n k ≤ 8) := nI_le' (b := 8) (by omega) (by omega)
    simp (disch := omega) only [q2, nI_clamp, nI_le', nI_lt', nI_eq', rem2_1, rem2_0, nI_eq0, nI_le0, nI_0lt, nI_0le, nI_lt0, nI_m1, vp_inE, nm_nI, i_20, nI_1, nI_add, and_true, true_and, and_self, or_true, true_or, or_false, false_or, false_and, and_false, not_true_eq_false, not_false_eq_true, if_true, if_false, ite_true, ite_false, false_imp_iff, true_imp_iff, rsn_00, rsn_10, rsn_01, rsn_11, n_09, n_19, n_29, n_99, implies_true, bI_t, bI_f, or_self, ne_eq, eq_self, Classical.not_not, Bool.false_eq_true]
    have loop : eqT T n k - sqT T n k ≤ 8 → ∀ i, i ≤ q.1.length → (∀ l, l < i → smB T n k (lwA q l).1 = false) → am_WP X (d + 2) 57 37 [some (.ref 7), some (.int (nI i))] [] S (M) (L) 0 0 K := by
      intro h8
      refine am_ind ?_
      intro i hi ih hs
      refine H_Parser_parseNewName_37 pt38_ok ?_
      simp only [s_aload_0_ref, s_bipush, s_dup_int, s_dup_ref, s_get0, s_get2, s_goto, s_iadd, s_iald, s_iast, s_ic_ge, s_ic_le, s_ic_ne, s_iconst, s_if_eq, s_iinc_1, s_iload_1_int, s_ireturnZ, s_istore_1_int, s_iv_1, s_iv_2, s_put0, s_sipush, J_Parser_parseNewName_0, b_Parser_parseNewName_0, J_Parser_parseNewName_33, b_Parser_parseNewName_33, J_Parser_parseNewName_35, b_Parser_parseNewName_35, J_Parser_parseNewName_70, b_Parser_parseNewName_70, J_Parser_parseNewName_76, b_Parser_parseNewName_76, J_Parser_parseNewName_37, b_Parser_parseNewName_37, s_end, true_and, and_true, or_true, true_or, if_true, if_false, ite_true, ite_false, List.map_nil, List.map_cons, List.sum_nil, List.sum_cons, List.nil_append, List.cons_append, Option.toList_some, Option.toList_none, Nat.reduceAdd, Nat.reduceLeDiff, Nat.reduceSub, Nat.zero_le, List.headD_cons, List.tail_cons, List.length_cons, List.length_nil, ne_eq, reduceCtorEq, false_or, or_false, not_false_eq_true, Nat.reduceEqDiff, Nat.reduceLT, am_sw, bI_0, bI_z, bI_y, Classical.not_not, Nat.le_add_left, am_u_row2, am_r_row2, am_u_same, am_u_at, am_r_same, Int32.reduceLT, Int32.reduceLE, Int32.reduceAdd, Int32.reduceSub, Int32.reduceMul, forall_const, not_true_eq_false, implies_true, false_imp_iff, true_imp_iff, i_10, i_01, i_m10, i_m11, eq_self, or_self, false_and, and_false, and_self, am_so_some, am_pv_some, am_pv_none, l_cl_none, l_cl_int, l_cl_ref, l_cl_ra, l_cl_null, l_cl_long, cat_int, cat_ref, cat_long, cat_ra, cat_null, cl_0, cl_1, cl_2, cl_3, cl_4, cl_5, cl_6, cl_7, cl_8, cl_9, cl_10, cl_11, cl_12, cl_13, cl_14, cl_15, cl_16, cl_30, cl_64, cl_500, vl_0_2, vl_0_3, vl_0_4, vl_0_6, vl_0_7, vl_0_12, vl_0_16, vl_0_1400, vl_1_2, vl_1_3, vl_1_4, vl_1_6, vl_1_7, vl_1_12, vl_1_16, vl_1_1400, vl_2_3, vl_2_4, vl_2_6, vl_2_7, vl_2_12, vl_2_16, vl_2_1400, vl_3_4, vl_3_6, vl_3_7, vl_3_12, vl_3_16, vl_3_1400, vl_4_6, vl_4_7, vl_4_12, vl_4_16, vl_4_1400, vl_5_6, vl_5_7, vl_5_12, vl_5_16, vl_5_1400, vl_6_7, vl_6_12, vl_6_16, vl_6_1400, vl_7_12, vl_7_16, vl_8_12, vl_8_16, vl_9_12, vl_9_16, vl_10_12, vl_10_16, vl_11_12, vl_11_16, i_64le_e, i64a_0, i64b_0, i64a_1, i64b_1, i64a_2, i64b_2, i64a_3, i64b_3, i64a_4, i64b_4, i64a_5, i64b_5, i64a_7, i64b_7, i64a_8, i64b_8, i64a_9, i64b_9, i64a_10, i64b_10, i64a_16, i64b_16, i64a_50, i64b_50, i64a_m50, i64b_m50, i64a_60, i64b_60, i64a_99, i64b_99, i64a_100, i64b_100, i64a_500, i64b_500, i64a_600, i64b_600, i64a_1000, i64b_1000, i64a_1000000, i64b_1000000, i64a_m9, i64b_m9, e_s_2, e_i_2, e_l_2, e_p_2_0, e_p_2_1, e_p_2_2, e_p_2_3, e_s_7, e_i_7, e_l_7, e_p_7_0, e_p_7_1, e_p_7_3, e_s_8, e_i_8, e_l_8, e_s_9, e_i_9, e_l_9, e_p_9_0, e_p_9_1, e_p_9_2, e_p_9_3, e_p_9_4, e_p_9_5, f7, hk, hE]
      by_cases c0 : i < q.1.length
      · have nm := hD.nm i c0
        simp (disch := omega) only [Nat.not_le.mpr, c0, nm, nI_clamp, nI_le', nI_lt', nI_eq', rem2_1, rem2_0, nI_eq0, nI_le0, nI_0lt, nI_0le, nI_lt0, nI_m1, vp_inE, nm_nI, i_20, nI_1, nI_add, and_true, true_and, and_self, or_true, true_or, or_false, false_or, false_and, and_false, not_true_eq_false, not_false_eq_true, if_true, if_false, ite_true, ite_false, false_imp_iff, true_imp_iff, rsn_00, rsn_10, rsn_01, rsn_11, n_09, n_19, n_29, n_99, implies_true, bI_t, bI_f, or_self, ne_eq, eq_self, Classical.not_not, Bool.false_eq_true]
        refine am_cal_no rfl (c_Text_sameWords hE hT hK kB (hn i c0) ?_)
        simp only [s_aload_0_ref, s_bipush, s_dup_int, s_dup_ref, s_get0, s_get2, s_goto, s_iadd, s_iald, s_iast, s_ic_ge, s_ic_le, s_ic_ne, s_iconst, s_if_eq, s_iinc_1, s_iload_1_int, s_ireturnZ, s_istore_1_int, s_iv_1, s_iv_2, s_put0, s_sipush, J_Parser_parseNewName_0, b_Parser_parseNewName_0, J_Parser_parseNewName_33, b_Parser_parseNewName_33, J_Parser_parseNewName_35, b_Parser_parseNewName_35, J_Parser_parseNewName_70, b_Parser_parseNewName_70, J_Parser_parseNewName_76, b_Parser_parseNewName_76, J_Parser_parseNewName_37, b_Parser_parseNewName_37, s_end, true_and, and_true, or_true, true_or, if_true, if_false, ite_true, ite_false, List.map_nil, List.map_cons, List.sum_nil, List.sum_cons, List.nil_append, List.cons_append, Option.toList_some, Option.toList_none, Nat.reduceAdd, Nat.reduceLeDiff, Nat.reduceSub, Nat.zero_le, List.headD_cons, List.tail_cons, List.length_cons, List.length_nil, ne_eq, reduceCtorEq, false_or, or_false, not_false_eq_true, Nat.reduceEqDiff, Nat.reduceLT, am_sw, bI_0, bI_z, bI_y, Classical.not_not, Nat.le_add_left, am_u_row2, am_r_row2, am_u_same, am_u_at, am_r_same, Int32.reduceLT, Int32.reduceLE, Int32.reduceAdd, Int32.reduceSub, Int32.reduceMul, forall_const, not_true_eq_false, implies_true, false_imp_iff, true_imp_iff, i_10, i_01, i_m10, i_m11, eq_self, or_self, false_and, and_false, and_self, am_so_some, am_pv_some, am_pv_none, l_cl_none, l_cl_int, l_cl_ref, l_cl_ra, l_cl_null, l_cl_long, cat_int, cat_ref, cat_long, cat_ra, cat_null, cl_0, cl_1, cl_2, cl_3, cl_4, cl_5, cl_6, cl_7, cl_8, cl_9, cl_10, cl_11, cl_12, cl_13, cl_14, cl_15, cl_16, cl_30, cl_64, cl_500, vl_0_2, vl_0_3, vl_0_4, vl_0_6, vl_0_7, vl_0_12, vl_0_16, vl_0_1400, vl_1_2, vl_1_3, vl_1_4, vl_1_6, vl_1_7, vl_1_12, vl_1_16, vl_1_1400, vl_2_3, vl_2_4, vl_2_6, vl_2_7, vl_2_12, vl_2_16, vl_2_1400, vl_3_4, vl_3_6, vl_3_7, vl_3_12, vl_3_16, vl_3_1400, vl_4_6, vl_4_7, vl_4_12, vl_4_16, vl_4_1400, vl_5_6, vl_5_7, vl_5_12, vl_5_16, vl_5_1400, vl_6_7, vl_6_12, vl_6_16, vl_6_1400, vl_7_12, vl_7_16, vl_8_12, vl_8_16, vl_9_12, vl_9_16, vl_10_12, vl_10_16, vl_11_12, vl_11_16, i_64le_e, i64a_0, i64b_0, i64a_1, i64b_1, i64a_2, i64b_2, i64a_3, i64b_3, i64a_4, i64b_4, i64a_5, i64b_5, i64a_7, i64b_7, i64a_8, i64b_8, i64a_9, i64b_9, i64a_10, i64b_10, i64a_16, i64b_16, i64a_50, i64b_50, i64a_m50, i64b_m50, i64a_60, i64b_60, i64a_99, i64b_99, i64a_100, i64b_100, i64a_500, i64b_500, i64a_600, i64b_600, i64a_1000, i64b_1000, i64a_1000000, i64b_1000000, i64a_m9, i64b_m9, e_s_2, e_i_2, e_l_2, e_p_2_0, e_p_2_1, e_p_2_2, e_p_2_3, e_s_7, e_i_7, e_l_7, e_p_7_0, e_p_7_1, e_p_7_3, e_s_8, e_i_8, e_l_8, e_s_9, e_i_9, e_l_9, e_p_9_0, e_p_9_1, e_p_9_2, e_p_9_3, e_p_9_4, e_p_9_5, hE]
        simp (disch := omega) only [nI_clamp, nI_le', nI_lt', nI_eq', rem2_1, rem2_0, nI_eq0, nI_le0, nI_0lt, nI_0le, nI_lt0, nI_m1, vp_inE, nm_nI, i_20, nI_1, nI_add, and_true, true_and, and_self, or_true, true_or, or_false, false_or, false_and, and_false, not_true_eq_false, not_false_eq_true, if_true, if_false, ite_true, ite_false, false_imp_iff, true_imp_iff, rsn_00, rsn_10, rsn_01, rsn_11, n_09, n_19, n_29, n_99, implies_true, bI_t, bI_f, or_self, ne_eq, eq_self, Classical.not_not, Bool.false_eq_true]
        refine ⟨fun y => ih c0 (lt_add hs (by simpa using y)), fun y => ?_⟩
        have no : ¬ nmO T n k q = true := fun x => by
          unfold nmO at x
          simp only [Bool.and_eq_true, List.all_eq_true, List.mem_range] at x
          have x2 := x.2 i c0
          rw [y] at x2
          cases x2
        rw [if_neg no, if_neg no] at kk
        exact kk
      · have e : i = q.1.length := by omega
        subst e
        have yes : nmO T n k q = true := by
          unfold nmO
          simp only [Bool.and_eq_true, decide_eq_true_eq, List.all_eq_true, List.mem_range]
          exact ⟨⟨z, h8⟩, fun l hl => by rw [hs l hl]; rfl⟩
        rw [if_pos yes, if_pos yes] at kk
        simp (disch := omega) only [Nat.le_refl, nI_clamp, nI_le', nI_lt', nI_eq', rem2_1, rem2_0, nI_eq0, nI_le0, nI_0lt, nI_0le, nI_lt0, nI_m1, vp_inE, nm_nI, i_20, nI_1, nI_add, and_true, true_and, and_self, or_true, true_or, or_false, false_or, false_and, and_false, not_true_eq_false, not_false_eq_true, if_true, if_false, ite_true, ite_false, false_imp_iff, true_imp_iff, rsn_00, rsn_10, rsn_01, rsn_11, n_09, n_19, n_29, n_99, implies_true, bI_t, bI_f, or_self, ne_eq, eq_self, Classical.not_not, Bool.false_eq_true]
        exact kk
    refine ⟨fun y => loop y 0 (by omega) (fun l hl => by omega), fun y => ?_⟩
    have no : ¬ nmO T n k q = true := fun x => by
      unfold nmO at x
      simp only [Bool.and_eq_true, decide_eq_true_eq] at x
      exact y x.1.2
    rw [if_neg no, if_neg no] at kk
    exact kk
theorem c_Program_addLaw {l s z : Nat} (hE : am_env S) (h7 : M 9 7 = nI l) (h6 : M 9 6 = nI z) (hl : l < 6) (k : K none S (am_u (am_u (am_u M 11 l (nI s)) 12 l (nI z)) 9 7 (nI (l + 1))) L) : am_Call X d m_Program_addLaw [.ref 9, .int (nI s)] S M L K := by
  have e : (6 ≤ nI l) = (6 ≤ l) := nI_le' (a := 6) (by omega) (by omega)
  refine EE_Program_addLaw pt38_ok ?_
  simp only [s_aload_0_ref, s_bipush, s_dup_int, s_dup_ref, s_get0, s_get2, s_iadd, s_iast, s_ic_ge, s_iconst, s_iload_1_int, s_put0, s_return, J_Program_addLaw_0, b_Program_addLaw_0, J_Program_addLaw_42, b_Program_addLaw_42, s_end, true_and, and_true, or_true, true_or, if_true, if_false, ite_true, ite_false, List.map_nil, List.map_cons, List.sum_nil, List.sum_cons, List.nil_append, List.cons_append, Option.toList_some, Option.toList_none, Nat.reduceAdd, Nat.reduceLeDiff, Nat.reduceSub, Nat.zero_le, List.headD_cons, List.tail_cons, List.length_cons, List.length_nil, ne_eq, reduceCtorEq, false_or, or_false, not_false_eq_true, Nat.reduceEqDiff, Nat.reduceLT, am_sw, bI_0, bI_z, bI_y, Classical.not_not, Nat.le_add_left, am_u_row2, am_r_row2, am_u_same, am_u_at, am_r_same, Int32.reduceLT, Int32.reduceLE, Int32.reduceAdd, Int32.reduceSub, Int32.reduceMul, forall_const, not_true_eq_false, implies_true, false_imp_iff, true_imp_iff, i_10, i_01, i_m10, i_m11, eq_self, or_self, false_and, and_false, and_self, am_so_some, am_pv_some, am_pv_none, l_cl_none, l_cl_int, l_cl_ref, l_cl_ra, l_cl_null, l_cl_long, cat_int, cat_ref, cat_long, cat_ra, cat_null, cl_0, cl_1, cl_2, cl_3, cl_4, cl_5, cl_6, cl_7, cl_8, cl_9, cl_10, cl_11, cl_12, cl_13, cl_14, cl_15, cl_16, cl_30, cl_64, cl_500, vl_0_2, vl_0_3, vl_0_4, vl_0_6, vl_0_7, vl_0_12, vl_0_16, vl_0_1400, vl_1_2, vl_1_3, vl_1_4, vl_1_6, vl_1_7, vl_1_12, vl_1_16, vl_1_1400, vl_2_3, vl_2_4, vl_2_6, vl_2_7, vl_2_12, vl_2_16, vl_2_1400, vl_3_4, vl_3_6, vl_3_7, vl_3_12, vl_3_16, vl_3_1400, vl_4_6, vl_4_7, vl_4_12, vl_4_16, vl_4_1400, vl_5_6, vl_5_7, vl_5_12, vl_5_16, vl_5_1400, vl_6_7, vl_6_12, vl_6_16, vl_6_1400, vl_7_12, vl_7_16, vl_8_12, vl_8_16, vl_9_12, vl_9_16, vl_10_12, vl_10_16, vl_11_12, vl_11_16, i_64le_e, i64a_0, i64b_0, i64a_1, i64b_1, i64a_2, i64b_2, i64a_3, i64b_3, i64a_4, i64b_4, i64a_5, i64b_5, i64a_7, i64b_7, i64a_8, i64b_8, i64a_9, i64b_9, i64a_10, i64b_10, i64a_16, i64b_16, i64a_50, i64b_50, i64a_m50, i64b_m50, i64a_60, i64b_60, i64a_99, i64b_99, i64a_100, i64b_100, i64a_500, i64b_500, i64a_600, i64b_600, i64a_1000, i64b_1000, i64a_1000000, i64b_1000000, i64a_m9, i64b_m9, e_s_9, e_i_9, e_l_9, e_p_9_0, e_p_9_1, e_p_9_2, e_p_9_3, e_p_9_4, e_p_9_5, e_s_11, e_i_11, e_l_11, e_s_12, e_i_12, e_l_12, h7, h6, hE]
  simp (disch := omega) only [e, Nat.not_le.mpr, hl, nI_clamp, nI_le', nI_lt', nI_eq', rem2_1, rem2_0, nI_eq0, nI_le0, nI_0lt, nI_0le, nI_lt0, nI_m1, vp_inE, nm_nI, i_20, nI_1, nI_add, and_true, true_and, and_self, or_true, true_or, or_false, false_or, false_and, and_false, not_true_eq_false, not_false_eq_true, if_true, if_false, ite_true, ite_false, false_imp_iff, true_imp_iff, rsn_00, rsn_10, rsn_01, rsn_11, n_09, n_19, n_29, n_99, implies_true, bI_t, bI_f, or_self, ne_eq, eq_self, Classical.not_not, Bool.false_eq_true]
  exact k
theorem c_Program_addClause {l s z : Nat} (hE : am_env S) (h8 : M 9 8 = nI l) (h6 : M 9 6 = nI z) (hl : l < 4) (k : K none S (am_u (am_u (am_u M 13 l (nI s)) 14 l (nI z)) 9 8 (nI (l + 1))) L) : am_Call X d m_Program_addClause [.ref 9, .int (nI s)] S M L K := by
  have e : (4 ≤ nI l) = (4 ≤ l) := nI_le' (a := 4) (by omega) (by omega)
  refine EE_Program_addClause pt38_ok ?_
  simp only [s_aload_0_ref, s_dup_int, s_dup_ref, s_get0, s_get2, s_iadd, s_iast, s_ic_ge, s_iconst, s_iload_1_int, s_put0, s_return, J_Program_addClause_0, b_Program_addClause_0, J_Program_addClause_41, b_Program_addClause_41, s_end, true_and, and_true, or_true, true_or, if_true, if_false, ite_true, ite_false, List.map_nil, List.map_cons, List.sum_nil, List.sum_cons, List.nil_append, List.cons_append, Option.toList_some, Option.toList_none, Nat.reduceAdd, Nat.reduceLeDiff, Nat.reduceSub, Nat.zero_le, List.headD_cons, List.tail_cons, List.length_cons, List.length_nil, ne_eq, reduceCtorEq, false_or, or_false, not_false_eq_true, Nat.reduceEqDiff, Nat.reduceLT, am_sw, bI_0, bI_z, bI_y, Classical.not_not, Nat.le_add_left, am_u_row2, am_r_row2, am_u_same, am_u_at, am_r_same, Int32.reduceLT, Int32.reduceLE, Int32.reduceAdd, Int32.reduceSub, Int32.reduceMul, forall_const, not_true_eq_false, implies_true, false_imp_iff, true_imp_iff, i_10, i_01, i_m10, i_m11, eq_self, or_self, false_and, and_false, and_self, am_so_some, am_pv_some, am_pv_none, l_cl_none, l_cl_int, l_cl_ref, l_cl_ra, l_cl_null, l_cl_long, cat_int, cat_ref, cat_long, cat_ra, cat_null, cl_0, cl_1, cl_2, cl_3, cl_4, cl_5, cl_6, cl_7, cl_8, cl_9, cl_10, cl_11, cl_12, cl_13, cl_14, cl_15, cl_16, cl_30, cl_64, cl_500, vl_0_2, vl_0_3, vl_0_4, vl_0_6, vl_0_7, vl_0_12, vl_0_16, vl_0_1400, vl_1_2, vl_1_3, vl_1_4, vl_1_6, vl_1_7, vl_1_12, vl_1_16, vl_1_1400, vl_2_3, vl_2_4, vl_2_6, vl_2_7, vl_2_12, vl_2_16, vl_2_1400, vl_3_4, vl_3_6, vl_3_7, vl_3_12, vl_3_16, vl_3_1400, vl_4_6, vl_4_7, vl_4_12, vl_4_16, vl_4_1400, vl_5_6, vl_5_7, vl_5_12, vl_5_16, vl_5_1400, vl_6_7, vl_6_12, vl_6_16, vl_6_1400, vl_7_12, vl_7_16, vl_8_12, vl_8_16, vl_9_12, vl_9_16, vl_10_12, vl_10_16, vl_11_12, vl_11_16, i_64le_e, i64a_0, i64b_0, i64a_1, i64b_1, i64a_2, i64b_2, i64a_3, i64b_3, i64a_4, i64b_4, i64a_5, i64b_5, i64a_7, i64b_7, i64a_8, i64b_8, i64a_9, i64b_9, i64a_10, i64b_10, i64a_16, i64b_16, i64a_50, i64b_50, i64a_m50, i64b_m50, i64a_60, i64b_60, i64a_99, i64b_99, i64a_100, i64b_100, i64a_500, i64b_500, i64a_600, i64b_600, i64a_1000, i64b_1000, i64a_1000000, i64b_1000000, i64a_m9, i64b_m9, e_s_9, e_i_9, e_l_9, e_p_9_0, e_p_9_1, e_p_9_2, e_p_9_3, e_p_9_4, e_p_9_5, e_s_13, e_i_13, e_l_13, e_s_14, e_i_14, e_l_14, h8, h6, hE]
  simp (disch := omega) only [e, Nat.not_le.mpr, hl, nI_clamp, nI_le', nI_lt', nI_eq', rem2_1, rem2_0, nI_eq0, nI_le0, nI_0lt, nI_0le, nI_lt0, nI_m1, vp_inE, nm_nI, i_20, nI_1, nI_add, and_true, true_and, and_self, or_true, true_or, or_false, false_or, false_and, and_false, not_true_eq_false, not_false_eq_true, if_true, if_false, ite_true, ite_false, false_imp_iff, true_imp_iff, rsn_00, rsn_10, rsn_01, rsn_11, n_09, n_19, n_29, n_99, implies_true, bI_t, bI_f, or_self, ne_eq, eq_self, Classical.not_not, Bool.false_eq_true]
  exact k
theorem DrC.law {q : gP} {M0 M M' : am_M} {e : List Nat} {k : Nat} (h : DrC q M0) (hm : M 8 = am_u M0 8 q.1.length (nI k) 8) (h11 : M 11 = M0 11) (h12 : M 12 = M0 12) (h13 : M 13 = M0 13) (h14 : M 14 = M0 14) (h8 : M 9 8 = M0 9 8) (he : Em q.2.2.length e M0 M) (hM : M' = am_u (am_u (am_u M 11 q.1.length (nI q.2.2.length)) 12 q.1.length (nI (q.2.2.length + e.length))) 9 7 (nI (q.1.length + 1))) : DrC (q.1 ++ [(k, q.2.2.length, e.length)], q.2.1, q.2.2 ++ e) M' := by
  subst hM
  have ll : (q.1 ++ [(k, q.2.2.length, e.length)]).length = q.1.length + 1 := by rw [List.length_append, List.length_singleton]
  have lA : ∀ l, l < q.1.length → lwA (q.1 ++ [(k, q.2.2.length, e.length)], q.2.1, q.2.2 ++ e) l = lwA q l := fun l hl => by
    show (q.1 ++ [_]).getD l (0, 0, 0) = _
    rw [getD_app, if_pos hl]; rfl
  have lB : lwA (q.1 ++ [(k, q.2.2.length, e.length)], q.2.1, q.2.2 ++ e) q.1.length = (k, q.2.2.length, e.length) := by
    show (q.1 ++ [_]).getD q.1.length (0, 0, 0) = _
    rw [getD_app, if_neg (by omega), if_pos rfl]
  refine ⟨?_, ?_, ?_, ?_, ?_, ?_, ?_, ?_, ?_⟩
  · show _ = nI (q.2.2 ++ e).length
    rw [am_u_ne (by decide), u_row (by decide), u_row (by decide), he.1, List.length_append]
  · show _ = nI (q.1 ++ [(k, q.2.2.length, e.length)]).length
    rw [am_u_same, ll]
  · rw [am_u_ne (by decide), u_row (by decide), u_row (by decide), h8]; exact h.f8
  · intro i hi
    have hi : i < (q.2.2 ++ e).length := hi
    show _ = tkc (nI ((q.2.2 ++ e).getD i 0))
    rw [u_row (by decide), u_row (by decide), u_row (by decide)]
    rw [List.length_append] at hi
    by_cases c : i < q.2.2.length
    · rw [he.2.1 i c, h.co i c, List.getD_eq_getElem?_getD, List.getD_eq_getElem?_getD, List.getElem?_append_left c]
    · have z := he.2.2 (i - q.2.2.length) (by omega)
      rw [show q.2.2.length + (i - q.2.2.length) = i by omega] at z
      rw [z, List.getD_eq_getElem?_getD, List.getD_eq_getElem?_getD, List.getElem?_append_right (by omega)]
  · intro l hl
    have hl : l < (q.1 ++ [(k, q.2.2.length, e.length)]).length := hl
    rw [ll] at hl
    rw [u_row (by decide), u_row (by decide), u_row (by decide), hm]
    by_cases c : l < q.1.length
    · rw [lA l c, am_u_ne (fun z => by omega)]; exact h.nm l c
    · rw [show l = q.1.length by omega, lB, am_u_same]
  · intro l hl
    have hl : l < (q.1 ++ [(k, q.2.2.length, e.length)]).length := hl
    rw [ll] at hl
    rw [u_row (by decide), u_row (by decide)]
    by_cases c : l < q.1.length
    · rw [lA l c, am_u_ne (fun z => by omega), h11]; exact h.l1 l c
    · rw [show l = q.1.length by omega, lB, am_u_same]
  · intro l hl
    have hl : l < (q.1 ++ [(k, q.2.2.length, e.length)]).length := hl
    rw [ll] at hl
    rw [u_row (by decide)]
    by_cases c : l < q.1.length
    · rw [lA l c, am_u_ne (fun z => by omega), u_row (by decide), h12]; exact h.l2 l c
    · rw [show l = q.1.length by omega, lB, am_u_same]
  · intro l hl
    rw [u_row (by decide), u_row (by decide), u_row (by decide), h13]; exact h.c1 l hl
  · intro l hl
    rw [u_row (by decide), u_row (by decide), u_row (by decide), h14]; exact h.c2 l hl
theorem DrC.cls {q : gP} {M0 M M' : am_M} {e : List Nat} (h : DrC q M0) (hm : M 8 = M0 8) (h11 : M 11 = M0 11) (h12 : M 12 = M0 12) (h13 : M 13 = M0 13) (h14 : M 14 = M0 14) (h7 : M 9 7 = M0 9 7) (he : Em q.2.2.length e M0 M) (hM : M' = am_u (am_u (am_u M 13 q.2.1.length (nI q.2.2.length)) 14 q.2.1.length (nI (q.2.2.length + e.length))) 9 8 (nI (q.2.1.length + 1))) : DrC (q.1, q.2.1 ++ [(q.2.2.length, e.length)], q.2.2 ++ e) M' := by
  subst hM
  have ll : (q.2.1 ++ [(q.2.2.length, e.length)]).length = q.2.1.length + 1 := by rw [List.length_append, List.length_singleton]
  have lA : ∀ l, l < q.2.1.length → ctA (q.1, q.2.1 ++ [(q.2.2.length, e.length)], q.2.2 ++ e) l = ctA q l := fun l hl => by
    show (q.2.1 ++ [_]).getD l (0, 0) = _
    rw [getD_app, if_pos hl]; rfl
  have lB : ctA (q.1, q.2.1 ++ [(q.2.2.length, e.length)], q.2.2 ++ e) q.2.1.length = (q.2.2.length, e.length) := by
    show (q.2.1 ++ [_]).getD q.2.1.length (0, 0) = _
    rw [getD_app, if_neg (by omega), if_pos rfl]
  refine ⟨?_, ?_, ?_, ?_, ?_, ?_, ?_, ?_, ?_⟩
  · show _ = nI (q.2.2 ++ e).length
    rw [am_u_ne (by decide), u_row (by decide), u_row (by decide), he.1, List.length_append]
  · rw [am_u_ne (by decide), u_row (by decide), u_row (by decide), h7]; exact h.f7
  · show _ = nI (q.2.1 ++ [(q.2.2.length, e.length)]).length
    rw [am_u_same, ll]
  · intro i hi
    have hi : i < (q.2.2 ++ e).length := hi
    show _ = tkc (nI ((q.2.2 ++ e).getD i 0))
    rw [u_row (by decide), u_row (by decide), u_row (by decide)]
    rw [List.length_append] at hi
    by_cases c : i < q.2.2.length
    · rw [he.2.1 i c, h.co i c, List.getD_eq_getElem?_getD, List.getD_eq_getElem?_getD, List.getElem?_append_left c]
    · have z := he.2.2 (i - q.2.2.length) (by omega)
      rw [show q.2.2.length + (i - q.2.2.length) = i by omega] at z
      rw [z, List.getD_eq_getElem?_getD, List.getD_eq_getElem?_getD, List.getElem?_append_right (by omega)]
  · intro l hl
    rw [u_row (by decide), u_row (by decide), u_row (by decide), hm]; exact h.nm l hl
  · intro l hl
    rw [u_row (by decide), u_row (by decide), u_row (by decide), h11]; exact h.l1 l hl
  · intro l hl
    rw [u_row (by decide), u_row (by decide), u_row (by decide), h12]; exact h.l2 l hl
  · intro l hl
    have hl : l < (q.2.1 ++ [(q.2.2.length, e.length)]).length := hl
    rw [ll] at hl
    rw [u_row (by decide), u_row (by decide)]
    by_cases c : l < q.2.1.length
    · rw [lA l c, am_u_ne (fun z => by omega), h13]; exact h.c1 l c
    · rw [show l = q.2.1.length by omega, lB, am_u_same]
  · intro l hl
    have hl : l < (q.2.1 ++ [(q.2.2.length, e.length)]).length := hl
    rw [ll] at hl
    rw [u_row (by decide)]
    by_cases c : l < q.2.1.length
    · rw [lA l c, am_u_ne (fun z => by omega), u_row (by decide), h14]; exact h.c2 l c
    · rw [show l = q.2.1.length by omega, lB, am_u_same]
end T77
