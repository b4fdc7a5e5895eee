theorem k_20001_20002 : ((20001 : Int32) = 20002) = False := by decide
theorem k_20001_20003 : ((20001 : Int32) = 20003) = False := by decide
theorem k_20001_20004 : ((20001 : Int32) = 20004) = False := by decide
theorem k_20001_20005 : ((20001 : Int32) = 20005) = False := by decide
theorem k_le_20001 : ((20001 : Int32) ≤ 20001) = True := by decide
theorem k_lt_20001 : ((20001 : Int32) < 20001) = False := by decide
theorem k_20002_20001 : ((20002 : Int32) = 20001) = False := by decide
theorem k_20002_20003 : ((20002 : Int32) = 20003) = False := by decide
theorem k_20002_20004 : ((20002 : Int32) = 20004) = False := by decide
theorem k_20002_20005 : ((20002 : Int32) = 20005) = False := by decide
theorem k_le_20002 : ((20001 : Int32) ≤ 20002) = True := by decide
theorem k_lt_20002 : ((20002 : Int32) < 20001) = False := by decide
theorem k_20003_20001 : ((20003 : Int32) = 20001) = False := by decide
theorem k_20003_20002 : ((20003 : Int32) = 20002) = False := by decide
theorem k_20003_20004 : ((20003 : Int32) = 20004) = False := by decide
theorem k_20003_20005 : ((20003 : Int32) = 20005) = False := by decide
theorem k_le_20003 : ((20001 : Int32) ≤ 20003) = True := by decide
theorem k_lt_20003 : ((20003 : Int32) < 20001) = False := by decide
theorem k_20004_20001 : ((20004 : Int32) = 20001) = False := by decide
theorem k_20004_20002 : ((20004 : Int32) = 20002) = False := by decide
theorem k_20004_20003 : ((20004 : Int32) = 20003) = False := by decide
theorem k_20004_20005 : ((20004 : Int32) = 20005) = False := by decide
theorem k_le_20004 : ((20001 : Int32) ≤ 20004) = True := by decide
theorem k_lt_20004 : ((20004 : Int32) < 20001) = False := by decide
theorem k_20005_20001 : ((20005 : Int32) = 20001) = False := by decide
theorem k_20005_20002 : ((20005 : Int32) = 20002) = False := by decide
theorem k_20005_20003 : ((20005 : Int32) = 20003) = False := by decide
theorem k_20005_20004 : ((20005 : Int32) = 20004) = False := by decide
theorem k_le_20005 : ((20001 : Int32) ≤ 20005) = True := by decide
theorem k_lt_20005 : ((20005 : Int32) < 20001) = False := by decide
theorem k_20006_20001 : ((20006 : Int32) = 20001) = False := by decide
theorem k_20006_20002 : ((20006 : Int32) = 20002) = False := by decide
theorem k_20006_20003 : ((20006 : Int32) = 20003) = False := by decide
theorem k_20006_20004 : ((20006 : Int32) = 20004) = False := by decide
theorem k_20006_20005 : ((20006 : Int32) = 20005) = False := by decide
theorem k_le_20006 : ((20001 : Int32) ≤ 20006) = True := by decide
theorem k_lt_20006 : ((20006 : Int32) < 20001) = False := by decide
section T27
variable {X : am_X} {d : Nat} {K : am_K} {S : am_S} {M : am_M} {L : am_L} {V : am_M}
theorem nI_pre1 {h : Nat} (h1 : 1 ≤ h) (h2 : h < 2147483648) : nI h + -1 = nI (h - 1) := by
  rw [← Int32.sub_eq_add_neg]; exact nI_sub (b := 1) h1 h2
theorem nI_pred2 {h : Nat} (h1 : 1 ≤ h) (h2 : h < 2147483648) : nI h - 1 = nI (h - 1) := nI_sub (b := 1) h1 h2
theorem i64_lt_e {a b : Int32} : (a.toInt64 < b.toInt64) = (a < b) := propext i_64lt
theorem i64_eq_e {a b : Int32} : (a.toInt64 = b.toInt64) = (a = b) := propext ⟨fun h => by
  have q := congrArg Int64.toInt h
  rw [Int32.toInt_toInt64, Int32.toInt_toInt64] at q
  exact Int32.toInt_inj.mp q, fun h => by rw [h]⟩
theorem i64_eq0_e {a : Int32} : (a.toInt64 = 0) = (a = 0) := i64_eq_e (b := 0)
theorem lg_eq0_e {x y : Int64} : (lg_cmp x y = 0) = (x = y) := propext lg_eq0
theorem op_0 {x y : Int32} : opE 20001 x y = clp (x.toInt64 + y.toInt64) := by
  unfold opE
  rw [if_pos rfl]
theorem e20_0 : nI (20001 + 0) = 20001 := by decide
theorem op_1 {x y : Int32} : opE 20002 x y = clp (x.toInt64 - y.toInt64) := by
  unfold opE
  rw [if_neg (by decide), if_pos rfl]
theorem e20_1 : nI (20001 + 1) = 20002 := by decide
theorem op_2 {x y : Int32} : opE 20003 x y = clp (x.toInt64 * y.toInt64) := by
  unfold opE
  rw [if_neg (by decide), if_neg (by decide), if_pos rfl]
theorem e20_2 : nI (20001 + 2) = 20003 := by decide
theorem op_3 {x y : Int32} : opE 20004 x y = (if y = 0 then 0 else clp ((x / y).toInt64)) := by
  unfold opE
  rw [if_neg (by decide), if_neg (by decide), if_neg (by decide), if_pos rfl]
theorem e20_3 : nI (20001 + 3) = 20004 := by decide
theorem op_4 {x y : Int32} : opE 20005 x y = (if x < y then 1 else 0) := by
  unfold opE
  rw [if_neg (by decide), if_neg (by decide), if_neg (by decide), if_neg (by decide), if_pos rfl]
theorem e20_4 : nI (20001 + 4) = 20005 := by decide
theorem op_5 {x y : Int32} : opE 20006 x y = (if x = y then 1 else 0) := by
  unfold opE
  rw [if_neg (by decide), if_neg (by decide), if_neg (by decide), if_neg (by decide), if_neg (by decide)]
theorem e20_5 : nI (20001 + 5) = 20006 := by decide
theorem hts_le {g : Nat → Int32} {b n : Nat} (h : WFx g b n) : ∀ i, i ≤ n → hts g b i ≤ 64 := by
  intro i
  induction i with
  | zero => intro _; exact Nat.zero_le _
  | succ i ih =>
    intro hi
    have q := (h.1 i (by omega)).2
    have e := ih (by omega)
    unfold hts
    by_cases c : g (b + i) < 20001
    · rw [if_pos c]; have := q.2 c; omega
    · rw [if_neg c]; omega
theorem c_R_workedT {c : Nat} {nz : Nat → Int32} (hE : am_env S) (hR : RT V M) (hP : IVp V) (hc : isC V c) (hc10 : c < 10) (hn : ∀ k, k < 12 → M 101 k = nz k) (hz : ∀ k, k < 12 → nz k ≠ -2147483648) (k : ∀ M', Fr [100] [] M M' → K (some (.int (wkI V c nz))) S M' L) : am_Call X (d + 2) m_R_worked [.ref 70, .int (nI c)] S M L K := by
  obtain ⟨b1, b2, b3, wf⟩ := hP.ex c hc
  unfold wkI at k
  generalize nm (V 91 c) = b at *
  generalize nm (V 94 c) = n at *
  refine EE_R_worked pt30_ok ?_
  simp only [s_aald, s_aload_0_ref, s_get2, s_goto, s_i2l, s_iadd, s_iald, s_iast, s_ic_ge, s_ic_ne, s_iconst, s_if_ge, s_if_ne, s_iinc_2, s_iinc_3, s_iload_1_int, s_iload_2_int, s_iload_3_int, s_iload_4_int, s_ireturn, s_ist_1, s_istore_2_int, s_istore_3_int, s_istore_4_int, s_isub, s_ladd, s_lcmp, s_lconst, s_ldiv, s_lload_5_long, s_lload_7_long, s_lmul, s_lstore_5, s_lstore_7, s_lsub, s_sipush, J_R_worked_0, b_R_worked_0, J_R_worked_61, b_R_worked_61, J_R_worked_72, b_R_worked_72, J_R_worked_79, b_R_worked_79, J_R_worked_128, b_R_worked_128, J_R_worked_147, b_R_worked_147, J_R_worked_166, b_R_worked_166, J_R_worked_185, b_R_worked_185, J_R_worked_196, b_R_worked_196, J_R_worked_216, b_R_worked_216, J_R_worked_220, b_R_worked_220, J_R_worked_232, b_R_worked_232, J_R_worked_233, b_R_worked_233, J_R_worked_234, b_R_worked_234, J_R_worked_240, b_R_worked_240, J_R_worked_4, b_R_worked_4, s_end, true_and, and_true, or_true, true_or, if_true, if_false, ite_true, ite_false, List.map_nil, List.map_cons, List.sum_nil, List.sum_cons, List.nil_append, List.cons_append, Option.toList_some, Option.toList_none, Nat.reduceAdd, Nat.reduceLeDiff, Nat.reduceSub, Nat.zero_le, List.headD_cons, List.tail_cons, List.length_cons, List.length_nil, ne_eq, reduceCtorEq, false_or, or_false, not_false_eq_true, Nat.reduceEqDiff, Nat.reduceLT, am_sw, bI_0, bI_z, bI_y, Classical.not_not, Nat.le_add_left, am_u_row2, am_r_row2, am_u_same, am_u_at, am_r_same, Int32.reduceLT, Int32.reduceLE, Int32.reduceAdd, Int32.reduceSub, Int32.reduceMul, forall_const, not_true_eq_false, implies_true, false_imp_iff, true_imp_iff, i_10, i_01, i_m10, i_m11, eq_self, or_self, false_and, and_false, and_self, am_so_some, am_pv_some, am_pv_none, l_cl_none, l_cl_int, l_cl_ref, l_cl_ra, l_cl_null, l_cl_long, cat_int, cat_ref, cat_long, cat_ra, cat_null, cl_0, cl_1, cl_2, cl_3, cl_4, cl_5, cl_6, cl_7, cl_8, cl_9, cl_10, cl_11, cl_12, cl_13, cl_14, cl_15, cl_16, cl_30, cl_64, cl_500, vl_0_2, vl_0_3, vl_0_4, vl_0_6, vl_0_7, vl_0_12, vl_0_16, vl_0_1400, vl_1_2, vl_1_3, vl_1_4, vl_1_6, vl_1_7, vl_1_12, vl_1_16, vl_1_1400, vl_2_3, vl_2_4, vl_2_6, vl_2_7, vl_2_12, vl_2_16, vl_2_1400, vl_3_4, vl_3_6, vl_3_7, vl_3_12, vl_3_16, vl_3_1400, vl_4_6, vl_4_7, vl_4_12, vl_4_16, vl_4_1400, vl_5_6, vl_5_7, vl_5_12, vl_5_16, vl_5_1400, vl_6_7, vl_6_12, vl_6_16, vl_6_1400, vl_7_12, vl_7_16, vl_8_12, vl_8_16, vl_9_12, vl_9_16, vl_10_12, vl_10_16, vl_11_12, vl_11_16, i_64le_e, i64a_0, i64b_0, i64a_1, i64b_1, i64a_2, i64b_2, i64a_3, i64b_3, i64a_4, i64b_4, i64a_5, i64b_5, i64a_7, i64b_7, i64a_8, i64b_8, i64a_9, i64b_9, i64a_10, i64b_10, i64a_16, i64b_16, i64a_50, i64b_50, i64a_m50, i64b_m50, i64a_60, i64b_60, i64a_99, i64b_99, i64a_100, i64b_100, i64a_500, i64b_500, i64a_600, i64b_600, i64a_1000, i64b_1000, i64a_1000000, i64b_1000000, i64a_m9, i64b_m9, e_s_70, e_i_70, e_l_70, e_p_70_0, e_p_70_1, e_p_70_2, e_p_70_3, e_p_70_4, e_p_70_5, e_p_70_6, e_p_70_7, e_p_70_10, e_p_70_11, e_p_70_12, e_p_70_13, e_p_70_14, e_p_70_15, e_p_70_16, e_p_70_24, e_p_70_29, e_p_70_30, e_p_70_31, e_p_70_32, e_p_70_33, e_p_70_34, e_p_70_35, e_p_70_36, e_p_70_37, e_p_70_38, e_p_70_39, e_p_70_41, e_p_70_42, e_p_70_44, e_p_70_45, e_p_70_46, e_p_70_53, e_p_70_54, e_p_70_55, e_p_70_56, e_p_70_59, e_p_70_61, e_p_70_62, e_s_87, e_i_87, e_l_87, e_p_87_0, e_p_87_1, e_s_88, e_i_88, e_l_88, e_s_89, e_i_89, e_l_89, e_s_90, e_i_90, e_l_90, e_p_90_0, e_p_90_1, e_s_91, e_i_91, e_l_91, e_s_92, e_i_92, e_l_92, e_s_93, e_i_93, e_l_93, e_p_93_0, e_p_93_1, e_s_94, e_i_94, e_l_94, e_s_95, e_i_95, e_l_95, e_s_100, e_i_100, e_l_100, e_s_101, e_i_101, e_l_101, pt30_R_brought, hE]
  have loop : ∀ i, i ≤ n → ∀ M' v4 v5 v6 v7 v8, Fr [100] [] M M' → Stk (M' 100) (evS (V 88) nz b i) → am_WP X (d + 2) 208 4 [some (.ref 70), some (.int (nI c)), some (.int (nI (hts (V 88) b i))), some (.int (nI i)), v4, v5, v6, v7, v8] [] S (M') (L) 0 0 K := by
    refine am_ind ?_
    intro i hi ih M' v4 v5 v6 v7 v8 f hs
    have hR' := hR.fr (f.mono (by decide) (by decide))
    have hn' : ∀ k, k < 12 → M' 101 k = nz k := fun k hk => by rw [f.row 101 (by decide) (by decide)]; exact hn k hk
    have hl := evS_len (nz := nz) wf i hi
    refine H_R_worked_4 pt30_ok ?_
    simp only [s_aald, s_aload_0_ref, s_get2, s_goto, s_i2l, s_iadd, s_iald, s_iast, s_ic_ge, s_ic_ne, s_iconst, s_if_ge, s_if_ne, s_iinc_2, s_iinc_3, s_iload_1_int, s_iload_2_int, s_iload_3_int, s_iload_4_int, s_ireturn, s_ist_1, s_istore_2_int, s_istore_3_int, s_istore_4_int, s_isub, s_ladd, s_lcmp, s_lconst, s_ldiv, s_lload_5_long, s_lload_7_long, s_lmul, s_lstore_5, s_lstore_7, s_lsub, s_sipush, J_R_worked_0, b_R_worked_0, J_R_worked_61, b_R_worked_61, J_R_worked_72, b_R_worked_72, J_R_worked_79, b_R_worked_79, J_R_worked_128, b_R_worked_128, J_R_worked_147, b_R_worked_147, J_R_worked_166, b_R_worked_166, J_R_worked_185, b_R_worked_185, J_R_worked_196, b_R_worked_196, J_R_worked_216, b_R_worked_216, J_R_worked_220, b_R_worked_220, J_R_worked_232, b_R_worked_232, J_R_worked_233, b_R_worked_233, J_R_worked_234, b_R_worked_234, J_R_worked_240, b_R_worked_240, J_R_worked_4, b_R_worked_4, s_end, true_and, and_true, or_true, true_or, if_true, if_false, ite_true, ite_false, List.map_nil, List.map_cons, List.sum_nil, List.sum_cons, List.nil_append, List.cons_append, Option.toList_some, Option.toList_none, Nat.reduceAdd, Nat.reduceLeDiff, Nat.reduceSub, Nat.zero_le, List.headD_cons, List.tail_cons, List.length_cons, List.length_nil, ne_eq, reduceCtorEq, false_or, or_false, not_false_eq_true, Nat.reduceEqDiff, Nat.reduceLT, am_sw, bI_0, bI_z, bI_y, Classical.not_not, Nat.le_add_left, am_u_row2, am_r_row2, am_u_same, am_u_at, am_r_same, Int32.reduceLT, Int32.reduceLE, Int32.reduceAdd, Int32.reduceSub, Int32.reduceMul, forall_const, not_true_eq_false, implies_true, false_imp_iff, true_imp_iff, i_10, i_01, i_m10, i_m11, eq_self, or_self, false_and, and_false, and_self, am_so_some, am_pv_some, am_pv_none, l_cl_none, l_cl_int, l_cl_ref, l_cl_ra, l_cl_null, l_cl_long, cat_int, cat_ref, cat_long, cat_ra, cat_null, cl_0, cl_1, cl_2, cl_3, cl_4, cl_5, cl_6, cl_7, cl_8, cl_9, cl_10, cl_11, cl_12, cl_13, cl_14, cl_15, cl_16, cl_30, cl_64, cl_500, vl_0_2, vl_0_3, vl_0_4, vl_0_6, vl_0_7, vl_0_12, vl_0_16, vl_0_1400, vl_1_2, vl_1_3, vl_1_4, vl_1_6, vl_1_7, vl_1_12, vl_1_16, vl_1_1400, vl_2_3, vl_2_4, vl_2_6, vl_2_7, vl_2_12, vl_2_16, vl_2_1400, vl_3_4, vl_3_6, vl_3_7, vl_3_12, vl_3_16, vl_3_1400, vl_4_6, vl_4_7, vl_4_12, vl_4_16, vl_4_1400, vl_5_6, vl_5_7, vl_5_12, vl_5_16, vl_5_1400, vl_6_7, vl_6_12, vl_6_16, vl_6_1400, vl_7_12, vl_7_16, vl_8_12, vl_8_16, vl_9_12, vl_9_16, vl_10_12, vl_10_16, vl_11_12, vl_11_16, i_64le_e, i64a_0, i64b_0, i64a_1, i64b_1, i64a_2, i64b_2, i64a_3, i64b_3, i64a_4, i64b_4, i64a_5, i64b_5, i64a_7, i64b_7, i64a_8, i64b_8, i64a_9, i64b_9, i64a_10, i64b_10, i64a_16, i64b_16, i64a_50, i64b_50, i64a_m50, i64b_m50, i64a_60, i64b_60, i64a_99, i64b_99, i64a_100, i64b_100, i64a_500, i64b_500, i64a_600, i64b_600, i64a_1000, i64b_1000, i64a_1000000, i64b_1000000, i64a_m9, i64b_m9, e_s_70, e_i_70, e_l_70, e_p_70_0, e_p_70_1, e_p_70_2, e_p_70_3, e_p_70_4, e_p_70_5, e_p_70_6, e_p_70_7, e_p_70_10, e_p_70_11, e_p_70_12, e_p_70_13, e_p_70_14, e_p_70_15, e_p_70_16, e_p_70_24, e_p_70_29, e_p_70_30, e_p_70_31, e_p_70_32, e_p_70_33, e_p_70_34, e_p_70_35, e_p_70_36, e_p_70_37, e_p_70_38, e_p_70_39, e_p_70_41, e_p_70_42, e_p_70_44, e_p_70_45, e_p_70_46, e_p_70_53, e_p_70_54, e_p_70_55, e_p_70_56, e_p_70_59, e_p_70_61, e_p_70_62, e_s_87, e_i_87, e_l_87, e_p_87_0, e_p_87_1, e_s_88, e_i_88, e_l_88, e_s_89, e_i_89, e_l_89, e_s_90, e_i_90, e_l_90, e_p_90_0, e_p_90_1, e_s_91, e_i_91, e_l_91, e_s_92, e_i_92, e_l_92, e_s_93, e_i_93, e_l_93, e_p_93_0, e_p_93_1, e_s_94, e_i_94, e_l_94, e_s_95, e_i_95, e_l_95, e_s_100, e_i_100, e_l_100, e_s_101, e_i_101, e_l_101, pt30_R_brought, hR'.r88, hR'.r91, hR'.r94, hE]
    by_cases c0 : i < n
    · have e2 : nI b + nI i = nI (b + i) := nI_add b i
      simp (disch := omega) only [b1, b2, e2, Nat.not_le.mpr, c0, nI_clamp, nI_le', nI_lt', nI_eq', rem2_1, rem2_0, nI_eq0, nI_le0, nI_0lt, nI_0le, nI_lt0, nI_m1, vp_inE, nm_nI, i_20, nI_1, nI_add, and_true, true_and, and_self, or_true, true_or, or_false, false_or, false_and, and_false, not_true_eq_false, not_false_eq_true, if_true, if_false, ite_true, ite_false, false_imp_iff, true_imp_iff, rsn_00, rsn_10, rsn_01, rsn_11, n_09, n_19, n_29, n_99, implies_true, bI_t, bI_f, or_self, ne_eq, eq_self, Classical.not_not, Bool.false_eq_true]
      obtain ⟨wm, w2, w64⟩ := wf.1 i c0
      have h65 := hts_le wf i hi
      have ne := evS_ne hz wf i (by omega)
      have ih := ih c0
      have eS : evS (V 88) nz b (i + 1) = stE nz (V 88 (b + i)) (evS (V 88) nz b i) := rfl
      have eH : hts (V 88) b (i + 1) = if V 88 (b + i) < 20001 then hts (V 88) b i + 1 else hts (V 88) b i - 1 := rfl
      rw [eS, eH] at ih
      generalize V 88 (b + i) = m at *
      generalize hts (V 88) b i = h at *
      generalize evS (V 88) nz b i = st at *
      have push : ∀ z v5 v6 v7 v8, m < 20001 → z = (if m < 10000 then m else nz (nm (m - 10000))) → am_WP X (d + 2) 208 4 [some (.ref 70), some (.int (nI c)), some (.int (nI (h + 1))), some (.int (nI (i + 1))), some (.int (m)), v5, v6, v7, v8] [] S (am_u M' 100 h z) (L) 0 0 K := by
        intro z v5 v6 v7 v8 h1 h2
        rw [if_pos h1] at ih
        refine ih _ _ _ _ _ _ (f.u (by decide)) ?_
        unfold stE
        rw [if_pos h1]
        refine ⟨?_, hs.u (by omega)⟩
        rw [hl, am_u_same]; exact h2
      rcases wm with ⟨v, hv, em⟩ | ⟨v, hv, em⟩ | ⟨v, hv, em⟩
      · have l1 : m < 20001 := by rw [em]; exact nI_lt (b := 20001) (by omega) (by omega)
        have l2 : ¬ 20001 ≤ m := Int32.not_le.mpr l1
        have l3 : ¬ 10000 ≤ m := by rw [em]; exact Int32.not_le.mpr (nI_lt (b := 10000) (by omega) (by omega))
        have h64 := w64 l1
        simp (disch := omega) only [l2, l3, nI_clamp, nI_le', nI_lt', nI_eq', rem2_1, rem2_0, nI_eq0, nI_le0, nI_0lt, nI_0le, nI_lt0, nI_m1, vp_inE, nm_nI, i_20, nI_1, nI_add, and_true, true_and, and_self, or_true, true_or, or_false, false_or, false_and, and_false, not_true_eq_false, not_false_eq_true, if_true, if_false, ite_true, ite_false, false_imp_iff, true_imp_iff, rsn_00, rsn_10, rsn_01, rsn_11, n_09, n_19, n_29, n_99, implies_true, bI_t, bI_f, or_self, ne_eq, eq_self, Classical.not_not, Bool.false_eq_true]
        exact push _ _ _ _ _ l1 (by rw [if_pos (Int32.not_le.mp l3)])
      · have l1 : m < 20001 := by rw [em]; exact nI_lt (b := 20001) (by omega) (by omega)
        have l2 : ¬ 20001 ≤ m := Int32.not_le.mpr l1
        have l3 : 10000 ≤ m := by rw [em]; exact (nI_leI (a := 10000) (by omega) (by omega)).mpr (by omega)
        have l4 : m - 10000 = nI v := by rw [em, show (10000 : Int32) = nI 10000 from rfl, nI_sub (by omega) (by omega), Nat.add_sub_cancel_left]
        have h64 := w64 l1
        simp (disch := omega) only [l2, l3, l4, hn', hv, nI_clamp, nI_le', nI_lt', nI_eq', rem2_1, rem2_0, nI_eq0, nI_le0, nI_0lt, nI_0le, nI_lt0, nI_m1, vp_inE, nm_nI, i_20, nI_1, nI_add, and_true, true_and, and_self, or_true, true_or, or_false, false_or, false_and, and_false, not_true_eq_false, not_false_eq_true, if_true, if_false, ite_true, ite_false, false_imp_iff, true_imp_iff, rsn_00, rsn_10, rsn_01, rsn_11, n_09, n_19, n_29, n_99, implies_true, bI_t, bI_f, or_self, ne_eq, eq_self, Classical.not_not, Bool.false_eq_true]
        exact push _ _ _ _ _ l1 (by rw [if_neg (Int32.not_lt.mpr l3), l4, nm_nI (by omega)])
      · have l1 : ¬ m < 20001 := by rw [em]; exact Int32.not_lt.mpr ((nI_leI (a := 20001) (by omega) (by omega)).mpr (by omega))
        have h2 := w2 l1
        rw [if_neg l1] at ih
        clear push eS eH
        match st, hl, hs, ne, ih with
        | [], hl, _, _, _ => exact absurd hl (by simp only [List.length_nil]; omega)
        | [_], hl, _, _, _ => exact absurd hl (by simp only [List.length_cons, List.length_nil]; omega)
        | y :: x :: r, hl, hs, ne, ih =>
          simp only [List.length_cons] at hl
          subst hl
          have hy : M' 100 (r.length + 1) = y := hs.1
          have hx : M' 100 r.length = x := hs.2.1
          have e3 : nI (r.length + 1 + 1) + -1 = nI (r.length + 1) := nI_pre1 (by omega) (by omega)
          have e4 : nI (r.length + 1) - 1 = nI r.length := nI_pred2 (by omega) (by omega)
          have op : ∀ z v5 v6 v7 v8, z = opE m x y → am_WP X (d + 2) 208 4 [some (.ref 70), some (.int (nI c)), some (.int (nI (r.length + 1))), some (.int (nI (i + 1))), some (.int (m)), v5, v6, v7, v8] [] S (am_u M' 100 r.length z) (L) 0 0 K := by
            intro z v5 v6 v7 v8 ez
            have q := ih (am_u M' 100 r.length z) (some (.int m)) v5 v6 v7 v8 (f.u (by decide)) (by
              unfold stE
              rw [if_neg l1]
              exact ⟨by rw [am_u_same]; exact ez, hs.2.2.u (Nat.le_refl _)⟩)
            exact q
          simp (disch := omega) only [e3, e4, hy, hx, lg_eq0_e, lg_ge0, i64_lt_e, i64_eq_e, i64_eq0_e, nI_clamp, nI_le', nI_lt', nI_eq', rem2_1, rem2_0, nI_eq0, nI_le0, nI_0lt, nI_0le, nI_lt0, nI_m1, vp_inE, nm_nI, i_20, nI_1, nI_add, and_true, true_and, and_self, or_true, true_or, or_false, false_or, false_and, and_false, not_true_eq_false, not_false_eq_true, if_true, if_false, ite_true, ite_false, false_imp_iff, true_imp_iff, rsn_00, rsn_10, rsn_01, rsn_11, n_09, n_19, n_29, n_99, implies_true, bI_t, bI_f, or_self, ne_eq, eq_self, Classical.not_not, Bool.false_eq_true]
          have q : v = 0 ∨ v = 1 ∨ v = 2 ∨ v = 3 ∨ v = 4 ∨ v = 5 := by omega
          rcases q with rfl | rfl | rfl | rfl | rfl | rfl
          · have em : m = 20001 := em.trans e20_0
            subst em
            simp only [k_20001_20002, k_20001_20003, k_20001_20004, k_20001_20005, k_le_20001, k_lt_20001, k_20002_20001, k_20002_20003, k_20002_20004, k_20002_20005, k_le_20002, k_lt_20002, k_20003_20001, k_20003_20002, k_20003_20004, k_20003_20005, k_le_20003, k_lt_20003, k_20004_20001, k_20004_20002, k_20004_20003, k_20004_20005, k_le_20004, k_lt_20004, k_20005_20001, k_20005_20002, k_20005_20003, k_20005_20004, k_le_20005, k_lt_20005, k_20006_20001, k_20006_20002, k_20006_20003, k_20006_20004, k_20006_20005, k_le_20006, k_lt_20006, and_true, true_and, and_self, or_true, true_or, or_false, false_or, false_and, and_false, not_true_eq_false, not_false_eq_true, if_true, if_false, ite_true, ite_false, false_imp_iff, true_imp_iff, rsn_00, rsn_10, rsn_01, rsn_11, n_09, n_19, n_29, n_99, implies_true, bI_t, bI_f, or_self, ne_eq, eq_self, Classical.not_not, Bool.false_eq_true]
            exact op _ _ _ _ _ op_0.symm
          · have em : m = 20002 := em.trans e20_1
            subst em
            simp only [k_20001_20002, k_20001_20003, k_20001_20004, k_20001_20005, k_le_20001, k_lt_20001, k_20002_20001, k_20002_20003, k_20002_20004, k_20002_20005, k_le_20002, k_lt_20002, k_20003_20001, k_20003_20002, k_20003_20004, k_20003_20005, k_le_20003, k_lt_20003, k_20004_20001, k_20004_20002, k_20004_20003, k_20004_20005, k_le_20004, k_lt_20004, k_20005_20001, k_20005_20002, k_20005_20003, k_20005_20004, k_le_20005, k_lt_20005, k_20006_20001, k_20006_20002, k_20006_20003, k_20006_20004, k_20006_20005, k_le_20006, k_lt_20006, and_true, true_and, and_self, or_true, true_or, or_false, false_or, false_and, and_false, not_true_eq_false, not_false_eq_true, if_true, if_false, ite_true, ite_false, false_imp_iff, true_imp_iff, rsn_00, rsn_10, rsn_01, rsn_11, n_09, n_19, n_29, n_99, implies_true, bI_t, bI_f, or_self, ne_eq, eq_self, Classical.not_not, Bool.false_eq_true]
            exact op _ _ _ _ _ op_1.symm
          · have em : m = 20003 := em.trans e20_2
            subst em
            simp only [k_20001_20002, k_20001_20003, k_20001_20004, k_20001_20005, k_le_20001, k_lt_20001, k_20002_20001, k_20002_20003, k_20002_20004, k_20002_20005, k_le_20002, k_lt_20002, k_20003_20001, k_20003_20002, k_20003_20004, k_20003_20005, k_le_20003, k_lt_20003, k_20004_20001, k_20004_20002, k_20004_20003, k_20004_20005, k_le_20004, k_lt_20004, k_20005_20001, k_20005_20002, k_20005_20003, k_20005_20004, k_le_20005, k_lt_20005, k_20006_20001, k_20006_20002, k_20006_20003, k_20006_20004, k_20006_20005, k_le_20006, k_lt_20006, and_true, true_and, and_self, or_true, true_or, or_false, false_or, false_and, and_false, not_true_eq_false, not_false_eq_true, if_true, if_false, ite_true, ite_false, false_imp_iff, true_imp_iff, rsn_00, rsn_10, rsn_01, rsn_11, n_09, n_19, n_29, n_99, implies_true, bI_t, bI_f, or_self, ne_eq, eq_self, Classical.not_not, Bool.false_eq_true]
            exact op _ _ _ _ _ op_2.symm
          · have em : m = 20004 := em.trans e20_3
            subst em
            simp only [k_20001_20002, k_20001_20003, k_20001_20004, k_20001_20005, k_le_20001, k_lt_20001, k_20002_20001, k_20002_20003, k_20002_20004, k_20002_20005, k_le_20002, k_lt_20002, k_20003_20001, k_20003_20002, k_20003_20004, k_20003_20005, k_le_20003, k_lt_20003, k_20004_20001, k_20004_20002, k_20004_20003, k_20004_20005, k_le_20004, k_lt_20004, k_20005_20001, k_20005_20002, k_20005_20003, k_20005_20004, k_le_20005, k_lt_20005, k_20006_20001, k_20006_20002, k_20006_20003, k_20006_20004, k_20006_20005, k_le_20006, k_lt_20006, and_true, true_and, and_self, or_true, true_or, or_false, false_or, false_and, and_false, not_true_eq_false, not_false_eq_true, if_true, if_false, ite_true, ite_false, false_imp_iff, true_imp_iff, rsn_00, rsn_10, rsn_01, rsn_11, n_09, n_19, n_29, n_99, implies_true, bI_t, bI_f, or_self, ne_eq, eq_self, Classical.not_not, Bool.false_eq_true]
            refine ⟨fun h => ⟨h, op _ _ _ _ _ ?_⟩, fun h => op _ _ _ _ _ ?_⟩
            · rw [op_3, if_neg h, i_divL (ne x (by simp)) h]
            · rw [op_3, if_pos h]
          · have em : m = 20005 := em.trans e20_4
            subst em
            simp only [k_20001_20002, k_20001_20003, k_20001_20004, k_20001_20005, k_le_20001, k_lt_20001, k_20002_20001, k_20002_20003, k_20002_20004, k_20002_20005, k_le_20002, k_lt_20002, k_20003_20001, k_20003_20002, k_20003_20004, k_20003_20005, k_le_20003, k_lt_20003, k_20004_20001, k_20004_20002, k_20004_20003, k_20004_20005, k_le_20004, k_lt_20004, k_20005_20001, k_20005_20002, k_20005_20003, k_20005_20004, k_le_20005, k_lt_20005, k_20006_20001, k_20006_20002, k_20006_20003, k_20006_20004, k_20006_20005, k_le_20006, k_lt_20006, and_true, true_and, and_self, or_true, true_or, or_false, false_or, false_and, and_false, not_true_eq_false, not_false_eq_true, if_true, if_false, ite_true, ite_false, false_imp_iff, true_imp_iff, rsn_00, rsn_10, rsn_01, rsn_11, n_09, n_19, n_29, n_99, implies_true, bI_t, bI_f, or_self, ne_eq, eq_self, Classical.not_not, Bool.false_eq_true]
            refine ⟨fun h => ?_, fun h => ?_⟩
            · exact op _ _ _ _ _ (by rw [op_4, if_neg h])
            · exact op _ _ _ _ _ (by rw [op_4, if_pos h])
          · have em : m = 20006 := em.trans e20_5
            subst em
            simp only [k_20001_20002, k_20001_20003, k_20001_20004, k_20001_20005, k_le_20001, k_lt_20001, k_20002_20001, k_20002_20003, k_20002_20004, k_20002_20005, k_le_20002, k_lt_20002, k_20003_20001, k_20003_20002, k_20003_20004, k_20003_20005, k_le_20003, k_lt_20003, k_20004_20001, k_20004_20002, k_20004_20003, k_20004_20005, k_le_20004, k_lt_20004, k_20005_20001, k_20005_20002, k_20005_20003, k_20005_20004, k_le_20005, k_lt_20005, k_20006_20001, k_20006_20002, k_20006_20003, k_20006_20004, k_20006_20005, k_le_20006, k_lt_20006, and_true, true_and, and_self, or_true, true_or, or_false, false_or, false_and, and_false, not_true_eq_false, not_false_eq_true, if_true, if_false, ite_true, ite_false, false_imp_iff, true_imp_iff, rsn_00, rsn_10, rsn_01, rsn_11, n_09, n_19, n_29, n_99, implies_true, bI_t, bI_f, or_self, ne_eq, eq_self, Classical.not_not, Bool.false_eq_true]
            refine ⟨fun h => ?_, fun h => ?_⟩
            · exact op _ _ _ _ _ (by rw [op_5, if_neg h])
            · exact op _ _ _ _ _ (by rw [op_5, if_pos h])
    · have e : i = n := by omega
      subst e
      simp (disch := omega) only [b1, b2, Nat.le_refl, nI_clamp, nI_le', nI_lt', nI_eq', rem2_1, rem2_0, nI_eq0, nI_le0, nI_0lt, nI_0le, nI_lt0, nI_m1, vp_inE, nm_nI, i_20, nI_1, nI_add, and_true, true_and, and_self, or_true, true_or, or_false, false_or, false_and, and_false, not_true_eq_false, not_false_eq_true, if_true, if_false, ite_true, ite_false, false_imp_iff, true_imp_iff, rsn_00, rsn_10, rsn_01, rsn_11, n_09, n_19, n_29, n_99, implies_true, bI_t, bI_f, or_self, ne_eq, eq_self, Classical.not_not, Bool.false_eq_true]
      have h1 : vp_in 0 520 := vp_in_nI (n := 0) (by decide) (by decide)
      refine ⟨h1, ?_⟩
      rw [wf.2] at hl
      match evS (V 88) nz b i, hl, hs, k with
      | [x], _, hs, k =>
        have := hs.1
        rw [show M' 100 0 = x from hs.1]
        exact k M' f
  exact loop 0 (by omega) M _ _ _ _ _ Fr.refl True.intro
theorem c_R_worked {c : Nat} {nz : Nat → Int32} (hE : am_env S) (hR : RS V M) (hP : IVp V) (hc : isC V c) (hc10 : c < 10) (hn : ∀ k, k < 12 → M 101 k = nz k) (hz : ∀ k, k < 12 → nz k ≠ -2147483648) (k : ∀ M', Fr [100] [] M M' → K (some (.int (wkI V c nz))) S M' L) : am_Call X (d + 2) m_R_worked [.ref 70, .int (nI c)] S M L K := c_R_workedT hE hR.t hP hc hc10 hn hz k
theorem tkc_lt {m : Int32} (h : m < 20001) : tkc m = m := by
  have n : ∀ c : Int32, 20001 ≤ c → ¬ m = c := fun c hc e => by subst e; exact absurd h (Int32.not_lt.mpr hc)
  unfold tkc
  rw [if_neg (n _ (by decide)), if_neg (n _ (by decide)), if_neg (n _ (by decide)), if_neg (n _ (by decide)), if_neg (n _ (by decide)), if_neg (n _ (by decide))]
/-- the tokens of a law or clause at a place -/
theorem c_Program_work {c q : Nat} {nz : Nat → Int32} (hE : am_env S) (q1 : S.2.1 q = (1, 12)) (q2 : am_ia S q 1 = True) (q3 : (q < S.1) = True) (hq : (q = 22) = False) (hC : PgR V M) (hP : IVp V) (hc : isC V c) (hn : ∀ k, k < 12 → M q k = nz k) (k : ∀ M', Fr [22] [] M M' → K (some (.int (wkI V c nz))) S M' L) : am_Call X (d + 1) m_Program_work [.ref 16, .int (V 91 c), .int (V 91 c + V 94 c), .ref q] S M L K := by
  obtain ⟨b1, b2, b3, wf⟩ := hP.ex c hc
  have ht := hC.tk c
  unfold wkI at k
  generalize nm (V 91 c) = b at *
  generalize nm (V 94 c) = n at *
  rw [b1, b2, nI_add]
  refine EE_Program_work pt30_ok ?_
  simp only [s_aload_0_ref, s_aload_3_ref, s_bipush, s_get2, s_goto, s_iald, s_iast, s_ic_ge, s_ic_lt, s_iconst, s_if_le, s_iinc_4, s_iinc_5, s_iload_1_int, s_iload_2_int, s_iload_4_int, s_iload_5_int, s_iload_6_int, s_ireturn, s_ist_3, s_istore_4_int, s_istore_5_int, s_istore_6_int, s_isub, s_sipush, J_Program_work_0, b_Program_work_0, J_Program_work_75, b_Program_work_75, J_Program_work_101, b_Program_work_101, J_Program_work_109, b_Program_work_109, J_Program_work_113, b_Program_work_113, J_Program_work_119, b_Program_work_119, J_Program_work_136, b_Program_work_136, J_Program_work_137, b_Program_work_137, J_Program_work_6, b_Program_work_6, s_end, true_and, and_true, or_true, true_or, if_true, if_false, ite_true, ite_false, List.map_nil, List.map_cons, List.sum_nil, List.sum_cons, List.nil_append, List.cons_append, Option.toList_some, Option.toList_none, Nat.reduceAdd, Nat.reduceLeDiff, Nat.reduceSub, Nat.zero_le, List.headD_cons, List.tail_cons, List.length_cons, List.length_nil, ne_eq, reduceCtorEq, false_or, or_false, not_false_eq_true, Nat.reduceEqDiff, Nat.reduceLT, am_sw, bI_0, bI_z, bI_y, Classical.not_not, Nat.le_add_left, am_u_row2, am_r_row2, am_u_same, am_u_at, am_r_same, Int32.reduceLT, Int32.reduceLE, Int32.reduceAdd, Int32.reduceSub, Int32.reduceMul, forall_const, not_true_eq_false, implies_true, false_imp_iff, true_imp_iff, i_10, i_01, i_m10, i_m11, eq_self, or_self, false_and, and_false, and_self, am_so_some, am_pv_some, am_pv_none, l_cl_none, l_cl_int, l_cl_ref, l_cl_ra, l_cl_null, l_cl_long, cat_int, cat_ref, cat_long, cat_ra, cat_null, cl_0, cl_1, cl_2, cl_3, cl_4, cl_5, cl_6, cl_7, cl_8, cl_9, cl_10, cl_11, cl_12, cl_13, cl_14, cl_15, cl_16, cl_30, cl_64, cl_500, vl_0_2, vl_0_3, vl_0_4, vl_0_6, vl_0_7, vl_0_12, vl_0_16, vl_0_1400, vl_1_2, vl_1_3, vl_1_4, vl_1_6, vl_1_7, vl_1_12, vl_1_16, vl_1_1400, vl_2_3, vl_2_4, vl_2_6, vl_2_7, vl_2_12, vl_2_16, vl_2_1400, vl_3_4, vl_3_6, vl_3_7, vl_3_12, vl_3_16, vl_3_1400, vl_4_6, vl_4_7, vl_4_12, vl_4_16, vl_4_1400, vl_5_6, vl_5_7, vl_5_12, vl_5_16, vl_5_1400, vl_6_7, vl_6_12, vl_6_16, vl_6_1400, vl_7_12, vl_7_16, vl_8_12, vl_8_16, vl_9_12, vl_9_16, vl_10_12, vl_10_16, vl_11_12, vl_11_16, i_64le_e, i64a_0, i64b_0, i64a_1, i64b_1, i64a_2, i64b_2, i64a_3, i64b_3, i64a_4, i64b_4, i64a_5, i64b_5, i64a_7, i64b_7, i64a_8, i64b_8, i64a_9, i64b_9, i64a_10, i64b_10, i64a_16, i64b_16, i64a_50, i64b_50, i64a_m50, i64b_m50, i64a_60, i64b_60, i64a_99, i64b_99, i64a_100, i64b_100, i64a_500, i64b_500, i64a_600, i64b_600, i64a_1000, i64b_1000, i64a_1000000, i64b_1000000, i64a_m9, i64b_m9, e_s_9, e_i_9, e_l_9, e_p_9_0, e_p_9_1, e_p_9_2, e_p_9_3, e_p_9_4, e_p_9_5, e_s_10, e_i_10, e_l_10, e_s_11, e_i_11, e_l_11, e_s_12, e_i_12, e_l_12, e_s_13, e_i_13, e_l_13, e_s_14, e_i_14, e_l_14, e_s_15, e_i_15, e_l_15, e_s_16, e_i_16, e_l_16, e_p_16_0, e_p_16_1, e_p_16_2, e_p_16_3, e_p_16_4, e_p_16_5, e_s_17, e_i_17, e_l_17, e_s_18, e_i_18, e_l_18, e_s_19, e_i_19, e_l_19, e_s_20, e_i_20, e_l_20, e_s_21, e_i_21, e_l_21, e_s_22, e_i_22, e_l_22, pt30_Program_joinBy, hE]
  have loop : ∀ i, i ≤ n → ∀ M' v6, Fr [22] [] M M' → Stk (M' 22) (evS (V 88) nz b i) → am_WP X (d + 1) 71 6 [some (.ref 16), some (.int (nI b)), some (.int (nI (b + n))), some (.ref (q)), some (.int (nI (hts (V 88) b i))), some (.int (nI (b + i))), v6] [] S (M') (L) 0 0 K := by
    refine am_ind ?_
    intro i hi ih M' v6 f hs
    have hn' : ∀ k, k < 12 → M' q k = nz k := fun k hk => by rw [f.row q (by rw [List.mem_singleton, hq]; exact id) (by simp)]; exact hn k hk
    have hl := evS_len (nz := nz) wf i hi
    have h65 := hts_le wf i hi
    have ht' : ∀ k, k < n → M' 17 (b + k) = tkc (V 88 (b + k)) := fun k hk => by rw [f.row 17 (by decide) (by decide)]; exact ht k hc hk
    refine H_Program_work_6 pt30_ok ?_
    simp only [s_aload_0_ref, s_aload_3_ref, s_bipush, s_get2, s_goto, s_iald, s_iast, s_ic_ge, s_ic_lt, s_iconst, s_if_le, s_iinc_4, s_iinc_5, s_iload_1_int, s_iload_2_int, s_iload_4_int, s_iload_5_int, s_iload_6_int, s_ireturn, s_ist_3, s_istore_4_int, s_istore_5_int, s_istore_6_int, s_isub, s_sipush, J_Program_work_0, b_Program_work_0, J_Program_work_75, b_Program_work_75, J_Program_work_101, b_Program_work_101, J_Program_work_109, b_Program_work_109, J_Program_work_113, b_Program_work_113, J_Program_work_119, b_Program_work_119, J_Program_work_136, b_Program_work_136, J_Program_work_137, b_Program_work_137, J_Program_work_6, b_Program_work_6, s_end, true_and, and_true, or_true, true_or, if_true, if_false, ite_true, ite_false, List.map_nil, List.map_cons, List.sum_nil, List.sum_cons, List.nil_append, List.cons_append, Option.toList_some, Option.toList_none, Nat.reduceAdd, Nat.reduceLeDiff, Nat.reduceSub, Nat.zero_le, List.headD_cons, List.tail_cons, List.length_cons, List.length_nil, ne_eq, reduceCtorEq, false_or, or_false, not_false_eq_true, Nat.reduceEqDiff, Nat.reduceLT, am_sw, bI_0, bI_z, bI_y, Classical.not_not, Nat.le_add_left, am_u_row2, am_r_row2, am_u_same, am_u_at, am_r_same, Int32.reduceLT, Int32.reduceLE, Int32.reduceAdd, Int32.reduceSub, Int32.reduceMul, forall_const, not_true_eq_false, implies_true, false_imp_iff, true_imp_iff, i_10, i_01, i_m10, i_m11, eq_self, or_self, false_and, and_false, and_self, am_so_some, am_pv_some, am_pv_none, l_cl_none, l_cl_int, l_cl_ref, l_cl_ra, l_cl_null, l_cl_long, cat_int, cat_ref, cat_long, cat_ra, cat_null, cl_0, cl_1, cl_2, cl_3, cl_4, cl_5, cl_6, cl_7, cl_8, cl_9, cl_10, cl_11, cl_12, cl_13, cl_14, cl_15, cl_16, cl_30, cl_64, cl_500, vl_0_2, vl_0_3, vl_0_4, vl_0_6, vl_0_7, vl_0_12, vl_0_16, vl_0_1400, vl_1_2, vl_1_3, vl_1_4, vl_1_6, vl_1_7, vl_1_12, vl_1_16, vl_1_1400, vl_2_3, vl_2_4, vl_2_6, vl_2_7, vl_2_12, vl_2_16, vl_2_1400, vl_3_4, vl_3_6, vl_3_7, vl_3_12, vl_3_16, vl_3_1400, vl_4_6, vl_4_7, vl_4_12, vl_4_16, vl_4_1400, vl_5_6, vl_5_7, vl_5_12, vl_5_16, vl_5_1400, vl_6_7, vl_6_12, vl_6_16, vl_6_1400, vl_7_12, vl_7_16, vl_8_12, vl_8_16, vl_9_12, vl_9_16, vl_10_12, vl_10_16, vl_11_12, vl_11_16, i_64le_e, i64a_0, i64b_0, i64a_1, i64b_1, i64a_2, i64b_2, i64a_3, i64b_3, i64a_4, i64b_4, i64a_5, i64b_5, i64a_7, i64b_7, i64a_8, i64b_8, i64a_9, i64b_9, i64a_10, i64b_10, i64a_16, i64b_16, i64a_50, i64b_50, i64a_m50, i64b_m50, i64a_60, i64b_60, i64a_99, i64b_99, i64a_100, i64b_100, i64a_500, i64b_500, i64a_600, i64b_600, i64a_1000, i64b_1000, i64a_1000000, i64b_1000000, i64a_m9, i64b_m9, e_s_9, e_i_9, e_l_9, e_p_9_0, e_p_9_1, e_p_9_2, e_p_9_3, e_p_9_4, e_p_9_5, e_s_10, e_i_10, e_l_10, e_s_11, e_i_11, e_l_11, e_s_12, e_i_12, e_l_12, e_s_13, e_i_13, e_l_13, e_s_14, e_i_14, e_l_14, e_s_15, e_i_15, e_l_15, e_s_16, e_i_16, e_l_16, e_p_16_0, e_p_16_1, e_p_16_2, e_p_16_3, e_p_16_4, e_p_16_5, e_s_17, e_i_17, e_l_17, e_s_18, e_i_18, e_l_18, e_s_19, e_i_19, e_l_19, e_s_20, e_i_20, e_l_20, e_s_21, e_i_21, e_l_21, e_s_22, e_i_22, e_l_22, pt30_Program_joinBy, q1, q2, q3, hE]
    by_cases c0 : i < n
    · have c1 : ¬ b + n ≤ b + i := by omega
      have ti := ht' i c0
      simp (disch := omega) only [c1, ti, nI_clamp, nI_le', nI_lt', nI_eq', rem2_1, rem2_0, nI_eq0, nI_le0, nI_0lt, nI_0le, nI_lt0, nI_m1, vp_inE, nm_nI, i_20, nI_1, nI_add, and_true, true_and, and_self, or_true, true_or, or_false, false_or, false_and, and_false, not_true_eq_false, not_false_eq_true, if_true, if_false, ite_true, ite_false, false_imp_iff, true_imp_iff, rsn_00, rsn_10, rsn_01, rsn_11, n_09, n_19, n_29, n_99, implies_true, bI_t, bI_f, or_self, ne_eq, eq_self, Classical.not_not, Bool.false_eq_true]
      obtain ⟨wm, w2, w64⟩ := wf.1 i c0
      have ih := ih c0
      have eS : evS (V 88) nz b (i + 1) = stE nz (V 88 (b + i)) (evS (V 88) nz b i) := rfl
      have eH : hts (V 88) b (i + 1) = if V 88 (b + i) < 20001 then hts (V 88) b i + 1 else hts (V 88) b i - 1 := rfl
      rw [eS, eH] at ih
      generalize V 88 (b + i) = m at *
      generalize hts (V 88) b i = h at *
      generalize evS (V 88) nz b i = st at *
      have push : ∀ z, m < 20001 → z = (if m < 10000 then m else nz (nm (m - 10000))) → am_WP X (d + 1) 71 6 [some (.ref 16), some (.int (nI b)), some (.int (nI (b + n))), some (.ref (q)), some (.int (nI (h + 1))), some (.int (nI (b + i + 1))), some (.int (m))] [] S (am_u M' 22 h z) (L) 0 0 K := by
        intro z h1 h2
        rw [if_pos h1] at ih
        refine ih _ _ (f.u (by decide)) ?_
        unfold stE
        rw [if_pos h1]
        refine ⟨?_, hs.u (by omega)⟩
        rw [hl, am_u_same]; exact h2
      rcases wm with ⟨v, hv, em⟩ | ⟨v, hv, em⟩ | ⟨v, hv, em⟩
      · have l1 : m < 20001 := by rw [em]; exact nI_lt (b := 20001) (by omega) (by omega)
        have l2 : m < 20000 := by rw [em]; exact nI_lt (b := 20000) (by omega) (by omega)
        have l3 : ¬ 10000 ≤ m := by rw [em]; exact Int32.not_le.mpr (nI_lt (b := 10000) (by omega) (by omega))
        have h64 := w64 l1
        have l4 : ¬ 64 ≤ nI h := Int32.not_le.mpr (nI_lt (b := 64) (by omega) (by omega))
        simp (disch := omega) only [tkc_lt, l1, l2, l3, l4, nI_clamp, nI_le', nI_lt', nI_eq', rem2_1, rem2_0, nI_eq0, nI_le0, nI_0lt, nI_0le, nI_lt0, nI_m1, vp_inE, nm_nI, i_20, nI_1, nI_add, and_true, true_and, and_self, or_true, true_or, or_false, false_or, false_and, and_false, not_true_eq_false, not_false_eq_true, if_true, if_false, ite_true, ite_false, false_imp_iff, true_imp_iff, rsn_00, rsn_10, rsn_01, rsn_11, n_09, n_19, n_29, n_99, implies_true, bI_t, bI_f, or_self, ne_eq, eq_self, Classical.not_not, Bool.false_eq_true]
        exact push _ l1 (by rw [if_pos (Int32.not_le.mp l3)])
      · have l1 : m < 20001 := by rw [em]; exact nI_lt (b := 20001) (by omega) (by omega)
        have l2 : m < 20000 := by rw [em]; exact nI_lt (b := 20000) (by omega) (by omega)
        have l3 : 10000 ≤ m := by rw [em]; exact (nI_leI (a := 10000) (by omega) (by omega)).mpr (by omega)
        have l4 : ¬ 64 ≤ nI h := Int32.not_le.mpr (nI_lt (b := 64) (by have := w64 l1; omega) (by omega))
        have l5 : m - 10000 = nI v := by rw [em, show (10000 : Int32) = nI 10000 from rfl, nI_sub (by omega) (by omega), Nat.add_sub_cancel_left]
        have h64 := w64 l1
        simp (disch := omega) only [tkc_lt, l1, l2, l3, l4, l5, hn', hv, nI_clamp, nI_le', nI_lt', nI_eq', rem2_1, rem2_0, nI_eq0, nI_le0, nI_0lt, nI_0le, nI_lt0, nI_m1, vp_inE, nm_nI, i_20, nI_1, nI_add, and_true, true_and, and_self, or_true, true_or, or_false, false_or, false_and, and_false, not_true_eq_false, not_false_eq_true, if_true, if_false, ite_true, ite_false, false_imp_iff, true_imp_iff, rsn_00, rsn_10, rsn_01, rsn_11, n_09, n_19, n_29, n_99, implies_true, bI_t, bI_f, or_self, ne_eq, eq_self, Classical.not_not, Bool.false_eq_true]
        exact push _ l1 (by rw [if_neg (Int32.not_lt.mpr l3), l5, nm_nI (by omega)])
      · have l1 : ¬ m < 20001 := by rw [em]; exact Int32.not_lt.mpr ((nI_leI (a := 20001) (by omega) (by omega)).mpr (by omega))
        have l2 : ¬ tkc m < 20000 := by
          rw [em]
          have q : v = 0 ∨ v = 1 ∨ v = 2 ∨ v = 3 ∨ v = 4 ∨ v = 5 := by omega
          rcases q with rfl | rfl | rfl | rfl | rfl | rfl <;> decide
        have jb : ∀ x y, jbI (tkc m - 20000) x y = opE m x y := fun x y => by rw [em]; exact jb_op hv
        have h2 := w2 l1
        rw [if_neg l1] at ih
        clear push eS eH
        match st, hl, hs, ih with
        | [], hl, _, _ => exact absurd hl (by simp only [List.length_nil]; omega)
        | [_], hl, _, _ => exact absurd hl (by simp only [List.length_cons, List.length_nil]; omega)
        | y :: x :: r, hl, hs, ih =>
          simp only [List.length_cons] at hl
          subst hl
          have hy : M' 22 (r.length + 1) = y := hs.1
          have hx : M' 22 r.length = x := hs.2.1
          have e3 : nI (r.length + 1 + 1) + -1 = nI (r.length + 1) := nI_pre1 (by omega) (by omega)
          have e4 : nI (r.length + 1) - 1 = nI r.length := nI_pred2 (by omega) (by omega)
          have l4 : ¬ nI (r.length + 1 + 1) < 2 := Int32.not_lt.mpr ((nI_leI (a := 2) (by omega) (by omega)).mpr (by omega))
          simp (disch := omega) only [e3, e4, hy, hx, l2, l4, jb, nI_clamp, nI_le', nI_lt', nI_eq', rem2_1, rem2_0, nI_eq0, nI_le0, nI_0lt, nI_0le, nI_lt0, nI_m1, vp_inE, nm_nI, i_20, nI_1, nI_add, and_true, true_and, and_self, or_true, true_or, or_false, false_or, false_and, and_false, not_true_eq_false, not_false_eq_true, if_true, if_false, ite_true, ite_false, false_imp_iff, true_imp_iff, rsn_00, rsn_10, rsn_01, rsn_11, n_09, n_19, n_29, n_99, implies_true, bI_t, bI_f, or_self, ne_eq, eq_self, Classical.not_not, Bool.false_eq_true]
          refine ih (am_u M' 22 r.length (opE m x y)) (some (.int (tkc m))) (f.u (by decide)) ?_
          unfold stE
          rw [if_neg l1]
          exact ⟨by rw [am_u_same], hs.2.2.u (Nat.le_refl _)⟩
    · have e : i = n := by omega
      subst e
      simp (disch := omega) only [Nat.le_refl, nI_clamp, nI_le', nI_lt', nI_eq', rem2_1, rem2_0, nI_eq0, nI_le0, nI_0lt, nI_0le, nI_lt0, nI_m1, vp_inE, nm_nI, i_20, nI_1, nI_add, and_true, true_and, and_self, or_true, true_or, or_false, false_or, false_and, and_false, not_true_eq_false, not_false_eq_true, if_true, if_false, ite_true, ite_false, false_imp_iff, true_imp_iff, rsn_00, rsn_10, rsn_01, rsn_11, n_09, n_19, n_29, n_99, implies_true, bI_t, bI_f, or_self, ne_eq, eq_self, Classical.not_not, Bool.false_eq_true]
      rw [wf.2] at hl ⊢
      refine ⟨fun h => absurd h (by decide), fun _ => ⟨vp_in_nI (n := 0) (by decide) (by decide), ?_⟩⟩
      match evS (V 88) nz b i, hl, hs, k with
      | [x], _, hs, k =>
        rw [show M' 22 (nI 1 - 1).toNatClampNeg = x from hs.1]
        exact k M' f
  exact loop 0 (by omega) M _ Fr.refl True.intro
end T27
