theorem i_4543 : ((45 : Int32) = 43) = False := by decide
theorem i_4243 : ((42 : Int32) = 43) = False := by decide
theorem i_4245 : ((42 : Int32) = 45) = False := by decide
theorem i_4743 : ((47 : Int32) = 43) = False := by decide
theorem i_4745 : ((47 : Int32) = 45) = False := by decide
theorem i_4742 : ((47 : Int32) = 42) = False := by decide
theorem i_6043 : ((60 : Int32) = 43) = False := by decide
theorem i_6045 : ((60 : Int32) = 45) = False := by decide
theorem i_6042 : ((60 : Int32) = 42) = False := by decide
theorem i_6047 : ((60 : Int32) = 47) = False := by decide
section T26
variable {X : am_X} {d : Nat} {K : am_K} {S : am_S} {M : am_M} {L : am_L} {V : am_M}
theorem lg_le0 {x y : Int64} : (lg_cmp x y ≤ 0) = ¬ y < x := by
  rw [← lg_gt0]; exact propext ⟨fun h => Int32.not_lt.mpr h, fun h => Int32.not_lt.mp h⟩
theorem lg_ge0 {x y : Int64} : (0 ≤ lg_cmp x y) = ¬ x < y := by
  rw [← lg_lt0]; exact propext ⟨fun h => Int32.not_lt.mpr h, fun h => Int32.not_lt.mp h⟩
/-- joining as the class does -/
def jbI (sg x y : Int32) : Int32 := if sg = 43 then clp (x.toInt64 + y.toInt64) else if sg = 45 then clp (x.toInt64 - y.toInt64) else if sg = 42 then clp (x.toInt64 * y.toInt64) else if sg = 47 then (if y = 0 then clp 0 else clp ((x / y).toInt64)) else if sg = 60 then (if x < y then clp 1 else clp 0) else (if x = y then clp 1 else clp 0)
theorem clp_fin {w : Int64} {P : Int32 → Prop} (k : P (clp w)) : (lg_cmp w 1000000 ≤ 0 → (0 ≤ lg_cmp w (-1000000) → P w.toInt32) ∧ (¬ 0 ≤ lg_cmp w (-1000000) → P (-1000000))) ∧ (¬ lg_cmp w 1000000 ≤ 0 → P 1000000) := by
  unfold clp at k
  simp only [lg_le0, lg_ge0, Classical.not_not]
  refine ⟨fun h => ⟨fun h2 => ?_, fun h2 => ?_⟩, fun h => ?_⟩
  · rw [if_neg h, if_neg h2] at k; exact k
  · rw [if_neg h, if_pos h2] at k; exact k
  · rw [if_pos h] at k; exact k
theorem c_Program_joinBy {sg x y : Int32} (hp : True) (k : K (some (.int (jbI sg x y))) S M L) : am_Call X d m_Program_joinBy [.int sg, .int x, .int y] S M L K := by
  refine EE_Program_joinBy pt28_ok ?_
  simp only [s_bipush, s_goto, s_i2l, s_ic_ge, s_ic_ne, s_idiv, s_if_ge, s_if_le, s_if_ne, s_iload_0_int, s_iload_1_int, s_iload_2_int, s_ireturn, s_l2i, s_ladd, s_lcmp, s_lconst, s_ldc, s_ldc2_w, s_lload_3_long, s_lmul, s_lstore_3, s_lsub, J_Program_joinBy_0, b_Program_joinBy_0, J_Program_joinBy_9, b_Program_joinBy_9, J_Program_joinBy_10, b_Program_joinBy_10, J_Program_joinBy_26, b_Program_joinBy_26, J_Program_joinBy_41, b_Program_joinBy_41, J_Program_joinBy_56, b_Program_joinBy_56, J_Program_joinBy_70, b_Program_joinBy_70, J_Program_joinBy_74, b_Program_joinBy_74, J_Program_joinBy_78, b_Program_joinBy_78, J_Program_joinBy_93, b_Program_joinBy_93, J_Program_joinBy_94, b_Program_joinBy_94, J_Program_joinBy_95, b_Program_joinBy_95, J_Program_joinBy_106, b_Program_joinBy_106, J_Program_joinBy_119, b_Program_joinBy_119, J_Program_joinBy_121, b_Program_joinBy_121, s_end, true_and, and_true, or_true, true_or, if_true, if_false, ite_true, ite_false, List.map_nil, List.map_cons, List.sum_nil, List.sum_cons, List.nil_append, List.cons_append, Option.toList_some, Option.toList_none, Nat.reduceAdd, Nat.reduceLeDiff, Nat.reduceSub, Nat.zero_le, List.headD_cons, List.tail_cons, List.length_cons, List.length_nil, ne_eq, reduceCtorEq, false_or, or_false, not_false_eq_true, Nat.reduceEqDiff, Nat.reduceLT, am_sw, bI_0, bI_z, bI_y, Classical.not_not, Nat.le_add_left, am_u_row2, am_r_row2, am_u_same, am_u_at, am_r_same, Int32.reduceLT, Int32.reduceLE, Int32.reduceAdd, Int32.reduceSub, Int32.reduceMul, forall_const, not_true_eq_false, implies_true, false_imp_iff, true_imp_iff, i_10, i_01, i_m10, i_m11, eq_self, or_self, false_and, and_false, and_self, am_so_some, am_pv_some, am_pv_none, l_cl_none, l_cl_int, l_cl_ref, l_cl_ra, l_cl_null, l_cl_long, cat_int, cat_ref, cat_long, cat_ra, cat_null, cl_0, cl_1, cl_2, cl_3, cl_4, cl_5, cl_6, cl_7, cl_8, cl_9, cl_10, cl_11, cl_12, cl_13, cl_14, cl_15, cl_16, cl_30, cl_64, cl_500, vl_0_2, vl_0_3, vl_0_4, vl_0_6, vl_0_7, vl_0_12, vl_0_16, vl_0_1400, vl_1_2, vl_1_3, vl_1_4, vl_1_6, vl_1_7, vl_1_12, vl_1_16, vl_1_1400, vl_2_3, vl_2_4, vl_2_6, vl_2_7, vl_2_12, vl_2_16, vl_2_1400, vl_3_4, vl_3_6, vl_3_7, vl_3_12, vl_3_16, vl_3_1400, vl_4_6, vl_4_7, vl_4_12, vl_4_16, vl_4_1400, vl_5_6, vl_5_7, vl_5_12, vl_5_16, vl_5_1400, vl_6_7, vl_6_12, vl_6_16, vl_6_1400, vl_7_12, vl_7_16, vl_8_12, vl_8_16, vl_9_12, vl_9_16, vl_10_12, vl_10_16, vl_11_12, vl_11_16, i_64le_e, i64a_0, i64b_0, i64a_1, i64b_1, i64a_2, i64b_2, i64a_3, i64b_3, i64a_4, i64b_4, i64a_5, i64b_5, i64a_7, i64b_7, i64a_8, i64b_8, i64a_9, i64b_9, i64a_10, i64b_10, i64a_16, i64b_16, i64a_50, i64b_50, i64a_m50, i64b_m50, i64a_60, i64b_60, i64a_99, i64b_99, i64a_100, i64b_100, i64a_500, i64b_500, i64a_600, i64b_600, i64a_1000, i64b_1000, i64a_1000000, i64b_1000000, i64a_m9, i64b_m9, e_s_9, e_i_9, e_l_9, e_p_9_0, e_p_9_1, e_p_9_2, e_p_9_3, e_p_9_4, e_p_9_5, e_s_10, e_i_10, e_l_10, e_s_11, e_i_11, e_l_11, e_s_12, e_i_12, e_l_12, e_s_13, e_i_13, e_l_13, e_s_14, e_i_14, e_l_14, e_s_15, e_i_15, e_l_15, e_s_16, e_i_16, e_l_16, e_p_16_0, e_p_16_1, e_p_16_2, e_p_16_3, e_p_16_4, e_p_16_5, e_s_17, e_i_17, e_l_17, e_s_18, e_i_18, e_l_18, e_s_19, e_i_19, e_l_19, e_s_20, e_i_20, e_l_20, e_s_21, e_i_21, e_l_21, e_s_22, e_i_22, e_l_22]
  unfold jbI at k
  have fin := fun (w : Int64) (k : K (some (.int (clp w))) S M L) => clp_fin (P := fun z => K (some (.int z)) S M L) k
  by_cases h1 : sg = 43
  · simp only [h1, if_true, not_true_eq_false, false_imp_iff, true_imp_iff, true_and] at k ⊢
    exact ⟨fun _ => fin _ k, fun _ => fin _ k⟩
  by_cases h2 : sg = 45
  · simp only [h2, if_true, if_false, i_4543, not_true_eq_false, not_false_eq_true, false_imp_iff, true_imp_iff, true_and, and_true] at k ⊢
    exact ⟨fun _ => fin _ k, fun _ => fin _ k⟩
  by_cases h3 : sg = 42
  · simp only [h3, if_true, if_false, i_4243, i_4245, not_true_eq_false, not_false_eq_true, false_imp_iff, true_imp_iff, true_and, and_true] at k ⊢
    exact ⟨fun _ => fin _ k, fun _ => fin _ k⟩
  by_cases h4 : sg = 47
  · simp only [h4, if_true, if_false, i_4743, i_4745, i_4742, not_true_eq_false, not_false_eq_true, false_imp_iff, true_imp_iff, true_and, and_true] at k ⊢
    by_cases h5 : y = 0
    · simp only [h5, if_true, not_true_eq_false, false_imp_iff, true_imp_iff, true_and, false_and] at k ⊢
      exact ⟨fun _ => fin _ k, fun _ => fin _ k⟩
    · simp only [h5, if_false, not_false_eq_true, false_imp_iff, true_imp_iff, true_and, and_true] at k ⊢
      exact ⟨fun _ => fin _ k, fun _ => fin _ k⟩
  by_cases h5 : sg = 60
  · simp only [h5, if_true, if_false, i_6043, i_6045, i_6042, i_6047, not_true_eq_false, not_false_eq_true, false_imp_iff, true_imp_iff, true_and, and_true] at k ⊢
    by_cases h6 : x < y
    · rw [if_pos h6] at k
      have h7 : ¬ y ≤ x := Int32.not_le.mpr h6
      simp only [h7, not_false_eq_true, false_imp_iff, true_imp_iff, true_and, and_true]
      exact ⟨fun _ => fin _ k, fun _ => fin _ k⟩
    · rw [if_neg h6] at k
      have h7 : y ≤ x := Int32.not_lt.mp h6
      simp only [h7, not_true_eq_false, false_imp_iff, true_imp_iff, true_and, and_true]
      exact ⟨fun _ => fin _ k, fun _ => fin _ k⟩
  simp only [h1, h2, h3, h4, h5, if_false, not_false_eq_true, false_imp_iff, true_imp_iff, true_and, and_true] at k ⊢
  refine ⟨fun h => ?_, fun h => ?_⟩
  · rw [if_neg h] at k; exact fin _ k
  · rw [if_pos h] at k; exact fin _ k
theorem c_R_brought {w : Int64} (hp : True) (k : K (some (.int (clp w))) S M L) : am_Call X (d + 1) m_R_brought [.long w] S M L K := by
  refine EE_R_brought pt28_ok ?_
  simp only [s_ireturn, s_l2i, s_ldc2_w, s_lload_0_long, s_mmaxl, s_mminl, J_R_brought_0, b_R_brought_0, s_end, true_and, and_true, or_true, true_or, if_true, if_false, ite_true, ite_false, List.map_nil, List.map_cons, List.sum_nil, List.sum_cons, List.nil_append, List.cons_append, Option.toList_some, Option.toList_none, Nat.reduceAdd, Nat.reduceLeDiff, Nat.reduceSub, Nat.zero_le, List.headD_cons, List.tail_cons, List.length_cons, List.length_nil, ne_eq, reduceCtorEq, false_or, or_false, not_false_eq_true, Nat.reduceEqDiff, Nat.reduceLT, am_sw, bI_0, bI_z, bI_y, Classical.not_not, Nat.le_add_left, am_u_row2, am_r_row2, am_u_same, am_u_at, am_r_same, Int32.reduceLT, Int32.reduceLE, Int32.reduceAdd, Int32.reduceSub, Int32.reduceMul, forall_const, not_true_eq_false, implies_true, false_imp_iff, true_imp_iff, i_10, i_01, i_m10, i_m11, eq_self, or_self, false_and, and_false, and_self, am_so_some, am_pv_some, am_pv_none, l_cl_none, l_cl_int, l_cl_ref, l_cl_ra, l_cl_null, l_cl_long, cat_int, cat_ref, cat_long, cat_ra, cat_null, cl_0, cl_1, cl_2, cl_3, cl_4, cl_5, cl_6, cl_7, cl_8, cl_9, cl_10, cl_11, cl_12, cl_13, cl_14, cl_15, cl_16, cl_30, cl_64, cl_500, vl_0_2, vl_0_3, vl_0_4, vl_0_6, vl_0_7, vl_0_12, vl_0_16, vl_0_1400, vl_1_2, vl_1_3, vl_1_4, vl_1_6, vl_1_7, vl_1_12, vl_1_16, vl_1_1400, vl_2_3, vl_2_4, vl_2_6, vl_2_7, vl_2_12, vl_2_16, vl_2_1400, vl_3_4, vl_3_6, vl_3_7, vl_3_12, vl_3_16, vl_3_1400, vl_4_6, vl_4_7, vl_4_12, vl_4_16, vl_4_1400, vl_5_6, vl_5_7, vl_5_12, vl_5_16, vl_5_1400, vl_6_7, vl_6_12, vl_6_16, vl_6_1400, vl_7_12, vl_7_16, vl_8_12, vl_8_16, vl_9_12, vl_9_16, vl_10_12, vl_10_16, vl_11_12, vl_11_16, i_64le_e, i64a_0, i64b_0, i64a_1, i64b_1, i64a_2, i64b_2, i64a_3, i64b_3, i64a_4, i64b_4, i64a_5, i64b_5, i64a_7, i64b_7, i64a_8, i64b_8, i64a_9, i64b_9, i64a_10, i64b_10, i64a_16, i64b_16, i64a_50, i64b_50, i64a_m50, i64b_m50, i64a_60, i64b_60, i64a_99, i64b_99, i64a_100, i64b_100, i64a_500, i64b_500, i64a_600, i64b_600, i64a_1000, i64b_1000, i64a_1000000, i64b_1000000, i64a_m9, i64b_m9, e_s_70, e_i_70, e_l_70, e_p_70_0, e_p_70_1, e_p_70_2, e_p_70_3, e_p_70_4, e_p_70_5, e_p_70_6, e_p_70_7, e_p_70_10, e_p_70_11, e_p_70_12, e_p_70_13, e_p_70_14, e_p_70_15, e_p_70_16, e_p_70_24, e_p_70_29, e_p_70_30, e_p_70_31, e_p_70_32, e_p_70_33, e_p_70_34, e_p_70_35, e_p_70_36, e_p_70_37, e_p_70_38, e_p_70_39, e_p_70_41, e_p_70_42, e_p_70_44, e_p_70_45, e_p_70_46, e_p_70_53, e_p_70_54, e_p_70_55, e_p_70_56, e_p_70_59, e_p_70_61, e_p_70_62]
  have e : (if (if w < 1000000 then w else 1000000) < -1000000 then -1000000 else if w < 1000000 then w else 1000000).toInt32 = clp w := by
    unfold clp
    by_cases h1 : w < 1000000
    · rw [if_pos h1, if_neg (Int64.not_lt.mpr (Int64.le_of_lt h1))]
      by_cases h2 : w < -1000000
      · rw [if_pos h2, if_pos h2]; rfl
      · rw [if_neg h2, if_neg h2]
    · rw [if_neg h1, if_neg (by decide)]
      by_cases h2 : 1000000 < w
      · rw [if_pos h2]; rfl
      · rw [if_neg h2]
        have e : w = 1000000 := Int64.le_antisymm (Int64.not_lt.mp h2) (Int64.not_lt.mp h1)
        rw [e, if_neg (by decide)]
  rw [e]
  exact k
def f_Program_joinBy : List Value → am_S → am_M → am_L → Option (Prop × Nat × Option Value × am_M × am_L) := fun avs S M L => match avs with
  | [.int sg, .int x, .int y] => some (True, 0, some (.int (jbI sg x y)), M, L)
  | _ => none
theorem cal_Program_joinBy {X : am_X} {PT : am_PT} {d : Nat} {K : am_K} {S : am_S} {M : am_M} {L : am_L} {sg : Int32} {x : Int32} {y : Int32} (hPT9 : PT 72 = some f_Program_joinBy) : am_cal X PT d 72 [.int sg, .int x, .int y] S M L K = (0 ≤ d ∧ (True) ∧ K (some (.int (jbI sg x y))) S (M) (L)) := by
  unfold am_cal
  rw [hPT9]
  exact propext Iff.rfl
theorem g_Program_joinBy : am_PTf 72 f_Program_joinBy := by
  intro avs S M L o h hp X d K k
  unfold f_Program_joinBy at h
  split at h
  · cases h
    exact c_Program_joinBy hp k
  · cases h
def f_R_brought : List Value → am_S → am_M → am_L → Option (Prop × Nat × Option Value × am_M × am_L) := fun avs S M L => match avs with
  | [.long w] => some (True, 1, some (.int (clp w)), M, L)
  | _ => none
theorem cal_R_brought {X : am_X} {PT : am_PT} {d : Nat} {K : am_K} {S : am_S} {M : am_M} {L : am_L} {w : Int64} (hPT9 : PT 207 = some f_R_brought) : am_cal X PT d 207 [.long w] S M L K = (1 ≤ d ∧ (True) ∧ K (some (.int (clp w))) S (M) (L)) := by
  unfold am_cal
  rw [hPT9]
  exact propext Iff.rfl
theorem g_R_brought : am_PTf 207 f_R_brought := by
  intro avs S M L o h hp X d K k
  unfold f_R_brought at h
  split at h
  · cases h
    exact c_R_brought hp k
  · cases h
def pt29 : am_PT := am_add pt28 72 f_Program_joinBy
theorem pt29_ok : am_PTok pt29 := am_add_ok pt28_ok g_Program_joinBy
def pt30 : am_PT := am_add pt29 207 f_R_brought
theorem pt30_ok : am_PTok pt30 := am_add_ok pt29_ok g_R_brought
theorem pt30_L_within {X : am_X} {d : Nat} {K : am_K} {S : am_S} {M : am_M} {L : am_L} {n : Int32} {lo : Int32} {hi : Int32} : am_cal X pt30 d 156 [.int n, .int lo, .int hi] S M L K = (0 ≤ d ∧ (True) ∧ K (some (.int (bI (lo ≤ n ∧ n ≤ hi)))) S (M) (L)) := cal_L_within (show pt30 156 = some f_L_within from rfl)
theorem pt30_L_brought {X : am_X} {d : Nat} {K : am_K} {S : am_S} {M : am_M} {L : am_L} {n : Int32} {lo : Int32} {hi : Int32} : am_cal X pt30 d 157 [.int n, .int lo, .int hi] S M L K = (1 ≤ d ∧ (True) ∧ K (some (.int (bro n lo hi))) S (M) (L)) := cal_L_brought (show pt30 157 = some f_L_brought from rfl)
theorem pt30_L_refuse {X : am_X} {d : Nat} {K : am_K} {S : am_S} {M : am_M} {L : am_L} {r : Int32} : am_cal X pt30 d 151 [.ref 0, .int r] S M L K = (0 ≤ d ∧ (am_env S ∧ vp_in r 3) ∧ K (some (.int (-1))) S (rfL M r.toNatClampNeg) (L)) := cal_L_refuse (show pt30 151 = some f_L_refuse from rfl)
theorem pt30_L_deny {X : am_X} {d : Nat} {K : am_K} {S : am_S} {M : am_M} {L : am_L} {r : Int32} : am_cal X pt30 d 152 [.ref 0, .int r] S M L K = (0 ≤ d ∧ (am_env S ∧ vp_in r 3) ∧ K (some (.int 0)) S (rfL M r.toNatClampNeg) (L)) := cal_L_deny (show pt30 152 = some f_L_deny from rfl)
theorem pt30_R_in {X : am_X} {d : Nat} {K : am_K} {S : am_S} {M : am_M} {L : am_L} {v : Int64} {lo : Int64} {hi : Int64} : am_cal X pt30 d 159 [.long v, .long lo, .long hi] S M L K = (0 ≤ d ∧ (True) ∧ K (some (.int (bI (lo ≤ v ∧ v ≤ hi)))) S (M) (L)) := cal_R_in (show pt30 159 = some f_R_in from rfl)
theorem pt30_R_refuse {X : am_X} {d : Nat} {K : am_K} {S : am_S} {M : am_M} {L : am_L} {a : Int32} {b : Int32} : am_cal X pt30 d 160 [.ref 70, .int a, .int b] S M L K = (0 ≤ d ∧ (am_env S) ∧ K (some (.int (-1))) S (rfR M (rsn a b)) (L)) := cal_R_refuse (show pt30 160 = some f_R_refuse from rfl)
theorem pt30_R_deny {X : am_X} {d : Nat} {K : am_K} {S : am_S} {M : am_M} {L : am_L} {a : Int32} {b : Int32} : am_cal X pt30 d 161 [.ref 70, .int a, .int b] S M L K = (1 ≤ d ∧ (am_env S) ∧ K (some (.int 0)) S (rfR M (rsn a b)) (L)) := cal_R_deny (show pt30 161 = some f_R_deny from rfl)
theorem pt30_R_isScreen {X : am_X} {d : Nat} {K : am_K} {S : am_S} {M : am_M} {L : am_L} {s : Int32} : am_cal X pt30 d 165 [.ref 70, .int s] S M L K = (1 ≤ d ∧ (am_env S) ∧ K (some (.int (bI (0 ≤ s ∧ s ≤ M 70 8 - 1)))) S (M) (L)) := cal_R_isScreen (show pt30 165 = some f_R_isScreen from rfl)
theorem pt30_R_isPlan {X : am_X} {d : Nat} {K : am_K} {S : am_S} {M : am_M} {L : am_L} {s : Int32} : am_cal X pt30 d 169 [.ref 70, .int s] S M L K = (1 ≤ d ∧ (am_env S) ∧ K (some (.int (bI (0 ≤ s ∧ s ≤ M 70 9 - 1)))) S (M) (L)) := cal_R_isPlan (show pt30 169 = some f_R_isPlan from rfl)
theorem pt30_R_isBaby {X : am_X} {d : Nat} {K : am_K} {S : am_S} {M : am_M} {L : am_L} {s : Int32} : am_cal X pt30 d 173 [.ref 70, .int s] S M L K = (1 ≤ d ∧ (am_env S) ∧ K (some (.int (bI (0 ≤ s ∧ s ≤ M 70 17 - 1)))) S (M) (L)) := cal_R_isBaby (show pt30 173 = some f_R_isBaby from rfl)
theorem pt30_R_isLaw {X : am_X} {d : Nat} {K : am_K} {S : am_S} {M : am_M} {L : am_L} {s : Int32} : am_cal X pt30 d 209 [.ref 70, .int s] S M L K = (1 ≤ d ∧ (am_env S) ∧ K (some (.int (bI (0 ≤ s ∧ s ≤ M 97 0 - 1)))) S (M) (L)) := cal_R_isLaw (show pt30 209 = some f_R_isLaw from rfl)
theorem pt30_R_isOdd {X : am_X} {d : Nat} {K : am_K} {S : am_S} {M : am_M} {L : am_L} {s : Int32} : am_cal X pt30 d 166 [.ref 70, .int s] S M L K = (0 ≤ d ∧ (am_env S ∧ vp_in s 12) ∧ K (some (.int (bI (oddP (M 73) (M 74) (M 75) s.toNatClampNeg)))) S (M) (L)) := cal_R_isOdd (show pt30 166 = some f_R_isOdd from rfl)
theorem pt30_Stage_isOdd {X : am_X} {d : Nat} {K : am_K} {S : am_S} {M : am_M} {L : am_L} {s : Int32} : am_cal X pt30 d 77 [.ref 23, .int s] S M L K = (0 ≤ d ∧ (am_env S ∧ vp_in s 12) ∧ K (some (.int (bI (oddP (M 25) (M 26) (M 27) s.toNatClampNeg)))) S (M) (L)) := cal_Stage_isOdd (show pt30 77 = some f_Stage_isOdd from rfl)
theorem pt30_Stage_hasScreen {X : am_X} {d : Nat} {K : am_K} {S : am_S} {M : am_M} {L : am_L} {s : Int32} : am_cal X pt30 d 74 [.ref 23, .int s] S M L K = (0 ≤ d ∧ (am_env S) ∧ K (some (.int (bI (0 ≤ s ∧ s < M 23 7)))) S (M) (L)) := cal_Stage_hasScreen (show pt30 74 = some f_Stage_hasScreen from rfl)
theorem pt30_Stage_hasPlan {X : am_X} {d : Nat} {K : am_K} {S : am_S} {M : am_M} {L : am_L} {s : Int32} : am_cal X pt30 d 75 [.ref 23, .int s] S M L K = (0 ≤ d ∧ (am_env S) ∧ K (some (.int (bI (0 ≤ s ∧ s < M 23 8)))) S (M) (L)) := cal_Stage_hasPlan (show pt30 75 = some f_Stage_hasPlan from rfl)
theorem pt30_Lab_hasBaby {X : am_X} {d : Nat} {K : am_K} {S : am_S} {M : am_M} {L : am_L} {s : Int32} : am_cal X pt30 d 23 [.ref 31, .int s] S M L K = (0 ≤ d ∧ (am_env S) ∧ K (some (.int (bI (0 ≤ s ∧ s < M 31 7)))) S (M) (L)) := cal_Lab_hasBaby (show pt30 23 = some f_Lab_hasBaby from rfl)
theorem pt30_Program_hasLaw {X : am_X} {d : Nat} {K : am_K} {S : am_S} {M : am_M} {L : am_L} {s : Int32} : am_cal X pt30 d 65 [.ref 16, .int s] S M L K = (0 ≤ d ∧ (am_env S) ∧ K (some (.int (bI (0 ≤ s ∧ s < M 16 7)))) S (M) (L)) := cal_Program_hasLaw (show pt30 65 = some f_Program_hasLaw from rfl)
theorem pt30_Finder_forget {X : am_X} {d : Nat} {K : am_K} {S : am_S} {M : am_M} {L : am_L}  : am_cal X pt30 d 4 [.ref 62] S M L K = (0 ≤ d ∧ (am_env S) ∧ K (none) S (am_u M 62 8 0) (L)) := cal_Finder_forget (show pt30 4 = some f_Finder_forget from rfl)
theorem pt30_Stage_addPlan {X : am_X} {d : Nat} {K : am_K} {S : am_S} {M : am_M} {L : am_L}  : am_cal X pt30 d 80 [.ref 23] S M L K = (0 ≤ d ∧ (am_env S ∧ vp_in (M 23 8) 4) ∧ K (some (.int (M 23 8))) S (am_u (am_u M 30 (M 23 8).toNatClampNeg 0) 23 8 (M 23 8 + 1)) (L)) := cal_Stage_addPlan (show pt30 80 = some f_Stage_addPlan from rfl)
theorem pt30_Stage_addScreen {X : am_X} {d : Nat} {K : am_K} {S : am_S} {M : am_M} {L : am_L} {f : Int32} {h : Int32} {s : Int32} {q : Int32} : am_cal X pt30 d 79 [.ref 23, .int f, .int h, .int s, .int q] S M L K = (0 ≤ d ∧ (am_env S ∧ vp_in (M 23 7) 12) ∧ K (some (.int (M 23 7))) S (am_u (am_u (am_u (am_u (am_u M 25 (M 23 7).toNatClampNeg f) 26 (M 23 7).toNatClampNeg h) 27 (M 23 7).toNatClampNeg s) 28 (M 23 7).toNatClampNeg q) 23 7 (M 23 7 + 1)) (L)) := cal_Stage_addScreen (show pt30 79 = some f_Stage_addScreen from rfl)
theorem pt30_Stage_screenOf {X : am_X} {d : Nat} {K : am_K} {S : am_S} {M : am_M} {L : am_L} {p : Int32} {t : Int32} : am_cal X pt30 d 78 [.ref 23, .int p, .int t] S M L K = (0 ≤ d ∧ (am_env S ∧ vp_in (p * 8 + t) 32) ∧ K (some (.int (M 29 (p * 8 + t).toNatClampNeg))) S (M) (L)) := cal_Stage_screenOf (show pt30 78 = some f_Stage_screenOf from rfl)
theorem pt30_Stage_hasTrial {X : am_X} {d : Nat} {K : am_K} {S : am_S} {M : am_M} {L : am_L} {p : Int32} {t : Int32} : am_cal X pt30 d 76 [.ref 23, .int p, .int t] S M L K = (1 ≤ d ∧ (am_env S ∧ (0 ≤ p ∧ p < M 23 8 → vp_in p 4)) ∧ K (some (.int (bI ((0 ≤ p ∧ p < M 23 8) ∧ 0 ≤ t ∧ t < M 30 p.toNatClampNeg)))) S (M) (L)) := cal_Stage_hasTrial (show pt30 76 = some f_Stage_hasTrial from rfl)
theorem pt30_Stage_addTrial {X : am_X} {d : Nat} {K : am_K} {S : am_S} {M : am_M} {L : am_L} {p : Int32} {s : Int32} : am_cal X pt30 d 81 [.ref 23, .int p, .int s] S M L K = (0 ≤ d ∧ (am_env S ∧ vp_in p 4 ∧ vp_in (p * 8 + M 30 p.toNatClampNeg) 32) ∧ K (some (.int (M 30 p.toNatClampNeg + 1))) S (am_u (am_u M 29 (p * 8 + M 30 p.toNatClampNeg).toNatClampNeg s) 30 p.toNatClampNeg (M 30 p.toNatClampNeg + 1)) (L)) := cal_Stage_addTrial (show pt30 81 = some f_Stage_addTrial from rfl)
theorem pt30_Lab_gazeSize {X : am_X} {d : Nat} {K : am_K} {S : am_S} {M : am_M} {L : am_L} {b : Int32} {t : Int32} : am_cal X pt30 d 27 [.ref 31, .int b, .int t] S M L K = (0 ≤ d ∧ (am_env S ∧ vp_in (b * 8 + t) 128) ∧ K (some (.int (M 38 (b * 8 + t).toNatClampNeg))) S (M) (L)) := cal_Lab_gazeSize (show pt30 27 = some f_Lab_gazeSize from rfl)
theorem pt30_Lab_gazeAt {X : am_X} {d : Nat} {K : am_K} {S : am_S} {M : am_M} {L : am_L} {b : Int32} {t : Int32} {i : Int32} : am_cal X pt30 d 28 [.ref 31, .int b, .int t, .int i] S M L K = (0 ≤ d ∧ (am_env S ∧ vp_in ((b * 8 + t) * 8 + i) 1024) ∧ K (some (.int (M 37 ((b * 8 + t) * 8 + i).toNatClampNeg))) S (M) (L)) := cal_Lab_gazeAt (show pt30 28 = some f_Lab_gazeAt from rfl)
theorem pt30_Lab_isCrying {X : am_X} {d : Nat} {K : am_K} {S : am_S} {M : am_M} {L : am_L} {b : Int32} {t : Int32} : am_cal X pt30 d 31 [.ref 31, .int b, .int t] S M L K = (0 ≤ d ∧ (am_env S ∧ vp_in b 16) ∧ K (some (.int (bI (¬ M 35 b.toNatClampNeg = -1 ∧ M 35 b.toNatClampNeg ≤ t)))) S (M) (L)) := cal_Lab_isCrying (show pt30 31 = some f_Lab_isCrying from rfl)
theorem pt30_R_screenOf {X : am_X} {d : Nat} {K : am_K} {S : am_S} {M : am_M} {L : am_L} {b : Int32} {t : Int32} : am_cal X pt30 d 180 [.ref 70, .int b, .int t] S M L K = (0 ≤ d ∧ (am_env S ∧ vp_in b 16 ∧ vp_in (8 * M 79 b.toNatClampNeg + t) 32) ∧ K (some (.int (M 78 (8 * M 79 b.toNatClampNeg + t).toNatClampNeg))) S (M) (L)) := cal_R_screenOf (show pt30 180 = some f_R_screenOf from rfl)
theorem pt30_R_trialsOf {X : am_X} {d : Nat} {K : am_K} {S : am_S} {M : am_M} {L : am_L} {b : Int32} : am_cal X pt30 d 184 [.ref 70, .int b] S M L K = (0 ≤ d ∧ (am_env S ∧ vp_in b 16 ∧ vp_in (M 79 b.toNatClampNeg) 4) ∧ K (some (.int (M 77 (M 79 b.toNatClampNeg).toNatClampNeg))) S (M) (L)) := cal_R_trialsOf (show pt30 184 = some f_R_trialsOf from rfl)
theorem pt30_Program_joinBy {X : am_X} {d : Nat} {K : am_K} {S : am_S} {M : am_M} {L : am_L} {sg : Int32} {x : Int32} {y : Int32} : am_cal X pt30 d 72 [.int sg, .int x, .int y] S M L K = (0 ≤ d ∧ (True) ∧ K (some (.int (jbI sg x y))) S (M) (L)) := cal_Program_joinBy (show pt30 72 = some f_Program_joinBy from rfl)
theorem pt30_R_brought {X : am_X} {d : Nat} {K : am_K} {S : am_S} {M : am_M} {L : am_L} {w : Int64} : am_cal X pt30 d 207 [.long w] S M L K = (1 ≤ d ∧ (True) ∧ K (some (.int (clp w))) S (M) (L)) := cal_R_brought (show pt30 207 = some f_R_brought from rfl)
theorem jb_op {x y : Int32} {v : Nat} (hv : v < 6) : jbI (tkc (nI (20001 + v)) - 20000) x y = opE (nI (20001 + v)) x y := by
  have q : v = 0 ∨ v = 1 ∨ v = 2 ∨ v = 3 ∨ v = 4 ∨ v = 5 := by omega
  rcases q with rfl | rfl | rfl | rfl | rfl | rfl <;> rfl
end T26
