section T19
variable {X : am_X} {d : Nat} {K : am_K} {S : am_S} {M : am_M} {L : am_L} {V : am_M}
abbrev cryP (V : am_M) (b t : Nat) : Prop := ¬ V 82 b = -1 ∧ V 82 b ≤ nI t
/-- lengths of a gaze, as the reference goes through them -/
def plR (g : Nat → Nat) (w le : Nat) : Nat → Nat → Nat → Nat → Nat
  | 0, _, lk, _ => lk
  | r + 1, i, lk, aw => if i % 2 = 1 ∨ g i < le then plR g w le r (i + 1) lk (aw + g i) else if 0 < lk ∧ w ≤ aw then lk else plR g w le r (i + 1) (lk + g i) 0
/-- and as the class does -/
def plL (g : Nat → Nat) (w le : Nat) : Nat → Nat → Nat → Nat → Nat
  | 0, _, lk, _ => lk
  | r + 1, i, lk, aw => if i % 2 = 1 ∨ g i < le then (if 0 < lk ∧ w ≤ aw + g i then lk else plL g w le r (i + 1) lk (aw + g i)) else plL g w le r (i + 1) (lk + g i) 0
theorem plR_stop {g : Nat → Nat} {w le : Nat} : ∀ (r i lk aw : Nat), 0 < lk → w ≤ aw → plR g w le r i lk aw = lk := by
  intro r
  induction r with
  | zero => intros; rfl
  | succ r ih =>
    intro i lk aw h1 h2
    unfold plR
    by_cases h : i % 2 = 1 ∨ g i < le
    · rw [if_pos h]; exact ih _ _ _ h1 (by omega)
    · rw [if_neg h, if_pos ⟨h1, h2⟩]
theorem plL_eq {g : Nat → Nat} {w le : Nat} (hw : 1 ≤ w) : ∀ (r i lk aw : Nat), ¬ (0 < lk ∧ w ≤ aw) → plL g w le r i lk aw = plR g w le r i lk aw := by
  intro r
  induction r with
  | zero => intros; rfl
  | succ r ih =>
    intro i lk aw h1
    unfold plL plR
    by_cases h : i % 2 = 1 ∨ g i < le
    · rw [if_pos h, if_pos h]
      by_cases h2 : 0 < lk ∧ w ≤ aw + g i
      · rw [if_pos h2, plR_stop _ _ _ _ h2.1 h2.2]
      · rw [if_neg h2]; exact ih _ _ _ h2
    · rw [if_neg h, if_neg h, if_neg h1]
      exact ih _ _ _ (by omega)
def gzN (V : am_M) (q i : Nat) : Nat := nm (V 85 (8 * q + i))
def plN (V : am_M) (b t : Nat) : Nat := plR (gzN V (8 * b + t)) (nm (V 70 18)) (nm (V 70 20)) (nm (V 84 (8 * b + t))) 0 0 0
def plainO (V : am_M) (b t : Nat) : Option Nat := if cryP V b t then none else if plN V b t = 0 then none else some (min (nm (V 70 19)) (plN V b t))
theorem c_Lab_gazeSize {b t : Int32} (hp : am_env S ∧ vp_in (b * 8 + t) 128) (k : K (some (.int (M 38 (b * 8 + t).toNatClampNeg))) S M L) : am_Call X d m_Lab_gazeSize [.ref 31, .int b, .int t] S M L K := by
  have hE := hp.1
  refine EE_Lab_gazeSize pt23_ok ?_
  simp only [s_aload_0_ref, s_bipush, s_get2, s_iadd, s_iald, s_iload_1_int, s_iload_2_int, s_imul, s_ireturn, J_Lab_gazeSize_0, b_Lab_gazeSize_0, s_end, true_and, and_true, or_true, true_or, if_true, if_false, ite_true, ite_false, List.map_nil, List.map_cons, List.sum_nil, List.sum_cons, List.nil_append, List.cons_append, Option.toList_some, Option.toList_none, Nat.reduceAdd, Nat.reduceLeDiff, Nat.reduceSub, Nat.zero_le, List.headD_cons, List.tail_cons, List.length_cons, List.length_nil, ne_eq, reduceCtorEq, false_or, or_false, not_false_eq_true, Nat.reduceEqDiff, Nat.reduceLT, am_sw, bI_0, bI_z, bI_y, Classical.not_not, Nat.le_add_left, am_u_row2, am_r_row2, am_u_same, am_u_at, am_r_same, Int32.reduceLT, Int32.reduceLE, Int32.reduceAdd, Int32.reduceSub, Int32.reduceMul, forall_const, not_true_eq_false, implies_true, false_imp_iff, true_imp_iff, i_10, i_01, i_m10, i_m11, eq_self, or_self, false_and, and_false, and_self, am_so_some, am_pv_some, am_pv_none, l_cl_none, l_cl_int, l_cl_ref, l_cl_ra, l_cl_null, l_cl_long, cat_int, cat_ref, cat_long, cat_ra, cat_null, cl_0, cl_1, cl_2, cl_3, cl_4, cl_5, cl_6, cl_7, cl_8, cl_9, cl_10, cl_11, cl_12, cl_13, cl_14, cl_15, cl_16, cl_30, cl_64, cl_500, vl_0_2, vl_0_3, vl_0_4, vl_0_6, vl_0_7, vl_0_12, vl_0_16, vl_0_1400, vl_1_2, vl_1_3, vl_1_4, vl_1_6, vl_1_7, vl_1_12, vl_1_16, vl_1_1400, vl_2_3, vl_2_4, vl_2_6, vl_2_7, vl_2_12, vl_2_16, vl_2_1400, vl_3_4, vl_3_6, vl_3_7, vl_3_12, vl_3_16, vl_3_1400, vl_4_6, vl_4_7, vl_4_12, vl_4_16, vl_4_1400, vl_5_6, vl_5_7, vl_5_12, vl_5_16, vl_5_1400, vl_6_7, vl_6_12, vl_6_16, vl_6_1400, vl_7_12, vl_7_16, vl_8_12, vl_8_16, vl_9_12, vl_9_16, vl_10_12, vl_10_16, vl_11_12, vl_11_16, i_64le_e, i64a_0, i64b_0, i64a_1, i64b_1, i64a_2, i64b_2, i64a_3, i64b_3, i64a_4, i64b_4, i64a_5, i64b_5, i64a_7, i64b_7, i64a_8, i64b_8, i64a_9, i64b_9, i64a_10, i64b_10, i64a_16, i64b_16, i64a_50, i64b_50, i64a_m50, i64b_m50, i64a_60, i64b_60, i64a_99, i64b_99, i64a_100, i64b_100, i64a_500, i64b_500, i64a_600, i64b_600, i64a_1000, i64b_1000, i64a_1000000, i64b_1000000, i64a_m9, i64b_m9, e_s_31, e_i_31, e_l_31, e_p_31_0, e_p_31_1, e_p_31_2, e_p_31_3, e_p_31_4, e_p_31_5, e_p_31_6, e_s_32, e_i_32, e_l_32, e_s_33, e_i_33, e_l_33, e_s_34, e_i_34, e_l_34, e_s_35, e_i_35, e_l_35, e_s_36, e_i_36, e_l_36, e_s_37, e_i_37, e_l_37, e_s_38, e_i_38, e_l_38, hE]
  exact ⟨hp.2, k⟩
theorem c_Lab_gazeAt {b t i : Int32} (hp : am_env S ∧ vp_in ((b * 8 + t) * 8 + i) 1024) (k : K (some (.int (M 37 ((b * 8 + t) * 8 + i).toNatClampNeg))) S M L) : am_Call X d m_Lab_gazeAt [.ref 31, .int b, .int t, .int i] S M L K := by
  have hE := hp.1
  refine EE_Lab_gazeAt pt23_ok ?_
  simp only [s_aload_0_ref, s_bipush, s_get2, s_iadd, s_iald, s_iload_1_int, s_iload_2_int, s_iload_3_int, s_imul, s_ireturn, J_Lab_gazeAt_0, b_Lab_gazeAt_0, s_end, true_and, and_true, or_true, true_or, if_true, if_false, ite_true, ite_false, List.map_nil, List.map_cons, List.sum_nil, List.sum_cons, List.nil_append, List.cons_append, Option.toList_some, Option.toList_none, Nat.reduceAdd, Nat.reduceLeDiff, Nat.reduceSub, Nat.zero_le, List.headD_cons, List.tail_cons, List.length_cons, List.length_nil, ne_eq, reduceCtorEq, false_or, or_false, not_false_eq_true, Nat.reduceEqDiff, Nat.reduceLT, am_sw, bI_0, bI_z, bI_y, Classical.not_not, Nat.le_add_left, am_u_row2, am_r_row2, am_u_same, am_u_at, am_r_same, Int32.reduceLT, Int32.reduceLE, Int32.reduceAdd, Int32.reduceSub, Int32.reduceMul, forall_const, not_true_eq_false, implies_true, false_imp_iff, true_imp_iff, i_10, i_01, i_m10, i_m11, eq_self, or_self, false_and, and_false, and_self, am_so_some, am_pv_some, am_pv_none, l_cl_none, l_cl_int, l_cl_ref, l_cl_ra, l_cl_null, l_cl_long, cat_int, cat_ref, cat_long, cat_ra, cat_null, cl_0, cl_1, cl_2, cl_3, cl_4, cl_5, cl_6, cl_7, cl_8, cl_9, cl_10, cl_11, cl_12, cl_13, cl_14, cl_15, cl_16, cl_30, cl_64, cl_500, vl_0_2, vl_0_3, vl_0_4, vl_0_6, vl_0_7, vl_0_12, vl_0_16, vl_0_1400, vl_1_2, vl_1_3, vl_1_4, vl_1_6, vl_1_7, vl_1_12, vl_1_16, vl_1_1400, vl_2_3, vl_2_4, vl_2_6, vl_2_7, vl_2_12, vl_2_16, vl_2_1400, vl_3_4, vl_3_6, vl_3_7, vl_3_12, vl_3_16, vl_3_1400, vl_4_6, vl_4_7, vl_4_12, vl_4_16, vl_4_1400, vl_5_6, vl_5_7, vl_5_12, vl_5_16, vl_5_1400, vl_6_7, vl_6_12, vl_6_16, vl_6_1400, vl_7_12, vl_7_16, vl_8_12, vl_8_16, vl_9_12, vl_9_16, vl_10_12, vl_10_16, vl_11_12, vl_11_16, i_64le_e, i64a_0, i64b_0, i64a_1, i64b_1, i64a_2, i64b_2, i64a_3, i64b_3, i64a_4, i64b_4, i64a_5, i64b_5, i64a_7, i64b_7, i64a_8, i64b_8, i64a_9, i64b_9, i64a_10, i64b_10, i64a_16, i64b_16, i64a_50, i64b_50, i64a_m50, i64b_m50, i64a_60, i64b_60, i64a_99, i64b_99, i64a_100, i64b_100, i64a_500, i64b_500, i64a_600, i64b_600, i64a_1000, i64b_1000, i64a_1000000, i64b_1000000, i64a_m9, i64b_m9, e_s_31, e_i_31, e_l_31, e_p_31_0, e_p_31_1, e_p_31_2, e_p_31_3, e_p_31_4, e_p_31_5, e_p_31_6, e_s_32, e_i_32, e_l_32, e_s_33, e_i_33, e_l_33, e_s_34, e_i_34, e_l_34, e_s_35, e_i_35, e_l_35, e_s_36, e_i_36, e_l_36, e_s_37, e_i_37, e_l_37, e_s_38, e_i_38, e_l_38, hE]
  exact ⟨hp.2, k⟩
theorem c_Lab_isCrying {b t : Int32} (hp : am_env S ∧ vp_in b 16) (k : K (some (.int (bI (¬ M 35 b.toNatClampNeg = -1 ∧ M 35 b.toNatClampNeg ≤ t)))) S M L) : am_Call X d m_Lab_isCrying [.ref 31, .int b, .int t] S M L K := by
  have hE := hp.1
  refine EE_Lab_isCrying pt23_ok ?_
  simp only [s_aload_0_ref, s_get2, s_goto, s_iald, s_ic_eq, s_ic_lt, s_iconst, s_iload_1_int, s_iload_2_int, s_ireturnZ, J_Lab_isCrying_0, b_Lab_isCrying_0, J_Lab_isCrying_24, b_Lab_isCrying_24, J_Lab_isCrying_25, b_Lab_isCrying_25, s_end, true_and, and_true, or_true, true_or, if_true, if_false, ite_true, ite_false, List.map_nil, List.map_cons, List.sum_nil, List.sum_cons, List.nil_append, List.cons_append, Option.toList_some, Option.toList_none, Nat.reduceAdd, Nat.reduceLeDiff, Nat.reduceSub, Nat.zero_le, List.headD_cons, List.tail_cons, List.length_cons, List.length_nil, ne_eq, reduceCtorEq, false_or, or_false, not_false_eq_true, Nat.reduceEqDiff, Nat.reduceLT, am_sw, bI_0, bI_z, bI_y, Classical.not_not, Nat.le_add_left, am_u_row2, am_r_row2, am_u_same, am_u_at, am_r_same, Int32.reduceLT, Int32.reduceLE, Int32.reduceAdd, Int32.reduceSub, Int32.reduceMul, forall_const, not_true_eq_false, implies_true, false_imp_iff, true_imp_iff, i_10, i_01, i_m10, i_m11, eq_self, or_self, false_and, and_false, and_self, am_so_some, am_pv_some, am_pv_none, l_cl_none, l_cl_int, l_cl_ref, l_cl_ra, l_cl_null, l_cl_long, cat_int, cat_ref, cat_long, cat_ra, cat_null, cl_0, cl_1, cl_2, cl_3, cl_4, cl_5, cl_6, cl_7, cl_8, cl_9, cl_10, cl_11, cl_12, cl_13, cl_14, cl_15, cl_16, cl_30, cl_64, cl_500, vl_0_2, vl_0_3, vl_0_4, vl_0_6, vl_0_7, vl_0_12, vl_0_16, vl_0_1400, vl_1_2, vl_1_3, vl_1_4, vl_1_6, vl_1_7, vl_1_12, vl_1_16, vl_1_1400, vl_2_3, vl_2_4, vl_2_6, vl_2_7, vl_2_12, vl_2_16, vl_2_1400, vl_3_4, vl_3_6, vl_3_7, vl_3_12, vl_3_16, vl_3_1400, vl_4_6, vl_4_7, vl_4_12, vl_4_16, vl_4_1400, vl_5_6, vl_5_7, vl_5_12, vl_5_16, vl_5_1400, vl_6_7, vl_6_12, vl_6_16, vl_6_1400, vl_7_12, vl_7_16, vl_8_12, vl_8_16, vl_9_12, vl_9_16, vl_10_12, vl_10_16, vl_11_12, vl_11_16, i_64le_e, i64a_0, i64b_0, i64a_1, i64b_1, i64a_2, i64b_2, i64a_3, i64b_3, i64a_4, i64b_4, i64a_5, i64b_5, i64a_7, i64b_7, i64a_8, i64b_8, i64a_9, i64b_9, i64a_10, i64b_10, i64a_16, i64b_16, i64a_50, i64b_50, i64a_m50, i64b_m50, i64a_60, i64b_60, i64a_99, i64b_99, i64a_100, i64b_100, i64a_500, i64b_500, i64a_600, i64b_600, i64a_1000, i64b_1000, i64a_1000000, i64b_1000000, i64a_m9, i64b_m9, e_s_31, e_i_31, e_l_31, e_p_31_0, e_p_31_1, e_p_31_2, e_p_31_3, e_p_31_4, e_p_31_5, e_p_31_6, e_s_32, e_i_32, e_l_32, e_s_33, e_i_33, e_l_33, e_s_34, e_i_34, e_l_34, e_s_35, e_i_35, e_l_35, e_s_36, e_i_36, e_l_36, e_s_37, e_i_37, e_l_37, e_s_38, e_i_38, e_l_38, hE]
  refine ⟨hp.2, fun h => ?_, fun h => ⟨hp.2, fun h2 => ?_, fun h2 => ?_⟩⟩
  · rw [bI_f (fun q => q.1 h)] at k; exact k
  · rw [bI_f (fun q => absurd h2 (Int32.not_lt.mpr q.2))] at k; exact k
  · rw [bI_t ⟨h, i_lt_of h2⟩] at k; exact k
def f_Lab_gazeSize : List Value → am_S → am_M → am_L → Option (Prop × Nat × Option Value × am_M × am_L) := fun avs S M L => match avs with
  | [.ref 31, .int b, .int t] => some (am_env S ∧ vp_in (b * 8 + t) 128, 0, some (.int (M 38 (b * 8 + t).toNatClampNeg)), M, L)
  | _ => none
theorem cal_Lab_gazeSize {X : am_X} {PT : am_PT} {d : Nat} {K : am_K} {S : am_S} {M : am_M} {L : am_L} {b : Int32} {t : Int32} (hPT9 : PT 27 = some f_Lab_gazeSize) : am_cal X PT d 27 [.ref 31, .int b, .int t] S M L K = (0 ≤ d ∧ (am_env S ∧ vp_in (b * 8 + t) 128) ∧ K (some (.int (M 38 (b * 8 + t).toNatClampNeg))) S (M) (L)) := by
  unfold am_cal
  rw [hPT9]
  exact propext Iff.rfl
theorem g_Lab_gazeSize : am_PTf 27 f_Lab_gazeSize := by
  intro avs S M L o h hp X d K k
  unfold f_Lab_gazeSize at h
  split at h
  · cases h
    exact c_Lab_gazeSize hp k
  · cases h
def f_Lab_gazeAt : List Value → am_S → am_M → am_L → Option (Prop × Nat × Option Value × am_M × am_L) := fun avs S M L => match avs with
  | [.ref 31, .int b, .int t, .int i] => some (am_env S ∧ vp_in ((b * 8 + t) * 8 + i) 1024, 0, some (.int (M 37 ((b * 8 + t) * 8 + i).toNatClampNeg)), M, L)
  | _ => none
theorem cal_Lab_gazeAt {X : am_X} {PT : am_PT} {d : Nat} {K : am_K} {S : am_S} {M : am_M} {L : am_L} {b : Int32} {t : Int32} {i : Int32} (hPT9 : PT 28 = some f_Lab_gazeAt) : am_cal X PT d 28 [.ref 31, .int b, .int t, .int i] S M L K = (0 ≤ d ∧ (am_env S ∧ vp_in ((b * 8 + t) * 8 + i) 1024) ∧ K (some (.int (M 37 ((b * 8 + t) * 8 + i).toNatClampNeg))) S (M) (L)) := by
  unfold am_cal
  rw [hPT9]
  exact propext Iff.rfl
theorem g_Lab_gazeAt : am_PTf 28 f_Lab_gazeAt := by
  intro avs S M L o h hp X d K k
  unfold f_Lab_gazeAt at h
  split at h
  · cases h
    exact c_Lab_gazeAt hp k
  · cases h
def f_Lab_isCrying : List Value → am_S → am_M → am_L → Option (Prop × Nat × Option Value × am_M × am_L) := fun avs S M L => match avs with
  | [.ref 31, .int b, .int t] => some (am_env S ∧ vp_in b 16, 0, some (.int (bI (¬ M 35 b.toNatClampNeg = -1 ∧ M 35 b.toNatClampNeg ≤ t))), M, L)
  | _ => none
theorem cal_Lab_isCrying {X : am_X} {PT : am_PT} {d : Nat} {K : am_K} {S : am_S} {M : am_M} {L : am_L} {b : Int32} {t : Int32} (hPT9 : PT 31 = some f_Lab_isCrying) : am_cal X PT d 31 [.ref 31, .int b, .int t] S M L K = (0 ≤ d ∧ (am_env S ∧ vp_in b 16) ∧ K (some (.int (bI (¬ M 35 b.toNatClampNeg = -1 ∧ M 35 b.toNatClampNeg ≤ t)))) S (M) (L)) := by
  unfold am_cal
  rw [hPT9]
  exact propext Iff.rfl
theorem g_Lab_isCrying : am_PTf 31 f_Lab_isCrying := by
  intro avs S M L o h hp X d K k
  unfold f_Lab_isCrying at h
  split at h
  · cases h
    exact c_Lab_isCrying hp k
  · cases h
def pt24 : am_PT := am_add pt23 27 f_Lab_gazeSize
theorem pt24_ok : am_PTok pt24 := am_add_ok pt23_ok g_Lab_gazeSize
def pt25 : am_PT := am_add pt24 28 f_Lab_gazeAt
theorem pt25_ok : am_PTok pt25 := am_add_ok pt24_ok g_Lab_gazeAt
def pt26 : am_PT := am_add pt25 31 f_Lab_isCrying
theorem pt26_ok : am_PTok pt26 := am_add_ok pt25_ok g_Lab_isCrying
theorem pt26_L_within {X : am_X} {d : Nat} {K : am_K} {S : am_S} {M : am_M} {L : am_L} {n : Int32} {lo : Int32} {hi : Int32} : am_cal X pt26 d 156 [.int n, .int lo, .int hi] S M L K = (0 ≤ d ∧ (True) ∧ K (some (.int (bI (lo ≤ n ∧ n ≤ hi)))) S (M) (L)) := cal_L_within (show pt26 156 = some f_L_within from rfl)
theorem pt26_L_brought {X : am_X} {d : Nat} {K : am_K} {S : am_S} {M : am_M} {L : am_L} {n : Int32} {lo : Int32} {hi : Int32} : am_cal X pt26 d 157 [.int n, .int lo, .int hi] S M L K = (1 ≤ d ∧ (True) ∧ K (some (.int (bro n lo hi))) S (M) (L)) := cal_L_brought (show pt26 157 = some f_L_brought from rfl)
theorem pt26_L_refuse {X : am_X} {d : Nat} {K : am_K} {S : am_S} {M : am_M} {L : am_L} {r : Int32} : am_cal X pt26 d 151 [.ref 0, .int r] S M L K = (0 ≤ d ∧ (am_env S ∧ vp_in r 3) ∧ K (some (.int (-1))) S (rfL M r.toNatClampNeg) (L)) := cal_L_refuse (show pt26 151 = some f_L_refuse from rfl)
theorem pt26_L_deny {X : am_X} {d : Nat} {K : am_K} {S : am_S} {M : am_M} {L : am_L} {r : Int32} : am_cal X pt26 d 152 [.ref 0, .int r] S M L K = (0 ≤ d ∧ (am_env S ∧ vp_in r 3) ∧ K (some (.int 0)) S (rfL M r.toNatClampNeg) (L)) := cal_L_deny (show pt26 152 = some f_L_deny from rfl)
theorem pt26_R_in {X : am_X} {d : Nat} {K : am_K} {S : am_S} {M : am_M} {L : am_L} {v : Int64} {lo : Int64} {hi : Int64} : am_cal X pt26 d 159 [.long v, .long lo, .long hi] S M L K = (0 ≤ d ∧ (True) ∧ K (some (.int (bI (lo ≤ v ∧ v ≤ hi)))) S (M) (L)) := cal_R_in (show pt26 159 = some f_R_in from rfl)
theorem pt26_R_refuse {X : am_X} {d : Nat} {K : am_K} {S : am_S} {M : am_M} {L : am_L} {a : Int32} {b : Int32} : am_cal X pt26 d 160 [.ref 70, .int a, .int b] S M L K = (0 ≤ d ∧ (am_env S) ∧ K (some (.int (-1))) S (rfR M (rsn a b)) (L)) := cal_R_refuse (show pt26 160 = some f_R_refuse from rfl)
theorem pt26_R_deny {X : am_X} {d : Nat} {K : am_K} {S : am_S} {M : am_M} {L : am_L} {a : Int32} {b : Int32} : am_cal X pt26 d 161 [.ref 70, .int a, .int b] S M L K = (1 ≤ d ∧ (am_env S) ∧ K (some (.int 0)) S (rfR M (rsn a b)) (L)) := cal_R_deny (show pt26 161 = some f_R_deny from rfl)
theorem pt26_R_isScreen {X : am_X} {d : Nat} {K : am_K} {S : am_S} {M : am_M} {L : am_L} {s : Int32} : am_cal X pt26 d 165 [.ref 70, .int s] S M L K = (1 ≤ d ∧ (am_env S) ∧ K (some (.int (bI (0 ≤ s ∧ s ≤ M 70 8 - 1)))) S (M) (L)) := cal_R_isScreen (show pt26 165 = some f_R_isScreen from rfl)
theorem pt26_R_isPlan {X : am_X} {d : Nat} {K : am_K} {S : am_S} {M : am_M} {L : am_L} {s : Int32} : am_cal X pt26 d 169 [.ref 70, .int s] S M L K = (1 ≤ d ∧ (am_env S) ∧ K (some (.int (bI (0 ≤ s ∧ s ≤ M 70 9 - 1)))) S (M) (L)) := cal_R_isPlan (show pt26 169 = some f_R_isPlan from rfl)
theorem pt26_R_isBaby {X : am_X} {d : Nat} {K : am_K} {S : am_S} {M : am_M} {L : am_L} {s : Int32} : am_cal X pt26 d 173 [.ref 70, .int s] S M L K = (1 ≤ d ∧ (am_env S) ∧ K (some (.int (bI (0 ≤ s ∧ s ≤ M 70 17 - 1)))) S (M) (L)) := cal_R_isBaby (show pt26 173 = some f_R_isBaby from rfl)
theorem pt26_R_isLaw {X : am_X} {d : Nat} {K : am_K} {S : am_S} {M : am_M} {L : am_L} {s : Int32} : am_cal X pt26 d 209 [.ref 70, .int s] S M L K = (1 ≤ d ∧ (am_env S) ∧ K (some (.int (bI (0 ≤ s ∧ s ≤ M 97 0 - 1)))) S (M) (L)) := cal_R_isLaw (show pt26 209 = some f_R_isLaw from rfl)
theorem pt26_R_isOdd {X : am_X} {d : Nat} {K : am_K} {S : am_S} {M : am_M} {L : am_L} {s : Int32} : am_cal X pt26 d 166 [.ref 70, .int s] S M L K = (0 ≤ d ∧ (am_env S ∧ vp_in s 12) ∧ K (some (.int (bI (oddP (M 73) (M 74) (M 75) s.toNatClampNeg)))) S (M) (L)) := cal_R_isOdd (show pt26 166 = some f_R_isOdd from rfl)
theorem pt26_Stage_isOdd {X : am_X} {d : Nat} {K : am_K} {S : am_S} {M : am_M} {L : am_L} {s : Int32} : am_cal X pt26 d 77 [.ref 23, .int s] S M L K = (0 ≤ d ∧ (am_env S ∧ vp_in s 12) ∧ K (some (.int (bI (oddP (M 25) (M 26) (M 27) s.toNatClampNeg)))) S (M) (L)) := cal_Stage_isOdd (show pt26 77 = some f_Stage_isOdd from rfl)
theorem pt26_Stage_hasScreen {X : am_X} {d : Nat} {K : am_K} {S : am_S} {M : am_M} {L : am_L} {s : Int32} : am_cal X pt26 d 74 [.ref 23, .int s] S M L K = (0 ≤ d ∧ (am_env S) ∧ K (some (.int (bI (0 ≤ s ∧ s < M 23 7)))) S (M) (L)) := cal_Stage_hasScreen (show pt26 74 = some f_Stage_hasScreen from rfl)
theorem pt26_Stage_hasPlan {X : am_X} {d : Nat} {K : am_K} {S : am_S} {M : am_M} {L : am_L} {s : Int32} : am_cal X pt26 d 75 [.ref 23, .int s] S M L K = (0 ≤ d ∧ (am_env S) ∧ K (some (.int (bI (0 ≤ s ∧ s < M 23 8)))) S (M) (L)) := cal_Stage_hasPlan (show pt26 75 = some f_Stage_hasPlan from rfl)
theorem pt26_Lab_hasBaby {X : am_X} {d : Nat} {K : am_K} {S : am_S} {M : am_M} {L : am_L} {s : Int32} : am_cal X pt26 d 23 [.ref 31, .int s] S M L K = (0 ≤ d ∧ (am_env S) ∧ K (some (.int (bI (0 ≤ s ∧ s < M 31 7)))) S (M) (L)) := cal_Lab_hasBaby (show pt26 23 = some f_Lab_hasBaby from rfl)
theorem pt26_Program_hasLaw {X : am_X} {d : Nat} {K : am_K} {S : am_S} {M : am_M} {L : am_L} {s : Int32} : am_cal X pt26 d 65 [.ref 16, .int s] S M L K = (0 ≤ d ∧ (am_env S) ∧ K (some (.int (bI (0 ≤ s ∧ s < M 16 7)))) S (M) (L)) := cal_Program_hasLaw (show pt26 65 = some f_Program_hasLaw from rfl)
theorem pt26_Finder_forget {X : am_X} {d : Nat} {K : am_K} {S : am_S} {M : am_M} {L : am_L}  : am_cal X pt26 d 4 [.ref 62] S M L K = (0 ≤ d ∧ (am_env S) ∧ K (none) S (am_u M 62 8 0) (L)) := cal_Finder_forget (show pt26 4 = some f_Finder_forget from rfl)
theorem pt26_Stage_addPlan {X : am_X} {d : Nat} {K : am_K} {S : am_S} {M : am_M} {L : am_L}  : am_cal X pt26 d 80 [.ref 23] S M L K = (0 ≤ d ∧ (am_env S ∧ vp_in (M 23 8) 4) ∧ K (some (.int (M 23 8))) S (am_u (am_u M 30 (M 23 8).toNatClampNeg 0) 23 8 (M 23 8 + 1)) (L)) := cal_Stage_addPlan (show pt26 80 = some f_Stage_addPlan from rfl)
theorem pt26_Stage_addScreen {X : am_X} {d : Nat} {K : am_K} {S : am_S} {M : am_M} {L : am_L} {f : Int32} {h : Int32} {s : Int32} {q : Int32} : am_cal X pt26 d 79 [.ref 23, .int f, .int h, .int s, .int q] S M L K = (0 ≤ d ∧ (am_env S ∧ vp_in (M 23 7) 12) ∧ K (some (.int (M 23 7))) S (am_u (am_u (am_u (am_u (am_u M 25 (M 23 7).toNatClampNeg f) 26 (M 23 7).toNatClampNeg h) 27 (M 23 7).toNatClampNeg s) 28 (M 23 7).toNatClampNeg q) 23 7 (M 23 7 + 1)) (L)) := cal_Stage_addScreen (show pt26 79 = some f_Stage_addScreen from rfl)
theorem pt26_Stage_screenOf {X : am_X} {d : Nat} {K : am_K} {S : am_S} {M : am_M} {L : am_L} {p : Int32} {t : Int32} : am_cal X pt26 d 78 [.ref 23, .int p, .int t] S M L K = (0 ≤ d ∧ (am_env S ∧ vp_in (p * 8 + t) 32) ∧ K (some (.int (M 29 (p * 8 + t).toNatClampNeg))) S (M) (L)) := cal_Stage_screenOf (show pt26 78 = some f_Stage_screenOf from rfl)
theorem pt26_Stage_hasTrial {X : am_X} {d : Nat} {K : am_K} {S : am_S} {M : am_M} {L : am_L} {p : Int32} {t : Int32} : am_cal X pt26 d 76 [.ref 23, .int p, .int t] S M L K = (1 ≤ d ∧ (am_env S ∧ (0 ≤ p ∧ p < M 23 8 → vp_in p 4)) ∧ K (some (.int (bI ((0 ≤ p ∧ p < M 23 8) ∧ 0 ≤ t ∧ t < M 30 p.toNatClampNeg)))) S (M) (L)) := cal_Stage_hasTrial (show pt26 76 = some f_Stage_hasTrial from rfl)
theorem pt26_Stage_addTrial {X : am_X} {d : Nat} {K : am_K} {S : am_S} {M : am_M} {L : am_L} {p : Int32} {s : Int32} : am_cal X pt26 d 81 [.ref 23, .int p, .int s] S M L K = (0 ≤ d ∧ (am_env S ∧ vp_in p 4 ∧ vp_in (p * 8 + M 30 p.toNatClampNeg) 32) ∧ K (some (.int (M 30 p.toNatClampNeg + 1))) S (am_u (am_u M 29 (p * 8 + M 30 p.toNatClampNeg).toNatClampNeg s) 30 p.toNatClampNeg (M 30 p.toNatClampNeg + 1)) (L)) := cal_Stage_addTrial (show pt26 81 = some f_Stage_addTrial from rfl)
theorem pt26_Lab_gazeSize {X : am_X} {d : Nat} {K : am_K} {S : am_S} {M : am_M} {L : am_L} {b : Int32} {t : Int32} : am_cal X pt26 d 27 [.ref 31, .int b, .int t] S M L K = (0 ≤ d ∧ (am_env S ∧ vp_in (b * 8 + t) 128) ∧ K (some (.int (M 38 (b * 8 + t).toNatClampNeg))) S (M) (L)) := cal_Lab_gazeSize (show pt26 27 = some f_Lab_gazeSize from rfl)
theorem pt26_Lab_gazeAt {X : am_X} {d : Nat} {K : am_K} {S : am_S} {M : am_M} {L : am_L} {b : Int32} {t : Int32} {i : Int32} : am_cal X pt26 d 28 [.ref 31, .int b, .int t, .int i] S M L K = (0 ≤ d ∧ (am_env S ∧ vp_in ((b * 8 + t) * 8 + i) 1024) ∧ K (some (.int (M 37 ((b * 8 + t) * 8 + i).toNatClampNeg))) S (M) (L)) := cal_Lab_gazeAt (show pt26 28 = some f_Lab_gazeAt from rfl)
theorem pt26_Lab_isCrying {X : am_X} {d : Nat} {K : am_K} {S : am_S} {M : am_M} {L : am_L} {b : Int32} {t : Int32} : am_cal X pt26 d 31 [.ref 31, .int b, .int t] S M L K = (0 ≤ d ∧ (am_env S ∧ vp_in b 16) ∧ K (some (.int (bI (¬ M 35 b.toNatClampNeg = -1 ∧ M 35 b.toNatClampNeg ≤ t)))) S (M) (L)) := cal_Lab_isCrying (show pt26 31 = some f_Lab_isCrying from rfl)
theorem c_R_plain {b t : Nat} (hE : am_env S) (hR : RS V M) (hI : IV V) (hb : b < nB V) (ht : t < 8) (k : K (some (.int (oI (plainO V b t)))) S M L) : am_Call X (d + 1) m_R_plain [.ref 70, .int (nI b), .int (nI t)] S M L K := by
  have hb16 := hI.nb.2
  have e84 := hI.gm (8 * b + t) (by omega)
  have eg := hI.gz (8 * b + t)
  have ew := hI.w
  have em := hI.mo
  have el := hI.le
  unfold plainO plN at k
  generalize hg : gzN V (8 * b + t) = g at *
  have eg : ∀ i, i < nm (V 84 (8 * b + t)) → V 85 (8 * (8 * b + t) + i) = nI (g i) ∧ 1 ≤ g i ∧ g i ≤ 600 := by
    intro i hi
    rw [← hg]
    exact eg i (by omega) hi
  generalize nm (V 84 (8 * b + t)) = n at *
  generalize nm (V 70 18) = w at *
  generalize nm (V 70 19) = mo at *
  generalize nm (V 70 20) = le at *
  refine EE_R_plain pt26_ok ?_
  simp only [s_aload_0_ref, s_bipush, s_get0, s_get2, s_goto, s_iadd, s_iald, s_ic_eq, s_ic_ge, s_ic_lt, s_ic_ne, s_iconst, s_iinc_6, s_iload_1_int, s_iload_2_int, s_iload_3_int, s_iload_4_int, s_iload_5_int, s_iload_6_int, s_iload_7_int, s_imul, s_irem, s_ireturn, s_istore_3_int, s_istore_4_int, s_istore_5_int, s_istore_6_int, s_istore_7_int, s_mmin, J_R_plain_0, b_R_plain_0, J_R_plain_22, b_R_plain_22, J_R_plain_80, b_R_plain_80, J_R_plain_90, b_R_plain_90, J_R_plain_108, b_R_plain_108, J_R_plain_119, b_R_plain_119, J_R_plain_124, b_R_plain_124, J_R_plain_129, b_R_plain_129, J_R_plain_135, b_R_plain_135, J_R_plain_145, b_R_plain_145, J_R_plain_154, b_R_plain_154, J_R_plain_38, b_R_plain_38, s_end, true_and, and_true, or_true, true_or, if_true, if_false, ite_true, ite_false, List.map_nil, List.map_cons, List.sum_nil, List.sum_cons, List.nil_append, List.cons_append, Option.toList_some, Option.toList_none, Nat.reduceAdd, Nat.reduceLeDiff, Nat.reduceSub, Nat.zero_le, List.headD_cons, List.tail_cons, List.length_cons, List.length_nil, ne_eq, reduceCtorEq, false_or, or_false, not_false_eq_true, Nat.reduceEqDiff, Nat.reduceLT, am_sw, bI_0, bI_z, bI_y, Classical.not_not, Nat.le_add_left, am_u_row2, am_r_row2, am_u_same, am_u_at, am_r_same, Int32.reduceLT, Int32.reduceLE, Int32.reduceAdd, Int32.reduceSub, Int32.reduceMul, forall_const, not_true_eq_false, implies_true, false_imp_iff, true_imp_iff, i_10, i_01, i_m10, i_m11, eq_self, or_self, false_and, and_false, and_self, am_so_some, am_pv_some, am_pv_none, l_cl_none, l_cl_int, l_cl_ref, l_cl_ra, l_cl_null, l_cl_long, cat_int, cat_ref, cat_long, cat_ra, cat_null, cl_0, cl_1, cl_2, cl_3, cl_4, cl_5, cl_6, cl_7, cl_8, cl_9, cl_10, cl_11, cl_12, cl_13, cl_14, cl_15, cl_16, cl_30, cl_64, cl_500, vl_0_2, vl_0_3, vl_0_4, vl_0_6, vl_0_7, vl_0_12, vl_0_16, vl_0_1400, vl_1_2, vl_1_3, vl_1_4, vl_1_6, vl_1_7, vl_1_12, vl_1_16, vl_1_1400, vl_2_3, vl_2_4, vl_2_6, vl_2_7, vl_2_12, vl_2_16, vl_2_1400, vl_3_4, vl_3_6, vl_3_7, vl_3_12, vl_3_16, vl_3_1400, vl_4_6, vl_4_7, vl_4_12, vl_4_16, vl_4_1400, vl_5_6, vl_5_7, vl_5_12, vl_5_16, vl_5_1400, vl_6_7, vl_6_12, vl_6_16, vl_6_1400, vl_7_12, vl_7_16, vl_8_12, vl_8_16, vl_9_12, vl_9_16, vl_10_12, vl_10_16, vl_11_12, vl_11_16, i_64le_e, i64a_0, i64b_0, i64a_1, i64b_1, i64a_2, i64b_2, i64a_3, i64b_3, i64a_4, i64b_4, i64a_5, i64b_5, i64a_7, i64b_7, i64a_8, i64b_8, i64a_9, i64b_9, i64a_10, i64b_10, i64a_16, i64b_16, i64a_50, i64b_50, i64a_m50, i64b_m50, i64a_60, i64b_60, i64a_99, i64b_99, i64a_100, i64b_100, i64a_500, i64b_500, i64a_600, i64b_600, i64a_1000, i64b_1000, i64a_1000000, i64b_1000000, i64a_m9, i64b_m9, e_s_70, e_i_70, e_l_70, e_p_70_0, e_p_70_1, e_p_70_2, e_p_70_3, e_p_70_4, e_p_70_5, e_p_70_6, e_p_70_7, e_p_70_10, e_p_70_11, e_p_70_12, e_p_70_13, e_p_70_14, e_p_70_15, e_p_70_16, e_p_70_24, e_p_70_29, e_p_70_30, e_p_70_31, e_p_70_32, e_p_70_33, e_p_70_34, e_p_70_35, e_p_70_36, e_p_70_37, e_p_70_38, e_p_70_39, e_p_70_41, e_p_70_42, e_p_70_44, e_p_70_45, e_p_70_46, e_p_70_53, e_p_70_54, e_p_70_55, e_p_70_56, e_p_70_59, e_p_70_61, e_p_70_62, e_s_82, e_i_82, e_l_82, e_s_84, e_i_84, e_l_84, e_s_85, e_i_85, e_l_85, hR.r82, hR.r84, hR.r85, ix8, hE]
  have loop : ¬ cryP V b t → ∀ j i lk aw, i + j = n → lk ≤ 600 * i → aw ≤ 600 * i → plR g w le n 0 0 0 = plR g w le j i lk aw → ∀ v, am_WP X (d + 1) 181 38 [some (.ref 70), some (.int (nI b)), some (.int (nI t)), some (.int (nI (8 * b + t))), some (.int (if lk = 0 then -1 else nI lk)), some (.int (nI aw)), some (.int (nI i)), v] [] S (M) (L) 0 0 K := by
    intro hc j
    rw [if_neg hc] at k
    have fin : ∀ lk, lk ≤ 4800 → plR g w le n 0 0 0 = lk → K (some (.int (if lk = 0 then -1 else nI (min mo lk)))) S M L := by
      intro lk h0 h
      rw [h] at k
      by_cases h2 : lk = 0
      · rw [if_pos h2] at k ⊢; exact k
      · rw [if_neg h2] at k ⊢; exact k
    induction j with
    | zero =>
      intro i lk aw e h1 h2 h3 v
      refine H_R_plain_38 pt26_ok ?_
      simp only [s_aload_0_ref, s_bipush, s_get0, s_get2, s_goto, s_iadd, s_iald, s_ic_eq, s_ic_ge, s_ic_lt, s_ic_ne, s_iconst, s_iinc_6, s_iload_1_int, s_iload_2_int, s_iload_3_int, s_iload_4_int, s_iload_5_int, s_iload_6_int, s_iload_7_int, s_imul, s_irem, s_ireturn, s_istore_3_int, s_istore_4_int, s_istore_5_int, s_istore_6_int, s_istore_7_int, s_mmin, J_R_plain_0, b_R_plain_0, J_R_plain_22, b_R_plain_22, J_R_plain_80, b_R_plain_80, J_R_plain_90, b_R_plain_90, J_R_plain_108, b_R_plain_108, J_R_plain_119, b_R_plain_119, J_R_plain_124, b_R_plain_124, J_R_plain_129, b_R_plain_129, J_R_plain_135, b_R_plain_135, J_R_plain_145, b_R_plain_145, J_R_plain_154, b_R_plain_154, J_R_plain_38, b_R_plain_38, s_end, true_and, and_true, or_true, true_or, if_true, if_false, ite_true, ite_false, List.map_nil, List.map_cons, List.sum_nil, List.sum_cons, List.nil_append, List.cons_append, Option.toList_some, Option.toList_none, Nat.reduceAdd, Nat.reduceLeDiff, Nat.reduceSub, Nat.zero_le, List.headD_cons, List.tail_cons, List.length_cons, List.length_nil, ne_eq, reduceCtorEq, false_or, or_false, not_false_eq_true, Nat.reduceEqDiff, Nat.reduceLT, am_sw, bI_0, bI_z, bI_y, Classical.not_not, Nat.le_add_left, am_u_row2, am_r_row2, am_u_same, am_u_at, am_r_same, Int32.reduceLT, Int32.reduceLE, Int32.reduceAdd, Int32.reduceSub, Int32.reduceMul, forall_const, not_true_eq_false, implies_true, false_imp_iff, true_imp_iff, i_10, i_01, i_m10, i_m11, eq_self, or_self, false_and, and_false, and_self, am_so_some, am_pv_some, am_pv_none, l_cl_none, l_cl_int, l_cl_ref, l_cl_ra, l_cl_null, l_cl_long, cat_int, cat_ref, cat_long, cat_ra, cat_null, cl_0, cl_1, cl_2, cl_3, cl_4, cl_5, cl_6, cl_7, cl_8, cl_9, cl_10, cl_11, cl_12, cl_13, cl_14, cl_15, cl_16, cl_30, cl_64, cl_500, vl_0_2, vl_0_3, vl_0_4, vl_0_6, vl_0_7, vl_0_12, vl_0_16, vl_0_1400, vl_1_2, vl_1_3, vl_1_4, vl_1_6, vl_1_7, vl_1_12, vl_1_16, vl_1_1400, vl_2_3, vl_2_4, vl_2_6, vl_2_7, vl_2_12, vl_2_16, vl_2_1400, vl_3_4, vl_3_6, vl_3_7, vl_3_12, vl_3_16, vl_3_1400, vl_4_6, vl_4_7, vl_4_12, vl_4_16, vl_4_1400, vl_5_6, vl_5_7, vl_5_12, vl_5_16, vl_5_1400, vl_6_7, vl_6_12, vl_6_16, vl_6_1400, vl_7_12, vl_7_16, vl_8_12, vl_8_16, vl_9_12, vl_9_16, vl_10_12, vl_10_16, vl_11_12, vl_11_16, i_64le_e, i64a_0, i64b_0, i64a_1, i64b_1, i64a_2, i64b_2, i64a_3, i64b_3, i64a_4, i64b_4, i64a_5, i64b_5, i64a_7, i64b_7, i64a_8, i64b_8, i64a_9, i64b_9, i64a_10, i64b_10, i64a_16, i64b_16, i64a_50, i64b_50, i64a_m50, i64b_m50, i64a_60, i64b_60, i64a_99, i64b_99, i64a_100, i64b_100, i64a_500, i64b_500, i64a_600, i64b_600, i64a_1000, i64b_1000, i64a_1000000, i64b_1000000, i64a_m9, i64b_m9, e_s_70, e_i_70, e_l_70, e_p_70_0, e_p_70_1, e_p_70_2, e_p_70_3, e_p_70_4, e_p_70_5, e_p_70_6, e_p_70_7, e_p_70_10, e_p_70_11, e_p_70_12, e_p_70_13, e_p_70_14, e_p_70_15, e_p_70_16, e_p_70_24, e_p_70_29, e_p_70_30, e_p_70_31, e_p_70_32, e_p_70_33, e_p_70_34, e_p_70_35, e_p_70_36, e_p_70_37, e_p_70_38, e_p_70_39, e_p_70_41, e_p_70_42, e_p_70_44, e_p_70_45, e_p_70_46, e_p_70_53, e_p_70_54, e_p_70_55, e_p_70_56, e_p_70_59, e_p_70_61, e_p_70_62, e_s_82, e_i_82, e_l_82, e_s_84, e_i_84, e_l_84, e_s_85, e_i_85, e_l_85, hR.r82, hR.r84, hR.r85, hR.f18, hR.f19, hR.f20, ix8, hE]
      have e : i = n := by omega
      subst e
      simp (disch := omega) only [nI_clamp, e84.1]
      have q := fin lk (by omega) h3
      by_cases c1 : lk = 0
      · rw [if_pos c1] at q
        simp (disch := omega) only [c1, nI_clamp, nI_le', nI_lt', nI_eq', rem2_1, rem2_0, nI_eq0, nI_le0, nI_0lt, nI_0le, nI_lt0, nI_m1, vp_inE, nm_nI, i_20, nI_1, nI_add, and_true, true_and, and_self, or_true, true_or, or_false, false_or, false_and, and_false, not_true_eq_false, not_false_eq_true, if_true, if_false, ite_true, ite_false, false_imp_iff, true_imp_iff, rsn_00, rsn_10, rsn_01, rsn_11, n_09, n_19, n_29, n_99, implies_true, bI_t, bI_f, or_self, ne_eq, eq_self, Classical.not_not, Bool.false_eq_true]
        exact ⟨fun _ => q, fun h => absurd (Nat.le_refl _) h⟩
      · rw [if_neg c1] at q
        simp (disch := omega) only [c1, em.1, nI_min2, nI_clamp, nI_le', nI_lt', nI_eq', rem2_1, rem2_0, nI_eq0, nI_le0, nI_0lt, nI_0le, nI_lt0, nI_m1, vp_inE, nm_nI, i_20, nI_1, nI_add, and_true, true_and, and_self, or_true, true_or, or_false, false_or, false_and, and_false, not_true_eq_false, not_false_eq_true, if_true, if_false, ite_true, ite_false, false_imp_iff, true_imp_iff, rsn_00, rsn_10, rsn_01, rsn_11, n_09, n_19, n_29, n_99, implies_true, bI_t, bI_f, or_self, ne_eq, eq_self, Classical.not_not, Bool.false_eq_true]
        exact ⟨fun _ => q, fun h => absurd (Nat.le_refl _) h⟩
    | succ j ih =>
      intro i lk aw e h1 h2 h3 v
      refine H_R_plain_38 pt26_ok ?_
      simp only [s_aload_0_ref, s_bipush, s_get0, s_get2, s_goto, s_iadd, s_iald, s_ic_eq, s_ic_ge, s_ic_lt, s_ic_ne, s_iconst, s_iinc_6, s_iload_1_int, s_iload_2_int, s_iload_3_int, s_iload_4_int, s_iload_5_int, s_iload_6_int, s_iload_7_int, s_imul, s_irem, s_ireturn, s_istore_3_int, s_istore_4_int, s_istore_5_int, s_istore_6_int, s_istore_7_int, s_mmin, J_R_plain_0, b_R_plain_0, J_R_plain_22, b_R_plain_22, J_R_plain_80, b_R_plain_80, J_R_plain_90, b_R_plain_90, J_R_plain_108, b_R_plain_108, J_R_plain_119, b_R_plain_119, J_R_plain_124, b_R_plain_124, J_R_plain_129, b_R_plain_129, J_R_plain_135, b_R_plain_135, J_R_plain_145, b_R_plain_145, J_R_plain_154, b_R_plain_154, J_R_plain_38, b_R_plain_38, s_end, true_and, and_true, or_true, true_or, if_true, if_false, ite_true, ite_false, List.map_nil, List.map_cons, List.sum_nil, List.sum_cons, List.nil_append, List.cons_append, Option.toList_some, Option.toList_none, Nat.reduceAdd, Nat.reduceLeDiff, Nat.reduceSub, Nat.zero_le, List.headD_cons, List.tail_cons, List.length_cons, List.length_nil, ne_eq, reduceCtorEq, false_or, or_false, not_false_eq_true, Nat.reduceEqDiff, Nat.reduceLT, am_sw, bI_0, bI_z, bI_y, Classical.not_not, Nat.le_add_left, am_u_row2, am_r_row2, am_u_same, am_u_at, am_r_same, Int32.reduceLT, Int32.reduceLE, Int32.reduceAdd, Int32.reduceSub, Int32.reduceMul, forall_const, not_true_eq_false, implies_true, false_imp_iff, true_imp_iff, i_10, i_01, i_m10, i_m11, eq_self, or_self, false_and, and_false, and_self, am_so_some, am_pv_some, am_pv_none, l_cl_none, l_cl_int, l_cl_ref, l_cl_ra, l_cl_null, l_cl_long, cat_int, cat_ref, cat_long, cat_ra, cat_null, cl_0, cl_1, cl_2, cl_3, cl_4, cl_5, cl_6, cl_7, cl_8, cl_9, cl_10, cl_11, cl_12, cl_13, cl_14, cl_15, cl_16, cl_30, cl_64, cl_500, vl_0_2, vl_0_3, vl_0_4, vl_0_6, vl_0_7, vl_0_12, vl_0_16, vl_0_1400, vl_1_2, vl_1_3, vl_1_4, vl_1_6, vl_1_7, vl_1_12, vl_1_16, vl_1_1400, vl_2_3, vl_2_4, vl_2_6, vl_2_7, vl_2_12, vl_2_16, vl_2_1400, vl_3_4, vl_3_6, vl_3_7, vl_3_12, vl_3_16, vl_3_1400, vl_4_6, vl_4_7, vl_4_12, vl_4_16, vl_4_1400, vl_5_6, vl_5_7, vl_5_12, vl_5_16, vl_5_1400, vl_6_7, vl_6_12, vl_6_16, vl_6_1400, vl_7_12, vl_7_16, vl_8_12, vl_8_16, vl_9_12, vl_9_16, vl_10_12, vl_10_16, vl_11_12, vl_11_16, i_64le_e, i64a_0, i64b_0, i64a_1, i64b_1, i64a_2, i64b_2, i64a_3, i64b_3, i64a_4, i64b_4, i64a_5, i64b_5, i64a_7, i64b_7, i64a_8, i64b_8, i64a_9, i64b_9, i64a_10, i64b_10, i64a_16, i64b_16, i64a_50, i64b_50, i64a_m50, i64b_m50, i64a_60, i64b_60, i64a_99, i64b_99, i64a_100, i64b_100, i64a_500, i64b_500, i64a_600, i64b_600, i64a_1000, i64b_1000, i64a_1000000, i64b_1000000, i64a_m9, i64b_m9, e_s_70, e_i_70, e_l_70, e_p_70_0, e_p_70_1, e_p_70_2, e_p_70_3, e_p_70_4, e_p_70_5, e_p_70_6, e_p_70_7, e_p_70_10, e_p_70_11, e_p_70_12, e_p_70_13, e_p_70_14, e_p_70_15, e_p_70_16, e_p_70_24, e_p_70_29, e_p_70_30, e_p_70_31, e_p_70_32, e_p_70_33, e_p_70_34, e_p_70_35, e_p_70_36, e_p_70_37, e_p_70_38, e_p_70_39, e_p_70_41, e_p_70_42, e_p_70_44, e_p_70_45, e_p_70_46, e_p_70_53, e_p_70_54, e_p_70_55, e_p_70_56, e_p_70_59, e_p_70_61, e_p_70_62, e_s_82, e_i_82, e_l_82, e_s_84, e_i_84, e_l_84, e_s_85, e_i_85, e_l_85, hR.r82, hR.r84, hR.r85, hR.f18, hR.f19, hR.f20, ix8, hE]
      obtain ⟨g1, g2, g3⟩ := eg i (by omega)
      simp (disch := omega) only [nI_clamp, e84.1, g1, ew.1, em.1, el.1]
      have step : plR g w le (j + 1) i lk aw = if i % 2 = 1 ∨ g i < le then plR g w le j (i + 1) lk (aw + g i) else if 0 < lk ∧ w ≤ aw then lk else plR g w le j (i + 1) (lk + g i) 0 := rfl
      rw [step] at h3
      have z : nI 0 = 0 := rfl
      have c0 : ¬ n ≤ i := by omega
      have ih := fun lk aw => ih (i + 1) lk aw (by omega)
      by_cases c1 : lk = 0
      · simp (disch := omega) only [c1, c0, nI_clamp, nI_le', nI_lt', nI_eq', rem2_1, rem2_0, nI_eq0, nI_le0, nI_0lt, nI_0le, nI_lt0, nI_m1, vp_inE, nm_nI, i_20, nI_1, nI_add, and_true, true_and, and_self, or_true, true_or, or_false, false_or, false_and, and_false, not_true_eq_false, not_false_eq_true, if_true, if_false, ite_true, ite_false, false_imp_iff, true_imp_iff, rsn_00, rsn_10, rsn_01, rsn_11, n_09, n_19, n_29, n_99, implies_true, bI_t, bI_f, or_self, ne_eq, eq_self, Classical.not_not, Bool.false_eq_true]
        refine ⟨fun h => ?_, fun h => ⟨fun h4 => ?_, fun h4 => ?_⟩⟩
        · rw [if_pos (Or.inl h)] at h3
          have q := ih lk (aw + g i) (by omega) (by omega) h3 (some (.int (nI (g i))))
          rw [if_pos c1] at q; exact q
        · rw [if_neg (by omega), if_neg (by omega)] at h3
          have q := ih (lk + g i) 0 (by omega) (by omega) h3 (some (.int (nI (g i))))
          rw [if_neg (by omega), c1, Nat.zero_add, z] at q; exact q
        · rw [if_pos (by omega)] at h3
          have q := ih lk (aw + g i) (by omega) (by omega) h3 (some (.int (nI (g i))))
          rw [if_pos c1] at q; exact q
      · simp (disch := omega) only [c1, c0, nI_min2, nI_clamp, nI_le', nI_lt', nI_eq', rem2_1, rem2_0, nI_eq0, nI_le0, nI_0lt, nI_0le, nI_lt0, nI_m1, vp_inE, nm_nI, i_20, nI_1, nI_add, and_true, true_and, and_self, or_true, true_or, or_false, false_or, false_and, and_false, not_true_eq_false, not_false_eq_true, if_true, if_false, ite_true, ite_false, false_imp_iff, true_imp_iff, rsn_00, rsn_10, rsn_01, rsn_11, n_09, n_19, n_29, n_99, implies_true, bI_t, bI_f, or_self, ne_eq, eq_self, Classical.not_not, Bool.false_eq_true]
        refine ⟨fun h => ?_, fun h => ⟨fun h4 => ⟨fun h5 => ?_, fun h5 => ?_⟩, fun h4 => ?_⟩⟩
        · rw [if_pos (Or.inl h)] at h3
          have q := ih lk (aw + g i) (by omega) (by omega) h3 (some (.int (nI (g i))))
          rw [if_neg c1] at q; exact q
        · rw [if_neg (by omega), if_neg (by omega)] at h3
          have q := ih (lk + g i) 0 (by omega) (by omega) h3 (some (.int (nI (g i))))
          rw [if_neg (by omega), z] at q; exact q
        · rw [if_neg (by omega), if_pos (by omega)] at h3
          have q := fin lk (by omega) h3
          rw [if_neg c1] at q; exact q
        · rw [if_pos (by omega)] at h3
          have q := ih lk (aw + g i) (by omega) (by omega) h3 (some (.int (nI (g i))))
          rw [if_neg c1] at q; exact q
  simp (disch := omega) only [nI_clamp, nI_le', nI_lt', nI_eq', rem2_1, rem2_0, nI_eq0, nI_le0, nI_0lt, nI_0le, nI_lt0, nI_m1, vp_inE, nm_nI, i_20, nI_1, nI_add, and_true, true_and, and_self, or_true, true_or, or_false, false_or, false_and, and_false, not_true_eq_false, not_false_eq_true, if_true, if_false, ite_true, ite_false, false_imp_iff, true_imp_iff, rsn_00, rsn_10, rsn_01, rsn_11, n_09, n_19, n_29, n_99, implies_true, bI_t, bI_f, or_self, ne_eq, eq_self, Classical.not_not, Bool.false_eq_true]
  refine ⟨fun h => ?_, fun h => ⟨fun h2 => ?_, fun h2 => ?_⟩⟩
  · exact loop (fun q => q.1 h) n 0 0 0 (by omega) (by omega) (by omega) rfl none
  · exact loop (fun q => absurd h2 (Int32.not_lt.mpr q.2)) n 0 0 0 (by omega) (by omega) (by omega) rfl none
  · rw [if_pos ⟨h, i_lt_of h2⟩] at k; exact k
theorem c_Meter_bareLength {b t : Nat} (hE : am_env S) (hC : LabR V M 31) (hI : IV V) (hb : b < nB V) (ht : t < 8) (k : K (some (.int (oI (plainO V b t)))) S M L) : am_Call X (d + 1) m_Meter_bareLength [.ref 51, .int (nI b), .int (nI t)] S M L K := by
  have hb16 := hI.nb.2
  have e84 := hI.gm (8 * b + t) (by omega)
  have eg := hI.gz (8 * b + t)
  have ew := hI.w
  have em := hI.mo
  have el := hI.le
  have m38 : M 38 (8 * b + t) = V 84 (8 * b + t) := hC.gs (8 * b + t) (by omega)
  have m37 := hC.gz (8 * b + t)
  have m35 : M 35 b = V 82 b := hC.cr b hb
  have mw : M 31 8 = V 70 18 := hC.f8
  have mm : M 31 9 = V 70 19 := hC.f9
  have ml : M 31 10 = V 70 20 := hC.f10
  unfold plainO plN at k
  generalize hg : gzN V (8 * b + t) = g at *
  have eg : ∀ i, i < nm (V 84 (8 * b + t)) → M 37 (8 * (8 * b + t) + i) = nI (g i) ∧ 1 ≤ g i ∧ g i ≤ 600 := by
    intro i hi
    rw [← hg]
    have q := m37 i (by omega) hi
    have p := eg i (by omega) hi
    exact ⟨q.trans p.1, p.2⟩
  generalize nm (V 84 (8 * b + t)) = n at *
  generalize nm (V 70 18) = w at *
  generalize nm (V 70 19) = mo at *
  generalize nm (V 70 20) = le at *
  rw [← plL_eq ew.2.1 n 0 0 0 (by omega)] at k
  refine EE_Meter_bareLength pt26_ok ?_
  simp only [s_aload_0_ref, s_get0, s_get2, s_goto, s_iadd, s_ic_ge, s_ic_lt, s_iconst, s_if_eq, s_if_le, s_if_ne, s_iinc_6, s_iload_1_int, s_iload_2_int, s_iload_3_int, s_iload_4_int, s_iload_5_int, s_iload_6_int, s_iload_7_int, s_irem, s_ireturn, s_istore_3_int, s_istore_4_int, s_istore_5_int, s_istore_6_int, s_istore_7_int, s_iv_2, s_iv_3, s_mmin, J_Meter_bareLength_0, b_Meter_bareLength_0, J_Meter_bareLength_14, b_Meter_bareLength_14, J_Meter_bareLength_84, b_Meter_bareLength_84, J_Meter_bareLength_111, b_Meter_bareLength_111, J_Meter_bareLength_117, b_Meter_bareLength_117, J_Meter_bareLength_126, b_Meter_bareLength_126, J_Meter_bareLength_138, b_Meter_bareLength_138, J_Meter_bareLength_33, b_Meter_bareLength_33, s_end, true_and, and_true, or_true, true_or, if_true, if_false, ite_true, ite_false, List.map_nil, List.map_cons, List.sum_nil, List.sum_cons, List.nil_append, List.cons_append, Option.toList_some, Option.toList_none, Nat.reduceAdd, Nat.reduceLeDiff, Nat.reduceSub, Nat.zero_le, List.headD_cons, List.tail_cons, List.length_cons, List.length_nil, ne_eq, reduceCtorEq, false_or, or_false, not_false_eq_true, Nat.reduceEqDiff, Nat.reduceLT, am_sw, bI_0, bI_z, bI_y, Classical.not_not, Nat.le_add_left, am_u_row2, am_r_row2, am_u_same, am_u_at, am_r_same, Int32.reduceLT, Int32.reduceLE, Int32.reduceAdd, Int32.reduceSub, Int32.reduceMul, forall_const, not_true_eq_false, implies_true, false_imp_iff, true_imp_iff, i_10, i_01, i_m10, i_m11, eq_self, or_self, false_and, and_false, and_self, am_so_some, am_pv_some, am_pv_none, l_cl_none, l_cl_int, l_cl_ref, l_cl_ra, l_cl_null, l_cl_long, cat_int, cat_ref, cat_long, cat_ra, cat_null, cl_0, cl_1, cl_2, cl_3, cl_4, cl_5, cl_6, cl_7, cl_8, cl_9, cl_10, cl_11, cl_12, cl_13, cl_14, cl_15, cl_16, cl_30, cl_64, cl_500, vl_0_2, vl_0_3, vl_0_4, vl_0_6, vl_0_7, vl_0_12, vl_0_16, vl_0_1400, vl_1_2, vl_1_3, vl_1_4, vl_1_6, vl_1_7, vl_1_12, vl_1_16, vl_1_1400, vl_2_3, vl_2_4, vl_2_6, vl_2_7, vl_2_12, vl_2_16, vl_2_1400, vl_3_4, vl_3_6, vl_3_7, vl_3_12, vl_3_16, vl_3_1400, vl_4_6, vl_4_7, vl_4_12, vl_4_16, vl_4_1400, vl_5_6, vl_5_7, vl_5_12, vl_5_16, vl_5_1400, vl_6_7, vl_6_12, vl_6_16, vl_6_1400, vl_7_12, vl_7_16, vl_8_12, vl_8_16, vl_9_12, vl_9_16, vl_10_12, vl_10_16, vl_11_12, vl_11_16, i_64le_e, i64a_0, i64b_0, i64a_1, i64b_1, i64a_2, i64b_2, i64a_3, i64b_3, i64a_4, i64b_4, i64a_5, i64b_5, i64a_7, i64b_7, i64a_8, i64b_8, i64a_9, i64b_9, i64a_10, i64b_10, i64a_16, i64b_16, i64a_50, i64b_50, i64a_m50, i64b_m50, i64a_60, i64b_60, i64a_99, i64b_99, i64a_100, i64b_100, i64a_500, i64b_500, i64a_600, i64b_600, i64a_1000, i64b_1000, i64a_1000000, i64b_1000000, i64a_m9, i64b_m9, e_s_16, e_i_16, e_l_16, e_p_16_0, e_p_16_1, e_p_16_2, e_p_16_3, e_p_16_4, e_p_16_5, e_s_23, e_i_23, e_l_23, e_p_23_0, e_p_23_1, e_p_23_2, e_p_23_3, e_p_23_4, e_p_23_5, e_p_23_6, e_s_31, e_i_31, e_l_31, e_p_31_0, e_p_31_1, e_p_31_2, e_p_31_3, e_p_31_4, e_p_31_5, e_p_31_6, e_s_51, e_i_51, e_l_51, e_p_51_0, e_p_51_1, e_p_51_2, e_p_51_3, e_p_51_4, e_s_52, e_i_52, e_l_52, e_s_53, e_i_53, e_l_53, pt26_Lab_gazeAt, pt26_Lab_gazeSize, pt26_Lab_isCrying, ix8', hE]
  have loop : ¬ cryP V b t → ∀ j i lk aw, i + j = n → lk ≤ 600 * i → aw ≤ 600 * i → plL g w le n 0 0 0 = plL g w le j i lk aw → ∀ v, am_WP X (d + 1) 33 33 [some (.ref 51), some (.int (nI b)), some (.int (nI t)), some (.int (nI n)), some (.int (nI lk)), some (.int (nI aw)), some (.int (nI i)), v] [] S (M) (L) 0 0 K := by
    intro hc j
    rw [if_neg hc] at k
    have fin : ∀ lk, lk ≤ 4800 → plL g w le n 0 0 0 = lk → K (some (.int (if lk = 0 then -1 else nI (min mo lk)))) S M L := by
      intro lk h0 h
      rw [h] at k
      by_cases h2 : lk = 0
      · rw [if_pos h2] at k ⊢; exact k
      · rw [if_neg h2] at k ⊢; exact k
    induction j with
    | zero =>
      intro i lk aw e h1 h2 h3 v
      refine H_Meter_bareLength_33 pt26_ok ?_
      simp only [s_aload_0_ref, s_get0, s_get2, s_goto, s_iadd, s_ic_ge, s_ic_lt, s_iconst, s_if_eq, s_if_le, s_if_ne, s_iinc_6, s_iload_1_int, s_iload_2_int, s_iload_3_int, s_iload_4_int, s_iload_5_int, s_iload_6_int, s_iload_7_int, s_irem, s_ireturn, s_istore_3_int, s_istore_4_int, s_istore_5_int, s_istore_6_int, s_istore_7_int, s_iv_2, s_iv_3, s_mmin, J_Meter_bareLength_0, b_Meter_bareLength_0, J_Meter_bareLength_14, b_Meter_bareLength_14, J_Meter_bareLength_84, b_Meter_bareLength_84, J_Meter_bareLength_111, b_Meter_bareLength_111, J_Meter_bareLength_117, b_Meter_bareLength_117, J_Meter_bareLength_126, b_Meter_bareLength_126, J_Meter_bareLength_138, b_Meter_bareLength_138, J_Meter_bareLength_33, b_Meter_bareLength_33, s_end, true_and, and_true, or_true, true_or, if_true, if_false, ite_true, ite_false, List.map_nil, List.map_cons, List.sum_nil, List.sum_cons, List.nil_append, List.cons_append, Option.toList_some, Option.toList_none, Nat.reduceAdd, Nat.reduceLeDiff, Nat.reduceSub, Nat.zero_le, List.headD_cons, List.tail_cons, List.length_cons, List.length_nil, ne_eq, reduceCtorEq, false_or, or_false, not_false_eq_true, Nat.reduceEqDiff, Nat.reduceLT, am_sw, bI_0, bI_z, bI_y, Classical.not_not, Nat.le_add_left, am_u_row2, am_r_row2, am_u_same, am_u_at, am_r_same, Int32.reduceLT, Int32.reduceLE, Int32.reduceAdd, Int32.reduceSub, Int32.reduceMul, forall_const, not_true_eq_false, implies_true, false_imp_iff, true_imp_iff, i_10, i_01, i_m10, i_m11, eq_self, or_self, false_and, and_false, and_self, am_so_some, am_pv_some, am_pv_none, l_cl_none, l_cl_int, l_cl_ref, l_cl_ra, l_cl_null, l_cl_long, cat_int, cat_ref, cat_long, cat_ra, cat_null, cl_0, cl_1, cl_2, cl_3, cl_4, cl_5, cl_6, cl_7, cl_8, cl_9, cl_10, cl_11, cl_12, cl_13, cl_14, cl_15, cl_16, cl_30, cl_64, cl_500, vl_0_2, vl_0_3, vl_0_4, vl_0_6, vl_0_7, vl_0_12, vl_0_16, vl_0_1400, vl_1_2, vl_1_3, vl_1_4, vl_1_6, vl_1_7, vl_1_12, vl_1_16, vl_1_1400, vl_2_3, vl_2_4, vl_2_6, vl_2_7, vl_2_12, vl_2_16, vl_2_1400, vl_3_4, vl_3_6, vl_3_7, vl_3_12, vl_3_16, vl_3_1400, vl_4_6, vl_4_7, vl_4_12, vl_4_16, vl_4_1400, vl_5_6, vl_5_7, vl_5_12, vl_5_16, vl_5_1400, vl_6_7, vl_6_12, vl_6_16, vl_6_1400, vl_7_12, vl_7_16, vl_8_12, vl_8_16, vl_9_12, vl_9_16, vl_10_12, vl_10_16, vl_11_12, vl_11_16, i_64le_e, i64a_0, i64b_0, i64a_1, i64b_1, i64a_2, i64b_2, i64a_3, i64b_3, i64a_4, i64b_4, i64a_5, i64b_5, i64a_7, i64b_7, i64a_8, i64b_8, i64a_9, i64b_9, i64a_10, i64b_10, i64a_16, i64b_16, i64a_50, i64b_50, i64a_m50, i64b_m50, i64a_60, i64b_60, i64a_99, i64b_99, i64a_100, i64b_100, i64a_500, i64b_500, i64a_600, i64b_600, i64a_1000, i64b_1000, i64a_1000000, i64b_1000000, i64a_m9, i64b_m9, e_s_16, e_i_16, e_l_16, e_p_16_0, e_p_16_1, e_p_16_2, e_p_16_3, e_p_16_4, e_p_16_5, e_s_23, e_i_23, e_l_23, e_p_23_0, e_p_23_1, e_p_23_2, e_p_23_3, e_p_23_4, e_p_23_5, e_p_23_6, e_s_31, e_i_31, e_l_31, e_p_31_0, e_p_31_1, e_p_31_2, e_p_31_3, e_p_31_4, e_p_31_5, e_p_31_6, e_s_51, e_i_51, e_l_51, e_p_51_0, e_p_51_1, e_p_51_2, e_p_51_3, e_p_51_4, e_s_52, e_i_52, e_l_52, e_s_53, e_i_53, e_l_53, pt26_Lab_gazeAt, pt26_Lab_gazeSize, pt26_Lab_isCrying, ix8', mw, mm, ml, hE]
      have e : i = n := by omega
      subst e
      have q := fin lk (by omega) h3
      simp (disch := omega) only [em.1, nI_clamp, nI_le', nI_lt', nI_eq', rem2_1, rem2_0, nI_eq0, nI_le0, nI_0lt, nI_0le, nI_lt0, nI_m1, vp_inE, nm_nI, i_20, nI_1, nI_add, and_true, true_and, and_self, or_true, true_or, or_false, false_or, false_and, and_false, not_true_eq_false, not_false_eq_true, if_true, if_false, ite_true, ite_false, false_imp_iff, true_imp_iff, rsn_00, rsn_10, rsn_01, rsn_11, n_09, n_19, n_29, n_99, implies_true, bI_t, bI_f, or_self, ne_eq, eq_self, Classical.not_not, Bool.false_eq_true]
      refine ⟨fun _ => ⟨fun h => ?_, fun h => ?_⟩, fun h => absurd (Nat.le_refl _) h⟩
      · rw [if_neg h] at q
        simp (disch := omega) only [nI_min3, nI_clamp, nI_le', nI_lt', nI_eq', rem2_1, rem2_0, nI_eq0, nI_le0, nI_0lt, nI_0le, nI_lt0, nI_m1, vp_inE, nm_nI, i_20, nI_1, nI_add, and_true, true_and, and_self, or_true, true_or, or_false, false_or, false_and, and_false, not_true_eq_false, not_false_eq_true, if_true, if_false, ite_true, ite_false, false_imp_iff, true_imp_iff, rsn_00, rsn_10, rsn_01, rsn_11, n_09, n_19, n_29, n_99, implies_true, bI_t, bI_f, or_self, ne_eq, eq_self, Classical.not_not, Bool.false_eq_true]
        exact q
      · rw [if_pos h] at q
        exact q
    | succ j ih =>
      intro i lk aw e h1 h2 h3 v
      refine H_Meter_bareLength_33 pt26_ok ?_
      simp only [s_aload_0_ref, s_get0, s_get2, s_goto, s_iadd, s_ic_ge, s_ic_lt, s_iconst, s_if_eq, s_if_le, s_if_ne, s_iinc_6, s_iload_1_int, s_iload_2_int, s_iload_3_int, s_iload_4_int, s_iload_5_int, s_iload_6_int, s_iload_7_int, s_irem, s_ireturn, s_istore_3_int, s_istore_4_int, s_istore_5_int, s_istore_6_int, s_istore_7_int, s_iv_2, s_iv_3, s_mmin, J_Meter_bareLength_0, b_Meter_bareLength_0, J_Meter_bareLength_14, b_Meter_bareLength_14, J_Meter_bareLength_84, b_Meter_bareLength_84, J_Meter_bareLength_111, b_Meter_bareLength_111, J_Meter_bareLength_117, b_Meter_bareLength_117, J_Meter_bareLength_126, b_Meter_bareLength_126, J_Meter_bareLength_138, b_Meter_bareLength_138, J_Meter_bareLength_33, b_Meter_bareLength_33, s_end, true_and, and_true, or_true, true_or, if_true, if_false, ite_true, ite_false, List.map_nil, List.map_cons, List.sum_nil, List.sum_cons, List.nil_append, List.cons_append, Option.toList_some, Option.toList_none, Nat.reduceAdd, Nat.reduceLeDiff, Nat.reduceSub, Nat.zero_le, List.headD_cons, List.tail_cons, List.length_cons, List.length_nil, ne_eq, reduceCtorEq, false_or, or_false, not_false_eq_true, Nat.reduceEqDiff, Nat.reduceLT, am_sw, bI_0, bI_z, bI_y, Classical.not_not, Nat.le_add_left, am_u_row2, am_r_row2, am_u_same, am_u_at, am_r_same, Int32.reduceLT, Int32.reduceLE, Int32.reduceAdd, Int32.reduceSub, Int32.reduceMul, forall_const, not_true_eq_false, implies_true, false_imp_iff, true_imp_iff, i_10, i_01, i_m10, i_m11, eq_self, or_self, false_and, and_false, and_self, am_so_some, am_pv_some, am_pv_none, l_cl_none, l_cl_int, l_cl_ref, l_cl_ra, l_cl_null, l_cl_long, cat_int, cat_ref, cat_long, cat_ra, cat_null, cl_0, cl_1, cl_2, cl_3, cl_4, cl_5, cl_6, cl_7, cl_8, cl_9, cl_10, cl_11, cl_12, cl_13, cl_14, cl_15, cl_16, cl_30, cl_64, cl_500, vl_0_2, vl_0_3, vl_0_4, vl_0_6, vl_0_7, vl_0_12, vl_0_16, vl_0_1400, vl_1_2, vl_1_3, vl_1_4, vl_1_6, vl_1_7, vl_1_12, vl_1_16, vl_1_1400, vl_2_3, vl_2_4, vl_2_6, vl_2_7, vl_2_12, vl_2_16, vl_2_1400, vl_3_4, vl_3_6, vl_3_7, vl_3_12, vl_3_16, vl_3_1400, vl_4_6, vl_4_7, vl_4_12, vl_4_16, vl_4_1400, vl_5_6, vl_5_7, vl_5_12, vl_5_16, vl_5_1400, vl_6_7, vl_6_12, vl_6_16, vl_6_1400, vl_7_12, vl_7_16, vl_8_12, vl_8_16, vl_9_12, vl_9_16, vl_10_12, vl_10_16, vl_11_12, vl_11_16, i_64le_e, i64a_0, i64b_0, i64a_1, i64b_1, i64a_2, i64b_2, i64a_3, i64b_3, i64a_4, i64b_4, i64a_5, i64b_5, i64a_7, i64b_7, i64a_8, i64b_8, i64a_9, i64b_9, i64a_10, i64b_10, i64a_16, i64b_16, i64a_50, i64b_50, i64a_m50, i64b_m50, i64a_60, i64b_60, i64a_99, i64b_99, i64a_100, i64b_100, i64a_500, i64b_500, i64a_600, i64b_600, i64a_1000, i64b_1000, i64a_1000000, i64b_1000000, i64a_m9, i64b_m9, e_s_16, e_i_16, e_l_16, e_p_16_0, e_p_16_1, e_p_16_2, e_p_16_3, e_p_16_4, e_p_16_5, e_s_23, e_i_23, e_l_23, e_p_23_0, e_p_23_1, e_p_23_2, e_p_23_3, e_p_23_4, e_p_23_5, e_p_23_6, e_s_31, e_i_31, e_l_31, e_p_31_0, e_p_31_1, e_p_31_2, e_p_31_3, e_p_31_4, e_p_31_5, e_p_31_6, e_s_51, e_i_51, e_l_51, e_p_51_0, e_p_51_1, e_p_51_2, e_p_51_3, e_p_51_4, e_s_52, e_i_52, e_l_52, e_s_53, e_i_53, e_l_53, pt26_Lab_gazeAt, pt26_Lab_gazeSize, pt26_Lab_isCrying, ix8', mw, mm, ml, hE]
      obtain ⟨g1, g2, g3⟩ := eg i (by omega)
      simp (disch := omega) only [nI_clamp, e84.1, g1, ew.1, em.1, el.1]
      have step : plL g w le (j + 1) i lk aw = if i % 2 = 1 ∨ g i < le then (if 0 < lk ∧ w ≤ aw + g i then lk else plL g w le j (i + 1) lk (aw + g i)) else plL g w le j (i + 1) (lk + g i) 0 := rfl
      rw [step] at h3
      have z : nI 0 = 0 := rfl
      have c0 : ¬ n ≤ i := by omega
      have ih := fun lk aw => ih (i + 1) lk aw (by omega)
      simp (disch := omega) only [c0, nI_min2, nI_clamp, nI_le', nI_lt', nI_eq', rem2_1, rem2_0, nI_eq0, nI_le0, nI_0lt, nI_0le, nI_lt0, nI_m1, vp_inE, nm_nI, i_20, nI_1, nI_add, and_true, true_and, and_self, or_true, true_or, or_false, false_or, false_and, and_false, not_true_eq_false, not_false_eq_true, if_true, if_false, ite_true, ite_false, false_imp_iff, true_imp_iff, rsn_00, rsn_10, rsn_01, rsn_11, n_09, n_19, n_29, n_99, implies_true, bI_t, bI_f, or_self, ne_eq, eq_self, Classical.not_not, Bool.false_eq_true]
      have kk : ∀ v, lk = v → v ≤ 4800 → plL g w le n 0 0 0 = v → (¬ v = 0 → K (some (.int (nI (min v mo)))) S M L) ∧ (v = 0 → K (some (.int (-1))) S M L) := by
        intro v _ hv h3
        have q := fin v hv h3
        refine ⟨fun h => ?_, fun h => ?_⟩
        · rw [if_neg h, Nat.min_comm] at q; exact q
        · rw [if_pos h] at q; exact q
      have aw2 : ¬ (i % 2 = 0 ∧ ¬ g i < le) → (lk = 0 → am_WP X (d + 1) 33 33 [some (.ref 51), some (.int (nI b)), some (.int (nI t)), some (.int (nI n)), some (.int (nI lk)), some (.int (nI (aw + g i))), some (.int (nI (i + 1))), some (.int (nI (g i)))] [] S (M) (L) 0 0 K) ∧ (¬ lk = 0 → (aw + g i < w → am_WP X (d + 1) 33 33 [some (.ref 51), some (.int (nI b)), some (.int (nI t)), some (.int (nI n)), some (.int (nI lk)), some (.int (nI (aw + g i))), some (.int (nI (i + 1))), some (.int (nI (g i)))] [] S (M) (L) 0 0 K) ∧ (¬ aw + g i < w → (¬ lk = 0 → K (some (.int (nI (min lk mo)))) S M L) ∧ (lk = 0 → K (some (.int (-1))) S M L))) := by
        intro h
        rw [if_pos (by omega)] at h3
        refine ⟨fun h4 => ?_, fun h4 => ⟨fun h5 => ?_, fun h5 => ?_⟩⟩
        · rw [if_neg (by omega)] at h3
          exact ih lk (aw + g i) (by omega) (by omega) h3 (some (.int (nI (g i))))
        · rw [if_neg (by omega)] at h3
          exact ih lk (aw + g i) (by omega) (by omega) h3 (some (.int (nI (g i))))
        · rw [if_pos (by omega)] at h3
          exact kk lk rfl (by omega) h3
      refine ⟨fun h => aw2 (by omega), fun h => ⟨fun h4 => aw2 (by omega), fun h4 => ?_⟩⟩
      rw [if_neg (by omega)] at h3
      have q := ih (lk + g i) 0 (by omega) (by omega) h3 (some (.int (nI (g i))))
      rw [z] at q
      exact q
  simp (disch := omega) only [m35, m38, e84.1, nI_clamp, nI_le', nI_lt', nI_eq', rem2_1, rem2_0, nI_eq0, nI_le0, nI_0lt, nI_0le, nI_lt0, nI_m1, vp_inE, nm_nI, i_20, nI_1, nI_add, and_true, true_and, and_self, or_true, true_or, or_false, false_or, false_and, and_false, not_true_eq_false, not_false_eq_true, if_true, if_false, ite_true, ite_false, false_imp_iff, true_imp_iff, rsn_00, rsn_10, rsn_01, rsn_11, n_09, n_19, n_29, n_99, implies_true, bI_t, bI_f, or_self, ne_eq, eq_self, Classical.not_not, Bool.false_eq_true]
  refine ⟨fun h => ?_, fun h => ?_⟩
  · exact loop h n 0 0 0 (by omega) (by omega) (by omega) rfl none
  · rw [if_pos h] at k; exact k
end T19
