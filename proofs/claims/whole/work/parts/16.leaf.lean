def am_PTf (y : Nat) (f : List Value → am_S → am_M → am_L → Option (Prop × Nat × Option Value × am_M × am_L)) : Prop := ∀ (avs : List Value) (S : am_S) (M : am_M) (L : am_L) (o : Prop × Nat × Option Value × am_M × am_L), f avs S M L = some o → o.1 → ∀ (X : am_X) (d : Nat) (K : am_K), K o.2.2.1 S o.2.2.2.1 o.2.2.2.2 → am_Call X (d + o.2.1) y avs S M L K
def am_add (PT : am_PT) (y : Nat) (f : List Value → am_S → am_M → am_L → Option (Prop × Nat × Option Value × am_M × am_L)) : am_PT := fun z => if z = y then some f else PT z
theorem am_add_ok {PT : am_PT} (h : am_PTok PT) {y : Nat} {f : List Value → am_S → am_M → am_L → Option (Prop × Nat × Option Value × am_M × am_L)} (hf : am_PTf y f) : am_PTok (am_add PT y f) := by
  intro z avs S M L o ho hp X d K k
  unfold am_add at ho
  by_cases e : z = y
  · rw [if_pos e] at ho
    subst e
    exact hf avs S M L o ho hp X d K k
  · rw [if_neg e] at ho
    exact h z avs S M L o ho hp X d K k
def pt0 : am_PT := fun _ => none
theorem pt0_ok : am_PTok pt0 := fun y avs S M L o h => by cases h
/-- a condition as 1 or 0 -/
def bI (c : Prop) [Decidable c] : Int32 := if c then 1 else 0
theorem bI_0 {c : Prop} [Decidable c] : (bI c = 0) = ¬ c := by
  unfold bI
  by_cases h : c
  · rw [if_pos h]; simp [h]
  · rw [if_neg h]; simp [h]
theorem bI_z {c : Prop} [Decidable c] : (bI c = 0 ∨ bI c = 1) = True := by
  unfold bI
  by_cases h : c
  · rw [if_pos h]; simp
  · rw [if_neg h]; simp
theorem bI_y {c : Prop} [Decidable c] : (¬ c ∨ bI c = 1) = True := by
  by_cases h : c
  · exact eq_true (Or.inr (if_pos h))
  · exact eq_true (Or.inl h)
theorem bI_t {c : Prop} [Decidable c] (h : c) : bI c = 1 := if_pos h
theorem bI_f {c : Prop} [Decidable c] (h : ¬ c) : bI c = 0 := if_neg h
section T16
variable {X : am_X} {d : Nat} {K : am_K} {S : am_S} {M : am_M} {L : am_L}
def bro (n lo hi : Int32) : Int32 := if lo < (if n < hi then n else hi) then (if n < hi then n else hi) else lo
/-- one more was refused -/
def rfL (M : am_M) (r : Nat) : am_M := am_u M 1 r (M 1 r + 1)
def rfR (M : am_M) (r : Nat) : am_M := am_u M 71 r (M 71 r + 1)
theorem c_L_within {n lo hi : Int32} (_ : True) (k : K (some (.int (bI (lo ≤ n ∧ n ≤ hi)))) S M L) : am_Call X d m_L_within [.int n, .int lo, .int hi] S M L K := by
  refine EE_L_within pt0_ok ?_
  simp only [s_goto, s_ic_gt, s_ic_lt, s_iconst, s_iload_0_int, s_iload_1_int, s_iload_2_int, s_ireturnZ, J_L_within_0, b_L_within_0, J_L_within_14, b_L_within_14, J_L_within_15, b_L_within_15, s_end, true_and, and_true, or_true, true_or, if_true, if_false, ite_true, ite_false, List.map_nil, List.map_cons, List.sum_nil, List.sum_cons, List.nil_append, List.cons_append, Option.toList_some, Option.toList_none, Nat.reduceAdd, Nat.reduceLeDiff, Nat.reduceSub, Nat.zero_le, List.headD_cons, List.tail_cons, List.length_cons, List.length_nil, ne_eq, reduceCtorEq, false_or, or_false, not_false_eq_true, Nat.reduceEqDiff, Nat.reduceLT, am_sw, bI_0, bI_z, bI_y, Classical.not_not, Nat.le_add_left, am_u_row2, am_r_row2, am_u_same, am_u_at, am_r_same, Int32.reduceLT, Int32.reduceLE, Int32.reduceAdd, Int32.reduceSub, Int32.reduceMul, forall_const, not_true_eq_false, implies_true, false_imp_iff, true_imp_iff, i_10, i_01, i_m10, i_m11, eq_self, or_self, false_and, and_false, and_self, am_so_some, am_pv_some, am_pv_none, l_cl_none, l_cl_int, l_cl_ref, l_cl_ra, l_cl_null, l_cl_long, cat_int, cat_ref, cat_long, cat_ra, cat_null, cl_0, cl_1, cl_2, cl_3, cl_4, cl_5, cl_6, cl_7, cl_8, cl_9, cl_10, cl_11, cl_12, cl_13, cl_14, cl_15, cl_16, cl_30, cl_64, cl_500, vl_0_2, vl_0_3, vl_0_4, vl_0_6, vl_0_7, vl_0_12, vl_0_16, vl_0_1400, vl_1_2, vl_1_3, vl_1_4, vl_1_6, vl_1_7, vl_1_12, vl_1_16, vl_1_1400, vl_2_3, vl_2_4, vl_2_6, vl_2_7, vl_2_12, vl_2_16, vl_2_1400, vl_3_4, vl_3_6, vl_3_7, vl_3_12, vl_3_16, vl_3_1400, vl_4_6, vl_4_7, vl_4_12, vl_4_16, vl_4_1400, vl_5_6, vl_5_7, vl_5_12, vl_5_16, vl_5_1400, vl_6_7, vl_6_12, vl_6_16, vl_6_1400, vl_7_12, vl_7_16, vl_8_12, vl_8_16, vl_9_12, vl_9_16, vl_10_12, vl_10_16, vl_11_12, vl_11_16, i_64le_e, i64a_0, i64b_0, i64a_1, i64b_1, i64a_2, i64b_2, i64a_3, i64b_3, i64a_4, i64b_4, i64a_5, i64b_5, i64a_7, i64b_7, i64a_8, i64b_8, i64a_9, i64b_9, i64a_10, i64b_10, i64a_16, i64b_16, i64a_50, i64b_50, i64a_m50, i64b_m50, i64a_60, i64b_60, i64a_99, i64b_99, i64a_100, i64b_100, i64a_500, i64b_500, i64a_600, i64b_600, i64a_1000, i64b_1000, i64a_1000000, i64b_1000000, i64a_m9, i64b_m9, e_s_0, e_i_0, e_l_0, e_p_0_0, e_p_0_1, e_p_0_2, e_p_0_3, e_p_0_4, e_p_0_5, e_p_0_6, e_p_0_7, e_p_0_8, e_p_0_9, e_p_0_10, e_p_0_11, e_p_0_12, e_p_0_13, e_s_1, e_i_1, e_l_1, e_s_2, e_i_2, e_l_2, e_p_2_0, e_p_2_1, e_p_2_2, e_p_2_3, e_s_7, e_i_7, e_l_7, e_p_7_0, e_p_7_1, e_p_7_3, e_s_16, e_i_16, e_l_16, e_p_16_0, e_p_16_1, e_p_16_2, e_p_16_3, e_p_16_4, e_p_16_5, e_s_23, e_i_23, e_l_23, e_p_23_0, e_p_23_1, e_p_23_2, e_p_23_3, e_p_23_4, e_p_23_5, e_p_23_6, e_s_31, e_i_31, e_l_31, e_p_31_0, e_p_31_1, e_p_31_2, e_p_31_3, e_p_31_4, e_p_31_5, e_p_31_6, e_s_39, e_i_39, e_l_39, e_p_39_0, e_p_39_1, e_p_39_2, e_p_39_3, e_p_39_4, e_p_39_5, e_p_39_6, e_s_47, e_i_47, e_l_47, e_s_48, e_i_48, e_l_48, e_p_48_0, e_p_48_1, e_p_48_2, e_p_48_3, e_p_48_5, e_s_51, e_i_51, e_l_51, e_p_51_0, e_p_51_1, e_p_51_2, e_p_51_3, e_p_51_4, e_s_54, e_i_54, e_l_54, e_p_54_0, e_p_54_1, e_p_54_2, e_p_54_3, e_p_54_4, e_p_54_5, e_p_54_6, e_p_54_7, e_s_61, e_i_61, e_l_61, e_p_61_0, e_p_61_1, e_s_62, e_i_62, e_l_62, e_p_62_0, e_p_62_1, e_p_62_2, e_p_62_3, e_p_62_4, e_p_62_5, e_p_62_6, e_p_62_7, e_p_62_12, e_s_69, e_i_69, e_l_69]
  refine ⟨fun h => ?_, fun h => ⟨fun h2 => ?_, fun h2 => ?_⟩⟩
  · rw [bI_f (fun q => absurd h (Int32.not_lt.mpr q.1))] at k; exact k
  · rw [bI_f (fun q => absurd h2 (Int32.not_lt.mpr q.2))] at k; exact k
  · rw [bI_t ⟨i_lt_of h, i_lt_of h2⟩] at k; exact k
theorem c_L_brought {n lo hi : Int32} (_ : True) (k : K (some (.int (bro n lo hi))) S M L) : am_Call X (d + 1) m_L_brought [.int n, .int lo, .int hi] S M L K := by
  refine EE_L_brought pt0_ok ?_
  simp only [s_iload_0_int, s_iload_1_int, s_iload_2_int, s_ireturn, s_mmax, s_mmin, J_L_brought_0, b_L_brought_0, s_end, true_and, and_true, or_true, true_or, if_true, if_false, ite_true, ite_false, List.map_nil, List.map_cons, List.sum_nil, List.sum_cons, List.nil_append, List.cons_append, Option.toList_some, Option.toList_none, Nat.reduceAdd, Nat.reduceLeDiff, Nat.reduceSub, Nat.zero_le, List.headD_cons, List.tail_cons, List.length_cons, List.length_nil, ne_eq, reduceCtorEq, false_or, or_false, not_false_eq_true, Nat.reduceEqDiff, Nat.reduceLT, am_sw, bI_0, bI_z, bI_y, Classical.not_not, Nat.le_add_left, am_u_row2, am_r_row2, am_u_same, am_u_at, am_r_same, Int32.reduceLT, Int32.reduceLE, Int32.reduceAdd, Int32.reduceSub, Int32.reduceMul, forall_const, not_true_eq_false, implies_true, false_imp_iff, true_imp_iff, i_10, i_01, i_m10, i_m11, eq_self, or_self, false_and, and_false, and_self, am_so_some, am_pv_some, am_pv_none, l_cl_none, l_cl_int, l_cl_ref, l_cl_ra, l_cl_null, l_cl_long, cat_int, cat_ref, cat_long, cat_ra, cat_null, cl_0, cl_1, cl_2, cl_3, cl_4, cl_5, cl_6, cl_7, cl_8, cl_9, cl_10, cl_11, cl_12, cl_13, cl_14, cl_15, cl_16, cl_30, cl_64, cl_500, vl_0_2, vl_0_3, vl_0_4, vl_0_6, vl_0_7, vl_0_12, vl_0_16, vl_0_1400, vl_1_2, vl_1_3, vl_1_4, vl_1_6, vl_1_7, vl_1_12, vl_1_16, vl_1_1400, vl_2_3, vl_2_4, vl_2_6, vl_2_7, vl_2_12, vl_2_16, vl_2_1400, vl_3_4, vl_3_6, vl_3_7, vl_3_12, vl_3_16, vl_3_1400, vl_4_6, vl_4_7, vl_4_12, vl_4_16, vl_4_1400, vl_5_6, vl_5_7, vl_5_12, vl_5_16, vl_5_1400, vl_6_7, vl_6_12, vl_6_16, vl_6_1400, vl_7_12, vl_7_16, vl_8_12, vl_8_16, vl_9_12, vl_9_16, vl_10_12, vl_10_16, vl_11_12, vl_11_16, i_64le_e, i64a_0, i64b_0, i64a_1, i64b_1, i64a_2, i64b_2, i64a_3, i64b_3, i64a_4, i64b_4, i64a_5, i64b_5, i64a_7, i64b_7, i64a_8, i64b_8, i64a_9, i64b_9, i64a_10, i64b_10, i64a_16, i64b_16, i64a_50, i64b_50, i64a_m50, i64b_m50, i64a_60, i64b_60, i64a_99, i64b_99, i64a_100, i64b_100, i64a_500, i64b_500, i64a_600, i64b_600, i64a_1000, i64b_1000, i64a_1000000, i64b_1000000, i64a_m9, i64b_m9, e_s_0, e_i_0, e_l_0, e_p_0_0, e_p_0_1, e_p_0_2, e_p_0_3, e_p_0_4, e_p_0_5, e_p_0_6, e_p_0_7, e_p_0_8, e_p_0_9, e_p_0_10, e_p_0_11, e_p_0_12, e_p_0_13, e_s_1, e_i_1, e_l_1, e_s_2, e_i_2, e_l_2, e_p_2_0, e_p_2_1, e_p_2_2, e_p_2_3, e_s_7, e_i_7, e_l_7, e_p_7_0, e_p_7_1, e_p_7_3, e_s_16, e_i_16, e_l_16, e_p_16_0, e_p_16_1, e_p_16_2, e_p_16_3, e_p_16_4, e_p_16_5, e_s_23, e_i_23, e_l_23, e_p_23_0, e_p_23_1, e_p_23_2, e_p_23_3, e_p_23_4, e_p_23_5, e_p_23_6, e_s_31, e_i_31, e_l_31, e_p_31_0, e_p_31_1, e_p_31_2, e_p_31_3, e_p_31_4, e_p_31_5, e_p_31_6, e_s_39, e_i_39, e_l_39, e_p_39_0, e_p_39_1, e_p_39_2, e_p_39_3, e_p_39_4, e_p_39_5, e_p_39_6, e_s_47, e_i_47, e_l_47, e_s_48, e_i_48, e_l_48, e_p_48_0, e_p_48_1, e_p_48_2, e_p_48_3, e_p_48_5, e_s_51, e_i_51, e_l_51, e_p_51_0, e_p_51_1, e_p_51_2, e_p_51_3, e_p_51_4, e_s_54, e_i_54, e_l_54, e_p_54_0, e_p_54_1, e_p_54_2, e_p_54_3, e_p_54_4, e_p_54_5, e_p_54_6, e_p_54_7, e_s_61, e_i_61, e_l_61, e_p_61_0, e_p_61_1, e_s_62, e_i_62, e_l_62, e_p_62_0, e_p_62_1, e_p_62_2, e_p_62_3, e_p_62_4, e_p_62_5, e_p_62_6, e_p_62_7, e_p_62_12, e_s_69, e_i_69, e_l_69]
  exact k
theorem c_L_refuse {r : Int32} (hp : am_env S ∧ vp_in r 3) (k : K (some (.int (-1))) S (rfL M r.toNatClampNeg) L) : am_Call X d m_L_refuse [.ref 0, .int r] S M L K := by
  have hE := hp.1
  refine EE_L_refuse pt0_ok ?_
  simp only [s_aload_0_ref, s_dup2, s_get2, s_iadd, s_iald, s_iast, s_iconst, s_iload_1_int, s_ireturn, J_L_refuse_0, b_L_refuse_0, s_end, true_and, and_true, or_true, true_or, if_true, if_false, ite_true, ite_false, List.map_nil, List.map_cons, List.sum_nil, List.sum_cons, List.nil_append, List.cons_append, Option.toList_some, Option.toList_none, Nat.reduceAdd, Nat.reduceLeDiff, Nat.reduceSub, Nat.zero_le, List.headD_cons, List.tail_cons, List.length_cons, List.length_nil, ne_eq, reduceCtorEq, false_or, or_false, not_false_eq_true, Nat.reduceEqDiff, Nat.reduceLT, am_sw, bI_0, bI_z, bI_y, Classical.not_not, Nat.le_add_left, am_u_row2, am_r_row2, am_u_same, am_u_at, am_r_same, Int32.reduceLT, Int32.reduceLE, Int32.reduceAdd, Int32.reduceSub, Int32.reduceMul, forall_const, not_true_eq_false, implies_true, false_imp_iff, true_imp_iff, i_10, i_01, i_m10, i_m11, eq_self, or_self, false_and, and_false, and_self, am_so_some, am_pv_some, am_pv_none, l_cl_none, l_cl_int, l_cl_ref, l_cl_ra, l_cl_null, l_cl_long, cat_int, cat_ref, cat_long, cat_ra, cat_null, cl_0, cl_1, cl_2, cl_3, cl_4, cl_5, cl_6, cl_7, cl_8, cl_9, cl_10, cl_11, cl_12, cl_13, cl_14, cl_15, cl_16, cl_30, cl_64, cl_500, vl_0_2, vl_0_3, vl_0_4, vl_0_6, vl_0_7, vl_0_12, vl_0_16, vl_0_1400, vl_1_2, vl_1_3, vl_1_4, vl_1_6, vl_1_7, vl_1_12, vl_1_16, vl_1_1400, vl_2_3, vl_2_4, vl_2_6, vl_2_7, vl_2_12, vl_2_16, vl_2_1400, vl_3_4, vl_3_6, vl_3_7, vl_3_12, vl_3_16, vl_3_1400, vl_4_6, vl_4_7, vl_4_12, vl_4_16, vl_4_1400, vl_5_6, vl_5_7, vl_5_12, vl_5_16, vl_5_1400, vl_6_7, vl_6_12, vl_6_16, vl_6_1400, vl_7_12, vl_7_16, vl_8_12, vl_8_16, vl_9_12, vl_9_16, vl_10_12, vl_10_16, vl_11_12, vl_11_16, i_64le_e, i64a_0, i64b_0, i64a_1, i64b_1, i64a_2, i64b_2, i64a_3, i64b_3, i64a_4, i64b_4, i64a_5, i64b_5, i64a_7, i64b_7, i64a_8, i64b_8, i64a_9, i64b_9, i64a_10, i64b_10, i64a_16, i64b_16, i64a_50, i64b_50, i64a_m50, i64b_m50, i64a_60, i64b_60, i64a_99, i64b_99, i64a_100, i64b_100, i64a_500, i64b_500, i64a_600, i64b_600, i64a_1000, i64b_1000, i64a_1000000, i64b_1000000, i64a_m9, i64b_m9, e_s_0, e_i_0, e_l_0, e_p_0_0, e_p_0_1, e_p_0_2, e_p_0_3, e_p_0_4, e_p_0_5, e_p_0_6, e_p_0_7, e_p_0_8, e_p_0_9, e_p_0_10, e_p_0_11, e_p_0_12, e_p_0_13, e_s_1, e_i_1, e_l_1, e_s_2, e_i_2, e_l_2, e_p_2_0, e_p_2_1, e_p_2_2, e_p_2_3, e_s_7, e_i_7, e_l_7, e_p_7_0, e_p_7_1, e_p_7_3, e_s_16, e_i_16, e_l_16, e_p_16_0, e_p_16_1, e_p_16_2, e_p_16_3, e_p_16_4, e_p_16_5, e_s_23, e_i_23, e_l_23, e_p_23_0, e_p_23_1, e_p_23_2, e_p_23_3, e_p_23_4, e_p_23_5, e_p_23_6, e_s_31, e_i_31, e_l_31, e_p_31_0, e_p_31_1, e_p_31_2, e_p_31_3, e_p_31_4, e_p_31_5, e_p_31_6, e_s_39, e_i_39, e_l_39, e_p_39_0, e_p_39_1, e_p_39_2, e_p_39_3, e_p_39_4, e_p_39_5, e_p_39_6, e_s_47, e_i_47, e_l_47, e_s_48, e_i_48, e_l_48, e_p_48_0, e_p_48_1, e_p_48_2, e_p_48_3, e_p_48_5, e_s_51, e_i_51, e_l_51, e_p_51_0, e_p_51_1, e_p_51_2, e_p_51_3, e_p_51_4, e_s_54, e_i_54, e_l_54, e_p_54_0, e_p_54_1, e_p_54_2, e_p_54_3, e_p_54_4, e_p_54_5, e_p_54_6, e_p_54_7, e_s_61, e_i_61, e_l_61, e_p_61_0, e_p_61_1, e_s_62, e_i_62, e_l_62, e_p_62_0, e_p_62_1, e_p_62_2, e_p_62_3, e_p_62_4, e_p_62_5, e_p_62_6, e_p_62_7, e_p_62_12, e_s_69, e_i_69, e_l_69, hE]
  exact ⟨hp.2, hp.2, k⟩
theorem c_L_deny {r : Int32} (hp : am_env S ∧ vp_in r 3) (k : K (some (.int 0)) S (rfL M r.toNatClampNeg) L) : am_Call X d m_L_deny [.ref 0, .int r] S M L K := by
  have hE := hp.1
  refine EE_L_deny pt0_ok ?_
  simp only [s_aload_0_ref, s_dup2, s_get2, s_iadd, s_iald, s_iast, s_iconst, s_iload_1_int, s_ireturnZ, J_L_deny_0, b_L_deny_0, s_end, true_and, and_true, or_true, true_or, if_true, if_false, ite_true, ite_false, List.map_nil, List.map_cons, List.sum_nil, List.sum_cons, List.nil_append, List.cons_append, Option.toList_some, Option.toList_none, Nat.reduceAdd, Nat.reduceLeDiff, Nat.reduceSub, Nat.zero_le, List.headD_cons, List.tail_cons, List.length_cons, List.length_nil, ne_eq, reduceCtorEq, false_or, or_false, not_false_eq_true, Nat.reduceEqDiff, Nat.reduceLT, am_sw, bI_0, bI_z, bI_y, Classical.not_not, Nat.le_add_left, am_u_row2, am_r_row2, am_u_same, am_u_at, am_r_same, Int32.reduceLT, Int32.reduceLE, Int32.reduceAdd, Int32.reduceSub, Int32.reduceMul, forall_const, not_true_eq_false, implies_true, false_imp_iff, true_imp_iff, i_10, i_01, i_m10, i_m11, eq_self, or_self, false_and, and_false, and_self, am_so_some, am_pv_some, am_pv_none, l_cl_none, l_cl_int, l_cl_ref, l_cl_ra, l_cl_null, l_cl_long, cat_int, cat_ref, cat_long, cat_ra, cat_null, cl_0, cl_1, cl_2, cl_3, cl_4, cl_5, cl_6, cl_7, cl_8, cl_9, cl_10, cl_11, cl_12, cl_13, cl_14, cl_15, cl_16, cl_30, cl_64, cl_500, vl_0_2, vl_0_3, vl_0_4, vl_0_6, vl_0_7, vl_0_12, vl_0_16, vl_0_1400, vl_1_2, vl_1_3, vl_1_4, vl_1_6, vl_1_7, vl_1_12, vl_1_16, vl_1_1400, vl_2_3, vl_2_4, vl_2_6, vl_2_7, vl_2_12, vl_2_16, vl_2_1400, vl_3_4, vl_3_6, vl_3_7, vl_3_12, vl_3_16, vl_3_1400, vl_4_6, vl_4_7, vl_4_12, vl_4_16, vl_4_1400, vl_5_6, vl_5_7, vl_5_12, vl_5_16, vl_5_1400, vl_6_7, vl_6_12, vl_6_16, vl_6_1400, vl_7_12, vl_7_16, vl_8_12, vl_8_16, vl_9_12, vl_9_16, vl_10_12, vl_10_16, vl_11_12, vl_11_16, i_64le_e, i64a_0, i64b_0, i64a_1, i64b_1, i64a_2, i64b_2, i64a_3, i64b_3, i64a_4, i64b_4, i64a_5, i64b_5, i64a_7, i64b_7, i64a_8, i64b_8, i64a_9, i64b_9, i64a_10, i64b_10, i64a_16, i64b_16, i64a_50, i64b_50, i64a_m50, i64b_m50, i64a_60, i64b_60, i64a_99, i64b_99, i64a_100, i64b_100, i64a_500, i64b_500, i64a_600, i64b_600, i64a_1000, i64b_1000, i64a_1000000, i64b_1000000, i64a_m9, i64b_m9, e_s_0, e_i_0, e_l_0, e_p_0_0, e_p_0_1, e_p_0_2, e_p_0_3, e_p_0_4, e_p_0_5, e_p_0_6, e_p_0_7, e_p_0_8, e_p_0_9, e_p_0_10, e_p_0_11, e_p_0_12, e_p_0_13, e_s_1, e_i_1, e_l_1, e_s_2, e_i_2, e_l_2, e_p_2_0, e_p_2_1, e_p_2_2, e_p_2_3, e_s_7, e_i_7, e_l_7, e_p_7_0, e_p_7_1, e_p_7_3, e_s_16, e_i_16, e_l_16, e_p_16_0, e_p_16_1, e_p_16_2, e_p_16_3, e_p_16_4, e_p_16_5, e_s_23, e_i_23, e_l_23, e_p_23_0, e_p_23_1, e_p_23_2, e_p_23_3, e_p_23_4, e_p_23_5, e_p_23_6, e_s_31, e_i_31, e_l_31, e_p_31_0, e_p_31_1, e_p_31_2, e_p_31_3, e_p_31_4, e_p_31_5, e_p_31_6, e_s_39, e_i_39, e_l_39, e_p_39_0, e_p_39_1, e_p_39_2, e_p_39_3, e_p_39_4, e_p_39_5, e_p_39_6, e_s_47, e_i_47, e_l_47, e_s_48, e_i_48, e_l_48, e_p_48_0, e_p_48_1, e_p_48_2, e_p_48_3, e_p_48_5, e_s_51, e_i_51, e_l_51, e_p_51_0, e_p_51_1, e_p_51_2, e_p_51_3, e_p_51_4, e_s_54, e_i_54, e_l_54, e_p_54_0, e_p_54_1, e_p_54_2, e_p_54_3, e_p_54_4, e_p_54_5, e_p_54_6, e_p_54_7, e_s_61, e_i_61, e_l_61, e_p_61_0, e_p_61_1, e_s_62, e_i_62, e_l_62, e_p_62_0, e_p_62_1, e_p_62_2, e_p_62_3, e_p_62_4, e_p_62_5, e_p_62_6, e_p_62_7, e_p_62_12, e_s_69, e_i_69, e_l_69, hE]
  exact ⟨hp.2, hp.2, k⟩
theorem c_R_in {v lo hi : Int64} (_ : True) (k : K (some (.int (bI (lo ≤ v ∧ v ≤ hi)))) S M L) : am_Call X d m_R_in [.long v, .long lo, .long hi] S M L K := by
  refine EE_R_in pt0_ok ?_
  simp only [s_goto, s_iconst, s_if_gt, s_if_lt, s_ireturnZ, s_lcmp, s_lload_0_long, s_lload_2_long, s_lload_4_long, J_R_in_0, b_R_in_0, J_R_in_17, b_R_in_17, J_R_in_18, b_R_in_18, s_end, true_and, and_true, or_true, true_or, if_true, if_false, ite_true, ite_false, List.map_nil, List.map_cons, List.sum_nil, List.sum_cons, List.nil_append, List.cons_append, Option.toList_some, Option.toList_none, Nat.reduceAdd, Nat.reduceLeDiff, Nat.reduceSub, Nat.zero_le, List.headD_cons, List.tail_cons, List.length_cons, List.length_nil, ne_eq, reduceCtorEq, false_or, or_false, not_false_eq_true, Nat.reduceEqDiff, Nat.reduceLT, am_sw, bI_0, bI_z, bI_y, Classical.not_not, Nat.le_add_left, am_u_row2, am_r_row2, am_u_same, am_u_at, am_r_same, Int32.reduceLT, Int32.reduceLE, Int32.reduceAdd, Int32.reduceSub, Int32.reduceMul, forall_const, not_true_eq_false, implies_true, false_imp_iff, true_imp_iff, i_10, i_01, i_m10, i_m11, eq_self, or_self, false_and, and_false, and_self, am_so_some, am_pv_some, am_pv_none, l_cl_none, l_cl_int, l_cl_ref, l_cl_ra, l_cl_null, l_cl_long, cat_int, cat_ref, cat_long, cat_ra, cat_null, cl_0, cl_1, cl_2, cl_3, cl_4, cl_5, cl_6, cl_7, cl_8, cl_9, cl_10, cl_11, cl_12, cl_13, cl_14, cl_15, cl_16, cl_30, cl_64, cl_500, vl_0_2, vl_0_3, vl_0_4, vl_0_6, vl_0_7, vl_0_12, vl_0_16, vl_0_1400, vl_1_2, vl_1_3, vl_1_4, vl_1_6, vl_1_7, vl_1_12, vl_1_16, vl_1_1400, vl_2_3, vl_2_4, vl_2_6, vl_2_7, vl_2_12, vl_2_16, vl_2_1400, vl_3_4, vl_3_6, vl_3_7, vl_3_12, vl_3_16, vl_3_1400, vl_4_6, vl_4_7, vl_4_12, vl_4_16, vl_4_1400, vl_5_6, vl_5_7, vl_5_12, vl_5_16, vl_5_1400, vl_6_7, vl_6_12, vl_6_16, vl_6_1400, vl_7_12, vl_7_16, vl_8_12, vl_8_16, vl_9_12, vl_9_16, vl_10_12, vl_10_16, vl_11_12, vl_11_16, i_64le_e, i64a_0, i64b_0, i64a_1, i64b_1, i64a_2, i64b_2, i64a_3, i64b_3, i64a_4, i64b_4, i64a_5, i64b_5, i64a_7, i64b_7, i64a_8, i64b_8, i64a_9, i64b_9, i64a_10, i64b_10, i64a_16, i64b_16, i64a_50, i64b_50, i64a_m50, i64b_m50, i64a_60, i64b_60, i64a_99, i64b_99, i64a_100, i64b_100, i64a_500, i64b_500, i64a_600, i64b_600, i64a_1000, i64b_1000, i64a_1000000, i64b_1000000, i64a_m9, i64b_m9, e_s_70, e_i_70, e_l_70, e_p_70_0, e_p_70_1, e_p_70_2, e_p_70_3, e_p_70_4, e_p_70_5, e_p_70_6, e_p_70_7, e_p_70_10, e_p_70_11, e_p_70_12, e_p_70_13, e_p_70_14, e_p_70_15, e_p_70_16, e_p_70_24, e_p_70_29, e_p_70_30, e_p_70_31, e_p_70_32, e_p_70_33, e_p_70_34, e_p_70_35, e_p_70_36, e_p_70_37, e_p_70_38, e_p_70_39, e_p_70_41, e_p_70_42, e_p_70_44, e_p_70_45, e_p_70_46, e_p_70_53, e_p_70_54, e_p_70_55, e_p_70_56, e_p_70_59, e_p_70_61, e_p_70_62]
  rw [lg_lt0, lg_gt0]
  refine ⟨fun h => ?_, fun h => ⟨fun h2 => ?_, fun h2 => ?_⟩⟩
  · rw [bI_f (fun q => absurd h (Int64.not_lt.mpr q.1))] at k; exact k
  · rw [bI_f (fun q => absurd h2 (Int64.not_lt.mpr q.2))] at k; exact k
  · rw [bI_t ⟨Int64.not_lt.mp h, Int64.not_lt.mp h2⟩] at k; exact k
/-- which reason it is -/
def rsn (a b : Int32) : Nat := if a = 0 then (if b = 0 then 2 else 1) else 0
theorem c_R_refuse {a b : Int32} (hE : am_env S) (k : K (some (.int (-1))) S (rfR M (rsn a b)) L) : am_Call X d m_R_refuse [.ref 70, .int a, .int b] S M L K := by
  refine EE_R_refuse pt0_ok ?_
  simp only [s_aload_0_ref, s_dup2, s_get2, s_goto, s_iadd, s_iald, s_iast, s_iconst, s_if_eq, s_iload_1_int, s_iload_2_int, s_ireturn, J_R_refuse_0, b_R_refuse_0, J_R_refuse_12, b_R_refuse_12, J_R_refuse_20, b_R_refuse_20, J_R_refuse_21, b_R_refuse_21, s_end, true_and, and_true, or_true, true_or, if_true, if_false, ite_true, ite_false, List.map_nil, List.map_cons, List.sum_nil, List.sum_cons, List.nil_append, List.cons_append, Option.toList_some, Option.toList_none, Nat.reduceAdd, Nat.reduceLeDiff, Nat.reduceSub, Nat.zero_le, List.headD_cons, List.tail_cons, List.length_cons, List.length_nil, ne_eq, reduceCtorEq, false_or, or_false, not_false_eq_true, Nat.reduceEqDiff, Nat.reduceLT, am_sw, bI_0, bI_z, bI_y, Classical.not_not, Nat.le_add_left, am_u_row2, am_r_row2, am_u_same, am_u_at, am_r_same, Int32.reduceLT, Int32.reduceLE, Int32.reduceAdd, Int32.reduceSub, Int32.reduceMul, forall_const, not_true_eq_false, implies_true, false_imp_iff, true_imp_iff, i_10, i_01, i_m10, i_m11, eq_self, or_self, false_and, and_false, and_self, am_so_some, am_pv_some, am_pv_none, l_cl_none, l_cl_int, l_cl_ref, l_cl_ra, l_cl_null, l_cl_long, cat_int, cat_ref, cat_long, cat_ra, cat_null, cl_0, cl_1, cl_2, cl_3, cl_4, cl_5, cl_6, cl_7, cl_8, cl_9, cl_10, cl_11, cl_12, cl_13, cl_14, cl_15, cl_16, cl_30, cl_64, cl_500, vl_0_2, vl_0_3, vl_0_4, vl_0_6, vl_0_7, vl_0_12, vl_0_16, vl_0_1400, vl_1_2, vl_1_3, vl_1_4, vl_1_6, vl_1_7, vl_1_12, vl_1_16, vl_1_1400, vl_2_3, vl_2_4, vl_2_6, vl_2_7, vl_2_12, vl_2_16, vl_2_1400, vl_3_4, vl_3_6, vl_3_7, vl_3_12, vl_3_16, vl_3_1400, vl_4_6, vl_4_7, vl_4_12, vl_4_16, vl_4_1400, vl_5_6, vl_5_7, vl_5_12, vl_5_16, vl_5_1400, vl_6_7, vl_6_12, vl_6_16, vl_6_1400, vl_7_12, vl_7_16, vl_8_12, vl_8_16, vl_9_12, vl_9_16, vl_10_12, vl_10_16, vl_11_12, vl_11_16, i_64le_e, i64a_0, i64b_0, i64a_1, i64b_1, i64a_2, i64b_2, i64a_3, i64b_3, i64a_4, i64b_4, i64a_5, i64b_5, i64a_7, i64b_7, i64a_8, i64b_8, i64a_9, i64b_9, i64a_10, i64b_10, i64a_16, i64b_16, i64a_50, i64b_50, i64a_m50, i64b_m50, i64a_60, i64b_60, i64a_99, i64b_99, i64a_100, i64b_100, i64a_500, i64b_500, i64a_600, i64b_600, i64a_1000, i64b_1000, i64a_1000000, i64b_1000000, i64a_m9, i64b_m9, e_s_70, e_i_70, e_l_70, e_p_70_0, e_p_70_1, e_p_70_2, e_p_70_3, e_p_70_4, e_p_70_5, e_p_70_6, e_p_70_7, e_p_70_10, e_p_70_11, e_p_70_12, e_p_70_13, e_p_70_14, e_p_70_15, e_p_70_16, e_p_70_24, e_p_70_29, e_p_70_30, e_p_70_31, e_p_70_32, e_p_70_33, e_p_70_34, e_p_70_35, e_p_70_36, e_p_70_37, e_p_70_38, e_p_70_39, e_p_70_41, e_p_70_42, e_p_70_44, e_p_70_45, e_p_70_46, e_p_70_53, e_p_70_54, e_p_70_55, e_p_70_56, e_p_70_59, e_p_70_61, e_p_70_62, e_s_71, e_i_71, e_l_71, hE]
  unfold rsn at k
  refine ⟨fun h => ⟨fun h2 => ?_, fun h2 => ?_⟩, fun h => ?_⟩
  · rw [if_pos h, if_pos h2] at k; exact k
  · rw [if_pos h, if_neg h2] at k; exact k
  · rw [if_neg h] at k; exact k
def f_L_within : List Value → am_S → am_M → am_L → Option (Prop × Nat × Option Value × am_M × am_L) := fun avs S M L => match avs with
  | [.int n, .int lo, .int hi] => some (True, 0, some (.int (bI (lo ≤ n ∧ n ≤ hi))), M, L)
  | _ => none
theorem cal_L_within {X : am_X} {PT : am_PT} {d : Nat} {K : am_K} {S : am_S} {M : am_M} {L : am_L} {n : Int32} {lo : Int32} {hi : Int32} (hPT9 : PT 156 = some f_L_within) : am_cal X PT d 156 [.int n, .int lo, .int hi] S M L K = (0 ≤ d ∧ (True) ∧ K (some (.int (bI (lo ≤ n ∧ n ≤ hi)))) S (M) (L)) := by
  unfold am_cal
  rw [hPT9]
  exact propext Iff.rfl
theorem g_L_within : am_PTf 156 f_L_within := by
  intro avs S M L o h hp X d K k
  unfold f_L_within at h
  split at h
  · cases h
    exact c_L_within hp k
  · cases h
def f_L_brought : List Value → am_S → am_M → am_L → Option (Prop × Nat × Option Value × am_M × am_L) := fun avs S M L => match avs with
  | [.int n, .int lo, .int hi] => some (True, 1, some (.int (bro n lo hi)), M, L)
  | _ => none
theorem cal_L_brought {X : am_X} {PT : am_PT} {d : Nat} {K : am_K} {S : am_S} {M : am_M} {L : am_L} {n : Int32} {lo : Int32} {hi : Int32} (hPT9 : PT 157 = some f_L_brought) : am_cal X PT d 157 [.int n, .int lo, .int hi] S M L K = (1 ≤ d ∧ (True) ∧ K (some (.int (bro n lo hi))) S (M) (L)) := by
  unfold am_cal
  rw [hPT9]
  exact propext Iff.rfl
theorem g_L_brought : am_PTf 157 f_L_brought := by
  intro avs S M L o h hp X d K k
  unfold f_L_brought at h
  split at h
  · cases h
    exact c_L_brought hp k
  · cases h
def f_L_refuse : List Value → am_S → am_M → am_L → Option (Prop × Nat × Option Value × am_M × am_L) := fun avs S M L => match avs with
  | [.ref 0, .int r] => some (am_env S ∧ vp_in r 3, 0, some (.int (-1)), rfL M r.toNatClampNeg, L)
  | _ => none
theorem cal_L_refuse {X : am_X} {PT : am_PT} {d : Nat} {K : am_K} {S : am_S} {M : am_M} {L : am_L} {r : Int32} (hPT9 : PT 151 = some f_L_refuse) : am_cal X PT d 151 [.ref 0, .int r] S M L K = (0 ≤ d ∧ (am_env S ∧ vp_in r 3) ∧ K (some (.int (-1))) S (rfL M r.toNatClampNeg) (L)) := by
  unfold am_cal
  rw [hPT9]
  exact propext Iff.rfl
theorem g_L_refuse : am_PTf 151 f_L_refuse := by
  intro avs S M L o h hp X d K k
  unfold f_L_refuse at h
  split at h
  · cases h
    exact c_L_refuse hp k
  · cases h
def f_L_deny : List Value → am_S → am_M → am_L → Option (Prop × Nat × Option Value × am_M × am_L) := fun avs S M L => match avs with
  | [.ref 0, .int r] => some (am_env S ∧ vp_in r 3, 0, some (.int 0), rfL M r.toNatClampNeg, L)
  | _ => none
theorem cal_L_deny {X : am_X} {PT : am_PT} {d : Nat} {K : am_K} {S : am_S} {M : am_M} {L : am_L} {r : Int32} (hPT9 : PT 152 = some f_L_deny) : am_cal X PT d 152 [.ref 0, .int r] S M L K = (0 ≤ d ∧ (am_env S ∧ vp_in r 3) ∧ K (some (.int 0)) S (rfL M r.toNatClampNeg) (L)) := by
  unfold am_cal
  rw [hPT9]
  exact propext Iff.rfl
theorem g_L_deny : am_PTf 152 f_L_deny := by
  intro avs S M L o h hp X d K k
  unfold f_L_deny at h
  split at h
  · cases h
    exact c_L_deny hp k
  · cases h
def f_R_in : List Value → am_S → am_M → am_L → Option (Prop × Nat × Option Value × am_M × am_L) := fun avs S M L => match avs with
  | [.long v, .long lo, .long hi] => some (True, 0, some (.int (bI (lo ≤ v ∧ v ≤ hi))), M, L)
  | _ => none
theorem cal_R_in {X : am_X} {PT : am_PT} {d : Nat} {K : am_K} {S : am_S} {M : am_M} {L : am_L} {v : Int64} {lo : Int64} {hi : Int64} (hPT9 : PT 159 = some f_R_in) : am_cal X PT d 159 [.long v, .long lo, .long hi] S M L K = (0 ≤ d ∧ (True) ∧ K (some (.int (bI (lo ≤ v ∧ v ≤ hi)))) S (M) (L)) := by
  unfold am_cal
  rw [hPT9]
  exact propext Iff.rfl
theorem g_R_in : am_PTf 159 f_R_in := by
  intro avs S M L o h hp X d K k
  unfold f_R_in at h
  split at h
  · cases h
    exact c_R_in hp k
  · cases h
def f_R_refuse : List Value → am_S → am_M → am_L → Option (Prop × Nat × Option Value × am_M × am_L) := fun avs S M L => match avs with
  | [.ref 70, .int a, .int b] => some (am_env S, 0, some (.int (-1)), rfR M (rsn a b), L)
  | _ => none
theorem cal_R_refuse {X : am_X} {PT : am_PT} {d : Nat} {K : am_K} {S : am_S} {M : am_M} {L : am_L} {a : Int32} {b : Int32} (hPT9 : PT 160 = some f_R_refuse) : am_cal X PT d 160 [.ref 70, .int a, .int b] S M L K = (0 ≤ d ∧ (am_env S) ∧ K (some (.int (-1))) S (rfR M (rsn a b)) (L)) := by
  unfold am_cal
  rw [hPT9]
  exact propext Iff.rfl
theorem g_R_refuse : am_PTf 160 f_R_refuse := by
  intro avs S M L o h hp X d K k
  unfold f_R_refuse at h
  split at h
  · cases h
    exact c_R_refuse hp k
  · cases h
def pt1 : am_PT := am_add pt0 156 f_L_within
theorem pt1_ok : am_PTok pt1 := am_add_ok pt0_ok g_L_within
def pt2 : am_PT := am_add pt1 157 f_L_brought
theorem pt2_ok : am_PTok pt2 := am_add_ok pt1_ok g_L_brought
def pt3 : am_PT := am_add pt2 151 f_L_refuse
theorem pt3_ok : am_PTok pt3 := am_add_ok pt2_ok g_L_refuse
def pt4 : am_PT := am_add pt3 152 f_L_deny
theorem pt4_ok : am_PTok pt4 := am_add_ok pt3_ok g_L_deny
def pt5 : am_PT := am_add pt4 159 f_R_in
theorem pt5_ok : am_PTok pt5 := am_add_ok pt4_ok g_R_in
def pt6 : am_PT := am_add pt5 160 f_R_refuse
theorem pt6_ok : am_PTok pt6 := am_add_ok pt5_ok g_R_refuse
theorem pt6_L_within {X : am_X} {d : Nat} {K : am_K} {S : am_S} {M : am_M} {L : am_L} {n : Int32} {lo : Int32} {hi : Int32} : am_cal X pt6 d 156 [.int n, .int lo, .int hi] S M L K = (0 ≤ d ∧ (True) ∧ K (some (.int (bI (lo ≤ n ∧ n ≤ hi)))) S (M) (L)) := cal_L_within (show pt6 156 = some f_L_within from rfl)
theorem pt6_L_brought {X : am_X} {d : Nat} {K : am_K} {S : am_S} {M : am_M} {L : am_L} {n : Int32} {lo : Int32} {hi : Int32} : am_cal X pt6 d 157 [.int n, .int lo, .int hi] S M L K = (1 ≤ d ∧ (True) ∧ K (some (.int (bro n lo hi))) S (M) (L)) := cal_L_brought (show pt6 157 = some f_L_brought from rfl)
theorem pt6_L_refuse {X : am_X} {d : Nat} {K : am_K} {S : am_S} {M : am_M} {L : am_L} {r : Int32} : am_cal X pt6 d 151 [.ref 0, .int r] S M L K = (0 ≤ d ∧ (am_env S ∧ vp_in r 3) ∧ K (some (.int (-1))) S (rfL M r.toNatClampNeg) (L)) := cal_L_refuse (show pt6 151 = some f_L_refuse from rfl)
theorem pt6_L_deny {X : am_X} {d : Nat} {K : am_K} {S : am_S} {M : am_M} {L : am_L} {r : Int32} : am_cal X pt6 d 152 [.ref 0, .int r] S M L K = (0 ≤ d ∧ (am_env S ∧ vp_in r 3) ∧ K (some (.int 0)) S (rfL M r.toNatClampNeg) (L)) := cal_L_deny (show pt6 152 = some f_L_deny from rfl)
theorem pt6_R_in {X : am_X} {d : Nat} {K : am_K} {S : am_S} {M : am_M} {L : am_L} {v : Int64} {lo : Int64} {hi : Int64} : am_cal X pt6 d 159 [.long v, .long lo, .long hi] S M L K = (0 ≤ d ∧ (True) ∧ K (some (.int (bI (lo ≤ v ∧ v ≤ hi)))) S (M) (L)) := cal_R_in (show pt6 159 = some f_R_in from rfl)
theorem pt6_R_refuse {X : am_X} {d : Nat} {K : am_K} {S : am_S} {M : am_M} {L : am_L} {a : Int32} {b : Int32} : am_cal X pt6 d 160 [.ref 70, .int a, .int b] S M L K = (0 ≤ d ∧ (am_env S) ∧ K (some (.int (-1))) S (rfR M (rsn a b)) (L)) := cal_R_refuse (show pt6 160 = some f_R_refuse from rfl)
theorem c_R_deny {a b : Int32} (hE : am_env S) (k : K (some (.int 0)) S (rfR M (rsn a b)) L) : am_Call X (d + 1) m_R_deny [.ref 70, .int a, .int b] S M L K := by
  refine EE_R_deny pt6_ok ?_
  simp only [s_aload_0_ref, s_goto, s_ic_eq, s_iconst, s_iload_1_int, s_iload_2_int, s_ireturnZ, s_iv_2, J_R_deny_0, b_R_deny_0, J_R_deny_14, b_R_deny_14, J_R_deny_15, b_R_deny_15, s_end, true_and, and_true, or_true, true_or, if_true, if_false, ite_true, ite_false, List.map_nil, List.map_cons, List.sum_nil, List.sum_cons, List.nil_append, List.cons_append, Option.toList_some, Option.toList_none, Nat.reduceAdd, Nat.reduceLeDiff, Nat.reduceSub, Nat.zero_le, List.headD_cons, List.tail_cons, List.length_cons, List.length_nil, ne_eq, reduceCtorEq, false_or, or_false, not_false_eq_true, Nat.reduceEqDiff, Nat.reduceLT, am_sw, bI_0, bI_z, bI_y, Classical.not_not, Nat.le_add_left, am_u_row2, am_r_row2, am_u_same, am_u_at, am_r_same, Int32.reduceLT, Int32.reduceLE, Int32.reduceAdd, Int32.reduceSub, Int32.reduceMul, forall_const, not_true_eq_false, implies_true, false_imp_iff, true_imp_iff, i_10, i_01, i_m10, i_m11, eq_self, or_self, false_and, and_false, and_self, am_so_some, am_pv_some, am_pv_none, l_cl_none, l_cl_int, l_cl_ref, l_cl_ra, l_cl_null, l_cl_long, cat_int, cat_ref, cat_long, cat_ra, cat_null, cl_0, cl_1, cl_2, cl_3, cl_4, cl_5, cl_6, cl_7, cl_8, cl_9, cl_10, cl_11, cl_12, cl_13, cl_14, cl_15, cl_16, cl_30, cl_64, cl_500, vl_0_2, vl_0_3, vl_0_4, vl_0_6, vl_0_7, vl_0_12, vl_0_16, vl_0_1400, vl_1_2, vl_1_3, vl_1_4, vl_1_6, vl_1_7, vl_1_12, vl_1_16, vl_1_1400, vl_2_3, vl_2_4, vl_2_6, vl_2_7, vl_2_12, vl_2_16, vl_2_1400, vl_3_4, vl_3_6, vl_3_7, vl_3_12, vl_3_16, vl_3_1400, vl_4_6, vl_4_7, vl_4_12, vl_4_16, vl_4_1400, vl_5_6, vl_5_7, vl_5_12, vl_5_16, vl_5_1400, vl_6_7, vl_6_12, vl_6_16, vl_6_1400, vl_7_12, vl_7_16, vl_8_12, vl_8_16, vl_9_12, vl_9_16, vl_10_12, vl_10_16, vl_11_12, vl_11_16, i_64le_e, i64a_0, i64b_0, i64a_1, i64b_1, i64a_2, i64b_2, i64a_3, i64b_3, i64a_4, i64b_4, i64a_5, i64b_5, i64a_7, i64b_7, i64a_8, i64b_8, i64a_9, i64b_9, i64a_10, i64b_10, i64a_16, i64b_16, i64a_50, i64b_50, i64a_m50, i64b_m50, i64a_60, i64b_60, i64a_99, i64b_99, i64a_100, i64b_100, i64a_500, i64b_500, i64a_600, i64b_600, i64a_1000, i64b_1000, i64a_1000000, i64b_1000000, i64a_m9, i64b_m9, e_s_70, e_i_70, e_l_70, e_p_70_0, e_p_70_1, e_p_70_2, e_p_70_3, e_p_70_4, e_p_70_5, e_p_70_6, e_p_70_7, e_p_70_10, e_p_70_11, e_p_70_12, e_p_70_13, e_p_70_14, e_p_70_15, e_p_70_16, e_p_70_24, e_p_70_29, e_p_70_30, e_p_70_31, e_p_70_32, e_p_70_33, e_p_70_34, e_p_70_35, e_p_70_36, e_p_70_37, e_p_70_38, e_p_70_39, e_p_70_41, e_p_70_42, e_p_70_44, e_p_70_45, e_p_70_46, e_p_70_53, e_p_70_54, e_p_70_55, e_p_70_56, e_p_70_59, e_p_70_61, e_p_70_62, pt6_R_refuse, hE]
  exact k
theorem c_R_isScreen {s : Int32} (hE : am_env S) (k : K (some (.int (bI (0 ≤ s ∧ s ≤ M 70 8 - 1)))) S M L) : am_Call X (d + 1) m_R_isScreen [.ref 70, .int s] S M L K := by
  refine EE_R_isScreen pt6_ok ?_
  simp only [s_aload_0_ref, s_get0, s_i2l, s_iconst, s_iload_1_int, s_ireturnZ, s_ist_3, s_isub, s_lconst, J_R_isScreen_0, b_R_isScreen_0, s_end, true_and, and_true, or_true, true_or, if_true, if_false, ite_true, ite_false, List.map_nil, List.map_cons, List.sum_nil, List.sum_cons, List.nil_append, List.cons_append, Option.toList_some, Option.toList_none, Nat.reduceAdd, Nat.reduceLeDiff, Nat.reduceSub, Nat.zero_le, List.headD_cons, List.tail_cons, List.length_cons, List.length_nil, ne_eq, reduceCtorEq, false_or, or_false, not_false_eq_true, Nat.reduceEqDiff, Nat.reduceLT, am_sw, bI_0, bI_z, bI_y, Classical.not_not, Nat.le_add_left, am_u_row2, am_r_row2, am_u_same, am_u_at, am_r_same, Int32.reduceLT, Int32.reduceLE, Int32.reduceAdd, Int32.reduceSub, Int32.reduceMul, forall_const, not_true_eq_false, implies_true, false_imp_iff, true_imp_iff, i_10, i_01, i_m10, i_m11, eq_self, or_self, false_and, and_false, and_self, am_so_some, am_pv_some, am_pv_none, l_cl_none, l_cl_int, l_cl_ref, l_cl_ra, l_cl_null, l_cl_long, cat_int, cat_ref, cat_long, cat_ra, cat_null, cl_0, cl_1, cl_2, cl_3, cl_4, cl_5, cl_6, cl_7, cl_8, cl_9, cl_10, cl_11, cl_12, cl_13, cl_14, cl_15, cl_16, cl_30, cl_64, cl_500, vl_0_2, vl_0_3, vl_0_4, vl_0_6, vl_0_7, vl_0_12, vl_0_16, vl_0_1400, vl_1_2, vl_1_3, vl_1_4, vl_1_6, vl_1_7, vl_1_12, vl_1_16, vl_1_1400, vl_2_3, vl_2_4, vl_2_6, vl_2_7, vl_2_12, vl_2_16, vl_2_1400, vl_3_4, vl_3_6, vl_3_7, vl_3_12, vl_3_16, vl_3_1400, vl_4_6, vl_4_7, vl_4_12, vl_4_16, vl_4_1400, vl_5_6, vl_5_7, vl_5_12, vl_5_16, vl_5_1400, vl_6_7, vl_6_12, vl_6_16, vl_6_1400, vl_7_12, vl_7_16, vl_8_12, vl_8_16, vl_9_12, vl_9_16, vl_10_12, vl_10_16, vl_11_12, vl_11_16, i_64le_e, i64a_0, i64b_0, i64a_1, i64b_1, i64a_2, i64b_2, i64a_3, i64b_3, i64a_4, i64b_4, i64a_5, i64b_5, i64a_7, i64b_7, i64a_8, i64b_8, i64a_9, i64b_9, i64a_10, i64b_10, i64a_16, i64b_16, i64a_50, i64b_50, i64a_m50, i64b_m50, i64a_60, i64b_60, i64a_99, i64b_99, i64a_100, i64b_100, i64a_500, i64b_500, i64a_600, i64b_600, i64a_1000, i64b_1000, i64a_1000000, i64b_1000000, i64a_m9, i64b_m9, e_s_70, e_i_70, e_l_70, e_p_70_0, e_p_70_1, e_p_70_2, e_p_70_3, e_p_70_4, e_p_70_5, e_p_70_6, e_p_70_7, e_p_70_10, e_p_70_11, e_p_70_12, e_p_70_13, e_p_70_14, e_p_70_15, e_p_70_16, e_p_70_24, e_p_70_29, e_p_70_30, e_p_70_31, e_p_70_32, e_p_70_33, e_p_70_34, e_p_70_35, e_p_70_36, e_p_70_37, e_p_70_38, e_p_70_39, e_p_70_41, e_p_70_42, e_p_70_44, e_p_70_45, e_p_70_46, e_p_70_53, e_p_70_54, e_p_70_55, e_p_70_56, e_p_70_59, e_p_70_61, e_p_70_62, pt6_R_in, hE]
  exact k
theorem c_R_isPlan {s : Int32} (hE : am_env S) (k : K (some (.int (bI (0 ≤ s ∧ s ≤ M 70 9 - 1)))) S M L) : am_Call X (d + 1) m_R_isPlan [.ref 70, .int s] S M L K := by
  refine EE_R_isPlan pt6_ok ?_
  simp only [s_aload_0_ref, s_get0, s_i2l, s_iconst, s_iload_1_int, s_ireturnZ, s_ist_3, s_isub, s_lconst, J_R_isPlan_0, b_R_isPlan_0, s_end, true_and, and_true, or_true, true_or, if_true, if_false, ite_true, ite_false, List.map_nil, List.map_cons, List.sum_nil, List.sum_cons, List.nil_append, List.cons_append, Option.toList_some, Option.toList_none, Nat.reduceAdd, Nat.reduceLeDiff, Nat.reduceSub, Nat.zero_le, List.headD_cons, List.tail_cons, List.length_cons, List.length_nil, ne_eq, reduceCtorEq, false_or, or_false, not_false_eq_true, Nat.reduceEqDiff, Nat.reduceLT, am_sw, bI_0, bI_z, bI_y, Classical.not_not, Nat.le_add_left, am_u_row2, am_r_row2, am_u_same, am_u_at, am_r_same, Int32.reduceLT, Int32.reduceLE, Int32.reduceAdd, Int32.reduceSub, Int32.reduceMul, forall_const, not_true_eq_false, implies_true, false_imp_iff, true_imp_iff, i_10, i_01, i_m10, i_m11, eq_self, or_self, false_and, and_false, and_self, am_so_some, am_pv_some, am_pv_none, l_cl_none, l_cl_int, l_cl_ref, l_cl_ra, l_cl_null, l_cl_long, cat_int, cat_ref, cat_long, cat_ra, cat_null, cl_0, cl_1, cl_2, cl_3, cl_4, cl_5, cl_6, cl_7, cl_8, cl_9, cl_10, cl_11, cl_12, cl_13, cl_14, cl_15, cl_16, cl_30, cl_64, cl_500, vl_0_2, vl_0_3, vl_0_4, vl_0_6, vl_0_7, vl_0_12, vl_0_16, vl_0_1400, vl_1_2, vl_1_3, vl_1_4, vl_1_6, vl_1_7, vl_1_12, vl_1_16, vl_1_1400, vl_2_3, vl_2_4, vl_2_6, vl_2_7, vl_2_12, vl_2_16, vl_2_1400, vl_3_4, vl_3_6, vl_3_7, vl_3_12, vl_3_16, vl_3_1400, vl_4_6, vl_4_7, vl_4_12, vl_4_16, vl_4_1400, vl_5_6, vl_5_7, vl_5_12, vl_5_16, vl_5_1400, vl_6_7, vl_6_12, vl_6_16, vl_6_1400, vl_7_12, vl_7_16, vl_8_12, vl_8_16, vl_9_12, vl_9_16, vl_10_12, vl_10_16, vl_11_12, vl_11_16, i_64le_e, i64a_0, i64b_0, i64a_1, i64b_1, i64a_2, i64b_2, i64a_3, i64b_3, i64a_4, i64b_4, i64a_5, i64b_5, i64a_7, i64b_7, i64a_8, i64b_8, i64a_9, i64b_9, i64a_10, i64b_10, i64a_16, i64b_16, i64a_50, i64b_50, i64a_m50, i64b_m50, i64a_60, i64b_60, i64a_99, i64b_99, i64a_100, i64b_100, i64a_500, i64b_500, i64a_600, i64b_600, i64a_1000, i64b_1000, i64a_1000000, i64b_1000000, i64a_m9, i64b_m9, e_s_70, e_i_70, e_l_70, e_p_70_0, e_p_70_1, e_p_70_2, e_p_70_3, e_p_70_4, e_p_70_5, e_p_70_6, e_p_70_7, e_p_70_10, e_p_70_11, e_p_70_12, e_p_70_13, e_p_70_14, e_p_70_15, e_p_70_16, e_p_70_24, e_p_70_29, e_p_70_30, e_p_70_31, e_p_70_32, e_p_70_33, e_p_70_34, e_p_70_35, e_p_70_36, e_p_70_37, e_p_70_38, e_p_70_39, e_p_70_41, e_p_70_42, e_p_70_44, e_p_70_45, e_p_70_46, e_p_70_53, e_p_70_54, e_p_70_55, e_p_70_56, e_p_70_59, e_p_70_61, e_p_70_62, pt6_R_in, hE]
  exact k
theorem c_R_isBaby {s : Int32} (hE : am_env S) (k : K (some (.int (bI (0 ≤ s ∧ s ≤ M 70 17 - 1)))) S M L) : am_Call X (d + 1) m_R_isBaby [.ref 70, .int s] S M L K := by
  refine EE_R_isBaby pt6_ok ?_
  simp only [s_aload_0_ref, s_get0, s_i2l, s_iconst, s_iload_1_int, s_ireturnZ, s_ist_3, s_isub, s_lconst, J_R_isBaby_0, b_R_isBaby_0, s_end, true_and, and_true, or_true, true_or, if_true, if_false, ite_true, ite_false, List.map_nil, List.map_cons, List.sum_nil, List.sum_cons, List.nil_append, List.cons_append, Option.toList_some, Option.toList_none, Nat.reduceAdd, Nat.reduceLeDiff, Nat.reduceSub, Nat.zero_le, List.headD_cons, List.tail_cons, List.length_cons, List.length_nil, ne_eq, reduceCtorEq, false_or, or_false, not_false_eq_true, Nat.reduceEqDiff, Nat.reduceLT, am_sw, bI_0, bI_z, bI_y, Classical.not_not, Nat.le_add_left, am_u_row2, am_r_row2, am_u_same, am_u_at, am_r_same, Int32.reduceLT, Int32.reduceLE, Int32.reduceAdd, Int32.reduceSub, Int32.reduceMul, forall_const, not_true_eq_false, implies_true, false_imp_iff, true_imp_iff, i_10, i_01, i_m10, i_m11, eq_self, or_self, false_and, and_false, and_self, am_so_some, am_pv_some, am_pv_none, l_cl_none, l_cl_int, l_cl_ref, l_cl_ra, l_cl_null, l_cl_long, cat_int, cat_ref, cat_long, cat_ra, cat_null, cl_0, cl_1, cl_2, cl_3, cl_4, cl_5, cl_6, cl_7, cl_8, cl_9, cl_10, cl_11, cl_12, cl_13, cl_14, cl_15, cl_16, cl_30, cl_64, cl_500, vl_0_2, vl_0_3, vl_0_4, vl_0_6, vl_0_7, vl_0_12, vl_0_16, vl_0_1400, vl_1_2, vl_1_3, vl_1_4, vl_1_6, vl_1_7, vl_1_12, vl_1_16, vl_1_1400, vl_2_3, vl_2_4, vl_2_6, vl_2_7, vl_2_12, vl_2_16, vl_2_1400, vl_3_4, vl_3_6, vl_3_7, vl_3_12, vl_3_16, vl_3_1400, vl_4_6, vl_4_7, vl_4_12, vl_4_16, vl_4_1400, vl_5_6, vl_5_7, vl_5_12, vl_5_16, vl_5_1400, vl_6_7, vl_6_12, vl_6_16, vl_6_1400, vl_7_12, vl_7_16, vl_8_12, vl_8_16, vl_9_12, vl_9_16, vl_10_12, vl_10_16, vl_11_12, vl_11_16, i_64le_e, i64a_0, i64b_0, i64a_1, i64b_1, i64a_2, i64b_2, i64a_3, i64b_3, i64a_4, i64b_4, i64a_5, i64b_5, i64a_7, i64b_7, i64a_8, i64b_8, i64a_9, i64b_9, i64a_10, i64b_10, i64a_16, i64b_16, i64a_50, i64b_50, i64a_m50, i64b_m50, i64a_60, i64b_60, i64a_99, i64b_99, i64a_100, i64b_100, i64a_500, i64b_500, i64a_600, i64b_600, i64a_1000, i64b_1000, i64a_1000000, i64b_1000000, i64a_m9, i64b_m9, e_s_70, e_i_70, e_l_70, e_p_70_0, e_p_70_1, e_p_70_2, e_p_70_3, e_p_70_4, e_p_70_5, e_p_70_6, e_p_70_7, e_p_70_10, e_p_70_11, e_p_70_12, e_p_70_13, e_p_70_14, e_p_70_15, e_p_70_16, e_p_70_24, e_p_70_29, e_p_70_30, e_p_70_31, e_p_70_32, e_p_70_33, e_p_70_34, e_p_70_35, e_p_70_36, e_p_70_37, e_p_70_38, e_p_70_39, e_p_70_41, e_p_70_42, e_p_70_44, e_p_70_45, e_p_70_46, e_p_70_53, e_p_70_54, e_p_70_55, e_p_70_56, e_p_70_59, e_p_70_61, e_p_70_62, pt6_R_in, hE]
  exact k
theorem c_R_isLaw {s : Int32} (hE : am_env S) (k : K (some (.int (bI (0 ≤ s ∧ s ≤ M 97 0 - 1)))) S M L) : am_Call X (d + 1) m_R_isLaw [.ref 70, .int s] S M L K := by
  refine EE_R_isLaw pt6_ok ?_
  simp only [s_aload_0_ref, s_get2, s_i2l, s_iald, s_iconst, s_iload_1_int, s_ireturnZ, s_ist_3, s_isub, s_lconst, J_R_isLaw_0, b_R_isLaw_0, s_end, true_and, and_true, or_true, true_or, if_true, if_false, ite_true, ite_false, List.map_nil, List.map_cons, List.sum_nil, List.sum_cons, List.nil_append, List.cons_append, Option.toList_some, Option.toList_none, Nat.reduceAdd, Nat.reduceLeDiff, Nat.reduceSub, Nat.zero_le, List.headD_cons, List.tail_cons, List.length_cons, List.length_nil, ne_eq, reduceCtorEq, false_or, or_false, not_false_eq_true, Nat.reduceEqDiff, Nat.reduceLT, am_sw, bI_0, bI_z, bI_y, Classical.not_not, Nat.le_add_left, am_u_row2, am_r_row2, am_u_same, am_u_at, am_r_same, Int32.reduceLT, Int32.reduceLE, Int32.reduceAdd, Int32.reduceSub, Int32.reduceMul, forall_const, not_true_eq_false, implies_true, false_imp_iff, true_imp_iff, i_10, i_01, i_m10, i_m11, eq_self, or_self, false_and, and_false, and_self, am_so_some, am_pv_some, am_pv_none, l_cl_none, l_cl_int, l_cl_ref, l_cl_ra, l_cl_null, l_cl_long, cat_int, cat_ref, cat_long, cat_ra, cat_null, cl_0, cl_1, cl_2, cl_3, cl_4, cl_5, cl_6, cl_7, cl_8, cl_9, cl_10, cl_11, cl_12, cl_13, cl_14, cl_15, cl_16, cl_30, cl_64, cl_500, vl_0_2, vl_0_3, vl_0_4, vl_0_6, vl_0_7, vl_0_12, vl_0_16, vl_0_1400, vl_1_2, vl_1_3, vl_1_4, vl_1_6, vl_1_7, vl_1_12, vl_1_16, vl_1_1400, vl_2_3, vl_2_4, vl_2_6, vl_2_7, vl_2_12, vl_2_16, vl_2_1400, vl_3_4, vl_3_6, vl_3_7, vl_3_12, vl_3_16, vl_3_1400, vl_4_6, vl_4_7, vl_4_12, vl_4_16, vl_4_1400, vl_5_6, vl_5_7, vl_5_12, vl_5_16, vl_5_1400, vl_6_7, vl_6_12, vl_6_16, vl_6_1400, vl_7_12, vl_7_16, vl_8_12, vl_8_16, vl_9_12, vl_9_16, vl_10_12, vl_10_16, vl_11_12, vl_11_16, i_64le_e, i64a_0, i64b_0, i64a_1, i64b_1, i64a_2, i64b_2, i64a_3, i64b_3, i64a_4, i64b_4, i64a_5, i64b_5, i64a_7, i64b_7, i64a_8, i64b_8, i64a_9, i64b_9, i64a_10, i64b_10, i64a_16, i64b_16, i64a_50, i64b_50, i64a_m50, i64b_m50, i64a_60, i64b_60, i64a_99, i64b_99, i64a_100, i64b_100, i64a_500, i64b_500, i64a_600, i64b_600, i64a_1000, i64b_1000, i64a_1000000, i64b_1000000, i64a_m9, i64b_m9, e_s_70, e_i_70, e_l_70, e_p_70_0, e_p_70_1, e_p_70_2, e_p_70_3, e_p_70_4, e_p_70_5, e_p_70_6, e_p_70_7, e_p_70_10, e_p_70_11, e_p_70_12, e_p_70_13, e_p_70_14, e_p_70_15, e_p_70_16, e_p_70_24, e_p_70_29, e_p_70_30, e_p_70_31, e_p_70_32, e_p_70_33, e_p_70_34, e_p_70_35, e_p_70_36, e_p_70_37, e_p_70_38, e_p_70_39, e_p_70_41, e_p_70_42, e_p_70_44, e_p_70_45, e_p_70_46, e_p_70_53, e_p_70_54, e_p_70_55, e_p_70_56, e_p_70_59, e_p_70_61, e_p_70_62, e_s_97, e_i_97, e_l_97, pt6_R_in, hE]
  exact k
/-- whether a screen is odd, of rows of first, hand, shown -/
abbrev oddP (fi ha sh : Nat → Int32) (s : Nat) : Prop := ¬ sh s = fi s + ha s
theorem c_R_isOdd {s : Int32} (hp : am_env S ∧ vp_in s 12) (k : K (some (.int (bI (oddP (M 73) (M 74) (M 75) s.toNatClampNeg)))) S M L) : am_Call X d m_R_isOdd [.ref 70, .int s] S M L K := by
  have hE := hp.1
  refine EE_R_isOdd pt6_ok ?_
  simp only [s_aload_0_ref, s_get2, s_goto, s_iadd, s_iald, s_ic_eq, s_iconst, s_iload_1_int, s_ireturnZ, J_R_isOdd_0, b_R_isOdd_0, J_R_isOdd_26, b_R_isOdd_26, J_R_isOdd_27, b_R_isOdd_27, s_end, true_and, and_true, or_true, true_or, if_true, if_false, ite_true, ite_false, List.map_nil, List.map_cons, List.sum_nil, List.sum_cons, List.nil_append, List.cons_append, Option.toList_some, Option.toList_none, Nat.reduceAdd, Nat.reduceLeDiff, Nat.reduceSub, Nat.zero_le, List.headD_cons, List.tail_cons, List.length_cons, List.length_nil, ne_eq, reduceCtorEq, false_or, or_false, not_false_eq_true, Nat.reduceEqDiff, Nat.reduceLT, am_sw, bI_0, bI_z, bI_y, Classical.not_not, Nat.le_add_left, am_u_row2, am_r_row2, am_u_same, am_u_at, am_r_same, Int32.reduceLT, Int32.reduceLE, Int32.reduceAdd, Int32.reduceSub, Int32.reduceMul, forall_const, not_true_eq_false, implies_true, false_imp_iff, true_imp_iff, i_10, i_01, i_m10, i_m11, eq_self, or_self, false_and, and_false, and_self, am_so_some, am_pv_some, am_pv_none, l_cl_none, l_cl_int, l_cl_ref, l_cl_ra, l_cl_null, l_cl_long, cat_int, cat_ref, cat_long, cat_ra, cat_null, cl_0, cl_1, cl_2, cl_3, cl_4, cl_5, cl_6, cl_7, cl_8, cl_9, cl_10, cl_11, cl_12, cl_13, cl_14, cl_15, cl_16, cl_30, cl_64, cl_500, vl_0_2, vl_0_3, vl_0_4, vl_0_6, vl_0_7, vl_0_12, vl_0_16, vl_0_1400, vl_1_2, vl_1_3, vl_1_4, vl_1_6, vl_1_7, vl_1_12, vl_1_16, vl_1_1400, vl_2_3, vl_2_4, vl_2_6, vl_2_7, vl_2_12, vl_2_16, vl_2_1400, vl_3_4, vl_3_6, vl_3_7, vl_3_12, vl_3_16, vl_3_1400, vl_4_6, vl_4_7, vl_4_12, vl_4_16, vl_4_1400, vl_5_6, vl_5_7, vl_5_12, vl_5_16, vl_5_1400, vl_6_7, vl_6_12, vl_6_16, vl_6_1400, vl_7_12, vl_7_16, vl_8_12, vl_8_16, vl_9_12, vl_9_16, vl_10_12, vl_10_16, vl_11_12, vl_11_16, i_64le_e, i64a_0, i64b_0, i64a_1, i64b_1, i64a_2, i64b_2, i64a_3, i64b_3, i64a_4, i64b_4, i64a_5, i64b_5, i64a_7, i64b_7, i64a_8, i64b_8, i64a_9, i64b_9, i64a_10, i64b_10, i64a_16, i64b_16, i64a_50, i64b_50, i64a_m50, i64b_m50, i64a_60, i64b_60, i64a_99, i64b_99, i64a_100, i64b_100, i64a_500, i64b_500, i64a_600, i64b_600, i64a_1000, i64b_1000, i64a_1000000, i64b_1000000, i64a_m9, i64b_m9, e_s_70, e_i_70, e_l_70, e_p_70_0, e_p_70_1, e_p_70_2, e_p_70_3, e_p_70_4, e_p_70_5, e_p_70_6, e_p_70_7, e_p_70_10, e_p_70_11, e_p_70_12, e_p_70_13, e_p_70_14, e_p_70_15, e_p_70_16, e_p_70_24, e_p_70_29, e_p_70_30, e_p_70_31, e_p_70_32, e_p_70_33, e_p_70_34, e_p_70_35, e_p_70_36, e_p_70_37, e_p_70_38, e_p_70_39, e_p_70_41, e_p_70_42, e_p_70_44, e_p_70_45, e_p_70_46, e_p_70_53, e_p_70_54, e_p_70_55, e_p_70_56, e_p_70_59, e_p_70_61, e_p_70_62, e_s_73, e_i_73, e_l_73, e_s_74, e_i_74, e_l_74, e_s_75, e_i_75, e_l_75, hE]
  refine ⟨hp.2, hp.2, hp.2, fun h => ?_, fun h => ?_⟩
  · rw [bI_f (not_not_intro h)] at k; exact k
  · rw [bI_t h] at k; exact k
theorem c_Stage_isOdd {s : Int32} (hp : am_env S ∧ vp_in s 12) (k : K (some (.int (bI (oddP (M 25) (M 26) (M 27) s.toNatClampNeg)))) S M L) : am_Call X d m_Stage_isOdd [.ref 23, .int s] S M L K := by
  have hE := hp.1
  refine EE_Stage_isOdd pt6_ok ?_
  simp only [s_aload_0_ref, s_get2, s_goto, s_iadd, s_iald, s_ic_eq, s_iconst, s_iload_1_int, s_ireturnZ, J_Stage_isOdd_0, b_Stage_isOdd_0, J_Stage_isOdd_26, b_Stage_isOdd_26, J_Stage_isOdd_27, b_Stage_isOdd_27, s_end, true_and, and_true, or_true, true_or, if_true, if_false, ite_true, ite_false, List.map_nil, List.map_cons, List.sum_nil, List.sum_cons, List.nil_append, List.cons_append, Option.toList_some, Option.toList_none, Nat.reduceAdd, Nat.reduceLeDiff, Nat.reduceSub, Nat.zero_le, List.headD_cons, List.tail_cons, List.length_cons, List.length_nil, ne_eq, reduceCtorEq, false_or, or_false, not_false_eq_true, Nat.reduceEqDiff, Nat.reduceLT, am_sw, bI_0, bI_z, bI_y, Classical.not_not, Nat.le_add_left, am_u_row2, am_r_row2, am_u_same, am_u_at, am_r_same, Int32.reduceLT, Int32.reduceLE, Int32.reduceAdd, Int32.reduceSub, Int32.reduceMul, forall_const, not_true_eq_false, implies_true, false_imp_iff, true_imp_iff, i_10, i_01, i_m10, i_m11, eq_self, or_self, false_and, and_false, and_self, am_so_some, am_pv_some, am_pv_none, l_cl_none, l_cl_int, l_cl_ref, l_cl_ra, l_cl_null, l_cl_long, cat_int, cat_ref, cat_long, cat_ra, cat_null, cl_0, cl_1, cl_2, cl_3, cl_4, cl_5, cl_6, cl_7, cl_8, cl_9, cl_10, cl_11, cl_12, cl_13, cl_14, cl_15, cl_16, cl_30, cl_64, cl_500, vl_0_2, vl_0_3, vl_0_4, vl_0_6, vl_0_7, vl_0_12, vl_0_16, vl_0_1400, vl_1_2, vl_1_3, vl_1_4, vl_1_6, vl_1_7, vl_1_12, vl_1_16, vl_1_1400, vl_2_3, vl_2_4, vl_2_6, vl_2_7, vl_2_12, vl_2_16, vl_2_1400, vl_3_4, vl_3_6, vl_3_7, vl_3_12, vl_3_16, vl_3_1400, vl_4_6, vl_4_7, vl_4_12, vl_4_16, vl_4_1400, vl_5_6, vl_5_7, vl_5_12, vl_5_16, vl_5_1400, vl_6_7, vl_6_12, vl_6_16, vl_6_1400, vl_7_12, vl_7_16, vl_8_12, vl_8_16, vl_9_12, vl_9_16, vl_10_12, vl_10_16, vl_11_12, vl_11_16, i_64le_e, i64a_0, i64b_0, i64a_1, i64b_1, i64a_2, i64b_2, i64a_3, i64b_3, i64a_4, i64b_4, i64a_5, i64b_5, i64a_7, i64b_7, i64a_8, i64b_8, i64a_9, i64b_9, i64a_10, i64b_10, i64a_16, i64b_16, i64a_50, i64b_50, i64a_m50, i64b_m50, i64a_60, i64b_60, i64a_99, i64b_99, i64a_100, i64b_100, i64a_500, i64b_500, i64a_600, i64b_600, i64a_1000, i64b_1000, i64a_1000000, i64b_1000000, i64a_m9, i64b_m9, e_s_23, e_i_23, e_l_23, e_p_23_0, e_p_23_1, e_p_23_2, e_p_23_3, e_p_23_4, e_p_23_5, e_p_23_6, e_s_24, e_i_24, e_l_24, e_s_25, e_i_25, e_l_25, e_s_26, e_i_26, e_l_26, e_s_27, e_i_27, e_l_27, e_s_28, e_i_28, e_l_28, e_s_29, e_i_29, e_l_29, e_s_30, e_i_30, e_l_30, hE]
  refine ⟨hp.2, hp.2, hp.2, fun h => ?_, fun h => ?_⟩
  · rw [bI_f (not_not_intro h)] at k; exact k
  · rw [bI_t h] at k; exact k
theorem c_Stage_hasScreen {s : Int32} (hE : am_env S) (k : K (some (.int (bI (0 ≤ s ∧ s < M 23 7)))) S M L) : am_Call X d m_Stage_hasScreen [.ref 23, .int s] S M L K := by
  refine EE_Stage_hasScreen pt6_ok ?_
  simp only [s_aload_0_ref, s_get0, s_goto, s_ic_ge, s_iconst, s_if_lt, s_iload_1_int, s_ireturnZ, J_Stage_hasScreen_0, b_Stage_hasScreen_0, J_Stage_hasScreen_16, b_Stage_hasScreen_16, J_Stage_hasScreen_17, b_Stage_hasScreen_17, s_end, true_and, and_true, or_true, true_or, if_true, if_false, ite_true, ite_false, List.map_nil, List.map_cons, List.sum_nil, List.sum_cons, List.nil_append, List.cons_append, Option.toList_some, Option.toList_none, Nat.reduceAdd, Nat.reduceLeDiff, Nat.reduceSub, Nat.zero_le, List.headD_cons, List.tail_cons, List.length_cons, List.length_nil, ne_eq, reduceCtorEq, false_or, or_false, not_false_eq_true, Nat.reduceEqDiff, Nat.reduceLT, am_sw, bI_0, bI_z, bI_y, Classical.not_not, Nat.le_add_left, am_u_row2, am_r_row2, am_u_same, am_u_at, am_r_same, Int32.reduceLT, Int32.reduceLE, Int32.reduceAdd, Int32.reduceSub, Int32.reduceMul, forall_const, not_true_eq_false, implies_true, false_imp_iff, true_imp_iff, i_10, i_01, i_m10, i_m11, eq_self, or_self, false_and, and_false, and_self, am_so_some, am_pv_some, am_pv_none, l_cl_none, l_cl_int, l_cl_ref, l_cl_ra, l_cl_null, l_cl_long, cat_int, cat_ref, cat_long, cat_ra, cat_null, cl_0, cl_1, cl_2, cl_3, cl_4, cl_5, cl_6, cl_7, cl_8, cl_9, cl_10, cl_11, cl_12, cl_13, cl_14, cl_15, cl_16, cl_30, cl_64, cl_500, vl_0_2, vl_0_3, vl_0_4, vl_0_6, vl_0_7, vl_0_12, vl_0_16, vl_0_1400, vl_1_2, vl_1_3, vl_1_4, vl_1_6, vl_1_7, vl_1_12, vl_1_16, vl_1_1400, vl_2_3, vl_2_4, vl_2_6, vl_2_7, vl_2_12, vl_2_16, vl_2_1400, vl_3_4, vl_3_6, vl_3_7, vl_3_12, vl_3_16, vl_3_1400, vl_4_6, vl_4_7, vl_4_12, vl_4_16, vl_4_1400, vl_5_6, vl_5_7, vl_5_12, vl_5_16, vl_5_1400, vl_6_7, vl_6_12, vl_6_16, vl_6_1400, vl_7_12, vl_7_16, vl_8_12, vl_8_16, vl_9_12, vl_9_16, vl_10_12, vl_10_16, vl_11_12, vl_11_16, i_64le_e, i64a_0, i64b_0, i64a_1, i64b_1, i64a_2, i64b_2, i64a_3, i64b_3, i64a_4, i64b_4, i64a_5, i64b_5, i64a_7, i64b_7, i64a_8, i64b_8, i64a_9, i64b_9, i64a_10, i64b_10, i64a_16, i64b_16, i64a_50, i64b_50, i64a_m50, i64b_m50, i64a_60, i64b_60, i64a_99, i64b_99, i64a_100, i64b_100, i64a_500, i64b_500, i64a_600, i64b_600, i64a_1000, i64b_1000, i64a_1000000, i64b_1000000, i64a_m9, i64b_m9, e_s_23, e_i_23, e_l_23, e_p_23_0, e_p_23_1, e_p_23_2, e_p_23_3, e_p_23_4, e_p_23_5, e_p_23_6, e_s_24, e_i_24, e_l_24, e_s_25, e_i_25, e_l_25, e_s_26, e_i_26, e_l_26, e_s_27, e_i_27, e_l_27, e_s_28, e_i_28, e_l_28, e_s_29, e_i_29, e_l_29, e_s_30, e_i_30, e_l_30, hE]
  refine ⟨fun h => ?_, fun h => ⟨fun h2 => ?_, fun h2 => ?_⟩⟩
  · rw [bI_f (fun q => absurd h (Int32.not_lt.mpr q.1))] at k; exact k
  · rw [bI_f (fun q => absurd q.2 (Int32.not_lt.mpr h2))] at k; exact k
  · rw [bI_t ⟨i_lt_of h, i_le_of h2⟩] at k; exact k
theorem c_Stage_hasPlan {s : Int32} (hE : am_env S) (k : K (some (.int (bI (0 ≤ s ∧ s < M 23 8)))) S M L) : am_Call X d m_Stage_hasPlan [.ref 23, .int s] S M L K := by
  refine EE_Stage_hasPlan pt6_ok ?_
  simp only [s_aload_0_ref, s_get0, s_goto, s_ic_ge, s_iconst, s_if_lt, s_iload_1_int, s_ireturnZ, J_Stage_hasPlan_0, b_Stage_hasPlan_0, J_Stage_hasPlan_16, b_Stage_hasPlan_16, J_Stage_hasPlan_17, b_Stage_hasPlan_17, s_end, true_and, and_true, or_true, true_or, if_true, if_false, ite_true, ite_false, List.map_nil, List.map_cons, List.sum_nil, List.sum_cons, List.nil_append, List.cons_append, Option.toList_some, Option.toList_none, Nat.reduceAdd, Nat.reduceLeDiff, Nat.reduceSub, Nat.zero_le, List.headD_cons, List.tail_cons, List.length_cons, List.length_nil, ne_eq, reduceCtorEq, false_or, or_false, not_false_eq_true, Nat.reduceEqDiff, Nat.reduceLT, am_sw, bI_0, bI_z, bI_y, Classical.not_not, Nat.le_add_left, am_u_row2, am_r_row2, am_u_same, am_u_at, am_r_same, Int32.reduceLT, Int32.reduceLE, Int32.reduceAdd, Int32.reduceSub, Int32.reduceMul, forall_const, not_true_eq_false, implies_true, false_imp_iff, true_imp_iff, i_10, i_01, i_m10, i_m11, eq_self, or_self, false_and, and_false, and_self, am_so_some, am_pv_some, am_pv_none, l_cl_none, l_cl_int, l_cl_ref, l_cl_ra, l_cl_null, l_cl_long, cat_int, cat_ref, cat_long, cat_ra, cat_null, cl_0, cl_1, cl_2, cl_3, cl_4, cl_5, cl_6, cl_7, cl_8, cl_9, cl_10, cl_11, cl_12, cl_13, cl_14, cl_15, cl_16, cl_30, cl_64, cl_500, vl_0_2, vl_0_3, vl_0_4, vl_0_6, vl_0_7, vl_0_12, vl_0_16, vl_0_1400, vl_1_2, vl_1_3, vl_1_4, vl_1_6, vl_1_7, vl_1_12, vl_1_16, vl_1_1400, vl_2_3, vl_2_4, vl_2_6, vl_2_7, vl_2_12, vl_2_16, vl_2_1400, vl_3_4, vl_3_6, vl_3_7, vl_3_12, vl_3_16, vl_3_1400, vl_4_6, vl_4_7, vl_4_12, vl_4_16, vl_4_1400, vl_5_6, vl_5_7, vl_5_12, vl_5_16, vl_5_1400, vl_6_7, vl_6_12, vl_6_16, vl_6_1400, vl_7_12, vl_7_16, vl_8_12, vl_8_16, vl_9_12, vl_9_16, vl_10_12, vl_10_16, vl_11_12, vl_11_16, i_64le_e, i64a_0, i64b_0, i64a_1, i64b_1, i64a_2, i64b_2, i64a_3, i64b_3, i64a_4, i64b_4, i64a_5, i64b_5, i64a_7, i64b_7, i64a_8, i64b_8, i64a_9, i64b_9, i64a_10, i64b_10, i64a_16, i64b_16, i64a_50, i64b_50, i64a_m50, i64b_m50, i64a_60, i64b_60, i64a_99, i64b_99, i64a_100, i64b_100, i64a_500, i64b_500, i64a_600, i64b_600, i64a_1000, i64b_1000, i64a_1000000, i64b_1000000, i64a_m9, i64b_m9, e_s_23, e_i_23, e_l_23, e_p_23_0, e_p_23_1, e_p_23_2, e_p_23_3, e_p_23_4, e_p_23_5, e_p_23_6, e_s_24, e_i_24, e_l_24, e_s_25, e_i_25, e_l_25, e_s_26, e_i_26, e_l_26, e_s_27, e_i_27, e_l_27, e_s_28, e_i_28, e_l_28, e_s_29, e_i_29, e_l_29, e_s_30, e_i_30, e_l_30, hE]
  refine ⟨fun h => ?_, fun h => ⟨fun h2 => ?_, fun h2 => ?_⟩⟩
  · rw [bI_f (fun q => absurd h (Int32.not_lt.mpr q.1))] at k; exact k
  · rw [bI_f (fun q => absurd q.2 (Int32.not_lt.mpr h2))] at k; exact k
  · rw [bI_t ⟨i_lt_of h, i_le_of h2⟩] at k; exact k
theorem c_Lab_hasBaby {s : Int32} (hE : am_env S) (k : K (some (.int (bI (0 ≤ s ∧ s < M 31 7)))) S M L) : am_Call X d m_Lab_hasBaby [.ref 31, .int s] S M L K := by
  refine EE_Lab_hasBaby pt6_ok ?_
  simp only [s_aload_0_ref, s_get0, s_goto, s_ic_ge, s_iconst, s_if_lt, s_iload_1_int, s_ireturnZ, J_Lab_hasBaby_0, b_Lab_hasBaby_0, J_Lab_hasBaby_16, b_Lab_hasBaby_16, J_Lab_hasBaby_17, b_Lab_hasBaby_17, s_end, true_and, and_true, or_true, true_or, if_true, if_false, ite_true, ite_false, List.map_nil, List.map_cons, List.sum_nil, List.sum_cons, List.nil_append, List.cons_append, Option.toList_some, Option.toList_none, Nat.reduceAdd, Nat.reduceLeDiff, Nat.reduceSub, Nat.zero_le, List.headD_cons, List.tail_cons, List.length_cons, List.length_nil, ne_eq, reduceCtorEq, false_or, or_false, not_false_eq_true, Nat.reduceEqDiff, Nat.reduceLT, am_sw, bI_0, bI_z, bI_y, Classical.not_not, Nat.le_add_left, am_u_row2, am_r_row2, am_u_same, am_u_at, am_r_same, Int32.reduceLT, Int32.reduceLE, Int32.reduceAdd, Int32.reduceSub, Int32.reduceMul, forall_const, not_true_eq_false, implies_true, false_imp_iff, true_imp_iff, i_10, i_01, i_m10, i_m11, eq_self, or_self, false_and, and_false, and_self, am_so_some, am_pv_some, am_pv_none, l_cl_none, l_cl_int, l_cl_ref, l_cl_ra, l_cl_null, l_cl_long, cat_int, cat_ref, cat_long, cat_ra, cat_null, cl_0, cl_1, cl_2, cl_3, cl_4, cl_5, cl_6, cl_7, cl_8, cl_9, cl_10, cl_11, cl_12, cl_13, cl_14, cl_15, cl_16, cl_30, cl_64, cl_500, vl_0_2, vl_0_3, vl_0_4, vl_0_6, vl_0_7, vl_0_12, vl_0_16, vl_0_1400, vl_1_2, vl_1_3, vl_1_4, vl_1_6, vl_1_7, vl_1_12, vl_1_16, vl_1_1400, vl_2_3, vl_2_4, vl_2_6, vl_2_7, vl_2_12, vl_2_16, vl_2_1400, vl_3_4, vl_3_6, vl_3_7, vl_3_12, vl_3_16, vl_3_1400, vl_4_6, vl_4_7, vl_4_12, vl_4_16, vl_4_1400, vl_5_6, vl_5_7, vl_5_12, vl_5_16, vl_5_1400, vl_6_7, vl_6_12, vl_6_16, vl_6_1400, vl_7_12, vl_7_16, vl_8_12, vl_8_16, vl_9_12, vl_9_16, vl_10_12, vl_10_16, vl_11_12, vl_11_16, i_64le_e, i64a_0, i64b_0, i64a_1, i64b_1, i64a_2, i64b_2, i64a_3, i64b_3, i64a_4, i64b_4, i64a_5, i64b_5, i64a_7, i64b_7, i64a_8, i64b_8, i64a_9, i64b_9, i64a_10, i64b_10, i64a_16, i64b_16, i64a_50, i64b_50, i64a_m50, i64b_m50, i64a_60, i64b_60, i64a_99, i64b_99, i64a_100, i64b_100, i64a_500, i64b_500, i64a_600, i64b_600, i64a_1000, i64b_1000, i64a_1000000, i64b_1000000, i64a_m9, i64b_m9, e_s_31, e_i_31, e_l_31, e_p_31_0, e_p_31_1, e_p_31_2, e_p_31_3, e_p_31_4, e_p_31_5, e_p_31_6, e_s_32, e_i_32, e_l_32, e_s_33, e_i_33, e_l_33, e_s_34, e_i_34, e_l_34, e_s_35, e_i_35, e_l_35, e_s_36, e_i_36, e_l_36, e_s_37, e_i_37, e_l_37, e_s_38, e_i_38, e_l_38, hE]
  refine ⟨fun h => ?_, fun h => ⟨fun h2 => ?_, fun h2 => ?_⟩⟩
  · rw [bI_f (fun q => absurd h (Int32.not_lt.mpr q.1))] at k; exact k
  · rw [bI_f (fun q => absurd q.2 (Int32.not_lt.mpr h2))] at k; exact k
  · rw [bI_t ⟨i_lt_of h, i_le_of h2⟩] at k; exact k
theorem c_Program_hasLaw {s : Int32} (hE : am_env S) (k : K (some (.int (bI (0 ≤ s ∧ s < M 16 7)))) S M L) : am_Call X d m_Program_hasLaw [.ref 16, .int s] S M L K := by
  refine EE_Program_hasLaw pt6_ok ?_
  simp only [s_aload_0_ref, s_get0, s_goto, s_ic_ge, s_iconst, s_if_lt, s_iload_1_int, s_ireturnZ, J_Program_hasLaw_0, b_Program_hasLaw_0, J_Program_hasLaw_16, b_Program_hasLaw_16, J_Program_hasLaw_17, b_Program_hasLaw_17, s_end, true_and, and_true, or_true, true_or, if_true, if_false, ite_true, ite_false, List.map_nil, List.map_cons, List.sum_nil, List.sum_cons, List.nil_append, List.cons_append, Option.toList_some, Option.toList_none, Nat.reduceAdd, Nat.reduceLeDiff, Nat.reduceSub, Nat.zero_le, List.headD_cons, List.tail_cons, List.length_cons, List.length_nil, ne_eq, reduceCtorEq, false_or, or_false, not_false_eq_true, Nat.reduceEqDiff, Nat.reduceLT, am_sw, bI_0, bI_z, bI_y, Classical.not_not, Nat.le_add_left, am_u_row2, am_r_row2, am_u_same, am_u_at, am_r_same, Int32.reduceLT, Int32.reduceLE, Int32.reduceAdd, Int32.reduceSub, Int32.reduceMul, forall_const, not_true_eq_false, implies_true, false_imp_iff, true_imp_iff, i_10, i_01, i_m10, i_m11, eq_self, or_self, false_and, and_false, and_self, am_so_some, am_pv_some, am_pv_none, l_cl_none, l_cl_int, l_cl_ref, l_cl_ra, l_cl_null, l_cl_long, cat_int, cat_ref, cat_long, cat_ra, cat_null, cl_0, cl_1, cl_2, cl_3, cl_4, cl_5, cl_6, cl_7, cl_8, cl_9, cl_10, cl_11, cl_12, cl_13, cl_14, cl_15, cl_16, cl_30, cl_64, cl_500, vl_0_2, vl_0_3, vl_0_4, vl_0_6, vl_0_7, vl_0_12, vl_0_16, vl_0_1400, vl_1_2, vl_1_3, vl_1_4, vl_1_6, vl_1_7, vl_1_12, vl_1_16, vl_1_1400, vl_2_3, vl_2_4, vl_2_6, vl_2_7, vl_2_12, vl_2_16, vl_2_1400, vl_3_4, vl_3_6, vl_3_7, vl_3_12, vl_3_16, vl_3_1400, vl_4_6, vl_4_7, vl_4_12, vl_4_16, vl_4_1400, vl_5_6, vl_5_7, vl_5_12, vl_5_16, vl_5_1400, vl_6_7, vl_6_12, vl_6_16, vl_6_1400, vl_7_12, vl_7_16, vl_8_12, vl_8_16, vl_9_12, vl_9_16, vl_10_12, vl_10_16, vl_11_12, vl_11_16, i_64le_e, i64a_0, i64b_0, i64a_1, i64b_1, i64a_2, i64b_2, i64a_3, i64b_3, i64a_4, i64b_4, i64a_5, i64b_5, i64a_7, i64b_7, i64a_8, i64b_8, i64a_9, i64b_9, i64a_10, i64b_10, i64a_16, i64b_16, i64a_50, i64b_50, i64a_m50, i64b_m50, i64a_60, i64b_60, i64a_99, i64b_99, i64a_100, i64b_100, i64a_500, i64b_500, i64a_600, i64b_600, i64a_1000, i64b_1000, i64a_1000000, i64b_1000000, i64a_m9, i64b_m9, e_s_9, e_i_9, e_l_9, e_p_9_0, e_p_9_1, e_p_9_2, e_p_9_3, e_p_9_4, e_p_9_5, e_s_10, e_i_10, e_l_10, e_s_11, e_i_11, e_l_11, e_s_12, e_i_12, e_l_12, e_s_13, e_i_13, e_l_13, e_s_14, e_i_14, e_l_14, e_s_15, e_i_15, e_l_15, e_s_16, e_i_16, e_l_16, e_p_16_0, e_p_16_1, e_p_16_2, e_p_16_3, e_p_16_4, e_p_16_5, e_s_17, e_i_17, e_l_17, e_s_18, e_i_18, e_l_18, e_s_19, e_i_19, e_l_19, e_s_20, e_i_20, e_l_20, e_s_21, e_i_21, e_l_21, e_s_22, e_i_22, e_l_22, hE]
  refine ⟨fun h => ?_, fun h => ⟨fun h2 => ?_, fun h2 => ?_⟩⟩
  · rw [bI_f (fun q => absurd h (Int32.not_lt.mpr q.1))] at k; exact k
  · rw [bI_f (fun q => absurd q.2 (Int32.not_lt.mpr h2))] at k; exact k
  · rw [bI_t ⟨i_lt_of h, i_le_of h2⟩] at k; exact k
theorem c_Finder_forget (hE : am_env S) (k : K none S (am_u M 62 8 0) L) : am_Call X d m_Finder_forget [.ref 62] S M L K := by
  refine EE_Finder_forget pt6_ok ?_
  simp only [s_aload_0_ref, s_iconst, s_put0, s_return, J_Finder_forget_0, b_Finder_forget_0, s_end, true_and, and_true, or_true, true_or, if_true, if_false, ite_true, ite_false, List.map_nil, List.map_cons, List.sum_nil, List.sum_cons, List.nil_append, List.cons_append, Option.toList_some, Option.toList_none, Nat.reduceAdd, Nat.reduceLeDiff, Nat.reduceSub, Nat.zero_le, List.headD_cons, List.tail_cons, List.length_cons, List.length_nil, ne_eq, reduceCtorEq, false_or, or_false, not_false_eq_true, Nat.reduceEqDiff, Nat.reduceLT, am_sw, bI_0, bI_z, bI_y, Classical.not_not, Nat.le_add_left, am_u_row2, am_r_row2, am_u_same, am_u_at, am_r_same, Int32.reduceLT, Int32.reduceLE, Int32.reduceAdd, Int32.reduceSub, Int32.reduceMul, forall_const, not_true_eq_false, implies_true, false_imp_iff, true_imp_iff, i_10, i_01, i_m10, i_m11, eq_self, or_self, false_and, and_false, and_self, am_so_some, am_pv_some, am_pv_none, l_cl_none, l_cl_int, l_cl_ref, l_cl_ra, l_cl_null, l_cl_long, cat_int, cat_ref, cat_long, cat_ra, cat_null, cl_0, cl_1, cl_2, cl_3, cl_4, cl_5, cl_6, cl_7, cl_8, cl_9, cl_10, cl_11, cl_12, cl_13, cl_14, cl_15, cl_16, cl_30, cl_64, cl_500, vl_0_2, vl_0_3, vl_0_4, vl_0_6, vl_0_7, vl_0_12, vl_0_16, vl_0_1400, vl_1_2, vl_1_3, vl_1_4, vl_1_6, vl_1_7, vl_1_12, vl_1_16, vl_1_1400, vl_2_3, vl_2_4, vl_2_6, vl_2_7, vl_2_12, vl_2_16, vl_2_1400, vl_3_4, vl_3_6, vl_3_7, vl_3_12, vl_3_16, vl_3_1400, vl_4_6, vl_4_7, vl_4_12, vl_4_16, vl_4_1400, vl_5_6, vl_5_7, vl_5_12, vl_5_16, vl_5_1400, vl_6_7, vl_6_12, vl_6_16, vl_6_1400, vl_7_12, vl_7_16, vl_8_12, vl_8_16, vl_9_12, vl_9_16, vl_10_12, vl_10_16, vl_11_12, vl_11_16, i_64le_e, i64a_0, i64b_0, i64a_1, i64b_1, i64a_2, i64b_2, i64a_3, i64b_3, i64a_4, i64b_4, i64a_5, i64b_5, i64a_7, i64b_7, i64a_8, i64b_8, i64a_9, i64b_9, i64a_10, i64b_10, i64a_16, i64b_16, i64a_50, i64b_50, i64a_m50, i64b_m50, i64a_60, i64b_60, i64a_99, i64b_99, i64a_100, i64b_100, i64a_500, i64b_500, i64a_600, i64b_600, i64a_1000, i64b_1000, i64a_1000000, i64b_1000000, i64a_m9, i64b_m9, e_s_16, e_i_16, e_l_16, e_p_16_0, e_p_16_1, e_p_16_2, e_p_16_3, e_p_16_4, e_p_16_5, e_s_23, e_i_23, e_l_23, e_p_23_0, e_p_23_1, e_p_23_2, e_p_23_3, e_p_23_4, e_p_23_5, e_p_23_6, e_s_48, e_i_48, e_l_48, e_p_48_0, e_p_48_1, e_p_48_2, e_p_48_3, e_p_48_5, e_s_62, e_i_62, e_l_62, e_p_62_0, e_p_62_1, e_p_62_2, e_p_62_3, e_p_62_4, e_p_62_5, e_p_62_6, e_p_62_7, e_p_62_12, e_s_63, e_i_63, e_l_63, e_s_64, e_i_64, e_l_64, e_s_65, e_i_65, e_l_65, e_s_66, e_i_66, e_l_66, e_s_67, e_i_67, e_l_67, e_s_68, e_i_68, e_l_68, hE]
  exact k
def f_R_deny : List Value → am_S → am_M → am_L → Option (Prop × Nat × Option Value × am_M × am_L) := fun avs S M L => match avs with
  | [.ref 70, .int a, .int b] => some (am_env S, 1, some (.int 0), rfR M (rsn a b), L)
  | _ => none
theorem cal_R_deny {X : am_X} {PT : am_PT} {d : Nat} {K : am_K} {S : am_S} {M : am_M} {L : am_L} {a : Int32} {b : Int32} (hPT9 : PT 161 = some f_R_deny) : am_cal X PT d 161 [.ref 70, .int a, .int b] S M L K = (1 ≤ d ∧ (am_env S) ∧ K (some (.int 0)) S (rfR M (rsn a b)) (L)) := by
  unfold am_cal
  rw [hPT9]
  exact propext Iff.rfl
theorem g_R_deny : am_PTf 161 f_R_deny := by
  intro avs S M L o h hp X d K k
  unfold f_R_deny at h
  split at h
  · cases h
    exact c_R_deny hp k
  · cases h
def f_R_isScreen : List Value → am_S → am_M → am_L → Option (Prop × Nat × Option Value × am_M × am_L) := fun avs S M L => match avs with
  | [.ref 70, .int s] => some (am_env S, 1, some (.int (bI (0 ≤ s ∧ s ≤ M 70 8 - 1))), M, L)
  | _ => none
theorem cal_R_isScreen {X : am_X} {PT : am_PT} {d : Nat} {K : am_K} {S : am_S} {M : am_M} {L : am_L} {s : Int32} (hPT9 : PT 165 = some f_R_isScreen) : am_cal X PT d 165 [.ref 70, .int s] S M L K = (1 ≤ d ∧ (am_env S) ∧ K (some (.int (bI (0 ≤ s ∧ s ≤ M 70 8 - 1)))) S (M) (L)) := by
  unfold am_cal
  rw [hPT9]
  exact propext Iff.rfl
theorem g_R_isScreen : am_PTf 165 f_R_isScreen := by
  intro avs S M L o h hp X d K k
  unfold f_R_isScreen at h
  split at h
  · cases h
    exact c_R_isScreen hp k
  · cases h
def f_R_isPlan : List Value → am_S → am_M → am_L → Option (Prop × Nat × Option Value × am_M × am_L) := fun avs S M L => match avs with
  | [.ref 70, .int s] => some (am_env S, 1, some (.int (bI (0 ≤ s ∧ s ≤ M 70 9 - 1))), M, L)
  | _ => none
theorem cal_R_isPlan {X : am_X} {PT : am_PT} {d : Nat} {K : am_K} {S : am_S} {M : am_M} {L : am_L} {s : Int32} (hPT9 : PT 169 = some f_R_isPlan) : am_cal X PT d 169 [.ref 70, .int s] S M L K = (1 ≤ d ∧ (am_env S) ∧ K (some (.int (bI (0 ≤ s ∧ s ≤ M 70 9 - 1)))) S (M) (L)) := by
  unfold am_cal
  rw [hPT9]
  exact propext Iff.rfl
theorem g_R_isPlan : am_PTf 169 f_R_isPlan := by
  intro avs S M L o h hp X d K k
  unfold f_R_isPlan at h
  split at h
  · cases h
    exact c_R_isPlan hp k
  · cases h
def f_R_isBaby : List Value → am_S → am_M → am_L → Option (Prop × Nat × Option Value × am_M × am_L) := fun avs S M L => match avs with
  | [.ref 70, .int s] => some (am_env S, 1, some (.int (bI (0 ≤ s ∧ s ≤ M 70 17 - 1))), M, L)
  | _ => none
theorem cal_R_isBaby {X : am_X} {PT : am_PT} {d : Nat} {K : am_K} {S : am_S} {M : am_M} {L : am_L} {s : Int32} (hPT9 : PT 173 = some f_R_isBaby) : am_cal X PT d 173 [.ref 70, .int s] S M L K = (1 ≤ d ∧ (am_env S) ∧ K (some (.int (bI (0 ≤ s ∧ s ≤ M 70 17 - 1)))) S (M) (L)) := by
  unfold am_cal
  rw [hPT9]
  exact propext Iff.rfl
theorem g_R_isBaby : am_PTf 173 f_R_isBaby := by
  intro avs S M L o h hp X d K k
  unfold f_R_isBaby at h
  split at h
  · cases h
    exact c_R_isBaby hp k
  · cases h
def f_R_isLaw : List Value → am_S → am_M → am_L → Option (Prop × Nat × Option Value × am_M × am_L) := fun avs S M L => match avs with
  | [.ref 70, .int s] => some (am_env S, 1, some (.int (bI (0 ≤ s ∧ s ≤ M 97 0 - 1))), M, L)
  | _ => none
theorem cal_R_isLaw {X : am_X} {PT : am_PT} {d : Nat} {K : am_K} {S : am_S} {M : am_M} {L : am_L} {s : Int32} (hPT9 : PT 209 = some f_R_isLaw) : am_cal X PT d 209 [.ref 70, .int s] S M L K = (1 ≤ d ∧ (am_env S) ∧ K (some (.int (bI (0 ≤ s ∧ s ≤ M 97 0 - 1)))) S (M) (L)) := by
  unfold am_cal
  rw [hPT9]
  exact propext Iff.rfl
theorem g_R_isLaw : am_PTf 209 f_R_isLaw := by
  intro avs S M L o h hp X d K k
  unfold f_R_isLaw at h
  split at h
  · cases h
    exact c_R_isLaw hp k
  · cases h
def f_R_isOdd : List Value → am_S → am_M → am_L → Option (Prop × Nat × Option Value × am_M × am_L) := fun avs S M L => match avs with
  | [.ref 70, .int s] => some (am_env S ∧ vp_in s 12, 0, some (.int (bI (oddP (M 73) (M 74) (M 75) s.toNatClampNeg))), M, L)
  | _ => none
theorem cal_R_isOdd {X : am_X} {PT : am_PT} {d : Nat} {K : am_K} {S : am_S} {M : am_M} {L : am_L} {s : Int32} (hPT9 : PT 166 = some f_R_isOdd) : am_cal X PT d 166 [.ref 70, .int s] S M L K = (0 ≤ d ∧ (am_env S ∧ vp_in s 12) ∧ K (some (.int (bI (oddP (M 73) (M 74) (M 75) s.toNatClampNeg)))) S (M) (L)) := by
  unfold am_cal
  rw [hPT9]
  exact propext Iff.rfl
theorem g_R_isOdd : am_PTf 166 f_R_isOdd := by
  intro avs S M L o h hp X d K k
  unfold f_R_isOdd at h
  split at h
  · cases h
    exact c_R_isOdd hp k
  · cases h
def f_Stage_isOdd : List Value → am_S → am_M → am_L → Option (Prop × Nat × Option Value × am_M × am_L) := fun avs S M L => match avs with
  | [.ref 23, .int s] => some (am_env S ∧ vp_in s 12, 0, some (.int (bI (oddP (M 25) (M 26) (M 27) s.toNatClampNeg))), M, L)
  | _ => none
theorem cal_Stage_isOdd {X : am_X} {PT : am_PT} {d : Nat} {K : am_K} {S : am_S} {M : am_M} {L : am_L} {s : Int32} (hPT9 : PT 77 = some f_Stage_isOdd) : am_cal X PT d 77 [.ref 23, .int s] S M L K = (0 ≤ d ∧ (am_env S ∧ vp_in s 12) ∧ K (some (.int (bI (oddP (M 25) (M 26) (M 27) s.toNatClampNeg)))) S (M) (L)) := by
  unfold am_cal
  rw [hPT9]
  exact propext Iff.rfl
theorem g_Stage_isOdd : am_PTf 77 f_Stage_isOdd := by
  intro avs S M L o h hp X d K k
  unfold f_Stage_isOdd at h
  split at h
  · cases h
    exact c_Stage_isOdd hp k
  · cases h
def f_Stage_hasScreen : List Value → am_S → am_M → am_L → Option (Prop × Nat × Option Value × am_M × am_L) := fun avs S M L => match avs with
  | [.ref 23, .int s] => some (am_env S, 0, some (.int (bI (0 ≤ s ∧ s < M 23 7))), M, L)
  | _ => none
theorem cal_Stage_hasScreen {X : am_X} {PT : am_PT} {d : Nat} {K : am_K} {S : am_S} {M : am_M} {L : am_L} {s : Int32} (hPT9 : PT 74 = some f_Stage_hasScreen) : am_cal X PT d 74 [.ref 23, .int s] S M L K = (0 ≤ d ∧ (am_env S) ∧ K (some (.int (bI (0 ≤ s ∧ s < M 23 7)))) S (M) (L)) := by
  unfold am_cal
  rw [hPT9]
  exact propext Iff.rfl
theorem g_Stage_hasScreen : am_PTf 74 f_Stage_hasScreen := by
  intro avs S M L o h hp X d K k
  unfold f_Stage_hasScreen at h
  split at h
  · cases h
    exact c_Stage_hasScreen hp k
  · cases h
def f_Stage_hasPlan : List Value → am_S → am_M → am_L → Option (Prop × Nat × Option Value × am_M × am_L) := fun avs S M L => match avs with
  | [.ref 23, .int s] => some (am_env S, 0, some (.int (bI (0 ≤ s ∧ s < M 23 8))), M, L)
  | _ => none
theorem cal_Stage_hasPlan {X : am_X} {PT : am_PT} {d : Nat} {K : am_K} {S : am_S} {M : am_M} {L : am_L} {s : Int32} (hPT9 : PT 75 = some f_Stage_hasPlan) : am_cal X PT d 75 [.ref 23, .int s] S M L K = (0 ≤ d ∧ (am_env S) ∧ K (some (.int (bI (0 ≤ s ∧ s < M 23 8)))) S (M) (L)) := by
  unfold am_cal
  rw [hPT9]
  exact propext Iff.rfl
theorem g_Stage_hasPlan : am_PTf 75 f_Stage_hasPlan := by
  intro avs S M L o h hp X d K k
  unfold f_Stage_hasPlan at h
  split at h
  · cases h
    exact c_Stage_hasPlan hp k
  · cases h
def f_Lab_hasBaby : List Value → am_S → am_M → am_L → Option (Prop × Nat × Option Value × am_M × am_L) := fun avs S M L => match avs with
  | [.ref 31, .int s] => some (am_env S, 0, some (.int (bI (0 ≤ s ∧ s < M 31 7))), M, L)
  | _ => none
theorem cal_Lab_hasBaby {X : am_X} {PT : am_PT} {d : Nat} {K : am_K} {S : am_S} {M : am_M} {L : am_L} {s : Int32} (hPT9 : PT 23 = some f_Lab_hasBaby) : am_cal X PT d 23 [.ref 31, .int s] S M L K = (0 ≤ d ∧ (am_env S) ∧ K (some (.int (bI (0 ≤ s ∧ s < M 31 7)))) S (M) (L)) := by
  unfold am_cal
  rw [hPT9]
  exact propext Iff.rfl
theorem g_Lab_hasBaby : am_PTf 23 f_Lab_hasBaby := by
  intro avs S M L o h hp X d K k
  unfold f_Lab_hasBaby at h
  split at h
  · cases h
    exact c_Lab_hasBaby hp k
  · cases h
def f_Program_hasLaw : List Value → am_S → am_M → am_L → Option (Prop × Nat × Option Value × am_M × am_L) := fun avs S M L => match avs with
  | [.ref 16, .int s] => some (am_env S, 0, some (.int (bI (0 ≤ s ∧ s < M 16 7))), M, L)
  | _ => none
theorem cal_Program_hasLaw {X : am_X} {PT : am_PT} {d : Nat} {K : am_K} {S : am_S} {M : am_M} {L : am_L} {s : Int32} (hPT9 : PT 65 = some f_Program_hasLaw) : am_cal X PT d 65 [.ref 16, .int s] S M L K = (0 ≤ d ∧ (am_env S) ∧ K (some (.int (bI (0 ≤ s ∧ s < M 16 7)))) S (M) (L)) := by
  unfold am_cal
  rw [hPT9]
  exact propext Iff.rfl
theorem g_Program_hasLaw : am_PTf 65 f_Program_hasLaw := by
  intro avs S M L o h hp X d K k
  unfold f_Program_hasLaw at h
  split at h
  · cases h
    exact c_Program_hasLaw hp k
  · cases h
def f_Finder_forget : List Value → am_S → am_M → am_L → Option (Prop × Nat × Option Value × am_M × am_L) := fun avs S M L => match avs with
  | [.ref 62] => some (am_env S, 0, none, am_u M 62 8 0, L)
  | _ => none
theorem cal_Finder_forget {X : am_X} {PT : am_PT} {d : Nat} {K : am_K} {S : am_S} {M : am_M} {L : am_L}  (hPT9 : PT 4 = some f_Finder_forget) : am_cal X PT d 4 [.ref 62] S M L K = (0 ≤ d ∧ (am_env S) ∧ K (none) S (am_u M 62 8 0) (L)) := by
  unfold am_cal
  rw [hPT9]
  exact propext Iff.rfl
theorem g_Finder_forget : am_PTf 4 f_Finder_forget := by
  intro avs S M L o h hp X d K k
  unfold f_Finder_forget at h
  split at h
  · cases h
    exact c_Finder_forget hp k
  · cases h
def pt7 : am_PT := am_add pt6 161 f_R_deny
theorem pt7_ok : am_PTok pt7 := am_add_ok pt6_ok g_R_deny
def pt8 : am_PT := am_add pt7 165 f_R_isScreen
theorem pt8_ok : am_PTok pt8 := am_add_ok pt7_ok g_R_isScreen
def pt9 : am_PT := am_add pt8 169 f_R_isPlan
theorem pt9_ok : am_PTok pt9 := am_add_ok pt8_ok g_R_isPlan
def pt10 : am_PT := am_add pt9 173 f_R_isBaby
theorem pt10_ok : am_PTok pt10 := am_add_ok pt9_ok g_R_isBaby
def pt11 : am_PT := am_add pt10 209 f_R_isLaw
theorem pt11_ok : am_PTok pt11 := am_add_ok pt10_ok g_R_isLaw
def pt12 : am_PT := am_add pt11 166 f_R_isOdd
theorem pt12_ok : am_PTok pt12 := am_add_ok pt11_ok g_R_isOdd
def pt13 : am_PT := am_add pt12 77 f_Stage_isOdd
theorem pt13_ok : am_PTok pt13 := am_add_ok pt12_ok g_Stage_isOdd
def pt14 : am_PT := am_add pt13 74 f_Stage_hasScreen
theorem pt14_ok : am_PTok pt14 := am_add_ok pt13_ok g_Stage_hasScreen
def pt15 : am_PT := am_add pt14 75 f_Stage_hasPlan
theorem pt15_ok : am_PTok pt15 := am_add_ok pt14_ok g_Stage_hasPlan
def pt16 : am_PT := am_add pt15 23 f_Lab_hasBaby
theorem pt16_ok : am_PTok pt16 := am_add_ok pt15_ok g_Lab_hasBaby
def pt17 : am_PT := am_add pt16 65 f_Program_hasLaw
theorem pt17_ok : am_PTok pt17 := am_add_ok pt16_ok g_Program_hasLaw
def pt18 : am_PT := am_add pt17 4 f_Finder_forget
theorem pt18_ok : am_PTok pt18 := am_add_ok pt17_ok g_Finder_forget
theorem pt18_L_within {X : am_X} {d : Nat} {K : am_K} {S : am_S} {M : am_M} {L : am_L} {n : Int32} {lo : Int32} {hi : Int32} : am_cal X pt18 d 156 [.int n, .int lo, .int hi] S M L K = (0 ≤ d ∧ (True) ∧ K (some (.int (bI (lo ≤ n ∧ n ≤ hi)))) S (M) (L)) := cal_L_within (show pt18 156 = some f_L_within from rfl)
theorem pt18_L_brought {X : am_X} {d : Nat} {K : am_K} {S : am_S} {M : am_M} {L : am_L} {n : Int32} {lo : Int32} {hi : Int32} : am_cal X pt18 d 157 [.int n, .int lo, .int hi] S M L K = (1 ≤ d ∧ (True) ∧ K (some (.int (bro n lo hi))) S (M) (L)) := cal_L_brought (show pt18 157 = some f_L_brought from rfl)
theorem pt18_L_refuse {X : am_X} {d : Nat} {K : am_K} {S : am_S} {M : am_M} {L : am_L} {r : Int32} : am_cal X pt18 d 151 [.ref 0, .int r] S M L K = (0 ≤ d ∧ (am_env S ∧ vp_in r 3) ∧ K (some (.int (-1))) S (rfL M r.toNatClampNeg) (L)) := cal_L_refuse (show pt18 151 = some f_L_refuse from rfl)
theorem pt18_L_deny {X : am_X} {d : Nat} {K : am_K} {S : am_S} {M : am_M} {L : am_L} {r : Int32} : am_cal X pt18 d 152 [.ref 0, .int r] S M L K = (0 ≤ d ∧ (am_env S ∧ vp_in r 3) ∧ K (some (.int 0)) S (rfL M r.toNatClampNeg) (L)) := cal_L_deny (show pt18 152 = some f_L_deny from rfl)
theorem pt18_R_in {X : am_X} {d : Nat} {K : am_K} {S : am_S} {M : am_M} {L : am_L} {v : Int64} {lo : Int64} {hi : Int64} : am_cal X pt18 d 159 [.long v, .long lo, .long hi] S M L K = (0 ≤ d ∧ (True) ∧ K (some (.int (bI (lo ≤ v ∧ v ≤ hi)))) S (M) (L)) := cal_R_in (show pt18 159 = some f_R_in from rfl)
theorem pt18_R_refuse {X : am_X} {d : Nat} {K : am_K} {S : am_S} {M : am_M} {L : am_L} {a : Int32} {b : Int32} : am_cal X pt18 d 160 [.ref 70, .int a, .int b] S M L K = (0 ≤ d ∧ (am_env S) ∧ K (some (.int (-1))) S (rfR M (rsn a b)) (L)) := cal_R_refuse (show pt18 160 = some f_R_refuse from rfl)
theorem pt18_R_deny {X : am_X} {d : Nat} {K : am_K} {S : am_S} {M : am_M} {L : am_L} {a : Int32} {b : Int32} : am_cal X pt18 d 161 [.ref 70, .int a, .int b] S M L K = (1 ≤ d ∧ (am_env S) ∧ K (some (.int 0)) S (rfR M (rsn a b)) (L)) := cal_R_deny (show pt18 161 = some f_R_deny from rfl)
theorem pt18_R_isScreen {X : am_X} {d : Nat} {K : am_K} {S : am_S} {M : am_M} {L : am_L} {s : Int32} : am_cal X pt18 d 165 [.ref 70, .int s] S M L K = (1 ≤ d ∧ (am_env S) ∧ K (some (.int (bI (0 ≤ s ∧ s ≤ M 70 8 - 1)))) S (M) (L)) := cal_R_isScreen (show pt18 165 = some f_R_isScreen from rfl)
theorem pt18_R_isPlan {X : am_X} {d : Nat} {K : am_K} {S : am_S} {M : am_M} {L : am_L} {s : Int32} : am_cal X pt18 d 169 [.ref 70, .int s] S M L K = (1 ≤ d ∧ (am_env S) ∧ K (some (.int (bI (0 ≤ s ∧ s ≤ M 70 9 - 1)))) S (M) (L)) := cal_R_isPlan (show pt18 169 = some f_R_isPlan from rfl)
theorem pt18_R_isBaby {X : am_X} {d : Nat} {K : am_K} {S : am_S} {M : am_M} {L : am_L} {s : Int32} : am_cal X pt18 d 173 [.ref 70, .int s] S M L K = (1 ≤ d ∧ (am_env S) ∧ K (some (.int (bI (0 ≤ s ∧ s ≤ M 70 17 - 1)))) S (M) (L)) := cal_R_isBaby (show pt18 173 = some f_R_isBaby from rfl)
theorem pt18_R_isLaw {X : am_X} {d : Nat} {K : am_K} {S : am_S} {M : am_M} {L : am_L} {s : Int32} : am_cal X pt18 d 209 [.ref 70, .int s] S M L K = (1 ≤ d ∧ (am_env S) ∧ K (some (.int (bI (0 ≤ s ∧ s ≤ M 97 0 - 1)))) S (M) (L)) := cal_R_isLaw (show pt18 209 = some f_R_isLaw from rfl)
theorem pt18_R_isOdd {X : am_X} {d : Nat} {K : am_K} {S : am_S} {M : am_M} {L : am_L} {s : Int32} : am_cal X pt18 d 166 [.ref 70, .int s] S M L K = (0 ≤ d ∧ (am_env S ∧ vp_in s 12) ∧ K (some (.int (bI (oddP (M 73) (M 74) (M 75) s.toNatClampNeg)))) S (M) (L)) := cal_R_isOdd (show pt18 166 = some f_R_isOdd from rfl)
theorem pt18_Stage_isOdd {X : am_X} {d : Nat} {K : am_K} {S : am_S} {M : am_M} {L : am_L} {s : Int32} : am_cal X pt18 d 77 [.ref 23, .int s] S M L K = (0 ≤ d ∧ (am_env S ∧ vp_in s 12) ∧ K (some (.int (bI (oddP (M 25) (M 26) (M 27) s.toNatClampNeg)))) S (M) (L)) := cal_Stage_isOdd (show pt18 77 = some f_Stage_isOdd from rfl)
theorem pt18_Stage_hasScreen {X : am_X} {d : Nat} {K : am_K} {S : am_S} {M : am_M} {L : am_L} {s : Int32} : am_cal X pt18 d 74 [.ref 23, .int s] S M L K = (0 ≤ d ∧ (am_env S) ∧ K (some (.int (bI (0 ≤ s ∧ s < M 23 7)))) S (M) (L)) := cal_Stage_hasScreen (show pt18 74 = some f_Stage_hasScreen from rfl)
theorem pt18_Stage_hasPlan {X : am_X} {d : Nat} {K : am_K} {S : am_S} {M : am_M} {L : am_L} {s : Int32} : am_cal X pt18 d 75 [.ref 23, .int s] S M L K = (0 ≤ d ∧ (am_env S) ∧ K (some (.int (bI (0 ≤ s ∧ s < M 23 8)))) S (M) (L)) := cal_Stage_hasPlan (show pt18 75 = some f_Stage_hasPlan from rfl)
theorem pt18_Lab_hasBaby {X : am_X} {d : Nat} {K : am_K} {S : am_S} {M : am_M} {L : am_L} {s : Int32} : am_cal X pt18 d 23 [.ref 31, .int s] S M L K = (0 ≤ d ∧ (am_env S) ∧ K (some (.int (bI (0 ≤ s ∧ s < M 31 7)))) S (M) (L)) := cal_Lab_hasBaby (show pt18 23 = some f_Lab_hasBaby from rfl)
theorem pt18_Program_hasLaw {X : am_X} {d : Nat} {K : am_K} {S : am_S} {M : am_M} {L : am_L} {s : Int32} : am_cal X pt18 d 65 [.ref 16, .int s] S M L K = (0 ≤ d ∧ (am_env S) ∧ K (some (.int (bI (0 ≤ s ∧ s < M 16 7)))) S (M) (L)) := cal_Program_hasLaw (show pt18 65 = some f_Program_hasLaw from rfl)
theorem pt18_Finder_forget {X : am_X} {d : Nat} {K : am_K} {S : am_S} {M : am_M} {L : am_L}  : am_cal X pt18 d 4 [.ref 62] S M L K = (0 ≤ d ∧ (am_env S) ∧ K (none) S (am_u M 62 8 0) (L)) := cal_Finder_forget (show pt18 4 = some f_Finder_forget from rfl)
end T16
