section T30
variable {X : am_X} {d : Nat} {K : am_K} {S : am_S} {M : am_M} {L : am_L} {V : am_M}
/-- how many of the first j of a row are as the t-th -/
def smN (f : Nat → Int32) (t : Nat) : Nat → Nat
  | 0 => 0
  | j + 1 => if f j = f t then smN f t j + 1 else smN f t j
theorem smN_le {f : Nat → Int32} {t : Nat} : ∀ j, smN f t j ≤ j := by
  intro j
  induction j with
  | zero => exact Nat.le_refl _
  | succ j ih =>
    unfold smN
    by_cases h : f j = f t
    · rw [if_pos h]; omega
    · rw [if_neg h]; omega
def nzS (V : am_M) (f : Nat → Int32) (a : Int32) (t : Nat) (s : Int32) (k : Nat) : Int32 := if k = 0 then bI (oddV V (nm (f t))) else if k = 1 then nI (smN f t t) else if k = 2 then V 75 (nm (f t)) else if k = 3 then bI (0 < t ∧ V 75 (nm (f (t - 1))) = V 75 (nm (f t))) else if k = 4 then nI t else if k = 5 then s / 10 else if k = 6 then V 72 (nm (V 76 (nm (f t)))) else if k = 7 then a else 0
def sdOf (V : am_M) (l : Nat) (f : Nat → Int32) (a : Int32) (t : Nat) (s : Int32) : Int32 := bro (wkI V l (nzS V f a t s)) 0 600
def smI (V : am_M) (l : Nat) (f : Nat → Int32) (a : Int32) : Nat → Int32
  | 0 => 0
  | t + 1 => smI V l f a t + sdOf V l f a t (smI V l f a t)
def sdI (V : am_M) (l : Nat) (f : Nat → Int32) (a : Int32) (t : Nat) : Int32 := sdOf V l f a t (smI V l f a t)
def RowOk (V : am_M) (f : Nat → Int32) (n : Nat) : Prop := ∀ j, j < n → f j = nI (nm (f j)) ∧ nm (f j) < nS V
theorem smI_in {l : Nat} {f : Nat → Int32} {a : Int32} : ∀ t, ∃ n, n ≤ 600 * t ∧ smI V l f a t = nI n := by
  intro t
  induction t with
  | zero => exact ⟨0, by omega, rfl⟩
  | succ t ih =>
    obtain ⟨n, h1, h2⟩ := ih
    obtain ⟨m, h3, h4⟩ := bro_in (wkI V l (nzS V f a t (smI V l f a t)))
    refine ⟨n + m, by omega, ?_⟩
    show smI V l f a t + sdOf V l f a t (smI V l f a t) = _
    unfold sdOf
    rw [h4, h2, nI_add]
theorem bI_ne {c : Prop} [Decidable c] : bI c ≠ -2147483648 := by
  unfold bI
  by_cases h : c
  · rw [if_pos h]; decide
  · rw [if_neg h]; decide
theorem nzS_neT (hI : IVs V) {f : Nat → Int32} {a s : Int32} {t : Nat} (hr : RowOk V f (t + 1)) (ht : t < 8) (ha : a ≠ -2147483648) (hs : s / 10 ≠ -2147483648) : ∀ k, k < 12 → nzS V f a t s k ≠ -2147483648 := by
  intro k _
  have q := (hr t (by omega)).2
  unfold nzS
  by_cases h : k = 0
  · rw [if_pos h]; exact bI_ne
  rw [if_neg h]
  by_cases h : k = 1
  · rw [if_pos h]; exact nI_min_ne (by have := smN_le (f := f) (t := t) t; omega)
  rw [if_neg h]
  by_cases h : k = 2
  · rw [if_pos h, (hI.sh _ q).1]; exact nI_min_ne (by have := (hI.sh _ q).2; omega)
  rw [if_neg h]
  by_cases h : k = 3
  · rw [if_pos h]; exact bI_ne
  rw [if_neg h]
  by_cases h : k = 4
  · rw [if_pos h]; exact nI_min_ne (by omega)
  rw [if_neg h]
  by_cases h : k = 5
  · rw [if_pos h]; exact hs
  rw [if_neg h]
  by_cases h : k = 6
  · have z := hI.lk _ (hI.ki _ q).2
    rw [if_pos h, z.1]; exact nI_min_ne (by omega)
  rw [if_neg h]
  by_cases h : k = 7
  · rw [if_pos h]; exact ha
  rw [if_neg h]; decide
theorem c_Stage_sameAhead {q ln fr t : Nat} {f : Nat → Int32} (hE : am_env S) (q1 : S.2.1 q = (1, ln)) (q2 : am_ia S q 1 = True) (q3 : (q < S.1) = True) (h1 : fr + t < ln) (h2 : ln < 2147483648) (hf : ∀ j, j ≤ t → M q (fr + j) = f j) (k : K (some (.int (nI (smN f t t)))) S M L) : am_Call X d m_Stage_sameAhead [.ref 23, .ref q, .int (nI fr), .int (nI t)] S M L K := by
  refine EE_Stage_sameAhead pt30_ok ?_
  simp only [s_aload_1_ref, s_goto, s_iadd, s_iald, s_ic_ge, s_ic_ne, s_iconst, s_iinc_4, s_iinc_5, s_iload_2_int, s_iload_3_int, s_iload_4_int, s_iload_5_int, s_ireturn, s_istore_4_int, s_istore_5_int, J_Stage_sameAhead_0, b_Stage_sameAhead_0, J_Stage_sameAhead_29, b_Stage_sameAhead_29, J_Stage_sameAhead_35, b_Stage_sameAhead_35, J_Stage_sameAhead_6, b_Stage_sameAhead_6, s_end, true_and, and_true, or_true, true_or, if_true, if_false, ite_true, ite_false, List.map_nil, List.map_cons, List.sum_nil, List.sum_cons, List.nil_append, List.cons_append, Option.toList_some, Option.toList_none, Nat.reduceAdd, Nat.reduceLeDiff, Nat.reduceSub, Nat.zero_le, List.headD_cons, List.tail_cons, List.length_cons, List.length_nil, ne_eq, reduceCtorEq, false_or, or_false, not_false_eq_true, Nat.reduceEqDiff, Nat.reduceLT, am_sw, bI_0, bI_z, bI_y, Classical.not_not, Nat.le_add_left, am_u_row2, am_r_row2, am_u_same, am_u_at, am_r_same, Int32.reduceLT, Int32.reduceLE, Int32.reduceAdd, Int32.reduceSub, Int32.reduceMul, forall_const, not_true_eq_false, implies_true, false_imp_iff, true_imp_iff, i_10, i_01, i_m10, i_m11, eq_self, or_self, false_and, and_false, and_self, am_so_some, am_pv_some, am_pv_none, l_cl_none, l_cl_int, l_cl_ref, l_cl_ra, l_cl_null, l_cl_long, cat_int, cat_ref, cat_long, cat_ra, cat_null, cl_0, cl_1, cl_2, cl_3, cl_4, cl_5, cl_6, cl_7, cl_8, cl_9, cl_10, cl_11, cl_12, cl_13, cl_14, cl_15, cl_16, cl_30, cl_64, cl_500, vl_0_2, vl_0_3, vl_0_4, vl_0_6, vl_0_7, vl_0_12, vl_0_16, vl_0_1400, vl_1_2, vl_1_3, vl_1_4, vl_1_6, vl_1_7, vl_1_12, vl_1_16, vl_1_1400, vl_2_3, vl_2_4, vl_2_6, vl_2_7, vl_2_12, vl_2_16, vl_2_1400, vl_3_4, vl_3_6, vl_3_7, vl_3_12, vl_3_16, vl_3_1400, vl_4_6, vl_4_7, vl_4_12, vl_4_16, vl_4_1400, vl_5_6, vl_5_7, vl_5_12, vl_5_16, vl_5_1400, vl_6_7, vl_6_12, vl_6_16, vl_6_1400, vl_7_12, vl_7_16, vl_8_12, vl_8_16, vl_9_12, vl_9_16, vl_10_12, vl_10_16, vl_11_12, vl_11_16, i_64le_e, i64a_0, i64b_0, i64a_1, i64b_1, i64a_2, i64b_2, i64a_3, i64b_3, i64a_4, i64b_4, i64a_5, i64b_5, i64a_7, i64b_7, i64a_8, i64b_8, i64a_9, i64b_9, i64a_10, i64b_10, i64a_16, i64b_16, i64a_50, i64b_50, i64a_m50, i64b_m50, i64a_60, i64b_60, i64a_99, i64b_99, i64a_100, i64b_100, i64a_500, i64b_500, i64a_600, i64b_600, i64a_1000, i64b_1000, i64a_1000000, i64b_1000000, i64a_m9, i64b_m9, e_s_23, e_i_23, e_l_23, e_p_23_0, e_p_23_1, e_p_23_2, e_p_23_3, e_p_23_4, e_p_23_5, e_p_23_6, e_s_24, e_i_24, e_l_24, e_s_25, e_i_25, e_l_25, e_s_26, e_i_26, e_l_26, e_s_27, e_i_27, e_l_27, e_s_28, e_i_28, e_l_28, e_s_29, e_i_29, e_l_29, e_s_30, e_i_30, e_l_30, q1, q2, q3, hE]
  have loop : ∀ i, i ≤ t → am_WP X d 82 6 [some (.ref 23), some (.ref (q)), some (.int (nI fr)), some (.int (nI t)), some (.int (nI (smN f t i))), some (.int (nI (fr + i)))] [] S (M) (L) 0 0 K := by
    refine am_ind ?_
    intro i hi ih
    refine H_Stage_sameAhead_6 pt30_ok ?_
    simp only [s_aload_1_ref, s_goto, s_iadd, s_iald, s_ic_ge, s_ic_ne, s_iconst, s_iinc_4, s_iinc_5, s_iload_2_int, s_iload_3_int, s_iload_4_int, s_iload_5_int, s_ireturn, s_istore_4_int, s_istore_5_int, J_Stage_sameAhead_0, b_Stage_sameAhead_0, J_Stage_sameAhead_29, b_Stage_sameAhead_29, J_Stage_sameAhead_35, b_Stage_sameAhead_35, J_Stage_sameAhead_6, b_Stage_sameAhead_6, s_end, true_and, and_true, or_true, true_or, if_true, if_false, ite_true, ite_false, List.map_nil, List.map_cons, List.sum_nil, List.sum_cons, List.nil_append, List.cons_append, Option.toList_some, Option.toList_none, Nat.reduceAdd, Nat.reduceLeDiff, Nat.reduceSub, Nat.zero_le, List.headD_cons, List.tail_cons, List.length_cons, List.length_nil, ne_eq, reduceCtorEq, false_or, or_false, not_false_eq_true, Nat.reduceEqDiff, Nat.reduceLT, am_sw, bI_0, bI_z, bI_y, Classical.not_not, Nat.le_add_left, am_u_row2, am_r_row2, am_u_same, am_u_at, am_r_same, Int32.reduceLT, Int32.reduceLE, Int32.reduceAdd, Int32.reduceSub, Int32.reduceMul, forall_const, not_true_eq_false, implies_true, false_imp_iff, true_imp_iff, i_10, i_01, i_m10, i_m11, eq_self, or_self, false_and, and_false, and_self, am_so_some, am_pv_some, am_pv_none, l_cl_none, l_cl_int, l_cl_ref, l_cl_ra, l_cl_null, l_cl_long, cat_int, cat_ref, cat_long, cat_ra, cat_null, cl_0, cl_1, cl_2, cl_3, cl_4, cl_5, cl_6, cl_7, cl_8, cl_9, cl_10, cl_11, cl_12, cl_13, cl_14, cl_15, cl_16, cl_30, cl_64, cl_500, vl_0_2, vl_0_3, vl_0_4, vl_0_6, vl_0_7, vl_0_12, vl_0_16, vl_0_1400, vl_1_2, vl_1_3, vl_1_4, vl_1_6, vl_1_7, vl_1_12, vl_1_16, vl_1_1400, vl_2_3, vl_2_4, vl_2_6, vl_2_7, vl_2_12, vl_2_16, vl_2_1400, vl_3_4, vl_3_6, vl_3_7, vl_3_12, vl_3_16, vl_3_1400, vl_4_6, vl_4_7, vl_4_12, vl_4_16, vl_4_1400, vl_5_6, vl_5_7, vl_5_12, vl_5_16, vl_5_1400, vl_6_7, vl_6_12, vl_6_16, vl_6_1400, vl_7_12, vl_7_16, vl_8_12, vl_8_16, vl_9_12, vl_9_16, vl_10_12, vl_10_16, vl_11_12, vl_11_16, i_64le_e, i64a_0, i64b_0, i64a_1, i64b_1, i64a_2, i64b_2, i64a_3, i64b_3, i64a_4, i64b_4, i64a_5, i64b_5, i64a_7, i64b_7, i64a_8, i64b_8, i64a_9, i64b_9, i64a_10, i64b_10, i64a_16, i64b_16, i64a_50, i64b_50, i64a_m50, i64b_m50, i64a_60, i64b_60, i64a_99, i64b_99, i64a_100, i64b_100, i64a_500, i64b_500, i64a_600, i64b_600, i64a_1000, i64b_1000, i64a_1000000, i64b_1000000, i64a_m9, i64b_m9, e_s_23, e_i_23, e_l_23, e_p_23_0, e_p_23_1, e_p_23_2, e_p_23_3, e_p_23_4, e_p_23_5, e_p_23_6, e_s_24, e_i_24, e_l_24, e_s_25, e_i_25, e_l_25, e_s_26, e_i_26, e_l_26, e_s_27, e_i_27, e_l_27, e_s_28, e_i_28, e_l_28, e_s_29, e_i_29, e_l_29, e_s_30, e_i_30, e_l_30, q1, q2, q3, hE]
    by_cases c0 : i < t
    · have c1 : ¬ fr + t ≤ fr + i := by omega
      have e1 := hf i hi
      have e2 := hf t (Nat.le_refl _)
      simp (disch := omega) only [c1, e1, e2, nI_clamp, nI_le', nI_lt', nI_eq', rem2_1, rem2_0, nI_eq0, nI_le0, nI_0lt, nI_0le, nI_lt0, nI_m1, vp_inE, nm_nI, i_20, nI_1, nI_add, and_true, true_and, and_self, or_true, true_or, or_false, false_or, false_and, and_false, not_true_eq_false, not_false_eq_true, if_true, if_false, ite_true, ite_false, false_imp_iff, true_imp_iff, rsn_00, rsn_10, rsn_01, rsn_11, n_09, n_19, n_29, n_99, implies_true, bI_t, bI_f, or_self, ne_eq, eq_self, Classical.not_not, Bool.false_eq_true]
      have ih := ih c0
      unfold smN at ih
      refine ⟨fun h => ?_, fun h => ?_⟩
      · rw [if_neg h] at ih; exact ih
      · rw [if_pos h] at ih; exact ih
    · have e : i = t := by omega
      subst e
      simp (disch := omega) only [Nat.le_refl, nI_clamp, nI_le', nI_lt', nI_eq', rem2_1, rem2_0, nI_eq0, nI_le0, nI_0lt, nI_0le, nI_lt0, nI_m1, vp_inE, nm_nI, i_20, nI_1, nI_add, and_true, true_and, and_self, or_true, true_or, or_false, false_or, false_and, and_false, not_true_eq_false, not_false_eq_true, if_true, if_false, ite_true, ite_false, false_imp_iff, true_imp_iff, rsn_00, rsn_10, rsn_01, rsn_11, n_09, n_19, n_29, n_99, implies_true, bI_t, bI_f, or_self, ne_eq, eq_self, Classical.not_not, Bool.false_eq_true]
      exact k
  exact loop 0 (by omega)
theorem c_Program_workLaw {l q : Nat} {nz : Nat → Int32} (hE : am_env S) (q1 : S.2.1 q = (1, 12)) (q2 : am_ia S q 1 = True) (q3 : (q < S.1) = True) (hq : (q = 22) = False) (hC : PgR V M) (hP : IVp V) (hl : l < nL V) (hn : ∀ k, k < 12 → M q k = nz k) (k : ∀ M', Fr [22] [] M M' → K (some (.int (wkI V l nz))) S M' L) : am_Call X (d + 2) m_Program_workLaw [.ref 16, .int (nI l), .ref q] S M L K := by
  have n6 := hP.nl.2
  have f7 : M 16 7 = nI (nL V) := hC.f7.trans hP.nl.1
  obtain ⟨z1, z2⟩ := hC.ls l hl
  refine EE_Program_workLaw pt30_ok ?_
  simp only [s_aload_0_ref, s_aload_2_ref, s_get2, s_goto, s_iald, s_iconst, s_if_eq, s_iload_1_int, s_ireturn, s_iv_1, s_iv_3, J_Program_workLaw_0, b_Program_workLaw_0, J_Program_workLaw_28, b_Program_workLaw_28, J_Program_workLaw_29, b_Program_workLaw_29, s_end, true_and, and_true, or_true, true_or, if_true, if_false, ite_true, ite_false, List.map_nil, List.map_cons, List.sum_nil, List.sum_cons, List.nil_append, List.cons_append, Option.toList_some, Option.toList_none, Nat.reduceAdd, Nat.reduceLeDiff, Nat.reduceSub, Nat.zero_le, List.headD_cons, List.tail_cons, List.length_cons, List.length_nil, ne_eq, reduceCtorEq, false_or, or_false, not_false_eq_true, Nat.reduceEqDiff, Nat.reduceLT, am_sw, bI_0, bI_z, bI_y, Classical.not_not, Nat.le_add_left, am_u_row2, am_r_row2, am_u_same, am_u_at, am_r_same, Int32.reduceLT, Int32.reduceLE, Int32.reduceAdd, Int32.reduceSub, Int32.reduceMul, forall_const, not_true_eq_false, implies_true, false_imp_iff, true_imp_iff, i_10, i_01, i_m10, i_m11, eq_self, or_self, false_and, and_false, and_self, am_so_some, am_pv_some, am_pv_none, l_cl_none, l_cl_int, l_cl_ref, l_cl_ra, l_cl_null, l_cl_long, cat_int, cat_ref, cat_long, cat_ra, cat_null, cl_0, cl_1, cl_2, cl_3, cl_4, cl_5, cl_6, cl_7, cl_8, cl_9, cl_10, cl_11, cl_12, cl_13, cl_14, cl_15, cl_16, cl_30, cl_64, cl_500, vl_0_2, vl_0_3, vl_0_4, vl_0_6, vl_0_7, vl_0_12, vl_0_16, vl_0_1400, vl_1_2, vl_1_3, vl_1_4, vl_1_6, vl_1_7, vl_1_12, vl_1_16, vl_1_1400, vl_2_3, vl_2_4, vl_2_6, vl_2_7, vl_2_12, vl_2_16, vl_2_1400, vl_3_4, vl_3_6, vl_3_7, vl_3_12, vl_3_16, vl_3_1400, vl_4_6, vl_4_7, vl_4_12, vl_4_16, vl_4_1400, vl_5_6, vl_5_7, vl_5_12, vl_5_16, vl_5_1400, vl_6_7, vl_6_12, vl_6_16, vl_6_1400, vl_7_12, vl_7_16, vl_8_12, vl_8_16, vl_9_12, vl_9_16, vl_10_12, vl_10_16, vl_11_12, vl_11_16, i_64le_e, i64a_0, i64b_0, i64a_1, i64b_1, i64a_2, i64b_2, i64a_3, i64b_3, i64a_4, i64b_4, i64a_5, i64b_5, i64a_7, i64b_7, i64a_8, i64b_8, i64a_9, i64b_9, i64a_10, i64b_10, i64a_16, i64b_16, i64a_50, i64b_50, i64a_m50, i64b_m50, i64a_60, i64b_60, i64a_99, i64b_99, i64a_100, i64b_100, i64a_500, i64b_500, i64a_600, i64b_600, i64a_1000, i64b_1000, i64a_1000000, i64b_1000000, i64a_m9, i64b_m9, e_s_9, e_i_9, e_l_9, e_p_9_0, e_p_9_1, e_p_9_2, e_p_9_3, e_p_9_4, e_p_9_5, e_s_10, e_i_10, e_l_10, e_s_11, e_i_11, e_l_11, e_s_12, e_i_12, e_l_12, e_s_13, e_i_13, e_l_13, e_s_14, e_i_14, e_l_14, e_s_15, e_i_15, e_l_15, e_s_16, e_i_16, e_l_16, e_p_16_0, e_p_16_1, e_p_16_2, e_p_16_3, e_p_16_4, e_p_16_5, e_s_17, e_i_17, e_l_17, e_s_18, e_i_18, e_l_18, e_s_19, e_i_19, e_l_19, e_s_20, e_i_20, e_l_20, e_s_21, e_i_21, e_l_21, e_s_22, e_i_22, e_l_22, pt30_Program_hasLaw, q1, q2, q3, f7, hE]
  simp (disch := omega) only [hl, z1, z2, nI_clamp, nI_le', nI_lt', nI_eq', rem2_1, rem2_0, nI_eq0, nI_le0, nI_0lt, nI_0le, nI_lt0, nI_m1, vp_inE, nm_nI, i_20, nI_1, nI_add, and_true, true_and, and_self, or_true, true_or, or_false, false_or, false_and, and_false, not_true_eq_false, not_false_eq_true, if_true, if_false, ite_true, ite_false, false_imp_iff, true_imp_iff, rsn_00, rsn_10, rsn_01, rsn_11, n_09, n_19, n_29, n_99, implies_true, bI_t, bI_f, or_self, ne_eq, eq_self, Classical.not_not, Bool.false_eq_true]
  refine am_cal_no rfl (c_Program_work (c := l) (nz := nz) hE q1 q2 q3 hq hC hP (Or.inl hl) hn ?_)
  intro M' f
  simp only [s_aload_0_ref, s_aload_2_ref, s_get2, s_goto, s_iald, s_iconst, s_if_eq, s_iload_1_int, s_ireturn, s_iv_1, s_iv_3, J_Program_workLaw_0, b_Program_workLaw_0, J_Program_workLaw_28, b_Program_workLaw_28, J_Program_workLaw_29, b_Program_workLaw_29, s_end, true_and, and_true, or_true, true_or, if_true, if_false, ite_true, ite_false, List.map_nil, List.map_cons, List.sum_nil, List.sum_cons, List.nil_append, List.cons_append, Option.toList_some, Option.toList_none, Nat.reduceAdd, Nat.reduceLeDiff, Nat.reduceSub, Nat.zero_le, List.headD_cons, List.tail_cons, List.length_cons, List.length_nil, ne_eq, reduceCtorEq, false_or, or_false, not_false_eq_true, Nat.reduceEqDiff, Nat.reduceLT, am_sw, bI_0, bI_z, bI_y, Classical.not_not, Nat.le_add_left, am_u_row2, am_r_row2, am_u_same, am_u_at, am_r_same, Int32.reduceLT, Int32.reduceLE, Int32.reduceAdd, Int32.reduceSub, Int32.reduceMul, forall_const, not_true_eq_false, implies_true, false_imp_iff, true_imp_iff, i_10, i_01, i_m10, i_m11, eq_self, or_self, false_and, and_false, and_self, am_so_some, am_pv_some, am_pv_none, l_cl_none, l_cl_int, l_cl_ref, l_cl_ra, l_cl_null, l_cl_long, cat_int, cat_ref, cat_long, cat_ra, cat_null, cl_0, cl_1, cl_2, cl_3, cl_4, cl_5, cl_6, cl_7, cl_8, cl_9, cl_10, cl_11, cl_12, cl_13, cl_14, cl_15, cl_16, cl_30, cl_64, cl_500, vl_0_2, vl_0_3, vl_0_4, vl_0_6, vl_0_7, vl_0_12, vl_0_16, vl_0_1400, vl_1_2, vl_1_3, vl_1_4, vl_1_6, vl_1_7, vl_1_12, vl_1_16, vl_1_1400, vl_2_3, vl_2_4, vl_2_6, vl_2_7, vl_2_12, vl_2_16, vl_2_1400, vl_3_4, vl_3_6, vl_3_7, vl_3_12, vl_3_16, vl_3_1400, vl_4_6, vl_4_7, vl_4_12, vl_4_16, vl_4_1400, vl_5_6, vl_5_7, vl_5_12, vl_5_16, vl_5_1400, vl_6_7, vl_6_12, vl_6_16, vl_6_1400, vl_7_12, vl_7_16, vl_8_12, vl_8_16, vl_9_12, vl_9_16, vl_10_12, vl_10_16, vl_11_12, vl_11_16, i_64le_e, i64a_0, i64b_0, i64a_1, i64b_1, i64a_2, i64b_2, i64a_3, i64b_3, i64a_4, i64b_4, i64a_5, i64b_5, i64a_7, i64b_7, i64a_8, i64b_8, i64a_9, i64b_9, i64a_10, i64b_10, i64a_16, i64b_16, i64a_50, i64b_50, i64a_m50, i64b_m50, i64a_60, i64b_60, i64a_99, i64b_99, i64a_100, i64b_100, i64a_500, i64b_500, i64a_600, i64b_600, i64a_1000, i64b_1000, i64a_1000000, i64b_1000000, i64a_m9, i64b_m9, e_s_9, e_i_9, e_l_9, e_p_9_0, e_p_9_1, e_p_9_2, e_p_9_3, e_p_9_4, e_p_9_5, e_s_10, e_i_10, e_l_10, e_s_11, e_i_11, e_l_11, e_s_12, e_i_12, e_l_12, e_s_13, e_i_13, e_l_13, e_s_14, e_i_14, e_l_14, e_s_15, e_i_15, e_l_15, e_s_16, e_i_16, e_l_16, e_p_16_0, e_p_16_1, e_p_16_2, e_p_16_3, e_p_16_4, e_p_16_5, e_s_17, e_i_17, e_l_17, e_s_18, e_i_18, e_l_18, e_s_19, e_i_19, e_l_19, e_s_20, e_i_20, e_l_20, e_s_21, e_i_21, e_l_21, e_s_22, e_i_22, e_l_22, pt30_Program_hasLaw, hE]
  exact k M' f
end T30
