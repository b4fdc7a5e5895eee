section T34
variable {X : am_X} {d : Nat} {K : am_K} {S : am_S} {M : am_M} {L : am_L} {V : am_M}
def cmI (a b : Int32) : Int32 := if a < b then -1 else if a = b then 0 else 1
theorem c_JI_compare {a b : Int32} (_ : True) (k : K (some (.int (cmI a b))) S M L) : am_Call X d m_JI_compare [.int a, .int b] S M L K := by
  refine EE_JI_compare pt30_ok ?_
  simp only [s_goto, s_ic_ge, s_ic_ne, s_iconst, s_iload_0_int, s_iload_1_int, s_ireturn, J_JI_compare_0, b_JI_compare_0, J_JI_compare_9, b_JI_compare_9, J_JI_compare_18, b_JI_compare_18, J_JI_compare_19, b_JI_compare_19, s_end, true_and, and_true, or_true, true_or, if_true, if_false, ite_true, ite_false, List.map_nil, List.map_cons, List.sum_nil, List.sum_cons, List.nil_append, List.cons_append, Option.toList_some, Option.toList_none, Nat.reduceAdd, Nat.reduceLeDiff, Nat.reduceSub, Nat.zero_le, List.headD_cons, List.tail_cons, List.length_cons, List.length_nil, ne_eq, reduceCtorEq, false_or, or_false, not_false_eq_true, Nat.reduceEqDiff, Nat.reduceLT, am_sw, bI_0, bI_z, bI_y, Classical.not_not, Nat.le_add_left, am_u_row2, am_r_row2, am_u_same, am_u_at, am_r_same, Int32.reduceLT, Int32.reduceLE, Int32.reduceAdd, Int32.reduceSub, Int32.reduceMul, forall_const, not_true_eq_false, implies_true, false_imp_iff, true_imp_iff, i_10, i_01, i_m10, i_m11, eq_self, or_self, false_and, and_false, and_self, am_so_some, am_pv_some, am_pv_none, l_cl_none, l_cl_int, l_cl_ref, l_cl_ra, l_cl_null, l_cl_long, cat_int, cat_ref, cat_long, cat_ra, cat_null, cl_0, cl_1, cl_2, cl_3, cl_4, cl_5, cl_6, cl_7, cl_8, cl_9, cl_10, cl_11, cl_12, cl_13, cl_14, cl_15, cl_16, cl_30, cl_64, cl_500, vl_0_2, vl_0_3, vl_0_4, vl_0_6, vl_0_7, vl_0_12, vl_0_16, vl_0_1400, vl_1_2, vl_1_3, vl_1_4, vl_1_6, vl_1_7, vl_1_12, vl_1_16, vl_1_1400, vl_2_3, vl_2_4, vl_2_6, vl_2_7, vl_2_12, vl_2_16, vl_2_1400, vl_3_4, vl_3_6, vl_3_7, vl_3_12, vl_3_16, vl_3_1400, vl_4_6, vl_4_7, vl_4_12, vl_4_16, vl_4_1400, vl_5_6, vl_5_7, vl_5_12, vl_5_16, vl_5_1400, vl_6_7, vl_6_12, vl_6_16, vl_6_1400, vl_7_12, vl_7_16, vl_8_12, vl_8_16, vl_9_12, vl_9_16, vl_10_12, vl_10_16, vl_11_12, vl_11_16, i_64le_e, i64a_0, i64b_0, i64a_1, i64b_1, i64a_2, i64b_2, i64a_3, i64b_3, i64a_4, i64b_4, i64a_5, i64b_5, i64a_7, i64b_7, i64a_8, i64b_8, i64a_9, i64b_9, i64a_10, i64b_10, i64a_16, i64b_16, i64a_50, i64b_50, i64a_m50, i64b_m50, i64a_60, i64b_60, i64a_99, i64b_99, i64a_100, i64b_100, i64a_500, i64b_500, i64a_600, i64b_600, i64a_1000, i64b_1000, i64a_1000000, i64b_1000000, i64a_m9, i64b_m9]
  unfold cmI at k
  refine ⟨fun h => ⟨fun h2 => ?_, fun h2 => ?_⟩, fun h => ?_⟩
  · rw [if_neg (Int32.not_lt.mpr h), if_neg h2] at k; exact k
  · rw [if_neg (Int32.not_lt.mpr h), if_pos h2] at k; exact k
  · rw [if_pos (Int32.not_le.mp h)] at k; exact k
theorem i_shr31 (a : Int32) : a >>> (31 &&& 31) = if a < 0 then -1 else 0 := by
  apply Int32.toInt_inj.mp
  show (BitVec.sshiftRight' a.toBitVec (((31 : Int32) &&& 31).toBitVec.smod 32)).toInt = _
  rw [BitVec.toInt_sshiftRight', show (((31 : Int32) &&& 31).toBitVec.smod 32).toNat = 31 from by decide, Int.shiftRight_eq_div_pow]
  have t := i_T a
  have e : a.toBitVec.toInt = a.toInt := rfl
  rw [e]
  by_cases h : a < 0
  · rw [if_pos h]
    have q := Int32.lt_iff_toInt_lt.mp h
    rw [show (0 : Int32).toInt = 0 from rfl] at q
    rw [show (-1 : Int32).toInt = -1 from rfl]
    omega
  · rw [if_neg h]
    have q := Int32.le_iff_toInt_le.mp (Int32.not_lt.mp h)
    rw [show (0 : Int32).toInt = 0 from rfl] at q ⊢
    omega
theorem i_ushr31 (a : Int32) : (a.toUInt32 >>> (Int32.toUInt32 31 &&& Int32.toUInt32 31)).toInt32 = if a < 0 then 1 else 0 := by
  have t := i_T a
  have hv : a.toUInt32.toNat = a.toBitVec.toNat := rfl
  have hi : a.toInt = a.toBitVec.toInt := rfl
  have hc := BitVec.toInt_eq_toNat_cond a.toBitVec
  have e : a.toUInt32 >>> (Int32.toUInt32 31 &&& Int32.toUInt32 31) = if a < 0 then 1 else 0 := by
    apply UInt32.toNat_inj.mp
    rw [UInt32.toNat_shiftRight, show (Int32.toUInt32 31 &&& Int32.toUInt32 31).toNat % 32 = 31 from by decide, Nat.shiftRight_eq_div_pow, hv]
    have lt := a.toBitVec.isLt
    by_cases h : a < 0
    · rw [if_pos h]
      have q := Int32.lt_iff_toInt_lt.mp h
      rw [show (0 : Int32).toInt = 0 from rfl] at q
      rw [show (1 : UInt32).toNat = 1 from rfl]
      split at hc <;> omega
    · rw [if_neg h]
      have q := Int32.le_iff_toInt_le.mp (Int32.not_lt.mp h)
      rw [show (0 : Int32).toInt = 0 from rfl] at q
      rw [show (0 : UInt32).toNat = 0 from rfl]
      split at hc <;> omega
  rw [e]
  by_cases h : a < 0
  · rw [if_pos h, if_pos h]; rfl
  · rw [if_neg h, if_neg h]; rfl
theorem sgn_eq (a : Int32) : (a >>> (31 &&& 31) ||| ((0 - a).toUInt32 >>> (Int32.toUInt32 31 &&& Int32.toUInt32 31)).toInt32) = cmI a 0 := by
  rw [i_shr31, i_ushr31]
  unfold cmI
  by_cases h : a < 0
  · rw [if_pos h, if_pos h]
    by_cases h2 : 0 - a < 0
    · rw [if_pos h2]; decide
    · rw [if_neg h2]; decide
  · rw [if_neg h, if_neg h]
    by_cases h2 : a = 0
    · rw [h2]; decide
    · rw [if_neg h2]
      have t := i_T a
      have q := Int32.le_iff_toInt_le.mp (Int32.not_lt.mp h)
      have n : a.toInt ≠ 0 := fun e => h2 (Int32.toInt_inj.mp e)
      have z : (0 : Int32).toInt = 0 := rfl
      rw [z] at q
      have s : 0 - a < 0 := by
        rw [Int32.lt_iff_toInt_lt, i_sub (by rw [z]; omega) (by rw [z]; omega), z]
        omega
      rw [if_pos s]; decide
theorem c_JI_signum {a : Int32} (_ : True) (k : K (some (.int (cmI a 0))) S M L) : am_Call X d m_JI_signum [.int a] S M L K := by
  refine EE_JI_signum pt30_ok ?_
  simp only [s_bipush, s_iload_0_int, s_ineg, s_ior, s_ireturn, s_ishr, s_iushr, J_JI_signum_0, b_JI_signum_0, s_end, true_and, and_true, or_true, true_or, if_true, if_false, ite_true, ite_false, List.map_nil, List.map_cons, List.sum_nil, List.sum_cons, List.nil_append, List.cons_append, Option.toList_some, Option.toList_none, Nat.reduceAdd, Nat.reduceLeDiff, Nat.reduceSub, Nat.zero_le, List.headD_cons, List.tail_cons, List.length_cons, List.length_nil, ne_eq, reduceCtorEq, false_or, or_false, not_false_eq_true, Nat.reduceEqDiff, Nat.reduceLT, am_sw, bI_0, bI_z, bI_y, Classical.not_not, Nat.le_add_left, am_u_row2, am_r_row2, am_u_same, am_u_at, am_r_same, Int32.reduceLT, Int32.reduceLE, Int32.reduceAdd, Int32.reduceSub, Int32.reduceMul, forall_const, not_true_eq_false, implies_true, false_imp_iff, true_imp_iff, i_10, i_01, i_m10, i_m11, eq_self, or_self, false_and, and_false, and_self, am_so_some, am_pv_some, am_pv_none, l_cl_none, l_cl_int, l_cl_ref, l_cl_ra, l_cl_null, l_cl_long, cat_int, cat_ref, cat_long, cat_ra, cat_null, cl_0, cl_1, cl_2, cl_3, cl_4, cl_5, cl_6, cl_7, cl_8, cl_9, cl_10, cl_11, cl_12, cl_13, cl_14, cl_15, cl_16, cl_30, cl_64, cl_500, vl_0_2, vl_0_3, vl_0_4, vl_0_6, vl_0_7, vl_0_12, vl_0_16, vl_0_1400, vl_1_2, vl_1_3, vl_1_4, vl_1_6, vl_1_7, vl_1_12, vl_1_16, vl_1_1400, vl_2_3, vl_2_4, vl_2_6, vl_2_7, vl_2_12, vl_2_16, vl_2_1400, vl_3_4, vl_3_6, vl_3_7, vl_3_12, vl_3_16, vl_3_1400, vl_4_6, vl_4_7, vl_4_12, vl_4_16, vl_4_1400, vl_5_6, vl_5_7, vl_5_12, vl_5_16, vl_5_1400, vl_6_7, vl_6_12, vl_6_16, vl_6_1400, vl_7_12, vl_7_16, vl_8_12, vl_8_16, vl_9_12, vl_9_16, vl_10_12, vl_10_16, vl_11_12, vl_11_16, i_64le_e, i64a_0, i64b_0, i64a_1, i64b_1, i64a_2, i64b_2, i64a_3, i64b_3, i64a_4, i64b_4, i64a_5, i64b_5, i64a_7, i64b_7, i64a_8, i64b_8, i64a_9, i64b_9, i64a_10, i64b_10, i64a_16, i64b_16, i64a_50, i64b_50, i64a_m50, i64b_m50, i64a_60, i64b_60, i64a_99, i64b_99, i64a_100, i64b_100, i64a_500, i64b_500, i64a_600, i64b_600, i64a_1000, i64b_1000, i64a_1000000, i64b_1000000, i64a_m9, i64b_m9]
  rw [sgn_eq]; exact k
def f_JI_compare : List Value → am_S → am_M → am_L → Option (Prop × Nat × Option Value × am_M × am_L) := fun avs S M L => match avs with
  | [.int a, .int b] => some (True, 0, some (.int (cmI a b)), M, L)
  | _ => none
theorem cal_JI_compare {X : am_X} {PT : am_PT} {d : Nat} {K : am_K} {S : am_S} {M : am_M} {L : am_L} {a : Int32} {b : Int32} (hPT9 : PT 251 = some f_JI_compare) : am_cal X PT d 251 [.int a, .int b] S M L K = (0 ≤ d ∧ (True) ∧ K (some (.int (cmI a b))) S (M) (L)) := by
  unfold am_cal
  rw [hPT9]
  exact propext Iff.rfl
theorem g_JI_compare : am_PTf 251 f_JI_compare := by
  intro avs S M L o h hp X d K k
  unfold f_JI_compare at h
  split at h
  · cases h
    exact c_JI_compare hp k
  · cases h
def f_JI_signum : List Value → am_S → am_M → am_L → Option (Prop × Nat × Option Value × am_M × am_L) := fun avs S M L => match avs with
  | [.int a] => some (True, 0, some (.int (cmI a 0)), M, L)
  | _ => none
theorem cal_JI_signum {X : am_X} {PT : am_PT} {d : Nat} {K : am_K} {S : am_S} {M : am_M} {L : am_L} {a : Int32} (hPT9 : PT 254 = some f_JI_signum) : am_cal X PT d 254 [.int a] S M L K = (0 ≤ d ∧ (True) ∧ K (some (.int (cmI a 0))) S (M) (L)) := by
  unfold am_cal
  rw [hPT9]
  exact propext Iff.rfl
theorem g_JI_signum : am_PTf 254 f_JI_signum := by
  intro avs S M L o h hp X d K k
  unfold f_JI_signum at h
  split at h
  · cases h
    exact c_JI_signum hp k
  · cases h
def pt31 : am_PT := am_add pt30 251 f_JI_compare
theorem pt31_ok : am_PTok pt31 := am_add_ok pt30_ok g_JI_compare
def pt32 : am_PT := am_add pt31 254 f_JI_signum
theorem pt32_ok : am_PTok pt32 := am_add_ok pt31_ok g_JI_signum
theorem pt32_L_within {X : am_X} {d : Nat} {K : am_K} {S : am_S} {M : am_M} {L : am_L} {n : Int32} {lo : Int32} {hi : Int32} : am_cal X pt32 d 156 [.int n, .int lo, .int hi] S M L K = (0 ≤ d ∧ (True) ∧ K (some (.int (bI (lo ≤ n ∧ n ≤ hi)))) S (M) (L)) := cal_L_within (show pt32 156 = some f_L_within from rfl)
theorem pt32_L_brought {X : am_X} {d : Nat} {K : am_K} {S : am_S} {M : am_M} {L : am_L} {n : Int32} {lo : Int32} {hi : Int32} : am_cal X pt32 d 157 [.int n, .int lo, .int hi] S M L K = (1 ≤ d ∧ (True) ∧ K (some (.int (bro n lo hi))) S (M) (L)) := cal_L_brought (show pt32 157 = some f_L_brought from rfl)
theorem pt32_L_refuse {X : am_X} {d : Nat} {K : am_K} {S : am_S} {M : am_M} {L : am_L} {r : Int32} : am_cal X pt32 d 151 [.ref 0, .int r] S M L K = (0 ≤ d ∧ (am_env S ∧ vp_in r 3) ∧ K (some (.int (-1))) S (rfL M r.toNatClampNeg) (L)) := cal_L_refuse (show pt32 151 = some f_L_refuse from rfl)
theorem pt32_L_deny {X : am_X} {d : Nat} {K : am_K} {S : am_S} {M : am_M} {L : am_L} {r : Int32} : am_cal X pt32 d 152 [.ref 0, .int r] S M L K = (0 ≤ d ∧ (am_env S ∧ vp_in r 3) ∧ K (some (.int 0)) S (rfL M r.toNatClampNeg) (L)) := cal_L_deny (show pt32 152 = some f_L_deny from rfl)
theorem pt32_R_in {X : am_X} {d : Nat} {K : am_K} {S : am_S} {M : am_M} {L : am_L} {v : Int64} {lo : Int64} {hi : Int64} : am_cal X pt32 d 159 [.long v, .long lo, .long hi] S M L K = (0 ≤ d ∧ (True) ∧ K (some (.int (bI (lo ≤ v ∧ v ≤ hi)))) S (M) (L)) := cal_R_in (show pt32 159 = some f_R_in from rfl)
theorem pt32_R_refuse {X : am_X} {d : Nat} {K : am_K} {S : am_S} {M : am_M} {L : am_L} {a : Int32} {b : Int32} : am_cal X pt32 d 160 [.ref 70, .int a, .int b] S M L K = (0 ≤ d ∧ (am_env S) ∧ K (some (.int (-1))) S (rfR M (rsn a b)) (L)) := cal_R_refuse (show pt32 160 = some f_R_refuse from rfl)
theorem pt32_R_deny {X : am_X} {d : Nat} {K : am_K} {S : am_S} {M : am_M} {L : am_L} {a : Int32} {b : Int32} : am_cal X pt32 d 161 [.ref 70, .int a, .int b] S M L K = (1 ≤ d ∧ (am_env S) ∧ K (some (.int 0)) S (rfR M (rsn a b)) (L)) := cal_R_deny (show pt32 161 = some f_R_deny from rfl)
theorem pt32_R_isScreen {X : am_X} {d : Nat} {K : am_K} {S : am_S} {M : am_M} {L : am_L} {s : Int32} : am_cal X pt32 d 165 [.ref 70, .int s] S M L K = (1 ≤ d ∧ (am_env S) ∧ K (some (.int (bI (0 ≤ s ∧ s ≤ M 70 8 - 1)))) S (M) (L)) := cal_R_isScreen (show pt32 165 = some f_R_isScreen from rfl)
theorem pt32_R_isPlan {X : am_X} {d : Nat} {K : am_K} {S : am_S} {M : am_M} {L : am_L} {s : Int32} : am_cal X pt32 d 169 [.ref 70, .int s] S M L K = (1 ≤ d ∧ (am_env S) ∧ K (some (.int (bI (0 ≤ s ∧ s ≤ M 70 9 - 1)))) S (M) (L)) := cal_R_isPlan (show pt32 169 = some f_R_isPlan from rfl)
theorem pt32_R_isBaby {X : am_X} {d : Nat} {K : am_K} {S : am_S} {M : am_M} {L : am_L} {s : Int32} : am_cal X pt32 d 173 [.ref 70, .int s] S M L K = (1 ≤ d ∧ (am_env S) ∧ K (some (.int (bI (0 ≤ s ∧ s ≤ M 70 17 - 1)))) S (M) (L)) := cal_R_isBaby (show pt32 173 = some f_R_isBaby from rfl)
theorem pt32_R_isLaw {X : am_X} {d : Nat} {K : am_K} {S : am_S} {M : am_M} {L : am_L} {s : Int32} : am_cal X pt32 d 209 [.ref 70, .int s] S M L K = (1 ≤ d ∧ (am_env S) ∧ K (some (.int (bI (0 ≤ s ∧ s ≤ M 97 0 - 1)))) S (M) (L)) := cal_R_isLaw (show pt32 209 = some f_R_isLaw from rfl)
theorem pt32_R_isOdd {X : am_X} {d : Nat} {K : am_K} {S : am_S} {M : am_M} {L : am_L} {s : Int32} : am_cal X pt32 d 166 [.ref 70, .int s] S M L K = (0 ≤ d ∧ (am_env S ∧ vp_in s 12) ∧ K (some (.int (bI (oddP (M 73) (M 74) (M 75) s.toNatClampNeg)))) S (M) (L)) := cal_R_isOdd (show pt32 166 = some f_R_isOdd from rfl)
theorem pt32_Stage_isOdd {X : am_X} {d : Nat} {K : am_K} {S : am_S} {M : am_M} {L : am_L} {s : Int32} : am_cal X pt32 d 77 [.ref 23, .int s] S M L K = (0 ≤ d ∧ (am_env S ∧ vp_in s 12) ∧ K (some (.int (bI (oddP (M 25) (M 26) (M 27) s.toNatClampNeg)))) S (M) (L)) := cal_Stage_isOdd (show pt32 77 = some f_Stage_isOdd from rfl)
theorem pt32_Stage_hasScreen {X : am_X} {d : Nat} {K : am_K} {S : am_S} {M : am_M} {L : am_L} {s : Int32} : am_cal X pt32 d 74 [.ref 23, .int s] S M L K = (0 ≤ d ∧ (am_env S) ∧ K (some (.int (bI (0 ≤ s ∧ s < M 23 7)))) S (M) (L)) := cal_Stage_hasScreen (show pt32 74 = some f_Stage_hasScreen from rfl)
theorem pt32_Stage_hasPlan {X : am_X} {d : Nat} {K : am_K} {S : am_S} {M : am_M} {L : am_L} {s : Int32} : am_cal X pt32 d 75 [.ref 23, .int s] S M L K = (0 ≤ d ∧ (am_env S) ∧ K (some (.int (bI (0 ≤ s ∧ s < M 23 8)))) S (M) (L)) := cal_Stage_hasPlan (show pt32 75 = some f_Stage_hasPlan from rfl)
theorem pt32_Lab_hasBaby {X : am_X} {d : Nat} {K : am_K} {S : am_S} {M : am_M} {L : am_L} {s : Int32} : am_cal X pt32 d 23 [.ref 31, .int s] S M L K = (0 ≤ d ∧ (am_env S) ∧ K (some (.int (bI (0 ≤ s ∧ s < M 31 7)))) S (M) (L)) := cal_Lab_hasBaby (show pt32 23 = some f_Lab_hasBaby from rfl)
theorem pt32_Program_hasLaw {X : am_X} {d : Nat} {K : am_K} {S : am_S} {M : am_M} {L : am_L} {s : Int32} : am_cal X pt32 d 65 [.ref 16, .int s] S M L K = (0 ≤ d ∧ (am_env S) ∧ K (some (.int (bI (0 ≤ s ∧ s < M 16 7)))) S (M) (L)) := cal_Program_hasLaw (show pt32 65 = some f_Program_hasLaw from rfl)
theorem pt32_Finder_forget {X : am_X} {d : Nat} {K : am_K} {S : am_S} {M : am_M} {L : am_L}  : am_cal X pt32 d 4 [.ref 62] S M L K = (0 ≤ d ∧ (am_env S) ∧ K (none) S (am_u M 62 8 0) (L)) := cal_Finder_forget (show pt32 4 = some f_Finder_forget from rfl)
theorem pt32_Stage_addPlan {X : am_X} {d : Nat} {K : am_K} {S : am_S} {M : am_M} {L : am_L}  : am_cal X pt32 d 80 [.ref 23] S M L K = (0 ≤ d ∧ (am_env S ∧ vp_in (M 23 8) 4) ∧ K (some (.int (M 23 8))) S (am_u (am_u M 30 (M 23 8).toNatClampNeg 0) 23 8 (M 23 8 + 1)) (L)) := cal_Stage_addPlan (show pt32 80 = some f_Stage_addPlan from rfl)
theorem pt32_Stage_addScreen {X : am_X} {d : Nat} {K : am_K} {S : am_S} {M : am_M} {L : am_L} {f : Int32} {h : Int32} {s : Int32} {q : Int32} : am_cal X pt32 d 79 [.ref 23, .int f, .int h, .int s, .int q] S M L K = (0 ≤ d ∧ (am_env S ∧ vp_in (M 23 7) 12) ∧ K (some (.int (M 23 7))) S (am_u (am_u (am_u (am_u (am_u M 25 (M 23 7).toNatClampNeg f) 26 (M 23 7).toNatClampNeg h) 27 (M 23 7).toNatClampNeg s) 28 (M 23 7).toNatClampNeg q) 23 7 (M 23 7 + 1)) (L)) := cal_Stage_addScreen (show pt32 79 = some f_Stage_addScreen from rfl)
theorem pt32_Stage_screenOf {X : am_X} {d : Nat} {K : am_K} {S : am_S} {M : am_M} {L : am_L} {p : Int32} {t : Int32} : am_cal X pt32 d 78 [.ref 23, .int p, .int t] S M L K = (0 ≤ d ∧ (am_env S ∧ vp_in (p * 8 + t) 32) ∧ K (some (.int (M 29 (p * 8 + t).toNatClampNeg))) S (M) (L)) := cal_Stage_screenOf (show pt32 78 = some f_Stage_screenOf from rfl)
theorem pt32_Stage_hasTrial {X : am_X} {d : Nat} {K : am_K} {S : am_S} {M : am_M} {L : am_L} {p : Int32} {t : Int32} : am_cal X pt32 d 76 [.ref 23, .int p, .int t] S M L K = (1 ≤ d ∧ (am_env S ∧ (0 ≤ p ∧ p < M 23 8 → vp_in p 4)) ∧ K (some (.int (bI ((0 ≤ p ∧ p < M 23 8) ∧ 0 ≤ t ∧ t < M 30 p.toNatClampNeg)))) S (M) (L)) := cal_Stage_hasTrial (show pt32 76 = some f_Stage_hasTrial from rfl)
theorem pt32_Stage_addTrial {X : am_X} {d : Nat} {K : am_K} {S : am_S} {M : am_M} {L : am_L} {p : Int32} {s : Int32} : am_cal X pt32 d 81 [.ref 23, .int p, .int s] S M L K = (0 ≤ d ∧ (am_env S ∧ vp_in p 4 ∧ vp_in (p * 8 + M 30 p.toNatClampNeg) 32) ∧ K (some (.int (M 30 p.toNatClampNeg + 1))) S (am_u (am_u M 29 (p * 8 + M 30 p.toNatClampNeg).toNatClampNeg s) 30 p.toNatClampNeg (M 30 p.toNatClampNeg + 1)) (L)) := cal_Stage_addTrial (show pt32 81 = some f_Stage_addTrial from rfl)
theorem pt32_Lab_gazeSize {X : am_X} {d : Nat} {K : am_K} {S : am_S} {M : am_M} {L : am_L} {b : Int32} {t : Int32} : am_cal X pt32 d 27 [.ref 31, .int b, .int t] S M L K = (0 ≤ d ∧ (am_env S ∧ vp_in (b * 8 + t) 128) ∧ K (some (.int (M 38 (b * 8 + t).toNatClampNeg))) S (M) (L)) := cal_Lab_gazeSize (show pt32 27 = some f_Lab_gazeSize from rfl)
theorem pt32_Lab_gazeAt {X : am_X} {d : Nat} {K : am_K} {S : am_S} {M : am_M} {L : am_L} {b : Int32} {t : Int32} {i : Int32} : am_cal X pt32 d 28 [.ref 31, .int b, .int t, .int i] S M L K = (0 ≤ d ∧ (am_env S ∧ vp_in ((b * 8 + t) * 8 + i) 1024) ∧ K (some (.int (M 37 ((b * 8 + t) * 8 + i).toNatClampNeg))) S (M) (L)) := cal_Lab_gazeAt (show pt32 28 = some f_Lab_gazeAt from rfl)
theorem pt32_Lab_isCrying {X : am_X} {d : Nat} {K : am_K} {S : am_S} {M : am_M} {L : am_L} {b : Int32} {t : Int32} : am_cal X pt32 d 31 [.ref 31, .int b, .int t] S M L K = (0 ≤ d ∧ (am_env S ∧ vp_in b 16) ∧ K (some (.int (bI (¬ M 35 b.toNatClampNeg = -1 ∧ M 35 b.toNatClampNeg ≤ t)))) S (M) (L)) := cal_Lab_isCrying (show pt32 31 = some f_Lab_isCrying from rfl)
theorem pt32_R_screenOf {X : am_X} {d : Nat} {K : am_K} {S : am_S} {M : am_M} {L : am_L} {b : Int32} {t : Int32} : am_cal X pt32 d 180 [.ref 70, .int b, .int t] S M L K = (0 ≤ d ∧ (am_env S ∧ vp_in b 16 ∧ vp_in (8 * M 79 b.toNatClampNeg + t) 32) ∧ K (some (.int (M 78 (8 * M 79 b.toNatClampNeg + t).toNatClampNeg))) S (M) (L)) := cal_R_screenOf (show pt32 180 = some f_R_screenOf from rfl)
theorem pt32_R_trialsOf {X : am_X} {d : Nat} {K : am_K} {S : am_S} {M : am_M} {L : am_L} {b : Int32} : am_cal X pt32 d 184 [.ref 70, .int b] S M L K = (0 ≤ d ∧ (am_env S ∧ vp_in b 16 ∧ vp_in (M 79 b.toNatClampNeg) 4) ∧ K (some (.int (M 77 (M 79 b.toNatClampNeg).toNatClampNeg))) S (M) (L)) := cal_R_trialsOf (show pt32 184 = some f_R_trialsOf from rfl)
theorem pt32_Program_joinBy {X : am_X} {d : Nat} {K : am_K} {S : am_S} {M : am_M} {L : am_L} {sg : Int32} {x : Int32} {y : Int32} : am_cal X pt32 d 72 [.int sg, .int x, .int y] S M L K = (0 ≤ d ∧ (True) ∧ K (some (.int (jbI sg x y))) S (M) (L)) := cal_Program_joinBy (show pt32 72 = some f_Program_joinBy from rfl)
theorem pt32_R_brought {X : am_X} {d : Nat} {K : am_K} {S : am_S} {M : am_M} {L : am_L} {w : Int64} : am_cal X pt32 d 207 [.long w] S M L K = (1 ≤ d ∧ (True) ∧ K (some (.int (clp w))) S (M) (L)) := cal_R_brought (show pt32 207 = some f_R_brought from rfl)
theorem pt32_JI_compare {X : am_X} {d : Nat} {K : am_K} {S : am_S} {M : am_M} {L : am_L} {a : Int32} {b : Int32} : am_cal X pt32 d 251 [.int a, .int b] S M L K = (0 ≤ d ∧ (True) ∧ K (some (.int (cmI a b))) S (M) (L)) := cal_JI_compare (show pt32 251 = some f_JI_compare from rfl)
theorem pt32_JI_signum {X : am_X} {d : Nat} {K : am_K} {S : am_S} {M : am_M} {L : am_L} {a : Int32} : am_cal X pt32 d 254 [.int a] S M L K = (0 ≤ d ∧ (True) ∧ K (some (.int (cmI a 0))) S (M) (L)) := cal_JI_signum (show pt32 254 = some f_JI_signum from rfl)
/-- sums of what is said, of odd screens and of others -/
def oA (V : am_M) (f u : Nat → Int32) : Nat → Nat
  | 0 => 0
  | i + 1 => if oddV V (nm (f i)) then oA V f u i + nm (u i) else oA V f u i
def om (V : am_M) (f : Nat → Int32) : Nat → Nat
  | 0 => 0
  | i + 1 => if oddV V (nm (f i)) then om V f i + 1 else om V f i
def oC (V : am_M) (f u : Nat → Int32) : Nat → Nat
  | 0 => 0
  | i + 1 => if oddV V (nm (f i)) then oC V f u i else oC V f u i + nm (u i)
def sgI (A m C n : Nat) : Int32 := if m = 0 ∨ n = 0 then 2 else if A * n < C * m then -1 else if A * n = C * m then 0 else 1
def sgN (V : am_M) (f u : Nat → Int32) (n : Nat) : Int32 := sgI (oA V f u n) (om V f n) (oC V f u n) (n - om V f n)
def SdOk (u : Nat → Int32) (n : Nat) : Prop := ∀ j, j < n → u j = nI (nm (u j)) ∧ nm (u j) ≤ 600
theorem om_le {f : Nat → Int32} : ∀ i, om V f i ≤ i := by
  intro i
  induction i with
  | zero => exact Nat.le_refl _
  | succ i ih =>
    unfold om
    by_cases h : oddV V (nm (f i))
    · rw [if_pos h]; omega
    · rw [if_neg h]; omega
theorem oA_le {f u : Nat → Int32} {n : Nat} (hu : SdOk u n) : ∀ i, i ≤ n → oA V f u i ≤ 600 * i ∧ oC V f u i ≤ 600 * i := by
  intro i
  induction i with
  | zero => intro _; exact ⟨Nat.le_refl _, Nat.le_refl _⟩
  | succ i ih =>
    intro hi
    have q := (hu i (by omega)).2
    have r := ih (by omega)
    unfold oA oC
    by_cases h : oddV V (nm (f i))
    · rw [if_pos h, if_pos h]; omega
    · rw [if_neg h, if_neg h]; omega
theorem sdI_ok {l : Nat} {f : Nat → Int32} {a : Int32} {n : Nat} : SdOk (sdI V l f a) n := by
  intro j _
  obtain ⟨m, h1, h2⟩ := bro_in (wkI V l (nzS V f a j (smI V l f a j)))
  have e : sdI V l f a j = nI m := h2
  rw [e, nm_nI (by omega)]
  exact ⟨rfl, h1⟩
end T34
