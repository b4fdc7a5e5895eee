section T22
variable {X : am_X} {d : Nat} {K : am_K} {S : am_S} {M : am_M} {L : am_L} {V : am_M}
theorem bro_in (x : Int32) : ∃ n, n ≤ 600 ∧ bro x 0 600 = nI n := by
  have h : 0 ≤ bro x 0 600 ∧ bro x 0 600 ≤ 600 := by
    unfold bro
    by_cases h1 : x < 600
    · rw [if_pos h1]
      by_cases h2 : 0 < x
      · rw [if_pos h2]; exact ⟨Int32.le_of_lt h2, Int32.le_of_lt h1⟩
      · rw [if_neg h2]; exact ⟨by decide, by decide⟩
    · rw [if_neg h1]; exact ⟨by decide, by decide⟩
  obtain ⟨j, hj, e⟩ := nI_of2 (M := 600) (n := 600) rfl (Int32.not_lt.mpr h.1) h.2
  exact ⟨j, hj, e⟩
theorem lenI_in (hI : IV V) (b t : Nat) : lenI V b t = -1 ∨ ∃ n, n ≤ 600 ∧ lenI V b t = nI n := by
  have em := hI.mo
  unfold lenI
  by_cases h : oI (plainO V b t) = -1 ∨ ¬ oddV V (scN V b t)
  · rw [if_pos h]
    unfold plainO
    by_cases h1 : cryP V b t
    · rw [if_pos h1]; exact Or.inl rfl
    · rw [if_neg h1]
      by_cases h2 : plN V b t = 0
      · rw [if_pos h2]; exact Or.inl rfl
      · rw [if_neg h2]; exact Or.inr ⟨_, by omega, rfl⟩
  · rw [if_neg h]; exact Or.inr (bro_in _)
theorem lonI_in (hI : IV V) (b i : Nat) : ∃ n, n ≤ 600 ∧ lonI V b i = nI n := by
  induction i with
  | zero => exact ⟨0, by omega, rfl⟩
  | succ i ih =>
    unfold lonI
    by_cases h : lenI V b i = -1
    · rw [if_pos h]; exact ih
    · rw [if_neg h]
      unfold mxI
      by_cases h2 : lonI V b i < lenI V b i
      · rw [if_pos h2]
        rcases lenI_in hI b i with q | q
        · exact absurd q h
        · exact q
      · rw [if_neg h2]; exact ih
/-- the longest as the reference takes it: what is missing counts as -1 -/
theorem lonI_max (hI : IV V) (b i : Nat) : mxI (lonI V b i) (lenI V b i) = lonI V b (i + 1) := by
  show _ = if lenI V b i = -1 then lonI V b i else mxI (lonI V b i) (lenI V b i)
  by_cases h : lenI V b i = -1
  · rw [if_pos h, h]
    obtain ⟨n, h1, h2⟩ := lonI_in hI b i
    unfold mxI
    rw [h2, if_neg]
    intro q
    exact absurd (Int32.lt_trans q (by decide : (-1 : Int32) < 0)) (nI_pos (by omega))
  · rw [if_neg h]
/-- how many binary digits -/
def dgF : Nat → Nat → Nat
  | 0, _ => 0
  | f + 1, n => if n = 0 then 0 else dgF f (n / 2) + 1
theorem dgF_add : ∀ (f n : Nat), n < 2 ^ f → dgF (f + 1) n = dgF f n := by
  intro f
  induction f with
  | zero => intro n h; have : n = 0 := by omega
            subst this; rfl
  | succ f ih =>
    intro n h
    show (if n = 0 then 0 else dgF (f + 1) (n / 2) + 1) = if n = 0 then 0 else dgF f (n / 2) + 1
    rw [ih (n / 2) (by omega)]
def dg (n : Nat) : Nat := dgF 10 n
theorem dg_0 : dg 0 = 0 := rfl
theorem dg_s {n : Nat} (h : n ≠ 0) (hn : n ≤ 600) : dg n = dg (n / 2) + 1 := by
  unfold dg
  rw [← dgF_add 10 n (by omega)]
  show (if n = 0 then 0 else dgF 10 (n / 2) + 1) = _
  rw [if_neg h]
theorem i_shr1 {n : Nat} (h : n < 2147483648) : nI n >>> (1 &&& 31) = nI (n / 2) := by
  apply Int32.toInt_inj.mp
  show (BitVec.sshiftRight' (nI n).toBitVec (((1 : Int32) &&& 31).toBitVec.smod 32)).toInt = _
  rw [BitVec.toInt_sshiftRight', show (((1 : Int32) &&& 31).toBitVec.smod 32).toNat = 1 from by decide]
  have h2 : (nI n).toBitVec.toInt = (n : Int) := nI_toInt h
  rw [h2, nI_toInt (by omega), Int.shiftRight_eq_div_pow]
  omega
def rdI (V : am_M) (b t : Nat) : Int32 := if lenI V b t = -1 then -1 else if V 70 22 = 1 then (if lenI V b t < V 70 23 then lenI V b t else V 70 23) else if V 70 22 = 2 then 10 * nI (dg (nm (lenI V b t))) else if V 70 22 = 3 then (if lonI V b (tN V b) = 0 then 0 else 100 * lenI V b t / lonI V b (tN V b)) else lenI V b t
theorem mn_comm (a b : Int32) : (if b < a then b else a) = if a < b then a else b := by
  by_cases h1 : b < a
  · rw [if_pos h1, if_neg (Int32.not_lt.mpr (Int32.le_of_lt h1))]
  · by_cases h2 : a < b
    · rw [if_neg h1, if_pos h2]
    · rw [if_neg h1, if_neg h2]
      exact Int32.le_antisymm (Int32.not_lt.mp h1) (Int32.not_lt.mp h2)
theorem c_Meter_digits {n : Nat} (hn : n ≤ 600) (k : K (some (.int (nI (dg n)))) S M L) : am_Call X d m_Meter_digits [.int (nI n)] S M L K := by
  refine EE_Meter_digits pt28_ok ?_
  simp only [s_goto, s_iconst, s_if_le, s_iinc_1, s_iload_0_int, s_iload_1_int, s_iload_2_int, s_ireturn, s_ishr, s_istore_1_int, s_istore_2_int, J_Meter_digits_0, b_Meter_digits_0, J_Meter_digits_18, b_Meter_digits_18, J_Meter_digits_4, b_Meter_digits_4, s_end, true_and, and_true, or_true, true_or, if_true, if_false, ite_true, ite_false, List.map_nil, List.map_cons, List.sum_nil, List.sum_cons, List.nil_append, List.cons_append, Option.toList_some, Option.toList_none, Nat.reduceAdd, Nat.reduceLeDiff, Nat.reduceSub, Nat.zero_le, List.headD_cons, List.tail_cons, List.length_cons, List.length_nil, ne_eq, reduceCtorEq, false_or, or_false, not_false_eq_true, Nat.reduceEqDiff, Nat.reduceLT, am_sw, bI_0, bI_z, bI_y, Classical.not_not, Nat.le_add_left, am_u_row2, am_r_row2, am_u_same, am_u_at, am_r_same, Int32.reduceLT, Int32.reduceLE, Int32.reduceAdd, Int32.reduceSub, Int32.reduceMul, forall_const, not_true_eq_false, implies_true, false_imp_iff, true_imp_iff, i_10, i_01, i_m10, i_m11, eq_self, or_self, false_and, and_false, and_self, am_so_some, am_pv_some, am_pv_none, l_cl_none, l_cl_int, l_cl_ref, l_cl_ra, l_cl_null, l_cl_long, cat_int, cat_ref, cat_long, cat_ra, cat_null, cl_0, cl_1, cl_2, cl_3, cl_4, cl_5, cl_6, cl_7, cl_8, cl_9, cl_10, cl_11, cl_12, cl_13, cl_14, cl_15, cl_16, cl_30, cl_64, cl_500, vl_0_2, vl_0_3, vl_0_4, vl_0_6, vl_0_7, vl_0_12, vl_0_16, vl_0_1400, vl_1_2, vl_1_3, vl_1_4, vl_1_6, vl_1_7, vl_1_12, vl_1_16, vl_1_1400, vl_2_3, vl_2_4, vl_2_6, vl_2_7, vl_2_12, vl_2_16, vl_2_1400, vl_3_4, vl_3_6, vl_3_7, vl_3_12, vl_3_16, vl_3_1400, vl_4_6, vl_4_7, vl_4_12, vl_4_16, vl_4_1400, vl_5_6, vl_5_7, vl_5_12, vl_5_16, vl_5_1400, vl_6_7, vl_6_12, vl_6_16, vl_6_1400, vl_7_12, vl_7_16, vl_8_12, vl_8_16, vl_9_12, vl_9_16, vl_10_12, vl_10_16, vl_11_12, vl_11_16, i_64le_e, i64a_0, i64b_0, i64a_1, i64b_1, i64a_2, i64b_2, i64a_3, i64b_3, i64a_4, i64b_4, i64a_5, i64b_5, i64a_7, i64b_7, i64a_8, i64b_8, i64a_9, i64b_9, i64a_10, i64b_10, i64a_16, i64b_16, i64a_50, i64b_50, i64a_m50, i64b_m50, i64a_60, i64b_60, i64a_99, i64b_99, i64a_100, i64b_100, i64a_500, i64b_500, i64a_600, i64b_600, i64a_1000, i64b_1000, i64a_1000000, i64b_1000000, i64a_m9, i64b_m9, e_s_16, e_i_16, e_l_16, e_p_16_0, e_p_16_1, e_p_16_2, e_p_16_3, e_p_16_4, e_p_16_5, e_s_23, e_i_23, e_l_23, e_p_23_0, e_p_23_1, e_p_23_2, e_p_23_3, e_p_23_4, e_p_23_5, e_p_23_6, e_s_31, e_i_31, e_l_31, e_p_31_0, e_p_31_1, e_p_31_2, e_p_31_3, e_p_31_4, e_p_31_5, e_p_31_6, e_s_51, e_i_51, e_l_51, e_p_51_0, e_p_51_1, e_p_51_2, e_p_51_3, e_p_51_4, e_s_52, e_i_52, e_l_52, e_s_53, e_i_53, e_l_53]
  have loop : ∀ m x c, x ≤ m → x ≤ 600 → c + dg x = dg n → c ≤ 600 - x → am_WP X d 38 4 [some (.int (nI n)), some (.int (nI c)), some (.int (nI x))] [] S (M) (L) 0 0 K := by
    intro m
    induction m with
    | zero =>
      intro x c h1 h2 h3 h4
      have e : x = 0 := by omega
      subst e
      refine H_Meter_digits_4 pt28_ok ?_
      simp only [s_goto, s_iconst, s_if_le, s_iinc_1, s_iload_0_int, s_iload_1_int, s_iload_2_int, s_ireturn, s_ishr, s_istore_1_int, s_istore_2_int, J_Meter_digits_0, b_Meter_digits_0, J_Meter_digits_18, b_Meter_digits_18, J_Meter_digits_4, b_Meter_digits_4, s_end, true_and, and_true, or_true, true_or, if_true, if_false, ite_true, ite_false, List.map_nil, List.map_cons, List.sum_nil, List.sum_cons, List.nil_append, List.cons_append, Option.toList_some, Option.toList_none, Nat.reduceAdd, Nat.reduceLeDiff, Nat.reduceSub, Nat.zero_le, List.headD_cons, List.tail_cons, List.length_cons, List.length_nil, ne_eq, reduceCtorEq, false_or, or_false, not_false_eq_true, Nat.reduceEqDiff, Nat.reduceLT, am_sw, bI_0, bI_z, bI_y, Classical.not_not, Nat.le_add_left, am_u_row2, am_r_row2, am_u_same, am_u_at, am_r_same, Int32.reduceLT, Int32.reduceLE, Int32.reduceAdd, Int32.reduceSub, Int32.reduceMul, forall_const, not_true_eq_false, implies_true, false_imp_iff, true_imp_iff, i_10, i_01, i_m10, i_m11, eq_self, or_self, false_and, and_false, and_self, am_so_some, am_pv_some, am_pv_none, l_cl_none, l_cl_int, l_cl_ref, l_cl_ra, l_cl_null, l_cl_long, cat_int, cat_ref, cat_long, cat_ra, cat_null, cl_0, cl_1, cl_2, cl_3, cl_4, cl_5, cl_6, cl_7, cl_8, cl_9, cl_10, cl_11, cl_12, cl_13, cl_14, cl_15, cl_16, cl_30, cl_64, cl_500, vl_0_2, vl_0_3, vl_0_4, vl_0_6, vl_0_7, vl_0_12, vl_0_16, vl_0_1400, vl_1_2, vl_1_3, vl_1_4, vl_1_6, vl_1_7, vl_1_12, vl_1_16, vl_1_1400, vl_2_3, vl_2_4, vl_2_6, vl_2_7, vl_2_12, vl_2_16, vl_2_1400, vl_3_4, vl_3_6, vl_3_7, vl_3_12, vl_3_16, vl_3_1400, vl_4_6, vl_4_7, vl_4_12, vl_4_16, vl_4_1400, vl_5_6, vl_5_7, vl_5_12, vl_5_16, vl_5_1400, vl_6_7, vl_6_12, vl_6_16, vl_6_1400, vl_7_12, vl_7_16, vl_8_12, vl_8_16, vl_9_12, vl_9_16, vl_10_12, vl_10_16, vl_11_12, vl_11_16, i_64le_e, i64a_0, i64b_0, i64a_1, i64b_1, i64a_2, i64b_2, i64a_3, i64b_3, i64a_4, i64b_4, i64a_5, i64b_5, i64a_7, i64b_7, i64a_8, i64b_8, i64a_9, i64b_9, i64a_10, i64b_10, i64a_16, i64b_16, i64a_50, i64b_50, i64a_m50, i64b_m50, i64a_60, i64b_60, i64a_99, i64b_99, i64a_100, i64b_100, i64a_500, i64b_500, i64a_600, i64b_600, i64a_1000, i64b_1000, i64a_1000000, i64b_1000000, i64a_m9, i64b_m9, e_s_16, e_i_16, e_l_16, e_p_16_0, e_p_16_1, e_p_16_2, e_p_16_3, e_p_16_4, e_p_16_5, e_s_23, e_i_23, e_l_23, e_p_23_0, e_p_23_1, e_p_23_2, e_p_23_3, e_p_23_4, e_p_23_5, e_p_23_6, e_s_31, e_i_31, e_l_31, e_p_31_0, e_p_31_1, e_p_31_2, e_p_31_3, e_p_31_4, e_p_31_5, e_p_31_6, e_s_51, e_i_51, e_l_51, e_p_51_0, e_p_51_1, e_p_51_2, e_p_51_3, e_p_51_4, e_s_52, e_i_52, e_l_52, e_s_53, e_i_53, e_l_53]
      simp (disch := omega) only [nI_clamp, nI_le', nI_lt', nI_eq', rem2_1, rem2_0, nI_eq0, nI_le0, nI_0lt, nI_0le, nI_lt0, nI_m1, vp_inE, nm_nI, i_20, nI_1, nI_add, and_true, true_and, and_self, or_true, true_or, or_false, false_or, false_and, and_false, not_true_eq_false, not_false_eq_true, if_true, if_false, ite_true, ite_false, false_imp_iff, true_imp_iff, rsn_00, rsn_10, rsn_01, rsn_11, n_09, n_19, n_29, n_99, implies_true, bI_t, bI_f, or_self, ne_eq, eq_self, Classical.not_not, Bool.false_eq_true]
      rw [dg_0, Nat.add_zero] at h3
      rw [h3]
      exact k
    | succ m ih =>
      intro x c h1 h2 h3 h4
      refine H_Meter_digits_4 pt28_ok ?_
      simp only [s_goto, s_iconst, s_if_le, s_iinc_1, s_iload_0_int, s_iload_1_int, s_iload_2_int, s_ireturn, s_ishr, s_istore_1_int, s_istore_2_int, J_Meter_digits_0, b_Meter_digits_0, J_Meter_digits_18, b_Meter_digits_18, J_Meter_digits_4, b_Meter_digits_4, s_end, true_and, and_true, or_true, true_or, if_true, if_false, ite_true, ite_false, List.map_nil, List.map_cons, List.sum_nil, List.sum_cons, List.nil_append, List.cons_append, Option.toList_some, Option.toList_none, Nat.reduceAdd, Nat.reduceLeDiff, Nat.reduceSub, Nat.zero_le, List.headD_cons, List.tail_cons, List.length_cons, List.length_nil, ne_eq, reduceCtorEq, false_or, or_false, not_false_eq_true, Nat.reduceEqDiff, Nat.reduceLT, am_sw, bI_0, bI_z, bI_y, Classical.not_not, Nat.le_add_left, am_u_row2, am_r_row2, am_u_same, am_u_at, am_r_same, Int32.reduceLT, Int32.reduceLE, Int32.reduceAdd, Int32.reduceSub, Int32.reduceMul, forall_const, not_true_eq_false, implies_true, false_imp_iff, true_imp_iff, i_10, i_01, i_m10, i_m11, eq_self, or_self, false_and, and_false, and_self, am_so_some, am_pv_some, am_pv_none, l_cl_none, l_cl_int, l_cl_ref, l_cl_ra, l_cl_null, l_cl_long, cat_int, cat_ref, cat_long, cat_ra, cat_null, cl_0, cl_1, cl_2, cl_3, cl_4, cl_5, cl_6, cl_7, cl_8, cl_9, cl_10, cl_11, cl_12, cl_13, cl_14, cl_15, cl_16, cl_30, cl_64, cl_500, vl_0_2, vl_0_3, vl_0_4, vl_0_6, vl_0_7, vl_0_12, vl_0_16, vl_0_1400, vl_1_2, vl_1_3, vl_1_4, vl_1_6, vl_1_7, vl_1_12, vl_1_16, vl_1_1400, vl_2_3, vl_2_4, vl_2_6, vl_2_7, vl_2_12, vl_2_16, vl_2_1400, vl_3_4, vl_3_6, vl_3_7, vl_3_12, vl_3_16, vl_3_1400, vl_4_6, vl_4_7, vl_4_12, vl_4_16, vl_4_1400, vl_5_6, vl_5_7, vl_5_12, vl_5_16, vl_5_1400, vl_6_7, vl_6_12, vl_6_16, vl_6_1400, vl_7_12, vl_7_16, vl_8_12, vl_8_16, vl_9_12, vl_9_16, vl_10_12, vl_10_16, vl_11_12, vl_11_16, i_64le_e, i64a_0, i64b_0, i64a_1, i64b_1, i64a_2, i64b_2, i64a_3, i64b_3, i64a_4, i64b_4, i64a_5, i64b_5, i64a_7, i64b_7, i64a_8, i64b_8, i64a_9, i64b_9, i64a_10, i64b_10, i64a_16, i64b_16, i64a_50, i64b_50, i64a_m50, i64b_m50, i64a_60, i64b_60, i64a_99, i64b_99, i64a_100, i64b_100, i64a_500, i64b_500, i64a_600, i64b_600, i64a_1000, i64b_1000, i64a_1000000, i64b_1000000, i64a_m9, i64b_m9, e_s_16, e_i_16, e_l_16, e_p_16_0, e_p_16_1, e_p_16_2, e_p_16_3, e_p_16_4, e_p_16_5, e_s_23, e_i_23, e_l_23, e_p_23_0, e_p_23_1, e_p_23_2, e_p_23_3, e_p_23_4, e_p_23_5, e_p_23_6, e_s_31, e_i_31, e_l_31, e_p_31_0, e_p_31_1, e_p_31_2, e_p_31_3, e_p_31_4, e_p_31_5, e_p_31_6, e_s_51, e_i_51, e_l_51, e_p_51_0, e_p_51_1, e_p_51_2, e_p_51_3, e_p_51_4, e_s_52, e_i_52, e_l_52, e_s_53, e_i_53, e_l_53]
      simp (disch := omega) only [i_shr1, nI_clamp, nI_le', nI_lt', nI_eq', rem2_1, rem2_0, nI_eq0, nI_le0, nI_0lt, nI_0le, nI_lt0, nI_m1, vp_inE, nm_nI, i_20, nI_1, nI_add, and_true, true_and, and_self, or_true, true_or, or_false, false_or, false_and, and_false, not_true_eq_false, not_false_eq_true, if_true, if_false, ite_true, ite_false, false_imp_iff, true_imp_iff, rsn_00, rsn_10, rsn_01, rsn_11, n_09, n_19, n_29, n_99, implies_true, bI_t, bI_f, or_self, ne_eq, eq_self, Classical.not_not, Bool.false_eq_true]
      refine ⟨fun h => ?_, fun h => ?_⟩
      · subst h
        rw [dg_0, Nat.add_zero] at h3
        rw [h3]; exact k
      · rw [dg_s h h2] at h3
        exact ih (x / 2) (c + 1) (by omega) (by omega) (by omega) (by omega)
  exact loop n n 0 (by omega) hn (by omega) (by omega)
theorem IV.rd4 (hI : IV V) : V 70 22 = 0 ∨ V 70 22 = 1 ∨ V 70 22 = 2 ∨ V 70 22 = 3 := by
  have q := hI.rd
  generalize nm (V 70 22) = r at q
  have : r = 0 ∨ r = 1 ∨ r = 2 ∨ r = 3 := by omega
  rcases this with rfl | rfl | rfl | rfl
  · exact Or.inl q.1
  · exact Or.inr (Or.inl q.1)
  · exact Or.inr (Or.inr (Or.inl q.1))
  · exact Or.inr (Or.inr (Or.inr q.1))
theorem c_Meter_readingAt {b t : Nat} (hE : am_env S) (hC : CV V M) (hI : IV V) (hm : Meas V M b) (ht : t < tN V b) (ht8 : t < 8) (k : K (some (.int (rdI V b t))) S M L) : am_Call X (d + 1) m_Meter_readingAt [.ref 51, .int (nI t)] S M L K := by
  have mr : M 31 12 = V 70 22 := hC.lab.f12
  have mc : M 31 13 = V 70 23 := hC.lab.f13
  have ml : M 53 t = lenI V b t := hm.len t ht
  refine EE_Meter_readingAt pt28_ok ?_
  simp only [s_aload_0_ref, s_bipush, s_get0, s_get2, s_goto, s_iald, s_ic_ne, s_iconst, s_idiv, s_if_ne, s_iload_1_int, s_iload_2_int, s_imul, s_ireturn, s_ist_1, s_istore_2_int, s_mmin, s_sw, J_Meter_readingAt_0, b_Meter_readingAt_0, J_Meter_readingAt_14, b_Meter_readingAt_14, J_Meter_readingAt_48, b_Meter_readingAt_48, J_Meter_readingAt_60, b_Meter_readingAt_60, J_Meter_readingAt_68, b_Meter_readingAt_68, J_Meter_readingAt_79, b_Meter_readingAt_79, J_Meter_readingAt_88, b_Meter_readingAt_88, J_Meter_readingAt_89, b_Meter_readingAt_89, s_end, true_and, and_true, or_true, true_or, if_true, if_false, ite_true, ite_false, List.map_nil, List.map_cons, List.sum_nil, List.sum_cons, List.nil_append, List.cons_append, Option.toList_some, Option.toList_none, Nat.reduceAdd, Nat.reduceLeDiff, Nat.reduceSub, Nat.zero_le, List.headD_cons, List.tail_cons, List.length_cons, List.length_nil, ne_eq, reduceCtorEq, false_or, or_false, not_false_eq_true, Nat.reduceEqDiff, Nat.reduceLT, am_sw, bI_0, bI_z, bI_y, Classical.not_not, Nat.le_add_left, am_u_row2, am_r_row2, am_u_same, am_u_at, am_r_same, Int32.reduceLT, Int32.reduceLE, Int32.reduceAdd, Int32.reduceSub, Int32.reduceMul, forall_const, not_true_eq_false, implies_true, false_imp_iff, true_imp_iff, i_10, i_01, i_m10, i_m11, eq_self, or_self, false_and, and_false, and_self, am_so_some, am_pv_some, am_pv_none, l_cl_none, l_cl_int, l_cl_ref, l_cl_ra, l_cl_null, l_cl_long, cat_int, cat_ref, cat_long, cat_ra, cat_null, cl_0, cl_1, cl_2, cl_3, cl_4, cl_5, cl_6, cl_7, cl_8, cl_9, cl_10, cl_11, cl_12, cl_13, cl_14, cl_15, cl_16, cl_30, cl_64, cl_500, vl_0_2, vl_0_3, vl_0_4, vl_0_6, vl_0_7, vl_0_12, vl_0_16, vl_0_1400, vl_1_2, vl_1_3, vl_1_4, vl_1_6, vl_1_7, vl_1_12, vl_1_16, vl_1_1400, vl_2_3, vl_2_4, vl_2_6, vl_2_7, vl_2_12, vl_2_16, vl_2_1400, vl_3_4, vl_3_6, vl_3_7, vl_3_12, vl_3_16, vl_3_1400, vl_4_6, vl_4_7, vl_4_12, vl_4_16, vl_4_1400, vl_5_6, vl_5_7, vl_5_12, vl_5_16, vl_5_1400, vl_6_7, vl_6_12, vl_6_16, vl_6_1400, vl_7_12, vl_7_16, vl_8_12, vl_8_16, vl_9_12, vl_9_16, vl_10_12, vl_10_16, vl_11_12, vl_11_16, i_64le_e, i64a_0, i64b_0, i64a_1, i64b_1, i64a_2, i64b_2, i64a_3, i64b_3, i64a_4, i64b_4, i64a_5, i64b_5, i64a_7, i64b_7, i64a_8, i64b_8, i64a_9, i64b_9, i64a_10, i64b_10, i64a_16, i64b_16, i64a_50, i64b_50, i64a_m50, i64b_m50, i64a_60, i64b_60, i64a_99, i64b_99, i64a_100, i64b_100, i64a_500, i64b_500, i64a_600, i64b_600, i64a_1000, i64b_1000, i64a_1000000, i64b_1000000, i64a_m9, i64b_m9, e_s_16, e_i_16, e_l_16, e_p_16_0, e_p_16_1, e_p_16_2, e_p_16_3, e_p_16_4, e_p_16_5, e_s_23, e_i_23, e_l_23, e_p_23_0, e_p_23_1, e_p_23_2, e_p_23_3, e_p_23_4, e_p_23_5, e_p_23_6, e_s_31, e_i_31, e_l_31, e_p_31_0, e_p_31_1, e_p_31_2, e_p_31_3, e_p_31_4, e_p_31_5, e_p_31_6, e_s_51, e_i_51, e_l_51, e_p_51_0, e_p_51_1, e_p_51_2, e_p_51_3, e_p_51_4, e_s_52, e_i_52, e_l_52, e_s_53, e_i_53, e_l_53, mr, mc, hm.lon, hE]
  simp (disch := omega) only [ml, nI_clamp, nI_le', nI_lt', nI_eq', rem2_1, rem2_0, nI_eq0, nI_le0, nI_0lt, nI_0le, nI_lt0, nI_m1, vp_inE, nm_nI, i_20, nI_1, nI_add, and_true, true_and, and_self, or_true, true_or, or_false, false_or, false_and, and_false, not_true_eq_false, not_false_eq_true, if_true, if_false, ite_true, ite_false, false_imp_iff, true_imp_iff, rsn_00, rsn_10, rsn_01, rsn_11, n_09, n_19, n_29, n_99, implies_true, bI_t, bI_f, or_self, ne_eq, eq_self, Classical.not_not, Bool.false_eq_true]
  unfold rdI at k
  refine ⟨fun h => ?_, fun h => ?_⟩
  · rw [if_neg h] at k
    refine ⟨fun h2 => ?_, fun h2 => ?_, fun h2 => ?_, fun h2 => ?_⟩
    · rcases hI.rd4 with r | r | r | r
      · rw [r] at k; exact k
      all_goals (rw [r] at h2; exact absurd h2 (by decide))
    · rw [if_pos h2] at k
      rw [mn_comm]; exact k
    · rcases lenI_in hI b t with q | ⟨n, hn, q⟩
      · exact absurd q h
      · rw [h2, q, nm_nI (by omega)] at k
        rw [q]
        refine am_cal_no rfl (c_Meter_digits hn ?_)
        simp only [s_aload_0_ref, s_bipush, s_get0, s_get2, s_goto, s_iald, s_ic_ne, s_iconst, s_idiv, s_if_ne, s_iload_1_int, s_iload_2_int, s_imul, s_ireturn, s_ist_1, s_istore_2_int, s_mmin, s_sw, J_Meter_readingAt_0, b_Meter_readingAt_0, J_Meter_readingAt_14, b_Meter_readingAt_14, J_Meter_readingAt_48, b_Meter_readingAt_48, J_Meter_readingAt_60, b_Meter_readingAt_60, J_Meter_readingAt_68, b_Meter_readingAt_68, J_Meter_readingAt_79, b_Meter_readingAt_79, J_Meter_readingAt_88, b_Meter_readingAt_88, J_Meter_readingAt_89, b_Meter_readingAt_89, s_end, true_and, and_true, or_true, true_or, if_true, if_false, ite_true, ite_false, List.map_nil, List.map_cons, List.sum_nil, List.sum_cons, List.nil_append, List.cons_append, Option.toList_some, Option.toList_none, Nat.reduceAdd, Nat.reduceLeDiff, Nat.reduceSub, Nat.zero_le, List.headD_cons, List.tail_cons, List.length_cons, List.length_nil, ne_eq, reduceCtorEq, false_or, or_false, not_false_eq_true, Nat.reduceEqDiff, Nat.reduceLT, am_sw, bI_0, bI_z, bI_y, Classical.not_not, Nat.le_add_left, am_u_row2, am_r_row2, am_u_same, am_u_at, am_r_same, Int32.reduceLT, Int32.reduceLE, Int32.reduceAdd, Int32.reduceSub, Int32.reduceMul, forall_const, not_true_eq_false, implies_true, false_imp_iff, true_imp_iff, i_10, i_01, i_m10, i_m11, eq_self, or_self, false_and, and_false, and_self, am_so_some, am_pv_some, am_pv_none, l_cl_none, l_cl_int, l_cl_ref, l_cl_ra, l_cl_null, l_cl_long, cat_int, cat_ref, cat_long, cat_ra, cat_null, cl_0, cl_1, cl_2, cl_3, cl_4, cl_5, cl_6, cl_7, cl_8, cl_9, cl_10, cl_11, cl_12, cl_13, cl_14, cl_15, cl_16, cl_30, cl_64, cl_500, vl_0_2, vl_0_3, vl_0_4, vl_0_6, vl_0_7, vl_0_12, vl_0_16, vl_0_1400, vl_1_2, vl_1_3, vl_1_4, vl_1_6, vl_1_7, vl_1_12, vl_1_16, vl_1_1400, vl_2_3, vl_2_4, vl_2_6, vl_2_7, vl_2_12, vl_2_16, vl_2_1400, vl_3_4, vl_3_6, vl_3_7, vl_3_12, vl_3_16, vl_3_1400, vl_4_6, vl_4_7, vl_4_12, vl_4_16, vl_4_1400, vl_5_6, vl_5_7, vl_5_12, vl_5_16, vl_5_1400, vl_6_7, vl_6_12, vl_6_16, vl_6_1400, vl_7_12, vl_7_16, vl_8_12, vl_8_16, vl_9_12, vl_9_16, vl_10_12, vl_10_16, vl_11_12, vl_11_16, i_64le_e, i64a_0, i64b_0, i64a_1, i64b_1, i64a_2, i64b_2, i64a_3, i64b_3, i64a_4, i64b_4, i64a_5, i64b_5, i64a_7, i64b_7, i64a_8, i64b_8, i64a_9, i64b_9, i64a_10, i64b_10, i64a_16, i64b_16, i64a_50, i64b_50, i64a_m50, i64b_m50, i64a_60, i64b_60, i64a_99, i64b_99, i64a_100, i64b_100, i64a_500, i64b_500, i64a_600, i64b_600, i64a_1000, i64b_1000, i64a_1000000, i64b_1000000, i64a_m9, i64b_m9, e_s_16, e_i_16, e_l_16, e_p_16_0, e_p_16_1, e_p_16_2, e_p_16_3, e_p_16_4, e_p_16_5, e_s_23, e_i_23, e_l_23, e_p_23_0, e_p_23_1, e_p_23_2, e_p_23_3, e_p_23_4, e_p_23_5, e_p_23_6, e_s_31, e_i_31, e_l_31, e_p_31_0, e_p_31_1, e_p_31_2, e_p_31_3, e_p_31_4, e_p_31_5, e_p_31_6, e_s_51, e_i_51, e_l_51, e_p_51_0, e_p_51_1, e_p_51_2, e_p_51_3, e_p_51_4, e_s_52, e_i_52, e_l_52, e_s_53, e_i_53, e_l_53, hE]
        exact k
    · rw [h2] at k
      refine ⟨fun h3 => ⟨h3, ?_⟩, fun h3 => ?_⟩
      · have k := k
        simp only [h3, if_false] at k
        exact k
      · simp only [h3, if_true] at k
        exact k
  · rw [if_pos h] at k; exact k
theorem c_R_readOf {b t : Nat} (hE : am_env S) (hR : RS V M) (hI : IV V) (hb : b < nB V) (ht : t < tN V b) (k : K (some (.int (rdI V b t))) S M L) : am_Call X (d + 3) m_R_readOf [.ref 70, .int (nI b), .int (nI t)] S M L K := by
  obtain ⟨p1, p2, p3, p4, p5, p6⟩ := hI.tn hb
  refine EE_R_readOf pt28_ok ?_
  simp only [s_aload_0_ref, s_bipush, s_get0, s_goto, s_ic_eq, s_ic_ge, s_ic_ne, s_iconst, s_idiv, s_if_le, s_if_ne, s_iinc_4, s_iinc_5, s_iload_1_int, s_iload_2_int, s_iload_3_int, s_iload_4_int, s_iload_5_int, s_imul, s_ireturn, s_istore_3_int, s_istore_4_int, s_istore_5_int, s_iv_1, s_iv_2, s_mmax, s_mmin, J_R_readOf_0, b_R_readOf_0, J_R_readOf_19, b_R_readOf_19, J_R_readOf_21, b_R_readOf_21, J_R_readOf_38, b_R_readOf_38, J_R_readOf_69, b_R_readOf_69, J_R_readOf_75, b_R_readOf_75, J_R_readOf_111, b_R_readOf_111, J_R_readOf_120, b_R_readOf_120, J_R_readOf_127, b_R_readOf_127, J_R_readOf_52, b_R_readOf_52, J_R_readOf_81, b_R_readOf_81, s_end, true_and, and_true, or_true, true_or, if_true, if_false, ite_true, ite_false, List.map_nil, List.map_cons, List.sum_nil, List.sum_cons, List.nil_append, List.cons_append, Option.toList_some, Option.toList_none, Nat.reduceAdd, Nat.reduceLeDiff, Nat.reduceSub, Nat.zero_le, List.headD_cons, List.tail_cons, List.length_cons, List.length_nil, ne_eq, reduceCtorEq, false_or, or_false, not_false_eq_true, Nat.reduceEqDiff, Nat.reduceLT, am_sw, bI_0, bI_z, bI_y, Classical.not_not, Nat.le_add_left, am_u_row2, am_r_row2, am_u_same, am_u_at, am_r_same, Int32.reduceLT, Int32.reduceLE, Int32.reduceAdd, Int32.reduceSub, Int32.reduceMul, forall_const, not_true_eq_false, implies_true, false_imp_iff, true_imp_iff, i_10, i_01, i_m10, i_m11, eq_self, or_self, false_and, and_false, and_self, am_so_some, am_pv_some, am_pv_none, l_cl_none, l_cl_int, l_cl_ref, l_cl_ra, l_cl_null, l_cl_long, cat_int, cat_ref, cat_long, cat_ra, cat_null, cl_0, cl_1, cl_2, cl_3, cl_4, cl_5, cl_6, cl_7, cl_8, cl_9, cl_10, cl_11, cl_12, cl_13, cl_14, cl_15, cl_16, cl_30, cl_64, cl_500, vl_0_2, vl_0_3, vl_0_4, vl_0_6, vl_0_7, vl_0_12, vl_0_16, vl_0_1400, vl_1_2, vl_1_3, vl_1_4, vl_1_6, vl_1_7, vl_1_12, vl_1_16, vl_1_1400, vl_2_3, vl_2_4, vl_2_6, vl_2_7, vl_2_12, vl_2_16, vl_2_1400, vl_3_4, vl_3_6, vl_3_7, vl_3_12, vl_3_16, vl_3_1400, vl_4_6, vl_4_7, vl_4_12, vl_4_16, vl_4_1400, vl_5_6, vl_5_7, vl_5_12, vl_5_16, vl_5_1400, vl_6_7, vl_6_12, vl_6_16, vl_6_1400, vl_7_12, vl_7_16, vl_8_12, vl_8_16, vl_9_12, vl_9_16, vl_10_12, vl_10_16, vl_11_12, vl_11_16, i_64le_e, i64a_0, i64b_0, i64a_1, i64b_1, i64a_2, i64b_2, i64a_3, i64b_3, i64a_4, i64b_4, i64a_5, i64b_5, i64a_7, i64b_7, i64a_8, i64b_8, i64a_9, i64b_9, i64a_10, i64b_10, i64a_16, i64b_16, i64a_50, i64b_50, i64a_m50, i64b_m50, i64a_60, i64b_60, i64a_99, i64b_99, i64a_100, i64b_100, i64a_500, i64b_500, i64a_600, i64b_600, i64a_1000, i64b_1000, i64a_1000000, i64b_1000000, i64a_m9, i64b_m9, e_s_70, e_i_70, e_l_70, e_p_70_0, e_p_70_1, e_p_70_2, e_p_70_3, e_p_70_4, e_p_70_5, e_p_70_6, e_p_70_7, e_p_70_10, e_p_70_11, e_p_70_12, e_p_70_13, e_p_70_14, e_p_70_15, e_p_70_16, e_p_70_24, e_p_70_29, e_p_70_30, e_p_70_31, e_p_70_32, e_p_70_33, e_p_70_34, e_p_70_35, e_p_70_36, e_p_70_37, e_p_70_38, e_p_70_39, e_p_70_41, e_p_70_42, e_p_70_44, e_p_70_45, e_p_70_46, e_p_70_53, e_p_70_54, e_p_70_55, e_p_70_56, e_p_70_59, e_p_70_61, e_p_70_62, pt28_R_trialsOf, hE]
  refine am_cal_no rfl (c_R_lengthOf hE hR hI hb ht ?_)
  simp only [s_aload_0_ref, s_bipush, s_get0, s_goto, s_ic_eq, s_ic_ge, s_ic_ne, s_iconst, s_idiv, s_if_le, s_if_ne, s_iinc_4, s_iinc_5, s_iload_1_int, s_iload_2_int, s_iload_3_int, s_iload_4_int, s_iload_5_int, s_imul, s_ireturn, s_istore_3_int, s_istore_4_int, s_istore_5_int, s_iv_1, s_iv_2, s_mmax, s_mmin, J_R_readOf_0, b_R_readOf_0, J_R_readOf_19, b_R_readOf_19, J_R_readOf_21, b_R_readOf_21, J_R_readOf_38, b_R_readOf_38, J_R_readOf_69, b_R_readOf_69, J_R_readOf_75, b_R_readOf_75, J_R_readOf_111, b_R_readOf_111, J_R_readOf_120, b_R_readOf_120, J_R_readOf_127, b_R_readOf_127, J_R_readOf_52, b_R_readOf_52, J_R_readOf_81, b_R_readOf_81, s_end, true_and, and_true, or_true, true_or, if_true, if_false, ite_true, ite_false, List.map_nil, List.map_cons, List.sum_nil, List.sum_cons, List.nil_append, List.cons_append, Option.toList_some, Option.toList_none, Nat.reduceAdd, Nat.reduceLeDiff, Nat.reduceSub, Nat.zero_le, List.headD_cons, List.tail_cons, List.length_cons, List.length_nil, ne_eq, reduceCtorEq, false_or, or_false, not_false_eq_true, Nat.reduceEqDiff, Nat.reduceLT, am_sw, bI_0, bI_z, bI_y, Classical.not_not, Nat.le_add_left, am_u_row2, am_r_row2, am_u_same, am_u_at, am_r_same, Int32.reduceLT, Int32.reduceLE, Int32.reduceAdd, Int32.reduceSub, Int32.reduceMul, forall_const, not_true_eq_false, implies_true, false_imp_iff, true_imp_iff, i_10, i_01, i_m10, i_m11, eq_self, or_self, false_and, and_false, and_self, am_so_some, am_pv_some, am_pv_none, l_cl_none, l_cl_int, l_cl_ref, l_cl_ra, l_cl_null, l_cl_long, cat_int, cat_ref, cat_long, cat_ra, cat_null, cl_0, cl_1, cl_2, cl_3, cl_4, cl_5, cl_6, cl_7, cl_8, cl_9, cl_10, cl_11, cl_12, cl_13, cl_14, cl_15, cl_16, cl_30, cl_64, cl_500, vl_0_2, vl_0_3, vl_0_4, vl_0_6, vl_0_7, vl_0_12, vl_0_16, vl_0_1400, vl_1_2, vl_1_3, vl_1_4, vl_1_6, vl_1_7, vl_1_12, vl_1_16, vl_1_1400, vl_2_3, vl_2_4, vl_2_6, vl_2_7, vl_2_12, vl_2_16, vl_2_1400, vl_3_4, vl_3_6, vl_3_7, vl_3_12, vl_3_16, vl_3_1400, vl_4_6, vl_4_7, vl_4_12, vl_4_16, vl_4_1400, vl_5_6, vl_5_7, vl_5_12, vl_5_16, vl_5_1400, vl_6_7, vl_6_12, vl_6_16, vl_6_1400, vl_7_12, vl_7_16, vl_8_12, vl_8_16, vl_9_12, vl_9_16, vl_10_12, vl_10_16, vl_11_12, vl_11_16, i_64le_e, i64a_0, i64b_0, i64a_1, i64b_1, i64a_2, i64b_2, i64a_3, i64b_3, i64a_4, i64b_4, i64a_5, i64b_5, i64a_7, i64b_7, i64a_8, i64b_8, i64a_9, i64b_9, i64a_10, i64b_10, i64a_16, i64b_16, i64a_50, i64b_50, i64a_m50, i64b_m50, i64a_60, i64b_60, i64a_99, i64b_99, i64a_100, i64b_100, i64a_500, i64b_500, i64a_600, i64b_600, i64a_1000, i64b_1000, i64a_1000000, i64b_1000000, i64a_m9, i64b_m9, e_s_70, e_i_70, e_l_70, e_p_70_0, e_p_70_1, e_p_70_2, e_p_70_3, e_p_70_4, e_p_70_5, e_p_70_6, e_p_70_7, e_p_70_10, e_p_70_11, e_p_70_12, e_p_70_13, e_p_70_14, e_p_70_15, e_p_70_16, e_p_70_24, e_p_70_29, e_p_70_30, e_p_70_31, e_p_70_32, e_p_70_33, e_p_70_34, e_p_70_35, e_p_70_36, e_p_70_37, e_p_70_38, e_p_70_39, e_p_70_41, e_p_70_42, e_p_70_44, e_p_70_45, e_p_70_46, e_p_70_53, e_p_70_54, e_p_70_55, e_p_70_56, e_p_70_59, e_p_70_61, e_p_70_62, pt28_R_trialsOf, hR.f22, hR.f23, hE]
  unfold rdI at k
  refine ⟨fun h => ?_, fun h => ?_⟩
  · rw [if_pos h] at k; rw [h]; exact k
  · rw [if_neg h] at k
    obtain ⟨n, hn, q⟩ : ∃ n, n ≤ 600 ∧ lenI V b t = nI n := by
      rcases lenI_in hI b t with q | q
      · exact absurd q h
      · exact q
    refine ⟨fun h0 => ⟨fun h1 => ⟨fun h2 => ?_, fun h2 => ?_⟩, fun h1 => ?_⟩, fun h0 => ?_⟩
    · have h3 : V 70 22 = 3 := by
        rcases hI.rd4 with r | r | r | r
        · exact absurd r h0
        · exact absurd r h1
        · exact absurd r h2
        · exact r
      rw [if_neg h1, if_neg h2, if_pos h3] at k
      have loop : ∀ i, i ≤ tN V b → am_WP X (d + 3) 185 81 [some (.ref 70), some (.int (nI b)), some (.int (nI t)), some (.int (lenI V b t)), some (.int (lonI V b i)), some (.int (nI i))] [] S (M) (L) 0 0 K := by
        refine am_ind ?_
        intro i hi ih
        refine H_R_readOf_81 pt28_ok ?_
        simp only [s_aload_0_ref, s_bipush, s_get0, s_goto, s_ic_eq, s_ic_ge, s_ic_ne, s_iconst, s_idiv, s_if_le, s_if_ne, s_iinc_4, s_iinc_5, s_iload_1_int, s_iload_2_int, s_iload_3_int, s_iload_4_int, s_iload_5_int, s_imul, s_ireturn, s_istore_3_int, s_istore_4_int, s_istore_5_int, s_iv_1, s_iv_2, s_mmax, s_mmin, J_R_readOf_0, b_R_readOf_0, J_R_readOf_19, b_R_readOf_19, J_R_readOf_21, b_R_readOf_21, J_R_readOf_38, b_R_readOf_38, J_R_readOf_69, b_R_readOf_69, J_R_readOf_75, b_R_readOf_75, J_R_readOf_111, b_R_readOf_111, J_R_readOf_120, b_R_readOf_120, J_R_readOf_127, b_R_readOf_127, J_R_readOf_52, b_R_readOf_52, J_R_readOf_81, b_R_readOf_81, s_end, true_and, and_true, or_true, true_or, if_true, if_false, ite_true, ite_false, List.map_nil, List.map_cons, List.sum_nil, List.sum_cons, List.nil_append, List.cons_append, Option.toList_some, Option.toList_none, Nat.reduceAdd, Nat.reduceLeDiff, Nat.reduceSub, Nat.zero_le, List.headD_cons, List.tail_cons, List.length_cons, List.length_nil, ne_eq, reduceCtorEq, false_or, or_false, not_false_eq_true, Nat.reduceEqDiff, Nat.reduceLT, am_sw, bI_0, bI_z, bI_y, Classical.not_not, Nat.le_add_left, am_u_row2, am_r_row2, am_u_same, am_u_at, am_r_same, Int32.reduceLT, Int32.reduceLE, Int32.reduceAdd, Int32.reduceSub, Int32.reduceMul, forall_const, not_true_eq_false, implies_true, false_imp_iff, true_imp_iff, i_10, i_01, i_m10, i_m11, eq_self, or_self, false_and, and_false, and_self, am_so_some, am_pv_some, am_pv_none, l_cl_none, l_cl_int, l_cl_ref, l_cl_ra, l_cl_null, l_cl_long, cat_int, cat_ref, cat_long, cat_ra, cat_null, cl_0, cl_1, cl_2, cl_3, cl_4, cl_5, cl_6, cl_7, cl_8, cl_9, cl_10, cl_11, cl_12, cl_13, cl_14, cl_15, cl_16, cl_30, cl_64, cl_500, vl_0_2, vl_0_3, vl_0_4, vl_0_6, vl_0_7, vl_0_12, vl_0_16, vl_0_1400, vl_1_2, vl_1_3, vl_1_4, vl_1_6, vl_1_7, vl_1_12, vl_1_16, vl_1_1400, vl_2_3, vl_2_4, vl_2_6, vl_2_7, vl_2_12, vl_2_16, vl_2_1400, vl_3_4, vl_3_6, vl_3_7, vl_3_12, vl_3_16, vl_3_1400, vl_4_6, vl_4_7, vl_4_12, vl_4_16, vl_4_1400, vl_5_6, vl_5_7, vl_5_12, vl_5_16, vl_5_1400, vl_6_7, vl_6_12, vl_6_16, vl_6_1400, vl_7_12, vl_7_16, vl_8_12, vl_8_16, vl_9_12, vl_9_16, vl_10_12, vl_10_16, vl_11_12, vl_11_16, i_64le_e, i64a_0, i64b_0, i64a_1, i64b_1, i64a_2, i64b_2, i64a_3, i64b_3, i64a_4, i64b_4, i64a_5, i64b_5, i64a_7, i64b_7, i64a_8, i64b_8, i64a_9, i64b_9, i64a_10, i64b_10, i64a_16, i64b_16, i64a_50, i64b_50, i64a_m50, i64b_m50, i64a_60, i64b_60, i64a_99, i64b_99, i64a_100, i64b_100, i64a_500, i64b_500, i64a_600, i64b_600, i64a_1000, i64b_1000, i64a_1000000, i64b_1000000, i64a_m9, i64b_m9, e_s_70, e_i_70, e_l_70, e_p_70_0, e_p_70_1, e_p_70_2, e_p_70_3, e_p_70_4, e_p_70_5, e_p_70_6, e_p_70_7, e_p_70_10, e_p_70_11, e_p_70_12, e_p_70_13, e_p_70_14, e_p_70_15, e_p_70_16, e_p_70_24, e_p_70_29, e_p_70_30, e_p_70_31, e_p_70_32, e_p_70_33, e_p_70_34, e_p_70_35, e_p_70_36, e_p_70_37, e_p_70_38, e_p_70_39, e_p_70_41, e_p_70_42, e_p_70_44, e_p_70_45, e_p_70_46, e_p_70_53, e_p_70_54, e_p_70_55, e_p_70_56, e_p_70_59, e_p_70_61, e_p_70_62, pt28_R_trialsOf, hR.r77, hR.r79, hE]
        by_cases c0 : i < tN V b
        · simp (disch := omega) only [p1, p3, Nat.not_le.mpr, c0, nI_clamp, nI_le', nI_lt', nI_eq', rem2_1, rem2_0, nI_eq0, nI_le0, nI_0lt, nI_0le, nI_lt0, nI_m1, vp_inE, nm_nI, i_20, nI_1, nI_add, and_true, true_and, and_self, or_true, true_or, or_false, false_or, false_and, and_false, not_true_eq_false, not_false_eq_true, if_true, if_false, ite_true, ite_false, false_imp_iff, true_imp_iff, rsn_00, rsn_10, rsn_01, rsn_11, n_09, n_19, n_29, n_99, implies_true, bI_t, bI_f, or_self, ne_eq, eq_self, Classical.not_not, Bool.false_eq_true]
          refine am_cal_no rfl (c_R_lengthOf hE hR hI hb c0 ?_)
          simp only [s_aload_0_ref, s_bipush, s_get0, s_goto, s_ic_eq, s_ic_ge, s_ic_ne, s_iconst, s_idiv, s_if_le, s_if_ne, s_iinc_4, s_iinc_5, s_iload_1_int, s_iload_2_int, s_iload_3_int, s_iload_4_int, s_iload_5_int, s_imul, s_ireturn, s_istore_3_int, s_istore_4_int, s_istore_5_int, s_iv_1, s_iv_2, s_mmax, s_mmin, J_R_readOf_0, b_R_readOf_0, J_R_readOf_19, b_R_readOf_19, J_R_readOf_21, b_R_readOf_21, J_R_readOf_38, b_R_readOf_38, J_R_readOf_69, b_R_readOf_69, J_R_readOf_75, b_R_readOf_75, J_R_readOf_111, b_R_readOf_111, J_R_readOf_120, b_R_readOf_120, J_R_readOf_127, b_R_readOf_127, J_R_readOf_52, b_R_readOf_52, J_R_readOf_81, b_R_readOf_81, s_end, true_and, and_true, or_true, true_or, if_true, if_false, ite_true, ite_false, List.map_nil, List.map_cons, List.sum_nil, List.sum_cons, List.nil_append, List.cons_append, Option.toList_some, Option.toList_none, Nat.reduceAdd, Nat.reduceLeDiff, Nat.reduceSub, Nat.zero_le, List.headD_cons, List.tail_cons, List.length_cons, List.length_nil, ne_eq, reduceCtorEq, false_or, or_false, not_false_eq_true, Nat.reduceEqDiff, Nat.reduceLT, am_sw, bI_0, bI_z, bI_y, Classical.not_not, Nat.le_add_left, am_u_row2, am_r_row2, am_u_same, am_u_at, am_r_same, Int32.reduceLT, Int32.reduceLE, Int32.reduceAdd, Int32.reduceSub, Int32.reduceMul, forall_const, not_true_eq_false, implies_true, false_imp_iff, true_imp_iff, i_10, i_01, i_m10, i_m11, eq_self, or_self, false_and, and_false, and_self, am_so_some, am_pv_some, am_pv_none, l_cl_none, l_cl_int, l_cl_ref, l_cl_ra, l_cl_null, l_cl_long, cat_int, cat_ref, cat_long, cat_ra, cat_null, cl_0, cl_1, cl_2, cl_3, cl_4, cl_5, cl_6, cl_7, cl_8, cl_9, cl_10, cl_11, cl_12, cl_13, cl_14, cl_15, cl_16, cl_30, cl_64, cl_500, vl_0_2, vl_0_3, vl_0_4, vl_0_6, vl_0_7, vl_0_12, vl_0_16, vl_0_1400, vl_1_2, vl_1_3, vl_1_4, vl_1_6, vl_1_7, vl_1_12, vl_1_16, vl_1_1400, vl_2_3, vl_2_4, vl_2_6, vl_2_7, vl_2_12, vl_2_16, vl_2_1400, vl_3_4, vl_3_6, vl_3_7, vl_3_12, vl_3_16, vl_3_1400, vl_4_6, vl_4_7, vl_4_12, vl_4_16, vl_4_1400, vl_5_6, vl_5_7, vl_5_12, vl_5_16, vl_5_1400, vl_6_7, vl_6_12, vl_6_16, vl_6_1400, vl_7_12, vl_7_16, vl_8_12, vl_8_16, vl_9_12, vl_9_16, vl_10_12, vl_10_16, vl_11_12, vl_11_16, i_64le_e, i64a_0, i64b_0, i64a_1, i64b_1, i64a_2, i64b_2, i64a_3, i64b_3, i64a_4, i64b_4, i64a_5, i64b_5, i64a_7, i64b_7, i64a_8, i64b_8, i64a_9, i64b_9, i64a_10, i64b_10, i64a_16, i64b_16, i64a_50, i64b_50, i64a_m50, i64b_m50, i64a_60, i64b_60, i64a_99, i64b_99, i64a_100, i64b_100, i64a_500, i64b_500, i64a_600, i64b_600, i64a_1000, i64b_1000, i64a_1000000, i64b_1000000, i64a_m9, i64b_m9, e_s_70, e_i_70, e_l_70, e_p_70_0, e_p_70_1, e_p_70_2, e_p_70_3, e_p_70_4, e_p_70_5, e_p_70_6, e_p_70_7, e_p_70_10, e_p_70_11, e_p_70_12, e_p_70_13, e_p_70_14, e_p_70_15, e_p_70_16, e_p_70_24, e_p_70_29, e_p_70_30, e_p_70_31, e_p_70_32, e_p_70_33, e_p_70_34, e_p_70_35, e_p_70_36, e_p_70_37, e_p_70_38, e_p_70_39, e_p_70_41, e_p_70_42, e_p_70_44, e_p_70_45, e_p_70_46, e_p_70_53, e_p_70_54, e_p_70_55, e_p_70_56, e_p_70_59, e_p_70_61, e_p_70_62, pt28_R_trialsOf, hE]
          simp (disch := omega) only [nI_clamp, nI_le', nI_lt', nI_eq', rem2_1, rem2_0, nI_eq0, nI_le0, nI_0lt, nI_0le, nI_lt0, nI_m1, vp_inE, nm_nI, i_20, nI_1, nI_add, and_true, true_and, and_self, or_true, true_or, or_false, false_or, false_and, and_false, not_true_eq_false, not_false_eq_true, if_true, if_false, ite_true, ite_false, false_imp_iff, true_imp_iff, rsn_00, rsn_10, rsn_01, rsn_11, n_09, n_19, n_29, n_99, implies_true, bI_t, bI_f, or_self, ne_eq, eq_self, Classical.not_not, Bool.false_eq_true]
          have e := lonI_max hI b i
          unfold mxI at e
          rw [e]
          exact ih c0
        · have e : i = tN V b := by omega
          subst e
          simp (disch := omega) only [p1, p3, Nat.le_refl, nI_clamp, nI_le', nI_lt', nI_eq', rem2_1, rem2_0, nI_eq0, nI_le0, nI_0lt, nI_0le, nI_lt0, nI_m1, vp_inE, nm_nI, i_20, nI_1, nI_add, and_true, true_and, and_self, or_true, true_or, or_false, false_or, false_and, and_false, not_true_eq_false, not_false_eq_true, if_true, if_false, ite_true, ite_false, false_imp_iff, true_imp_iff, rsn_00, rsn_10, rsn_01, rsn_11, n_09, n_19, n_29, n_99, implies_true, bI_t, bI_f, or_self, ne_eq, eq_self, Classical.not_not, Bool.false_eq_true]
          refine ⟨fun h4 => ⟨h4, ?_⟩, fun h4 => ?_⟩
          · rw [if_neg h4] at k; exact k
          · rw [if_pos h4] at k; exact k
      exact loop 0 (by omega)
    · rw [if_neg h1, if_pos h2, q, nm_nI (by omega)] at k
      rw [q]
      have loop : ∀ m x c, x ≤ m → x ≤ 600 → c + dg x = dg n → c ≤ 600 - x → am_WP X (d + 3) 185 52 [some (.ref 70), some (.int (nI b)), some (.int (nI t)), some (.int (nI n)), some (.int (nI c)), some (.int (nI x))] [] S (M) (L) 0 0 K := by
        intro m
        induction m with
        | zero =>
          intro x c h1 h2 h3 h4
          have e : x = 0 := by omega
          subst e
          refine H_R_readOf_52 pt28_ok ?_
          simp only [s_aload_0_ref, s_bipush, s_get0, s_goto, s_ic_eq, s_ic_ge, s_ic_ne, s_iconst, s_idiv, s_if_le, s_if_ne, s_iinc_4, s_iinc_5, s_iload_1_int, s_iload_2_int, s_iload_3_int, s_iload_4_int, s_iload_5_int, s_imul, s_ireturn, s_istore_3_int, s_istore_4_int, s_istore_5_int, s_iv_1, s_iv_2, s_mmax, s_mmin, J_R_readOf_0, b_R_readOf_0, J_R_readOf_19, b_R_readOf_19, J_R_readOf_21, b_R_readOf_21, J_R_readOf_38, b_R_readOf_38, J_R_readOf_69, b_R_readOf_69, J_R_readOf_75, b_R_readOf_75, J_R_readOf_111, b_R_readOf_111, J_R_readOf_120, b_R_readOf_120, J_R_readOf_127, b_R_readOf_127, J_R_readOf_52, b_R_readOf_52, J_R_readOf_81, b_R_readOf_81, s_end, true_and, and_true, or_true, true_or, if_true, if_false, ite_true, ite_false, List.map_nil, List.map_cons, List.sum_nil, List.sum_cons, List.nil_append, List.cons_append, Option.toList_some, Option.toList_none, Nat.reduceAdd, Nat.reduceLeDiff, Nat.reduceSub, Nat.zero_le, List.headD_cons, List.tail_cons, List.length_cons, List.length_nil, ne_eq, reduceCtorEq, false_or, or_false, not_false_eq_true, Nat.reduceEqDiff, Nat.reduceLT, am_sw, bI_0, bI_z, bI_y, Classical.not_not, Nat.le_add_left, am_u_row2, am_r_row2, am_u_same, am_u_at, am_r_same, Int32.reduceLT, Int32.reduceLE, Int32.reduceAdd, Int32.reduceSub, Int32.reduceMul, forall_const, not_true_eq_false, implies_true, false_imp_iff, true_imp_iff, i_10, i_01, i_m10, i_m11, eq_self, or_self, false_and, and_false, and_self, am_so_some, am_pv_some, am_pv_none, l_cl_none, l_cl_int, l_cl_ref, l_cl_ra, l_cl_null, l_cl_long, cat_int, cat_ref, cat_long, cat_ra, cat_null, cl_0, cl_1, cl_2, cl_3, cl_4, cl_5, cl_6, cl_7, cl_8, cl_9, cl_10, cl_11, cl_12, cl_13, cl_14, cl_15, cl_16, cl_30, cl_64, cl_500, vl_0_2, vl_0_3, vl_0_4, vl_0_6, vl_0_7, vl_0_12, vl_0_16, vl_0_1400, vl_1_2, vl_1_3, vl_1_4, vl_1_6, vl_1_7, vl_1_12, vl_1_16, vl_1_1400, vl_2_3, vl_2_4, vl_2_6, vl_2_7, vl_2_12, vl_2_16, vl_2_1400, vl_3_4, vl_3_6, vl_3_7, vl_3_12, vl_3_16, vl_3_1400, vl_4_6, vl_4_7, vl_4_12, vl_4_16, vl_4_1400, vl_5_6, vl_5_7, vl_5_12, vl_5_16, vl_5_1400, vl_6_7, vl_6_12, vl_6_16, vl_6_1400, vl_7_12, vl_7_16, vl_8_12, vl_8_16, vl_9_12, vl_9_16, vl_10_12, vl_10_16, vl_11_12, vl_11_16, i_64le_e, i64a_0, i64b_0, i64a_1, i64b_1, i64a_2, i64b_2, i64a_3, i64b_3, i64a_4, i64b_4, i64a_5, i64b_5, i64a_7, i64b_7, i64a_8, i64b_8, i64a_9, i64b_9, i64a_10, i64b_10, i64a_16, i64b_16, i64a_50, i64b_50, i64a_m50, i64b_m50, i64a_60, i64b_60, i64a_99, i64b_99, i64a_100, i64b_100, i64a_500, i64b_500, i64a_600, i64b_600, i64a_1000, i64b_1000, i64a_1000000, i64b_1000000, i64a_m9, i64b_m9, e_s_70, e_i_70, e_l_70, e_p_70_0, e_p_70_1, e_p_70_2, e_p_70_3, e_p_70_4, e_p_70_5, e_p_70_6, e_p_70_7, e_p_70_10, e_p_70_11, e_p_70_12, e_p_70_13, e_p_70_14, e_p_70_15, e_p_70_16, e_p_70_24, e_p_70_29, e_p_70_30, e_p_70_31, e_p_70_32, e_p_70_33, e_p_70_34, e_p_70_35, e_p_70_36, e_p_70_37, e_p_70_38, e_p_70_39, e_p_70_41, e_p_70_42, e_p_70_44, e_p_70_45, e_p_70_46, e_p_70_53, e_p_70_54, e_p_70_55, e_p_70_56, e_p_70_59, e_p_70_61, e_p_70_62, pt28_R_trialsOf, hE]
          simp (disch := omega) only [nI_clamp, nI_le', nI_lt', nI_eq', rem2_1, rem2_0, nI_eq0, nI_le0, nI_0lt, nI_0le, nI_lt0, nI_m1, vp_inE, nm_nI, i_20, nI_1, nI_add, and_true, true_and, and_self, or_true, true_or, or_false, false_or, false_and, and_false, not_true_eq_false, not_false_eq_true, if_true, if_false, ite_true, ite_false, false_imp_iff, true_imp_iff, rsn_00, rsn_10, rsn_01, rsn_11, n_09, n_19, n_29, n_99, implies_true, bI_t, bI_f, or_self, ne_eq, eq_self, Classical.not_not, Bool.false_eq_true]
          rw [dg_0, Nat.add_zero] at h3
          rw [h3]
          exact k
        | succ m ih =>
          intro x c h1 h2 h3 h4
          refine H_R_readOf_52 pt28_ok ?_
          simp only [s_aload_0_ref, s_bipush, s_get0, s_goto, s_ic_eq, s_ic_ge, s_ic_ne, s_iconst, s_idiv, s_if_le, s_if_ne, s_iinc_4, s_iinc_5, s_iload_1_int, s_iload_2_int, s_iload_3_int, s_iload_4_int, s_iload_5_int, s_imul, s_ireturn, s_istore_3_int, s_istore_4_int, s_istore_5_int, s_iv_1, s_iv_2, s_mmax, s_mmin, J_R_readOf_0, b_R_readOf_0, J_R_readOf_19, b_R_readOf_19, J_R_readOf_21, b_R_readOf_21, J_R_readOf_38, b_R_readOf_38, J_R_readOf_69, b_R_readOf_69, J_R_readOf_75, b_R_readOf_75, J_R_readOf_111, b_R_readOf_111, J_R_readOf_120, b_R_readOf_120, J_R_readOf_127, b_R_readOf_127, J_R_readOf_52, b_R_readOf_52, J_R_readOf_81, b_R_readOf_81, s_end, true_and, and_true, or_true, true_or, if_true, if_false, ite_true, ite_false, List.map_nil, List.map_cons, List.sum_nil, List.sum_cons, List.nil_append, List.cons_append, Option.toList_some, Option.toList_none, Nat.reduceAdd, Nat.reduceLeDiff, Nat.reduceSub, Nat.zero_le, List.headD_cons, List.tail_cons, List.length_cons, List.length_nil, ne_eq, reduceCtorEq, false_or, or_false, not_false_eq_true, Nat.reduceEqDiff, Nat.reduceLT, am_sw, bI_0, bI_z, bI_y, Classical.not_not, Nat.le_add_left, am_u_row2, am_r_row2, am_u_same, am_u_at, am_r_same, Int32.reduceLT, Int32.reduceLE, Int32.reduceAdd, Int32.reduceSub, Int32.reduceMul, forall_const, not_true_eq_false, implies_true, false_imp_iff, true_imp_iff, i_10, i_01, i_m10, i_m11, eq_self, or_self, false_and, and_false, and_self, am_so_some, am_pv_some, am_pv_none, l_cl_none, l_cl_int, l_cl_ref, l_cl_ra, l_cl_null, l_cl_long, cat_int, cat_ref, cat_long, cat_ra, cat_null, cl_0, cl_1, cl_2, cl_3, cl_4, cl_5, cl_6, cl_7, cl_8, cl_9, cl_10, cl_11, cl_12, cl_13, cl_14, cl_15, cl_16, cl_30, cl_64, cl_500, vl_0_2, vl_0_3, vl_0_4, vl_0_6, vl_0_7, vl_0_12, vl_0_16, vl_0_1400, vl_1_2, vl_1_3, vl_1_4, vl_1_6, vl_1_7, vl_1_12, vl_1_16, vl_1_1400, vl_2_3, vl_2_4, vl_2_6, vl_2_7, vl_2_12, vl_2_16, vl_2_1400, vl_3_4, vl_3_6, vl_3_7, vl_3_12, vl_3_16, vl_3_1400, vl_4_6, vl_4_7, vl_4_12, vl_4_16, vl_4_1400, vl_5_6, vl_5_7, vl_5_12, vl_5_16, vl_5_1400, vl_6_7, vl_6_12, vl_6_16, vl_6_1400, vl_7_12, vl_7_16, vl_8_12, vl_8_16, vl_9_12, vl_9_16, vl_10_12, vl_10_16, vl_11_12, vl_11_16, i_64le_e, i64a_0, i64b_0, i64a_1, i64b_1, i64a_2, i64b_2, i64a_3, i64b_3, i64a_4, i64b_4, i64a_5, i64b_5, i64a_7, i64b_7, i64a_8, i64b_8, i64a_9, i64b_9, i64a_10, i64b_10, i64a_16, i64b_16, i64a_50, i64b_50, i64a_m50, i64b_m50, i64a_60, i64b_60, i64a_99, i64b_99, i64a_100, i64b_100, i64a_500, i64b_500, i64a_600, i64b_600, i64a_1000, i64b_1000, i64a_1000000, i64b_1000000, i64a_m9, i64b_m9, e_s_70, e_i_70, e_l_70, e_p_70_0, e_p_70_1, e_p_70_2, e_p_70_3, e_p_70_4, e_p_70_5, e_p_70_6, e_p_70_7, e_p_70_10, e_p_70_11, e_p_70_12, e_p_70_13, e_p_70_14, e_p_70_15, e_p_70_16, e_p_70_24, e_p_70_29, e_p_70_30, e_p_70_31, e_p_70_32, e_p_70_33, e_p_70_34, e_p_70_35, e_p_70_36, e_p_70_37, e_p_70_38, e_p_70_39, e_p_70_41, e_p_70_42, e_p_70_44, e_p_70_45, e_p_70_46, e_p_70_53, e_p_70_54, e_p_70_55, e_p_70_56, e_p_70_59, e_p_70_61, e_p_70_62, pt28_R_trialsOf, hE]
          have e2 : nI x / 2 = nI (x / 2) := by
            rw [show (2 : Int32) = nI 2 from rfl, nI_div (by omega) (by omega)]
          simp (disch := omega) only [e2, nI_clamp, nI_le', nI_lt', nI_eq', rem2_1, rem2_0, nI_eq0, nI_le0, nI_0lt, nI_0le, nI_lt0, nI_m1, vp_inE, nm_nI, i_20, nI_1, nI_add, and_true, true_and, and_self, or_true, true_or, or_false, false_or, false_and, and_false, not_true_eq_false, not_false_eq_true, if_true, if_false, ite_true, ite_false, false_imp_iff, true_imp_iff, rsn_00, rsn_10, rsn_01, rsn_11, n_09, n_19, n_29, n_99, implies_true, bI_t, bI_f, or_self, ne_eq, eq_self, Classical.not_not, Bool.false_eq_true]
          refine ⟨fun h => ?_, fun h => ?_⟩
          · subst h
            rw [dg_0, Nat.add_zero] at h3
            rw [h3]; exact k
          · rw [dg_s h h2] at h3
            exact ih (x / 2) (c + 1) (by omega) (by omega) (by omega) (by omega)
      exact loop n n 0 (by omega) hn (by omega) (by omega)
    · rw [if_pos h1] at k; exact k
    · rw [h0] at k; exact k
end T22
