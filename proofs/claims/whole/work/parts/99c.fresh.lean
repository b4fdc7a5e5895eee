/-- a memory's shape written as a list: what was made and hung up, newest first -/
def lkS : List (Nat × Nat × Nat) → Nat → Nat × Nat
  | [], _ => (0, 0)
  | w :: r, a => if a = w.1 then w.2 else lkS r a
/-- pointers: (cell, none) a new cell, (cell, some (place, target)) hung up -/
def lkP : List (Nat × Option (Nat × Nat)) → Nat → Nat → Option Nat
  | [] => fun _ _ => none
  | (k, none) :: r => am_r (lkP r) k (fun _ => none)
  | (k, some (j, x)) :: r => am_u (lkP r) k j (some x)
def cS (k : Nat) (sh : List (Nat × Nat × Nat)) (p : List (Nat × Option (Nat × Nat))) : am_S := (k, lkS sh, lkP p)
section T99c
variable {X : am_X} {d : Nat} {K : am_K} {S : am_S} {M : am_M} {L : am_L} {k t z q j x : Nat} {sh : List (Nat × Nat × Nat)} {p : List (Nat × Option (Nat × Nat))}
theorem cS_0 : am_S0 = cS 0 [] [] := rfl
theorem cS_n : am_nS (cS k sh p) t z = cS (k + 1) ((k, t, z) :: sh) ((k, none) :: p) := rfl
theorem cS_m : am_nM (cS k sh p) M = am_r M k (fun _ => 0) := rfl
theorem cS_l : am_nL (cS k sh p) L = am_r L k (fun _ => 0) := rfl
theorem cS_p : ((k, lkS sh, am_u (lkP p) q j (some x)) : am_S) = cS k sh ((q, some (j, x)) :: p) := rfl
theorem cS_p' : (((cS k sh p).1, (cS k sh p).2.1, am_u (cS k sh p).2.2 q j (some x)) : am_S) = cS k sh ((q, some (j, x)) :: p) := rfl
theorem cS_1 : (cS k sh p).1 = k := rfl
theorem cS_2 : (cS k sh p).2.1 = lkS sh := rfl
theorem cS_3 : (cS k sh p).2.2 = lkP p := rfl
theorem cS_is {a b : Nat} : am_is (cS k sh p) q a b = (q < k ∧ lkS sh q = (a, b)) := rfl
theorem cS_ia {a : Nat} : am_ia (cS k sh p) q a = (q < k ∧ (lkS sh q).1 = a) := rfl
theorem lkS_c {w : Nat × Nat × Nat} : lkS (w :: sh) q = if q = w.1 then w.2 else lkS sh q := rfl
theorem lkP_n : lkP ((k, none) :: p) q j = if q = k then none else lkP p q j := by
  show am_r (lkP p) k (fun _ => none) q j = _
  by_cases h : q = k
  · rw [if_pos h, h, am_r_same]
  · rw [if_neg h, am_r_ne h]
theorem lkP_s {i : Nat} : lkP ((k, some (i, x)) :: p) q j = if q = k ∧ j = i then some x else lkP p q j := by
  show am_u (lkP p) k i (some x) q j = _
  by_cases h : q = k ∧ j = i
  · rw [if_pos h, h.1, h.2, am_u_same]
  · rw [if_neg h, am_u_ne h]
theorem c_Text_init (k : ∀ M' L' sh' p', K none (cS 7 sh' p') M' L') : am_Call X (d + 1) m_Text_init [.ref 2] (cS 3 ((2, 0, 10) :: sh) p) M L K := by
  refine EE_Text_init pt38_ok ?_
  simp only [s_aload_0_ref, s_newa, s_obj, s_put2, s_put2n, s_return, s_sipush, J_Text_init_0, b_Text_init_0, s_end, true_and, and_true, or_true, true_or, if_true, if_false, ite_true, ite_false, List.map_nil, List.map_cons, List.sum_nil, List.sum_cons, List.nil_append, List.cons_append, Option.toList_some, Option.toList_none, Nat.reduceAdd, Nat.reduceLeDiff, Nat.reduceSub, Nat.zero_le, List.headD_cons, List.tail_cons, List.length_cons, List.length_nil, ne_eq, reduceCtorEq, false_or, or_false, not_false_eq_true, Nat.reduceEqDiff, Nat.reduceLT, am_sw, bI_0, bI_z, bI_y, Classical.not_not, Nat.le_add_left, am_u_row2, am_r_row2, am_u_same, am_u_at, am_r_same, Int32.reduceLT, Int32.reduceLE, Int32.reduceAdd, Int32.reduceSub, Int32.reduceMul, forall_const, not_true_eq_false, implies_true, false_imp_iff, true_imp_iff, i_10, i_01, i_m10, i_m11, eq_self, or_self, false_and, and_false, and_self, am_so_some, am_pv_some, am_pv_none, l_cl_none, l_cl_int, l_cl_ref, l_cl_ra, l_cl_null, l_cl_long, cat_int, cat_ref, cat_long, cat_ra, cat_null, cl_0, cl_1, cl_2, cl_3, cl_4, cl_5, cl_6, cl_7, cl_8, cl_9, cl_10, cl_11, cl_12, cl_13, cl_14, cl_15, cl_16, cl_30, cl_64, cl_500, vl_0_2, vl_0_3, vl_0_4, vl_0_6, vl_0_7, vl_0_12, vl_0_16, vl_0_1400, vl_1_2, vl_1_3, vl_1_4, vl_1_6, vl_1_7, vl_1_12, vl_1_16, vl_1_1400, vl_2_3, vl_2_4, vl_2_6, vl_2_7, vl_2_12, vl_2_16, vl_2_1400, vl_3_4, vl_3_6, vl_3_7, vl_3_12, vl_3_16, vl_3_1400, vl_4_6, vl_4_7, vl_4_12, vl_4_16, vl_4_1400, vl_5_6, vl_5_7, vl_5_12, vl_5_16, vl_5_1400, vl_6_7, vl_6_12, vl_6_16, vl_6_1400, vl_7_12, vl_7_16, vl_8_12, vl_8_16, vl_9_12, vl_9_16, vl_10_12, vl_10_16, vl_11_12, vl_11_16, i_64le_e, i64a_0, i64b_0, i64a_1, i64b_1, i64a_2, i64b_2, i64a_3, i64b_3, i64a_4, i64b_4, i64a_5, i64b_5, i64a_7, i64b_7, i64a_8, i64b_8, i64a_9, i64b_9, i64a_10, i64b_10, i64a_16, i64b_16, i64a_50, i64b_50, i64a_m50, i64b_m50, i64a_60, i64b_60, i64a_99, i64b_99, i64a_100, i64b_100, i64a_500, i64b_500, i64a_600, i64b_600, i64a_1000, i64b_1000, i64a_1000000, i64b_1000000, i64a_m9, i64b_m9, e_s_2, e_i_2, e_l_2, e_p_2_0, e_p_2_1, e_p_2_2, e_p_2_3, cS_n, cS_m, cS_l, cS_p, cS_p', cS_1, cS_2, cS_3, cS_is, cS_ia, lkS_c, lkP_n, lkP_s]
  trace_state
  sorry
end T99c
