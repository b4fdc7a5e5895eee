section T82
variable {X : am_X} {d : Nat} {K : am_K} {S : am_S} {M : am_M} {L : am_L} {V : am_M}
theorem fR_app {p : List Nat} {s j : Nat} (h : j < p.length) : fR (p ++ [s]) j = fR p j := by
  unfold fR
  rw [getD_app, if_pos h]
theorem fR_new {p : List Nat} {s : Nat} : fR (p ++ [s]) p.length = nI s := by
  unfold fR
  rw [getD_app, if_neg (by omega), if_pos rfl]
theorem qok.up {q : fSt} {a b : Nat} (h : qok q a) (hab : a ≤ b) : qok q b := fun c r e => ⟨(h c r e).1, Nat.le_trans (h c r e).2 hab⟩
theorem dfS_ok {a : Int32} (h6 : nL V ≤ 6) : ∀ n p q, qok q (p.length + n) → qok (dfS V a n p q) (p.length + n) := by
  intro n
  induction n with
  | zero => intro p q hq; exact rate_ok h6 hq
  | succ n ih =>
    intro p q hq
    have key : ∀ i, qok (lpS (fun s q => if p.contains s = true then q else dfS V a n (p ++ [s]) q) i q) (p.length + (n + 1)) := by
      intro i
      induction i with
      | zero => exact hq
      | succ i ih2 =>
        show qok (if p.contains i = true then _ else _) _
        by_cases c : p.contains i = true
        · rw [if_pos c]; exact ih2
        · rw [if_neg c]
          have e : (p ++ [i]).length + n = p.length + (n + 1) := by rw [List.length_append, List.length_singleton]; omega
          have z := ih (p ++ [i]) _ (by rw [e]; exact ih2)
          rw [e] at z
          exact z
    exact key (nS V)
theorem lpS_ok {a : Int32} (h6 : nL V ≤ 6) {n : Nat} {p : List Nat} {q : fSt} (hq : qok q (p.length + (n + 1))) : ∀ i, qok (lpS (fun s q => if p.contains s = true then q else dfS V a n (p ++ [s]) q) i q) (p.length + (n + 1)) := by
  intro i
  induction i with
  | zero => exact hq
  | succ i ih2 =>
    show qok (if p.contains i = true then _ else _) _
    by_cases c : p.contains i = true
    · rw [if_pos c]; exact ih2
    · rw [if_neg c]
      have e : (p ++ [i]).length + n = p.length + (n + 1) := by rw [List.length_append, List.length_singleton]; omega
      have z := dfS_ok (V := V) (a := a) h6 n (p ++ [i]) _ (by rw [e]; exact ih2)
      rw [e] at z
      exact z
theorem BsR.of {q : fSt} {M M' : am_M} (h : BsR q M) (e1 : M' 70 58 = M 70 58) (e2 : M' 70 57 = M 70 57) (e3 : M' 112 = M 112) : BsR q M' := by
  cases q with
  | none => exact e1.trans h
  | some y => exact ⟨e1.trans h.1, e2.trans h.2.1, fun j hj => by rw [e3]; exact h.2.2 j hj⟩
theorem c_R_rowsFrom (hE : am_env S) (hI : IV V) (hP : IVp V) {a : Int32} (ha : a ≠ -2147483648) (z : Nat) (hz : z ≤ 4) : ∀ (n : Nat) (X : am_X) (d : Nat) (K : am_K) (M : am_M) (L : am_L) (p : List Nat) (q : fSt), RS V M → p.length + n = z → (∀ s ∈ p, s < nS V) → (∀ j, j < p.length → M 104 j = fR p j) → qok q z → BsR q M → (∀ M', Fr csF fsF M M' → (∀ j, j < p.length → M' 104 j = fR p j) → BsR (dfS V a n p q) M' → K none S M' L) → am_Call X (d + n + 7) m_R_rowsFrom [.ref 70, .int (nI p.length), .int (nI z), .int (nI (orL p)), .int a] S M L K := by
  have n12 := hI.ns.2
  intro n
  induction n with
  | zero =>
    intro X d K M L p q hR hpz hps hf hq hB k
    have e : p.length = z := by omega
    have e' : (p.length = z) = True := eq_true e
    refine EE_R_rowsFrom pt38_ok ?_
    simp only [s_aload_0_ref, s_get0, s_get2, s_goto, s_iadd, s_iand, s_iast, s_ic_ge, s_ic_ne, s_iconst, s_iinc_5, s_iload_1_int, s_iload_2_int, s_iload_3_int, s_iload_4_int, s_iload_5_int, s_ior, s_ishl, s_ishr, s_istore_5_int, s_iv_1, s_iv_4, s_put0, s_return, J_R_rowsFrom_0, b_R_rowsFrom_0, J_R_rowsFrom_17, b_R_rowsFrom_17, J_R_rowsFrom_42, b_R_rowsFrom_42, J_R_rowsFrom_66, b_R_rowsFrom_66, J_R_rowsFrom_72, b_R_rowsFrom_72, J_R_rowsFrom_20, b_R_rowsFrom_20, s_end, true_and, and_true, or_true, true_or, if_true, if_false, ite_true, ite_false, List.map_nil, List.map_cons, List.sum_nil, List.sum_cons, List.nil_append, List.cons_append, Option.toList_some, Option.toList_none, Nat.reduceAdd, Nat.reduceLeDiff, Nat.reduceSub, Nat.zero_le, List.headD_cons, List.tail_cons, List.length_cons, List.length_nil, ne_eq, reduceCtorEq, false_or, or_false, not_false_eq_true, Nat.reduceEqDiff, Nat.reduceLT, am_sw, bI_0, bI_z, bI_y, Classical.not_not, Nat.le_add_left, am_u_row2, am_r_row2, am_u_same, am_u_at, am_r_same, Int32.reduceLT, Int32.reduceLE, Int32.reduceAdd, Int32.reduceSub, Int32.reduceMul, forall_const, not_true_eq_false, implies_true, false_imp_iff, true_imp_iff, i_10, i_01, i_m10, i_m11, eq_self, or_self, false_and, and_false, and_self, am_so_some, am_pv_some, am_pv_none, l_cl_none, l_cl_int, l_cl_ref, l_cl_ra, l_cl_null, l_cl_long, cat_int, cat_ref, cat_long, cat_ra, cat_null, cl_0, cl_1, cl_2, cl_3, cl_4, cl_5, cl_6, cl_7, cl_8, cl_9, cl_10, cl_11, cl_12, cl_13, cl_14, cl_15, cl_16, cl_30, cl_64, cl_500, vl_0_2, vl_0_3, vl_0_4, vl_0_6, vl_0_7, vl_0_12, vl_0_16, vl_0_1400, vl_1_2, vl_1_3, vl_1_4, vl_1_6, vl_1_7, vl_1_12, vl_1_16, vl_1_1400, vl_2_3, vl_2_4, vl_2_6, vl_2_7, vl_2_12, vl_2_16, vl_2_1400, vl_3_4, vl_3_6, vl_3_7, vl_3_12, vl_3_16, vl_3_1400, vl_4_6, vl_4_7, vl_4_12, vl_4_16, vl_4_1400, vl_5_6, vl_5_7, vl_5_12, vl_5_16, vl_5_1400, vl_6_7, vl_6_12, vl_6_16, vl_6_1400, vl_7_12, vl_7_16, vl_8_12, vl_8_16, vl_9_12, vl_9_16, vl_10_12, vl_10_16, vl_11_12, vl_11_16, i_64le_e, i64a_0, i64b_0, i64a_1, i64b_1, i64a_2, i64b_2, i64a_3, i64b_3, i64a_4, i64b_4, i64a_5, i64b_5, i64a_7, i64b_7, i64a_8, i64b_8, i64a_9, i64b_9, i64a_10, i64b_10, i64a_16, i64b_16, i64a_50, i64b_50, i64a_m50, i64b_m50, i64a_60, i64b_60, i64a_99, i64b_99, i64a_100, i64b_100, i64a_500, i64b_500, i64a_600, i64b_600, i64a_1000, i64b_1000, i64a_1000000, i64b_1000000, i64a_m9, i64b_m9, e_s_70, e_i_70, e_l_70, e_p_70_0, e_p_70_1, e_p_70_2, e_p_70_3, e_p_70_4, e_p_70_5, e_p_70_6, e_p_70_7, e_p_70_10, e_p_70_11, e_p_70_12, e_p_70_13, e_p_70_14, e_p_70_15, e_p_70_16, e_p_70_24, e_p_70_29, e_p_70_30, e_p_70_31, e_p_70_32, e_p_70_33, e_p_70_34, e_p_70_35, e_p_70_36, e_p_70_37, e_p_70_38, e_p_70_39, e_p_70_41, e_p_70_42, e_p_70_44, e_p_70_45, e_p_70_46, e_p_70_53, e_p_70_54, e_p_70_55, e_p_70_56, e_p_70_59, e_p_70_61, e_p_70_62, e_s_104, e_i_104, e_l_104, hE]
    simp (disch := omega) only [e', nI_clamp, nI_le', nI_lt', nI_eq', rem2_1, rem2_0, nI_eq0, nI_le0, nI_0lt, nI_0le, nI_lt0, nI_m1, vp_inE, nm_nI, i_20, nI_1, nI_add, and_true, true_and, and_self, or_true, true_or, or_false, false_or, false_and, and_false, not_true_eq_false, not_false_eq_true, if_true, if_false, ite_true, ite_false, false_imp_iff, true_imp_iff, rsn_00, rsn_10, rsn_01, rsn_11, n_09, n_19, n_29, n_99, implies_true, bI_t, bI_f, or_self, ne_eq, eq_self, Classical.not_not, Bool.false_eq_true]
    have f1 : Fr csF fsF M (am_u M 70 43 (nI z)) := Fr.refl.uf (by decide)
    refine am_cal_no rfl (c_R_rates (p := p) (q := q) hE (hR.fr (f1.mono (by decide) (by decide))) hI hP ha (by rw [am_u_same, e]) (by omega) (fun j hj => by rw [u_row (by decide)]; exact hf j hj) ?_ (by rw [e]; exact hq) ?_ ?_)
    · intro j hj
      have m : p.getD j 0 ∈ p := by rw [List.getD_eq_getElem?_getD, List.getElem?_eq_getElem hj]; exact List.getElem_mem hj
      have l := hps _ m
      unfold fR
      rw [nm_nI (by omega)]
      exact ⟨rfl, l⟩
    · exact hB.of (am_u_ne (by decide)) (am_u_ne (by decide)) (u_row (by decide))
    · intro M2 g2 b2
      simp only [s_aload_0_ref, s_get0, s_get2, s_goto, s_iadd, s_iand, s_iast, s_ic_ge, s_ic_ne, s_iconst, s_iinc_5, s_iload_1_int, s_iload_2_int, s_iload_3_int, s_iload_4_int, s_iload_5_int, s_ior, s_ishl, s_ishr, s_istore_5_int, s_iv_1, s_iv_4, s_put0, s_return, J_R_rowsFrom_0, b_R_rowsFrom_0, J_R_rowsFrom_17, b_R_rowsFrom_17, J_R_rowsFrom_42, b_R_rowsFrom_42, J_R_rowsFrom_66, b_R_rowsFrom_66, J_R_rowsFrom_72, b_R_rowsFrom_72, J_R_rowsFrom_20, b_R_rowsFrom_20, s_end, true_and, and_true, or_true, true_or, if_true, if_false, ite_true, ite_false, List.map_nil, List.map_cons, List.sum_nil, List.sum_cons, List.nil_append, List.cons_append, Option.toList_some, Option.toList_none, Nat.reduceAdd, Nat.reduceLeDiff, Nat.reduceSub, Nat.zero_le, List.headD_cons, List.tail_cons, List.length_cons, List.length_nil, ne_eq, reduceCtorEq, false_or, or_false, not_false_eq_true, Nat.reduceEqDiff, Nat.reduceLT, am_sw, bI_0, bI_z, bI_y, Classical.not_not, Nat.le_add_left, am_u_row2, am_r_row2, am_u_same, am_u_at, am_r_same, Int32.reduceLT, Int32.reduceLE, Int32.reduceAdd, Int32.reduceSub, Int32.reduceMul, forall_const, not_true_eq_false, implies_true, false_imp_iff, true_imp_iff, i_10, i_01, i_m10, i_m11, eq_self, or_self, false_and, and_false, and_self, am_so_some, am_pv_some, am_pv_none, l_cl_none, l_cl_int, l_cl_ref, l_cl_ra, l_cl_null, l_cl_long, cat_int, cat_ref, cat_long, cat_ra, cat_null, cl_0, cl_1, cl_2, cl_3, cl_4, cl_5, cl_6, cl_7, cl_8, cl_9, cl_10, cl_11, cl_12, cl_13, cl_14, cl_15, cl_16, cl_30, cl_64, cl_500, vl_0_2, vl_0_3, vl_0_4, vl_0_6, vl_0_7, vl_0_12, vl_0_16, vl_0_1400, vl_1_2, vl_1_3, vl_1_4, vl_1_6, vl_1_7, vl_1_12, vl_1_16, vl_1_1400, vl_2_3, vl_2_4, vl_2_6, vl_2_7, vl_2_12, vl_2_16, vl_2_1400, vl_3_4, vl_3_6, vl_3_7, vl_3_12, vl_3_16, vl_3_1400, vl_4_6, vl_4_7, vl_4_12, vl_4_16, vl_4_1400, vl_5_6, vl_5_7, vl_5_12, vl_5_16, vl_5_1400, vl_6_7, vl_6_12, vl_6_16, vl_6_1400, vl_7_12, vl_7_16, vl_8_12, vl_8_16, vl_9_12, vl_9_16, vl_10_12, vl_10_16, vl_11_12, vl_11_16, i_64le_e, i64a_0, i64b_0, i64a_1, i64b_1, i64a_2, i64b_2, i64a_3, i64b_3, i64a_4, i64b_4, i64a_5, i64b_5, i64a_7, i64b_7, i64a_8, i64b_8, i64a_9, i64b_9, i64a_10, i64b_10, i64a_16, i64b_16, i64a_50, i64b_50, i64a_m50, i64b_m50, i64a_60, i64b_60, i64a_99, i64b_99, i64a_100, i64b_100, i64a_500, i64b_500, i64a_600, i64b_600, i64a_1000, i64b_1000, i64a_1000000, i64b_1000000, i64a_m9, i64b_m9, e_s_70, e_i_70, e_l_70, e_p_70_0, e_p_70_1, e_p_70_2, e_p_70_3, e_p_70_4, e_p_70_5, e_p_70_6, e_p_70_7, e_p_70_10, e_p_70_11, e_p_70_12, e_p_70_13, e_p_70_14, e_p_70_15, e_p_70_16, e_p_70_24, e_p_70_29, e_p_70_30, e_p_70_31, e_p_70_32, e_p_70_33, e_p_70_34, e_p_70_35, e_p_70_36, e_p_70_37, e_p_70_38, e_p_70_39, e_p_70_41, e_p_70_42, e_p_70_44, e_p_70_45, e_p_70_46, e_p_70_53, e_p_70_54, e_p_70_55, e_p_70_56, e_p_70_59, e_p_70_61, e_p_70_62, e_s_104, e_i_104, e_l_104, hE]
      refine k M2 (f1.trans (g2.mono (by decide) (by decide))) (fun j hj => ?_) b2
      rw [g2 104 j (by decide) (by simp), u_row (by decide)]; exact hf j hj
  | succ n ih =>
    intro X d K M L p q hR hpz hps hf hq hB k
    have e : ¬ p.length = z := by omega
    have e8 : M 70 8 = nI (nS V) := hR.f8.trans hI.ns.1
    have ol := orL_lt p 0 (by decide) (fun b hb => by have := hps b hb; omega)
    have ol : orL p < 65536 := ol
    refine EE_R_rowsFrom pt38_ok ?_
    simp only [s_aload_0_ref, s_get0, s_get2, s_goto, s_iadd, s_iand, s_iast, s_ic_ge, s_ic_ne, s_iconst, s_iinc_5, s_iload_1_int, s_iload_2_int, s_iload_3_int, s_iload_4_int, s_iload_5_int, s_ior, s_ishl, s_ishr, s_istore_5_int, s_iv_1, s_iv_4, s_put0, s_return, J_R_rowsFrom_0, b_R_rowsFrom_0, J_R_rowsFrom_17, b_R_rowsFrom_17, J_R_rowsFrom_42, b_R_rowsFrom_42, J_R_rowsFrom_66, b_R_rowsFrom_66, J_R_rowsFrom_72, b_R_rowsFrom_72, J_R_rowsFrom_20, b_R_rowsFrom_20, s_end, true_and, and_true, or_true, true_or, if_true, if_false, ite_true, ite_false, List.map_nil, List.map_cons, List.sum_nil, List.sum_cons, List.nil_append, List.cons_append, Option.toList_some, Option.toList_none, Nat.reduceAdd, Nat.reduceLeDiff, Nat.reduceSub, Nat.zero_le, List.headD_cons, List.tail_cons, List.length_cons, List.length_nil, ne_eq, reduceCtorEq, false_or, or_false, not_false_eq_true, Nat.reduceEqDiff, Nat.reduceLT, am_sw, bI_0, bI_z, bI_y, Classical.not_not, Nat.le_add_left, am_u_row2, am_r_row2, am_u_same, am_u_at, am_r_same, Int32.reduceLT, Int32.reduceLE, Int32.reduceAdd, Int32.reduceSub, Int32.reduceMul, forall_const, not_true_eq_false, implies_true, false_imp_iff, true_imp_iff, i_10, i_01, i_m10, i_m11, eq_self, or_self, false_and, and_false, and_self, am_so_some, am_pv_some, am_pv_none, l_cl_none, l_cl_int, l_cl_ref, l_cl_ra, l_cl_null, l_cl_long, cat_int, cat_ref, cat_long, cat_ra, cat_null, cl_0, cl_1, cl_2, cl_3, cl_4, cl_5, cl_6, cl_7, cl_8, cl_9, cl_10, cl_11, cl_12, cl_13, cl_14, cl_15, cl_16, cl_30, cl_64, cl_500, vl_0_2, vl_0_3, vl_0_4, vl_0_6, vl_0_7, vl_0_12, vl_0_16, vl_0_1400, vl_1_2, vl_1_3, vl_1_4, vl_1_6, vl_1_7, vl_1_12, vl_1_16, vl_1_1400, vl_2_3, vl_2_4, vl_2_6, vl_2_7, vl_2_12, vl_2_16, vl_2_1400, vl_3_4, vl_3_6, vl_3_7, vl_3_12, vl_3_16, vl_3_1400, vl_4_6, vl_4_7, vl_4_12, vl_4_16, vl_4_1400, vl_5_6, vl_5_7, vl_5_12, vl_5_16, vl_5_1400, vl_6_7, vl_6_12, vl_6_16, vl_6_1400, vl_7_12, vl_7_16, vl_8_12, vl_8_16, vl_9_12, vl_9_16, vl_10_12, vl_10_16, vl_11_12, vl_11_16, i_64le_e, i64a_0, i64b_0, i64a_1, i64b_1, i64a_2, i64b_2, i64a_3, i64b_3, i64a_4, i64b_4, i64a_5, i64b_5, i64a_7, i64b_7, i64a_8, i64b_8, i64a_9, i64b_9, i64a_10, i64b_10, i64a_16, i64b_16, i64a_50, i64b_50, i64a_m50, i64b_m50, i64a_60, i64b_60, i64a_99, i64b_99, i64a_100, i64b_100, i64a_500, i64b_500, i64a_600, i64b_600, i64a_1000, i64b_1000, i64a_1000000, i64b_1000000, i64a_m9, i64b_m9, e_s_70, e_i_70, e_l_70, e_p_70_0, e_p_70_1, e_p_70_2, e_p_70_3, e_p_70_4, e_p_70_5, e_p_70_6, e_p_70_7, e_p_70_10, e_p_70_11, e_p_70_12, e_p_70_13, e_p_70_14, e_p_70_15, e_p_70_16, e_p_70_24, e_p_70_29, e_p_70_30, e_p_70_31, e_p_70_32, e_p_70_33, e_p_70_34, e_p_70_35, e_p_70_36, e_p_70_37, e_p_70_38, e_p_70_39, e_p_70_41, e_p_70_42, e_p_70_44, e_p_70_45, e_p_70_46, e_p_70_53, e_p_70_54, e_p_70_55, e_p_70_56, e_p_70_59, e_p_70_61, e_p_70_62, e_s_104, e_i_104, e_l_104, hE]
    simp (disch := omega) only [e, nI_clamp, nI_le', nI_lt', nI_eq', rem2_1, rem2_0, nI_eq0, nI_le0, nI_0lt, nI_0le, nI_lt0, nI_m1, vp_inE, nm_nI, i_20, nI_1, nI_add, and_true, true_and, and_self, or_true, true_or, or_false, false_or, false_and, and_false, not_true_eq_false, not_false_eq_true, if_true, if_false, ite_true, ite_false, false_imp_iff, true_imp_iff, rsn_00, rsn_10, rsn_01, rsn_11, n_09, n_19, n_29, n_99, implies_true, bI_t, bI_f, or_self, ne_eq, eq_self, Classical.not_not, Bool.false_eq_true]
    have loop : ∀ i, i ≤ nS V → ∀ M', Fr csF fsF M M' → (∀ j, j < p.length → M' 104 j = fR p j) → BsR (lpS (fun s q => if p.contains s = true then q else dfS V a n (p ++ [s]) q) i q) M' → am_WP X (d + (n + 1) + 7) 235 20 [some (.ref 70), some (.int (nI p.length)), some (.int (nI z)), some (.int (nI (orL p))), some (.int a), some (.int (nI i))] [] S M' L 0 0 K := by
      refine am_ind ?_
      intro i hi ih2 M' f h104 hb
      have a8 : M' 70 8 = nI (nS V) := (f 70 8 (by decide) (by decide)).trans e8
      refine H_R_rowsFrom_20 pt38_ok ?_
      simp only [s_aload_0_ref, s_get0, s_get2, s_goto, s_iadd, s_iand, s_iast, s_ic_ge, s_ic_ne, s_iconst, s_iinc_5, s_iload_1_int, s_iload_2_int, s_iload_3_int, s_iload_4_int, s_iload_5_int, s_ior, s_ishl, s_ishr, s_istore_5_int, s_iv_1, s_iv_4, s_put0, s_return, J_R_rowsFrom_0, b_R_rowsFrom_0, J_R_rowsFrom_17, b_R_rowsFrom_17, J_R_rowsFrom_42, b_R_rowsFrom_42, J_R_rowsFrom_66, b_R_rowsFrom_66, J_R_rowsFrom_72, b_R_rowsFrom_72, J_R_rowsFrom_20, b_R_rowsFrom_20, s_end, true_and, and_true, or_true, true_or, if_true, if_false, ite_true, ite_false, List.map_nil, List.map_cons, List.sum_nil, List.sum_cons, List.nil_append, List.cons_append, Option.toList_some, Option.toList_none, Nat.reduceAdd, Nat.reduceLeDiff, Nat.reduceSub, Nat.zero_le, List.headD_cons, List.tail_cons, List.length_cons, List.length_nil, ne_eq, reduceCtorEq, false_or, or_false, not_false_eq_true, Nat.reduceEqDiff, Nat.reduceLT, am_sw, bI_0, bI_z, bI_y, Classical.not_not, Nat.le_add_left, am_u_row2, am_r_row2, am_u_same, am_u_at, am_r_same, Int32.reduceLT, Int32.reduceLE, Int32.reduceAdd, Int32.reduceSub, Int32.reduceMul, forall_const, not_true_eq_false, implies_true, false_imp_iff, true_imp_iff, i_10, i_01, i_m10, i_m11, eq_self, or_self, false_and, and_false, and_self, am_so_some, am_pv_some, am_pv_none, l_cl_none, l_cl_int, l_cl_ref, l_cl_ra, l_cl_null, l_cl_long, cat_int, cat_ref, cat_long, cat_ra, cat_null, cl_0, cl_1, cl_2, cl_3, cl_4, cl_5, cl_6, cl_7, cl_8, cl_9, cl_10, cl_11, cl_12, cl_13, cl_14, cl_15, cl_16, cl_30, cl_64, cl_500, vl_0_2, vl_0_3, vl_0_4, vl_0_6, vl_0_7, vl_0_12, vl_0_16, vl_0_1400, vl_1_2, vl_1_3, vl_1_4, vl_1_6, vl_1_7, vl_1_12, vl_1_16, vl_1_1400, vl_2_3, vl_2_4, vl_2_6, vl_2_7, vl_2_12, vl_2_16, vl_2_1400, vl_3_4, vl_3_6, vl_3_7, vl_3_12, vl_3_16, vl_3_1400, vl_4_6, vl_4_7, vl_4_12, vl_4_16, vl_4_1400, vl_5_6, vl_5_7, vl_5_12, vl_5_16, vl_5_1400, vl_6_7, vl_6_12, vl_6_16, vl_6_1400, vl_7_12, vl_7_16, vl_8_12, vl_8_16, vl_9_12, vl_9_16, vl_10_12, vl_10_16, vl_11_12, vl_11_16, i_64le_e, i64a_0, i64b_0, i64a_1, i64b_1, i64a_2, i64b_2, i64a_3, i64b_3, i64a_4, i64b_4, i64a_5, i64b_5, i64a_7, i64b_7, i64a_8, i64b_8, i64a_9, i64b_9, i64a_10, i64b_10, i64a_16, i64b_16, i64a_50, i64b_50, i64a_m50, i64b_m50, i64a_60, i64b_60, i64a_99, i64b_99, i64a_100, i64b_100, i64a_500, i64b_500, i64a_600, i64b_600, i64a_1000, i64b_1000, i64a_1000000, i64b_1000000, i64a_m9, i64b_m9, e_s_70, e_i_70, e_l_70, e_p_70_0, e_p_70_1, e_p_70_2, e_p_70_3, e_p_70_4, e_p_70_5, e_p_70_6, e_p_70_7, e_p_70_10, e_p_70_11, e_p_70_12, e_p_70_13, e_p_70_14, e_p_70_15, e_p_70_16, e_p_70_24, e_p_70_29, e_p_70_30, e_p_70_31, e_p_70_32, e_p_70_33, e_p_70_34, e_p_70_35, e_p_70_36, e_p_70_37, e_p_70_38, e_p_70_39, e_p_70_41, e_p_70_42, e_p_70_44, e_p_70_45, e_p_70_46, e_p_70_53, e_p_70_54, e_p_70_55, e_p_70_56, e_p_70_59, e_p_70_61, e_p_70_62, e_s_104, e_i_104, e_l_104, a8, hE]
      by_cases c0 : i < nS V
      · have sh : (nI (orL p) >>> (nI i &&& 31)) &&& 1 = nI (orL p / 2 ^ i % 2) := by
          rw [nI_shr (by omega) (by omega), show (1 : Int32) = nI 1 from rfl, nI_and, Nat.and_one_is_mod]
        have e1 : (nI (orL p / 2 ^ i % 2) = 1) = (orL p / 2 ^ i % 2 = 1) := nI_eq' (b := 1) (by omega) (by omega)
        have e2 : (1 : Int32) <<< (nI i &&& 31) = nI (2 ^ i) := (nI_shl (a := 1) (by omega)).trans (by rw [Nat.one_mul])
        have ih2 := ih2 c0
        have eL : lpS (fun s q => if p.contains s = true then q else dfS V a n (p ++ [s]) q) (i + 1) q = if p.contains i = true then lpS (fun s q => if p.contains s = true then q else dfS V a n (p ++ [s]) q) i q else dfS V a n (p ++ [i]) (lpS (fun s q => if p.contains s = true then q else dfS V a n (p ++ [s]) q) i q) := rfl
        rw [eL] at ih2
        rw [sh]
        simp only [e1, orL_bit]
        simp (disch := omega) only [Nat.not_le.mpr, c0, e2, nI_or, nI_clamp, nI_le', nI_lt', nI_eq', rem2_1, rem2_0, nI_eq0, nI_le0, nI_0lt, nI_0le, nI_lt0, nI_m1, vp_inE, nm_nI, i_20, nI_1, nI_add, and_true, true_and, and_self, or_true, true_or, or_false, false_or, false_and, and_false, not_true_eq_false, not_false_eq_true, if_true, if_false, ite_true, ite_false, false_imp_iff, true_imp_iff, rsn_00, rsn_10, rsn_01, rsn_11, n_09, n_19, n_29, n_99, implies_true, bI_t, bI_f, or_self, ne_eq, eq_self, Classical.not_not, Bool.false_eq_true]
        refine ⟨fun y => ?_, fun y => ?_⟩
        · rw [if_neg y] at ih2
          have l1 : (p ++ [i]).length = p.length + 1 := by rw [List.length_append, List.length_singleton]
          rw [← orL_snoc, ← l1]
          have f1 : Fr csF fsF M (am_u M' 104 p.length (nI i)) := f.u (by decide)
          refine am_cal_no rfl (ih X d _ _ L (p ++ [i]) (lpS (fun s q => if p.contains s = true then q else dfS V a n (p ++ [s]) q) i q) (hR.fr (f1.mono (by decide) (by decide))) (by rw [l1]; omega) ?_ ?_ ?_ ?_ ?_)
          · intro s hs
            rcases List.mem_append.mp hs with h | h
            · exact hps s h
            · rw [List.mem_singleton.mp h]; exact c0
          · intro j hj
            rw [l1] at hj
            by_cases e3 : j = p.length
            · rw [e3, am_u_same, fR_new]
            · rw [am_u_ne (fun w => e3 w.2), fR_app (by omega)]; exact h104 j (by omega)
          · have := lpS_ok (V := V) (a := a) hP.nl.2 (n := n) (p := p) (q := q) (by rw [hpz]; exact hq) i
            rw [hpz] at this; exact this
          · exact hb.of (by rw [u_row (by decide)]) (by rw [u_row (by decide)]) (u_row (by decide))
          · intro M2 g2 h2 b2
            simp only [s_aload_0_ref, s_get0, s_get2, s_goto, s_iadd, s_iand, s_iast, s_ic_ge, s_ic_ne, s_iconst, s_iinc_5, s_iload_1_int, s_iload_2_int, s_iload_3_int, s_iload_4_int, s_iload_5_int, s_ior, s_ishl, s_ishr, s_istore_5_int, s_iv_1, s_iv_4, s_put0, s_return, J_R_rowsFrom_0, b_R_rowsFrom_0, J_R_rowsFrom_17, b_R_rowsFrom_17, J_R_rowsFrom_42, b_R_rowsFrom_42, J_R_rowsFrom_66, b_R_rowsFrom_66, J_R_rowsFrom_72, b_R_rowsFrom_72, J_R_rowsFrom_20, b_R_rowsFrom_20, s_end, true_and, and_true, or_true, true_or, if_true, if_false, ite_true, ite_false, List.map_nil, List.map_cons, List.sum_nil, List.sum_cons, List.nil_append, List.cons_append, Option.toList_some, Option.toList_none, Nat.reduceAdd, Nat.reduceLeDiff, Nat.reduceSub, Nat.zero_le, List.headD_cons, List.tail_cons, List.length_cons, List.length_nil, ne_eq, reduceCtorEq, false_or, or_false, not_false_eq_true, Nat.reduceEqDiff, Nat.reduceLT, am_sw, bI_0, bI_z, bI_y, Classical.not_not, Nat.le_add_left, am_u_row2, am_r_row2, am_u_same, am_u_at, am_r_same, Int32.reduceLT, Int32.reduceLE, Int32.reduceAdd, Int32.reduceSub, Int32.reduceMul, forall_const, not_true_eq_false, implies_true, false_imp_iff, true_imp_iff, i_10, i_01, i_m10, i_m11, eq_self, or_self, false_and, and_false, and_self, am_so_some, am_pv_some, am_pv_none, l_cl_none, l_cl_int, l_cl_ref, l_cl_ra, l_cl_null, l_cl_long, cat_int, cat_ref, cat_long, cat_ra, cat_null, cl_0, cl_1, cl_2, cl_3, cl_4, cl_5, cl_6, cl_7, cl_8, cl_9, cl_10, cl_11, cl_12, cl_13, cl_14, cl_15, cl_16, cl_30, cl_64, cl_500, vl_0_2, vl_0_3, vl_0_4, vl_0_6, vl_0_7, vl_0_12, vl_0_16, vl_0_1400, vl_1_2, vl_1_3, vl_1_4, vl_1_6, vl_1_7, vl_1_12, vl_1_16, vl_1_1400, vl_2_3, vl_2_4, vl_2_6, vl_2_7, vl_2_12, vl_2_16, vl_2_1400, vl_3_4, vl_3_6, vl_3_7, vl_3_12, vl_3_16, vl_3_1400, vl_4_6, vl_4_7, vl_4_12, vl_4_16, vl_4_1400, vl_5_6, vl_5_7, vl_5_12, vl_5_16, vl_5_1400, vl_6_7, vl_6_12, vl_6_16, vl_6_1400, vl_7_12, vl_7_16, vl_8_12, vl_8_16, vl_9_12, vl_9_16, vl_10_12, vl_10_16, vl_11_12, vl_11_16, i_64le_e, i64a_0, i64b_0, i64a_1, i64b_1, i64a_2, i64b_2, i64a_3, i64b_3, i64a_4, i64b_4, i64a_5, i64b_5, i64a_7, i64b_7, i64a_8, i64b_8, i64a_9, i64b_9, i64a_10, i64b_10, i64a_16, i64b_16, i64a_50, i64b_50, i64a_m50, i64b_m50, i64a_60, i64b_60, i64a_99, i64b_99, i64a_100, i64b_100, i64a_500, i64b_500, i64a_600, i64b_600, i64a_1000, i64b_1000, i64a_1000000, i64b_1000000, i64a_m9, i64b_m9, e_s_70, e_i_70, e_l_70, e_p_70_0, e_p_70_1, e_p_70_2, e_p_70_3, e_p_70_4, e_p_70_5, e_p_70_6, e_p_70_7, e_p_70_10, e_p_70_11, e_p_70_12, e_p_70_13, e_p_70_14, e_p_70_15, e_p_70_16, e_p_70_24, e_p_70_29, e_p_70_30, e_p_70_31, e_p_70_32, e_p_70_33, e_p_70_34, e_p_70_35, e_p_70_36, e_p_70_37, e_p_70_38, e_p_70_39, e_p_70_41, e_p_70_42, e_p_70_44, e_p_70_45, e_p_70_46, e_p_70_53, e_p_70_54, e_p_70_55, e_p_70_56, e_p_70_59, e_p_70_61, e_p_70_62, e_s_104, e_i_104, e_l_104, hE]
            refine ih2 M2 (f1.trans g2) (fun j hj => ?_) b2
            rw [h2 j (by rw [l1]; omega), fR_app hj]
        · rw [if_pos y] at ih2
          exact ih2 M' f h104 hb
      · have e3 : i = nS V := by omega
        subst e3
        simp (disch := omega) only [Nat.le_refl, nI_clamp, nI_le', nI_lt', nI_eq', rem2_1, rem2_0, nI_eq0, nI_le0, nI_0lt, nI_0le, nI_lt0, nI_m1, vp_inE, nm_nI, i_20, nI_1, nI_add, and_true, true_and, and_self, or_true, true_or, or_false, false_or, false_and, and_false, not_true_eq_false, not_false_eq_true, if_true, if_false, ite_true, ite_false, false_imp_iff, true_imp_iff, rsn_00, rsn_10, rsn_01, rsn_11, n_09, n_19, n_29, n_99, implies_true, bI_t, bI_f, or_self, ne_eq, eq_self, Classical.not_not, Bool.false_eq_true]
        exact k M' f h104 hb
    exact loop 0 (by omega) M Fr.refl hf hB
/-- what next answers -/
def nxA (q : fSt) (k : Int32) : Int32 := match q with
  | none => -1
  | some (c, r) => if k = -2 then nI c else if k = -1 then nI r.length else if 0 ≤ k ∧ k < nI r.length then nI (r.getD (nm k) 0) else -1
abbrev nxP (V : am_M) (m a : Int32) : Prop := (2 ≤ m ∧ m ≤ 4) ∧ (8 ≤ a ∧ a ≤ 60) ∧ 2 ≤ nS V
def s_next (V : am_M) (m a k : Int32) : Int32 := if nxP V m a then nxA (nxS V a (nm m - 1)) k else -1
theorem lpS_some {g : Nat → fSt → fSt} (h : ∀ s q, q ≠ none → g s q ≠ none) {q : fSt} : ∀ n, q ≠ none → lpS g n q ≠ none := by
  intro n
  induction n with
  | zero => exact id
  | succ n ih => intro hq; exact h n _ (ih hq)
theorem dfS_some {a : Int32} : ∀ n p q, q ≠ none → dfS V a n p q ≠ none := by
  intro n
  induction n with
  | zero =>
    intro p q hq
    cases q with
    | none => exact absurd rfl hq
    | some y =>
      show (if y.1 < cpR V a p then some (cpR V a p, p) else some (y.1, y.2)) ≠ none
      split <;> simp
  | succ n ih =>
    intro p q hq
    refine lpS_some (fun s q hq => ?_) (nS V) hq
    by_cases c : p.contains s = true
    · rw [if_pos c]; exact hq
    · rw [if_neg c]; exact ih _ _ hq
theorem rate_some {a : Int32} {p : List Nat} {q : fSt} : rateS V a p q ≠ none := by
  unfold rateS
  cases q with
  | none => simp
  | some y =>
    show (if y.1 < cpR V a p then some (cpR V a p, p) else some (y.1, y.2)) ≠ none
    split <;> simp
/-- with two screens there is a row -/
theorem nx_two {a : Int32} (h : 2 ≤ nS V) (q : fSt) : dfS V a 2 [] q ≠ none := by
  obtain ⟨m, hm⟩ : ∃ m, nS V = m + 2 := ⟨nS V - 2, by omega⟩
  have pos : ∀ (g : Nat → fSt → fSt), (∀ s q, q ≠ none → g s q ≠ none) → ∀ j q, g j (lpS g j q) ≠ none → ∀ i, j + 1 ≤ i → lpS g i q ≠ none := by
    intro g hg j q h0 i
    induction i with
    | zero => intro hi; omega
    | succ i ih =>
      intro hi
      show g i (lpS g i q) ≠ none
      by_cases e : i = j
      · rw [e]; exact h0
      · exact hg i _ (ih (by omega))
  show lpS (fun s q => if ([] : List Nat).contains s = true then q else dfS V a 1 ([] ++ [s]) q) (nS V) q ≠ none
  refine pos _ (fun s q hq => ?_) 0 q ?_ (nS V) (by omega)
  · rw [if_neg (by simp)]; exact dfS_some _ _ _ hq
  · rw [if_neg (by simp)]
    show lpS (fun s q => if ([0] : List Nat).contains s = true then q else dfS V a 0 ([0] ++ [s]) q) (nS V) q ≠ none
    refine pos _ (fun s q hq => ?_) 1 q ?_ (nS V) (by omega)
    · by_cases c : ([0] : List Nat).contains s = true
      · rw [if_pos c]; exact hq
      · rw [if_neg c]; exact dfS_some _ _ _ hq
    · rw [if_neg (by simp)]; exact rate_some
theorem nxS_ok {a : Int32} (h6 : nL V ≤ 6) : ∀ m, qok (nxS V a m) (m + 1) := by
  intro m
  induction m with
  | zero => intro c r e; cases e
  | succ m ih =>
    have := dfS_ok (V := V) (a := a) h6 (m + 2) [] (nxS V a m) (by rw [List.length_nil]; exact ih.up (by omega))
    rw [List.length_nil, Nat.zero_add] at this
    exact this
theorem nxS_some {a : Int32} (h : 2 ≤ nS V) : ∀ m, nxS V a (m + 1) ≠ none := by
  intro m
  induction m with
  | zero => exact nx_two h _
  | succ m ih => exact dfS_some _ _ _ ih
theorem c_R_next {m a w : Int32} (hE : am_env S) (hR : RS V M) (hI : IV V) (hP : IVp V) (k : ∀ M', Fr csF fsF M M' → K (some (.int (s_next V m a w))) S M' L) : am_Call X (d + 12) m_R_next_IIII [.ref 70, .int m, .int a, .int w] S M L K := by
  have n12 := hI.ns.2
  have n6 := hP.nl.2
  have e8 : M 70 8 = nI (nS V) := hR.f8.trans hI.ns.1
  have e2 : (2 ≤ nI (nS V)) = (2 ≤ nS V) := nI_le' (a := 2) (by omega) (by omega)
  unfold s_next at k
  refine EE_R_next_IIII pt38_ok ?_
  simp only [s_aload_0_ref, s_bipush, s_get0, s_get2, s_goto, s_i2l, s_iald, s_ic_ge, s_ic_gt, s_ic_ne, s_iconst, s_if_eq, s_iinc_4, s_iload_1_int, s_iload_2_int, s_iload_3_int, s_iload_4_int, s_ireturn, s_ist_3, s_istore_4_int, s_isub, s_iv_4, s_lconst, s_ldc2_w, s_put0, J_R_next_IIII_0, b_R_next_IIII_0, J_R_next_IIII_36, b_R_next_IIII_36, J_R_next_IIII_38, b_R_next_IIII_38, J_R_next_IIII_67, b_R_next_IIII_67, J_R_next_IIII_79, b_R_next_IIII_79, J_R_next_IIII_92, b_R_next_IIII_92, J_R_next_IIII_117, b_R_next_IIII_117, J_R_next_IIII_118, b_R_next_IIII_118, J_R_next_IIII_46, b_R_next_IIII_46, s_end, true_and, and_true, or_true, true_or, if_true, if_false, ite_true, ite_false, List.map_nil, List.map_cons, List.sum_nil, List.sum_cons, List.nil_append, List.cons_append, Option.toList_some, Option.toList_none, Nat.reduceAdd, Nat.reduceLeDiff, Nat.reduceSub, Nat.zero_le, List.headD_cons, List.tail_cons, List.length_cons, List.length_nil, ne_eq, reduceCtorEq, false_or, or_false, not_false_eq_true, Nat.reduceEqDiff, Nat.reduceLT, am_sw, bI_0, bI_z, bI_y, Classical.not_not, Nat.le_add_left, am_u_row2, am_r_row2, am_u_same, am_u_at, am_r_same, Int32.reduceLT, Int32.reduceLE, Int32.reduceAdd, Int32.reduceSub, Int32.reduceMul, forall_const, not_true_eq_false, implies_true, false_imp_iff, true_imp_iff, i_10, i_01, i_m10, i_m11, eq_self, or_self, false_and, and_false, and_self, am_so_some, am_pv_some, am_pv_none, l_cl_none, l_cl_int, l_cl_ref, l_cl_ra, l_cl_null, l_cl_long, cat_int, cat_ref, cat_long, cat_ra, cat_null, cl_0, cl_1, cl_2, cl_3, cl_4, cl_5, cl_6, cl_7, cl_8, cl_9, cl_10, cl_11, cl_12, cl_13, cl_14, cl_15, cl_16, cl_30, cl_64, cl_500, vl_0_2, vl_0_3, vl_0_4, vl_0_6, vl_0_7, vl_0_12, vl_0_16, vl_0_1400, vl_1_2, vl_1_3, vl_1_4, vl_1_6, vl_1_7, vl_1_12, vl_1_16, vl_1_1400, vl_2_3, vl_2_4, vl_2_6, vl_2_7, vl_2_12, vl_2_16, vl_2_1400, vl_3_4, vl_3_6, vl_3_7, vl_3_12, vl_3_16, vl_3_1400, vl_4_6, vl_4_7, vl_4_12, vl_4_16, vl_4_1400, vl_5_6, vl_5_7, vl_5_12, vl_5_16, vl_5_1400, vl_6_7, vl_6_12, vl_6_16, vl_6_1400, vl_7_12, vl_7_16, vl_8_12, vl_8_16, vl_9_12, vl_9_16, vl_10_12, vl_10_16, vl_11_12, vl_11_16, i_64le_e, i64a_0, i64b_0, i64a_1, i64b_1, i64a_2, i64b_2, i64a_3, i64b_3, i64a_4, i64b_4, i64a_5, i64b_5, i64a_7, i64b_7, i64a_8, i64b_8, i64a_9, i64b_9, i64a_10, i64b_10, i64a_16, i64b_16, i64a_50, i64b_50, i64a_m50, i64b_m50, i64a_60, i64b_60, i64a_99, i64b_99, i64a_100, i64b_100, i64a_500, i64b_500, i64a_600, i64b_600, i64a_1000, i64b_1000, i64a_1000000, i64b_1000000, i64a_m9, i64b_m9, e_s_70, e_i_70, e_l_70, e_p_70_0, e_p_70_1, e_p_70_2, e_p_70_3, e_p_70_4, e_p_70_5, e_p_70_6, e_p_70_7, e_p_70_10, e_p_70_11, e_p_70_12, e_p_70_13, e_p_70_14, e_p_70_15, e_p_70_16, e_p_70_24, e_p_70_29, e_p_70_30, e_p_70_31, e_p_70_32, e_p_70_33, e_p_70_34, e_p_70_35, e_p_70_36, e_p_70_37, e_p_70_38, e_p_70_39, e_p_70_41, e_p_70_42, e_p_70_44, e_p_70_45, e_p_70_46, e_p_70_53, e_p_70_54, e_p_70_55, e_p_70_56, e_p_70_59, e_p_70_61, e_p_70_62, e_s_112, e_i_112, e_l_112, pt38_R_in, e8, e2, hE]
  by_cases h1 : 2 ≤ m ∧ m ≤ 4
  · by_cases h2 : 8 ≤ a ∧ a ≤ 60
    · by_cases h3 : 2 ≤ nS V
      · rw [if_pos ⟨h1, h2, h3⟩] at k
        simp only [h1, h2, h3, and_true, true_and, and_self, or_true, true_or, or_false, false_or, false_and, and_false, not_true_eq_false, not_false_eq_true, if_true, if_false, ite_true, ite_false, false_imp_iff, true_imp_iff, rsn_00, rsn_10, rsn_01, rsn_11, n_09, n_19, n_29, n_99, implies_true, bI_t, bI_f, or_self, ne_eq, eq_self, Classical.not_not, Bool.false_eq_true]
        obtain ⟨j, hj, rfl⟩ := nI_of2 (M := 4) (n := 4) rfl (Int32.not_lt.mpr (Int32.le_trans (by decide) h1.1)) h1.2
        have hj2 : 2 ≤ j := by
          have := h1.1
          rw [show (2 : Int32) = nI 2 from rfl, nI_leI (by omega) (by omega)] at this
          exact this
        rw [nm_nI (by omega)] at k
        have loop : ∀ i, i ≤ j - 1 → ∀ M', Fr csF fsF M M' → BsR (nxS V a i) M' → am_WP X (d + 12) 236 46 [some (.ref 70), some (.int (nI j)), some (.int (a)), some (.int (w)), some (.int (nI (i + 2)))] [] S (M') (L) 0 0 K := by
          refine am_ind ?_
          intro i hi ih M' f hb
          have fin : i = j - 1 → True := fun _ => True.intro
          refine H_R_next_IIII_46 pt38_ok ?_
          simp only [s_aload_0_ref, s_bipush, s_get0, s_get2, s_goto, s_i2l, s_iald, s_ic_ge, s_ic_gt, s_ic_ne, s_iconst, s_if_eq, s_iinc_4, s_iload_1_int, s_iload_2_int, s_iload_3_int, s_iload_4_int, s_ireturn, s_ist_3, s_istore_4_int, s_isub, s_iv_4, s_lconst, s_ldc2_w, s_put0, J_R_next_IIII_0, b_R_next_IIII_0, J_R_next_IIII_36, b_R_next_IIII_36, J_R_next_IIII_38, b_R_next_IIII_38, b_R_next_IIII_67, J_R_next_IIII_79, b_R_next_IIII_79, J_R_next_IIII_92, b_R_next_IIII_92, J_R_next_IIII_117, b_R_next_IIII_117, J_R_next_IIII_118, b_R_next_IIII_118, J_R_next_IIII_46, b_R_next_IIII_46, s_end, true_and, and_true, or_true, true_or, if_true, if_false, ite_true, ite_false, List.map_nil, List.map_cons, List.sum_nil, List.sum_cons, List.nil_append, List.cons_append, Option.toList_some, Option.toList_none, Nat.reduceAdd, Nat.reduceLeDiff, Nat.reduceSub, Nat.zero_le, List.headD_cons, List.tail_cons, List.length_cons, List.length_nil, ne_eq, reduceCtorEq, false_or, or_false, not_false_eq_true, Nat.reduceEqDiff, Nat.reduceLT, am_sw, bI_0, bI_z, bI_y, Classical.not_not, Nat.le_add_left, am_u_row2, am_r_row2, am_u_same, am_u_at, am_r_same, Int32.reduceLT, Int32.reduceLE, Int32.reduceAdd, Int32.reduceSub, Int32.reduceMul, forall_const, not_true_eq_false, implies_true, false_imp_iff, true_imp_iff, i_10, i_01, i_m10, i_m11, eq_self, or_self, false_and, and_false, and_self, am_so_some, am_pv_some, am_pv_none, l_cl_none, l_cl_int, l_cl_ref, l_cl_ra, l_cl_null, l_cl_long, cat_int, cat_ref, cat_long, cat_ra, cat_null, cl_0, cl_1, cl_2, cl_3, cl_4, cl_5, cl_6, cl_7, cl_8, cl_9, cl_10, cl_11, cl_12, cl_13, cl_14, cl_15, cl_16, cl_30, cl_64, cl_500, vl_0_2, vl_0_3, vl_0_4, vl_0_6, vl_0_7, vl_0_12, vl_0_16, vl_0_1400, vl_1_2, vl_1_3, vl_1_4, vl_1_6, vl_1_7, vl_1_12, vl_1_16, vl_1_1400, vl_2_3, vl_2_4, vl_2_6, vl_2_7, vl_2_12, vl_2_16, vl_2_1400, vl_3_4, vl_3_6, vl_3_7, vl_3_12, vl_3_16, vl_3_1400, vl_4_6, vl_4_7, vl_4_12, vl_4_16, vl_4_1400, vl_5_6, vl_5_7, vl_5_12, vl_5_16, vl_5_1400, vl_6_7, vl_6_12, vl_6_16, vl_6_1400, vl_7_12, vl_7_16, vl_8_12, vl_8_16, vl_9_12, vl_9_16, vl_10_12, vl_10_16, vl_11_12, vl_11_16, i_64le_e, i64a_0, i64b_0, i64a_1, i64b_1, i64a_2, i64b_2, i64a_3, i64b_3, i64a_4, i64b_4, i64a_5, i64b_5, i64a_7, i64b_7, i64a_8, i64b_8, i64a_9, i64b_9, i64a_10, i64b_10, i64a_16, i64b_16, i64a_50, i64b_50, i64a_m50, i64b_m50, i64a_60, i64b_60, i64a_99, i64b_99, i64a_100, i64b_100, i64a_500, i64b_500, i64a_600, i64b_600, i64a_1000, i64b_1000, i64a_1000000, i64b_1000000, i64a_m9, i64b_m9, e_s_70, e_i_70, e_l_70, e_p_70_0, e_p_70_1, e_p_70_2, e_p_70_3, e_p_70_4, e_p_70_5, e_p_70_6, e_p_70_7, e_p_70_10, e_p_70_11, e_p_70_12, e_p_70_13, e_p_70_14, e_p_70_15, e_p_70_16, e_p_70_24, e_p_70_29, e_p_70_30, e_p_70_31, e_p_70_32, e_p_70_33, e_p_70_34, e_p_70_35, e_p_70_36, e_p_70_37, e_p_70_38, e_p_70_39, e_p_70_41, e_p_70_42, e_p_70_44, e_p_70_45, e_p_70_46, e_p_70_53, e_p_70_54, e_p_70_55, e_p_70_56, e_p_70_59, e_p_70_61, e_p_70_62, e_s_112, e_i_112, e_l_112, pt38_R_in, hE]
          by_cases c0 : i < j - 1
          · have c1 : ¬ j < i + 2 := by omega
            simp (disch := omega) only [c1, nI_clamp, nI_le', nI_lt', nI_eq', rem2_1, rem2_0, nI_eq0, nI_le0, nI_0lt, nI_0le, nI_lt0, nI_m1, vp_inE, nm_nI, i_20, nI_1, nI_add, and_true, true_and, and_self, or_true, true_or, or_false, false_or, false_and, and_false, not_true_eq_false, not_false_eq_true, if_true, if_false, ite_true, ite_false, false_imp_iff, true_imp_iff, rsn_00, rsn_10, rsn_01, rsn_11, n_09, n_19, n_29, n_99, implies_true, bI_t, bI_f, or_self, ne_eq, eq_self, Classical.not_not, Bool.false_eq_true]
            refine am_cal_no rfl ?_
            rw [show d + 11 = d + (4 - (i + 2)) + (i + 2) + 7 by omega]
            refine c_R_rowsFrom hE hI hP (age_ne h2) (i + 2) (by omega) (i + 2) X (d + (4 - (i + 2))) _ M' L [] (nxS V a i) (hR.fr (f.mono (by decide) (by decide))) (by rw [List.length_nil]; omega) (fun s hs => by cases hs) (fun j hj => (Nat.not_lt_zero j hj).elim) ((nxS_ok n6 i).up (by omega)) hb ?_
            intro M2 g2 _ b2
            simp only [s_aload_0_ref, s_bipush, s_get0, s_get2, s_goto, s_i2l, s_iald, s_ic_ge, s_ic_gt, s_ic_ne, s_iconst, s_if_eq, s_iinc_4, s_iload_1_int, s_iload_2_int, s_iload_3_int, s_iload_4_int, s_ireturn, s_ist_3, s_istore_4_int, s_isub, s_iv_4, s_lconst, s_ldc2_w, s_put0, J_R_next_IIII_0, b_R_next_IIII_0, J_R_next_IIII_36, b_R_next_IIII_36, J_R_next_IIII_38, b_R_next_IIII_38, b_R_next_IIII_67, J_R_next_IIII_79, b_R_next_IIII_79, J_R_next_IIII_92, b_R_next_IIII_92, J_R_next_IIII_117, b_R_next_IIII_117, J_R_next_IIII_118, b_R_next_IIII_118, J_R_next_IIII_46, b_R_next_IIII_46, s_end, true_and, and_true, or_true, true_or, if_true, if_false, ite_true, ite_false, List.map_nil, List.map_cons, List.sum_nil, List.sum_cons, List.nil_append, List.cons_append, Option.toList_some, Option.toList_none, Nat.reduceAdd, Nat.reduceLeDiff, Nat.reduceSub, Nat.zero_le, List.headD_cons, List.tail_cons, List.length_cons, List.length_nil, ne_eq, reduceCtorEq, false_or, or_false, not_false_eq_true, Nat.reduceEqDiff, Nat.reduceLT, am_sw, bI_0, bI_z, bI_y, Classical.not_not, Nat.le_add_left, am_u_row2, am_r_row2, am_u_same, am_u_at, am_r_same, Int32.reduceLT, Int32.reduceLE, Int32.reduceAdd, Int32.reduceSub, Int32.reduceMul, forall_const, not_true_eq_false, implies_true, false_imp_iff, true_imp_iff, i_10, i_01, i_m10, i_m11, eq_self, or_self, false_and, and_false, and_self, am_so_some, am_pv_some, am_pv_none, l_cl_none, l_cl_int, l_cl_ref, l_cl_ra, l_cl_null, l_cl_long, cat_int, cat_ref, cat_long, cat_ra, cat_null, cl_0, cl_1, cl_2, cl_3, cl_4, cl_5, cl_6, cl_7, cl_8, cl_9, cl_10, cl_11, cl_12, cl_13, cl_14, cl_15, cl_16, cl_30, cl_64, cl_500, vl_0_2, vl_0_3, vl_0_4, vl_0_6, vl_0_7, vl_0_12, vl_0_16, vl_0_1400, vl_1_2, vl_1_3, vl_1_4, vl_1_6, vl_1_7, vl_1_12, vl_1_16, vl_1_1400, vl_2_3, vl_2_4, vl_2_6, vl_2_7, vl_2_12, vl_2_16, vl_2_1400, vl_3_4, vl_3_6, vl_3_7, vl_3_12, vl_3_16, vl_3_1400, vl_4_6, vl_4_7, vl_4_12, vl_4_16, vl_4_1400, vl_5_6, vl_5_7, vl_5_12, vl_5_16, vl_5_1400, vl_6_7, vl_6_12, vl_6_16, vl_6_1400, vl_7_12, vl_7_16, vl_8_12, vl_8_16, vl_9_12, vl_9_16, vl_10_12, vl_10_16, vl_11_12, vl_11_16, i_64le_e, i64a_0, i64b_0, i64a_1, i64b_1, i64a_2, i64b_2, i64a_3, i64b_3, i64a_4, i64b_4, i64a_5, i64b_5, i64a_7, i64b_7, i64a_8, i64b_8, i64a_9, i64b_9, i64a_10, i64b_10, i64a_16, i64b_16, i64a_50, i64b_50, i64a_m50, i64b_m50, i64a_60, i64b_60, i64a_99, i64b_99, i64a_100, i64b_100, i64a_500, i64b_500, i64a_600, i64b_600, i64a_1000, i64b_1000, i64a_1000000, i64b_1000000, i64a_m9, i64b_m9, e_s_70, e_i_70, e_l_70, e_p_70_0, e_p_70_1, e_p_70_2, e_p_70_3, e_p_70_4, e_p_70_5, e_p_70_6, e_p_70_7, e_p_70_10, e_p_70_11, e_p_70_12, e_p_70_13, e_p_70_14, e_p_70_15, e_p_70_16, e_p_70_24, e_p_70_29, e_p_70_30, e_p_70_31, e_p_70_32, e_p_70_33, e_p_70_34, e_p_70_35, e_p_70_36, e_p_70_37, e_p_70_38, e_p_70_39, e_p_70_41, e_p_70_42, e_p_70_44, e_p_70_45, e_p_70_46, e_p_70_53, e_p_70_54, e_p_70_55, e_p_70_56, e_p_70_59, e_p_70_61, e_p_70_62, e_s_112, e_i_112, e_l_112, pt38_R_in, hE]
            exact ih c0 M2 (f.trans g2) b2
          · have e : i = j - 1 := by omega
            have c1 : j < i + 2 := by omega
            simp (disch := omega) only [c1, nI_clamp, nI_le', nI_lt', nI_eq', rem2_1, rem2_0, nI_eq0, nI_le0, nI_0lt, nI_0le, nI_lt0, nI_m1, vp_inE, nm_nI, i_20, nI_1, nI_add, and_true, true_and, and_self, or_true, true_or, or_false, false_or, false_and, and_false, not_true_eq_false, not_false_eq_true, if_true, if_false, ite_true, ite_false, false_imp_iff, true_imp_iff, rsn_00, rsn_10, rsn_01, rsn_11, n_09, n_19, n_29, n_99, implies_true, bI_t, bI_f, or_self, ne_eq, eq_self, Classical.not_not, Bool.false_eq_true]
            rw [← e] at k
            have k := k M' f
            obtain ⟨i', rfl⟩ : ∃ i', i = i' + 1 := ⟨i - 1, by omega⟩
            have ns := nxS_some (V := V) (a := a) h3 i'
            have nk := nxS_ok (V := V) (a := a) n6 (i' + 1)
            cases hq : nxS V a (i' + 1) with
            | none => exact absurd hq ns
            | some y =>
              obtain ⟨c, r⟩ := y
              rw [hq] at hb k nk
              obtain ⟨q1, q2⟩ := nk c r rfl
              obtain ⟨b1, b2, b3⟩ := hb
              have b1 : M' 70 58 = nI c := b1
              have b2 : M' 70 57 = nI r.length := b2
              have k : K (some (.int (if w = -2 then nI c else if w = -1 then nI r.length else if 0 ≤ w ∧ w < nI r.length then nI (r.getD (nm w) 0) else -1))) S M' L := k
              simp only [s_aload_0_ref, s_bipush, s_get0, s_get2, s_goto, s_i2l, s_iald, s_ic_ge, s_ic_gt, s_ic_ne, s_iconst, s_if_eq, s_iinc_4, s_iload_1_int, s_iload_2_int, s_iload_3_int, s_iload_4_int, s_ireturn, s_ist_3, s_istore_4_int, s_isub, s_iv_4, s_lconst, s_ldc2_w, s_put0, J_R_next_IIII_0, b_R_next_IIII_0, J_R_next_IIII_36, b_R_next_IIII_36, J_R_next_IIII_38, b_R_next_IIII_38, J_R_next_IIII_67, b_R_next_IIII_67, J_R_next_IIII_79, b_R_next_IIII_79, J_R_next_IIII_92, b_R_next_IIII_92, J_R_next_IIII_117, b_R_next_IIII_117, J_R_next_IIII_118, b_R_next_IIII_118, J_R_next_IIII_46, b_R_next_IIII_46, s_end, true_and, and_true, or_true, true_or, if_true, if_false, ite_true, ite_false, List.map_nil, List.map_cons, List.sum_nil, List.sum_cons, List.nil_append, List.cons_append, Option.toList_some, Option.toList_none, Nat.reduceAdd, Nat.reduceLeDiff, Nat.reduceSub, Nat.zero_le, List.headD_cons, List.tail_cons, List.length_cons, List.length_nil, ne_eq, reduceCtorEq, false_or, or_false, not_false_eq_true, Nat.reduceEqDiff, Nat.reduceLT, am_sw, bI_0, bI_z, bI_y, Classical.not_not, Nat.le_add_left, am_u_row2, am_r_row2, am_u_same, am_u_at, am_r_same, Int32.reduceLT, Int32.reduceLE, Int32.reduceAdd, Int32.reduceSub, Int32.reduceMul, forall_const, not_true_eq_false, implies_true, false_imp_iff, true_imp_iff, i_10, i_01, i_m10, i_m11, eq_self, or_self, false_and, and_false, and_self, am_so_some, am_pv_some, am_pv_none, l_cl_none, l_cl_int, l_cl_ref, l_cl_ra, l_cl_null, l_cl_long, cat_int, cat_ref, cat_long, cat_ra, cat_null, cl_0, cl_1, cl_2, cl_3, cl_4, cl_5, cl_6, cl_7, cl_8, cl_9, cl_10, cl_11, cl_12, cl_13, cl_14, cl_15, cl_16, cl_30, cl_64, cl_500, vl_0_2, vl_0_3, vl_0_4, vl_0_6, vl_0_7, vl_0_12, vl_0_16, vl_0_1400, vl_1_2, vl_1_3, vl_1_4, vl_1_6, vl_1_7, vl_1_12, vl_1_16, vl_1_1400, vl_2_3, vl_2_4, vl_2_6, vl_2_7, vl_2_12, vl_2_16, vl_2_1400, vl_3_4, vl_3_6, vl_3_7, vl_3_12, vl_3_16, vl_3_1400, vl_4_6, vl_4_7, vl_4_12, vl_4_16, vl_4_1400, vl_5_6, vl_5_7, vl_5_12, vl_5_16, vl_5_1400, vl_6_7, vl_6_12, vl_6_16, vl_6_1400, vl_7_12, vl_7_16, vl_8_12, vl_8_16, vl_9_12, vl_9_16, vl_10_12, vl_10_16, vl_11_12, vl_11_16, i_64le_e, i64a_0, i64b_0, i64a_1, i64b_1, i64a_2, i64b_2, i64a_3, i64b_3, i64a_4, i64b_4, i64a_5, i64b_5, i64a_7, i64b_7, i64a_8, i64b_8, i64a_9, i64b_9, i64a_10, i64b_10, i64a_16, i64b_16, i64a_50, i64b_50, i64a_m50, i64b_m50, i64a_60, i64b_60, i64a_99, i64b_99, i64a_100, i64b_100, i64a_500, i64b_500, i64a_600, i64b_600, i64a_1000, i64b_1000, i64a_1000000, i64b_1000000, i64a_m9, i64b_m9, e_s_70, e_i_70, e_l_70, e_p_70_0, e_p_70_1, e_p_70_2, e_p_70_3, e_p_70_4, e_p_70_5, e_p_70_6, e_p_70_7, e_p_70_10, e_p_70_11, e_p_70_12, e_p_70_13, e_p_70_14, e_p_70_15, e_p_70_16, e_p_70_24, e_p_70_29, e_p_70_30, e_p_70_31, e_p_70_32, e_p_70_33, e_p_70_34, e_p_70_35, e_p_70_36, e_p_70_37, e_p_70_38, e_p_70_39, e_p_70_41, e_p_70_42, e_p_70_44, e_p_70_45, e_p_70_46, e_p_70_53, e_p_70_54, e_p_70_55, e_p_70_56, e_p_70_59, e_p_70_61, e_p_70_62, e_s_112, e_i_112, e_l_112, pt38_R_in, b1, b2, hE]
              have e9 : (w ≤ nI r.length - 1) = (w < nI r.length) := propext (i_pred (by omega))
              simp only [e9]
              refine ⟨fun y => ⟨fun y2 => ⟨fun y3 => ?_, fun y3 => ?_⟩, fun y2 => ?_⟩, fun y => ?_⟩
              · rw [if_neg y2, if_neg y, if_neg y3] at k; exact k
              · rw [if_neg y2, if_neg y, if_pos y3] at k
                obtain ⟨t, ht, rfl⟩ := inN.ix y3 (by omega)
                rw [nm_nI (by omega)] at k
                have b4 := b3 t ht
                simp (disch := omega) only [b4, nI_clamp, nI_le', nI_lt', nI_eq', rem2_1, rem2_0, nI_eq0, nI_le0, nI_0lt, nI_0le, nI_lt0, nI_m1, vp_inE, nm_nI, i_20, nI_1, nI_add, and_true, true_and, and_self, or_true, true_or, or_false, false_or, false_and, and_false, not_true_eq_false, not_false_eq_true, if_true, if_false, ite_true, ite_false, false_imp_iff, true_imp_iff, rsn_00, rsn_10, rsn_01, rsn_11, n_09, n_19, n_29, n_99, implies_true, bI_t, bI_f, or_self, ne_eq, eq_self, Classical.not_not, Bool.false_eq_true]
                exact k
              · rw [if_pos y2] at k; exact k
              · rw [if_neg (fun z => absurd (y.symm.trans z) (by decide)), if_pos y] at k; exact k
        exact loop 0 (by omega) _ (Fr.refl.uf (by decide)) am_u_same
      · rw [if_neg (fun q => h3 q.2.2)] at k
        simp only [h1, h2, h3, and_true, true_and, and_self, or_true, true_or, or_false, false_or, false_and, and_false, not_true_eq_false, not_false_eq_true, if_true, if_false, ite_true, ite_false, false_imp_iff, true_imp_iff, rsn_00, rsn_10, rsn_01, rsn_11, n_09, n_19, n_29, n_99, implies_true, bI_t, bI_f, or_self, ne_eq, eq_self, Classical.not_not, Bool.false_eq_true]
        exact k M Fr.refl
    · rw [if_neg (fun q => h2 q.2.1)] at k
      simp only [h1, h2, and_true, true_and, and_self, or_true, true_or, or_false, false_or, false_and, and_false, not_true_eq_false, not_false_eq_true, if_true, if_false, ite_true, ite_false, false_imp_iff, true_imp_iff, rsn_00, rsn_10, rsn_01, rsn_11, n_09, n_19, n_29, n_99, implies_true, bI_t, bI_f, or_self, ne_eq, eq_self, Classical.not_not, Bool.false_eq_true]
      exact k M Fr.refl
  · rw [if_neg (fun q => h1 q.1)] at k
    simp only [h1, and_true, true_and, and_self, or_true, true_or, or_false, false_or, false_and, and_false, not_true_eq_false, not_false_eq_true, if_true, if_false, ite_true, ite_false, false_imp_iff, true_imp_iff, rsn_00, rsn_10, rsn_01, rsn_11, n_09, n_19, n_29, n_99, implies_true, bI_t, bI_f, or_self, ne_eq, eq_self, Classical.not_not, Bool.false_eq_true]
    exact k M Fr.refl
end T82
