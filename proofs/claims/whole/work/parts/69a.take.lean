/-- a lab at cells q .. q + 7 -/
def Lb (S : am_S) (q : Nat) : Prop := (q + 7 < S.1) ∧ (S.2.1 q = (0, 3)) ∧ (S.2.1 (q + 1) = (1, 16)) ∧ (S.2.1 (q + 2) = (1, 16)) ∧ (S.2.1 (q + 3) = (1, 16)) ∧ (S.2.1 (q + 4) = (1, 16)) ∧ (S.2.1 (q + 5) = (3, 16)) ∧ (S.2.1 (q + 6) = (1, 1024)) ∧ (S.2.1 (q + 7) = (1, 128)) ∧ (S.2.2 q 0 = some (q + 1)) ∧ (S.2.2 q 1 = some (q + 2)) ∧ (S.2.2 q 2 = some (q + 3)) ∧ (S.2.2 q 3 = some (q + 4)) ∧ (S.2.2 q 4 = some (q + 5)) ∧ (S.2.2 q 5 = some (q + 6)) ∧ (S.2.2 q 6 = some (q + 7))
theorem Lb.lt {S : am_S} {q : Nat} (h : Lb S q) : q + 7 < S.1 := h.1
theorem Lb.s0 {S : am_S} {q : Nat} (h : Lb S q) : S.2.1 q = (0, 3) := h.2.1
theorem Lb.s1 {S : am_S} {q : Nat} (h : Lb S q) : S.2.1 (q + 1) = (1, 16) := h.2.2.1
theorem Lb.s2 {S : am_S} {q : Nat} (h : Lb S q) : S.2.1 (q + 2) = (1, 16) := h.2.2.2.1
theorem Lb.s3 {S : am_S} {q : Nat} (h : Lb S q) : S.2.1 (q + 3) = (1, 16) := h.2.2.2.2.1
theorem Lb.s4 {S : am_S} {q : Nat} (h : Lb S q) : S.2.1 (q + 4) = (1, 16) := h.2.2.2.2.2.1
theorem Lb.s5 {S : am_S} {q : Nat} (h : Lb S q) : S.2.1 (q + 5) = (3, 16) := h.2.2.2.2.2.2.1
theorem Lb.s6 {S : am_S} {q : Nat} (h : Lb S q) : S.2.1 (q + 6) = (1, 1024) := h.2.2.2.2.2.2.2.1
theorem Lb.s7 {S : am_S} {q : Nat} (h : Lb S q) : S.2.1 (q + 7) = (1, 128) := h.2.2.2.2.2.2.2.2.1
theorem Lb.p0 {S : am_S} {q : Nat} (h : Lb S q) : S.2.2 q 0 = some (q + 1) := h.2.2.2.2.2.2.2.2.2.1
theorem Lb.p1 {S : am_S} {q : Nat} (h : Lb S q) : S.2.2 q 1 = some (q + 2) := h.2.2.2.2.2.2.2.2.2.2.1
theorem Lb.p2 {S : am_S} {q : Nat} (h : Lb S q) : S.2.2 q 2 = some (q + 3) := h.2.2.2.2.2.2.2.2.2.2.2.1
theorem Lb.p3 {S : am_S} {q : Nat} (h : Lb S q) : S.2.2 q 3 = some (q + 4) := h.2.2.2.2.2.2.2.2.2.2.2.2.1
theorem Lb.p4 {S : am_S} {q : Nat} (h : Lb S q) : S.2.2 q 4 = some (q + 5) := h.2.2.2.2.2.2.2.2.2.2.2.2.2.1
theorem Lb.p5 {S : am_S} {q : Nat} (h : Lb S q) : S.2.2 q 5 = some (q + 6) := h.2.2.2.2.2.2.2.2.2.2.2.2.2.2.1
theorem Lb.p6 {S : am_S} {q : Nat} (h : Lb S q) : S.2.2 q 6 = some (q + 7) := h.2.2.2.2.2.2.2.2.2.2.2.2.2.2.2
section T69a
variable {X : am_X} {d : Nat} {K : am_K} {S : am_S} {M : am_M} {L : am_L} {V : am_M} {q : Nat}
theorem Lb.i0 (h : Lb S q) : am_is S q 0 3 = True := eq_true ⟨by have := h.lt; omega, h.s0⟩
theorem Lb.i1 (h : Lb S q) : am_ia S (q + 1) 1 = True := eq_true ⟨by have := h.lt; omega, by rw [h.s1]⟩
theorem Lb.i2 (h : Lb S q) : am_ia S (q + 2) 1 = True := eq_true ⟨by have := h.lt; omega, by rw [h.s2]⟩
theorem Lb.i3 (h : Lb S q) : am_ia S (q + 3) 1 = True := eq_true ⟨by have := h.lt; omega, by rw [h.s3]⟩
theorem Lb.i4 (h : Lb S q) : am_ia S (q + 4) 1 = True := eq_true ⟨by have := h.lt; omega, by rw [h.s4]⟩
theorem Lb.i5 (h : Lb S q) : am_ia S (q + 5) 3 = True := eq_true ⟨by have := h.lt; omega, by rw [h.s5]⟩
theorem Lb.i6 (h : Lb S q) : am_ia S (q + 6) 1 = True := eq_true ⟨by have := h.lt; omega, by rw [h.s6]⟩
theorem Lb.i7 (h : Lb S q) : am_ia S (q + 7) 1 = True := eq_true ⟨by have := h.lt; omega, by rw [h.s7]⟩
theorem Lb.lab (hE : am_env S) : Lb S 31 := ⟨Nat.lt_of_lt_of_le (by decide) hE.1, e_s_31 hE, e_s_32 hE, e_s_33 hE, e_s_34 hE, e_s_35 hE, e_s_36 hE, e_s_37 hE, e_s_38 hE, e_p_31_0 hE, e_p_31_1 hE, e_p_31_2 hE, e_p_31_3 hE, e_p_31_4 hE, e_p_31_5 hE, e_p_31_6 hE⟩
theorem Lb.spare (hE : am_env S) : Lb S 39 := ⟨Nat.lt_of_lt_of_le (by decide) hE.1, e_s_39 hE, e_s_40 hE, e_s_41 hE, e_s_42 hE, e_s_43 hE, e_s_44 hE, e_s_45 hE, e_s_46 hE, e_p_39_0 hE, e_p_39_1 hE, e_p_39_2 hE, e_p_39_3 hE, e_p_39_4 hE, e_p_39_5 hE, e_p_39_6 hE⟩
/-- only the lab at a may have changed -/
def FrA (a : Nat) (M M' : am_M) : Prop := ∀ c, c < a ∨ a + 7 < c → M' c = M c
theorem FrA.refl {a : Nat} : FrA a M M := fun _ _ => rfl
theorem FrA.u {a j k : Nat} {x : Int32} {M' : am_M} (h : FrA a M M') (hk : k ≤ 7) : FrA a M (am_u M' (a + k) j x) := fun c hc => by
  rw [u_row (by omega)]; exact h c hc
theorem FrA.u0 {a j : Nat} {x : Int32} {M' : am_M} (h : FrA a M M') : FrA a M (am_u M' a j x) := h.u (k := 0) (by omega)
theorem FrA.r {a k : Nat} {f : Nat → Int32} {M' : am_M} (h : FrA a M M') (hk : k ≤ 7) : FrA a M (am_r M' (a + k) f) := fun c hc => by
  rw [am_r_ne (by omega)]; exact h c hc
theorem c_Lab_take {a b : Nat} (hE : am_env S) (ha : Lb S a) (hb : Lb S b) (hab : a + 7 < b ∨ b + 7 < a) (hL : LabR V M b) (hI : IV V) (k : ∀ M', FrA a M M' → LabR V M' a → K none S M' L) : am_Call X (d + 1) m_Lab_take [.ref a, .ref b] S M L K := by
  have n16 := hI.nb.2
  have e7 : M b 7 = nI (nB V) := hL.f7.trans hI.nb.1
  refine EE_Lab_take pt34_ok ?_
  simp only [s_aload_0_ref, s_aload_1_ref, s_bald, s_bast, s_bipush, s_copy, s_get0, s_get2, s_goto, s_iald, s_iast, s_ic_ge, s_iconst, s_iinc_2, s_iload_2_int, s_imul, s_istore_2_int, s_put0, s_return, J_Lab_take_0, b_Lab_take_0, J_Lab_take_84, b_Lab_take_84, J_Lab_take_10, b_Lab_take_10, s_end, true_and, and_true, or_true, true_or, if_true, if_false, ite_true, ite_false, List.map_nil, List.map_cons, List.sum_nil, List.sum_cons, List.nil_append, List.cons_append, Option.toList_some, Option.toList_none, Nat.reduceAdd, Nat.reduceLeDiff, Nat.reduceSub, Nat.zero_le, List.headD_cons, List.tail_cons, List.length_cons, List.length_nil, ne_eq, reduceCtorEq, false_or, or_false, not_false_eq_true, Nat.reduceEqDiff, Nat.reduceLT, am_sw, bI_0, bI_z, bI_y, Classical.not_not, Nat.le_add_left, am_u_row2, am_r_row2, am_u_same, am_u_at, am_r_same, Int32.reduceLT, Int32.reduceLE, Int32.reduceAdd, Int32.reduceSub, Int32.reduceMul, forall_const, not_true_eq_false, implies_true, false_imp_iff, true_imp_iff, i_10, i_01, i_m10, i_m11, eq_self, or_self, false_and, and_false, and_self, am_so_some, am_pv_some, am_pv_none, l_cl_none, l_cl_int, l_cl_ref, l_cl_ra, l_cl_null, l_cl_long, cat_int, cat_ref, cat_long, cat_ra, cat_null, cl_0, cl_1, cl_2, cl_3, cl_4, cl_5, cl_6, cl_7, cl_8, cl_9, cl_10, cl_11, cl_12, cl_13, cl_14, cl_15, cl_16, cl_30, cl_64, cl_500, vl_0_2, vl_0_3, vl_0_4, vl_0_6, vl_0_7, vl_0_12, vl_0_16, vl_0_1400, vl_1_2, vl_1_3, vl_1_4, vl_1_6, vl_1_7, vl_1_12, vl_1_16, vl_1_1400, vl_2_3, vl_2_4, vl_2_6, vl_2_7, vl_2_12, vl_2_16, vl_2_1400, vl_3_4, vl_3_6, vl_3_7, vl_3_12, vl_3_16, vl_3_1400, vl_4_6, vl_4_7, vl_4_12, vl_4_16, vl_4_1400, vl_5_6, vl_5_7, vl_5_12, vl_5_16, vl_5_1400, vl_6_7, vl_6_12, vl_6_16, vl_6_1400, vl_7_12, vl_7_16, vl_8_12, vl_8_16, vl_9_12, vl_9_16, vl_10_12, vl_10_16, vl_11_12, vl_11_16, i_64le_e, i64a_0, i64b_0, i64a_1, i64b_1, i64a_2, i64b_2, i64a_3, i64b_3, i64a_4, i64b_4, i64a_5, i64b_5, i64a_7, i64b_7, i64a_8, i64b_8, i64a_9, i64b_9, i64a_10, i64b_10, i64a_16, i64b_16, i64a_50, i64b_50, i64a_m50, i64b_m50, i64a_60, i64b_60, i64a_99, i64b_99, i64a_100, i64b_100, i64a_500, i64b_500, i64a_600, i64b_600, i64a_1000, i64b_1000, i64a_1000000, i64b_1000000, i64a_m9, i64b_m9, e_s_31, e_i_31, e_l_31, e_p_31_0, e_p_31_1, e_p_31_2, e_p_31_3, e_p_31_4, e_p_31_5, e_p_31_6, e_s_32, e_i_32, e_l_32, e_s_33, e_i_33, e_l_33, e_s_34, e_i_34, e_l_34, e_s_35, e_i_35, e_l_35, e_s_36, e_i_36, e_l_36, e_s_37, e_i_37, e_l_37, e_s_38, e_i_38, e_l_38, ha.i0, hb.i0, e7, hE]
  have ne : ∀ i j, i ≤ 7 → j ≤ 7 → (b + j = a + i) = False := fun i j h1 h2 => eq_false (by omega)
  have loop : ∀ i, i ≤ nB V → ∀ M', FrA a M M' → M' a 7 = nI (nB V) → (∀ j, j < i → M' (a + 1) j = V 79 j) → (∀ j, j < i → M' (a + 2) j = V 80 j) → (∀ j, j < i → M' (a + 3) j = V 81 j) → (∀ j, j < i → M' (a + 4) j = V 82 j) → (∀ j, j < i → M' (a + 5) j = V 83 j) → am_WP X (d + 1) 22 10 [some (.ref (a)), some (.ref (b)), some (.int (nI i))] [] S (M') (L) 0 0 K := by
    refine am_ind ?_
    intro i hi ih M' f h7 h1 h2 h3 h4 h5
    have fb : ∀ j, j ≤ 7 → M' (b + j) = M (b + j) := fun j hj => f _ (by omega)
    have b7 : M' b 7 = nI (nB V) := by rw [f b (by omega)]; exact e7
    refine H_Lab_take_10 pt34_ok ?_
    simp only [s_aload_0_ref, s_aload_1_ref, s_bald, s_bast, s_bipush, s_copy, s_get0, s_get2, s_goto, s_iald, s_iast, s_ic_ge, s_iconst, s_iinc_2, s_iload_2_int, s_imul, s_istore_2_int, s_put0, s_return, J_Lab_take_0, b_Lab_take_0, J_Lab_take_84, b_Lab_take_84, J_Lab_take_10, b_Lab_take_10, s_end, true_and, and_true, or_true, true_or, if_true, if_false, ite_true, ite_false, List.map_nil, List.map_cons, List.sum_nil, List.sum_cons, List.nil_append, List.cons_append, Option.toList_some, Option.toList_none, Nat.reduceAdd, Nat.reduceLeDiff, Nat.reduceSub, Nat.zero_le, List.headD_cons, List.tail_cons, List.length_cons, List.length_nil, ne_eq, reduceCtorEq, false_or, or_false, not_false_eq_true, Nat.reduceEqDiff, Nat.reduceLT, am_sw, bI_0, bI_z, bI_y, Classical.not_not, Nat.le_add_left, am_u_row2, am_r_row2, am_u_same, am_u_at, am_r_same, Int32.reduceLT, Int32.reduceLE, Int32.reduceAdd, Int32.reduceSub, Int32.reduceMul, forall_const, not_true_eq_false, implies_true, false_imp_iff, true_imp_iff, i_10, i_01, i_m10, i_m11, eq_self, or_self, false_and, and_false, and_self, am_so_some, am_pv_some, am_pv_none, l_cl_none, l_cl_int, l_cl_ref, l_cl_ra, l_cl_null, l_cl_long, cat_int, cat_ref, cat_long, cat_ra, cat_null, cl_0, cl_1, cl_2, cl_3, cl_4, cl_5, cl_6, cl_7, cl_8, cl_9, cl_10, cl_11, cl_12, cl_13, cl_14, cl_15, cl_16, cl_30, cl_64, cl_500, vl_0_2, vl_0_3, vl_0_4, vl_0_6, vl_0_7, vl_0_12, vl_0_16, vl_0_1400, vl_1_2, vl_1_3, vl_1_4, vl_1_6, vl_1_7, vl_1_12, vl_1_16, vl_1_1400, vl_2_3, vl_2_4, vl_2_6, vl_2_7, vl_2_12, vl_2_16, vl_2_1400, vl_3_4, vl_3_6, vl_3_7, vl_3_12, vl_3_16, vl_3_1400, vl_4_6, vl_4_7, vl_4_12, vl_4_16, vl_4_1400, vl_5_6, vl_5_7, vl_5_12, vl_5_16, vl_5_1400, vl_6_7, vl_6_12, vl_6_16, vl_6_1400, vl_7_12, vl_7_16, vl_8_12, vl_8_16, vl_9_12, vl_9_16, vl_10_12, vl_10_16, vl_11_12, vl_11_16, i_64le_e, i64a_0, i64b_0, i64a_1, i64b_1, i64a_2, i64b_2, i64a_3, i64b_3, i64a_4, i64b_4, i64a_5, i64b_5, i64a_7, i64b_7, i64a_8, i64b_8, i64a_9, i64b_9, i64a_10, i64b_10, i64a_16, i64b_16, i64a_50, i64b_50, i64a_m50, i64b_m50, i64a_60, i64b_60, i64a_99, i64b_99, i64a_100, i64b_100, i64a_500, i64b_500, i64a_600, i64b_600, i64a_1000, i64b_1000, i64a_1000000, i64b_1000000, i64a_m9, i64b_m9, e_s_31, e_i_31, e_l_31, e_p_31_0, e_p_31_1, e_p_31_2, e_p_31_3, e_p_31_4, e_p_31_5, e_p_31_6, e_s_32, e_i_32, e_l_32, e_s_33, e_i_33, e_l_33, e_s_34, e_i_34, e_l_34, e_s_35, e_i_35, e_l_35, e_s_36, e_i_36, e_l_36, e_s_37, e_i_37, e_l_37, e_s_38, e_i_38, e_l_38, ha.i0, hb.i0, b7, ha.p0, ha.p1, ha.p2, ha.p3, ha.p4, hb.p0, hb.p1, hb.p2, hb.p3, hb.p4, ha.i1, ha.i2, ha.i3, ha.i4, ha.i5, hb.i1, hb.i2, hb.i3, hb.i4, hb.i5, ha.i6, ha.i7, hb.i6, hb.i7, ha.p5, ha.p6, hb.p5, hb.p6, ha.s6, ha.s7, hb.s6, hb.s7, ha.s1, ha.s2, ha.s3, ha.s4, ha.s5, hb.s1, hb.s2, hb.s3, hb.s4, hb.s5, hE]
    by_cases c0 : i < nB V
    · simp (disch := omega) only [Nat.not_le.mpr, c0, nI_clamp, nI_le', nI_lt', nI_eq', rem2_1, rem2_0, nI_eq0, nI_le0, nI_0lt, nI_0le, nI_lt0, nI_m1, vp_inE, nm_nI, i_20, nI_1, nI_add, and_true, true_and, and_self, or_true, true_or, or_false, false_or, false_and, and_false, not_true_eq_false, not_false_eq_true, if_true, if_false, ite_true, ite_false, false_imp_iff, true_imp_iff, rsn_00, rsn_10, rsn_01, rsn_11, n_09, n_19, n_29, n_99, implies_true, bI_t, bI_f, or_self, ne_eq, eq_self, Classical.not_not, Bool.false_eq_true]
      have g1 : M' (b + 1) i = V 79 i := by rw [fb 1 (by omega)]; exact hL.pl i c0
      have g2 : M' (b + 2) i = V 80 i := by rw [fb 2 (by omega)]; exact hL.ho i c0
      have g3 : M' (b + 3) i = V 81 i := by rw [fb 3 (by omega)]; exact hL.ag i c0
      have g4 : M' (b + 4) i = V 82 i := by rw [fb 4 (by omega)]; exact hL.cr i c0
      have g5 : M' (b + 5) i = V 83 i := by rw [fb 5 (by omega)]; exact hL.lf i c0
      have nr : vp_nar FieldType.boolean (V 83 i) = V 83 i := by rcases hI.bl i c0 with z | z <;> rw [z] <;> decide
      simp (disch := omega) only [u_row, g1, g2, g3, g4, g5, nr]
      refine ih c0 _ (((((f.u (by omega)).u (by omega)).u (by omega)).u (by omega)).u (by omega)) ?_ ?_ ?_ ?_ ?_ ?_
      · simp (disch := omega) only [u_row]; exact h7
      · simp (disch := omega) only [u_row]; exact am_u_lt h1 rfl
      · simp (disch := omega) only [u_row]; exact am_u_lt (fun t ht => by simp (disch := omega) only [u_row]; exact h2 t ht) rfl
      · simp (disch := omega) only [u_row]; exact am_u_lt (fun t ht => by simp (disch := omega) only [u_row]; exact h3 t ht) rfl
      · simp (disch := omega) only [u_row]; exact am_u_lt (fun t ht => by simp (disch := omega) only [u_row]; exact h4 t ht) rfl
      · exact am_u_lt (fun t ht => by simp (disch := omega) only [u_row]; exact h5 t ht) rfl
    · have e : i = nB V := by omega
      subst e
      have d67 : (b + 6 = a + 6) = False := eq_false (by omega)
      have d77 : (b + 7 = a + 7) = False := eq_false (by omega)
      simp (disch := omega) only [Nat.le_refl, d67, d77, nmul8, nI_clamp, nI_le', nI_lt', nI_eq', rem2_1, rem2_0, nI_eq0, nI_le0, nI_0lt, nI_0le, nI_lt0, nI_m1, vp_inE, nm_nI, i_20, nI_1, nI_add, and_true, true_and, and_self, or_true, true_or, or_false, false_or, false_and, and_false, not_true_eq_false, not_false_eq_true, if_true, if_false, ite_true, ite_false, false_imp_iff, true_imp_iff, rsn_00, rsn_10, rsn_01, rsn_11, n_09, n_19, n_29, n_99, implies_true, bI_t, bI_f, or_self, ne_eq, eq_self, Classical.not_not, Bool.false_eq_true]
      have g8 : M' b 8 = V 70 18 := by rw [f b (by omega)]; exact hL.f8
      have g9 : M' b 9 = V 70 19 := by rw [f b (by omega)]; exact hL.f9
      have g10 : M' b 10 = V 70 20 := by rw [f b (by omega)]; exact hL.f10
      have g11 : M' b 11 = V 70 21 := by rw [f b (by omega)]; exact hL.f11
      have g12 : M' b 12 = V 70 22 := by rw [f b (by omega)]; exact hL.f12
      have g13 : M' b 13 = V 70 23 := by rw [f b (by omega)]; exact hL.f13
      simp (disch := omega) only [u_row, am_r_ne, g8, g9, g10, g11, g12, g13]
      have r6 : M' (b + 6) = M (b + 6) := fb 6 (by omega)
      have r7 : M' (b + 7) = M (b + 7) := fb 7 (by omega)
      refine ⟨by omega, by omega, by omega, by omega, k _ ((((((((f.r (by omega)).r (by omega)).u0).u0).u0).u0).u0).u0) ?_⟩
      refine ⟨?_, ?_, ?_, ?_, ?_, ?_, ?_, ?_, ?_, ?_, ?_, ?_, ?_, ?_⟩
      · simp (disch := omega) only [am_u_same, am_u_ne, am_r_ne]; exact h7.trans hI.nb.1.symm
      · simp (disch := omega) only [am_u_same, am_u_ne]
      · simp (disch := omega) only [am_u_same, am_u_ne]
      · simp (disch := omega) only [am_u_same, am_u_ne]
      · simp (disch := omega) only [am_u_same, am_u_ne]
      · simp (disch := omega) only [am_u_same, am_u_ne]
      · simp (disch := omega) only [am_u_same, am_u_ne]
      · simp (disch := omega) only [u_row, am_r_ne]; exact h1
      · simp (disch := omega) only [u_row, am_r_ne]; exact h2
      · simp (disch := omega) only [u_row, am_r_ne]; exact h3
      · simp (disch := omega) only [u_row, am_r_ne]; exact h4
      · simp (disch := omega) only [u_row, am_r_ne]; exact h5
      · intro q hq
        simp (disch := omega) only [u_row, am_r_same]
        unfold va_cpy
        rw [if_pos ⟨by omega, by omega⟩, r7, show 0 + (q - 0) = q by omega]
        exact hL.gs q hq
      · intro q i hq hi
        have gm := hI.gm q hq
        simp (disch := omega) only [u_row, am_r_ne, am_r_same]
        unfold va_cpy
        rw [if_pos ⟨by omega, by omega⟩, r6, show 0 + (8 * q + i - 0) = 8 * q + i by omega]
        exact hL.gz q i hq hi
  refine loop 0 (by omega) _ FrA.refl.u0 am_u_same ?_ ?_ ?_ ?_ ?_
  all_goals exact fun j hj => by omega
end T69a
