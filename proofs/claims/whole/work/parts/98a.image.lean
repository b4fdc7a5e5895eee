section T98a
variable {X : am_X} {d : Nat} {K : am_K} {S : am_S} {M : am_M} {L : am_L}
/-- a new cell, hung up at place j of cell q -/
def zH (S : am_S) (q j t z : Nat) : am_S := ((am_nS S t z).1, (am_nS S t z).2.1, am_u (am_nS S t z).2.2 q j (some S.1))
theorem zH_f {q j t z : Nat} : (((am_nS S t z).1, (am_nS S t z).2.1, am_u (am_nS S t z).2.2 q j (some S.1)) : am_S) = zH S q j t z := rfl
theorem zH_1 {q j t z : Nat} : (zH S q j t z).1 = S.1 + 1 := rfl
theorem is_nS {t z q a b : Nat} (h : am_is S q a b) : am_is (am_nS S t z) q a b :=
  ⟨by show q < S.1 + 1; have := h.1; omega, by show (if q = S.1 then (t, z) else S.2.1 q) = _; rw [if_neg (by have := h.1; omega)]; exact h.2⟩
theorem is_zH {t z q a b p j : Nat} (h : am_is S q a b) : am_is (zH S p j t z) q a b := is_nS h
theorem zH_s {t z q p j : Nat} (h : q < S.1) : (zH S p j t z).2.1 q = S.2.1 q := if_neg (by omega)
theorem zH_t {t z p j : Nat} : (zH S p j t z).2.1 S.1 = (t, z) := if_pos rfl
theorem zH_p {t z q i p j : Nat} (h : q < S.1) (hn : ¬ (q = p ∧ i = j)) : (zH S p j t z).2.2 q i = S.2.2 q i := by
  show am_u (am_r S.2.2 S.1 (fun _ => none)) p j (some S.1) q i = _
  rw [am_u_ne (by omega), am_r_ne (by omega)]
theorem zH_q {t z p j : Nat} : (zH S p j t z).2.2 p j = some S.1 := am_u_same
theorem zH_t' {t z p j c : Nat} (h : c = S.1) : (zH S p j t z).2.1 c = (t, z) := by rw [h]; exact zH_t
theorem tc1024 : Int32.toNatClampNeg 1024 = 1024 := by decide
theorem tc128 : Int32.toNatClampNeg 128 = 128 := by decide
theorem zH_m {S : am_S} {M : am_M} {c : Nat} (h : c ≠ S.1) : am_nM S M c = M c := am_r_ne h
/-- what a run that only makes cells from q on leaves -/
def Old (q : Nat) (S S' : am_S) : Prop := ∀ c, c < q → S'.2.1 c = S.2.1 c ∧ S'.2.2 c = S.2.2 c
theorem c_Lab_init {q : Nat} (hq : am_is S q 0 3) (hs : S.1 = q + 1) (k : ∀ S' M' L', S'.1 = q + 8 → Lb S' q → Old q S S' → FrA q M M' → K none S' M' L') : am_Call X (d + 1) m_Lab_init [.ref q] S M L K := by
  refine EE_Lab_init pt38_ok ?_
  simp only [s_aload_0_ref, s_bipush, s_newa, s_obj, s_put0, s_put2, s_put2n, s_return, s_sipush, J_Lab_init_0, b_Lab_init_0, s_end, true_and, and_true, or_true, true_or, if_true, if_false, ite_true, ite_false, List.map_nil, List.map_cons, List.sum_nil, List.sum_cons, List.nil_append, List.cons_append, Option.toList_some, Option.toList_none, Nat.reduceAdd, Nat.reduceLeDiff, Nat.reduceSub, Nat.zero_le, List.headD_cons, List.tail_cons, List.length_cons, List.length_nil, ne_eq, reduceCtorEq, false_or, or_false, not_false_eq_true, Nat.reduceEqDiff, Nat.reduceLT, am_sw, bI_0, bI_z, bI_y, Classical.not_not, Nat.le_add_left, am_u_row2, am_r_row2, am_u_same, am_u_at, am_r_same, Int32.reduceLT, Int32.reduceLE, Int32.reduceAdd, Int32.reduceSub, Int32.reduceMul, forall_const, not_true_eq_false, implies_true, false_imp_iff, true_imp_iff, i_10, i_01, i_m10, i_m11, eq_self, or_self, false_and, and_false, and_self, am_so_some, am_pv_some, am_pv_none, l_cl_none, l_cl_int, l_cl_ref, l_cl_ra, l_cl_null, l_cl_long, cat_int, cat_ref, cat_long, cat_ra, cat_null, cl_0, cl_1, cl_2, cl_3, cl_4, cl_5, cl_6, cl_7, cl_8, cl_9, cl_10, cl_11, cl_12, cl_13, cl_14, cl_15, cl_16, cl_30, cl_64, cl_500, vl_0_2, vl_0_3, vl_0_4, vl_0_6, vl_0_7, vl_0_12, vl_0_16, vl_0_1400, vl_1_2, vl_1_3, vl_1_4, vl_1_6, vl_1_7, vl_1_12, vl_1_16, vl_1_1400, vl_2_3, vl_2_4, vl_2_6, vl_2_7, vl_2_12, vl_2_16, vl_2_1400, vl_3_4, vl_3_6, vl_3_7, vl_3_12, vl_3_16, vl_3_1400, vl_4_6, vl_4_7, vl_4_12, vl_4_16, vl_4_1400, vl_5_6, vl_5_7, vl_5_12, vl_5_16, vl_5_1400, vl_6_7, vl_6_12, vl_6_16, vl_6_1400, vl_7_12, vl_7_16, vl_8_12, vl_8_16, vl_9_12, vl_9_16, vl_10_12, vl_10_16, vl_11_12, vl_11_16, i_64le_e, i64a_0, i64b_0, i64a_1, i64b_1, i64a_2, i64b_2, i64a_3, i64b_3, i64a_4, i64b_4, i64a_5, i64b_5, i64a_7, i64b_7, i64a_8, i64b_8, i64a_9, i64b_9, i64a_10, i64b_10, i64a_16, i64b_16, i64a_50, i64b_50, i64a_m50, i64b_m50, i64a_60, i64b_60, i64a_99, i64b_99, i64a_100, i64b_100, i64a_500, i64b_500, i64a_600, i64b_600, i64a_1000, i64b_1000, i64a_1000000, i64b_1000000, i64a_m9, i64b_m9, e_s_31, e_i_31, e_l_31, e_p_31_0, e_p_31_1, e_p_31_2, e_p_31_3, e_p_31_4, e_p_31_5, e_p_31_6]
  simp only [tc1024, tc128]
  have h1 := is_zH (t := 1) (z := 16) (p := q) (j := 0) hq
  have h2 := is_zH (t := 1) (z := 16) (p := q) (j := 1) h1
  have h3 := is_zH (t := 1) (z := 16) (p := q) (j := 2) h2
  have h4 := is_zH (t := 1) (z := 16) (p := q) (j := 3) h3
  have h5 := is_zH (t := 3) (z := 16) (p := q) (j := 4) h4
  have h6 := is_zH (t := 1) (z := 1024) (p := q) (j := 5) h5
  have h7 := is_zH (t := 1) (z := 128) (p := q) (j := 6) h6
  refine ⟨is_nS hq, is_nS h1, is_nS h2, is_nS h3, is_nS h4, by decide, by decide, is_nS h5, by decide, by decide, is_nS h6, h7, h7, h7, ?_⟩
  have o : ∀ {S1 : am_S} {p j t z : Nat}, q < S1.1 → Old q S S1 → p = q → Old q S (zH S1 p j t z) := fun {S1 p j t z} g f e c hc => ⟨(zH_s (by omega)).trans (f c hc).1, by
    subst e
    show am_u (am_r S1.2.2 S1.1 (fun _ => none)) p j (some S1.1) c = _
    rw [am_u_row (by omega), am_r_ne (by omega)]
    exact (f c hc).2⟩
  have b1 : (zH S q 0 1 16).1 = q + 2 := by rw [zH_1, hs]
  have b2 : (zH (zH S q 0 1 16) q 1 1 16).1 = q + 3 := by rw [zH_1, b1]
  have b3 : (zH (zH (zH S q 0 1 16) q 1 1 16) q 2 1 16).1 = q + 4 := by rw [zH_1, b2]
  have b4 : (zH (zH (zH (zH S q 0 1 16) q 1 1 16) q 2 1 16) q 3 1 16).1 = q + 5 := by rw [zH_1, b3]
  have b5 : (zH (zH (zH (zH (zH S q 0 1 16) q 1 1 16) q 2 1 16) q 3 1 16) q 4 3 16).1 = q + 6 := by rw [zH_1, b4]
  have b6 : (zH (zH (zH (zH (zH (zH S q 0 1 16) q 1 1 16) q 2 1 16) q 3 1 16) q 4 3 16) q 5 1 1024).1 = q + 7 := by rw [zH_1, b5]
  have b7 : (zH (zH (zH (zH (zH (zH (zH S q 0 1 16) q 1 1 16) q 2 1 16) q 3 1 16) q 4 3 16) q 5 1 1024) q 6 1 128).1 = q + 8 := by rw [zH_1, b6]
  refine k (zH (zH (zH (zH (zH (zH (zH S q 0 1 16) q 1 1 16) q 2 1 16) q 3 1 16) q 4 3 16) q 5 1 1024) q 6 1 128) _ _ b7 ?_ ?_ ?_
  · refine ⟨by omega, ?_, ?_, ?_, ?_, ?_, ?_, ?_, ?_, ?_, ?_, ?_, ?_, ?_, ?_, ?_⟩
    · simp (disch := omega) only [zH_s, zH_t']; exact hq.2
    · simp (disch := omega) only [zH_s, zH_t']
    · simp (disch := omega) only [zH_s, zH_t']
    · simp (disch := omega) only [zH_s, zH_t']
    · simp (disch := omega) only [zH_s, zH_t']
    · simp (disch := omega) only [zH_s, zH_t']
    · simp (disch := omega) only [zH_s, zH_t']
    · simp (disch := omega) only [zH_s, zH_t']
    · simp (disch := omega) only [zH_p, zH_q]; rw [hs]
    · simp (disch := omega) only [zH_p, zH_q]; rw [b1]
    · simp (disch := omega) only [zH_p, zH_q]; rw [b2]
    · simp (disch := omega) only [zH_p, zH_q]; rw [b3]
    · simp (disch := omega) only [zH_p, zH_q]; rw [b4]
    · simp (disch := omega) only [zH_p, zH_q]; rw [b5]
    · simp (disch := omega) only [zH_p, zH_q]; rw [b6]
  · exact o (by omega) (o (by omega) (o (by omega) (o (by omega) (o (by omega) (o (by omega) (o (by omega) (fun c _ => ⟨rfl, rfl⟩) rfl) rfl) rfl) rfl) rfl) rfl) rfl
  · intro c hc
    rw [u_row (by omega), u_row (by omega), u_row (by omega)]
    exact (zH_m (S := zH (zH (zH (zH (zH (zH S q 0 1 16) q 1 1 16) q 2 1 16) q 3 1 16) q 4 3 16) q 5 1 1024) (by omega)).trans ((zH_m (S := zH (zH (zH (zH (zH S q 0 1 16) q 1 1 16) q 2 1 16) q 3 1 16) q 4 3 16) (by omega)).trans ((zH_m (S := zH (zH (zH (zH S q 0 1 16) q 1 1 16) q 2 1 16) q 3 1 16) (by omega)).trans ((zH_m (S := zH (zH (zH S q 0 1 16) q 1 1 16) q 2 1 16) (by omega)).trans ((zH_m (S := zH (zH S q 0 1 16) q 1 1 16) (by omega)).trans ((zH_m (S := zH S q 0 1 16) (by omega)).trans (zH_m (S := S) (by omega)))))))
end T98a
