section T86
variable {X : am_X} {d : Nat} {K : am_K} {S : am_S} {M : am_M} {L : am_L} {V : am_M}
/-- what the class's finder keeps between calls -/
def FnR (V M : am_M) : Prop := (usP [] M) ∧ (M 65 0 = 0) ∧ (∀ l, l < 6 → M 66 l = 0 ∧ M 67 l = 0) ∧ (M 62 8 = 0 ∨ ∃ m a, 2 ≤ m ∧ m ≤ 4 ∧ 2 ≤ nS V ∧ M 62 8 = nI m ∧ M 62 9 = a ∧ BsC (nxS V a (m - 1)) M)
theorem FnR.us {V M : am_M} (h : FnR V M) : usP [] M := h.1
theorem FnR.o0 {V M : am_M} (h : FnR V M) : M 65 0 = 0 := h.2.1
theorem FnR.s0 {V M : am_M} (h : FnR V M) : ∀ l, l < 6 → M 66 l = 0 ∧ M 67 l = 0 := h.2.2.1
theorem FnR.ca {V M : am_M} (h : FnR V M) : M 62 8 = 0 ∨ ∃ m a, 2 ≤ m ∧ m ≤ 4 ∧ 2 ≤ nS V ∧ M 62 8 = nI m ∧ M 62 9 = a ∧ BsC (nxS V a (m - 1)) M := h.2.2.2
theorem FnR.fs {a : Int32} (h : FnR V M) (h6 : nL V ≤ 6) (ha : M 62 9 = a) : FSr V M a [] := by
  refine ⟨ha, fun j hj => (Nat.not_lt_zero j hj).elim, fun j hj => ?_, fun j l hj hl => ?_, fun j l hj hl => ?_⟩
  · rw [show j = 0 from Nat.le_zero.mp hj]; exact h.o0
  · rw [show j = 0 from Nat.le_zero.mp hj, Nat.mul_zero, Nat.zero_add]; exact (h.s0 l (by omega)).1
  · rw [show j = 0 from Nat.le_zero.mp hj, Nat.mul_zero, Nat.zero_add]; exact (h.s0 l (by omega)).2
theorem nx_stay {a : Int32} {i : Nat} (h : ∀ n, i + 2 ≤ n → dfS V a n [] (nxS V a i) = nxS V a i) : ∀ j, i ≤ j → nxS V a j = nxS V a i := by
  intro j
  induction j with
  | zero => intro hj; rw [show i = 0 by omega]
  | succ j ih =>
    intro hj
    by_cases e : i = j + 1
    · rw [e]
    · show dfS V a (j + 2) [] (nxS V a j) = _
      rw [ih (by omega)]
      exact h (j + 2) (by omega)
theorem cntM_nil : ∀ n, cntM [] n = 0 := by
  intro n
  induction n with
  | zero => rfl
  | succ n ih => unfold cntM; rw [if_neg (by simp)]; exact ih
def fsZ : List (Nat × Nat) := (62, 8) :: (62, 9) :: (62, 10) :: (62, 11) :: (62, 13) :: (62, 14) :: fs49
theorem c_Finder_find {m : Nat} {a : Int32} (hE : am_env S) (hC : CT V M) (hI : IV V) (hP : IVp V) (hF : FnR V M) (hm2 : 2 ≤ m) (hm4 : m ≤ 4) (hs : 2 ≤ nS V) (k : ∀ M', Fr csY fsZ M M' → FnR V M' → BsC (nxS V a (m - 1)) M' → K none S M' L) : am_Call X (d + 9) m_Finder_find [.ref 62, .int (nI m), .int a] S M L K := by
  have n12 := hI.ns.2
  have n6 := hP.nl.2
  have nn : nL V * nL V ≤ 36 := Nat.mul_le_mul n6 n6
  have f7 : M 16 7 = nI (nL V) := hC.pg.f7.trans hP.nl.1
  have d3 : nI (nL V) * nI (nL V) / 3 = nI (nL V * nL V / 3) := by rw [nI_mul, show (3 : Int32) = nI 3 from rfl, nI_div (by omega) (by decide)]
  have i3 : ((3 : Int32) = 0) = False := by decide
  have full : ∀ n, am_J X (d + 9) K pt38 5 cm_Finder_find (n + 40) 17 [some (.ref 62), some (.int (nI m)), some (.int a), none] [] S M L 0 0 := by
    intro n
    simp only [s_aload_0_ref, s_get0, s_get2, s_goto, s_ic_ge, s_ic_gt, s_ic_ne, s_iconst, s_idiv, s_iinc_3, s_iload_1_int, s_iload_2_int, s_iload_3_int, s_imul, s_istore_3_int, s_iv_1, s_put0, s_return, J_Finder_find_0, b_Finder_find_0, J_Finder_find_17, b_Finder_find_17, J_Finder_find_103, b_Finder_find_103, J_Finder_find_60, b_Finder_find_60, s_end, true_and, and_true, or_true, true_or, if_true, if_false, ite_true, ite_false, List.map_nil, List.map_cons, List.sum_nil, List.sum_cons, List.nil_append, List.cons_append, Option.toList_some, Option.toList_none, Nat.reduceAdd, Nat.reduceLeDiff, Nat.reduceSub, Nat.zero_le, List.headD_cons, List.tail_cons, List.length_cons, List.length_nil, ne_eq, reduceCtorEq, false_or, or_false, not_false_eq_true, Nat.reduceEqDiff, Nat.reduceLT, am_sw, bI_0, bI_z, bI_y, Classical.not_not, Nat.le_add_left, am_u_row2, am_r_row2, am_u_same, am_u_at, am_r_same, Int32.reduceLT, Int32.reduceLE, Int32.reduceAdd, Int32.reduceSub, Int32.reduceMul, forall_const, not_true_eq_false, implies_true, false_imp_iff, true_imp_iff, i_10, i_01, i_m10, i_m11, eq_self, or_self, false_and, and_false, and_self, am_so_some, am_pv_some, am_pv_none, l_cl_none, l_cl_int, l_cl_ref, l_cl_ra, l_cl_null, l_cl_long, cat_int, cat_ref, cat_long, cat_ra, cat_null, cl_0, cl_1, cl_2, cl_3, cl_4, cl_5, cl_6, cl_7, cl_8, cl_9, cl_10, cl_11, cl_12, cl_13, cl_14, cl_15, cl_16, cl_30, cl_64, cl_500, vl_0_2, vl_0_3, vl_0_4, vl_0_6, vl_0_7, vl_0_12, vl_0_16, vl_0_1400, vl_1_2, vl_1_3, vl_1_4, vl_1_6, vl_1_7, vl_1_12, vl_1_16, vl_1_1400, vl_2_3, vl_2_4, vl_2_6, vl_2_7, vl_2_12, vl_2_16, vl_2_1400, vl_3_4, vl_3_6, vl_3_7, vl_3_12, vl_3_16, vl_3_1400, vl_4_6, vl_4_7, vl_4_12, vl_4_16, vl_4_1400, vl_5_6, vl_5_7, vl_5_12, vl_5_16, vl_5_1400, vl_6_7, vl_6_12, vl_6_16, vl_6_1400, vl_7_12, vl_7_16, vl_8_12, vl_8_16, vl_9_12, vl_9_16, vl_10_12, vl_10_16, vl_11_12, vl_11_16, i_64le_e, i64a_0, i64b_0, i64a_1, i64b_1, i64a_2, i64b_2, i64a_3, i64b_3, i64a_4, i64b_4, i64a_5, i64b_5, i64a_7, i64b_7, i64a_8, i64b_8, i64a_9, i64b_9, i64a_10, i64b_10, i64a_16, i64b_16, i64a_50, i64b_50, i64a_m50, i64b_m50, i64a_60, i64b_60, i64a_99, i64b_99, i64a_100, i64b_100, i64a_500, i64b_500, i64a_600, i64b_600, i64a_1000, i64b_1000, i64a_1000000, i64b_1000000, i64a_m9, i64b_m9, e_s_16, e_i_16, e_l_16, e_p_16_0, e_p_16_1, e_p_16_2, e_p_16_3, e_p_16_4, e_p_16_5, e_s_23, e_i_23, e_l_23, e_p_23_0, e_p_23_1, e_p_23_2, e_p_23_3, e_p_23_4, e_p_23_5, e_p_23_6, e_s_48, e_i_48, e_l_48, e_p_48_0, e_p_48_1, e_p_48_2, e_p_48_3, e_p_48_5, e_s_62, e_i_62, e_l_62, e_p_62_0, e_p_62_1, e_p_62_2, e_p_62_3, e_p_62_4, e_p_62_5, e_p_62_6, e_p_62_7, e_p_62_12, e_s_63, e_i_63, e_l_63, e_s_64, e_i_64, e_l_64, e_s_65, e_i_65, e_l_65, e_s_66, e_i_66, e_l_66, e_s_67, e_i_67, e_l_67, e_s_68, e_i_68, e_l_68, f7, d3, i3, hE]
    have g0 : Fr csY fsZ M (am_u (am_u (am_u (am_u (am_u M 62 8 (nI m)) 62 9 a) 62 14 (-1)) 62 13 0) 62 11 (nI (nL V * nL V / 3))) := ((((Fr.refl.uf (by decide)).uf (by decide)).uf (by decide)).uf (by decide)).uf (by decide)
    have z8 : am_u (am_u (am_u (am_u (am_u M 62 8 (nI m)) 62 9 a) 62 14 (-1)) 62 13 0) 62 11 (nI (nL V * nL V / 3)) 62 8 = nI m := by simp (disch := decide) only [am_u_ne, am_u_same]
    have z9 : am_u (am_u (am_u (am_u (am_u M 62 8 (nI m)) 62 9 a) 62 14 (-1)) 62 13 0) 62 11 (nI (nL V * nL V / 3)) 62 9 = a := by simp (disch := decide) only [am_u_ne, am_u_same]
    have z11 : am_u (am_u (am_u (am_u (am_u M 62 8 (nI m)) 62 9 a) 62 14 (-1)) 62 13 0) 62 11 (nI (nL V * nL V / 3)) 62 11 = nI (nL V * nL V / 3) := am_u_same
    have z14 : am_u (am_u (am_u (am_u (am_u M 62 8 (nI m)) 62 9 a) 62 14 (-1)) 62 13 0) 62 11 (nI (nL V * nL V / 3)) 62 14 = -1 := by simp (disch := decide) only [am_u_ne, am_u_same]
    have w63 : am_u (am_u (am_u (am_u (am_u M 62 8 (nI m)) 62 9 a) 62 14 (-1)) 62 13 0) 62 11 (nI (nL V * nL V / 3)) 63 = M 63 := by simp (disch := decide) only [u_row]
    have w65 : am_u (am_u (am_u (am_u (am_u M 62 8 (nI m)) 62 9 a) 62 14 (-1)) 62 13 0) 62 11 (nI (nL V * nL V / 3)) 65 = M 65 := by simp (disch := decide) only [u_row]
    have w66 : am_u (am_u (am_u (am_u (am_u M 62 8 (nI m)) 62 9 a) 62 14 (-1)) 62 13 0) 62 11 (nI (nL V * nL V / 3)) 66 = M 66 := by simp (disch := decide) only [u_row]
    have w67 : am_u (am_u (am_u (am_u (am_u M 62 8 (nI m)) 62 9 a) 62 14 (-1)) 62 13 0) 62 11 (nI (nL V * nL V / 3)) 67 = M 67 := by simp (disch := decide) only [u_row]
    generalize am_u (am_u (am_u (am_u (am_u M 62 8 (nI m)) 62 9 a) 62 14 (-1)) 62 13 0) 62 11 (nI (nL V * nL V / 3)) = M0 at *
    have loop : ∀ i, i ≤ m - 1 → ∀ M', Fr csY fsZ M M' → M' 62 8 = nI m → M' 62 11 = nI (nL V * nL V / 3) → FSr V M' a [] → usP [] M' → (M' 65 0 = 0 ∧ ∀ l, l < 6 → M' 66 l = 0 ∧ M' 67 l = 0) → BsC (nxS V a i) M' → am_WP X (d + 9) 5 60 [some (.ref 62), some (.int (nI m)), some (.int (a)), some (.int (nI (i + 2)))] [] S (M') (L) 0 0 K := by
      refine am_ind ?_
      intro i hi ih M' f h8 h11 hFs hU h0 hb
      have hC' : CT V M' := hC.fr (f.mono (by decide) (by decide))
      have a7 : M' 23 7 = nI (nS V) := hC'.st.f7.trans hI.ns.1
      have qk := nxS_ok (V := V) (a := a) n6 i
      have fin : nxS V a (m - 1) = nxS V a i → K none S M' L := by
        intro e
        have hb' : BsC (nxS V a (m - 1)) M' := by rw [e]; exact hb
        exact k M' f ⟨hU, h0.1, h0.2, Or.inr ⟨m, a, hm2, hm4, hs, h8, hFs.ag, hb'⟩⟩ hb'
      refine H_Finder_find_60 pt38_ok ?_
      simp only [s_aload_0_ref, s_get0, s_get2, s_goto, s_ic_ge, s_ic_gt, s_ic_ne, s_iconst, s_idiv, s_iinc_3, s_iload_1_int, s_iload_2_int, s_iload_3_int, s_imul, s_istore_3_int, s_iv_1, s_put0, s_return, J_Finder_find_0, b_Finder_find_0, J_Finder_find_17, b_Finder_find_17, J_Finder_find_103, b_Finder_find_103, J_Finder_find_60, b_Finder_find_60, s_end, true_and, and_true, or_true, true_or, if_true, if_false, ite_true, ite_false, List.map_nil, List.map_cons, List.sum_nil, List.sum_cons, List.nil_append, List.cons_append, Option.toList_some, Option.toList_none, Nat.reduceAdd, Nat.reduceLeDiff, Nat.reduceSub, Nat.zero_le, List.headD_cons, List.tail_cons, List.length_cons, List.length_nil, ne_eq, reduceCtorEq, false_or, or_false, not_false_eq_true, Nat.reduceEqDiff, Nat.reduceLT, am_sw, bI_0, bI_z, bI_y, Classical.not_not, Nat.le_add_left, am_u_row2, am_r_row2, am_u_same, am_u_at, am_r_same, Int32.reduceLT, Int32.reduceLE, Int32.reduceAdd, Int32.reduceSub, Int32.reduceMul, forall_const, not_true_eq_false, implies_true, false_imp_iff, true_imp_iff, i_10, i_01, i_m10, i_m11, eq_self, or_self, false_and, and_false, and_self, am_so_some, am_pv_some, am_pv_none, l_cl_none, l_cl_int, l_cl_ref, l_cl_ra, l_cl_null, l_cl_long, cat_int, cat_ref, cat_long, cat_ra, cat_null, cl_0, cl_1, cl_2, cl_3, cl_4, cl_5, cl_6, cl_7, cl_8, cl_9, cl_10, cl_11, cl_12, cl_13, cl_14, cl_15, cl_16, cl_30, cl_64, cl_500, vl_0_2, vl_0_3, vl_0_4, vl_0_6, vl_0_7, vl_0_12, vl_0_16, vl_0_1400, vl_1_2, vl_1_3, vl_1_4, vl_1_6, vl_1_7, vl_1_12, vl_1_16, vl_1_1400, vl_2_3, vl_2_4, vl_2_6, vl_2_7, vl_2_12, vl_2_16, vl_2_1400, vl_3_4, vl_3_6, vl_3_7, vl_3_12, vl_3_16, vl_3_1400, vl_4_6, vl_4_7, vl_4_12, vl_4_16, vl_4_1400, vl_5_6, vl_5_7, vl_5_12, vl_5_16, vl_5_1400, vl_6_7, vl_6_12, vl_6_16, vl_6_1400, vl_7_12, vl_7_16, vl_8_12, vl_8_16, vl_9_12, vl_9_16, vl_10_12, vl_10_16, vl_11_12, vl_11_16, i_64le_e, i64a_0, i64b_0, i64a_1, i64b_1, i64a_2, i64b_2, i64a_3, i64b_3, i64a_4, i64b_4, i64a_5, i64b_5, i64a_7, i64b_7, i64a_8, i64b_8, i64a_9, i64b_9, i64a_10, i64b_10, i64a_16, i64b_16, i64a_50, i64b_50, i64a_m50, i64b_m50, i64a_60, i64b_60, i64a_99, i64b_99, i64a_100, i64b_100, i64a_500, i64b_500, i64a_600, i64b_600, i64a_1000, i64b_1000, i64a_1000000, i64b_1000000, i64a_m9, i64b_m9, e_s_16, e_i_16, e_l_16, e_p_16_0, e_p_16_1, e_p_16_2, e_p_16_3, e_p_16_4, e_p_16_5, e_s_23, e_i_23, e_l_23, e_p_23_0, e_p_23_1, e_p_23_2, e_p_23_3, e_p_23_4, e_p_23_5, e_p_23_6, e_s_48, e_i_48, e_l_48, e_p_48_0, e_p_48_1, e_p_48_2, e_p_48_3, e_p_48_5, e_s_62, e_i_62, e_l_62, e_p_62_0, e_p_62_1, e_p_62_2, e_p_62_3, e_p_62_4, e_p_62_5, e_p_62_6, e_p_62_7, e_p_62_12, e_s_63, e_i_63, e_l_63, e_s_64, e_i_64, e_l_64, e_s_65, e_i_65, e_l_65, e_s_66, e_i_66, e_l_66, e_s_67, e_i_67, e_l_67, e_s_68, e_i_68, e_l_68, a7, h11, hE]
      by_cases c0 : i < m - 1
      · have c1 : ¬ m < i + 2 := by omega
        simp (disch := omega) only [c1, nI_clamp, nI_le', nI_lt', nI_eq', rem2_1, rem2_0, nI_eq0, nI_le0, nI_0lt, nI_0le, nI_lt0, nI_m1, vp_inE, nm_nI, i_20, nI_1, nI_add, and_true, true_and, and_self, or_true, true_or, or_false, false_or, false_and, and_false, not_true_eq_false, not_false_eq_true, if_true, if_false, ite_true, ite_false, false_imp_iff, true_imp_iff, rsn_00, rsn_10, rsn_01, rsn_11, n_09, n_19, n_29, n_99, implies_true, bI_t, bI_f, or_self, ne_eq, eq_self, Classical.not_not, Bool.false_eq_true]
        refine ⟨fun y => ?_, fun y => ?_⟩
        · refine fin (nx_stay (fun n hn => dfS_few n [] (cntM_nil _) ?_ (by omega) _) (m - 1) (by omega))
          rw [List.length_nil]; omega
        · refine ⟨fun y2 => ?_, fun y2 => ?_⟩
          · have sat : satS V (nxS V a i) := by
              cases hs : nxS V a i with
              | none =>
                rw [hs] at hb
                have hb : M' 62 14 = -1 := hb
                rw [hb] at y2
                exact absurd (Int32.lt_of_lt_of_le (show (-1 : Int32) < 0 by decide) (Int32.le_trans (nI_pos' (n := nL V * nL V / 3) (by omega)) y2)) Int32.lt_irrefl
              | some w =>
                rw [hs] at hb qk
                have q1 := (qk w.1 w.2 rfl).1
                have b14 : M' 62 14 = nI w.1 := hb.1
                rw [b14, nI_leI (by omega) (by omega)] at y2
                exact ⟨w.1, w.2, rfl, y2⟩
            exact fin (nx_stay (fun n hn => dfS_sat n6 sat n []) (m - 1) (by omega))
          · refine am_cal_no rfl ?_
            rw [show d + 8 = d + (3 - (i + 1)) + (i + 1) + 5 by omega]
            have f1 : Fr csY fsZ M (am_u M' 62 10 (nI (i + 2))) := f.uf (by decide)
            refine c_Finder_extend hE hI hP (a := a) (i + 2) (by omega) (i + 1) X (d + (3 - (i + 1))) _ (am_u M' 62 10 (nI (i + 2))) L [] (nxS V a i) (hC.fr (f1.mono (by decide) (by decide))) am_u_same ?_ ?_ ?_ (by rw [List.length_nil]; omega) (fun s hs => by cases hs) (fun j hj => (Nat.not_lt_zero j hj).elim) (qk.up (by omega)) ?_ ?_
            · rw [am_u_ne (by decide)]; exact h11
            · exact hFs.of (am_u_ne (by decide)) (u_row (by decide)) (u_row (by decide)) (u_row (by decide)) (u_row (by decide))
            · intro s hs; rw [u_row (by decide)]; exact hU s hs
            · exact hb.of (am_u_ne (by decide)) (am_u_ne (by decide)) (u_row (by decide))
            · intro M2 g2 F2 U2 z2 b2
              simp only [s_aload_0_ref, s_get0, s_get2, s_goto, s_ic_ge, s_ic_gt, s_ic_ne, s_iconst, s_idiv, s_iinc_3, s_iload_1_int, s_iload_2_int, s_iload_3_int, s_imul, s_istore_3_int, s_iv_1, s_put0, s_return, J_Finder_find_0, b_Finder_find_0, J_Finder_find_17, b_Finder_find_17, J_Finder_find_103, b_Finder_find_103, J_Finder_find_60, b_Finder_find_60, s_end, true_and, and_true, or_true, true_or, if_true, if_false, ite_true, ite_false, List.map_nil, List.map_cons, List.sum_nil, List.sum_cons, List.nil_append, List.cons_append, Option.toList_some, Option.toList_none, Nat.reduceAdd, Nat.reduceLeDiff, Nat.reduceSub, Nat.zero_le, List.headD_cons, List.tail_cons, List.length_cons, List.length_nil, ne_eq, reduceCtorEq, false_or, or_false, not_false_eq_true, Nat.reduceEqDiff, Nat.reduceLT, am_sw, bI_0, bI_z, bI_y, Classical.not_not, Nat.le_add_left, am_u_row2, am_r_row2, am_u_same, am_u_at, am_r_same, Int32.reduceLT, Int32.reduceLE, Int32.reduceAdd, Int32.reduceSub, Int32.reduceMul, forall_const, not_true_eq_false, implies_true, false_imp_iff, true_imp_iff, i_10, i_01, i_m10, i_m11, eq_self, or_self, false_and, and_false, and_self, am_so_some, am_pv_some, am_pv_none, l_cl_none, l_cl_int, l_cl_ref, l_cl_ra, l_cl_null, l_cl_long, cat_int, cat_ref, cat_long, cat_ra, cat_null, cl_0, cl_1, cl_2, cl_3, cl_4, cl_5, cl_6, cl_7, cl_8, cl_9, cl_10, cl_11, cl_12, cl_13, cl_14, cl_15, cl_16, cl_30, cl_64, cl_500, vl_0_2, vl_0_3, vl_0_4, vl_0_6, vl_0_7, vl_0_12, vl_0_16, vl_0_1400, vl_1_2, vl_1_3, vl_1_4, vl_1_6, vl_1_7, vl_1_12, vl_1_16, vl_1_1400, vl_2_3, vl_2_4, vl_2_6, vl_2_7, vl_2_12, vl_2_16, vl_2_1400, vl_3_4, vl_3_6, vl_3_7, vl_3_12, vl_3_16, vl_3_1400, vl_4_6, vl_4_7, vl_4_12, vl_4_16, vl_4_1400, vl_5_6, vl_5_7, vl_5_12, vl_5_16, vl_5_1400, vl_6_7, vl_6_12, vl_6_16, vl_6_1400, vl_7_12, vl_7_16, vl_8_12, vl_8_16, vl_9_12, vl_9_16, vl_10_12, vl_10_16, vl_11_12, vl_11_16, i_64le_e, i64a_0, i64b_0, i64a_1, i64b_1, i64a_2, i64b_2, i64a_3, i64b_3, i64a_4, i64b_4, i64a_5, i64b_5, i64a_7, i64b_7, i64a_8, i64b_8, i64a_9, i64b_9, i64a_10, i64b_10, i64a_16, i64b_16, i64a_50, i64b_50, i64a_m50, i64b_m50, i64a_60, i64b_60, i64a_99, i64b_99, i64a_100, i64b_100, i64a_500, i64b_500, i64a_600, i64b_600, i64a_1000, i64b_1000, i64a_1000000, i64b_1000000, i64a_m9, i64b_m9, e_s_16, e_i_16, e_l_16, e_p_16_0, e_p_16_1, e_p_16_2, e_p_16_3, e_p_16_4, e_p_16_5, e_s_23, e_i_23, e_l_23, e_p_23_0, e_p_23_1, e_p_23_2, e_p_23_3, e_p_23_4, e_p_23_5, e_p_23_6, e_s_48, e_i_48, e_l_48, e_p_48_0, e_p_48_1, e_p_48_2, e_p_48_3, e_p_48_5, e_s_62, e_i_62, e_l_62, e_p_62_0, e_p_62_1, e_p_62_2, e_p_62_3, e_p_62_4, e_p_62_5, e_p_62_6, e_p_62_7, e_p_62_12, e_s_63, e_i_63, e_l_63, e_s_64, e_i_64, e_l_64, e_s_65, e_i_65, e_l_65, e_s_66, e_i_66, e_l_66, e_s_67, e_i_67, e_l_67, e_s_68, e_i_68, e_l_68, hE]
              have o2 : M2 65 0 = 0 := F2.od 0 (Nat.le_refl _)
              refine ih c0 M2 (f1.trans (g2.mono (by decide) (by decide))) ?_ ?_ F2 U2 ⟨o2, fun l hl => ?_⟩ b2
              · rw [g2 62 8 (by decide) (by decide), am_u_ne (by decide)]; exact h8
              · rw [g2 62 11 (by decide) (by decide), am_u_ne (by decide)]; exact h11
              · have a1 := z2 l hl
                rw [u_row (by decide), u_row (by decide)] at a1
                exact ⟨a1.1.trans (h0.2 l hl).1, a1.2.trans (h0.2 l hl).2⟩
      · have e : i = m - 1 := by omega
        have c1 : m < i + 2 := by omega
        simp (disch := omega) only [c1, nI_clamp, nI_le', nI_lt', nI_eq', rem2_1, rem2_0, nI_eq0, nI_le0, nI_0lt, nI_0le, nI_lt0, nI_m1, vp_inE, nm_nI, i_20, nI_1, nI_add, and_true, true_and, and_self, or_true, true_or, or_false, false_or, false_and, and_false, not_true_eq_false, not_false_eq_true, if_true, if_false, ite_true, ite_false, false_imp_iff, true_imp_iff, rsn_00, rsn_10, rsn_01, rsn_11, n_09, n_19, n_29, n_99, implies_true, bI_t, bI_f, or_self, ne_eq, eq_self, Classical.not_not, Bool.false_eq_true]
        exact fin (by rw [e])
    refine loop 0 (by omega) M0 g0 z8 z11 ?_ ?_ ?_ z14
    · refine ⟨z9, fun j hj => (Nat.not_lt_zero j hj).elim, fun j hj => ?_, fun j l hj hl => ?_, fun j l hj hl => ?_⟩
      · rw [show j = 0 from Nat.le_zero.mp hj, w65]; exact hF.o0
      · rw [show j = 0 from Nat.le_zero.mp hj, Nat.mul_zero, Nat.zero_add, w66]; exact (hF.s0 l (by omega)).1
      · rw [show j = 0 from Nat.le_zero.mp hj, Nat.mul_zero, Nat.zero_add, w67]; exact (hF.s0 l (by omega)).2
    · intro s hs; rw [w63]; exact hF.us s hs
    · rw [w65, w66, w67]; exact ⟨hF.o0, hF.s0⟩
  refine EE_Finder_find pt38_ok ?_
  simp only [s_aload_0_ref, s_get0, s_get2, s_goto, s_ic_ge, s_ic_gt, s_ic_ne, s_iconst, s_idiv, s_iinc_3, s_iload_1_int, s_iload_2_int, s_iload_3_int, s_imul, s_istore_3_int, s_iv_1, s_put0, s_return, J_Finder_find_0, b_Finder_find_0, b_Finder_find_17, J_Finder_find_103, b_Finder_find_103, J_Finder_find_60, b_Finder_find_60, s_end, true_and, and_true, or_true, true_or, if_true, if_false, ite_true, ite_false, List.map_nil, List.map_cons, List.sum_nil, List.sum_cons, List.nil_append, List.cons_append, Option.toList_some, Option.toList_none, Nat.reduceAdd, Nat.reduceLeDiff, Nat.reduceSub, Nat.zero_le, List.headD_cons, List.tail_cons, List.length_cons, List.length_nil, ne_eq, reduceCtorEq, false_or, or_false, not_false_eq_true, Nat.reduceEqDiff, Nat.reduceLT, am_sw, bI_0, bI_z, bI_y, Classical.not_not, Nat.le_add_left, am_u_row2, am_r_row2, am_u_same, am_u_at, am_r_same, Int32.reduceLT, Int32.reduceLE, Int32.reduceAdd, Int32.reduceSub, Int32.reduceMul, forall_const, not_true_eq_false, implies_true, false_imp_iff, true_imp_iff, i_10, i_01, i_m10, i_m11, eq_self, or_self, false_and, and_false, and_self, am_so_some, am_pv_some, am_pv_none, l_cl_none, l_cl_int, l_cl_ref, l_cl_ra, l_cl_null, l_cl_long, cat_int, cat_ref, cat_long, cat_ra, cat_null, cl_0, cl_1, cl_2, cl_3, cl_4, cl_5, cl_6, cl_7, cl_8, cl_9, cl_10, cl_11, cl_12, cl_13, cl_14, cl_15, cl_16, cl_30, cl_64, cl_500, vl_0_2, vl_0_3, vl_0_4, vl_0_6, vl_0_7, vl_0_12, vl_0_16, vl_0_1400, vl_1_2, vl_1_3, vl_1_4, vl_1_6, vl_1_7, vl_1_12, vl_1_16, vl_1_1400, vl_2_3, vl_2_4, vl_2_6, vl_2_7, vl_2_12, vl_2_16, vl_2_1400, vl_3_4, vl_3_6, vl_3_7, vl_3_12, vl_3_16, vl_3_1400, vl_4_6, vl_4_7, vl_4_12, vl_4_16, vl_4_1400, vl_5_6, vl_5_7, vl_5_12, vl_5_16, vl_5_1400, vl_6_7, vl_6_12, vl_6_16, vl_6_1400, vl_7_12, vl_7_16, vl_8_12, vl_8_16, vl_9_12, vl_9_16, vl_10_12, vl_10_16, vl_11_12, vl_11_16, i_64le_e, i64a_0, i64b_0, i64a_1, i64b_1, i64a_2, i64b_2, i64a_3, i64b_3, i64a_4, i64b_4, i64a_5, i64b_5, i64a_7, i64b_7, i64a_8, i64b_8, i64a_9, i64b_9, i64a_10, i64b_10, i64a_16, i64b_16, i64a_50, i64b_50, i64a_m50, i64b_m50, i64a_60, i64b_60, i64a_99, i64b_99, i64a_100, i64b_100, i64a_500, i64b_500, i64a_600, i64b_600, i64a_1000, i64b_1000, i64a_1000000, i64b_1000000, i64a_m9, i64b_m9, e_s_16, e_i_16, e_l_16, e_p_16_0, e_p_16_1, e_p_16_2, e_p_16_3, e_p_16_4, e_p_16_5, e_s_23, e_i_23, e_l_23, e_p_23_0, e_p_23_1, e_p_23_2, e_p_23_3, e_p_23_4, e_p_23_5, e_p_23_6, e_s_48, e_i_48, e_l_48, e_p_48_0, e_p_48_1, e_p_48_2, e_p_48_3, e_p_48_5, e_s_62, e_i_62, e_l_62, e_p_62_0, e_p_62_1, e_p_62_2, e_p_62_3, e_p_62_4, e_p_62_5, e_p_62_6, e_p_62_7, e_p_62_12, e_s_63, e_i_63, e_l_63, e_s_64, e_i_64, e_l_64, e_s_65, e_i_65, e_l_65, e_s_66, e_i_66, e_l_66, e_s_67, e_i_67, e_l_67, e_s_68, e_i_68, e_l_68, hE]
  rcases hF.ca with e8 | ⟨m', a', b1, b2, b3, b4, b5, b6⟩
  · have c1 : ¬ nI m = M 62 8 := fun w => by
      rw [e8, nI_eq0 (by omega)] at w
      omega
    refine ⟨fun _ => full _, fun w => absurd w c1⟩
  · refine ⟨fun _ => full _, fun w => ⟨fun _ => full _, fun w2 => ?_⟩⟩
    have e1 : m = m' := by
      rw [b4, nI_eq (by omega) (by omega)] at w
      exact w
    subst e1
    have e2 : a = a' := w2.trans b5
    subst e2
    exact k M Fr.refl hF b6
theorem c_L_next {m a w : Int32} (hE : am_env S) (hC : CV V M) (hI : IV V) (hP : IVp V) (hF : FnR V M) (k : ∀ M', Fr csY fsZ M M' → FnR V M' → K (some (.int (s_next V m a w))) S M' L) : am_Call X (d + 10) m_L_next [.ref 0, .int m, .int a, .int w] S M L K := by
  have n12 := hI.ns.2
  have n6 := hP.nl.2
  have e8 : M 23 7 = nI (nS V) := hC.st.f7.trans hI.ns.1
  have e2 : (2 ≤ nI (nS V)) = (2 ≤ nS V) := nI_le' (a := 2) (by omega) (by omega)
  unfold s_next at k
  refine EE_L_next pt38_ok ?_
  simp only [s_aload_0_ref, s_bipush, s_get0, s_get2, s_goto, s_iald, s_ic_ge, s_ic_ne, s_iconst, s_if_eq, s_if_ne, s_iload_1_int, s_iload_2_int, s_iload_3_int, s_ireturn, s_ist_3, s_isub, s_iv_2, J_L_next_0, b_L_next_0, J_L_next_31, b_L_next_31, J_L_next_33, b_L_next_33, J_L_next_47, b_L_next_47, J_L_next_70, b_L_next_70, J_L_next_83, b_L_next_83, J_L_next_106, b_L_next_106, J_L_next_107, b_L_next_107, s_end, true_and, and_true, or_true, true_or, if_true, if_false, ite_true, ite_false, List.map_nil, List.map_cons, List.sum_nil, List.sum_cons, List.nil_append, List.cons_append, Option.toList_some, Option.toList_none, Nat.reduceAdd, Nat.reduceLeDiff, Nat.reduceSub, Nat.zero_le, List.headD_cons, List.tail_cons, List.length_cons, List.length_nil, ne_eq, reduceCtorEq, false_or, or_false, not_false_eq_true, Nat.reduceEqDiff, Nat.reduceLT, am_sw, bI_0, bI_z, bI_y, Classical.not_not, Nat.le_add_left, am_u_row2, am_r_row2, am_u_same, am_u_at, am_r_same, Int32.reduceLT, Int32.reduceLE, Int32.reduceAdd, Int32.reduceSub, Int32.reduceMul, forall_const, not_true_eq_false, implies_true, false_imp_iff, true_imp_iff, i_10, i_01, i_m10, i_m11, eq_self, or_self, false_and, and_false, and_self, am_so_some, am_pv_some, am_pv_none, l_cl_none, l_cl_int, l_cl_ref, l_cl_ra, l_cl_null, l_cl_long, cat_int, cat_ref, cat_long, cat_ra, cat_null, cl_0, cl_1, cl_2, cl_3, cl_4, cl_5, cl_6, cl_7, cl_8, cl_9, cl_10, cl_11, cl_12, cl_13, cl_14, cl_15, cl_16, cl_30, cl_64, cl_500, vl_0_2, vl_0_3, vl_0_4, vl_0_6, vl_0_7, vl_0_12, vl_0_16, vl_0_1400, vl_1_2, vl_1_3, vl_1_4, vl_1_6, vl_1_7, vl_1_12, vl_1_16, vl_1_1400, vl_2_3, vl_2_4, vl_2_6, vl_2_7, vl_2_12, vl_2_16, vl_2_1400, vl_3_4, vl_3_6, vl_3_7, vl_3_12, vl_3_16, vl_3_1400, vl_4_6, vl_4_7, vl_4_12, vl_4_16, vl_4_1400, vl_5_6, vl_5_7, vl_5_12, vl_5_16, vl_5_1400, vl_6_7, vl_6_12, vl_6_16, vl_6_1400, vl_7_12, vl_7_16, vl_8_12, vl_8_16, vl_9_12, vl_9_16, vl_10_12, vl_10_16, vl_11_12, vl_11_16, i_64le_e, i64a_0, i64b_0, i64a_1, i64b_1, i64a_2, i64b_2, i64a_3, i64b_3, i64a_4, i64b_4, i64a_5, i64b_5, i64a_7, i64b_7, i64a_8, i64b_8, i64a_9, i64b_9, i64a_10, i64b_10, i64a_16, i64b_16, i64a_50, i64b_50, i64a_m50, i64b_m50, i64a_60, i64b_60, i64a_99, i64b_99, i64a_100, i64b_100, i64a_500, i64b_500, i64a_600, i64b_600, i64a_1000, i64b_1000, i64a_1000000, i64b_1000000, i64a_m9, i64b_m9, e_s_0, e_i_0, e_l_0, e_p_0_0, e_p_0_1, e_p_0_2, e_p_0_3, e_p_0_4, e_p_0_5, e_p_0_6, e_p_0_7, e_p_0_8, e_p_0_9, e_p_0_10, e_p_0_11, e_p_0_12, e_p_0_13, e_s_1, e_i_1, e_l_1, e_s_2, e_i_2, e_l_2, e_p_2_0, e_p_2_1, e_p_2_2, e_p_2_3, e_s_7, e_i_7, e_l_7, e_p_7_0, e_p_7_1, e_p_7_3, e_s_16, e_i_16, e_l_16, e_p_16_0, e_p_16_1, e_p_16_2, e_p_16_3, e_p_16_4, e_p_16_5, e_s_23, e_i_23, e_l_23, e_p_23_0, e_p_23_1, e_p_23_2, e_p_23_3, e_p_23_4, e_p_23_5, e_p_23_6, e_s_31, e_i_31, e_l_31, e_p_31_0, e_p_31_1, e_p_31_2, e_p_31_3, e_p_31_4, e_p_31_5, e_p_31_6, e_s_39, e_i_39, e_l_39, e_p_39_0, e_p_39_1, e_p_39_2, e_p_39_3, e_p_39_4, e_p_39_5, e_p_39_6, e_s_47, e_i_47, e_l_47, e_s_48, e_i_48, e_l_48, e_p_48_0, e_p_48_1, e_p_48_2, e_p_48_3, e_p_48_5, e_s_51, e_i_51, e_l_51, e_p_51_0, e_p_51_1, e_p_51_2, e_p_51_3, e_p_51_4, e_s_54, e_i_54, e_l_54, e_p_54_0, e_p_54_1, e_p_54_2, e_p_54_3, e_p_54_4, e_p_54_5, e_p_54_6, e_p_54_7, e_s_61, e_i_61, e_l_61, e_p_61_0, e_p_61_1, e_s_62, e_i_62, e_l_62, e_p_62_0, e_p_62_1, e_p_62_2, e_p_62_3, e_p_62_4, e_p_62_5, e_p_62_6, e_p_62_7, e_p_62_12, e_s_68, e_i_68, e_l_68, e_s_69, e_i_69, e_l_69, pt38_L_within, e8, e2, hE]
  by_cases h1 : 2 ≤ m ∧ m ≤ 4
  · by_cases h2 : 8 ≤ a ∧ a ≤ 60
    · by_cases h3 : 2 ≤ nS V
      · rw [if_pos ⟨h1, h2, h3⟩] at k
        simp only [h1, h2, h3, and_true, true_and, and_self, or_true, true_or, or_false, false_or, false_and, and_false, not_true_eq_false, not_false_eq_true, if_true, if_false, ite_true, ite_false, false_imp_iff, true_imp_iff, rsn_00, rsn_10, rsn_01, rsn_11, n_09, n_19, n_29, n_99, implies_true, bI_t, bI_f, or_self, ne_eq, eq_self, Classical.not_not, Bool.false_eq_true]
        obtain ⟨j, hj, rfl⟩ := nI_of2 (M := 4) (n := 4) rfl (Int32.not_lt.mpr (Int32.le_trans (by decide) h1.1)) h1.2
        have hj2 : 2 ≤ j := by
          have := h1.1
          rw [show (2 : Int32) = nI 2 from rfl, nI_leI (by omega) (by omega)] at this
          exact this
        rw [nm_nI (by omega)] at k
        have ej : (w ≤ nI j - 1) = (w < nI j) := propext (i_pred (by omega))
        simp only [ej]
        have ns := nxS_some (V := V) (a := a) h3 (j - 2)
        rw [show j - 2 + 1 = j - 1 by omega] at ns
        have nk := nxS_ok (V := V) (a := a) n6 (j - 1)
        refine ⟨fun y => ?_, fun y => ?_⟩
        · refine am_cal_no rfl (c_Finder_find hE hC.t hI hP hF hj2 hj h3 ?_)
          intro M' f hF' hb
          have k := k M' f hF'
          cases hq : nxS V a (j - 1) with
          | none => exact absurd hq ns
          | some u =>
            rw [hq] at k nk hb
            obtain ⟨q1, q2⟩ := nk u.1 u.2 rfl
            obtain ⟨b1, b2, b3⟩ := hb
            have b1 : M' 62 14 = nI u.1 := b1
            have b2 : M' 62 13 = nI u.2.length := b2
            have k : K (some (.int (if w = -2 then nI u.1 else if w = -1 then nI u.2.length else if 0 ≤ w ∧ w < nI u.2.length then nI (u.2.getD (nm w) 0) else -1))) S M' L := k
            simp only [s_aload_0_ref, s_bipush, s_get0, s_get2, s_goto, s_iald, s_ic_ge, s_ic_ne, s_iconst, s_if_eq, s_if_ne, s_iload_1_int, s_iload_2_int, s_iload_3_int, s_ireturn, s_ist_3, s_isub, s_iv_2, J_L_next_0, b_L_next_0, J_L_next_31, b_L_next_31, J_L_next_33, b_L_next_33, J_L_next_47, b_L_next_47, J_L_next_70, b_L_next_70, J_L_next_83, b_L_next_83, J_L_next_106, b_L_next_106, J_L_next_107, b_L_next_107, s_end, true_and, and_true, or_true, true_or, if_true, if_false, ite_true, ite_false, List.map_nil, List.map_cons, List.sum_nil, List.sum_cons, List.nil_append, List.cons_append, Option.toList_some, Option.toList_none, Nat.reduceAdd, Nat.reduceLeDiff, Nat.reduceSub, Nat.zero_le, List.headD_cons, List.tail_cons, List.length_cons, List.length_nil, ne_eq, reduceCtorEq, false_or, or_false, not_false_eq_true, Nat.reduceEqDiff, Nat.reduceLT, am_sw, bI_0, bI_z, bI_y, Classical.not_not, Nat.le_add_left, am_u_row2, am_r_row2, am_u_same, am_u_at, am_r_same, Int32.reduceLT, Int32.reduceLE, Int32.reduceAdd, Int32.reduceSub, Int32.reduceMul, forall_const, not_true_eq_false, implies_true, false_imp_iff, true_imp_iff, i_10, i_01, i_m10, i_m11, eq_self, or_self, false_and, and_false, and_self, am_so_some, am_pv_some, am_pv_none, l_cl_none, l_cl_int, l_cl_ref, l_cl_ra, l_cl_null, l_cl_long, cat_int, cat_ref, cat_long, cat_ra, cat_null, cl_0, cl_1, cl_2, cl_3, cl_4, cl_5, cl_6, cl_7, cl_8, cl_9, cl_10, cl_11, cl_12, cl_13, cl_14, cl_15, cl_16, cl_30, cl_64, cl_500, vl_0_2, vl_0_3, vl_0_4, vl_0_6, vl_0_7, vl_0_12, vl_0_16, vl_0_1400, vl_1_2, vl_1_3, vl_1_4, vl_1_6, vl_1_7, vl_1_12, vl_1_16, vl_1_1400, vl_2_3, vl_2_4, vl_2_6, vl_2_7, vl_2_12, vl_2_16, vl_2_1400, vl_3_4, vl_3_6, vl_3_7, vl_3_12, vl_3_16, vl_3_1400, vl_4_6, vl_4_7, vl_4_12, vl_4_16, vl_4_1400, vl_5_6, vl_5_7, vl_5_12, vl_5_16, vl_5_1400, vl_6_7, vl_6_12, vl_6_16, vl_6_1400, vl_7_12, vl_7_16, vl_8_12, vl_8_16, vl_9_12, vl_9_16, vl_10_12, vl_10_16, vl_11_12, vl_11_16, i_64le_e, i64a_0, i64b_0, i64a_1, i64b_1, i64a_2, i64b_2, i64a_3, i64b_3, i64a_4, i64b_4, i64a_5, i64b_5, i64a_7, i64b_7, i64a_8, i64b_8, i64a_9, i64b_9, i64a_10, i64b_10, i64a_16, i64b_16, i64a_50, i64b_50, i64a_m50, i64b_m50, i64a_60, i64b_60, i64a_99, i64b_99, i64a_100, i64b_100, i64a_500, i64b_500, i64a_600, i64b_600, i64a_1000, i64b_1000, i64a_1000000, i64b_1000000, i64a_m9, i64b_m9, e_s_0, e_i_0, e_l_0, e_p_0_0, e_p_0_1, e_p_0_2, e_p_0_3, e_p_0_4, e_p_0_5, e_p_0_6, e_p_0_7, e_p_0_8, e_p_0_9, e_p_0_10, e_p_0_11, e_p_0_12, e_p_0_13, e_s_1, e_i_1, e_l_1, e_s_2, e_i_2, e_l_2, e_p_2_0, e_p_2_1, e_p_2_2, e_p_2_3, e_s_7, e_i_7, e_l_7, e_p_7_0, e_p_7_1, e_p_7_3, e_s_16, e_i_16, e_l_16, e_p_16_0, e_p_16_1, e_p_16_2, e_p_16_3, e_p_16_4, e_p_16_5, e_s_23, e_i_23, e_l_23, e_p_23_0, e_p_23_1, e_p_23_2, e_p_23_3, e_p_23_4, e_p_23_5, e_p_23_6, e_s_31, e_i_31, e_l_31, e_p_31_0, e_p_31_1, e_p_31_2, e_p_31_3, e_p_31_4, e_p_31_5, e_p_31_6, e_s_39, e_i_39, e_l_39, e_p_39_0, e_p_39_1, e_p_39_2, e_p_39_3, e_p_39_4, e_p_39_5, e_p_39_6, e_s_47, e_i_47, e_l_47, e_s_48, e_i_48, e_l_48, e_p_48_0, e_p_48_1, e_p_48_2, e_p_48_3, e_p_48_5, e_s_51, e_i_51, e_l_51, e_p_51_0, e_p_51_1, e_p_51_2, e_p_51_3, e_p_51_4, e_s_54, e_i_54, e_l_54, e_p_54_0, e_p_54_1, e_p_54_2, e_p_54_3, e_p_54_4, e_p_54_5, e_p_54_6, e_p_54_7, e_s_61, e_i_61, e_l_61, e_p_61_0, e_p_61_1, e_s_62, e_i_62, e_l_62, e_p_62_0, e_p_62_1, e_p_62_2, e_p_62_3, e_p_62_4, e_p_62_5, e_p_62_6, e_p_62_7, e_p_62_12, e_s_68, e_i_68, e_l_68, e_s_69, e_i_69, e_l_69, pt38_L_within, b1, b2, hE]
            refine ⟨fun y1 => ⟨fun y2 => ⟨fun y3 => ?_, fun y3 => ?_⟩, fun y2 => ?_⟩, fun y1 => ?_⟩
            · rw [if_neg y1, if_neg y2, if_neg (fun z => absurd z.2 (Int32.not_lt.mpr y3))] at k; exact k
            · have w0 : 0 ≤ w := by
                have a1 := Int32.le_iff_toInt_le.mp y.1
                rw [show (-2 : Int32).toInt = -2 from rfl] at a1
                have a2 : w.toInt ≠ -2 := fun e => y1 (Int32.toInt_inj.mp e)
                have a3 : w.toInt ≠ -1 := fun e => y2 (Int32.toInt_inj.mp e)
                apply Int32.le_iff_toInt_le.mpr
                rw [show (0 : Int32).toInt = 0 from rfl]
                omega
              have w1 : w < nI u.2.length := Int32.not_le.mp y3
              rw [if_neg y1, if_neg y2, if_pos ⟨w0, w1⟩] at k
              obtain ⟨t, ht, rfl⟩ := inN.ix ⟨w0, w1⟩ (by omega)
              rw [nm_nI (by omega)] at k
              have b4 := b3 t ht
              simp (disch := omega) only [b4, nI_clamp, nI_le', nI_lt', nI_eq', rem2_1, rem2_0, nI_eq0, nI_le0, nI_0lt, nI_0le, nI_lt0, nI_m1, vp_inE, nm_nI, i_20, nI_1, nI_add, and_true, true_and, and_self, or_true, true_or, or_false, false_or, false_and, and_false, not_true_eq_false, not_false_eq_true, if_true, if_false, ite_true, ite_false, false_imp_iff, true_imp_iff, rsn_00, rsn_10, rsn_01, rsn_11, n_09, n_19, n_29, n_99, implies_true, bI_t, bI_f, or_self, ne_eq, eq_self, Classical.not_not, Bool.false_eq_true]
              exact k
            · rw [if_neg y1, if_pos y2] at k; exact k
            · rw [if_pos y1] at k; exact k
        · have k := k M Fr.refl hF
          cases hq : nxS V a (j - 1) with
          | none => exact absurd hq ns
          | some u =>
            rw [hq] at k nk
            obtain ⟨q1, q2⟩ := nk u.1 u.2 rfl
            have k : K (some (.int (if w = -2 then nI u.1 else if w = -1 then nI u.2.length else if 0 ≤ w ∧ w < nI u.2.length then nI (u.2.getD (nm w) 0) else -1))) S M L := k
            rw [if_neg (fun e => y (by rw [e]; exact ⟨by decide, Int32.lt_of_lt_of_le (by decide) (nI_pos' (n := j) (by omega))⟩)), if_neg (fun e => y (by rw [e]; exact ⟨by decide, Int32.lt_of_lt_of_le (by decide) (nI_pos' (n := j) (by omega))⟩)), if_neg] at k
            · exact k
            · intro z
              exact y ⟨Int32.le_trans (by decide) z.1, Int32.lt_of_lt_of_le z.2 ((nI_leI (by omega) (by omega)).mpr (by omega))⟩
      · rw [if_neg (fun q => h3 q.2.2)] at k
        simp only [h1, h2, h3, and_true, true_and, and_self, or_true, true_or, or_false, false_or, false_and, and_false, not_true_eq_false, not_false_eq_true, if_true, if_false, ite_true, ite_false, false_imp_iff, true_imp_iff, rsn_00, rsn_10, rsn_01, rsn_11, n_09, n_19, n_29, n_99, implies_true, bI_t, bI_f, or_self, ne_eq, eq_self, Classical.not_not, Bool.false_eq_true]
        exact k M Fr.refl hF
    · rw [if_neg (fun q => h2 q.2.1)] at k
      simp only [h1, h2, and_true, true_and, and_self, or_true, true_or, or_false, false_or, false_and, and_false, not_true_eq_false, not_false_eq_true, if_true, if_false, ite_true, ite_false, false_imp_iff, true_imp_iff, rsn_00, rsn_10, rsn_01, rsn_11, n_09, n_19, n_29, n_99, implies_true, bI_t, bI_f, or_self, ne_eq, eq_self, Classical.not_not, Bool.false_eq_true]
      exact k M Fr.refl hF
  · rw [if_neg (fun q => h1 q.1)] at k
    simp only [h1, and_true, true_and, and_self, or_true, true_or, or_false, false_or, false_and, and_false, not_true_eq_false, not_false_eq_true, if_true, if_false, ite_true, ite_false, false_imp_iff, true_imp_iff, rsn_00, rsn_10, rsn_01, rsn_11, n_09, n_19, n_29, n_99, implies_true, bI_t, bI_f, or_self, ne_eq, eq_self, Classical.not_not, Bool.false_eq_true]
    exact k M Fr.refl hF
end T86
