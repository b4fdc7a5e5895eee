section T83
variable {X : am_X} {d : Nat} {K : am_K} {S : am_S} {M : am_M} {L : am_L} {V : am_M}
theorem om_congr {f g : Nat → Int32} : ∀ j, (∀ i, i < j → f i = g i) → om V f j = om V g j := by
  intro j
  induction j with
  | zero => intro _; rfl
  | succ j ih =>
    intro h
    unfold om
    rw [ih (fun i hi => h i (by omega)), h j (by omega)]
theorem oA_congr {f g u w : Nat → Int32} : ∀ j, (∀ i, i < j → f i = g i) → (∀ i, i < j → u i = w i) → oA V f u j = oA V g w j := by
  intro j
  induction j with
  | zero => intros; rfl
  | succ j ih =>
    intro h h2
    unfold oA
    rw [ih (fun i hi => h i (by omega)) (fun i hi => h2 i (by omega)), h j (by omega), h2 j (by omega)]
theorem smN_congr {f g : Nat → Int32} {t : Nat} (ht : f t = g t) : ∀ j, (∀ i, i < j → f i = g i) → smN f t j = smN g t j := by
  intro j
  induction j with
  | zero => intro _; rfl
  | succ j ih =>
    intro h
    unfold smN
    rw [ih (fun i hi => h i (by omega)), h j (by omega), ht]
theorem sdOf_congr {l t : Nat} {f g : Nat → Int32} {a s : Int32} (h : ∀ i, i ≤ t → f i = g i) : sdOf V l f a t s = sdOf V l g a t s := by
  have e : nzS V f a t s = nzS V g a t s := by
    funext k
    unfold nzS
    rw [smN_congr (h t (Nat.le_refl _)) t (fun i hi => h i (by omega)), h t (Nat.le_refl _), h (t - 1) (by omega)]
  unfold sdOf
  rw [e]
theorem smI_congr {l : Nat} {f g : Nat → Int32} {a : Int32} : ∀ t, (∀ i, i < t → f i = g i) → smI V l f a t = smI V l g a t := by
  intro t
  induction t with
  | zero => intro _; rfl
  | succ t ih =>
    intro h
    show smI V l f a t + sdOf V l f a t (smI V l f a t) = smI V l g a t + sdOf V l g a t (smI V l g a t)
    rw [ih (fun i hi => h i (by omega)), sdOf_congr (fun i hi => h i (by omega))]
theorem sdI_congr {l t : Nat} {f g : Nat → Int32} {a : Int32} (h : ∀ i, i ≤ t → f i = g i) : sdI V l f a t = sdI V l g a t := by
  unfold sdI
  rw [smI_congr t (fun i hi => h i (by omega)), sdOf_congr h]
theorem sm_AC {l : Nat} {f : Nat → Int32} {a : Int32} : ∀ t, smI V l f a t = nI (oA V f (sdI V l f a) t + oC V f (sdI V l f a) t) := by
  intro t
  induction t with
  | zero => rfl
  | succ t ih =>
    obtain ⟨u1, u2⟩ := sdI_ok (V := V) (l := l) (f := f) (a := a) (n := t + 1) t (by omega)
    show smI V l f a t + sdI V l f a t = _
    rw [ih, u1, nI_add]
    have e1 : oA V f (sdI V l f a) (t + 1) = if oddV V (nm (f t)) then oA V f (sdI V l f a) t + nm (sdI V l f a t) else oA V f (sdI V l f a) t := rfl
    have e2 : oC V f (sdI V l f a) (t + 1) = if oddV V (nm (f t)) then oC V f (sdI V l f a) t else oC V f (sdI V l f a) t + nm (sdI V l f a t) := rfl
    rw [e1, e2]
    by_cases c : oddV V (nm (f t))
    · rw [if_pos c, if_pos c]; congr 1; omega
    · rw [if_neg c, if_neg c]; congr 1; omega
/-- the class's finder at a row's beginning p -/
def FSr (V M : am_M) (a : Int32) (p : List Nat) : Prop := (M 62 9 = a) ∧ (∀ j, j < p.length → M 64 j = fR p j) ∧ (∀ j, j ≤ p.length → M 65 j = nI (om V (fR p) j)) ∧ (∀ j l, j ≤ p.length → l < nL V → M 66 (6 * j + l) = smI V l (fR p) a j) ∧ (∀ j l, j ≤ p.length → l < nL V → M 67 (6 * j + l) = nI (oA V (fR p) (sdI V l (fR p) a) j))
theorem FSr.ag {V M : am_M} {a : Int32} {p : List Nat} (h : FSr V M a p) : M 62 9 = a := h.1
theorem FSr.ro {V M : am_M} {a : Int32} {p : List Nat} (h : FSr V M a p) : ∀ j, j < p.length → M 64 j = fR p j := h.2.1
theorem FSr.od {V M : am_M} {a : Int32} {p : List Nat} (h : FSr V M a p) : ∀ j, j ≤ p.length → M 65 j = nI (om V (fR p) j) := h.2.2.1
theorem FSr.su {V M : am_M} {a : Int32} {p : List Nat} (h : FSr V M a p) : ∀ j l, j ≤ p.length → l < nL V → M 66 (6 * j + l) = smI V l (fR p) a j := h.2.2.2.1
theorem FSr.os {V M : am_M} {a : Int32} {p : List Nat} (h : FSr V M a p) : ∀ j l, j ≤ p.length → l < nL V → M 67 (6 * j + l) = nI (oA V (fR p) (sdI V l (fR p) a) j) := h.2.2.2.2
theorem FSr.of {a : Int32} {p : List Nat} {M M' : am_M} (h : FSr V M a p) (e0 : M' 62 9 = M 62 9) (e1 : M' 64 = M 64) (e2 : M' 65 = M 65) (e3 : M' 66 = M 66) (e4 : M' 67 = M 67) : FSr V M' a p := by
  unfold FSr at h ⊢
  rw [e0, e1, e2, e3, e4]; exact h
theorem ix6 {j l : Nat} : nI j * 6 + nI l = nI (6 * j + l) := by
  rw [show (6 : Int32) = nI 6 from rfl, nI_mul, nI_add, Nat.mul_comm]
theorem c_Finder_place {a : Int32} {p : List Nat} {s : Nat} (hE : am_env S) (hC : CT V M) (hI : IV V) (hP : IVp V) (hF : FSr V M a p) (hp : p.length < 4) (hs : s < nS V) (hr : RowOk V (fR p) p.length) (k : ∀ M', Fr [22, 64, 65, 66, 67] fs49 M M' → FSr V M' a (p ++ [s]) → (∀ i, i < 6 → M' 66 i = M 66 i ∧ M' 67 i = M 67 i) → K none S M' L) : am_Call X (d + 4) m_Finder_place [.ref 62, .int (nI p.length), .int (nI s)] S M L K := by
  have n12 := hI.ns.2
  have n6 := hP.nl.2
  have f7 : M 16 7 = nI (nL V) := hC.pg.f7.trans hP.nl.1
  have l1 : (p ++ [s]).length = p.length + 1 := by rw [List.length_append, List.length_singleton]
  have fE : ∀ i, i < p.length → fR (p ++ [s]) i = fR p i := fun i hi => fR_app hi
  have fN : fR (p ++ [s]) p.length = nI s := fR_new
  have hr1 : RowOk V (fR (p ++ [s])) (p.length + 1) := by
    refine lt_add (fun j hj => ?_) ?_
    · rw [fE j hj]; exact hr j hj
    · rw [fN, nm_nI (by omega)]; exact ⟨rfl, hs⟩
  have od0 := hF.od p.length (Nat.le_refl _)
  have oml := om_le (V := V) (f := fR p) p.length
  have odE : om V (fR (p ++ [s])) (p.length + 1) = if oddV V s then om V (fR p) p.length + 1 else om V (fR p) p.length := by
    show (if oddV V (nm (fR (p ++ [s]) p.length)) then om V (fR (p ++ [s])) p.length + 1 else om V (fR (p ++ [s])) p.length) = _
    rw [om_congr p.length fE, fN, nm_nI (by omega)]
  refine EE_Finder_place pt38_ok ?_
  simp only [s_aload_0_ref, s_bipush, s_get0, s_get2, s_goto, s_iadd, s_iald, s_iast, s_ic_ge, s_iconst, s_if_eq, s_iinc_4, s_iload_1_int, s_iload_2_int, s_iload_3_int, s_iload_4_int, s_iload_5_int, s_iload_6_int, s_iload_7_int, s_imul, s_istore_3_int, s_istore_4_int, s_istore_5_int, s_istore_6_int, s_istore_7_int, s_iv_1, s_iv_6, s_return, J_Finder_place_0, b_Finder_place_0, J_Finder_place_37, b_Finder_place_37, J_Finder_place_38, b_Finder_place_38, J_Finder_place_138, b_Finder_place_138, J_Finder_place_139, b_Finder_place_139, J_Finder_place_147, b_Finder_place_147, J_Finder_place_43, b_Finder_place_43, s_end, true_and, and_true, or_true, true_or, if_true, if_false, ite_true, ite_false, List.map_nil, List.map_cons, List.sum_nil, List.sum_cons, List.nil_append, List.cons_append, Option.toList_some, Option.toList_none, Nat.reduceAdd, Nat.reduceLeDiff, Nat.reduceSub, Nat.zero_le, List.headD_cons, List.tail_cons, List.length_cons, List.length_nil, ne_eq, reduceCtorEq, false_or, or_false, not_false_eq_true, Nat.reduceEqDiff, Nat.reduceLT, am_sw, bI_0, bI_z, bI_y, Classical.not_not, Nat.le_add_left, am_u_row2, am_r_row2, am_u_same, am_u_at, am_r_same, Int32.reduceLT, Int32.reduceLE, Int32.reduceAdd, Int32.reduceSub, Int32.reduceMul, forall_const, not_true_eq_false, implies_true, false_imp_iff, true_imp_iff, i_10, i_01, i_m10, i_m11, eq_self, or_self, false_and, and_false, and_self, am_so_some, am_pv_some, am_pv_none, l_cl_none, l_cl_int, l_cl_ref, l_cl_ra, l_cl_null, l_cl_long, cat_int, cat_ref, cat_long, cat_ra, cat_null, cl_0, cl_1, cl_2, cl_3, cl_4, cl_5, cl_6, cl_7, cl_8, cl_9, cl_10, cl_11, cl_12, cl_13, cl_14, cl_15, cl_16, cl_30, cl_64, cl_500, vl_0_2, vl_0_3, vl_0_4, vl_0_6, vl_0_7, vl_0_12, vl_0_16, vl_0_1400, vl_1_2, vl_1_3, vl_1_4, vl_1_6, vl_1_7, vl_1_12, vl_1_16, vl_1_1400, vl_2_3, vl_2_4, vl_2_6, vl_2_7, vl_2_12, vl_2_16, vl_2_1400, vl_3_4, vl_3_6, vl_3_7, vl_3_12, vl_3_16, vl_3_1400, vl_4_6, vl_4_7, vl_4_12, vl_4_16, vl_4_1400, vl_5_6, vl_5_7, vl_5_12, vl_5_16, vl_5_1400, vl_6_7, vl_6_12, vl_6_16, vl_6_1400, vl_7_12, vl_7_16, vl_8_12, vl_8_16, vl_9_12, vl_9_16, vl_10_12, vl_10_16, vl_11_12, vl_11_16, i_64le_e, i64a_0, i64b_0, i64a_1, i64b_1, i64a_2, i64b_2, i64a_3, i64b_3, i64a_4, i64b_4, i64a_5, i64b_5, i64a_7, i64b_7, i64a_8, i64b_8, i64a_9, i64b_9, i64a_10, i64b_10, i64a_16, i64b_16, i64a_50, i64b_50, i64a_m50, i64b_m50, i64a_60, i64b_60, i64a_99, i64b_99, i64a_100, i64b_100, i64a_500, i64b_500, i64a_600, i64b_600, i64a_1000, i64b_1000, i64a_1000000, i64b_1000000, i64a_m9, i64b_m9, e_s_16, e_i_16, e_l_16, e_p_16_0, e_p_16_1, e_p_16_2, e_p_16_3, e_p_16_4, e_p_16_5, e_s_23, e_i_23, e_l_23, e_p_23_0, e_p_23_1, e_p_23_2, e_p_23_3, e_p_23_4, e_p_23_5, e_p_23_6, e_s_48, e_i_48, e_l_48, e_p_48_0, e_p_48_1, e_p_48_2, e_p_48_3, e_p_48_5, e_s_62, e_i_62, e_l_62, e_p_62_0, e_p_62_1, e_p_62_2, e_p_62_3, e_p_62_4, e_p_62_5, e_p_62_6, e_p_62_7, e_p_62_12, e_s_63, e_i_63, e_l_63, e_s_64, e_i_64, e_l_64, e_s_65, e_i_65, e_l_65, e_s_66, e_i_66, e_l_66, e_s_67, e_i_67, e_l_67, e_s_68, e_i_68, e_l_68, pt38_Stage_isOdd, hC.st.r25, hC.st.r26, hC.st.r27, hE]
  simp (disch := omega) only [od0, nI_clamp, nI_le', nI_lt', nI_eq', rem2_1, rem2_0, nI_eq0, nI_le0, nI_0lt, nI_0le, nI_lt0, nI_m1, vp_inE, nm_nI, i_20, nI_1, nI_add, and_true, true_and, and_self, or_true, true_or, or_false, false_or, false_and, and_false, not_true_eq_false, not_false_eq_true, if_true, if_false, ite_true, ite_false, false_imp_iff, true_imp_iff, rsn_00, rsn_10, rsn_01, rsn_11, n_09, n_19, n_29, n_99, implies_true, bI_t, bI_f, or_self, ne_eq, eq_self, Classical.not_not, Bool.false_eq_true]
  have main : ∀ (b : Int32) (x : Nat), b = bI (oddV V s) → x = om V (fR (p ++ [s])) (p.length + 1) → am_WP X (d + 4) 7 43 [some (.ref 62), some (.int (nI p.length)), some (.int (nI s)), some (.int (b)), some (.int (0)), none, none, none] [] S (am_u (am_u M 64 p.length (nI s)) 65 (p.length + 1) (nI x)) (L) 0 0 K := by
    intro b x hb hx
    have g0 : Fr [22, 64, 65, 66, 67] fs49 M (am_u (am_u M 64 p.length (nI s)) 65 (p.length + 1) (nI x)) := (Fr.refl.u (by decide)).u (by decide)
    have loop : ∀ l, l ≤ nL V → ∀ M' v5 v6 v7, Fr [22, 64, 65, 66, 67] fs49 M M' → M' 64 = am_u M 64 p.length (nI s) 64 → M' 65 = am_u M 65 (p.length + 1) (nI x) 65 → (∀ i, i < 6 * (p.length + 1) → M' 66 i = M 66 i) → (∀ i, i < 6 * (p.length + 1) → M' 67 i = M 67 i) → (∀ i, i < l → M' 66 (6 * (p.length + 1) + i) = smI V i (fR (p ++ [s])) a (p.length + 1)) → (∀ i, i < l → M' 67 (6 * (p.length + 1) + i) = nI (oA V (fR (p ++ [s])) (sdI V i (fR (p ++ [s])) a) (p.length + 1))) → am_WP X (d + 4) 7 43 [some (.ref 62), some (.int (nI p.length)), some (.int (nI s)), some (.int (b)), some (.int (nI l)), v5, v6, v7] [] S (M') (L) 0 0 K := by
      refine am_ind ?_
      intro l hl ih M' v5 v6 v7 f h64 h65 h66 h67 n66 n67
      have hC' : CT V M' := hC.fr (f.mono (by decide) (by decide))
      have a7 : M' 16 7 = nI (nL V) := hC'.pg.f7.trans hP.nl.1
      have a9 : M' 62 9 = a := (f 62 9 (by decide) (by decide)).trans hF.ag
      refine H_Finder_place_43 pt38_ok ?_
      simp only [s_aload_0_ref, s_bipush, s_get0, s_get2, s_goto, s_iadd, s_iald, s_iast, s_ic_ge, s_iconst, s_if_eq, s_iinc_4, s_iload_1_int, s_iload_2_int, s_iload_3_int, s_iload_4_int, s_iload_5_int, s_iload_6_int, s_iload_7_int, s_imul, s_istore_3_int, s_istore_4_int, s_istore_5_int, s_istore_6_int, s_istore_7_int, s_iv_1, s_iv_6, s_return, J_Finder_place_0, b_Finder_place_0, J_Finder_place_37, b_Finder_place_37, J_Finder_place_38, b_Finder_place_38, J_Finder_place_138, b_Finder_place_138, J_Finder_place_139, b_Finder_place_139, J_Finder_place_147, b_Finder_place_147, J_Finder_place_43, b_Finder_place_43, s_end, true_and, and_true, or_true, true_or, if_true, if_false, ite_true, ite_false, List.map_nil, List.map_cons, List.sum_nil, List.sum_cons, List.nil_append, List.cons_append, Option.toList_some, Option.toList_none, Nat.reduceAdd, Nat.reduceLeDiff, Nat.reduceSub, Nat.zero_le, List.headD_cons, List.tail_cons, List.length_cons, List.length_nil, ne_eq, reduceCtorEq, false_or, or_false, not_false_eq_true, Nat.reduceEqDiff, Nat.reduceLT, am_sw, bI_0, bI_z, bI_y, Classical.not_not, Nat.le_add_left, am_u_row2, am_r_row2, am_u_same, am_u_at, am_r_same, Int32.reduceLT, Int32.reduceLE, Int32.reduceAdd, Int32.reduceSub, Int32.reduceMul, forall_const, not_true_eq_false, implies_true, false_imp_iff, true_imp_iff, i_10, i_01, i_m10, i_m11, eq_self, or_self, false_and, and_false, and_self, am_so_some, am_pv_some, am_pv_none, l_cl_none, l_cl_int, l_cl_ref, l_cl_ra, l_cl_null, l_cl_long, cat_int, cat_ref, cat_long, cat_ra, cat_null, cl_0, cl_1, cl_2, cl_3, cl_4, cl_5, cl_6, cl_7, cl_8, cl_9, cl_10, cl_11, cl_12, cl_13, cl_14, cl_15, cl_16, cl_30, cl_64, cl_500, vl_0_2, vl_0_3, vl_0_4, vl_0_6, vl_0_7, vl_0_12, vl_0_16, vl_0_1400, vl_1_2, vl_1_3, vl_1_4, vl_1_6, vl_1_7, vl_1_12, vl_1_16, vl_1_1400, vl_2_3, vl_2_4, vl_2_6, vl_2_7, vl_2_12, vl_2_16, vl_2_1400, vl_3_4, vl_3_6, vl_3_7, vl_3_12, vl_3_16, vl_3_1400, vl_4_6, vl_4_7, vl_4_12, vl_4_16, vl_4_1400, vl_5_6, vl_5_7, vl_5_12, vl_5_16, vl_5_1400, vl_6_7, vl_6_12, vl_6_16, vl_6_1400, vl_7_12, vl_7_16, vl_8_12, vl_8_16, vl_9_12, vl_9_16, vl_10_12, vl_10_16, vl_11_12, vl_11_16, i_64le_e, i64a_0, i64b_0, i64a_1, i64b_1, i64a_2, i64b_2, i64a_3, i64b_3, i64a_4, i64b_4, i64a_5, i64b_5, i64a_7, i64b_7, i64a_8, i64b_8, i64a_9, i64b_9, i64a_10, i64b_10, i64a_16, i64b_16, i64a_50, i64b_50, i64a_m50, i64b_m50, i64a_60, i64b_60, i64a_99, i64b_99, i64a_100, i64b_100, i64a_500, i64b_500, i64a_600, i64b_600, i64a_1000, i64b_1000, i64a_1000000, i64b_1000000, i64a_m9, i64b_m9, e_s_16, e_i_16, e_l_16, e_p_16_0, e_p_16_1, e_p_16_2, e_p_16_3, e_p_16_4, e_p_16_5, e_s_23, e_i_23, e_l_23, e_p_23_0, e_p_23_1, e_p_23_2, e_p_23_3, e_p_23_4, e_p_23_5, e_p_23_6, e_s_48, e_i_48, e_l_48, e_p_48_0, e_p_48_1, e_p_48_2, e_p_48_3, e_p_48_5, e_s_62, e_i_62, e_l_62, e_p_62_0, e_p_62_1, e_p_62_2, e_p_62_3, e_p_62_4, e_p_62_5, e_p_62_6, e_p_62_7, e_p_62_12, e_s_63, e_i_63, e_l_63, e_s_64, e_i_64, e_l_64, e_s_65, e_i_65, e_l_65, e_s_66, e_i_66, e_l_66, e_s_67, e_i_67, e_l_67, e_s_68, e_i_68, e_l_68, pt38_Stage_isOdd, a7, a9, ix6, hE]
      by_cases c0 : l < nL V
      · have s1 := (h66 (6 * p.length + l) (by omega)).trans (hF.su p.length l (Nat.le_refl _) c0)
        have e6 : nI (6 * p.length + l) + 6 = nI (6 * (p.length + 1) + l) := by
          rw [show (6 : Int32) = nI 6 from rfl, nI_add]; congr 1; omega
        simp (disch := omega) only [Nat.not_le.mpr, c0, ix6, s1, e6, nI_clamp, nI_le', nI_lt', nI_eq', rem2_1, rem2_0, nI_eq0, nI_le0, nI_0lt, nI_0le, nI_lt0, nI_m1, vp_inE, nm_nI, i_20, nI_1, nI_add, and_true, true_and, and_self, or_true, true_or, or_false, false_or, false_and, and_false, not_true_eq_false, not_false_eq_true, if_true, if_false, ite_true, ite_false, false_imp_iff, true_imp_iff, rsn_00, rsn_10, rsn_01, rsn_11, n_09, n_19, n_29, n_99, implies_true, bI_t, bI_f, or_self, ne_eq, eq_self, Classical.not_not, Bool.false_eq_true]
        have smE : smI V l (fR p) a p.length = smI V l (fR (p ++ [s])) a p.length := (smI_congr p.length fE).symm
        rw [smE]
        refine am_cal_no rfl (c_Teller_tellT (q := 64) (ln := 4) (fr := 0) (t := p.length) (f := fR (p ++ [s])) hE hC' hI.s hP c0 (e_s_64 hE) (e_i_64 hE) (e_l_64 hE) (by decide) (by omega) (by decide) ?_ hr1 (by omega) ?_)
        · intro j hj
          rw [Nat.zero_add, h64]
          by_cases e : j = p.length
          · rw [e, am_u_same, fN]
          · rw [am_u_ne (fun y => e y.2), fE j (by omega)]; exact hF.ro j (by omega)
        intro M2 g2
        have f2 : Fr [22, 64, 65, 66, 67] fs49 M M2 := f.trans (g2.mono (by decide) (by decide))
        have e66 : M2 66 = M' 66 := g2.row 66 (by decide) (by decide)
        have e67 : M2 67 = M' 67 := g2.row 67 (by decide) (by decide)
        have s2 : M2 66 (6 * p.length + l) = smI V l (fR (p ++ [s])) a p.length := by rw [e66, s1, smE]
        have s3 : M2 67 (6 * p.length + l) = nI (oA V (fR p) (sdI V l (fR p) a) p.length) := by rw [e67]; exact (h67 (6 * p.length + l) (by omega)).trans (hF.os p.length l (Nat.le_refl _) c0)
        have oE : oA V (fR p) (sdI V l (fR p) a) p.length = oA V (fR (p ++ [s])) (sdI V l (fR (p ++ [s])) a) p.length := (oA_congr p.length fE (fun i hi => sdI_congr (fun j hj => fE j (by omega)))).symm
        obtain ⟨u1, u2⟩ := sdI_ok (V := V) (l := l) (f := fR (p ++ [s])) (a := a) (n := p.length + 1) p.length (by omega)
        have sd : sdOf V l (fR (p ++ [s])) a p.length (smI V l (fR (p ++ [s])) a p.length) = sdI V l (fR (p ++ [s])) a p.length := rfl
        rw [sd]
        have smN1 : smI V l (fR (p ++ [s])) a (p.length + 1) = smI V l (fR (p ++ [s])) a p.length + sdI V l (fR (p ++ [s])) a p.length := rfl
        have oAl := (oA_le (V := V) (f := fR (p ++ [s])) (sdI_ok (V := V) (l := l) (f := fR (p ++ [s])) (a := a) (n := p.length + 1)) p.length (by omega)).1
        have oAN : oA V (fR (p ++ [s])) (sdI V l (fR (p ++ [s])) a) (p.length + 1) = if oddV V s then oA V (fR (p ++ [s])) (sdI V l (fR (p ++ [s])) a) p.length + nm (sdI V l (fR (p ++ [s])) a p.length) else oA V (fR (p ++ [s])) (sdI V l (fR (p ++ [s])) a) p.length := by
          show (if oddV V (nm (fR (p ++ [s]) p.length)) then _ else _) = _
          rw [fN, nm_nI (by omega)]
        have fin : ∀ (y : Int32) v7, y = nI (oA V (fR (p ++ [s])) (sdI V l (fR (p ++ [s])) a) (p.length + 1)) → am_WP X (d + 4) 7 43 [some (.ref 62), some (.int (nI p.length)), some (.int (nI s)), some (.int (b)), some (.int (nI (l + 1))), some (.int (nI (6 * p.length + l))), some (.int (nI (6 * (p.length + 1) + l))), v7] [] S (am_u (am_u M2 66 (6 * (p.length + 1) + l) (smI V l (fR (p ++ [s])) a p.length + sdI V l (fR (p ++ [s])) a p.length)) 67 (6 * (p.length + 1) + l) y) (L) 0 0 K := by
          intro y v7 hy
          refine ih c0 _ _ _ _ ((f2.u (by decide)).u (by decide)) ?_ ?_ ?_ ?_ ?_ ?_
          · rw [u_row (by decide), u_row (by decide), g2.row 64 (by decide) (by decide)]; exact h64
          · rw [u_row (by decide), u_row (by decide), g2.row 65 (by decide) (by decide)]; exact h65
          · intro i hi2
            rw [u_row (by decide), am_u_ne (fun w => by omega), e66]; exact h66 i hi2
          · intro i hi2
            rw [am_u_ne (fun w => by omega), u_row (by decide), e67]; exact h67 i hi2
          · refine lt_add (fun i hi2 => ?_) ?_
            · rw [u_row (by decide), am_u_ne (fun w => by omega), e66]; exact n66 i hi2
            · rw [u_row (by decide), am_u_same, smN1]
          · refine lt_add (fun i hi2 => ?_) ?_
            · rw [am_u_ne (fun w => by omega), u_row (by decide), e67]; exact n67 i hi2
            · rw [am_u_same]; exact hy
        simp only [s_aload_0_ref, s_bipush, s_get0, s_get2, s_goto, s_iadd, s_iald, s_iast, s_ic_ge, s_iconst, s_if_eq, s_iinc_4, s_iload_1_int, s_iload_2_int, s_iload_3_int, s_iload_4_int, s_iload_5_int, s_iload_6_int, s_iload_7_int, s_imul, s_istore_3_int, s_istore_4_int, s_istore_5_int, s_istore_6_int, s_istore_7_int, s_iv_1, s_iv_6, s_return, J_Finder_place_0, b_Finder_place_0, J_Finder_place_37, b_Finder_place_37, J_Finder_place_38, b_Finder_place_38, J_Finder_place_138, b_Finder_place_138, J_Finder_place_139, b_Finder_place_139, J_Finder_place_147, b_Finder_place_147, J_Finder_place_43, b_Finder_place_43, s_end, true_and, and_true, or_true, true_or, if_true, if_false, ite_true, ite_false, List.map_nil, List.map_cons, List.sum_nil, List.sum_cons, List.nil_append, List.cons_append, Option.toList_some, Option.toList_none, Nat.reduceAdd, Nat.reduceLeDiff, Nat.reduceSub, Nat.zero_le, List.headD_cons, List.tail_cons, List.length_cons, List.length_nil, ne_eq, reduceCtorEq, false_or, or_false, not_false_eq_true, Nat.reduceEqDiff, Nat.reduceLT, am_sw, bI_0, bI_z, bI_y, Classical.not_not, Nat.le_add_left, am_u_row2, am_r_row2, am_u_same, am_u_at, am_r_same, Int32.reduceLT, Int32.reduceLE, Int32.reduceAdd, Int32.reduceSub, Int32.reduceMul, forall_const, not_true_eq_false, implies_true, false_imp_iff, true_imp_iff, i_10, i_01, i_m10, i_m11, eq_self, or_self, false_and, and_false, and_self, am_so_some, am_pv_some, am_pv_none, l_cl_none, l_cl_int, l_cl_ref, l_cl_ra, l_cl_null, l_cl_long, cat_int, cat_ref, cat_long, cat_ra, cat_null, cl_0, cl_1, cl_2, cl_3, cl_4, cl_5, cl_6, cl_7, cl_8, cl_9, cl_10, cl_11, cl_12, cl_13, cl_14, cl_15, cl_16, cl_30, cl_64, cl_500, vl_0_2, vl_0_3, vl_0_4, vl_0_6, vl_0_7, vl_0_12, vl_0_16, vl_0_1400, vl_1_2, vl_1_3, vl_1_4, vl_1_6, vl_1_7, vl_1_12, vl_1_16, vl_1_1400, vl_2_3, vl_2_4, vl_2_6, vl_2_7, vl_2_12, vl_2_16, vl_2_1400, vl_3_4, vl_3_6, vl_3_7, vl_3_12, vl_3_16, vl_3_1400, vl_4_6, vl_4_7, vl_4_12, vl_4_16, vl_4_1400, vl_5_6, vl_5_7, vl_5_12, vl_5_16, vl_5_1400, vl_6_7, vl_6_12, vl_6_16, vl_6_1400, vl_7_12, vl_7_16, vl_8_12, vl_8_16, vl_9_12, vl_9_16, vl_10_12, vl_10_16, vl_11_12, vl_11_16, i_64le_e, i64a_0, i64b_0, i64a_1, i64b_1, i64a_2, i64b_2, i64a_3, i64b_3, i64a_4, i64b_4, i64a_5, i64b_5, i64a_7, i64b_7, i64a_8, i64b_8, i64a_9, i64b_9, i64a_10, i64b_10, i64a_16, i64b_16, i64a_50, i64b_50, i64a_m50, i64b_m50, i64a_60, i64b_60, i64a_99, i64b_99, i64a_100, i64b_100, i64a_500, i64b_500, i64a_600, i64b_600, i64a_1000, i64b_1000, i64a_1000000, i64b_1000000, i64a_m9, i64b_m9, e_s_16, e_i_16, e_l_16, e_p_16_0, e_p_16_1, e_p_16_2, e_p_16_3, e_p_16_4, e_p_16_5, e_s_23, e_i_23, e_l_23, e_p_23_0, e_p_23_1, e_p_23_2, e_p_23_3, e_p_23_4, e_p_23_5, e_p_23_6, e_s_48, e_i_48, e_l_48, e_p_48_0, e_p_48_1, e_p_48_2, e_p_48_3, e_p_48_5, e_s_62, e_i_62, e_l_62, e_p_62_0, e_p_62_1, e_p_62_2, e_p_62_3, e_p_62_4, e_p_62_5, e_p_62_6, e_p_62_7, e_p_62_12, e_s_63, e_i_63, e_l_63, e_s_64, e_i_64, e_l_64, e_s_65, e_i_65, e_l_65, e_s_66, e_i_66, e_l_66, e_s_67, e_i_67, e_l_67, e_s_68, e_i_68, e_l_68, pt38_Stage_isOdd, hE]
        simp (disch := omega) only [s2, s3, nI_clamp, nI_le', nI_lt', nI_eq', rem2_1, rem2_0, nI_eq0, nI_le0, nI_0lt, nI_0le, nI_lt0, nI_m1, vp_inE, nm_nI, i_20, nI_1, nI_add, and_true, true_and, and_self, or_true, true_or, or_false, false_or, false_and, and_false, not_true_eq_false, not_false_eq_true, if_true, if_false, ite_true, ite_false, false_imp_iff, true_imp_iff, rsn_00, rsn_10, rsn_01, rsn_11, n_09, n_19, n_29, n_99, implies_true, bI_t, bI_f, or_self, ne_eq, eq_self, Classical.not_not, Bool.false_eq_true]
        by_cases od : oddV V s
        · rw [bI_t od] at hb
          subst hb
          refine ⟨fun w => absurd w (by decide), fun _ => fin _ _ ?_⟩
          rw [oAN, if_pos od, oE]
          rw [u1, nI_add, nm_nI (by omega)]
        · rw [bI_f od] at hb
          subst hb
          refine ⟨fun _ => fin _ _ ?_, fun w => absurd rfl w⟩
          rw [oAN, if_neg od, oE]
          try rw [Int32.add_zero]
      · have e : l = nL V := by omega
        subst e
        simp (disch := omega) only [Nat.le_refl, nI_clamp, nI_le', nI_lt', nI_eq', rem2_1, rem2_0, nI_eq0, nI_le0, nI_0lt, nI_0le, nI_lt0, nI_m1, vp_inE, nm_nI, i_20, nI_1, nI_add, and_true, true_and, and_self, or_true, true_or, or_false, false_or, false_and, and_false, not_true_eq_false, not_false_eq_true, if_true, if_false, ite_true, ite_false, false_imp_iff, true_imp_iff, rsn_00, rsn_10, rsn_01, rsn_11, n_09, n_19, n_29, n_99, implies_true, bI_t, bI_f, or_self, ne_eq, eq_self, Classical.not_not, Bool.false_eq_true]
        refine k M' f ⟨?_, ?_, ?_, ?_, ?_⟩ (fun i hi => ⟨h66 i (by omega), h67 i (by omega)⟩)
        · exact a9
        · intro j hj
          rw [l1] at hj
          rw [h64]
          by_cases e : j = p.length
          · rw [e, am_u_same, fN]
          · rw [am_u_ne (fun y => e y.2), fE j (by omega)]; exact hF.ro j (by omega)
        · intro j hj
          rw [l1] at hj
          rw [h65]
          by_cases e : j = p.length + 1
          · rw [e, am_u_same, hx]
          · rw [am_u_ne (fun y => e y.2), om_congr j (fun i hi => fE i (by omega))]; exact hF.od j (by omega)
        · intro j i hj hi2
          rw [l1] at hj
          by_cases e : j = p.length + 1
          · rw [e]; exact n66 i hi2
          · rw [h66 (6 * j + i) (by omega), hF.su j i (by omega) hi2]
            exact (smI_congr j (fun i hi => fE i (by omega))).symm
        · intro j i hj hi2
          rw [l1] at hj
          by_cases e : j = p.length + 1
          · rw [e]; exact n67 i hi2
          · rw [h67 (6 * j + i) (by omega), hF.os j i (by omega) hi2]
            rw [oA_congr j (fun i hi => fE i (by omega)) (fun i hi => sdI_congr (fun j hj => fE j (by omega)))]
    refine loop 0 (by omega) _ _ _ _ g0 ?_ ?_ ?_ ?_ (fun i hi => by omega) (fun i hi => by omega)
    · rw [u_row (by decide)]
    · exact u_eq (u_row (by decide))
    · intro i hi2
      rw [u_row (by decide), u_row (by decide)]
    · intro i hi2
      rw [u_row (by decide), u_row (by decide)]
  refine ⟨fun w => ?_, fun w => ?_⟩
  · rw [Int32.add_zero]
    exact main _ _ rfl (by rw [odE, if_neg (fun q => q w)])
  · exact main _ _ rfl (by rw [odE, if_pos w])
end T83
