section T57
variable {X : am_X} {d : Nat} {K : am_K} {S : am_S} {M : am_M} {L : am_L} {V : am_M}
def ct0 (V : am_M) : List Nat := ctL V x0 (nB V)
def thW (V : am_M) (h : Nat) : Nat := thN V ((ct0 V).filter (fun b => !(xC (nI h) b)))
def lvP (V : am_M) (lm : Int32) (n h : Nat) : Bool := decide (pcn 16 h = n ∧ h &&& orL (ct0 V) = h ∧ nI (thW V h) < lm)
def lv (V : am_M) (lm : Int32) (n : Nat) : Option Nat := fh (lvP V lm n) (2 ^ nB V)
def lvI (V : am_M) (lm : Int32) : Option Nat := match lv V lm 0 with
  | some x => some x
  | none => match lv V lm 1 with
    | some x => some x
    | none => match lv V lm 2 with
      | some x => some x
      | none => lv V lm 3
def s_leaving (V : am_M) (lm : Int32) : Int32 := if 1 ≤ lm ∧ lm ≤ 1000 then oI (lvI V lm) else -1
theorem can_bF : orL (ct0 V) = bF (fun b => !(x0 b) && ctP V b) (nB V) := orL_range _
theorem can_lt (hI : IV V) : orL (ct0 V) < 65536 := by
  rw [can_bF]
  exact Nat.lt_of_lt_of_le (bF_lt _) (Nat.pow_le_pow_right (n := 2) (j := 16) (by decide) hI.nb.2)
theorem can_tb {t : Nat} : tb (orL (ct0 V)) t ↔ t ∈ ct0 V := by
  unfold tb
  rw [can_bF, bF_bit]
  unfold ct0 ctL
  rw [List.mem_filter, List.mem_range]
def wI (V : am_M) (i : Nat) : Nat := (ct0 V).getD i 0
theorem wI_lt {i j : Nat} (h : i < j) (hj : j < (ct0 V).length) : wI V i < wI V j := filter_range_lt _ _ _ h hj
theorem wI_mem {i : Nat} (h : i < (ct0 V).length) : wI V i ∈ ct0 V := getD_in h
theorem wI_nB {i : Nat} (h : i < (ct0 V).length) : wI V i < nB V := (ctL_mem (wI_mem h)).1
theorem p_lt {a b : Nat} (h : a < b) : 2 * 2 ^ a ≤ 2 ^ b := by
  have := Nat.pow_le_pow_right (n := 2) (by decide) (show a + 1 ≤ b by omega)
  rw [Nat.pow_succ] at this
  omega
theorem p_inv {a b : Nat} (h : 2 ^ a < 2 ^ b) : a < b := (Nat.pow_lt_pow_iff_right (by decide)).mp h
theorem sub_can {r t : Nat} (hr : r < 2 ^ t) (s : sub2 r (orL (ct0 V))) (ht : t ∈ ct0 V) : sub2 (r + 2 ^ t) (orL (ct0 V)) := by
  intro j hj
  rcases (tb_add hr).mp hj with q | q
  · exact s j q.2
  · rw [q]; exact can_tb.mpr ht
theorem sub_0 {c : Nat} : sub2 0 c := fun j hj => by unfold tb at hj; rw [Nat.zero_div] at hj; exact absurd hj (by decide)
/-- what a candidate is made of -/
theorem lvP_1 (hI : IV V) {lm : Int32} {h : Nat} (hh : h < 2 ^ nB V) (p : lvP V lm 1 h = true) : ∃ i, i < (ct0 V).length ∧ h = 2 ^ wI V i := by
  have h16 : h < 65536 := Nat.lt_of_lt_of_le hh (Nat.pow_le_pow_right (n := 2) (j := 16) (by decide) hI.nb.2)
  obtain ⟨p1, p2, p3⟩ := of_decide_eq_true p
  rw [sub_iff] at p2
  obtain ⟨t, t1, t2, r, r1, r2, r3, r4⟩ := split_top h16 p1 p2
  have r0 := pcn_zero (Nat.lt_of_lt_of_le r1 (Nat.pow_le_pow_right (n := 2) (j := 16) (by decide) (by omega))) r3
  obtain ⟨i, i1, i2⟩ := mem_getD (can_tb.mp t2)
  exact ⟨i, i1, by rw [r2, r0, Nat.zero_add]; unfold wI; rw [i2]⟩
theorem lvP_2 (hI : IV V) {lm : Int32} {h : Nat} (hh : h < 2 ^ nB V) (p : lvP V lm 2 h = true) : ∃ i j, i < j ∧ j < (ct0 V).length ∧ h = 2 ^ wI V i + 2 ^ wI V j := by
  have h16 : h < 65536 := Nat.lt_of_lt_of_le hh (Nat.pow_le_pow_right (n := 2) (j := 16) (by decide) hI.nb.2)
  obtain ⟨p1, p2, p3⟩ := of_decide_eq_true p
  rw [sub_iff] at p2
  obtain ⟨t, t1, t2, r, r1, r2, r3, r4⟩ := split_top h16 p1 p2
  obtain ⟨u, u1, u2, s, s1, s2, s3, s4⟩ := split_top (Nat.lt_of_lt_of_le r1 (Nat.pow_le_pow_right (n := 2) (j := 16) (by decide) (by omega))) r3 r4
  have s0 := pcn_zero (Nat.lt_of_lt_of_le s1 (Nat.pow_le_pow_right (n := 2) (j := 16) (by decide) (by omega))) s3
  obtain ⟨j, j1, j2⟩ := mem_getD (can_tb.mp t2)
  obtain ⟨i, i1, i2⟩ := mem_getD (can_tb.mp u2)
  have ei : wI V i = u := i2
  have ej : wI V j = t := j2
  have ut : u < t := p_inv (by omega)
  refine ⟨i, j, ?_, j1, by rw [ei, ej, r2, s2, s0]; omega⟩
  rcases Nat.lt_trichotomy i j with q | q | q
  · exact q
  · subst q; omega
  · have := wI_lt q i1; omega
theorem lvP_3 (hI : IV V) {lm : Int32} {h : Nat} (hh : h < 2 ^ nB V) (p : lvP V lm 3 h = true) : ∃ i j m, i < j ∧ j < m ∧ m < (ct0 V).length ∧ h = 2 ^ wI V i + 2 ^ wI V j + 2 ^ wI V m := by
  have h16 : h < 65536 := Nat.lt_of_lt_of_le hh (Nat.pow_le_pow_right (n := 2) (j := 16) (by decide) hI.nb.2)
  obtain ⟨p1, p2, p3⟩ := of_decide_eq_true p
  rw [sub_iff] at p2
  obtain ⟨t, t1, t2, r, r1, r2, r3, r4⟩ := split_top h16 p1 p2
  obtain ⟨u, u1, u2, s, s1, s2, s3, s4⟩ := split_top (Nat.lt_of_lt_of_le r1 (Nat.pow_le_pow_right (n := 2) (j := 16) (by decide) (by omega))) r3 r4
  obtain ⟨v, v1, v2, z, z1, z2, z3, z4⟩ := split_top (Nat.lt_of_lt_of_le s1 (Nat.pow_le_pow_right (n := 2) (j := 16) (by decide) (by omega))) s3 s4
  have z0 := pcn_zero (Nat.lt_of_lt_of_le z1 (Nat.pow_le_pow_right (n := 2) (j := 16) (by decide) (by omega))) z3
  obtain ⟨m, m1, m2⟩ := mem_getD (can_tb.mp t2)
  obtain ⟨j, j1, j2⟩ := mem_getD (can_tb.mp u2)
  obtain ⟨i, i1, i2⟩ := mem_getD (can_tb.mp v2)
  have ei : wI V i = v := i2
  have ej : wI V j = u := j2
  have em : wI V m = t := m2
  have ut : u < t := p_inv (by omega)
  have vu : v < u := p_inv (by omega)
  refine ⟨i, j, m, ?_, ?_, m1, by rw [ei, ej, em, r2, s2, z2, z0]; omega⟩
  · rcases Nat.lt_trichotomy i j with q | q | q
    · exact q
    · subst q; omega
    · have := wI_lt q i1; omega
  · rcases Nat.lt_trichotomy j m with q | q | q
    · exact q
    · subst q; omega
    · have := wI_lt q j1; omega
theorem pc1 {a : Nat} (h : a < 16) : pcn 16 (2 ^ a) = 1 := by
  have := pcn_add (r := 0) (t := a) (Nat.two_pow_pos _) h
  rw [Nat.zero_add] at this
  rw [this]; rfl
theorem sc1 {a : Nat} (h : a ∈ ct0 V) : sub2 (2 ^ a) (orL (ct0 V)) := by
  have := sub_can (r := 0) (Nat.two_pow_pos _) sub_0 h
  rw [Nat.zero_add] at this
  exact this
theorem lvT_1 (hI : IV V) {lm : Int32} {i : Nat} (h : i < (ct0 V).length) (p : nI (thW V (2 ^ wI V i)) < lm) : lvP V lm 1 (2 ^ wI V i) = true ∧ 2 ^ wI V i < 2 ^ nB V := by
  have n16 := hI.nb.2
  have w1 := wI_nB h
  refine ⟨decide_eq_true ⟨pc1 (by omega), ?_, p⟩, Nat.pow_lt_pow_right (by decide) w1⟩
  rw [sub_iff]; exact sc1 (wI_mem h)
theorem lvT_2 (hI : IV V) {lm : Int32} {i j : Nat} (hij : i < j) (h : j < (ct0 V).length) (p : nI (thW V (2 ^ wI V i + 2 ^ wI V j)) < lm) : lvP V lm 2 (2 ^ wI V i + 2 ^ wI V j) = true ∧ 2 ^ wI V i + 2 ^ wI V j < 2 ^ nB V := by
  have n16 := hI.nb.2
  have w1 := wI_nB h
  have w2 := wI_nB (V := V) (show i < (ct0 V).length by omega)
  have p1 := p_lt (wI_lt hij h)
  have p2 := p_lt w1
  have pp := Nat.two_pow_pos (wI V i)
  have l1 : 2 ^ wI V i < 2 ^ wI V j := by omega
  refine ⟨decide_eq_true ⟨?_, ?_, p⟩, by omega⟩
  · rw [pcn_add l1 (by omega), pc1 (by omega)]
  · rw [sub_iff]; exact sub_can l1 (sc1 (wI_mem (by omega))) (wI_mem h)
theorem lvT_3 (hI : IV V) {lm : Int32} {i j m : Nat} (hij : i < j) (hjm : j < m) (h : m < (ct0 V).length) (p : nI (thW V (2 ^ wI V i + 2 ^ wI V j + 2 ^ wI V m)) < lm) : lvP V lm 3 (2 ^ wI V i + 2 ^ wI V j + 2 ^ wI V m) = true ∧ 2 ^ wI V i + 2 ^ wI V j + 2 ^ wI V m < 2 ^ nB V := by
  have n16 := hI.nb.2
  have w1 := wI_nB h
  have w2 := wI_nB (V := V) (show i < (ct0 V).length by omega)
  have w3 := wI_nB (V := V) (show j < (ct0 V).length by omega)
  have p1 := p_lt (wI_lt (V := V) hij (by omega))
  have p2 := p_lt (wI_lt hjm h)
  have p3 := p_lt w1
  have pp := Nat.two_pow_pos (wI V i)
  have l1 : 2 ^ wI V i < 2 ^ wI V j := by omega
  have l2 : 2 ^ wI V i + 2 ^ wI V j < 2 ^ wI V m := by omega
  refine ⟨decide_eq_true ⟨?_, ?_, p⟩, by omega⟩
  · rw [pcn_add l2 (by omega), pcn_add l1 (by omega), pc1 (by omega)]
  · rw [sub_iff]; exact sub_can l2 (sub_can l1 (sc1 (wI_mem (by omega))) (wI_mem (by omega))) (wI_mem h)
theorem lvP_hit {lm : Int32} {n h : Nat} (p : lvP V lm n h = true) : nI (thW V h) < lm := (of_decide_eq_true p).2.2
theorem shlw (hI : IV V) {i : Nat} (h : i < (ct0 V).length) : (1 : Int32) <<< (nI (wI V i) &&& 31) = nI (2 ^ wI V i) := (nI_shl (a := 1) (by have := wI_nB h; have := hI.nb.2; omega)).trans (by rw [Nat.one_mul])
def nhit (V : am_M) (lm : Int32) (h : Nat) : Prop := ¬ nI (thW V h) < lm
theorem c_Hindsight_oneToLeave {lm : Int32} (hE : am_env S) (hI : IV V) (hc : CtC V M (ct0 V)) (k : ∀ M', Fr [56, 57, 58, 59] [] M M' → K (some (.int (oI (lv V lm 1)))) S M' L) : am_Call X (d + 5) m_Hindsight_oneToLeave [.ref 61, .int lm] S M L K := by
  have cd : Ctd V (ct0 V) := ctd_all hI
  have l16 := cd.1
  refine EE_Hindsight_oneToLeave pt34_ok ?_
  simp only [s_aload_0_ref, s_get0, s_get2, s_goto, s_iald, s_ic_ge, s_iconst, s_iinc_2, s_iload_1_int, s_iload_2_int, s_iload_3_int, s_ireturn, s_ishl, s_istore_2_int, s_istore_3_int, s_iv_1, s_tld1, s_tld2, J_Hindsight_oneToLeave_0, b_Hindsight_oneToLeave_0, J_Hindsight_oneToLeave_39, b_Hindsight_oneToLeave_39, J_Hindsight_oneToLeave_45, b_Hindsight_oneToLeave_45, J_Hindsight_oneToLeave_2, b_Hindsight_oneToLeave_2, s_end, true_and, and_true, or_true, true_or, if_true, if_false, ite_true, ite_false, List.map_nil, List.map_cons, List.sum_nil, List.sum_cons, List.nil_append, List.cons_append, Option.toList_some, Option.toList_none, Nat.reduceAdd, Nat.reduceLeDiff, Nat.reduceSub, Nat.zero_le, List.headD_cons, List.tail_cons, List.length_cons, List.length_nil, ne_eq, reduceCtorEq, false_or, or_false, not_false_eq_true, Nat.reduceEqDiff, Nat.reduceLT, am_sw, bI_0, bI_z, bI_y, Classical.not_not, Nat.le_add_left, am_u_row2, am_r_row2, am_u_same, am_u_at, am_r_same, Int32.reduceLT, Int32.reduceLE, Int32.reduceAdd, Int32.reduceSub, Int32.reduceMul, forall_const, not_true_eq_false, implies_true, false_imp_iff, true_imp_iff, i_10, i_01, i_m10, i_m11, eq_self, or_self, false_and, and_false, and_self, am_so_some, am_pv_some, am_pv_none, l_cl_none, l_cl_int, l_cl_ref, l_cl_ra, l_cl_null, l_cl_long, cat_int, cat_ref, cat_long, cat_ra, cat_null, cl_0, cl_1, cl_2, cl_3, cl_4, cl_5, cl_6, cl_7, cl_8, cl_9, cl_10, cl_11, cl_12, cl_13, cl_14, cl_15, cl_16, cl_30, cl_64, cl_500, vl_0_2, vl_0_3, vl_0_4, vl_0_6, vl_0_7, vl_0_12, vl_0_16, vl_0_1400, vl_1_2, vl_1_3, vl_1_4, vl_1_6, vl_1_7, vl_1_12, vl_1_16, vl_1_1400, vl_2_3, vl_2_4, vl_2_6, vl_2_7, vl_2_12, vl_2_16, vl_2_1400, vl_3_4, vl_3_6, vl_3_7, vl_3_12, vl_3_16, vl_3_1400, vl_4_6, vl_4_7, vl_4_12, vl_4_16, vl_4_1400, vl_5_6, vl_5_7, vl_5_12, vl_5_16, vl_5_1400, vl_6_7, vl_6_12, vl_6_16, vl_6_1400, vl_7_12, vl_7_16, vl_8_12, vl_8_16, vl_9_12, vl_9_16, vl_10_12, vl_10_16, vl_11_12, vl_11_16, i_64le_e, i64a_0, i64b_0, i64a_1, i64b_1, i64a_2, i64b_2, i64a_3, i64b_3, i64a_4, i64b_4, i64a_5, i64b_5, i64a_7, i64b_7, i64a_8, i64b_8, i64a_9, i64b_9, i64a_10, i64b_10, i64a_16, i64b_16, i64a_50, i64b_50, i64a_m50, i64b_m50, i64a_60, i64b_60, i64a_99, i64b_99, i64a_100, i64b_100, i64a_500, i64b_500, i64a_600, i64b_600, i64a_1000, i64b_1000, i64a_1000000, i64b_1000000, i64a_m9, i64b_m9, e_s_31, e_i_31, e_l_31, e_p_31_0, e_p_31_1, e_p_31_2, e_p_31_3, e_p_31_4, e_p_31_5, e_p_31_6, e_s_54, e_i_54, e_l_54, e_p_54_0, e_p_54_1, e_p_54_2, e_p_54_3, e_p_54_4, e_p_54_5, e_p_54_6, e_p_54_7, e_s_60, e_i_60, e_l_60, e_s_61, e_i_61, e_l_61, e_p_61_0, e_p_61_1, hE]
  have loop : ∀ i, i ≤ (ct0 V).length → (∀ i', i' < i → nhit V lm (2 ^ wI V i')) → ∀ M1 v3, Fr [56, 57, 58, 59] [] M M1 → am_WP X (d + 5) 14 2 [some (.ref 61), some (.int (lm)), some (.int (nI i)), v3] [] S (M1) (L) 0 0 K := by
    refine am_ind ?_
    intro i hi ih hn M1 v3 f1
    have hc1 := hc.of (f1.row 54 (by decide) (by decide)) (f1.row 60 (by decide) (by decide)) (f1.row 55 (by decide) (by decide))
    have a1 := hc1.n
    refine H_Hindsight_oneToLeave_2 pt34_ok ?_
    simp only [s_aload_0_ref, s_get0, s_get2, s_goto, s_iald, s_ic_ge, s_iconst, s_iinc_2, s_iload_1_int, s_iload_2_int, s_iload_3_int, s_ireturn, s_ishl, s_istore_2_int, s_istore_3_int, s_iv_1, s_tld1, s_tld2, J_Hindsight_oneToLeave_0, b_Hindsight_oneToLeave_0, J_Hindsight_oneToLeave_39, b_Hindsight_oneToLeave_39, J_Hindsight_oneToLeave_45, b_Hindsight_oneToLeave_45, J_Hindsight_oneToLeave_2, b_Hindsight_oneToLeave_2, s_end, true_and, and_true, or_true, true_or, if_true, if_false, ite_true, ite_false, List.map_nil, List.map_cons, List.sum_nil, List.sum_cons, List.nil_append, List.cons_append, Option.toList_some, Option.toList_none, Nat.reduceAdd, Nat.reduceLeDiff, Nat.reduceSub, Nat.zero_le, List.headD_cons, List.tail_cons, List.length_cons, List.length_nil, ne_eq, reduceCtorEq, false_or, or_false, not_false_eq_true, Nat.reduceEqDiff, Nat.reduceLT, am_sw, bI_0, bI_z, bI_y, Classical.not_not, Nat.le_add_left, am_u_row2, am_r_row2, am_u_same, am_u_at, am_r_same, Int32.reduceLT, Int32.reduceLE, Int32.reduceAdd, Int32.reduceSub, Int32.reduceMul, forall_const, not_true_eq_false, implies_true, false_imp_iff, true_imp_iff, i_10, i_01, i_m10, i_m11, eq_self, or_self, false_and, and_false, and_self, am_so_some, am_pv_some, am_pv_none, l_cl_none, l_cl_int, l_cl_ref, l_cl_ra, l_cl_null, l_cl_long, cat_int, cat_ref, cat_long, cat_ra, cat_null, cl_0, cl_1, cl_2, cl_3, cl_4, cl_5, cl_6, cl_7, cl_8, cl_9, cl_10, cl_11, cl_12, cl_13, cl_14, cl_15, cl_16, cl_30, cl_64, cl_500, vl_0_2, vl_0_3, vl_0_4, vl_0_6, vl_0_7, vl_0_12, vl_0_16, vl_0_1400, vl_1_2, vl_1_3, vl_1_4, vl_1_6, vl_1_7, vl_1_12, vl_1_16, vl_1_1400, vl_2_3, vl_2_4, vl_2_6, vl_2_7, vl_2_12, vl_2_16, vl_2_1400, vl_3_4, vl_3_6, vl_3_7, vl_3_12, vl_3_16, vl_3_1400, vl_4_6, vl_4_7, vl_4_12, vl_4_16, vl_4_1400, vl_5_6, vl_5_7, vl_5_12, vl_5_16, vl_5_1400, vl_6_7, vl_6_12, vl_6_16, vl_6_1400, vl_7_12, vl_7_16, vl_8_12, vl_8_16, vl_9_12, vl_9_16, vl_10_12, vl_10_16, vl_11_12, vl_11_16, i_64le_e, i64a_0, i64b_0, i64a_1, i64b_1, i64a_2, i64b_2, i64a_3, i64b_3, i64a_4, i64b_4, i64a_5, i64b_5, i64a_7, i64b_7, i64a_8, i64b_8, i64a_9, i64b_9, i64a_10, i64b_10, i64a_16, i64b_16, i64a_50, i64b_50, i64a_m50, i64b_m50, i64a_60, i64b_60, i64a_99, i64b_99, i64a_100, i64b_100, i64a_500, i64b_500, i64a_600, i64b_600, i64a_1000, i64b_1000, i64a_1000000, i64b_1000000, i64a_m9, i64b_m9, e_s_31, e_i_31, e_l_31, e_p_31_0, e_p_31_1, e_p_31_2, e_p_31_3, e_p_31_4, e_p_31_5, e_p_31_6, e_s_54, e_i_54, e_l_54, e_p_54_0, e_p_54_1, e_p_54_2, e_p_54_3, e_p_54_4, e_p_54_5, e_p_54_6, e_p_54_7, e_s_60, e_i_60, e_l_60, e_s_61, e_i_61, e_l_61, e_p_61_0, e_p_61_1, a1, hE]
    by_cases c0 : i < (ct0 V).length
    · have a2 : M1 60 i = nI (wI V i) := (hc1.w i (by rw [List.length_map]; exact c0)).trans (getD_map (b := 0) c0)
      have e1 := shlw hI c0
      simp (disch := omega) only [Nat.not_le.mpr, c0, a2, e1, nI_clamp, nI_le', nI_lt', nI_eq', rem2_1, rem2_0, nI_eq0, nI_le0, nI_0lt, nI_0le, nI_lt0, nI_m1, vp_inE, nm_nI, i_20, nI_1, nI_add, and_true, true_and, and_self, or_true, true_or, or_false, false_or, false_and, and_false, not_true_eq_false, not_false_eq_true, if_true, if_false, ite_true, ite_false, false_imp_iff, true_imp_iff, rsn_00, rsn_10, rsn_01, rsn_11, n_09, n_19, n_29, n_99, implies_true, bI_t, bI_f, or_self, ne_eq, eq_self, Classical.not_not, Bool.false_eq_true]
      refine am_cal_no rfl (c_Odds_thousandWithout hE hI hc1 cd ?_)
      intro M2 f2
      simp only [s_aload_0_ref, s_get0, s_get2, s_goto, s_iald, s_ic_ge, s_iconst, s_iinc_2, s_iload_1_int, s_iload_2_int, s_iload_3_int, s_ireturn, s_ishl, s_istore_2_int, s_istore_3_int, s_iv_1, s_tld1, s_tld2, J_Hindsight_oneToLeave_0, b_Hindsight_oneToLeave_0, J_Hindsight_oneToLeave_39, b_Hindsight_oneToLeave_39, J_Hindsight_oneToLeave_45, b_Hindsight_oneToLeave_45, J_Hindsight_oneToLeave_2, b_Hindsight_oneToLeave_2, s_end, true_and, and_true, or_true, true_or, if_true, if_false, ite_true, ite_false, List.map_nil, List.map_cons, List.sum_nil, List.sum_cons, List.nil_append, List.cons_append, Option.toList_some, Option.toList_none, Nat.reduceAdd, Nat.reduceLeDiff, Nat.reduceSub, Nat.zero_le, List.headD_cons, List.tail_cons, List.length_cons, List.length_nil, ne_eq, reduceCtorEq, false_or, or_false, not_false_eq_true, Nat.reduceEqDiff, Nat.reduceLT, am_sw, bI_0, bI_z, bI_y, Classical.not_not, Nat.le_add_left, am_u_row2, am_r_row2, am_u_same, am_u_at, am_r_same, Int32.reduceLT, Int32.reduceLE, Int32.reduceAdd, Int32.reduceSub, Int32.reduceMul, forall_const, not_true_eq_false, implies_true, false_imp_iff, true_imp_iff, i_10, i_01, i_m10, i_m11, eq_self, or_self, false_and, and_false, and_self, am_so_some, am_pv_some, am_pv_none, l_cl_none, l_cl_int, l_cl_ref, l_cl_ra, l_cl_null, l_cl_long, cat_int, cat_ref, cat_long, cat_ra, cat_null, cl_0, cl_1, cl_2, cl_3, cl_4, cl_5, cl_6, cl_7, cl_8, cl_9, cl_10, cl_11, cl_12, cl_13, cl_14, cl_15, cl_16, cl_30, cl_64, cl_500, vl_0_2, vl_0_3, vl_0_4, vl_0_6, vl_0_7, vl_0_12, vl_0_16, vl_0_1400, vl_1_2, vl_1_3, vl_1_4, vl_1_6, vl_1_7, vl_1_12, vl_1_16, vl_1_1400, vl_2_3, vl_2_4, vl_2_6, vl_2_7, vl_2_12, vl_2_16, vl_2_1400, vl_3_4, vl_3_6, vl_3_7, vl_3_12, vl_3_16, vl_3_1400, vl_4_6, vl_4_7, vl_4_12, vl_4_16, vl_4_1400, vl_5_6, vl_5_7, vl_5_12, vl_5_16, vl_5_1400, vl_6_7, vl_6_12, vl_6_16, vl_6_1400, vl_7_12, vl_7_16, vl_8_12, vl_8_16, vl_9_12, vl_9_16, vl_10_12, vl_10_16, vl_11_12, vl_11_16, i_64le_e, i64a_0, i64b_0, i64a_1, i64b_1, i64a_2, i64b_2, i64a_3, i64b_3, i64a_4, i64b_4, i64a_5, i64b_5, i64a_7, i64b_7, i64a_8, i64b_8, i64a_9, i64b_9, i64a_10, i64b_10, i64a_16, i64b_16, i64a_50, i64b_50, i64a_m50, i64b_m50, i64a_60, i64b_60, i64a_99, i64b_99, i64a_100, i64b_100, i64a_500, i64b_500, i64a_600, i64b_600, i64a_1000, i64b_1000, i64a_1000000, i64b_1000000, i64a_m9, i64b_m9, e_s_31, e_i_31, e_l_31, e_p_31_0, e_p_31_1, e_p_31_2, e_p_31_3, e_p_31_4, e_p_31_5, e_p_31_6, e_s_54, e_i_54, e_l_54, e_p_54_0, e_p_54_1, e_p_54_2, e_p_54_3, e_p_54_4, e_p_54_5, e_p_54_6, e_p_54_7, e_s_60, e_i_60, e_l_60, e_s_61, e_i_61, e_l_61, e_p_61_0, e_p_61_1, hE]
      simp (disch := omega) only [nI_clamp, nI_le', nI_lt', nI_eq', rem2_1, rem2_0, nI_eq0, nI_le0, nI_0lt, nI_0le, nI_lt0, nI_m1, vp_inE, nm_nI, i_20, nI_1, nI_add, and_true, true_and, and_self, or_true, true_or, or_false, false_or, false_and, and_false, not_true_eq_false, not_false_eq_true, if_true, if_false, ite_true, ite_false, false_imp_iff, true_imp_iff, rsn_00, rsn_10, rsn_01, rsn_11, n_09, n_19, n_29, n_99, implies_true, bI_t, bI_f, or_self, ne_eq, eq_self, Classical.not_not, Bool.false_eq_true]
      refine ⟨fun z => ?_, fun z => ?_⟩
      · refine ih c0 (fun i' hi' => ?_) M2 _ (f1.trans f2)
        by_cases e : i' = i
        · subst e; exact fun q => absurd q (Int32.not_lt.mpr z)
        · exact hn i' (by omega)
      · have q := lvT_1 hI c0 (Int32.not_le.mp z)
        have e : lv V lm 1 = some (2 ^ wI V i) := by
          refine fh_some q.2 q.1 (fun y hy => ?_)
          cases py : lvP V lm 1 y with
          | false => rfl
          | true =>
            obtain ⟨i', i1, i2⟩ := lvP_1 hI (by omega) py
            have hit := lvP_hit py
            rw [i2] at hit hy
            have lt := p_inv hy
            rcases Nat.lt_trichotomy i' i with w | w | w
            · exact absurd hit (hn i' w)
            · subst w; omega
            · have := wI_lt w i1; omega
        have k := k M2 (f1.trans f2)
        rw [e] at k
        exact k
    · have e : i = (ct0 V).length := by omega
      subst e
      simp (disch := omega) only [Nat.le_refl, nI_clamp, nI_le', nI_lt', nI_eq', rem2_1, rem2_0, nI_eq0, nI_le0, nI_0lt, nI_0le, nI_lt0, nI_m1, vp_inE, nm_nI, i_20, nI_1, nI_add, and_true, true_and, and_self, or_true, true_or, or_false, false_or, false_and, and_false, not_true_eq_false, not_false_eq_true, if_true, if_false, ite_true, ite_false, false_imp_iff, true_imp_iff, rsn_00, rsn_10, rsn_01, rsn_11, n_09, n_19, n_29, n_99, implies_true, bI_t, bI_f, or_self, ne_eq, eq_self, Classical.not_not, Bool.false_eq_true]
      have e : lv V lm 1 = none := by
        refine fh_none (fun y hy => ?_)
        cases py : lvP V lm 1 y with
        | false => rfl
        | true =>
          obtain ⟨i', i1, i2⟩ := lvP_1 hI hy py
          have hit := lvP_hit py
          rw [i2] at hit
          exact absurd hit (hn i' i1)
      have k := k M1 f1
      rw [e] at k
      exact k
  exact loop 0 (by omega) (fun i' h => by omega) M _ Fr.refl
theorem or2 {a b : Nat} (h : a < b) : nI (2 ^ b) ||| nI (2 ^ a) = nI (2 ^ a + 2 ^ b) := by
  have := p_lt h
  have := Nat.two_pow_pos a
  rw [nI_or, Nat.or_comm, or_pow (by omega)]
theorem or3 {a b c : Nat} (h : a < b) (h2 : b < c) : nI (2 ^ b + 2 ^ c) ||| nI (2 ^ a) = nI (2 ^ a + 2 ^ b + 2 ^ c) := by
  have p1 := p_lt h
  have p2 := p_lt h2
  have := Nat.two_pow_pos a
  rw [nI_or, ← or_pow (show 2 ^ b < 2 ^ c by omega), Nat.or_comm, ← Nat.or_assoc, or_pow (show 2 ^ a < 2 ^ b by omega), or_pow (by omega)]
theorem c_Hindsight_twoToLeave {lm : Int32} (hE : am_env S) (hI : IV V) (hc : CtC V M (ct0 V)) (k : ∀ M', Fr [56, 57, 58, 59] [] M M' → K (some (.int (oI (lv V lm 2)))) S M' L) : am_Call X (d + 5) m_Hindsight_twoToLeave [.ref 61, .int lm] S M L K := by
  have cd : Ctd V (ct0 V) := ctd_all hI
  have l16 := cd.1
  refine EE_Hindsight_twoToLeave pt34_ok ?_
  simp only [s_aload_0_ref, s_get0, s_get2, s_goto, s_iald, s_ic_ge, s_iconst, s_iinc_2, s_iinc_3, s_iload_1_int, s_iload_2_int, s_iload_3_int, s_iload_4_int, s_ior, s_ireturn, s_ishl, s_istore_2_int, s_istore_3_int, s_istore_4_int, s_iv_1, s_tld1, s_tld2, J_Hindsight_twoToLeave_0, b_Hindsight_twoToLeave_0, J_Hindsight_twoToLeave_61, b_Hindsight_twoToLeave_61, J_Hindsight_twoToLeave_67, b_Hindsight_twoToLeave_67, J_Hindsight_twoToLeave_73, b_Hindsight_twoToLeave_73, J_Hindsight_twoToLeave_2, b_Hindsight_twoToLeave_2, J_Hindsight_twoToLeave_15, b_Hindsight_twoToLeave_15, s_end, true_and, and_true, or_true, true_or, if_true, if_false, ite_true, ite_false, List.map_nil, List.map_cons, List.sum_nil, List.sum_cons, List.nil_append, List.cons_append, Option.toList_some, Option.toList_none, Nat.reduceAdd, Nat.reduceLeDiff, Nat.reduceSub, Nat.zero_le, List.headD_cons, List.tail_cons, List.length_cons, List.length_nil, ne_eq, reduceCtorEq, false_or, or_false, not_false_eq_true, Nat.reduceEqDiff, Nat.reduceLT, am_sw, bI_0, bI_z, bI_y, Classical.not_not, Nat.le_add_left, am_u_row2, am_r_row2, am_u_same, am_u_at, am_r_same, Int32.reduceLT, Int32.reduceLE, Int32.reduceAdd, Int32.reduceSub, Int32.reduceMul, forall_const, not_true_eq_false, implies_true, false_imp_iff, true_imp_iff, i_10, i_01, i_m10, i_m11, eq_self, or_self, false_and, and_false, and_self, am_so_some, am_pv_some, am_pv_none, l_cl_none, l_cl_int, l_cl_ref, l_cl_ra, l_cl_null, l_cl_long, cat_int, cat_ref, cat_long, cat_ra, cat_null, cl_0, cl_1, cl_2, cl_3, cl_4, cl_5, cl_6, cl_7, cl_8, cl_9, cl_10, cl_11, cl_12, cl_13, cl_14, cl_15, cl_16, cl_30, cl_64, cl_500, vl_0_2, vl_0_3, vl_0_4, vl_0_6, vl_0_7, vl_0_12, vl_0_16, vl_0_1400, vl_1_2, vl_1_3, vl_1_4, vl_1_6, vl_1_7, vl_1_12, vl_1_16, vl_1_1400, vl_2_3, vl_2_4, vl_2_6, vl_2_7, vl_2_12, vl_2_16, vl_2_1400, vl_3_4, vl_3_6, vl_3_7, vl_3_12, vl_3_16, vl_3_1400, vl_4_6, vl_4_7, vl_4_12, vl_4_16, vl_4_1400, vl_5_6, vl_5_7, vl_5_12, vl_5_16, vl_5_1400, vl_6_7, vl_6_12, vl_6_16, vl_6_1400, vl_7_12, vl_7_16, vl_8_12, vl_8_16, vl_9_12, vl_9_16, vl_10_12, vl_10_16, vl_11_12, vl_11_16, i_64le_e, i64a_0, i64b_0, i64a_1, i64b_1, i64a_2, i64b_2, i64a_3, i64b_3, i64a_4, i64b_4, i64a_5, i64b_5, i64a_7, i64b_7, i64a_8, i64b_8, i64a_9, i64b_9, i64a_10, i64b_10, i64a_16, i64b_16, i64a_50, i64b_50, i64a_m50, i64b_m50, i64a_60, i64b_60, i64a_99, i64b_99, i64a_100, i64b_100, i64a_500, i64b_500, i64a_600, i64b_600, i64a_1000, i64b_1000, i64a_1000000, i64b_1000000, i64a_m9, i64b_m9, e_s_31, e_i_31, e_l_31, e_p_31_0, e_p_31_1, e_p_31_2, e_p_31_3, e_p_31_4, e_p_31_5, e_p_31_6, e_s_54, e_i_54, e_l_54, e_p_54_0, e_p_54_1, e_p_54_2, e_p_54_3, e_p_54_4, e_p_54_5, e_p_54_6, e_p_54_7, e_s_60, e_i_60, e_l_60, e_s_61, e_i_61, e_l_61, e_p_61_0, e_p_61_1, hE]
  have fin : (∀ j i, i < j → j < (ct0 V).length → nhit V lm (2 ^ wI V i + 2 ^ wI V j)) → ∀ M1, Fr [56, 57, 58, 59] [] M M1 → K (some (.int (-1))) S M1 L := by
    intro hn M1 f1
    have e : lv V lm 2 = none := by
      refine fh_none (fun y hy => ?_)
      cases py : lvP V lm 2 y with
      | false => rfl
      | true =>
        obtain ⟨i, j, i1, i2, i3⟩ := lvP_2 hI hy py
        have hit := lvP_hit py
        rw [i3] at hit
        exact absurd hit (hn j i i1 i2)
    have k := k M1 f1
    rw [e] at k
    exact k
  have loop : ∀ j, j ≤ (ct0 V).length → 1 ≤ j → (∀ j' i', i' < j' → j' < j → nhit V lm (2 ^ wI V i' + 2 ^ wI V j')) → ∀ M1 v3 v4, Fr [56, 57, 58, 59] [] M M1 → am_WP X (d + 5) 15 2 [some (.ref 61), some (.int (lm)), some (.int (nI j)), v3, v4] [] S (M1) (L) 0 0 K := by
    refine am_ind ?_
    intro j hj ih hj1 hn M1 v3 v4 f1
    have hc1 := hc.of (f1.row 54 (by decide) (by decide)) (f1.row 60 (by decide) (by decide)) (f1.row 55 (by decide) (by decide))
    have a1 := hc1.n
    refine H_Hindsight_twoToLeave_2 pt34_ok ?_
    simp only [s_aload_0_ref, s_get0, s_get2, s_goto, s_iald, s_ic_ge, s_iconst, s_iinc_2, s_iinc_3, s_iload_1_int, s_iload_2_int, s_iload_3_int, s_iload_4_int, s_ior, s_ireturn, s_ishl, s_istore_2_int, s_istore_3_int, s_istore_4_int, s_iv_1, s_tld1, s_tld2, J_Hindsight_twoToLeave_0, b_Hindsight_twoToLeave_0, J_Hindsight_twoToLeave_61, b_Hindsight_twoToLeave_61, J_Hindsight_twoToLeave_67, b_Hindsight_twoToLeave_67, J_Hindsight_twoToLeave_73, b_Hindsight_twoToLeave_73, J_Hindsight_twoToLeave_2, b_Hindsight_twoToLeave_2, J_Hindsight_twoToLeave_15, b_Hindsight_twoToLeave_15, s_end, true_and, and_true, or_true, true_or, if_true, if_false, ite_true, ite_false, List.map_nil, List.map_cons, List.sum_nil, List.sum_cons, List.nil_append, List.cons_append, Option.toList_some, Option.toList_none, Nat.reduceAdd, Nat.reduceLeDiff, Nat.reduceSub, Nat.zero_le, List.headD_cons, List.tail_cons, List.length_cons, List.length_nil, ne_eq, reduceCtorEq, false_or, or_false, not_false_eq_true, Nat.reduceEqDiff, Nat.reduceLT, am_sw, bI_0, bI_z, bI_y, Classical.not_not, Nat.le_add_left, am_u_row2, am_r_row2, am_u_same, am_u_at, am_r_same, Int32.reduceLT, Int32.reduceLE, Int32.reduceAdd, Int32.reduceSub, Int32.reduceMul, forall_const, not_true_eq_false, implies_true, false_imp_iff, true_imp_iff, i_10, i_01, i_m10, i_m11, eq_self, or_self, false_and, and_false, and_self, am_so_some, am_pv_some, am_pv_none, l_cl_none, l_cl_int, l_cl_ref, l_cl_ra, l_cl_null, l_cl_long, cat_int, cat_ref, cat_long, cat_ra, cat_null, cl_0, cl_1, cl_2, cl_3, cl_4, cl_5, cl_6, cl_7, cl_8, cl_9, cl_10, cl_11, cl_12, cl_13, cl_14, cl_15, cl_16, cl_30, cl_64, cl_500, vl_0_2, vl_0_3, vl_0_4, vl_0_6, vl_0_7, vl_0_12, vl_0_16, vl_0_1400, vl_1_2, vl_1_3, vl_1_4, vl_1_6, vl_1_7, vl_1_12, vl_1_16, vl_1_1400, vl_2_3, vl_2_4, vl_2_6, vl_2_7, vl_2_12, vl_2_16, vl_2_1400, vl_3_4, vl_3_6, vl_3_7, vl_3_12, vl_3_16, vl_3_1400, vl_4_6, vl_4_7, vl_4_12, vl_4_16, vl_4_1400, vl_5_6, vl_5_7, vl_5_12, vl_5_16, vl_5_1400, vl_6_7, vl_6_12, vl_6_16, vl_6_1400, vl_7_12, vl_7_16, vl_8_12, vl_8_16, vl_9_12, vl_9_16, vl_10_12, vl_10_16, vl_11_12, vl_11_16, i_64le_e, i64a_0, i64b_0, i64a_1, i64b_1, i64a_2, i64b_2, i64a_3, i64b_3, i64a_4, i64b_4, i64a_5, i64b_5, i64a_7, i64b_7, i64a_8, i64b_8, i64a_9, i64b_9, i64a_10, i64b_10, i64a_16, i64b_16, i64a_50, i64b_50, i64a_m50, i64b_m50, i64a_60, i64b_60, i64a_99, i64b_99, i64a_100, i64b_100, i64a_500, i64b_500, i64a_600, i64b_600, i64a_1000, i64b_1000, i64a_1000000, i64b_1000000, i64a_m9, i64b_m9, e_s_31, e_i_31, e_l_31, e_p_31_0, e_p_31_1, e_p_31_2, e_p_31_3, e_p_31_4, e_p_31_5, e_p_31_6, e_s_54, e_i_54, e_l_54, e_p_54_0, e_p_54_1, e_p_54_2, e_p_54_3, e_p_54_4, e_p_54_5, e_p_54_6, e_p_54_7, e_s_60, e_i_60, e_l_60, e_s_61, e_i_61, e_l_61, e_p_61_0, e_p_61_1, a1, hE]
    by_cases c0 : j < (ct0 V).length
    · simp (disch := omega) only [Nat.not_le.mpr, c0, nI_clamp, nI_le', nI_lt', nI_eq', rem2_1, rem2_0, nI_eq0, nI_le0, nI_0lt, nI_0le, nI_lt0, nI_m1, vp_inE, nm_nI, i_20, nI_1, nI_add, and_true, true_and, and_self, or_true, true_or, or_false, false_or, false_and, and_false, not_true_eq_false, not_false_eq_true, if_true, if_false, ite_true, ite_false, false_imp_iff, true_imp_iff, rsn_00, rsn_10, rsn_01, rsn_11, n_09, n_19, n_29, n_99, implies_true, bI_t, bI_f, or_self, ne_eq, eq_self, Classical.not_not, Bool.false_eq_true]
      have inner : ∀ i, i ≤ j → (∀ i', i' < i → nhit V lm (2 ^ wI V i' + 2 ^ wI V j)) → ∀ M1 v4, Fr [56, 57, 58, 59] [] M M1 → am_WP X (d + 5) 15 15 [some (.ref 61), some (.int (lm)), some (.int (nI j)), some (.int (nI i)), v4] [] S (M1) (L) 0 0 K := by
        refine am_ind ?_
        intro i hi ih2 hn2 M1 v4 f1
        have hc1 := hc.of (f1.row 54 (by decide) (by decide)) (f1.row 60 (by decide) (by decide)) (f1.row 55 (by decide) (by decide))
        refine H_Hindsight_twoToLeave_15 pt34_ok ?_
        simp only [s_aload_0_ref, s_get0, s_get2, s_goto, s_iald, s_ic_ge, s_iconst, s_iinc_2, s_iinc_3, s_iload_1_int, s_iload_2_int, s_iload_3_int, s_iload_4_int, s_ior, s_ireturn, s_ishl, s_istore_2_int, s_istore_3_int, s_istore_4_int, s_iv_1, s_tld1, s_tld2, J_Hindsight_twoToLeave_0, b_Hindsight_twoToLeave_0, J_Hindsight_twoToLeave_61, b_Hindsight_twoToLeave_61, J_Hindsight_twoToLeave_67, b_Hindsight_twoToLeave_67, J_Hindsight_twoToLeave_73, b_Hindsight_twoToLeave_73, J_Hindsight_twoToLeave_2, b_Hindsight_twoToLeave_2, J_Hindsight_twoToLeave_15, b_Hindsight_twoToLeave_15, s_end, true_and, and_true, or_true, true_or, if_true, if_false, ite_true, ite_false, List.map_nil, List.map_cons, List.sum_nil, List.sum_cons, List.nil_append, List.cons_append, Option.toList_some, Option.toList_none, Nat.reduceAdd, Nat.reduceLeDiff, Nat.reduceSub, Nat.zero_le, List.headD_cons, List.tail_cons, List.length_cons, List.length_nil, ne_eq, reduceCtorEq, false_or, or_false, not_false_eq_true, Nat.reduceEqDiff, Nat.reduceLT, am_sw, bI_0, bI_z, bI_y, Classical.not_not, Nat.le_add_left, am_u_row2, am_r_row2, am_u_same, am_u_at, am_r_same, Int32.reduceLT, Int32.reduceLE, Int32.reduceAdd, Int32.reduceSub, Int32.reduceMul, forall_const, not_true_eq_false, implies_true, false_imp_iff, true_imp_iff, i_10, i_01, i_m10, i_m11, eq_self, or_self, false_and, and_false, and_self, am_so_some, am_pv_some, am_pv_none, l_cl_none, l_cl_int, l_cl_ref, l_cl_ra, l_cl_null, l_cl_long, cat_int, cat_ref, cat_long, cat_ra, cat_null, cl_0, cl_1, cl_2, cl_3, cl_4, cl_5, cl_6, cl_7, cl_8, cl_9, cl_10, cl_11, cl_12, cl_13, cl_14, cl_15, cl_16, cl_30, cl_64, cl_500, vl_0_2, vl_0_3, vl_0_4, vl_0_6, vl_0_7, vl_0_12, vl_0_16, vl_0_1400, vl_1_2, vl_1_3, vl_1_4, vl_1_6, vl_1_7, vl_1_12, vl_1_16, vl_1_1400, vl_2_3, vl_2_4, vl_2_6, vl_2_7, vl_2_12, vl_2_16, vl_2_1400, vl_3_4, vl_3_6, vl_3_7, vl_3_12, vl_3_16, vl_3_1400, vl_4_6, vl_4_7, vl_4_12, vl_4_16, vl_4_1400, vl_5_6, vl_5_7, vl_5_12, vl_5_16, vl_5_1400, vl_6_7, vl_6_12, vl_6_16, vl_6_1400, vl_7_12, vl_7_16, vl_8_12, vl_8_16, vl_9_12, vl_9_16, vl_10_12, vl_10_16, vl_11_12, vl_11_16, i_64le_e, i64a_0, i64b_0, i64a_1, i64b_1, i64a_2, i64b_2, i64a_3, i64b_3, i64a_4, i64b_4, i64a_5, i64b_5, i64a_7, i64b_7, i64a_8, i64b_8, i64a_9, i64b_9, i64a_10, i64b_10, i64a_16, i64b_16, i64a_50, i64b_50, i64a_m50, i64b_m50, i64a_60, i64b_60, i64a_99, i64b_99, i64a_100, i64b_100, i64a_500, i64b_500, i64a_600, i64b_600, i64a_1000, i64b_1000, i64a_1000000, i64b_1000000, i64a_m9, i64b_m9, e_s_31, e_i_31, e_l_31, e_p_31_0, e_p_31_1, e_p_31_2, e_p_31_3, e_p_31_4, e_p_31_5, e_p_31_6, e_s_54, e_i_54, e_l_54, e_p_54_0, e_p_54_1, e_p_54_2, e_p_54_3, e_p_54_4, e_p_54_5, e_p_54_6, e_p_54_7, e_s_60, e_i_60, e_l_60, e_s_61, e_i_61, e_l_61, e_p_61_0, e_p_61_1, hE]
        by_cases c1 : i < j
        · have a2 : M1 60 i = nI (wI V i) := (hc1.w i (by rw [List.length_map]; omega)).trans (getD_map (b := 0) (by omega))
          have a3 : M1 60 j = nI (wI V j) := (hc1.w j (by rw [List.length_map]; exact c0)).trans (getD_map (b := 0) c0)
          have e1 := shlw hI (V := V) (i := i) (by omega)
          have e2 := shlw hI c0
          have e3 := or2 (wI_lt c1 c0)
          simp (disch := omega) only [Nat.not_le.mpr, c1, a2, a3, e1, e2, e3, nI_clamp, nI_le', nI_lt', nI_eq', rem2_1, rem2_0, nI_eq0, nI_le0, nI_0lt, nI_0le, nI_lt0, nI_m1, vp_inE, nm_nI, i_20, nI_1, nI_add, and_true, true_and, and_self, or_true, true_or, or_false, false_or, false_and, and_false, not_true_eq_false, not_false_eq_true, if_true, if_false, ite_true, ite_false, false_imp_iff, true_imp_iff, rsn_00, rsn_10, rsn_01, rsn_11, n_09, n_19, n_29, n_99, implies_true, bI_t, bI_f, or_self, ne_eq, eq_self, Classical.not_not, Bool.false_eq_true]
          refine am_cal_no rfl (c_Odds_thousandWithout hE hI hc1 cd ?_)
          intro M2 f2
          simp only [s_aload_0_ref, s_get0, s_get2, s_goto, s_iald, s_ic_ge, s_iconst, s_iinc_2, s_iinc_3, s_iload_1_int, s_iload_2_int, s_iload_3_int, s_iload_4_int, s_ior, s_ireturn, s_ishl, s_istore_2_int, s_istore_3_int, s_istore_4_int, s_iv_1, s_tld1, s_tld2, J_Hindsight_twoToLeave_0, b_Hindsight_twoToLeave_0, J_Hindsight_twoToLeave_61, b_Hindsight_twoToLeave_61, J_Hindsight_twoToLeave_67, b_Hindsight_twoToLeave_67, J_Hindsight_twoToLeave_73, b_Hindsight_twoToLeave_73, J_Hindsight_twoToLeave_2, b_Hindsight_twoToLeave_2, J_Hindsight_twoToLeave_15, b_Hindsight_twoToLeave_15, s_end, true_and, and_true, or_true, true_or, if_true, if_false, ite_true, ite_false, List.map_nil, List.map_cons, List.sum_nil, List.sum_cons, List.nil_append, List.cons_append, Option.toList_some, Option.toList_none, Nat.reduceAdd, Nat.reduceLeDiff, Nat.reduceSub, Nat.zero_le, List.headD_cons, List.tail_cons, List.length_cons, List.length_nil, ne_eq, reduceCtorEq, false_or, or_false, not_false_eq_true, Nat.reduceEqDiff, Nat.reduceLT, am_sw, bI_0, bI_z, bI_y, Classical.not_not, Nat.le_add_left, am_u_row2, am_r_row2, am_u_same, am_u_at, am_r_same, Int32.reduceLT, Int32.reduceLE, Int32.reduceAdd, Int32.reduceSub, Int32.reduceMul, forall_const, not_true_eq_false, implies_true, false_imp_iff, true_imp_iff, i_10, i_01, i_m10, i_m11, eq_self, or_self, false_and, and_false, and_self, am_so_some, am_pv_some, am_pv_none, l_cl_none, l_cl_int, l_cl_ref, l_cl_ra, l_cl_null, l_cl_long, cat_int, cat_ref, cat_long, cat_ra, cat_null, cl_0, cl_1, cl_2, cl_3, cl_4, cl_5, cl_6, cl_7, cl_8, cl_9, cl_10, cl_11, cl_12, cl_13, cl_14, cl_15, cl_16, cl_30, cl_64, cl_500, vl_0_2, vl_0_3, vl_0_4, vl_0_6, vl_0_7, vl_0_12, vl_0_16, vl_0_1400, vl_1_2, vl_1_3, vl_1_4, vl_1_6, vl_1_7, vl_1_12, vl_1_16, vl_1_1400, vl_2_3, vl_2_4, vl_2_6, vl_2_7, vl_2_12, vl_2_16, vl_2_1400, vl_3_4, vl_3_6, vl_3_7, vl_3_12, vl_3_16, vl_3_1400, vl_4_6, vl_4_7, vl_4_12, vl_4_16, vl_4_1400, vl_5_6, vl_5_7, vl_5_12, vl_5_16, vl_5_1400, vl_6_7, vl_6_12, vl_6_16, vl_6_1400, vl_7_12, vl_7_16, vl_8_12, vl_8_16, vl_9_12, vl_9_16, vl_10_12, vl_10_16, vl_11_12, vl_11_16, i_64le_e, i64a_0, i64b_0, i64a_1, i64b_1, i64a_2, i64b_2, i64a_3, i64b_3, i64a_4, i64b_4, i64a_5, i64b_5, i64a_7, i64b_7, i64a_8, i64b_8, i64a_9, i64b_9, i64a_10, i64b_10, i64a_16, i64b_16, i64a_50, i64b_50, i64a_m50, i64b_m50, i64a_60, i64b_60, i64a_99, i64b_99, i64a_100, i64b_100, i64a_500, i64b_500, i64a_600, i64b_600, i64a_1000, i64b_1000, i64a_1000000, i64b_1000000, i64a_m9, i64b_m9, e_s_31, e_i_31, e_l_31, e_p_31_0, e_p_31_1, e_p_31_2, e_p_31_3, e_p_31_4, e_p_31_5, e_p_31_6, e_s_54, e_i_54, e_l_54, e_p_54_0, e_p_54_1, e_p_54_2, e_p_54_3, e_p_54_4, e_p_54_5, e_p_54_6, e_p_54_7, e_s_60, e_i_60, e_l_60, e_s_61, e_i_61, e_l_61, e_p_61_0, e_p_61_1, hE]
          simp (disch := omega) only [nI_clamp, nI_le', nI_lt', nI_eq', rem2_1, rem2_0, nI_eq0, nI_le0, nI_0lt, nI_0le, nI_lt0, nI_m1, vp_inE, nm_nI, i_20, nI_1, nI_add, and_true, true_and, and_self, or_true, true_or, or_false, false_or, false_and, and_false, not_true_eq_false, not_false_eq_true, if_true, if_false, ite_true, ite_false, false_imp_iff, true_imp_iff, rsn_00, rsn_10, rsn_01, rsn_11, n_09, n_19, n_29, n_99, implies_true, bI_t, bI_f, or_self, ne_eq, eq_self, Classical.not_not, Bool.false_eq_true]
          refine ⟨fun z => ?_, fun z => ?_⟩
          · refine ih2 c1 (fun i' hi' => ?_) M2 _ (f1.trans f2)
            by_cases e : i' = i
            · subst e; exact fun q => absurd q (Int32.not_lt.mpr z)
            · exact hn2 i' (by omega)
          · have q := lvT_2 hI c1 c0 (Int32.not_le.mp z)
            have e : lv V lm 2 = some (2 ^ wI V i + 2 ^ wI V j) := by
              refine fh_some q.2 q.1 (fun y hy => ?_)
              cases py : lvP V lm 2 y with
              | false => rfl
              | true =>
                obtain ⟨i', j', i1, i2, i3⟩ := lvP_2 hI (by omega) py
                have hit := lvP_hit py
                rw [i3] at hit hy
                have pj := p_lt (wI_lt c1 c0)
                have pp := Nat.two_pow_pos (wI V i')
                rcases Nat.lt_trichotomy j' j with w | w | w
                · exact absurd hit (hn j' i' i1 w)
                · subst w
                  have lt := p_inv (show 2 ^ wI V i' < 2 ^ wI V i by omega)
                  rcases Nat.lt_trichotomy i' i with x | x | x
                  · exact absurd hit (hn2 i' x)
                  · subst x; omega
                  · have := wI_lt (V := V) x (by omega); omega
                · have := p_lt (wI_lt w i2); omega
            have k := k M2 (f1.trans f2)
            rw [e] at k
            exact k
        · have e : i = j := by omega
          subst e
          simp (disch := omega) only [Nat.le_refl, nI_clamp, nI_le', nI_lt', nI_eq', rem2_1, rem2_0, nI_eq0, nI_le0, nI_0lt, nI_0le, nI_lt0, nI_m1, vp_inE, nm_nI, i_20, nI_1, nI_add, and_true, true_and, and_self, or_true, true_or, or_false, false_or, false_and, and_false, not_true_eq_false, not_false_eq_true, if_true, if_false, ite_true, ite_false, false_imp_iff, true_imp_iff, rsn_00, rsn_10, rsn_01, rsn_11, n_09, n_19, n_29, n_99, implies_true, bI_t, bI_f, or_self, ne_eq, eq_self, Classical.not_not, Bool.false_eq_true]
          refine ih c0 (by omega) (fun j' i' a b => ?_) M1 _ _ f1
          by_cases e : j' = i
          · subst e; exact hn2 i' a
          · exact hn j' i' a (by omega)
      exact inner 0 (by omega) (fun i' h => by omega) M1 _ f1
    · have e : j = (ct0 V).length := by omega
      subst e
      simp (disch := omega) only [Nat.le_refl, nI_clamp, nI_le', nI_lt', nI_eq', rem2_1, rem2_0, nI_eq0, nI_le0, nI_0lt, nI_0le, nI_lt0, nI_m1, vp_inE, nm_nI, i_20, nI_1, nI_add, and_true, true_and, and_self, or_true, true_or, or_false, false_or, false_and, and_false, not_true_eq_false, not_false_eq_true, if_true, if_false, ite_true, ite_false, false_imp_iff, true_imp_iff, rsn_00, rsn_10, rsn_01, rsn_11, n_09, n_19, n_29, n_99, implies_true, bI_t, bI_f, or_self, ne_eq, eq_self, Classical.not_not, Bool.false_eq_true]
      exact fin (fun j i a b => hn j i a b) M1 f1
  by_cases c : 1 ≤ (ct0 V).length
  · exact loop 1 c (by omega) (fun j' i' a b => by omega) M _ _ Fr.refl
  · have a1 := hc.n
    refine H_Hindsight_twoToLeave_2 pt34_ok ?_
    simp only [s_aload_0_ref, s_get0, s_get2, s_goto, s_iald, s_ic_ge, s_iconst, s_iinc_2, s_iinc_3, s_iload_1_int, s_iload_2_int, s_iload_3_int, s_iload_4_int, s_ior, s_ireturn, s_ishl, s_istore_2_int, s_istore_3_int, s_istore_4_int, s_iv_1, s_tld1, s_tld2, J_Hindsight_twoToLeave_0, b_Hindsight_twoToLeave_0, J_Hindsight_twoToLeave_61, b_Hindsight_twoToLeave_61, J_Hindsight_twoToLeave_67, b_Hindsight_twoToLeave_67, J_Hindsight_twoToLeave_73, b_Hindsight_twoToLeave_73, J_Hindsight_twoToLeave_2, b_Hindsight_twoToLeave_2, J_Hindsight_twoToLeave_15, b_Hindsight_twoToLeave_15, s_end, true_and, and_true, or_true, true_or, if_true, if_false, ite_true, ite_false, List.map_nil, List.map_cons, List.sum_nil, List.sum_cons, List.nil_append, List.cons_append, Option.toList_some, Option.toList_none, Nat.reduceAdd, Nat.reduceLeDiff, Nat.reduceSub, Nat.zero_le, List.headD_cons, List.tail_cons, List.length_cons, List.length_nil, ne_eq, reduceCtorEq, false_or, or_false, not_false_eq_true, Nat.reduceEqDiff, Nat.reduceLT, am_sw, bI_0, bI_z, bI_y, Classical.not_not, Nat.le_add_left, am_u_row2, am_r_row2, am_u_same, am_u_at, am_r_same, Int32.reduceLT, Int32.reduceLE, Int32.reduceAdd, Int32.reduceSub, Int32.reduceMul, forall_const, not_true_eq_false, implies_true, false_imp_iff, true_imp_iff, i_10, i_01, i_m10, i_m11, eq_self, or_self, false_and, and_false, and_self, am_so_some, am_pv_some, am_pv_none, l_cl_none, l_cl_int, l_cl_ref, l_cl_ra, l_cl_null, l_cl_long, cat_int, cat_ref, cat_long, cat_ra, cat_null, cl_0, cl_1, cl_2, cl_3, cl_4, cl_5, cl_6, cl_7, cl_8, cl_9, cl_10, cl_11, cl_12, cl_13, cl_14, cl_15, cl_16, cl_30, cl_64, cl_500, vl_0_2, vl_0_3, vl_0_4, vl_0_6, vl_0_7, vl_0_12, vl_0_16, vl_0_1400, vl_1_2, vl_1_3, vl_1_4, vl_1_6, vl_1_7, vl_1_12, vl_1_16, vl_1_1400, vl_2_3, vl_2_4, vl_2_6, vl_2_7, vl_2_12, vl_2_16, vl_2_1400, vl_3_4, vl_3_6, vl_3_7, vl_3_12, vl_3_16, vl_3_1400, vl_4_6, vl_4_7, vl_4_12, vl_4_16, vl_4_1400, vl_5_6, vl_5_7, vl_5_12, vl_5_16, vl_5_1400, vl_6_7, vl_6_12, vl_6_16, vl_6_1400, vl_7_12, vl_7_16, vl_8_12, vl_8_16, vl_9_12, vl_9_16, vl_10_12, vl_10_16, vl_11_12, vl_11_16, i_64le_e, i64a_0, i64b_0, i64a_1, i64b_1, i64a_2, i64b_2, i64a_3, i64b_3, i64a_4, i64b_4, i64a_5, i64b_5, i64a_7, i64b_7, i64a_8, i64b_8, i64a_9, i64b_9, i64a_10, i64b_10, i64a_16, i64b_16, i64a_50, i64b_50, i64a_m50, i64b_m50, i64a_60, i64b_60, i64a_99, i64b_99, i64a_100, i64b_100, i64a_500, i64b_500, i64a_600, i64b_600, i64a_1000, i64b_1000, i64a_1000000, i64b_1000000, i64a_m9, i64b_m9, e_s_31, e_i_31, e_l_31, e_p_31_0, e_p_31_1, e_p_31_2, e_p_31_3, e_p_31_4, e_p_31_5, e_p_31_6, e_s_54, e_i_54, e_l_54, e_p_54_0, e_p_54_1, e_p_54_2, e_p_54_3, e_p_54_4, e_p_54_5, e_p_54_6, e_p_54_7, e_s_60, e_i_60, e_l_60, e_s_61, e_i_61, e_l_61, e_p_61_0, e_p_61_1, a1, hE]
    have z : (nI (ct0 V).length ≤ 1) = True := by
      rw [show (1 : Int32) = nI 1 from rfl, nI_le' (by omega) (by omega)]; exact eq_true (by omega)
    simp only [z, and_true, true_and, and_self, or_true, true_or, or_false, false_or, false_and, and_false, not_true_eq_false, not_false_eq_true, if_true, if_false, ite_true, ite_false, false_imp_iff, true_imp_iff, rsn_00, rsn_10, rsn_01, rsn_11, n_09, n_19, n_29, n_99, implies_true, bI_t, bI_f, or_self, ne_eq, eq_self, Classical.not_not, Bool.false_eq_true]
    exact fin (fun j i a b => by omega) M Fr.refl
end T57
