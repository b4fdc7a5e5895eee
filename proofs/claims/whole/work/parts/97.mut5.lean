section T97
variable {X : am_X} {d : Nat} {K : am_K} {S : am_S} {M : am_M} {L : am_L}
theorem TxC.cut {T : Nat → Nat} {n j : Nat} {M M' : am_M} (h : TxC T n M) (hj : j ≤ n) (e1 : M' 2 5 = nI j) (e2 : M' 3 = M 3) : TxC T j M' := ⟨e1, fun i hi => by rw [e2]; exact h.by3 i (by omega), by have := h.n5; omega, h.t8⟩
theorem TxR.cut {T : Nat → Nat} {n j : Nat} {M M' : am_M} (h : TxR T n M) (hj : j ≤ n) (e1 : M' 70 25 = nI j) (e2 : M' 86 = M 86) : TxR T j M' := ⟨e1, fun i hi => by rw [e2]; exact h.by6 i (by omega), by have := h.n5; omega, h.t8⟩
theorem Rel.mkT {S : am_S} {cs : List Nat} {fs : List (Nat × Nat)} {M M' : am_M} (h : Rel S M) (f : Fr cs fs M M') (g : okF cs fs (rsSt ++ rsLb ++ rsPg ++ [113, 1, 71, 115, 116, 117, 118] ++ rsFn) (psSt ++ psLb ++ psPg ++ psNm ++ psSp ++ psBk ++ psFn) = true) (h1 : (cs.all fun c => decide (c < 119)) = true) (h2 : (fs.all fun z => decide (z.1 < 119)) = true) (ht : pTx M') : Rel S M' := by
  have a := (f.rw g).1
  have b := (f.rw g).2
  have e9 : nP M' = nP M := by unfold nP; rw [b (70, 9) (by decide)]
  exact ⟨h.env, h.st.fr f (okF_sub g (by decide) (by decide)), h.lb.fr f (okF_sub g (by decide) (by decide)), h.pg.fr f (okF_sub g (by decide) (by decide)), h.nm.fr f (okF_sub g (by decide) (by decide)), h.sp.fr f (okF_sub g (by decide) (by decide)), h.bk.fr f (okF_sub g (by decide) (by decide)), ht, rf.fr h.rf f (okF_sub g (by decide) (by decide)), h.im.fr f (okF_sub g (by decide) (by decide)) h1 h2 (by rw [e9]; exact Nat.le_refl _) (fun p _ => by rw [a 77 (by decide)]; exact Nat.le_refl _), h.fn.fr f (okF_sub g (by decide) (by decide))⟩
theorem P_end {z : Int32} (h : Rel S M) : Pair X (d + 60) m_L_end m_R_end [.int z] S M L := by
  intro K k
  obtain ⟨T, n, hC, hR⟩ := h.tx
  have n5 := hC.n5
  refine c_L_end h.env ?_
  rw [hC.f5]
  refine k _ S _ L h.env ?_
  intro K2 k2
  by_cases c : 0 ≤ z ∧ z ≤ nI n
  · have e : o_end z (nI n) = 9 := if_pos c
    rw [if_pos e]
    have f1 : Fr [] [(2, 5)] M (am_u M 2 5 z) := Fr.refl.uf (by decide)
    refine c_R_end h.env ?_
    rw [f1 70 25 (by decide) (by decide), hR.f5, if_pos e]
    refine k2 S _ L ?_
    obtain ⟨j, hj, rfl⟩ := nI_of2 (M := nI n) (n := n) (nI_toInt (by omega)) (Int32.not_lt.mpr c.1) c.2
    refine h.mkT (cs := []) (fs := [(2, 5), (70, 25)]) ((Fr.refl.uf (by decide)).uf (by decide)) (by decide) (by decide) (by decide) ⟨T, j, hC.cut hj ?_ ?_, hR.cut hj am_u_same ?_⟩
    · rw [u_row (by decide), am_u_same]
    · rw [u_row (by decide), u_row (by decide)]
    · rw [u_row (by decide), u_row (by decide)]
  · have e : o_end z (nI n) = 2 := if_neg c
    have e9 : ¬ o_end z (nI n) = 9 := by rw [e]; decide
    rw [if_neg e9]
    refine c_R_end h.env ?_
    rw [frL 70 25 (by decide) (by decide), hR.f5, if_neg e9]
    exact k2 S _ L h.ref
theorem P_feed {a b c e g : Int32} (h : Rel S M) : Pair X (d + 60) m_L_feed m_R_feed [.int a, .int b, .int c, .int e, .int g] S M L := by
  intro K k
  obtain ⟨T, n, hC, hR⟩ := h.tx
  refine c_L_feed h.env hC (fun y => ?_) (fun y => ?_)
  · intro M1 f1 T1
    refine k _ S M1 L h.env ?_
    intro K2 k2
    refine c_R_feed h.env (hR.of (f1 70 25 (by decide) (by decide)) (f1.row 86 (by decide) (by decide))) (fun _ => ?_) (fun y2 => absurd y y2)
    intro M2 f2 T2
    exact k2 S M2 L (h.mkT (f1.join f2) (by decide) (by decide) (by decide) ⟨_, _, T1.of (f2 2 5 (by decide) (by decide)) (f2.row 3 (by decide) (by decide)), T2⟩)
  · refine k _ S _ L h.env ?_
    intro K2 k2
    refine c_R_feed h.env (hR.of (frL 70 25 (by decide) (by decide)) (frL.row 86 (by decide) (by decide))) (fun y2 => absurd y2 y) (fun _ => ?_)
    exact k2 S _ L h.ref
theorem P_laws (h : Rel S M) : Pair X (d + 60) m_L_laws m_R_laws [] S M L := by
  intro K k
  obtain ⟨T, n, hC, hR⟩ := h.tx
  refine c_L_laws h.env hC (fun y => ?_) (fun y => ?_)
  · intro M1 f1 hP e8 e5 e1 hI
    refine k _ S M1 L h.env ?_
    intro K2 k2
    refine c_R_laws h.env (hR.of (f1 70 25 (by decide) (by decide)) (f1.row 86 (by decide) (by decide))) (fun _ => ?_) (fun y2 => absurd y y2)
    intro M2 L2 f2 a7 a8 a88 aL aO a25 a40
    refine k2 S M2 L2 ?_
    have k5 := hI.k5 hC.n5
    have em := hI.em
    have l6 := hI.l6
    have o4 := hI.o4
    have hlw := hI.lw
    have hct := hI.ct
    generalize (gAl T n).2.2 = q at *
    have f := f1.join f2
    have nl : nL M2 = q.1.length := by unfold nL; rw [a7, nm_nI (by omega)]
    have no : nO M2 = q.2.1.length := by unfold nO; rw [a8, nm_nI (by omega)]
    have c16 : ∀ c, c = 16 ∨ c = 17 ∨ c = 18 ∨ c = 19 ∨ c = 20 ∨ c = 21 → M2 c = M1 c := fun c hc => by
      rcases hc with rfl | rfl | rfl | rfl | rfl | rfl
      · exact f2.row 16 (by decide) (by decide)
      · exact f2.row 17 (by decide) (by decide)
      · exact f2.row 18 (by decide) (by decide)
      · exact f2.row 19 (by decide) (by decide)
      · exact f2.row 20 (by decide) (by decide)
      · exact f2.row 21 (by decide) (by decide)
    have sg : ∀ c, isC M2 c → ∃ s z, M2 91 c = nI s ∧ M2 94 c = nI z ∧ s + z ≤ q.2.2.length ∧ hWf 28 (seg q.2.2 s z) := by
      intro c hc
      rcases hc with hc | hc
      · rw [nl] at hc
        exact ⟨_, _, (aL c hc).1, (aL c hc).2, (hlw c hc).1, (hlw c hc).2⟩
      · rw [no] at hc
        have z := aO (c - 6) (by omega)
        rw [show 6 + (c - 6) = c by omega] at z
        exact ⟨_, _, z.1, z.2, (hct (c - 6) (by omega)).1, (hct (c - 6) (by omega)).2⟩
    have e9 : nP M2 = nP M := by unfold nP; rw [f 70 9 (by decide) (by decide)]
    refine ⟨h.env, h.st.fr f (by decide), h.lb.fr f (by decide), ⟨⟨?_, ?_, fun l hl => ?_, fun l hl => ?_, fun c i hc hi => ?_⟩, ⟨?_, ?_, fun c hc => ?_⟩⟩, h.nm.fr f (by decide), h.sp.fr f (by decide), ?_, ⟨T, 0, ?_, ?_⟩, rf.fr h.rf f (by decide), h.im.fr f (by decide) (by decide) (by decide) (by rw [e9]; exact Nat.le_refl _) (fun p _ => by rw [f.row 77 (by decide) (by decide)]; exact Nat.le_refl _), h.fn.fgt f (by decide) ?_⟩
    · rw [c16 16 (by omega), a7]; exact hP.f7
    · rw [c16 16 (by omega), a8]; exact hP.f8
    · rw [nl] at hl
      rw [c16 18 (by omega), c16 19 (by omega), (aL l hl).1, (aL l hl).2, nI_add]
      exact ⟨hP.l1 l hl, hP.l2 l hl⟩
    · rw [no] at hl
      rw [c16 20 (by omega), c16 21 (by omega), (aO l hl).1, (aO l hl).2, nI_add]
      exact ⟨hP.c1 l hl, hP.c2 l hl⟩
    · obtain ⟨s, z, s1, s2, s3, s4⟩ := sg c hc
      rw [s2, nm_nI (by omega)] at hi
      rw [s1, nm_nI (by omega), c16 17 (by omega), a88 (s + i) (by omega)]
      exact hP.co (s + i) (by omega)
    · rw [nl]; exact ⟨a7, l6⟩
    · rw [no]; exact ⟨a8, o4⟩
    · obtain ⟨s, z, s1, s2, s3, s4⟩ := sg c hc
      rw [s1, s2, nm_nI (by omega), nm_nI (by omega)]
      refine ⟨rfl, rfl, by omega, ?_⟩
      have w := WFx_of (g := M2 88) (b := s) (e := seg q.2.2 s z) (fun i hi => ?_) s4
      · rw [seg_len s3] at w; exact w
      · rw [seg_len s3] at hi
        rw [a88 (s + i) (by omega), seg_get s3 hi]
    · have b := h.bk
      obtain ⟨b1, b2, b3, b4, b5, b6, b7, b8, b9, b10⟩ := b
      have g69 : ∀ j, j ≠ 1 → M2 69 j = M 69 j := fun j hj => f 69 j (by decide) (by simp [fsH, fsE, fsG, fsJ]; omega)
      have g60 : M2 70 60 = M 70 60 := f 70 60 (by decide) (by decide)
      have g113 : M2 113 = M 113 := f.row 113 (by decide) (by decide)
      have g1 : M2 69 1 = 1 := by rw [f2 69 1 (by decide) (by decide)]; exact e1
      refine ⟨?_, by rw [g1, a40], ?_, ?_, ?_, ?_, ?_, ?_, ?_, Or.inr a40⟩
      · rw [g69 0 (by decide), g60]; exact b1
      · rw [g69 2 (by decide), g60, g113]; exact b3
      · rw [g69 3 (by decide), g60, g113]; exact b4
      · rw [g69 4 (by decide), g60, g113]; exact b5
      · rw [g69 5 (by decide), g60, g113]; exact b6
      · rw [g69 6 (by decide), g60, g113]; exact b7
      · rw [g69 7 (by decide), g60, g113]; exact b8
      · rw [g60]; exact b9
    · exact ⟨by rw [f2 2 5 (by decide) (by decide)]; exact e5, fun i hi => by omega, by omega, hC.t8⟩
    · exact ⟨a25, fun i hi => by omega, by omega, hC.t8⟩
    · rw [f2 62 8 (by decide) (by decide)]; exact e8
  · intro M1 f1
    refine k _ S _ L h.env ?_
    intro K2 k2
    have g1 := f1.join (frL (M := M1) (r := 2))
    refine c_R_laws h.env (hR.of (g1 70 25 (by decide) (by decide)) (g1.row 86 (by decide) (by decide))) (fun y2 => absurd y2 y) (fun _ => ?_)
    intro M2 L2 f2
    refine k2 S _ L2 ?_
    have r1 : M1 1 = M1 71 := by rw [f1.row 1 (by decide) (by decide), f1.row 71 (by decide) (by decide)]; exact h.rf
    exact h.scrR ((g1.join f2).join frR) (by decide) (by decide) (by decide) (by decide) (rf_eq r1 (f2.row 1 (by decide) (by decide)) ((f2.row 71 (by decide) (by decide)).trans (frL.row 71 (by decide) (by decide))))
theorem c_Book_write {z : Int32} (hE : am_env S) (k : K none S (am_u (am_u (am_u (am_u (am_u (am_u (am_u (am_u M 69 0 1) 69 1 0) 69 2 (M 31 8)) 69 3 (M 31 9)) 69 4 (M 31 10)) 69 5 (M 31 12)) 69 6 (M 31 13)) 69 7 z) L) : am_Call X d m_Book_write [.ref 69, .ref 31, .int z] S M L K := by
  refine EE_Book_write pt38_ok ?_
  simp only [s_aload_0_ref, s_aload_1_ref, s_get0, s_iconst, s_iload_2_int, s_put0, s_put3, s_return, J_Book_write_0, b_Book_write_0, s_end, true_and, and_true, or_true, true_or, if_true, if_false, ite_true, ite_false, List.map_nil, List.map_cons, List.sum_nil, List.sum_cons, List.nil_append, List.cons_append, Option.toList_some, Option.toList_none, Nat.reduceAdd, Nat.reduceLeDiff, Nat.reduceSub, Nat.zero_le, List.headD_cons, List.tail_cons, List.length_cons, List.length_nil, ne_eq, reduceCtorEq, false_or, or_false, not_false_eq_true, Nat.reduceEqDiff, Nat.reduceLT, am_sw, bI_0, bI_z, bI_y, Classical.not_not, Nat.le_add_left, am_u_row2, am_r_row2, am_u_same, am_u_at, am_r_same, Int32.reduceLT, Int32.reduceLE, Int32.reduceAdd, Int32.reduceSub, Int32.reduceMul, forall_const, not_true_eq_false, implies_true, false_imp_iff, true_imp_iff, i_10, i_01, i_m10, i_m11, eq_self, or_self, false_and, and_false, and_self, am_so_some, am_pv_some, am_pv_none, l_cl_none, l_cl_int, l_cl_ref, l_cl_ra, l_cl_null, l_cl_long, cat_int, cat_ref, cat_long, cat_ra, cat_null, cl_0, cl_1, cl_2, cl_3, cl_4, cl_5, cl_6, cl_7, cl_8, cl_9, cl_10, cl_11, cl_12, cl_13, cl_14, cl_15, cl_16, cl_30, cl_64, cl_500, vl_0_2, vl_0_3, vl_0_4, vl_0_6, vl_0_7, vl_0_12, vl_0_16, vl_0_1400, vl_1_2, vl_1_3, vl_1_4, vl_1_6, vl_1_7, vl_1_12, vl_1_16, vl_1_1400, vl_2_3, vl_2_4, vl_2_6, vl_2_7, vl_2_12, vl_2_16, vl_2_1400, vl_3_4, vl_3_6, vl_3_7, vl_3_12, vl_3_16, vl_3_1400, vl_4_6, vl_4_7, vl_4_12, vl_4_16, vl_4_1400, vl_5_6, vl_5_7, vl_5_12, vl_5_16, vl_5_1400, vl_6_7, vl_6_12, vl_6_16, vl_6_1400, vl_7_12, vl_7_16, vl_8_12, vl_8_16, vl_9_12, vl_9_16, vl_10_12, vl_10_16, vl_11_12, vl_11_16, i_64le_e, i64a_0, i64b_0, i64a_1, i64b_1, i64a_2, i64b_2, i64a_3, i64b_3, i64a_4, i64b_4, i64a_5, i64b_5, i64a_7, i64b_7, i64a_8, i64b_8, i64a_9, i64b_9, i64a_10, i64b_10, i64a_16, i64b_16, i64a_50, i64b_50, i64a_m50, i64b_m50, i64a_60, i64b_60, i64a_99, i64b_99, i64a_100, i64b_100, i64a_500, i64b_500, i64a_600, i64b_600, i64a_1000, i64b_1000, i64a_1000000, i64b_1000000, i64a_m9, i64b_m9, e_s_31, e_i_31, e_l_31, e_p_31_0, e_p_31_1, e_p_31_2, e_p_31_3, e_p_31_4, e_p_31_5, e_p_31_6, e_s_69, e_i_69, e_l_69, hE]
  exact k
theorem c_L_book {z : Int32} (hE : am_env S) (k9 : 0 ≤ z ∧ z ≤ 16 → K (some (.int 1)) S (am_u (am_u (am_u (am_u (am_u (am_u (am_u (am_u M 69 0 1) 69 1 0) 69 2 (M 31 8)) 69 3 (M 31 9)) 69 4 (M 31 10)) 69 5 (M 31 12)) 69 6 (M 31 13)) 69 7 z) L) (k : ¬ (0 ≤ z ∧ z ≤ 16) → K (some (.int 0)) S (rfL M 2) L) : am_Call X (d + 2) m_L_book [.ref 0, .int z] S M L K := by
  refine EE_L_book pt38_ok ?_
  simp only [s_aload_0_ref, s_bipush, s_get2, s_iconst, s_if_ne, s_iload_1_int, s_ireturnZ, s_ist_3, s_iv_1, s_iv_2, J_L_book_0, b_L_book_0, J_L_book_16, b_L_book_16, s_end, true_and, and_true, or_true, true_or, if_true, if_false, ite_true, ite_false, List.map_nil, List.map_cons, List.sum_nil, List.sum_cons, List.nil_append, List.cons_append, Option.toList_some, Option.toList_none, Nat.reduceAdd, Nat.reduceLeDiff, Nat.reduceSub, Nat.zero_le, List.headD_cons, List.tail_cons, List.length_cons, List.length_nil, ne_eq, reduceCtorEq, false_or, or_false, not_false_eq_true, Nat.reduceEqDiff, Nat.reduceLT, am_sw, bI_0, bI_z, bI_y, Classical.not_not, Nat.le_add_left, am_u_row2, am_r_row2, am_u_same, am_u_at, am_r_same, Int32.reduceLT, Int32.reduceLE, Int32.reduceAdd, Int32.reduceSub, Int32.reduceMul, forall_const, not_true_eq_false, implies_true, false_imp_iff, true_imp_iff, i_10, i_01, i_m10, i_m11, eq_self, or_self, false_and, and_false, and_self, am_so_some, am_pv_some, am_pv_none, l_cl_none, l_cl_int, l_cl_ref, l_cl_ra, l_cl_null, l_cl_long, cat_int, cat_ref, cat_long, cat_ra, cat_null, cl_0, cl_1, cl_2, cl_3, cl_4, cl_5, cl_6, cl_7, cl_8, cl_9, cl_10, cl_11, cl_12, cl_13, cl_14, cl_15, cl_16, cl_30, cl_64, cl_500, vl_0_2, vl_0_3, vl_0_4, vl_0_6, vl_0_7, vl_0_12, vl_0_16, vl_0_1400, vl_1_2, vl_1_3, vl_1_4, vl_1_6, vl_1_7, vl_1_12, vl_1_16, vl_1_1400, vl_2_3, vl_2_4, vl_2_6, vl_2_7, vl_2_12, vl_2_16, vl_2_1400, vl_3_4, vl_3_6, vl_3_7, vl_3_12, vl_3_16, vl_3_1400, vl_4_6, vl_4_7, vl_4_12, vl_4_16, vl_4_1400, vl_5_6, vl_5_7, vl_5_12, vl_5_16, vl_5_1400, vl_6_7, vl_6_12, vl_6_16, vl_6_1400, vl_7_12, vl_7_16, vl_8_12, vl_8_16, vl_9_12, vl_9_16, vl_10_12, vl_10_16, vl_11_12, vl_11_16, i_64le_e, i64a_0, i64b_0, i64a_1, i64b_1, i64a_2, i64b_2, i64a_3, i64b_3, i64a_4, i64b_4, i64a_5, i64b_5, i64a_7, i64b_7, i64a_8, i64b_8, i64a_9, i64b_9, i64a_10, i64b_10, i64a_16, i64b_16, i64a_50, i64b_50, i64a_m50, i64b_m50, i64a_60, i64b_60, i64a_99, i64b_99, i64a_100, i64b_100, i64a_500, i64b_500, i64a_600, i64b_600, i64a_1000, i64b_1000, i64a_1000000, i64b_1000000, i64a_m9, i64b_m9, e_s_0, e_i_0, e_l_0, e_p_0_0, e_p_0_1, e_p_0_2, e_p_0_3, e_p_0_4, e_p_0_5, e_p_0_6, e_p_0_7, e_p_0_8, e_p_0_9, e_p_0_10, e_p_0_11, e_p_0_12, e_p_0_13, e_s_1, e_i_1, e_l_1, e_s_2, e_i_2, e_l_2, e_p_2_0, e_p_2_1, e_p_2_2, e_p_2_3, e_s_7, e_i_7, e_l_7, e_p_7_0, e_p_7_1, e_p_7_3, e_s_16, e_i_16, e_l_16, e_p_16_0, e_p_16_1, e_p_16_2, e_p_16_3, e_p_16_4, e_p_16_5, e_s_23, e_i_23, e_l_23, e_p_23_0, e_p_23_1, e_p_23_2, e_p_23_3, e_p_23_4, e_p_23_5, e_p_23_6, e_s_31, e_i_31, e_l_31, e_p_31_0, e_p_31_1, e_p_31_2, e_p_31_3, e_p_31_4, e_p_31_5, e_p_31_6, e_s_39, e_i_39, e_l_39, e_p_39_0, e_p_39_1, e_p_39_2, e_p_39_3, e_p_39_4, e_p_39_5, e_p_39_6, e_s_47, e_i_47, e_l_47, e_s_48, e_i_48, e_l_48, e_p_48_0, e_p_48_1, e_p_48_2, e_p_48_3, e_p_48_5, e_s_51, e_i_51, e_l_51, e_p_51_0, e_p_51_1, e_p_51_2, e_p_51_3, e_p_51_4, e_s_54, e_i_54, e_l_54, e_p_54_0, e_p_54_1, e_p_54_2, e_p_54_3, e_p_54_4, e_p_54_5, e_p_54_6, e_p_54_7, e_s_61, e_i_61, e_l_61, e_p_61_0, e_p_61_1, e_s_62, e_i_62, e_l_62, e_p_62_0, e_p_62_1, e_p_62_2, e_p_62_3, e_p_62_4, e_p_62_5, e_p_62_6, e_p_62_7, e_p_62_12, e_s_69, e_i_69, e_l_69, pt38_L_deny, pt38_L_within, hE]
  refine ⟨fun y => ?_, fun y => ?_⟩
  · refine am_cal_no rfl (c_Book_write hE ?_)
    simp only [s_aload_0_ref, s_bipush, s_get2, s_iconst, s_if_ne, s_iload_1_int, s_ireturnZ, s_ist_3, s_iv_1, s_iv_2, J_L_book_0, b_L_book_0, J_L_book_16, b_L_book_16, s_end, true_and, and_true, or_true, true_or, if_true, if_false, ite_true, ite_false, List.map_nil, List.map_cons, List.sum_nil, List.sum_cons, List.nil_append, List.cons_append, Option.toList_some, Option.toList_none, Nat.reduceAdd, Nat.reduceLeDiff, Nat.reduceSub, Nat.zero_le, List.headD_cons, List.tail_cons, List.length_cons, List.length_nil, ne_eq, reduceCtorEq, false_or, or_false, not_false_eq_true, Nat.reduceEqDiff, Nat.reduceLT, am_sw, bI_0, bI_z, bI_y, Classical.not_not, Nat.le_add_left, am_u_row2, am_r_row2, am_u_same, am_u_at, am_r_same, Int32.reduceLT, Int32.reduceLE, Int32.reduceAdd, Int32.reduceSub, Int32.reduceMul, forall_const, not_true_eq_false, implies_true, false_imp_iff, true_imp_iff, i_10, i_01, i_m10, i_m11, eq_self, or_self, false_and, and_false, and_self, am_so_some, am_pv_some, am_pv_none, l_cl_none, l_cl_int, l_cl_ref, l_cl_ra, l_cl_null, l_cl_long, cat_int, cat_ref, cat_long, cat_ra, cat_null, cl_0, cl_1, cl_2, cl_3, cl_4, cl_5, cl_6, cl_7, cl_8, cl_9, cl_10, cl_11, cl_12, cl_13, cl_14, cl_15, cl_16, cl_30, cl_64, cl_500, vl_0_2, vl_0_3, vl_0_4, vl_0_6, vl_0_7, vl_0_12, vl_0_16, vl_0_1400, vl_1_2, vl_1_3, vl_1_4, vl_1_6, vl_1_7, vl_1_12, vl_1_16, vl_1_1400, vl_2_3, vl_2_4, vl_2_6, vl_2_7, vl_2_12, vl_2_16, vl_2_1400, vl_3_4, vl_3_6, vl_3_7, vl_3_12, vl_3_16, vl_3_1400, vl_4_6, vl_4_7, vl_4_12, vl_4_16, vl_4_1400, vl_5_6, vl_5_7, vl_5_12, vl_5_16, vl_5_1400, vl_6_7, vl_6_12, vl_6_16, vl_6_1400, vl_7_12, vl_7_16, vl_8_12, vl_8_16, vl_9_12, vl_9_16, vl_10_12, vl_10_16, vl_11_12, vl_11_16, i_64le_e, i64a_0, i64b_0, i64a_1, i64b_1, i64a_2, i64b_2, i64a_3, i64b_3, i64a_4, i64b_4, i64a_5, i64b_5, i64a_7, i64b_7, i64a_8, i64b_8, i64a_9, i64b_9, i64a_10, i64b_10, i64a_16, i64b_16, i64a_50, i64b_50, i64a_m50, i64b_m50, i64a_60, i64b_60, i64a_99, i64b_99, i64a_100, i64b_100, i64a_500, i64b_500, i64a_600, i64b_600, i64a_1000, i64b_1000, i64a_1000000, i64b_1000000, i64a_m9, i64b_m9, e_s_0, e_i_0, e_l_0, e_p_0_0, e_p_0_1, e_p_0_2, e_p_0_3, e_p_0_4, e_p_0_5, e_p_0_6, e_p_0_7, e_p_0_8, e_p_0_9, e_p_0_10, e_p_0_11, e_p_0_12, e_p_0_13, e_s_1, e_i_1, e_l_1, e_s_2, e_i_2, e_l_2, e_p_2_0, e_p_2_1, e_p_2_2, e_p_2_3, e_s_7, e_i_7, e_l_7, e_p_7_0, e_p_7_1, e_p_7_3, e_s_16, e_i_16, e_l_16, e_p_16_0, e_p_16_1, e_p_16_2, e_p_16_3, e_p_16_4, e_p_16_5, e_s_23, e_i_23, e_l_23, e_p_23_0, e_p_23_1, e_p_23_2, e_p_23_3, e_p_23_4, e_p_23_5, e_p_23_6, e_s_31, e_i_31, e_l_31, e_p_31_0, e_p_31_1, e_p_31_2, e_p_31_3, e_p_31_4, e_p_31_5, e_p_31_6, e_s_39, e_i_39, e_l_39, e_p_39_0, e_p_39_1, e_p_39_2, e_p_39_3, e_p_39_4, e_p_39_5, e_p_39_6, e_s_47, e_i_47, e_l_47, e_s_48, e_i_48, e_l_48, e_p_48_0, e_p_48_1, e_p_48_2, e_p_48_3, e_p_48_5, e_s_51, e_i_51, e_l_51, e_p_51_0, e_p_51_1, e_p_51_2, e_p_51_3, e_p_51_4, e_s_54, e_i_54, e_l_54, e_p_54_0, e_p_54_1, e_p_54_2, e_p_54_3, e_p_54_4, e_p_54_5, e_p_54_6, e_p_54_7, e_s_61, e_i_61, e_l_61, e_p_61_0, e_p_61_1, e_s_62, e_i_62, e_l_62, e_p_62_0, e_p_62_1, e_p_62_2, e_p_62_3, e_p_62_4, e_p_62_5, e_p_62_6, e_p_62_7, e_p_62_12, e_s_69, e_i_69, e_l_69, pt38_L_deny, pt38_L_within, hE]
    exact k9 y
  · exact k y
theorem am_env_nS {t z : Nat} (h : am_env S) : am_env (am_nS S t z) := by
  have h0 := h.1
  have lt0 : (am_sh0.all fun w => decide (w.1 < 119)) = true := by decide +kernel
  have lt20 : (am_p0.all fun w => decide (w.1 < 119)) = true := by decide +kernel
  have lt : ∀ w ∈ am_sh0, w.1 < 119 := fun w hw => of_decide_eq_true (List.all_eq_true.mp lt0 w hw)
  have lt2 : ∀ w ∈ am_p0, w.1 < 119 := fun w hw => of_decide_eq_true (List.all_eq_true.mp lt20 w hw)
  refine ⟨by show 119 ≤ S.1 + 1; omega, fun w hw => ?_, fun w hw => ?_⟩
  · show (if w.1 = S.1 then (t, z) else S.2.1 w.1) = w.2
    rw [if_neg (by have := lt w hw; omega)]
    exact h.2.1 w hw
  · show am_r S.2.2 S.1 (fun _ => none) w.1 w.2.1 = some w.2.2
    rw [am_r_ne (by have := lt2 w hw; omega)]
    exact h.2.2 w hw
theorem c_R_book {z : Int32} (hE : am_env S) (k9 : 0 ≤ z ∧ z ≤ 16 → ∀ M' L', (∀ c, c ≠ S.1 → c ≠ 113 → c ≠ 70 → M' c = M c) → (∀ j, j ≠ 60 → j ≠ 40 → M' 70 j = M 70 j) → M' 70 60 = 1 → M' 70 40 = 0 → M' 113 0 = M 70 18 → M' 113 1 = M 70 19 → M' 113 2 = M 70 20 → M' 113 3 = M 70 22 → M' 113 4 = M 70 23 → M' 113 5 = z → K (some (.int 1)) (am_nS S 1 6) M' L') (k : ¬ (0 ≤ z ∧ z ≤ 16) → K (some (.int 0)) S (rfR M 2) L) : am_Call X (d + 2) m_R_book [.ref 70, .int z] S M L K := by
  have h0 := hE.1
  have hE2 : am_env (am_nS S 1 6) := am_env_nS hE
  have i70 := e_i_70 hE2
  have sh : (am_nS S 1 6).2.1 S.1 = (1, 6) := if_pos rfl
  have ia : am_ia (am_nS S 1 6) S.1 1 = True := eq_true ⟨by show S.1 < S.1 + 1; omega, by rw [sh]⟩
  have lt1 : (S.1 < (am_nS S 1 6).1) = True := eq_true (by show S.1 < S.1 + 1; omega)
  have n70 : (70 : Nat) ≠ S.1 := by omega
  refine EE_R_book pt38_ok ?_
  simp only [s_aload_0_ref, s_aload_2_ref, s_astore_2_ref, s_bipush, s_dup_int, s_dup_ref, s_get0, s_get2, s_goto, s_i2l, s_iald, s_iast, s_ic_ge, s_iconst, s_if_ne, s_iinc_3, s_iload_1_int, s_iload_3_int, s_ireturnZ, s_ist_3, s_istore_3_int, s_iv_2, s_lconst, s_ldc2_w, s_newa, s_put3, J_R_book_0, b_R_book_0, J_R_book_19, b_R_book_19, J_R_book_86, b_R_book_86, J_R_book_65, b_R_book_65, s_end, true_and, and_true, or_true, true_or, if_true, if_false, ite_true, ite_false, List.map_nil, List.map_cons, List.sum_nil, List.sum_cons, List.nil_append, List.cons_append, Option.toList_some, Option.toList_none, Nat.reduceAdd, Nat.reduceLeDiff, Nat.reduceSub, Nat.zero_le, List.headD_cons, List.tail_cons, List.length_cons, List.length_nil, ne_eq, reduceCtorEq, false_or, or_false, not_false_eq_true, Nat.reduceEqDiff, Nat.reduceLT, am_sw, bI_0, bI_z, bI_y, Classical.not_not, Nat.le_add_left, am_u_row2, am_r_row2, am_u_same, am_u_at, am_r_same, Int32.reduceLT, Int32.reduceLE, Int32.reduceAdd, Int32.reduceSub, Int32.reduceMul, forall_const, not_true_eq_false, implies_true, false_imp_iff, true_imp_iff, i_10, i_01, i_m10, i_m11, eq_self, or_self, false_and, and_false, and_self, am_so_some, am_pv_some, am_pv_none, l_cl_none, l_cl_int, l_cl_ref, l_cl_ra, l_cl_null, l_cl_long, cat_int, cat_ref, cat_long, cat_ra, cat_null, cl_0, cl_1, cl_2, cl_3, cl_4, cl_5, cl_6, cl_7, cl_8, cl_9, cl_10, cl_11, cl_12, cl_13, cl_14, cl_15, cl_16, cl_30, cl_64, cl_500, vl_0_2, vl_0_3, vl_0_4, vl_0_6, vl_0_7, vl_0_12, vl_0_16, vl_0_1400, vl_1_2, vl_1_3, vl_1_4, vl_1_6, vl_1_7, vl_1_12, vl_1_16, vl_1_1400, vl_2_3, vl_2_4, vl_2_6, vl_2_7, vl_2_12, vl_2_16, vl_2_1400, vl_3_4, vl_3_6, vl_3_7, vl_3_12, vl_3_16, vl_3_1400, vl_4_6, vl_4_7, vl_4_12, vl_4_16, vl_4_1400, vl_5_6, vl_5_7, vl_5_12, vl_5_16, vl_5_1400, vl_6_7, vl_6_12, vl_6_16, vl_6_1400, vl_7_12, vl_7_16, vl_8_12, vl_8_16, vl_9_12, vl_9_16, vl_10_12, vl_10_16, vl_11_12, vl_11_16, i_64le_e, i64a_0, i64b_0, i64a_1, i64b_1, i64a_2, i64b_2, i64a_3, i64b_3, i64a_4, i64b_4, i64a_5, i64b_5, i64a_7, i64b_7, i64a_8, i64b_8, i64a_9, i64b_9, i64a_10, i64b_10, i64a_16, i64b_16, i64a_50, i64b_50, i64a_m50, i64b_m50, i64a_60, i64b_60, i64a_99, i64b_99, i64a_100, i64b_100, i64a_500, i64b_500, i64a_600, i64b_600, i64a_1000, i64b_1000, i64a_1000000, i64b_1000000, i64a_m9, i64b_m9, e_s_70, e_i_70, e_l_70, e_p_70_0, e_p_70_1, e_p_70_2, e_p_70_3, e_p_70_4, e_p_70_5, e_p_70_6, e_p_70_7, e_p_70_10, e_p_70_11, e_p_70_12, e_p_70_13, e_p_70_14, e_p_70_15, e_p_70_16, e_p_70_24, e_p_70_29, e_p_70_30, e_p_70_31, e_p_70_32, e_p_70_33, e_p_70_34, e_p_70_35, e_p_70_36, e_p_70_37, e_p_70_38, e_p_70_39, e_p_70_41, e_p_70_42, e_p_70_44, e_p_70_45, e_p_70_46, e_p_70_53, e_p_70_54, e_p_70_55, e_p_70_56, e_p_70_59, e_p_70_61, e_p_70_62, e_s_113, e_i_113, e_l_113, pt38_R_deny, pt38_R_in, hE]
  refine ⟨fun y => ?_, fun y => ?_⟩
  · simp only [i70, ia, sh, vl_0_6, vl_1_6, vl_2_6, vl_3_6, vl_4_6, vl_5_6, true_and]
    have m70 : am_nM S M 70 = M 70 := am_r_ne n70
    simp (disch := omega) only [u_row, m70]
    have b0 : ∀ c, c ≠ S.1 → (am_u (am_u (am_u (am_u (am_u (am_u (am_nM S M) S.1 0 (M 70 18)) S.1 1 (M 70 19)) S.1 2 (M 70 20)) S.1 3 (M 70 22)) S.1 4 (M 70 23)) S.1 5 z) c = M c := fun c hc => by
      simp (disch := omega) only [u_row]
      exact am_r_ne hc
    have v0 : (am_u (am_u (am_u (am_u (am_u (am_u (am_nM S M) S.1 0 (M 70 18)) S.1 1 (M 70 19)) S.1 2 (M 70 20)) S.1 3 (M 70 22)) S.1 4 (M 70 23)) S.1 5 z) S.1 0 = M 70 18 := by simp (disch := omega) only [am_u_ne, am_u_same]
    have v1 : (am_u (am_u (am_u (am_u (am_u (am_u (am_nM S M) S.1 0 (M 70 18)) S.1 1 (M 70 19)) S.1 2 (M 70 20)) S.1 3 (M 70 22)) S.1 4 (M 70 23)) S.1 5 z) S.1 1 = M 70 19 := by simp (disch := omega) only [am_u_ne, am_u_same]
    have v2 : (am_u (am_u (am_u (am_u (am_u (am_u (am_nM S M) S.1 0 (M 70 18)) S.1 1 (M 70 19)) S.1 2 (M 70 20)) S.1 3 (M 70 22)) S.1 4 (M 70 23)) S.1 5 z) S.1 2 = M 70 20 := by simp (disch := omega) only [am_u_ne, am_u_same]
    have v3 : (am_u (am_u (am_u (am_u (am_u (am_u (am_nM S M) S.1 0 (M 70 18)) S.1 1 (M 70 19)) S.1 2 (M 70 20)) S.1 3 (M 70 22)) S.1 4 (M 70 23)) S.1 5 z) S.1 3 = M 70 22 := by simp (disch := omega) only [am_u_ne, am_u_same]
    have v4 : (am_u (am_u (am_u (am_u (am_u (am_u (am_nM S M) S.1 0 (M 70 18)) S.1 1 (M 70 19)) S.1 2 (M 70 20)) S.1 3 (M 70 22)) S.1 4 (M 70 23)) S.1 5 z) S.1 4 = M 70 23 := by simp (disch := omega) only [am_u_ne, am_u_same]
    have v5 : (am_u (am_u (am_u (am_u (am_u (am_u (am_nM S M) S.1 0 (M 70 18)) S.1 1 (M 70 19)) S.1 2 (M 70 20)) S.1 3 (M 70 22)) S.1 4 (M 70 23)) S.1 5 z) S.1 5 = z := by simp (disch := omega) only [am_u_ne, am_u_same]
    generalize (am_u (am_u (am_u (am_u (am_u (am_u (am_nM S M) S.1 0 (M 70 18)) S.1 1 (M 70 19)) S.1 2 (M 70 20)) S.1 3 (M 70 22)) S.1 4 (M 70 23)) S.1 5 z) = M0 at *
    have loop : ∀ i, i ≤ 6 → ∀ M', (∀ c, c ≠ 113 → M' c = M0 c) → (∀ j, j < i → M' 113 j = M0 S.1 j) → am_WP X (d + 2) 243 65 [some (.ref 70), some (.int z), some (.ref S.1), some (.int (nI i))] [] (am_nS S 1 6) M' (am_nL S L) 0 0 K := by
      have hE := hE2
      refine am_ind ?_
      intro i hi ih M' f hb
      have e6 : (6 ≤ nI i) = (6 ≤ i) := nI_le' (a := 6) (by omega) (by omega)
      refine H_R_book_65 pt38_ok ?_
      simp only [s_aload_0_ref, s_aload_2_ref, s_astore_2_ref, s_bipush, s_dup_int, s_dup_ref, s_get0, s_get2, s_goto, s_i2l, s_iald, s_iast, s_ic_ge, s_iconst, s_if_ne, s_iinc_3, s_iload_1_int, s_iload_3_int, s_ireturnZ, s_ist_3, s_istore_3_int, s_iv_2, s_lconst, s_ldc2_w, s_newa, s_put3, J_R_book_0, b_R_book_0, J_R_book_19, b_R_book_19, J_R_book_86, b_R_book_86, J_R_book_65, b_R_book_65, s_end, true_and, and_true, or_true, true_or, if_true, if_false, ite_true, ite_false, List.map_nil, List.map_cons, List.sum_nil, List.sum_cons, List.nil_append, List.cons_append, Option.toList_some, Option.toList_none, Nat.reduceAdd, Nat.reduceLeDiff, Nat.reduceSub, Nat.zero_le, List.headD_cons, List.tail_cons, List.length_cons, List.length_nil, ne_eq, reduceCtorEq, false_or, or_false, not_false_eq_true, Nat.reduceEqDiff, Nat.reduceLT, am_sw, bI_0, bI_z, bI_y, Classical.not_not, Nat.le_add_left, am_u_row2, am_r_row2, am_u_same, am_u_at, am_r_same, Int32.reduceLT, Int32.reduceLE, Int32.reduceAdd, Int32.reduceSub, Int32.reduceMul, forall_const, not_true_eq_false, implies_true, false_imp_iff, true_imp_iff, i_10, i_01, i_m10, i_m11, eq_self, or_self, false_and, and_false, and_self, am_so_some, am_pv_some, am_pv_none, l_cl_none, l_cl_int, l_cl_ref, l_cl_ra, l_cl_null, l_cl_long, cat_int, cat_ref, cat_long, cat_ra, cat_null, cl_0, cl_1, cl_2, cl_3, cl_4, cl_5, cl_6, cl_7, cl_8, cl_9, cl_10, cl_11, cl_12, cl_13, cl_14, cl_15, cl_16, cl_30, cl_64, cl_500, vl_0_2, vl_0_3, vl_0_4, vl_0_6, vl_0_7, vl_0_12, vl_0_16, vl_0_1400, vl_1_2, vl_1_3, vl_1_4, vl_1_6, vl_1_7, vl_1_12, vl_1_16, vl_1_1400, vl_2_3, vl_2_4, vl_2_6, vl_2_7, vl_2_12, vl_2_16, vl_2_1400, vl_3_4, vl_3_6, vl_3_7, vl_3_12, vl_3_16, vl_3_1400, vl_4_6, vl_4_7, vl_4_12, vl_4_16, vl_4_1400, vl_5_6, vl_5_7, vl_5_12, vl_5_16, vl_5_1400, vl_6_7, vl_6_12, vl_6_16, vl_6_1400, vl_7_12, vl_7_16, vl_8_12, vl_8_16, vl_9_12, vl_9_16, vl_10_12, vl_10_16, vl_11_12, vl_11_16, i_64le_e, i64a_0, i64b_0, i64a_1, i64b_1, i64a_2, i64b_2, i64a_3, i64b_3, i64a_4, i64b_4, i64a_5, i64b_5, i64a_7, i64b_7, i64a_8, i64b_8, i64a_9, i64b_9, i64a_10, i64b_10, i64a_16, i64b_16, i64a_50, i64b_50, i64a_m50, i64b_m50, i64a_60, i64b_60, i64a_99, i64b_99, i64a_100, i64b_100, i64a_500, i64b_500, i64a_600, i64b_600, i64a_1000, i64b_1000, i64a_1000000, i64b_1000000, i64a_m9, i64b_m9, e_s_70, e_i_70, e_l_70, e_p_70_0, e_p_70_1, e_p_70_2, e_p_70_3, e_p_70_4, e_p_70_5, e_p_70_6, e_p_70_7, e_p_70_10, e_p_70_11, e_p_70_12, e_p_70_13, e_p_70_14, e_p_70_15, e_p_70_16, e_p_70_24, e_p_70_29, e_p_70_30, e_p_70_31, e_p_70_32, e_p_70_33, e_p_70_34, e_p_70_35, e_p_70_36, e_p_70_37, e_p_70_38, e_p_70_39, e_p_70_41, e_p_70_42, e_p_70_44, e_p_70_45, e_p_70_46, e_p_70_53, e_p_70_54, e_p_70_55, e_p_70_56, e_p_70_59, e_p_70_61, e_p_70_62, e_s_113, e_i_113, e_l_113, pt38_R_deny, pt38_R_in, sh, ia, lt1, hE]
      by_cases c0 : i < 6
      · have e1 : M' S.1 = M0 S.1 := f S.1 (by omega)
        simp (disch := omega) only [e6, Nat.not_le.mpr, c0, e1, nI_clamp, nI_le', nI_lt', nI_eq', rem2_1, rem2_0, nI_eq0, nI_le0, nI_0lt, nI_0le, nI_lt0, nI_m1, vp_inE, nm_nI, i_20, nI_1, nI_add, and_true, true_and, and_self, or_true, true_or, or_false, false_or, false_and, and_false, not_true_eq_false, not_false_eq_true, if_true, if_false, ite_true, ite_false, false_imp_iff, true_imp_iff, rsn_00, rsn_10, rsn_01, rsn_11, n_09, n_19, n_29, n_99, implies_true, bI_t, bI_f, or_self, ne_eq, eq_self, Classical.not_not, Bool.false_eq_true]
        refine ih c0 _ (fun c hc => ?_) (cp_step (f := M0 S.1) hb)
        rw [u_row hc]; exact f c hc
      · have e : i = 6 := by omega
        subst e
        simp (disch := omega) only [e6, Nat.le_refl, nI_clamp, nI_le', nI_lt', nI_eq', rem2_1, rem2_0, nI_eq0, nI_le0, nI_0lt, nI_0le, nI_lt0, nI_m1, vp_inE, nm_nI, i_20, nI_1, nI_add, and_true, true_and, and_self, or_true, true_or, or_false, false_or, false_and, and_false, not_true_eq_false, not_false_eq_true, if_true, if_false, ite_true, ite_false, false_imp_iff, true_imp_iff, rsn_00, rsn_10, rsn_01, rsn_11, n_09, n_19, n_29, n_99, implies_true, bI_t, bI_f, or_self, ne_eq, eq_self, Classical.not_not, Bool.false_eq_true]
        refine k9 y _ _ (fun c h1 h2 h3 => ?_) (fun j h1 h2 => ?_) ?_ ?_ ?_ ?_ ?_ ?_ ?_ ?_
        · rw [u_row h3, u_row h3, f c h2]; exact b0 c h1
        · rw [am_u_ne (fun w => h2 w.2), am_u_ne (fun w => h1 w.2), f 70 (by decide), b0 70 n70]
        · rw [am_u_ne (by decide), am_u_same]
        · rw [am_u_same]
        · rw [u_row (by decide), u_row (by decide), hb 0 (by omega), v0]
        · rw [u_row (by decide), u_row (by decide), hb 1 (by omega), v1]
        · rw [u_row (by decide), u_row (by decide), hb 2 (by omega), v2]
        · rw [u_row (by decide), u_row (by decide), hb 3 (by omega), v3]
        · rw [u_row (by decide), u_row (by decide), hb 4 (by omega), v4]
        · rw [u_row (by decide), u_row (by decide), hb 5 (by omega), v5]
    exact loop 0 (by omega) M0 (fun _ _ => rfl) (fun j hj => by omega)
  · exact k y
end T97
