section T85
variable {X : am_X} {d : Nat} {K : am_K} {S : am_S} {M : am_M} {L : am_L} {V : am_M}
theorem FSr.pre {a : Int32} {p : List Nat} {s : Nat} (h : FSr V M a (p ++ [s])) : FSr V M a p := by
  have l1 : (p ++ [s]).length = p.length + 1 := by rw [List.length_append, List.length_singleton]
  have fE : ∀ i, i < p.length → fR (p ++ [s]) i = fR p i := fun i hi => fR_app hi
  refine ⟨h.ag, fun j hj => ?_, fun j hj => ?_, fun j l hj hl => ?_, fun j l hj hl => ?_⟩
  · rw [h.ro j (by rw [l1]; omega), fE j hj]
  · rw [h.od j (by rw [l1]; omega), om_congr j (fun i hi => fE i (by omega))]
  · rw [h.su j l (by rw [l1]; omega) hl, smI_congr j (fun i hi => fE i (by omega))]
  · rw [h.os j l (by rw [l1]; omega) hl, oA_congr j (fun i hi => fE i (by omega)) (fun i hi => sdI_congr (fun j hj => fE j (by omega)))]
def usP (p : List Nat) (M : am_M) : Prop := ∀ s, s < 12 → M 63 s = bI (p.contains s = true)
def csY : List Nat := [22, 63, 64, 65, 66, 67, 68]
def fsY : List (Nat × Nat) := (62, 13) :: (62, 14) :: fs49
def zr0 (M M' : am_M) : Prop := ∀ i, i < 6 → M' 66 i = M 66 i ∧ M' 67 i = M 67 i
theorem c_Finder_extend (hE : am_env S) (hI : IV V) (hP : IVp V) {a : Int32} (z : Nat) (hz : z ≤ 4) : ∀ (n : Nat) (X : am_X) (d : Nat) (K : am_K) (M : am_M) (L : am_L) (p : List Nat) (q : fSt), CT V M → M 62 10 = nI z → M 62 11 = nI (nL V * nL V / 3) → FSr V M a p → usP p M → p.length + (n + 1) = z → (∀ s ∈ p, s < nS V) → RowOk V (fR p) p.length → qok q z → BsC q M → (∀ M', Fr csY fsY M M' → FSr V M' a p → usP p M' → zr0 M M' → BsC (dfS V a (n + 1) p q) M' → K none S M' L) → am_Call X (d + n + 5) m_Finder_extend [.ref 62, .int (nI p.length)] S M L K := by
  have n12 := hI.ns.2
  have n6 := hP.nl.2
  have nn : nL V * nL V ≤ 36 := Nat.mul_le_mul n6 n6
  intro n
  induction n with
  | zero =>
    intro X d K M L p q hC h10 h11 hF hU hpz hps hr hq hB k
    have e8 : M 23 7 = nI (nS V) := hC.st.f7.trans hI.ns.1
    have lz : ¬ z ≤ p.length := by omega
    have l4 : (nI p.length < 4) = (p.length < 4) := nI_lt' (b := 4) (by omega) (by omega)
    have l4' : p.length < 4 := by omega
    refine EE_Finder_extend pt38_ok ?_
    simp only [s_aload_0_ref, s_bald, s_bast, s_get0, s_get2, s_goto, s_iadd, s_ic_ge, s_ic_lt, s_ic_ne, s_iconst, s_if_eq, s_iinc_2, s_iload_1_int, s_iload_2_int, s_istore_2_int, s_iv_0, s_iv_1, s_iv_2, s_return, J_Finder_extend_0, b_Finder_extend_0, J_Finder_extend_13, b_Finder_extend_13, J_Finder_extend_14, b_Finder_extend_14, J_Finder_extend_50, b_Finder_extend_50, J_Finder_extend_80, b_Finder_extend_80, J_Finder_extend_87, b_Finder_extend_87, J_Finder_extend_94, b_Finder_extend_94, J_Finder_extend_100, b_Finder_extend_100, J_Finder_extend_16, b_Finder_extend_16, s_end, true_and, and_true, or_true, true_or, if_true, if_false, ite_true, ite_false, List.map_nil, List.map_cons, List.sum_nil, List.sum_cons, List.nil_append, List.cons_append, Option.toList_some, Option.toList_none, Nat.reduceAdd, Nat.reduceLeDiff, Nat.reduceSub, Nat.zero_le, List.headD_cons, List.tail_cons, List.length_cons, List.length_nil, ne_eq, reduceCtorEq, false_or, or_false, not_false_eq_true, Nat.reduceEqDiff, Nat.reduceLT, am_sw, bI_0, bI_z, bI_y, Classical.not_not, Nat.le_add_left, am_u_row2, am_r_row2, am_u_same, am_u_at, am_r_same, Int32.reduceLT, Int32.reduceLE, Int32.reduceAdd, Int32.reduceSub, Int32.reduceMul, forall_const, not_true_eq_false, implies_true, false_imp_iff, true_imp_iff, i_10, i_01, i_m10, i_m11, eq_self, or_self, false_and, and_false, and_self, am_so_some, am_pv_some, am_pv_none, l_cl_none, l_cl_int, l_cl_ref, l_cl_ra, l_cl_null, l_cl_long, cat_int, cat_ref, cat_long, cat_ra, cat_null, cl_0, cl_1, cl_2, cl_3, cl_4, cl_5, cl_6, cl_7, cl_8, cl_9, cl_10, cl_11, cl_12, cl_13, cl_14, cl_15, cl_16, cl_30, cl_64, cl_500, vl_0_2, vl_0_3, vl_0_4, vl_0_6, vl_0_7, vl_0_12, vl_0_16, vl_0_1400, vl_1_2, vl_1_3, vl_1_4, vl_1_6, vl_1_7, vl_1_12, vl_1_16, vl_1_1400, vl_2_3, vl_2_4, vl_2_6, vl_2_7, vl_2_12, vl_2_16, vl_2_1400, vl_3_4, vl_3_6, vl_3_7, vl_3_12, vl_3_16, vl_3_1400, vl_4_6, vl_4_7, vl_4_12, vl_4_16, vl_4_1400, vl_5_6, vl_5_7, vl_5_12, vl_5_16, vl_5_1400, vl_6_7, vl_6_12, vl_6_16, vl_6_1400, vl_7_12, vl_7_16, vl_8_12, vl_8_16, vl_9_12, vl_9_16, vl_10_12, vl_10_16, vl_11_12, vl_11_16, i_64le_e, i64a_0, i64b_0, i64a_1, i64b_1, i64a_2, i64b_2, i64a_3, i64b_3, i64a_4, i64b_4, i64a_5, i64b_5, i64a_7, i64b_7, i64a_8, i64b_8, i64a_9, i64b_9, i64a_10, i64b_10, i64a_16, i64b_16, i64a_50, i64b_50, i64a_m50, i64b_m50, i64a_60, i64b_60, i64a_99, i64b_99, i64a_100, i64b_100, i64a_500, i64b_500, i64a_600, i64b_600, i64a_1000, i64b_1000, i64a_1000000, i64b_1000000, i64a_m9, i64b_m9, e_s_16, e_i_16, e_l_16, e_p_16_0, e_p_16_1, e_p_16_2, e_p_16_3, e_p_16_4, e_p_16_5, e_s_23, e_i_23, e_l_23, e_p_23_0, e_p_23_1, e_p_23_2, e_p_23_3, e_p_23_4, e_p_23_5, e_p_23_6, e_s_48, e_i_48, e_l_48, e_p_48_0, e_p_48_1, e_p_48_2, e_p_48_3, e_p_48_5, e_s_62, e_i_62, e_l_62, e_p_62_0, e_p_62_1, e_p_62_2, e_p_62_3, e_p_62_4, e_p_62_5, e_p_62_6, e_p_62_7, e_p_62_12, e_s_63, e_i_63, e_l_63, e_s_64, e_i_64, e_l_64, e_s_65, e_i_65, e_l_65, e_s_66, e_i_66, e_l_66, e_s_67, e_i_67, e_l_67, e_s_68, e_i_68, e_l_68, h10, hE]
    simp (disch := omega) only [lz, l4, l4', nI_clamp, nI_le', nI_lt', nI_eq', rem2_1, rem2_0, nI_eq0, nI_le0, nI_0lt, nI_0le, nI_lt0, nI_m1, vp_inE, nm_nI, i_20, nI_1, nI_add, and_true, true_and, and_self, or_true, true_or, or_false, false_or, false_and, and_false, not_true_eq_false, not_false_eq_true, if_true, if_false, ite_true, ite_false, false_imp_iff, true_imp_iff, rsn_00, rsn_10, rsn_01, rsn_11, n_09, n_19, n_29, n_99, implies_true, bI_t, bI_f, or_self, ne_eq, eq_self, Classical.not_not, Bool.false_eq_true]
    have loop : ∀ i, i ≤ nS V → ∀ M', Fr csY fsY M M' → FSr V M' a p → usP p M' → zr0 M M' → BsC (lpS (fun s q => if p.contains s = true then q else dfS V a 0 (p ++ [s]) q) i q) M' → am_WP X (d + 5) 6 16 [some (.ref 62), some (.int (nI p.length)), some (.int (nI i))] [] S M' L 0 0 K := by
      refine am_ind ?_
      intro i hi ih2 M' f hF' hU' zr hb
      have hC' : CT V M' := hC.fr (f.mono (by decide) (by decide))
      have a8 : M' 23 7 = nI (nS V) := hC'.st.f7.trans hI.ns.1
      have a10 : M' 62 10 = nI z := (f 62 10 (by decide) (by decide)).trans h10
      have a11 : M' 62 11 = nI (nL V * nL V / 3) := (f 62 11 (by decide) (by decide)).trans h11
      have qk := lpS_ok (V := V) (a := a) n6 (n := 0) (p := p) (q := q) (by rw [show p.length + (0 + 1) = z by omega]; exact hq) i
      refine H_Finder_extend_16 pt38_ok ?_
      simp only [s_aload_0_ref, s_bald, s_bast, s_get0, s_get2, s_goto, s_iadd, s_ic_ge, s_ic_lt, s_ic_ne, s_iconst, s_if_eq, s_iinc_2, s_iload_1_int, s_iload_2_int, s_istore_2_int, s_iv_0, s_iv_1, s_iv_2, s_return, J_Finder_extend_0, b_Finder_extend_0, J_Finder_extend_13, b_Finder_extend_13, J_Finder_extend_14, b_Finder_extend_14, J_Finder_extend_50, b_Finder_extend_50, J_Finder_extend_80, b_Finder_extend_80, J_Finder_extend_87, b_Finder_extend_87, J_Finder_extend_94, b_Finder_extend_94, J_Finder_extend_100, b_Finder_extend_100, J_Finder_extend_16, b_Finder_extend_16, s_end, true_and, and_true, or_true, true_or, if_true, if_false, ite_true, ite_false, List.map_nil, List.map_cons, List.sum_nil, List.sum_cons, List.nil_append, List.cons_append, Option.toList_some, Option.toList_none, Nat.reduceAdd, Nat.reduceLeDiff, Nat.reduceSub, Nat.zero_le, List.headD_cons, List.tail_cons, List.length_cons, List.length_nil, ne_eq, reduceCtorEq, false_or, or_false, not_false_eq_true, Nat.reduceEqDiff, Nat.reduceLT, am_sw, bI_0, bI_z, bI_y, Classical.not_not, Nat.le_add_left, am_u_row2, am_r_row2, am_u_same, am_u_at, am_r_same, Int32.reduceLT, Int32.reduceLE, Int32.reduceAdd, Int32.reduceSub, Int32.reduceMul, forall_const, not_true_eq_false, implies_true, false_imp_iff, true_imp_iff, i_10, i_01, i_m10, i_m11, eq_self, or_self, false_and, and_false, and_self, am_so_some, am_pv_some, am_pv_none, l_cl_none, l_cl_int, l_cl_ref, l_cl_ra, l_cl_null, l_cl_long, cat_int, cat_ref, cat_long, cat_ra, cat_null, cl_0, cl_1, cl_2, cl_3, cl_4, cl_5, cl_6, cl_7, cl_8, cl_9, cl_10, cl_11, cl_12, cl_13, cl_14, cl_15, cl_16, cl_30, cl_64, cl_500, vl_0_2, vl_0_3, vl_0_4, vl_0_6, vl_0_7, vl_0_12, vl_0_16, vl_0_1400, vl_1_2, vl_1_3, vl_1_4, vl_1_6, vl_1_7, vl_1_12, vl_1_16, vl_1_1400, vl_2_3, vl_2_4, vl_2_6, vl_2_7, vl_2_12, vl_2_16, vl_2_1400, vl_3_4, vl_3_6, vl_3_7, vl_3_12, vl_3_16, vl_3_1400, vl_4_6, vl_4_7, vl_4_12, vl_4_16, vl_4_1400, vl_5_6, vl_5_7, vl_5_12, vl_5_16, vl_5_1400, vl_6_7, vl_6_12, vl_6_16, vl_6_1400, vl_7_12, vl_7_16, vl_8_12, vl_8_16, vl_9_12, vl_9_16, vl_10_12, vl_10_16, vl_11_12, vl_11_16, i_64le_e, i64a_0, i64b_0, i64a_1, i64b_1, i64a_2, i64b_2, i64a_3, i64b_3, i64a_4, i64b_4, i64a_5, i64b_5, i64a_7, i64b_7, i64a_8, i64b_8, i64a_9, i64b_9, i64a_10, i64b_10, i64a_16, i64b_16, i64a_50, i64b_50, i64a_m50, i64b_m50, i64a_60, i64b_60, i64a_99, i64b_99, i64a_100, i64b_100, i64a_500, i64b_500, i64a_600, i64b_600, i64a_1000, i64b_1000, i64a_1000000, i64b_1000000, i64a_m9, i64b_m9, e_s_16, e_i_16, e_l_16, e_p_16_0, e_p_16_1, e_p_16_2, e_p_16_3, e_p_16_4, e_p_16_5, e_s_23, e_i_23, e_l_23, e_p_23_0, e_p_23_1, e_p_23_2, e_p_23_3, e_p_23_4, e_p_23_5, e_p_23_6, e_s_48, e_i_48, e_l_48, e_p_48_0, e_p_48_1, e_p_48_2, e_p_48_3, e_p_48_5, e_s_62, e_i_62, e_l_62, e_p_62_0, e_p_62_1, e_p_62_2, e_p_62_3, e_p_62_4, e_p_62_5, e_p_62_6, e_p_62_7, e_p_62_12, e_s_63, e_i_63, e_l_63, e_s_64, e_i_64, e_l_64, e_s_65, e_i_65, e_l_65, e_s_66, e_i_66, e_l_66, e_s_67, e_i_67, e_l_67, e_s_68, e_i_68, e_l_68, a8, a11, a10, hE]
      by_cases c0 : i < nS V
      · have go : ¬ satS V (lpS (fun s q => if p.contains s = true then q else dfS V a 0 (p ++ [s]) q) i q) → ∃ x, M' 62 14 = x ∧ ¬ nI (nL V * nL V / 3) ≤ x := by
          intro ns
          cases hs : lpS (fun s q => if p.contains s = true then q else dfS V a 0 (p ++ [s]) q) i q with
          | none =>
            rw [hs] at hb
            exact ⟨-1, hb, Int32.not_le.mpr (Int32.lt_of_lt_of_le (by decide) (nI_pos' (n := nL V * nL V / 3) (by omega)))⟩
          | some y =>
            rw [hs] at hb ns qk
            have q1 := (qk y.1 y.2 rfl).1
            refine ⟨nI y.1, hb.1, fun w => ns ⟨y.1, y.2, rfl, ?_⟩⟩
            rw [nI_leI (by omega) (by omega)] at w
            exact w
        by_cases cs : satS V (lpS (fun s q => if p.contains s = true then q else dfS V a 0 (p ++ [s]) q) i q)
        · have fx : lpS (fun s q => if p.contains s = true then q else dfS V a 0 (p ++ [s]) q) (nS V) q = lpS (fun s q => if p.contains s = true then q else dfS V a 0 (p ++ [s]) q) i q := lpS_from (fun s => by
            by_cases c : p.contains s = true
            · rw [if_pos c]
            · rw [if_neg c]; exact dfS_sat n6 cs _ _) (nS V) (by omega)
          have kk := k M' f hF' hU' zr (by
            show BsC (lpS (fun s q => if p.contains s = true then q else dfS V a 0 (p ++ [s]) q) (nS V) q) M'
            rw [fx]; exact hb)
          obtain ⟨c, r, hs, hc⟩ := cs
          rw [hs] at hb qk
          have q1 := (qk c r rfl).1
          have b14 : M' 62 14 = nI c := hb.1
          simp (disch := omega) only [Nat.not_le.mpr, c0, b14, hc, nI_clamp, nI_le', nI_lt', nI_eq', rem2_1, rem2_0, nI_eq0, nI_le0, nI_0lt, nI_0le, nI_lt0, nI_m1, vp_inE, nm_nI, i_20, nI_1, nI_add, and_true, true_and, and_self, or_true, true_or, or_false, false_or, false_and, and_false, not_true_eq_false, not_false_eq_true, if_true, if_false, ite_true, ite_false, false_imp_iff, true_imp_iff, rsn_00, rsn_10, rsn_01, rsn_11, n_09, n_19, n_29, n_99, implies_true, bI_t, bI_f, or_self, ne_eq, eq_self, Classical.not_not, Bool.false_eq_true]
          exact kk
        · obtain ⟨x, b14, gx⟩ := go cs
          have u1 := hU' i (by omega)
          have ih2 := ih2 c0
          have eL : lpS (fun s q => if p.contains s = true then q else dfS V a 0 (p ++ [s]) q) (i + 1) q = if p.contains i = true then lpS (fun s q => if p.contains s = true then q else dfS V a 0 (p ++ [s]) q) i q else dfS V a 0 (p ++ [i]) (lpS (fun s q => if p.contains s = true then q else dfS V a 0 (p ++ [s]) q) i q) := rfl
          rw [eL] at ih2
          have nr1 : vp_nar FieldType.boolean 1 = 1 := by decide
          have nr0 : vp_nar FieldType.boolean 0 = 0 := by decide
          simp (disch := omega) only [Nat.not_le.mpr, c0, b14, gx, u1, bI_0, nr1, nI_clamp, nI_le', nI_lt', nI_eq', rem2_1, rem2_0, nI_eq0, nI_le0, nI_0lt, nI_0le, nI_lt0, nI_m1, vp_inE, nm_nI, i_20, nI_1, nI_add, and_true, true_and, and_self, or_true, true_or, or_false, false_or, false_and, and_false, not_true_eq_false, not_false_eq_true, if_true, if_false, ite_true, ite_false, false_imp_iff, true_imp_iff, rsn_00, rsn_10, rsn_01, rsn_11, n_09, n_19, n_29, n_99, implies_true, bI_t, bI_f, or_self, ne_eq, eq_self, Classical.not_not, Bool.false_eq_true]
          refine ⟨fun y => ?_, fun y => ?_⟩
          · rw [if_neg y] at ih2
            have l1 : (p ++ [i]).length = p.length + 1 := by rw [List.length_append, List.length_singleton]
            have fN : fR (p ++ [i]) p.length = nI i := fR_new
            have hr1 : RowOk V (fR (p ++ [i])) (p ++ [i]).length := by
              rw [l1]
              refine lt_add (fun j hj => ?_) ?_
              · rw [fR_app hj]; exact hr j hj
              · rw [fN, nm_nI (by omega)]; exact ⟨rfl, c0⟩
            have f1 : Fr csY fsY M (am_u M' 63 i 1) := f.u (by decide)
            have us1 : ∀ M9, M9 63 = am_u M' 63 i 1 63 → usP (p ++ [i]) M9 := by
              intro M9 e9 s hs
              rw [e9]
              by_cases e : s = i
              · rw [e, am_u_same, bI_t (cont_snoc.mpr (Or.inr rfl))]
              · rw [am_u_ne (fun w => e w.2), hU' s hs]
                by_cases c : p.contains s = true
                · rw [bI_t c, bI_t (cont_snoc.mpr (Or.inl c))]
                · rw [bI_f c, bI_f (fun w => (cont_snoc.mp w).elim c e)]
            have us0 : ∀ M9, usP (p ++ [i]) M9 → usP p (am_u M9 63 i 0) := by
              intro M9 h9 s hs
              by_cases e : s = i
              · rw [e, am_u_same, bI_f y]
              · rw [am_u_ne (fun w => e w.2), h9 s hs]
                by_cases c : p.contains s = true
                · rw [bI_t c, bI_t (cont_snoc.mpr (Or.inl c))]
                · rw [bI_f c, bI_f (fun w => (cont_snoc.mp w).elim c e)]
            refine am_cal_no rfl (c_Finder_place (p := p) (s := i) hE (hC.fr (f1.mono (by decide) (by decide))) hI hP (hF'.of (by rw [u_row (by decide)]) (u_row (by decide)) (u_row (by decide)) (u_row (by decide)) (u_row (by decide))) l4' c0 hr ?_)
            intro M2 g2 F2 z2
            have zr2 : zr0 M M2 := fun j hj => by
              have a1 := z2 j hj
              rw [u_row (by decide), u_row (by decide)] at a1
              exact ⟨a1.1.trans (zr j hj).1, a1.2.trans (zr j hj).2⟩
            have f2 : Fr csY fsY M M2 := f1.trans (g2.mono (by decide) (by decide))
            have b10 : M2 62 10 = nI z := (f2 62 10 (by decide) (by decide)).trans h10
            have b11 : M2 62 11 = nI (nL V * nL V / 3) := (f2 62 11 (by decide) (by decide)).trans h11
            have U2 : usP (p ++ [i]) M2 := us1 M2 (g2.row 63 (by decide) (by decide))
            have B2 := hb.of (M' := M2) (by rw [g2 62 14 (by decide) (by decide), u_row (by decide)]) (by rw [g2 62 13 (by decide) (by decide), u_row (by decide)]) (by rw [g2.row 68 (by decide) (by decide), u_row (by decide)])
            simp only [s_aload_0_ref, s_bald, s_bast, s_get0, s_get2, s_goto, s_iadd, s_ic_ge, s_ic_lt, s_ic_ne, s_iconst, s_if_eq, s_iinc_2, s_iload_1_int, s_iload_2_int, s_istore_2_int, s_iv_0, s_iv_1, s_iv_2, s_return, J_Finder_extend_0, b_Finder_extend_0, J_Finder_extend_13, b_Finder_extend_13, J_Finder_extend_14, b_Finder_extend_14, J_Finder_extend_50, b_Finder_extend_50, J_Finder_extend_80, b_Finder_extend_80, J_Finder_extend_87, b_Finder_extend_87, J_Finder_extend_94, b_Finder_extend_94, J_Finder_extend_100, b_Finder_extend_100, J_Finder_extend_16, b_Finder_extend_16, s_end, true_and, and_true, or_true, true_or, if_true, if_false, ite_true, ite_false, List.map_nil, List.map_cons, List.sum_nil, List.sum_cons, List.nil_append, List.cons_append, Option.toList_some, Option.toList_none, Nat.reduceAdd, Nat.reduceLeDiff, Nat.reduceSub, Nat.zero_le, List.headD_cons, List.tail_cons, List.length_cons, List.length_nil, ne_eq, reduceCtorEq, false_or, or_false, not_false_eq_true, Nat.reduceEqDiff, Nat.reduceLT, am_sw, bI_0, bI_z, bI_y, Classical.not_not, Nat.le_add_left, am_u_row2, am_r_row2, am_u_same, am_u_at, am_r_same, Int32.reduceLT, Int32.reduceLE, Int32.reduceAdd, Int32.reduceSub, Int32.reduceMul, forall_const, not_true_eq_false, implies_true, false_imp_iff, true_imp_iff, i_10, i_01, i_m10, i_m11, eq_self, or_self, false_and, and_false, and_self, am_so_some, am_pv_some, am_pv_none, l_cl_none, l_cl_int, l_cl_ref, l_cl_ra, l_cl_null, l_cl_long, cat_int, cat_ref, cat_long, cat_ra, cat_null, cl_0, cl_1, cl_2, cl_3, cl_4, cl_5, cl_6, cl_7, cl_8, cl_9, cl_10, cl_11, cl_12, cl_13, cl_14, cl_15, cl_16, cl_30, cl_64, cl_500, vl_0_2, vl_0_3, vl_0_4, vl_0_6, vl_0_7, vl_0_12, vl_0_16, vl_0_1400, vl_1_2, vl_1_3, vl_1_4, vl_1_6, vl_1_7, vl_1_12, vl_1_16, vl_1_1400, vl_2_3, vl_2_4, vl_2_6, vl_2_7, vl_2_12, vl_2_16, vl_2_1400, vl_3_4, vl_3_6, vl_3_7, vl_3_12, vl_3_16, vl_3_1400, vl_4_6, vl_4_7, vl_4_12, vl_4_16, vl_4_1400, vl_5_6, vl_5_7, vl_5_12, vl_5_16, vl_5_1400, vl_6_7, vl_6_12, vl_6_16, vl_6_1400, vl_7_12, vl_7_16, vl_8_12, vl_8_16, vl_9_12, vl_9_16, vl_10_12, vl_10_16, vl_11_12, vl_11_16, i_64le_e, i64a_0, i64b_0, i64a_1, i64b_1, i64a_2, i64b_2, i64a_3, i64b_3, i64a_4, i64b_4, i64a_5, i64b_5, i64a_7, i64b_7, i64a_8, i64b_8, i64a_9, i64b_9, i64a_10, i64b_10, i64a_16, i64b_16, i64a_50, i64b_50, i64a_m50, i64b_m50, i64a_60, i64b_60, i64a_99, i64b_99, i64a_100, i64b_100, i64a_500, i64b_500, i64a_600, i64b_600, i64a_1000, i64b_1000, i64a_1000000, i64b_1000000, i64a_m9, i64b_m9, e_s_16, e_i_16, e_l_16, e_p_16_0, e_p_16_1, e_p_16_2, e_p_16_3, e_p_16_4, e_p_16_5, e_s_23, e_i_23, e_l_23, e_p_23_0, e_p_23_1, e_p_23_2, e_p_23_3, e_p_23_4, e_p_23_5, e_p_23_6, e_s_48, e_i_48, e_l_48, e_p_48_0, e_p_48_1, e_p_48_2, e_p_48_3, e_p_48_5, e_s_62, e_i_62, e_l_62, e_p_62_0, e_p_62_1, e_p_62_2, e_p_62_3, e_p_62_4, e_p_62_5, e_p_62_6, e_p_62_7, e_p_62_12, e_s_63, e_i_63, e_l_63, e_s_64, e_i_64, e_l_64, e_s_65, e_i_65, e_l_65, e_s_66, e_i_66, e_l_66, e_s_67, e_i_67, e_l_67, e_s_68, e_i_68, e_l_68, b10, hE]
            have ez : (p.length + 1 = z) = True := eq_true (by omega)
            simp (disch := omega) only [ez, nI_clamp, nI_le', nI_lt', nI_eq', rem2_1, rem2_0, nI_eq0, nI_le0, nI_0lt, nI_0le, nI_lt0, nI_m1, vp_inE, nm_nI, i_20, nI_1, nI_add, and_true, true_and, and_self, or_true, true_or, or_false, false_or, false_and, and_false, not_true_eq_false, not_false_eq_true, if_true, if_false, ite_true, ite_false, false_imp_iff, true_imp_iff, rsn_00, rsn_10, rsn_01, rsn_11, n_09, n_19, n_29, n_99, implies_true, bI_t, bI_f, or_self, ne_eq, eq_self, Classical.not_not, Bool.false_eq_true]
            refine am_cal_no rfl (c_Finder_weigh (p := p ++ [i]) hE (hC.fr (f2.mono (by decide) (by decide))) hP F2 (by rw [l1, b10]; congr 1; omega) (by rw [l1]; omega) (qk.up (by omega)) B2 ?_)
            intro M3 g3 b3
            simp only [s_aload_0_ref, s_bald, s_bast, s_get0, s_get2, s_goto, s_iadd, s_ic_ge, s_ic_lt, s_ic_ne, s_iconst, s_if_eq, s_iinc_2, s_iload_1_int, s_iload_2_int, s_istore_2_int, s_iv_0, s_iv_1, s_iv_2, s_return, J_Finder_extend_0, b_Finder_extend_0, J_Finder_extend_13, b_Finder_extend_13, J_Finder_extend_14, b_Finder_extend_14, J_Finder_extend_50, b_Finder_extend_50, J_Finder_extend_80, b_Finder_extend_80, J_Finder_extend_87, b_Finder_extend_87, J_Finder_extend_94, b_Finder_extend_94, J_Finder_extend_100, b_Finder_extend_100, J_Finder_extend_16, b_Finder_extend_16, s_end, true_and, and_true, or_true, true_or, if_true, if_false, ite_true, ite_false, List.map_nil, List.map_cons, List.sum_nil, List.sum_cons, List.nil_append, List.cons_append, Option.toList_some, Option.toList_none, Nat.reduceAdd, Nat.reduceLeDiff, Nat.reduceSub, Nat.zero_le, List.headD_cons, List.tail_cons, List.length_cons, List.length_nil, ne_eq, reduceCtorEq, false_or, or_false, not_false_eq_true, Nat.reduceEqDiff, Nat.reduceLT, am_sw, bI_0, bI_z, bI_y, Classical.not_not, Nat.le_add_left, am_u_row2, am_r_row2, am_u_same, am_u_at, am_r_same, Int32.reduceLT, Int32.reduceLE, Int32.reduceAdd, Int32.reduceSub, Int32.reduceMul, forall_const, not_true_eq_false, implies_true, false_imp_iff, true_imp_iff, i_10, i_01, i_m10, i_m11, eq_self, or_self, false_and, and_false, and_self, am_so_some, am_pv_some, am_pv_none, l_cl_none, l_cl_int, l_cl_ref, l_cl_ra, l_cl_null, l_cl_long, cat_int, cat_ref, cat_long, cat_ra, cat_null, cl_0, cl_1, cl_2, cl_3, cl_4, cl_5, cl_6, cl_7, cl_8, cl_9, cl_10, cl_11, cl_12, cl_13, cl_14, cl_15, cl_16, cl_30, cl_64, cl_500, vl_0_2, vl_0_3, vl_0_4, vl_0_6, vl_0_7, vl_0_12, vl_0_16, vl_0_1400, vl_1_2, vl_1_3, vl_1_4, vl_1_6, vl_1_7, vl_1_12, vl_1_16, vl_1_1400, vl_2_3, vl_2_4, vl_2_6, vl_2_7, vl_2_12, vl_2_16, vl_2_1400, vl_3_4, vl_3_6, vl_3_7, vl_3_12, vl_3_16, vl_3_1400, vl_4_6, vl_4_7, vl_4_12, vl_4_16, vl_4_1400, vl_5_6, vl_5_7, vl_5_12, vl_5_16, vl_5_1400, vl_6_7, vl_6_12, vl_6_16, vl_6_1400, vl_7_12, vl_7_16, vl_8_12, vl_8_16, vl_9_12, vl_9_16, vl_10_12, vl_10_16, vl_11_12, vl_11_16, i_64le_e, i64a_0, i64b_0, i64a_1, i64b_1, i64a_2, i64b_2, i64a_3, i64b_3, i64a_4, i64b_4, i64a_5, i64b_5, i64a_7, i64b_7, i64a_8, i64b_8, i64a_9, i64b_9, i64a_10, i64b_10, i64a_16, i64b_16, i64a_50, i64b_50, i64a_m50, i64b_m50, i64a_60, i64b_60, i64a_99, i64b_99, i64a_100, i64b_100, i64a_500, i64b_500, i64a_600, i64b_600, i64a_1000, i64b_1000, i64a_1000000, i64b_1000000, i64a_m9, i64b_m9, e_s_16, e_i_16, e_l_16, e_p_16_0, e_p_16_1, e_p_16_2, e_p_16_3, e_p_16_4, e_p_16_5, e_s_23, e_i_23, e_l_23, e_p_23_0, e_p_23_1, e_p_23_2, e_p_23_3, e_p_23_4, e_p_23_5, e_p_23_6, e_s_48, e_i_48, e_l_48, e_p_48_0, e_p_48_1, e_p_48_2, e_p_48_3, e_p_48_5, e_s_62, e_i_62, e_l_62, e_p_62_0, e_p_62_1, e_p_62_2, e_p_62_3, e_p_62_4, e_p_62_5, e_p_62_6, e_p_62_7, e_p_62_12, e_s_63, e_i_63, e_l_63, e_s_64, e_i_64, e_l_64, e_s_65, e_i_65, e_l_65, e_s_66, e_i_66, e_l_66, e_s_67, e_i_67, e_l_67, e_s_68, e_i_68, e_l_68, hE]
            simp (disch := omega) only [nr0, nI_clamp, nI_le', nI_lt', nI_eq', rem2_1, rem2_0, nI_eq0, nI_le0, nI_0lt, nI_0le, nI_lt0, nI_m1, vp_inE, nm_nI, i_20, nI_1, nI_add, and_true, true_and, and_self, or_true, true_or, or_false, false_or, false_and, and_false, not_true_eq_false, not_false_eq_true, if_true, if_false, ite_true, ite_false, false_imp_iff, true_imp_iff, rsn_00, rsn_10, rsn_01, rsn_11, n_09, n_19, n_29, n_99, implies_true, bI_t, bI_f, or_self, ne_eq, eq_self, Classical.not_not, Bool.false_eq_true]
            refine ih2 _ ((f2.trans (g3.mono (by decide) (by decide))).u (by decide)) ?_ ?_ (fun j hj => by rw [u_row (by decide), u_row (by decide), g3.row 66 (by decide) (by decide), g3.row 67 (by decide) (by decide)]; exact zr2 j hj) ?_
            · refine (F2.of (g3 62 9 (by decide) (by decide)) (g3.row 64 (by decide) (by decide)) (g3.row 65 (by decide) (by decide)) (g3.row 66 (by decide) (by decide)) (g3.row 67 (by decide) (by decide))).pre.of ?_ ?_ ?_ ?_ ?_
              · rw [u_row (by decide)]
              · rw [u_row (by decide)]
              · rw [u_row (by decide)]
              · rw [u_row (by decide)]
              · rw [u_row (by decide)]
            · exact us0 M3 (fun s hs => by rw [g3.row 63 (by decide) (by decide)]; exact U2 s hs)
            · exact b3.of (by rw [u_row (by decide)]) (by rw [u_row (by decide)]) (u_row (by decide))
          · rw [if_pos y] at ih2
            exact ih2 M' f hF' hU' zr hb
      · have e3 : i = nS V := by omega
        subst e3
        simp (disch := omega) only [Nat.le_refl, nI_clamp, nI_le', nI_lt', nI_eq', rem2_1, rem2_0, nI_eq0, nI_le0, nI_0lt, nI_0le, nI_lt0, nI_m1, vp_inE, nm_nI, i_20, nI_1, nI_add, and_true, true_and, and_self, or_true, true_or, or_false, false_or, false_and, and_false, not_true_eq_false, not_false_eq_true, if_true, if_false, ite_true, ite_false, false_imp_iff, true_imp_iff, rsn_00, rsn_10, rsn_01, rsn_11, n_09, n_19, n_29, n_99, implies_true, bI_t, bI_f, or_self, ne_eq, eq_self, Classical.not_not, Bool.false_eq_true]
        exact k M' f hF' hU' zr hb
    exact loop 0 (by omega) M Fr.refl hF hU (fun _ _ => ⟨rfl, rfl⟩) hB
  | succ n ih =>
    intro X d K M L p q hC h10 h11 hF hU hpz hps hr hq hB k
    have e8 : M 23 7 = nI (nS V) := hC.st.f7.trans hI.ns.1
    have lz : ¬ z ≤ p.length := by omega
    have l4 : (nI p.length < 4) = (p.length < 4) := nI_lt' (b := 4) (by omega) (by omega)
    have l4' : p.length < 4 := by omega
    refine EE_Finder_extend pt38_ok ?_
    simp only [s_aload_0_ref, s_bald, s_bast, s_get0, s_get2, s_goto, s_iadd, s_ic_ge, s_ic_lt, s_ic_ne, s_iconst, s_if_eq, s_iinc_2, s_iload_1_int, s_iload_2_int, s_istore_2_int, s_iv_0, s_iv_1, s_iv_2, s_return, J_Finder_extend_0, b_Finder_extend_0, J_Finder_extend_13, b_Finder_extend_13, J_Finder_extend_14, b_Finder_extend_14, J_Finder_extend_50, b_Finder_extend_50, J_Finder_extend_80, b_Finder_extend_80, J_Finder_extend_87, b_Finder_extend_87, J_Finder_extend_94, b_Finder_extend_94, J_Finder_extend_100, b_Finder_extend_100, J_Finder_extend_16, b_Finder_extend_16, s_end, true_and, and_true, or_true, true_or, if_true, if_false, ite_true, ite_false, List.map_nil, List.map_cons, List.sum_nil, List.sum_cons, List.nil_append, List.cons_append, Option.toList_some, Option.toList_none, Nat.reduceAdd, Nat.reduceLeDiff, Nat.reduceSub, Nat.zero_le, List.headD_cons, List.tail_cons, List.length_cons, List.length_nil, ne_eq, reduceCtorEq, false_or, or_false, not_false_eq_true, Nat.reduceEqDiff, Nat.reduceLT, am_sw, bI_0, bI_z, bI_y, Classical.not_not, Nat.le_add_left, am_u_row2, am_r_row2, am_u_same, am_u_at, am_r_same, Int32.reduceLT, Int32.reduceLE, Int32.reduceAdd, Int32.reduceSub, Int32.reduceMul, forall_const, not_true_eq_false, implies_true, false_imp_iff, true_imp_iff, i_10, i_01, i_m10, i_m11, eq_self, or_self, false_and, and_false, and_self, am_so_some, am_pv_some, am_pv_none, l_cl_none, l_cl_int, l_cl_ref, l_cl_ra, l_cl_null, l_cl_long, cat_int, cat_ref, cat_long, cat_ra, cat_null, cl_0, cl_1, cl_2, cl_3, cl_4, cl_5, cl_6, cl_7, cl_8, cl_9, cl_10, cl_11, cl_12, cl_13, cl_14, cl_15, cl_16, cl_30, cl_64, cl_500, vl_0_2, vl_0_3, vl_0_4, vl_0_6, vl_0_7, vl_0_12, vl_0_16, vl_0_1400, vl_1_2, vl_1_3, vl_1_4, vl_1_6, vl_1_7, vl_1_12, vl_1_16, vl_1_1400, vl_2_3, vl_2_4, vl_2_6, vl_2_7, vl_2_12, vl_2_16, vl_2_1400, vl_3_4, vl_3_6, vl_3_7, vl_3_12, vl_3_16, vl_3_1400, vl_4_6, vl_4_7, vl_4_12, vl_4_16, vl_4_1400, vl_5_6, vl_5_7, vl_5_12, vl_5_16, vl_5_1400, vl_6_7, vl_6_12, vl_6_16, vl_6_1400, vl_7_12, vl_7_16, vl_8_12, vl_8_16, vl_9_12, vl_9_16, vl_10_12, vl_10_16, vl_11_12, vl_11_16, i_64le_e, i64a_0, i64b_0, i64a_1, i64b_1, i64a_2, i64b_2, i64a_3, i64b_3, i64a_4, i64b_4, i64a_5, i64b_5, i64a_7, i64b_7, i64a_8, i64b_8, i64a_9, i64b_9, i64a_10, i64b_10, i64a_16, i64b_16, i64a_50, i64b_50, i64a_m50, i64b_m50, i64a_60, i64b_60, i64a_99, i64b_99, i64a_100, i64b_100, i64a_500, i64b_500, i64a_600, i64b_600, i64a_1000, i64b_1000, i64a_1000000, i64b_1000000, i64a_m9, i64b_m9, e_s_16, e_i_16, e_l_16, e_p_16_0, e_p_16_1, e_p_16_2, e_p_16_3, e_p_16_4, e_p_16_5, e_s_23, e_i_23, e_l_23, e_p_23_0, e_p_23_1, e_p_23_2, e_p_23_3, e_p_23_4, e_p_23_5, e_p_23_6, e_s_48, e_i_48, e_l_48, e_p_48_0, e_p_48_1, e_p_48_2, e_p_48_3, e_p_48_5, e_s_62, e_i_62, e_l_62, e_p_62_0, e_p_62_1, e_p_62_2, e_p_62_3, e_p_62_4, e_p_62_5, e_p_62_6, e_p_62_7, e_p_62_12, e_s_63, e_i_63, e_l_63, e_s_64, e_i_64, e_l_64, e_s_65, e_i_65, e_l_65, e_s_66, e_i_66, e_l_66, e_s_67, e_i_67, e_l_67, e_s_68, e_i_68, e_l_68, h10, hE]
    simp (disch := omega) only [lz, l4, l4', nI_clamp, nI_le', nI_lt', nI_eq', rem2_1, rem2_0, nI_eq0, nI_le0, nI_0lt, nI_0le, nI_lt0, nI_m1, vp_inE, nm_nI, i_20, nI_1, nI_add, and_true, true_and, and_self, or_true, true_or, or_false, false_or, false_and, and_false, not_true_eq_false, not_false_eq_true, if_true, if_false, ite_true, ite_false, false_imp_iff, true_imp_iff, rsn_00, rsn_10, rsn_01, rsn_11, n_09, n_19, n_29, n_99, implies_true, bI_t, bI_f, or_self, ne_eq, eq_self, Classical.not_not, Bool.false_eq_true]
    have loop : ∀ i, i ≤ nS V → ∀ M', Fr csY fsY M M' → FSr V M' a p → usP p M' → zr0 M M' → BsC (lpS (fun s q => if p.contains s = true then q else dfS V a (n + 1) (p ++ [s]) q) i q) M' → am_WP X (d + (n + 1) + 5) 6 16 [some (.ref 62), some (.int (nI p.length)), some (.int (nI i))] [] S M' L 0 0 K := by
      refine am_ind ?_
      intro i hi ih2 M' f hF' hU' zr hb
      have hC' : CT V M' := hC.fr (f.mono (by decide) (by decide))
      have a8 : M' 23 7 = nI (nS V) := hC'.st.f7.trans hI.ns.1
      have a10 : M' 62 10 = nI z := (f 62 10 (by decide) (by decide)).trans h10
      have a11 : M' 62 11 = nI (nL V * nL V / 3) := (f 62 11 (by decide) (by decide)).trans h11
      have qk := lpS_ok (V := V) (a := a) n6 (n := (n + 1)) (p := p) (q := q) (by rw [show p.length + ((n + 1) + 1) = z by omega]; exact hq) i
      refine H_Finder_extend_16 pt38_ok ?_
      simp only [s_aload_0_ref, s_bald, s_bast, s_get0, s_get2, s_goto, s_iadd, s_ic_ge, s_ic_lt, s_ic_ne, s_iconst, s_if_eq, s_iinc_2, s_iload_1_int, s_iload_2_int, s_istore_2_int, s_iv_0, s_iv_1, s_iv_2, s_return, J_Finder_extend_0, b_Finder_extend_0, J_Finder_extend_13, b_Finder_extend_13, J_Finder_extend_14, b_Finder_extend_14, J_Finder_extend_50, b_Finder_extend_50, J_Finder_extend_80, b_Finder_extend_80, J_Finder_extend_87, b_Finder_extend_87, J_Finder_extend_94, b_Finder_extend_94, J_Finder_extend_100, b_Finder_extend_100, J_Finder_extend_16, b_Finder_extend_16, s_end, true_and, and_true, or_true, true_or, if_true, if_false, ite_true, ite_false, List.map_nil, List.map_cons, List.sum_nil, List.sum_cons, List.nil_append, List.cons_append, Option.toList_some, Option.toList_none, Nat.reduceAdd, Nat.reduceLeDiff, Nat.reduceSub, Nat.zero_le, List.headD_cons, List.tail_cons, List.length_cons, List.length_nil, ne_eq, reduceCtorEq, false_or, or_false, not_false_eq_true, Nat.reduceEqDiff, Nat.reduceLT, am_sw, bI_0, bI_z, bI_y, Classical.not_not, Nat.le_add_left, am_u_row2, am_r_row2, am_u_same, am_u_at, am_r_same, Int32.reduceLT, Int32.reduceLE, Int32.reduceAdd, Int32.reduceSub, Int32.reduceMul, forall_const, not_true_eq_false, implies_true, false_imp_iff, true_imp_iff, i_10, i_01, i_m10, i_m11, eq_self, or_self, false_and, and_false, and_self, am_so_some, am_pv_some, am_pv_none, l_cl_none, l_cl_int, l_cl_ref, l_cl_ra, l_cl_null, l_cl_long, cat_int, cat_ref, cat_long, cat_ra, cat_null, cl_0, cl_1, cl_2, cl_3, cl_4, cl_5, cl_6, cl_7, cl_8, cl_9, cl_10, cl_11, cl_12, cl_13, cl_14, cl_15, cl_16, cl_30, cl_64, cl_500, vl_0_2, vl_0_3, vl_0_4, vl_0_6, vl_0_7, vl_0_12, vl_0_16, vl_0_1400, vl_1_2, vl_1_3, vl_1_4, vl_1_6, vl_1_7, vl_1_12, vl_1_16, vl_1_1400, vl_2_3, vl_2_4, vl_2_6, vl_2_7, vl_2_12, vl_2_16, vl_2_1400, vl_3_4, vl_3_6, vl_3_7, vl_3_12, vl_3_16, vl_3_1400, vl_4_6, vl_4_7, vl_4_12, vl_4_16, vl_4_1400, vl_5_6, vl_5_7, vl_5_12, vl_5_16, vl_5_1400, vl_6_7, vl_6_12, vl_6_16, vl_6_1400, vl_7_12, vl_7_16, vl_8_12, vl_8_16, vl_9_12, vl_9_16, vl_10_12, vl_10_16, vl_11_12, vl_11_16, i_64le_e, i64a_0, i64b_0, i64a_1, i64b_1, i64a_2, i64b_2, i64a_3, i64b_3, i64a_4, i64b_4, i64a_5, i64b_5, i64a_7, i64b_7, i64a_8, i64b_8, i64a_9, i64b_9, i64a_10, i64b_10, i64a_16, i64b_16, i64a_50, i64b_50, i64a_m50, i64b_m50, i64a_60, i64b_60, i64a_99, i64b_99, i64a_100, i64b_100, i64a_500, i64b_500, i64a_600, i64b_600, i64a_1000, i64b_1000, i64a_1000000, i64b_1000000, i64a_m9, i64b_m9, e_s_16, e_i_16, e_l_16, e_p_16_0, e_p_16_1, e_p_16_2, e_p_16_3, e_p_16_4, e_p_16_5, e_s_23, e_i_23, e_l_23, e_p_23_0, e_p_23_1, e_p_23_2, e_p_23_3, e_p_23_4, e_p_23_5, e_p_23_6, e_s_48, e_i_48, e_l_48, e_p_48_0, e_p_48_1, e_p_48_2, e_p_48_3, e_p_48_5, e_s_62, e_i_62, e_l_62, e_p_62_0, e_p_62_1, e_p_62_2, e_p_62_3, e_p_62_4, e_p_62_5, e_p_62_6, e_p_62_7, e_p_62_12, e_s_63, e_i_63, e_l_63, e_s_64, e_i_64, e_l_64, e_s_65, e_i_65, e_l_65, e_s_66, e_i_66, e_l_66, e_s_67, e_i_67, e_l_67, e_s_68, e_i_68, e_l_68, a8, a11, a10, hE]
      by_cases c0 : i < nS V
      · have go : ¬ satS V (lpS (fun s q => if p.contains s = true then q else dfS V a (n + 1) (p ++ [s]) q) i q) → ∃ x, M' 62 14 = x ∧ ¬ nI (nL V * nL V / 3) ≤ x := by
          intro ns
          cases hs : lpS (fun s q => if p.contains s = true then q else dfS V a (n + 1) (p ++ [s]) q) i q with
          | none =>
            rw [hs] at hb
            exact ⟨-1, hb, Int32.not_le.mpr (Int32.lt_of_lt_of_le (by decide) (nI_pos' (n := nL V * nL V / 3) (by omega)))⟩
          | some y =>
            rw [hs] at hb ns qk
            have q1 := (qk y.1 y.2 rfl).1
            refine ⟨nI y.1, hb.1, fun w => ns ⟨y.1, y.2, rfl, ?_⟩⟩
            rw [nI_leI (by omega) (by omega)] at w
            exact w
        by_cases cs : satS V (lpS (fun s q => if p.contains s = true then q else dfS V a (n + 1) (p ++ [s]) q) i q)
        · have fx : lpS (fun s q => if p.contains s = true then q else dfS V a (n + 1) (p ++ [s]) q) (nS V) q = lpS (fun s q => if p.contains s = true then q else dfS V a (n + 1) (p ++ [s]) q) i q := lpS_from (fun s => by
            by_cases c : p.contains s = true
            · rw [if_pos c]
            · rw [if_neg c]; exact dfS_sat n6 cs _ _) (nS V) (by omega)
          have kk := k M' f hF' hU' zr (by
            show BsC (lpS (fun s q => if p.contains s = true then q else dfS V a (n + 1) (p ++ [s]) q) (nS V) q) M'
            rw [fx]; exact hb)
          obtain ⟨c, r, hs, hc⟩ := cs
          rw [hs] at hb qk
          have q1 := (qk c r rfl).1
          have b14 : M' 62 14 = nI c := hb.1
          simp (disch := omega) only [Nat.not_le.mpr, c0, b14, hc, nI_clamp, nI_le', nI_lt', nI_eq', rem2_1, rem2_0, nI_eq0, nI_le0, nI_0lt, nI_0le, nI_lt0, nI_m1, vp_inE, nm_nI, i_20, nI_1, nI_add, and_true, true_and, and_self, or_true, true_or, or_false, false_or, false_and, and_false, not_true_eq_false, not_false_eq_true, if_true, if_false, ite_true, ite_false, false_imp_iff, true_imp_iff, rsn_00, rsn_10, rsn_01, rsn_11, n_09, n_19, n_29, n_99, implies_true, bI_t, bI_f, or_self, ne_eq, eq_self, Classical.not_not, Bool.false_eq_true]
          exact kk
        · obtain ⟨x, b14, gx⟩ := go cs
          have u1 := hU' i (by omega)
          have ih2 := ih2 c0
          have eL : lpS (fun s q => if p.contains s = true then q else dfS V a (n + 1) (p ++ [s]) q) (i + 1) q = if p.contains i = true then lpS (fun s q => if p.contains s = true then q else dfS V a (n + 1) (p ++ [s]) q) i q else dfS V a (n + 1) (p ++ [i]) (lpS (fun s q => if p.contains s = true then q else dfS V a (n + 1) (p ++ [s]) q) i q) := rfl
          rw [eL] at ih2
          have nr1 : vp_nar FieldType.boolean 1 = 1 := by decide
          have nr0 : vp_nar FieldType.boolean 0 = 0 := by decide
          simp (disch := omega) only [Nat.not_le.mpr, c0, b14, gx, u1, bI_0, nr1, nI_clamp, nI_le', nI_lt', nI_eq', rem2_1, rem2_0, nI_eq0, nI_le0, nI_0lt, nI_0le, nI_lt0, nI_m1, vp_inE, nm_nI, i_20, nI_1, nI_add, and_true, true_and, and_self, or_true, true_or, or_false, false_or, false_and, and_false, not_true_eq_false, not_false_eq_true, if_true, if_false, ite_true, ite_false, false_imp_iff, true_imp_iff, rsn_00, rsn_10, rsn_01, rsn_11, n_09, n_19, n_29, n_99, implies_true, bI_t, bI_f, or_self, ne_eq, eq_self, Classical.not_not, Bool.false_eq_true]
          refine ⟨fun y => ?_, fun y => ?_⟩
          · rw [if_neg y] at ih2
            have l1 : (p ++ [i]).length = p.length + 1 := by rw [List.length_append, List.length_singleton]
            have fN : fR (p ++ [i]) p.length = nI i := fR_new
            have hr1 : RowOk V (fR (p ++ [i])) (p ++ [i]).length := by
              rw [l1]
              refine lt_add (fun j hj => ?_) ?_
              · rw [fR_app hj]; exact hr j hj
              · rw [fN, nm_nI (by omega)]; exact ⟨rfl, c0⟩
            have f1 : Fr csY fsY M (am_u M' 63 i 1) := f.u (by decide)
            have us1 : ∀ M9, M9 63 = am_u M' 63 i 1 63 → usP (p ++ [i]) M9 := by
              intro M9 e9 s hs
              rw [e9]
              by_cases e : s = i
              · rw [e, am_u_same, bI_t (cont_snoc.mpr (Or.inr rfl))]
              · rw [am_u_ne (fun w => e w.2), hU' s hs]
                by_cases c : p.contains s = true
                · rw [bI_t c, bI_t (cont_snoc.mpr (Or.inl c))]
                · rw [bI_f c, bI_f (fun w => (cont_snoc.mp w).elim c e)]
            have us0 : ∀ M9, usP (p ++ [i]) M9 → usP p (am_u M9 63 i 0) := by
              intro M9 h9 s hs
              by_cases e : s = i
              · rw [e, am_u_same, bI_f y]
              · rw [am_u_ne (fun w => e w.2), h9 s hs]
                by_cases c : p.contains s = true
                · rw [bI_t c, bI_t (cont_snoc.mpr (Or.inl c))]
                · rw [bI_f c, bI_f (fun w => (cont_snoc.mp w).elim c e)]
            refine am_cal_no rfl (c_Finder_place (p := p) (s := i) hE (hC.fr (f1.mono (by decide) (by decide))) hI hP (hF'.of (by rw [u_row (by decide)]) (u_row (by decide)) (u_row (by decide)) (u_row (by decide)) (u_row (by decide))) l4' c0 hr ?_)
            intro M2 g2 F2 z2
            have zr2 : zr0 M M2 := fun j hj => by
              have a1 := z2 j hj
              rw [u_row (by decide), u_row (by decide)] at a1
              exact ⟨a1.1.trans (zr j hj).1, a1.2.trans (zr j hj).2⟩
            have f2 : Fr csY fsY M M2 := f1.trans (g2.mono (by decide) (by decide))
            have b10 : M2 62 10 = nI z := (f2 62 10 (by decide) (by decide)).trans h10
            have b11 : M2 62 11 = nI (nL V * nL V / 3) := (f2 62 11 (by decide) (by decide)).trans h11
            have U2 : usP (p ++ [i]) M2 := us1 M2 (g2.row 63 (by decide) (by decide))
            have B2 := hb.of (M' := M2) (by rw [g2 62 14 (by decide) (by decide), u_row (by decide)]) (by rw [g2 62 13 (by decide) (by decide), u_row (by decide)]) (by rw [g2.row 68 (by decide) (by decide), u_row (by decide)])
            simp only [s_aload_0_ref, s_bald, s_bast, s_get0, s_get2, s_goto, s_iadd, s_ic_ge, s_ic_lt, s_ic_ne, s_iconst, s_if_eq, s_iinc_2, s_iload_1_int, s_iload_2_int, s_istore_2_int, s_iv_0, s_iv_1, s_iv_2, s_return, J_Finder_extend_0, b_Finder_extend_0, J_Finder_extend_13, b_Finder_extend_13, J_Finder_extend_14, b_Finder_extend_14, J_Finder_extend_50, b_Finder_extend_50, J_Finder_extend_80, b_Finder_extend_80, J_Finder_extend_87, b_Finder_extend_87, J_Finder_extend_94, b_Finder_extend_94, J_Finder_extend_100, b_Finder_extend_100, J_Finder_extend_16, b_Finder_extend_16, s_end, true_and, and_true, or_true, true_or, if_true, if_false, ite_true, ite_false, List.map_nil, List.map_cons, List.sum_nil, List.sum_cons, List.nil_append, List.cons_append, Option.toList_some, Option.toList_none, Nat.reduceAdd, Nat.reduceLeDiff, Nat.reduceSub, Nat.zero_le, List.headD_cons, List.tail_cons, List.length_cons, List.length_nil, ne_eq, reduceCtorEq, false_or, or_false, not_false_eq_true, Nat.reduceEqDiff, Nat.reduceLT, am_sw, bI_0, bI_z, bI_y, Classical.not_not, Nat.le_add_left, am_u_row2, am_r_row2, am_u_same, am_u_at, am_r_same, Int32.reduceLT, Int32.reduceLE, Int32.reduceAdd, Int32.reduceSub, Int32.reduceMul, forall_const, not_true_eq_false, implies_true, false_imp_iff, true_imp_iff, i_10, i_01, i_m10, i_m11, eq_self, or_self, false_and, and_false, and_self, am_so_some, am_pv_some, am_pv_none, l_cl_none, l_cl_int, l_cl_ref, l_cl_ra, l_cl_null, l_cl_long, cat_int, cat_ref, cat_long, cat_ra, cat_null, cl_0, cl_1, cl_2, cl_3, cl_4, cl_5, cl_6, cl_7, cl_8, cl_9, cl_10, cl_11, cl_12, cl_13, cl_14, cl_15, cl_16, cl_30, cl_64, cl_500, vl_0_2, vl_0_3, vl_0_4, vl_0_6, vl_0_7, vl_0_12, vl_0_16, vl_0_1400, vl_1_2, vl_1_3, vl_1_4, vl_1_6, vl_1_7, vl_1_12, vl_1_16, vl_1_1400, vl_2_3, vl_2_4, vl_2_6, vl_2_7, vl_2_12, vl_2_16, vl_2_1400, vl_3_4, vl_3_6, vl_3_7, vl_3_12, vl_3_16, vl_3_1400, vl_4_6, vl_4_7, vl_4_12, vl_4_16, vl_4_1400, vl_5_6, vl_5_7, vl_5_12, vl_5_16, vl_5_1400, vl_6_7, vl_6_12, vl_6_16, vl_6_1400, vl_7_12, vl_7_16, vl_8_12, vl_8_16, vl_9_12, vl_9_16, vl_10_12, vl_10_16, vl_11_12, vl_11_16, i_64le_e, i64a_0, i64b_0, i64a_1, i64b_1, i64a_2, i64b_2, i64a_3, i64b_3, i64a_4, i64b_4, i64a_5, i64b_5, i64a_7, i64b_7, i64a_8, i64b_8, i64a_9, i64b_9, i64a_10, i64b_10, i64a_16, i64b_16, i64a_50, i64b_50, i64a_m50, i64b_m50, i64a_60, i64b_60, i64a_99, i64b_99, i64a_100, i64b_100, i64a_500, i64b_500, i64a_600, i64b_600, i64a_1000, i64b_1000, i64a_1000000, i64b_1000000, i64a_m9, i64b_m9, e_s_16, e_i_16, e_l_16, e_p_16_0, e_p_16_1, e_p_16_2, e_p_16_3, e_p_16_4, e_p_16_5, e_s_23, e_i_23, e_l_23, e_p_23_0, e_p_23_1, e_p_23_2, e_p_23_3, e_p_23_4, e_p_23_5, e_p_23_6, e_s_48, e_i_48, e_l_48, e_p_48_0, e_p_48_1, e_p_48_2, e_p_48_3, e_p_48_5, e_s_62, e_i_62, e_l_62, e_p_62_0, e_p_62_1, e_p_62_2, e_p_62_3, e_p_62_4, e_p_62_5, e_p_62_6, e_p_62_7, e_p_62_12, e_s_63, e_i_63, e_l_63, e_s_64, e_i_64, e_l_64, e_s_65, e_i_65, e_l_65, e_s_66, e_i_66, e_l_66, e_s_67, e_i_67, e_l_67, e_s_68, e_i_68, e_l_68, b10, hE]
            have ez : ¬ p.length + 1 = z := by omega
            simp (disch := omega) only [ez, nI_clamp, nI_le', nI_lt', nI_eq', rem2_1, rem2_0, nI_eq0, nI_le0, nI_0lt, nI_0le, nI_lt0, nI_m1, vp_inE, nm_nI, i_20, nI_1, nI_add, and_true, true_and, and_self, or_true, true_or, or_false, false_or, false_and, and_false, not_true_eq_false, not_false_eq_true, if_true, if_false, ite_true, ite_false, false_imp_iff, true_imp_iff, rsn_00, rsn_10, rsn_01, rsn_11, n_09, n_19, n_29, n_99, implies_true, bI_t, bI_f, or_self, ne_eq, eq_self, Classical.not_not, Bool.false_eq_true]
            rw [← l1]
            refine am_cal_no rfl (ih X d _ M2 L (p ++ [i]) (lpS (fun s q => if p.contains s = true then q else dfS V a (n + 1) (p ++ [s]) q) i q) (hC.fr (f2.mono (by decide) (by decide))) b10 b11 F2 U2 (by rw [l1]; omega) ?_ hr1 (qk.up (by omega)) B2 ?_)
            · intro s hs
              rcases List.mem_append.mp hs with h | h
              · exact hps s h
              · rw [List.mem_singleton.mp h]; exact c0
            intro M3 g3 F3 U3 z3 b3
            simp only [s_aload_0_ref, s_bald, s_bast, s_get0, s_get2, s_goto, s_iadd, s_ic_ge, s_ic_lt, s_ic_ne, s_iconst, s_if_eq, s_iinc_2, s_iload_1_int, s_iload_2_int, s_istore_2_int, s_iv_0, s_iv_1, s_iv_2, s_return, J_Finder_extend_0, b_Finder_extend_0, J_Finder_extend_13, b_Finder_extend_13, J_Finder_extend_14, b_Finder_extend_14, J_Finder_extend_50, b_Finder_extend_50, J_Finder_extend_80, b_Finder_extend_80, J_Finder_extend_87, b_Finder_extend_87, J_Finder_extend_94, b_Finder_extend_94, J_Finder_extend_100, b_Finder_extend_100, J_Finder_extend_16, b_Finder_extend_16, s_end, true_and, and_true, or_true, true_or, if_true, if_false, ite_true, ite_false, List.map_nil, List.map_cons, List.sum_nil, List.sum_cons, List.nil_append, List.cons_append, Option.toList_some, Option.toList_none, Nat.reduceAdd, Nat.reduceLeDiff, Nat.reduceSub, Nat.zero_le, List.headD_cons, List.tail_cons, List.length_cons, List.length_nil, ne_eq, reduceCtorEq, false_or, or_false, not_false_eq_true, Nat.reduceEqDiff, Nat.reduceLT, am_sw, bI_0, bI_z, bI_y, Classical.not_not, Nat.le_add_left, am_u_row2, am_r_row2, am_u_same, am_u_at, am_r_same, Int32.reduceLT, Int32.reduceLE, Int32.reduceAdd, Int32.reduceSub, Int32.reduceMul, forall_const, not_true_eq_false, implies_true, false_imp_iff, true_imp_iff, i_10, i_01, i_m10, i_m11, eq_self, or_self, false_and, and_false, and_self, am_so_some, am_pv_some, am_pv_none, l_cl_none, l_cl_int, l_cl_ref, l_cl_ra, l_cl_null, l_cl_long, cat_int, cat_ref, cat_long, cat_ra, cat_null, cl_0, cl_1, cl_2, cl_3, cl_4, cl_5, cl_6, cl_7, cl_8, cl_9, cl_10, cl_11, cl_12, cl_13, cl_14, cl_15, cl_16, cl_30, cl_64, cl_500, vl_0_2, vl_0_3, vl_0_4, vl_0_6, vl_0_7, vl_0_12, vl_0_16, vl_0_1400, vl_1_2, vl_1_3, vl_1_4, vl_1_6, vl_1_7, vl_1_12, vl_1_16, vl_1_1400, vl_2_3, vl_2_4, vl_2_6, vl_2_7, vl_2_12, vl_2_16, vl_2_1400, vl_3_4, vl_3_6, vl_3_7, vl_3_12, vl_3_16, vl_3_1400, vl_4_6, vl_4_7, vl_4_12, vl_4_16, vl_4_1400, vl_5_6, vl_5_7, vl_5_12, vl_5_16, vl_5_1400, vl_6_7, vl_6_12, vl_6_16, vl_6_1400, vl_7_12, vl_7_16, vl_8_12, vl_8_16, vl_9_12, vl_9_16, vl_10_12, vl_10_16, vl_11_12, vl_11_16, i_64le_e, i64a_0, i64b_0, i64a_1, i64b_1, i64a_2, i64b_2, i64a_3, i64b_3, i64a_4, i64b_4, i64a_5, i64b_5, i64a_7, i64b_7, i64a_8, i64b_8, i64a_9, i64b_9, i64a_10, i64b_10, i64a_16, i64b_16, i64a_50, i64b_50, i64a_m50, i64b_m50, i64a_60, i64b_60, i64a_99, i64b_99, i64a_100, i64b_100, i64a_500, i64b_500, i64a_600, i64b_600, i64a_1000, i64b_1000, i64a_1000000, i64b_1000000, i64a_m9, i64b_m9, e_s_16, e_i_16, e_l_16, e_p_16_0, e_p_16_1, e_p_16_2, e_p_16_3, e_p_16_4, e_p_16_5, e_s_23, e_i_23, e_l_23, e_p_23_0, e_p_23_1, e_p_23_2, e_p_23_3, e_p_23_4, e_p_23_5, e_p_23_6, e_s_48, e_i_48, e_l_48, e_p_48_0, e_p_48_1, e_p_48_2, e_p_48_3, e_p_48_5, e_s_62, e_i_62, e_l_62, e_p_62_0, e_p_62_1, e_p_62_2, e_p_62_3, e_p_62_4, e_p_62_5, e_p_62_6, e_p_62_7, e_p_62_12, e_s_63, e_i_63, e_l_63, e_s_64, e_i_64, e_l_64, e_s_65, e_i_65, e_l_65, e_s_66, e_i_66, e_l_66, e_s_67, e_i_67, e_l_67, e_s_68, e_i_68, e_l_68, hE]
            simp (disch := omega) only [nr0, nI_clamp, nI_le', nI_lt', nI_eq', rem2_1, rem2_0, nI_eq0, nI_le0, nI_0lt, nI_0le, nI_lt0, nI_m1, vp_inE, nm_nI, i_20, nI_1, nI_add, and_true, true_and, and_self, or_true, true_or, or_false, false_or, false_and, and_false, not_true_eq_false, not_false_eq_true, if_true, if_false, ite_true, ite_false, false_imp_iff, true_imp_iff, rsn_00, rsn_10, rsn_01, rsn_11, n_09, n_19, n_29, n_99, implies_true, bI_t, bI_f, or_self, ne_eq, eq_self, Classical.not_not, Bool.false_eq_true]
            refine ih2 _ ((f2.trans g3).u (by decide)) ?_ (us0 M3 U3) (fun j hj => by rw [u_row (by decide), u_row (by decide)]; exact ⟨(z3 j hj).1.trans (zr2 j hj).1, (z3 j hj).2.trans (zr2 j hj).2⟩) ?_
            · refine F3.pre.of ?_ ?_ ?_ ?_ ?_
              · rw [u_row (by decide)]
              · rw [u_row (by decide)]
              · rw [u_row (by decide)]
              · rw [u_row (by decide)]
              · rw [u_row (by decide)]
            · exact b3.of (by rw [u_row (by decide)]) (by rw [u_row (by decide)]) (u_row (by decide))
          · rw [if_pos y] at ih2
            exact ih2 M' f hF' hU' zr hb
      · have e3 : i = nS V := by omega
        subst e3
        simp (disch := omega) only [Nat.le_refl, nI_clamp, nI_le', nI_lt', nI_eq', rem2_1, rem2_0, nI_eq0, nI_le0, nI_0lt, nI_0le, nI_lt0, nI_m1, vp_inE, nm_nI, i_20, nI_1, nI_add, and_true, true_and, and_self, or_true, true_or, or_false, false_or, false_and, and_false, not_true_eq_false, not_false_eq_true, if_true, if_false, ite_true, ite_false, false_imp_iff, true_imp_iff, rsn_00, rsn_10, rsn_01, rsn_11, n_09, n_19, n_29, n_99, implies_true, bI_t, bI_f, or_self, ne_eq, eq_self, Classical.not_not, Bool.false_eq_true]
        exact k M' f hF' hU' zr hb
    exact loop 0 (by omega) M Fr.refl hF hU (fun _ _ => ⟨rfl, rfl⟩) hB
end T85
