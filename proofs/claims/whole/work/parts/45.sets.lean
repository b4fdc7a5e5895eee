def orL (l : List Nat) : Nat := l.foldl (fun a b => a ||| 2 ^ b) 0
theorem orL_snoc (l : List Nat) (b : Nat) : orL (l ++ [b]) = orL l ||| 2 ^ b := by unfold orL; rw [List.foldl_append]; rfl
def bF (q : Nat → Bool) : Nat → Nat
  | 0 => 0
  | n + 1 => if q n = true then bF q n + 2 ^ n else bF q n
theorem bF_lt {q : Nat → Bool} : ∀ n, bF q n < 2 ^ n := by
  intro n
  induction n with
  | zero => show 0 < 1; omega
  | succ n ih =>
    unfold bF
    rw [Nat.pow_succ]
    by_cases h : q n = true
    · rw [if_pos h]; omega
    · rw [if_neg h]; omega
theorem add_bit {x n j : Nat} (hx : x < 2 ^ n) : (x + 2 ^ n) / 2 ^ j % 2 = if j < n then x / 2 ^ j % 2 else if j = n then 1 else 0 := by
  by_cases h : j < n
  · rw [if_pos h]
    have e : 2 ^ n = 2 ^ j * (2 * 2 ^ (n - j - 1)) := by
      rw [← Nat.pow_succ', ← Nat.pow_add]; congr 1; omega
    rw [e, Nat.add_mul_div_left _ _ (Nat.two_pow_pos j)]
    omega
  · rw [if_neg h]
    by_cases h2 : j = n
    · rw [if_pos h2, h2, Nat.add_div_right _ (Nat.two_pow_pos n), Nat.div_eq_of_lt hx]
    · rw [if_neg h2, Nat.div_eq_of_lt]
      have := Nat.pow_le_pow_right (n := 2) (by decide) (show n + 1 ≤ j by omega)
      rw [Nat.pow_succ] at this
      omega
theorem bF_bit {q : Nat → Bool} : ∀ n j, (bF q n / 2 ^ j % 2 = 1) = (j < n ∧ q j = true) := by
  intro n
  induction n with
  | zero => intro j; unfold bF; rw [Nat.zero_div]; simp
  | succ n ih =>
    intro j
    unfold bF
    by_cases h : q n = true
    · rw [if_pos h, add_bit (bF_lt n)]
      by_cases c : j < n
      · rw [if_pos c, ih j]
        exact propext ⟨fun z => ⟨by omega, z.2⟩, fun z => ⟨c, z.2⟩⟩
      · rw [if_neg c]
        by_cases c2 : j = n
        · rw [if_pos c2, c2]; exact propext ⟨fun _ => ⟨by omega, h⟩, fun _ => rfl⟩
        · rw [if_neg c2]; exact propext ⟨fun z => absurd z (by decide), fun z => absurd z.1 (by omega)⟩
    · rw [if_neg h, ih j]
      refine propext ⟨fun z => ⟨by omega, z.2⟩, fun z => ⟨?_, z.2⟩⟩
      by_cases c : j = n
      · rw [c] at z; exact absurd z.2 h
      · omega
theorem or_pow {x n : Nat} (hx : x < 2 ^ n) : x ||| 2 ^ n = x + 2 ^ n := by
  have := Nat.two_pow_add_eq_or_of_lt hx 1
  rw [Nat.mul_one] at this
  rw [Nat.or_comm, ← this, Nat.add_comm]
theorem orL_range {q : Nat → Bool} : ∀ n, orL ((List.range n).filter q) = bF q n := by
  intro n
  induction n with
  | zero => rfl
  | succ n ih =>
    rw [List.range_succ, List.filter_append]
    unfold bF
    by_cases h : q n = true
    · rw [if_pos h, List.filter_cons_of_pos h, List.filter_nil, orL_snoc, ih, or_pow (bF_lt n)]
    · rw [if_neg h, List.filter_cons_of_neg h, List.filter_nil, List.append_nil, ih]
theorem sumN_shift (g : Nat → Nat) : ∀ n, sumN g (n + 1) = g 0 + sumN (fun j => g (j + 1)) n := by
  intro n
  induction n with
  | zero => show 0 + g 0 = g 0 + 0; omega
  | succ n ih =>
    show sumN g (n + 1) + g (n + 1) = g 0 + (sumN (fun j => g (j + 1)) n + g (n + 1))
    rw [ih]; omega
theorem pcn_sum : ∀ f h, pcn f h = sumN (fun j => h / 2 ^ j % 2) f := by
  intro f
  induction f with
  | zero => intro h; rfl
  | succ f ih =>
    intro h
    rw [sumN_shift]
    show h % 2 + pcn f (h / 2) = _
    rw [ih, Nat.pow_zero, Nat.div_one]
    congr 1
    apply sumN_congr
    intro i _
    show h / 2 / 2 ^ i % 2 = h / 2 ^ (i + 1) % 2
    rw [Nat.div_div_eq_div_mul, Nat.pow_succ, Nat.mul_comm 2]
theorem bit01 (x : Nat) (p : Prop) [Decidable p] (h : (x % 2 = 1) = p) : x % 2 = if p then 1 else 0 := by
  by_cases c : p
  · rw [if_pos c]; rw [h]; exact c
  · rw [if_neg c]
    have : ¬ x % 2 = 1 := by rw [h]; exact c
    omega
theorem filter_len {q : Nat → Bool} {n : Nat} : ∀ m, ((List.range n).filter q).length = sumN (fun j => if j < n ∧ q j = true then 1 else 0) (n + m) := by
  have a : ((List.range n).filter q).length = sumN (fun j => if q j = true then 1 else 0) n := by
    induction n with
    | zero => rfl
    | succ n ih =>
      rw [List.range_succ, List.filter_append, List.length_append, ih]
      show _ + _ = _ + (if q n = true then 1 else 0)
      congr 1
      by_cases h : q n = true
      · rw [if_pos h, List.filter_cons_of_pos h]; rfl
      · rw [if_neg h, List.filter_cons_of_neg h]; rfl
  intro m
  induction m with
  | zero =>
    rw [a]
    apply sumN_congr
    intro i hi
    by_cases h : q i = true
    · rw [if_pos h, if_pos ⟨hi, h⟩]
    · rw [if_neg h, if_neg (fun z => h z.2)]
  | succ m ih =>
    show _ = sumN _ (n + m) + (if n + m < n ∧ q (n + m) = true then 1 else 0)
    rw [if_neg (fun z => by omega), ih]; rfl
theorem pcn_bF {q : Nat → Bool} {n : Nat} (hn : n ≤ 16) : pcn 16 (bF q n) = ((List.range n).filter q).length := by
  rw [pcn_sum, filter_len (16 - n), show n + (16 - n) = 16 by omega]
  apply sumN_congr
  intro i _
  exact bit01 _ _ (bF_bit n i)
theorem xC_nI {w b : Nat} (hw : w < 65536) (hb : b < 16) : xC (nI w) b = decide (w / 2 ^ b % 2 = 1) := by
  unfold xC
  have e : (nI w >>> (nI b &&& 31)) &&& 1 = nI (w / 2 ^ b % 2) := by
    rw [nI_shr (by omega) (by omega), show (1 : Int32) = nI 1 from rfl, nI_and, Nat.and_one_is_mod]
  rw [e]
  have q : w / 2 ^ b % 2 = 0 ∨ w / 2 ^ b % 2 = 1 := by omega
  rcases q with q | q
  · rw [q]; rfl
  · rw [q]; rfl
section T45
variable {X : am_X} {d : Nat} {K : am_K} {S : am_S} {M : am_M} {L : am_L} {V : am_M}
theorem c_Odds_allBits {l : List Nat} (hE : am_env S) (hc : CtC V M l) (hl : l.length ≤ 16) (h16 : ∀ b ∈ l, b < 16) (k : K (some (.int (nI (orL l)))) S M L) : am_Call X d m_Odds_allBits [.ref 54] S M L K := by
  have a1 := hc.n
  refine EE_Odds_allBits pt32_ok ?_
  simp only [s_aload_0_ref, s_get0, s_get2, s_goto, s_iald, s_ic_ge, s_iconst, s_iinc_2, s_iload_1_int, s_iload_2_int, s_ior, s_ireturn, s_ishl, s_istore_1_int, s_istore_2_int, J_Odds_allBits_0, b_Odds_allBits_0, J_Odds_allBits_29, b_Odds_allBits_29, J_Odds_allBits_4, b_Odds_allBits_4, s_end, true_and, and_true, or_true, true_or, if_true, if_false, ite_true, ite_false, List.map_nil, List.map_cons, List.sum_nil, List.sum_cons, List.nil_append, List.cons_append, Option.toList_some, Option.toList_none, Nat.reduceAdd, Nat.reduceLeDiff, Nat.reduceSub, Nat.zero_le, List.headD_cons, List.tail_cons, List.length_cons, List.length_nil, ne_eq, reduceCtorEq, false_or, or_false, not_false_eq_true, Nat.reduceEqDiff, Nat.reduceLT, am_sw, bI_0, bI_z, bI_y, Classical.not_not, Nat.le_add_left, am_u_row2, am_r_row2, am_u_same, am_u_at, am_r_same, Int32.reduceLT, Int32.reduceLE, Int32.reduceAdd, Int32.reduceSub, Int32.reduceMul, forall_const, not_true_eq_false, implies_true, false_imp_iff, true_imp_iff, i_10, i_01, i_m10, i_m11, eq_self, or_self, false_and, and_false, and_self, am_so_some, am_pv_some, am_pv_none, l_cl_none, l_cl_int, l_cl_ref, l_cl_ra, l_cl_null, l_cl_long, cat_int, cat_ref, cat_long, cat_ra, cat_null, cl_0, cl_1, cl_2, cl_3, cl_4, cl_5, cl_6, cl_7, cl_8, cl_9, cl_10, cl_11, cl_12, cl_13, cl_14, cl_15, cl_16, cl_30, cl_64, cl_500, vl_0_2, vl_0_3, vl_0_4, vl_0_6, vl_0_7, vl_0_12, vl_0_16, vl_0_1400, vl_1_2, vl_1_3, vl_1_4, vl_1_6, vl_1_7, vl_1_12, vl_1_16, vl_1_1400, vl_2_3, vl_2_4, vl_2_6, vl_2_7, vl_2_12, vl_2_16, vl_2_1400, vl_3_4, vl_3_6, vl_3_7, vl_3_12, vl_3_16, vl_3_1400, vl_4_6, vl_4_7, vl_4_12, vl_4_16, vl_4_1400, vl_5_6, vl_5_7, vl_5_12, vl_5_16, vl_5_1400, vl_6_7, vl_6_12, vl_6_16, vl_6_1400, vl_7_12, vl_7_16, vl_8_12, vl_8_16, vl_9_12, vl_9_16, vl_10_12, vl_10_16, vl_11_12, vl_11_16, i_64le_e, i64a_0, i64b_0, i64a_1, i64b_1, i64a_2, i64b_2, i64a_3, i64b_3, i64a_4, i64b_4, i64a_5, i64b_5, i64a_7, i64b_7, i64a_8, i64b_8, i64a_9, i64b_9, i64a_10, i64b_10, i64a_16, i64b_16, i64a_50, i64b_50, i64a_m50, i64b_m50, i64a_60, i64b_60, i64a_99, i64b_99, i64a_100, i64b_100, i64a_500, i64b_500, i64a_600, i64b_600, i64a_1000, i64b_1000, i64a_1000000, i64b_1000000, i64a_m9, i64b_m9, e_s_31, e_i_31, e_l_31, e_p_31_0, e_p_31_1, e_p_31_2, e_p_31_3, e_p_31_4, e_p_31_5, e_p_31_6, e_s_51, e_i_51, e_l_51, e_p_51_0, e_p_51_1, e_p_51_2, e_p_51_3, e_p_51_4, e_s_54, e_i_54, e_l_54, e_p_54_0, e_p_54_1, e_p_54_2, e_p_54_3, e_p_54_4, e_p_54_5, e_p_54_6, e_p_54_7, e_s_55, e_i_55, e_l_55, e_s_56, e_i_56, e_l_56, e_s_57, e_i_57, e_l_57, e_s_58, e_i_58, e_l_58, e_s_59, e_i_59, e_l_59, e_s_60, e_i_60, e_l_60, hE]
  have loop : ∀ i, i ≤ l.length → am_WP X d 44 4 [some (.ref 54), some (.int (nI (orL (l.take i)))), some (.int (nI i))] [] S (M) (L) 0 0 K := by
    refine am_ind ?_
    intro i hi ih
    refine H_Odds_allBits_4 pt32_ok ?_
    simp only [s_aload_0_ref, s_get0, s_get2, s_goto, s_iald, s_ic_ge, s_iconst, s_iinc_2, s_iload_1_int, s_iload_2_int, s_ior, s_ireturn, s_ishl, s_istore_1_int, s_istore_2_int, J_Odds_allBits_0, b_Odds_allBits_0, J_Odds_allBits_29, b_Odds_allBits_29, J_Odds_allBits_4, b_Odds_allBits_4, s_end, true_and, and_true, or_true, true_or, if_true, if_false, ite_true, ite_false, List.map_nil, List.map_cons, List.sum_nil, List.sum_cons, List.nil_append, List.cons_append, Option.toList_some, Option.toList_none, Nat.reduceAdd, Nat.reduceLeDiff, Nat.reduceSub, Nat.zero_le, List.headD_cons, List.tail_cons, List.length_cons, List.length_nil, ne_eq, reduceCtorEq, false_or, or_false, not_false_eq_true, Nat.reduceEqDiff, Nat.reduceLT, am_sw, bI_0, bI_z, bI_y, Classical.not_not, Nat.le_add_left, am_u_row2, am_r_row2, am_u_same, am_u_at, am_r_same, Int32.reduceLT, Int32.reduceLE, Int32.reduceAdd, Int32.reduceSub, Int32.reduceMul, forall_const, not_true_eq_false, implies_true, false_imp_iff, true_imp_iff, i_10, i_01, i_m10, i_m11, eq_self, or_self, false_and, and_false, and_self, am_so_some, am_pv_some, am_pv_none, l_cl_none, l_cl_int, l_cl_ref, l_cl_ra, l_cl_null, l_cl_long, cat_int, cat_ref, cat_long, cat_ra, cat_null, cl_0, cl_1, cl_2, cl_3, cl_4, cl_5, cl_6, cl_7, cl_8, cl_9, cl_10, cl_11, cl_12, cl_13, cl_14, cl_15, cl_16, cl_30, cl_64, cl_500, vl_0_2, vl_0_3, vl_0_4, vl_0_6, vl_0_7, vl_0_12, vl_0_16, vl_0_1400, vl_1_2, vl_1_3, vl_1_4, vl_1_6, vl_1_7, vl_1_12, vl_1_16, vl_1_1400, vl_2_3, vl_2_4, vl_2_6, vl_2_7, vl_2_12, vl_2_16, vl_2_1400, vl_3_4, vl_3_6, vl_3_7, vl_3_12, vl_3_16, vl_3_1400, vl_4_6, vl_4_7, vl_4_12, vl_4_16, vl_4_1400, vl_5_6, vl_5_7, vl_5_12, vl_5_16, vl_5_1400, vl_6_7, vl_6_12, vl_6_16, vl_6_1400, vl_7_12, vl_7_16, vl_8_12, vl_8_16, vl_9_12, vl_9_16, vl_10_12, vl_10_16, vl_11_12, vl_11_16, i_64le_e, i64a_0, i64b_0, i64a_1, i64b_1, i64a_2, i64b_2, i64a_3, i64b_3, i64a_4, i64b_4, i64a_5, i64b_5, i64a_7, i64b_7, i64a_8, i64b_8, i64a_9, i64b_9, i64a_10, i64b_10, i64a_16, i64b_16, i64a_50, i64b_50, i64a_m50, i64b_m50, i64a_60, i64b_60, i64a_99, i64b_99, i64a_100, i64b_100, i64a_500, i64b_500, i64a_600, i64b_600, i64a_1000, i64b_1000, i64a_1000000, i64b_1000000, i64a_m9, i64b_m9, e_s_31, e_i_31, e_l_31, e_p_31_0, e_p_31_1, e_p_31_2, e_p_31_3, e_p_31_4, e_p_31_5, e_p_31_6, e_s_51, e_i_51, e_l_51, e_p_51_0, e_p_51_1, e_p_51_2, e_p_51_3, e_p_51_4, e_s_54, e_i_54, e_l_54, e_p_54_0, e_p_54_1, e_p_54_2, e_p_54_3, e_p_54_4, e_p_54_5, e_p_54_6, e_p_54_7, e_s_55, e_i_55, e_l_55, e_s_56, e_i_56, e_l_56, e_s_57, e_i_57, e_l_57, e_s_58, e_i_58, e_l_58, e_s_59, e_i_59, e_l_59, e_s_60, e_i_60, e_l_60, a1, hE]
    by_cases c0 : i < l.length
    · have a2 := hc.w i (by rw [List.length_map]; exact c0)
      rw [getD_map (b := 0) c0] at a2
      have b16 := h16 (l.getD i 0) (by rw [List.getD_eq_getElem?_getD, List.getElem?_eq_getElem c0]; exact List.getElem_mem c0)
      have e1 : (1 : Int32) <<< (nI (l.getD i 0) &&& 31) = nI (2 ^ l.getD i 0) := (nI_shl (a := 1) (by omega)).trans (by rw [Nat.one_mul])
      have ih := ih c0
      rw [take_snoc (a := 0) c0, orL_snoc] at ih
      simp (disch := omega) only [Nat.not_le.mpr, c0, a2, e1, nI_or, nI_clamp, nI_le', nI_lt', nI_eq', rem2_1, rem2_0, nI_eq0, nI_le0, nI_0lt, nI_0le, nI_lt0, nI_m1, vp_inE, nm_nI, i_20, nI_1, nI_add, and_true, true_and, and_self, or_true, true_or, or_false, false_or, false_and, and_false, not_true_eq_false, not_false_eq_true, if_true, if_false, ite_true, ite_false, false_imp_iff, true_imp_iff, rsn_00, rsn_10, rsn_01, rsn_11, n_09, n_19, n_29, n_99, implies_true, bI_t, bI_f, or_self, ne_eq, eq_self, Classical.not_not, Bool.false_eq_true]
      exact ih
    · have e : i = l.length := by omega
      subst e
      simp (disch := omega) only [Nat.le_refl, nI_clamp, nI_le', nI_lt', nI_eq', rem2_1, rem2_0, nI_eq0, nI_le0, nI_0lt, nI_0le, nI_lt0, nI_m1, vp_inE, nm_nI, i_20, nI_1, nI_add, and_true, true_and, and_self, or_true, true_or, or_false, false_or, false_and, and_false, not_true_eq_false, not_false_eq_true, if_true, if_false, ite_true, ite_false, false_imp_iff, true_imp_iff, rsn_00, rsn_10, rsn_01, rsn_11, n_09, n_19, n_29, n_99, implies_true, bI_t, bI_f, or_self, ne_eq, eq_self, Classical.not_not, Bool.false_eq_true]
      rw [List.take_length]
      exact k
  exact loop 0 (by omega)
theorem c_Odds_houseBits {h : Int32} {l : List Nat} (hE : am_env S) (hC : CV V M) (hI : IV V) (hc : CtC V M l) (hl : l.length ≤ 16) (hn : ∀ b ∈ l, b < nB V) (k : K (some (.int (nI (orL (l.filter (fun b => decide (V 80 b = h))))))) S M L) : am_Call X d m_Odds_houseBits [.ref 54, .int h] S M L K := by
  have a1 := hc.n
  have n16 := hI.nb.2
  refine EE_Odds_houseBits pt32_ok ?_
  simp only [s_aload_0_ref, s_get0, s_get2, s_goto, s_iald, s_ic_ge, s_ic_ne, s_iconst, s_iinc_3, s_iload_1_int, s_iload_2_int, s_iload_3_int, s_ior, s_ireturn, s_ishl, s_istore_2_int, s_istore_3_int, J_Odds_houseBits_0, b_Odds_houseBits_0, J_Odds_houseBits_41, b_Odds_houseBits_41, J_Odds_houseBits_47, b_Odds_houseBits_47, J_Odds_houseBits_4, b_Odds_houseBits_4, s_end, true_and, and_true, or_true, true_or, if_true, if_false, ite_true, ite_false, List.map_nil, List.map_cons, List.sum_nil, List.sum_cons, List.nil_append, List.cons_append, Option.toList_some, Option.toList_none, Nat.reduceAdd, Nat.reduceLeDiff, Nat.reduceSub, Nat.zero_le, List.headD_cons, List.tail_cons, List.length_cons, List.length_nil, ne_eq, reduceCtorEq, false_or, or_false, not_false_eq_true, Nat.reduceEqDiff, Nat.reduceLT, am_sw, bI_0, bI_z, bI_y, Classical.not_not, Nat.le_add_left, am_u_row2, am_r_row2, am_u_same, am_u_at, am_r_same, Int32.reduceLT, Int32.reduceLE, Int32.reduceAdd, Int32.reduceSub, Int32.reduceMul, forall_const, not_true_eq_false, implies_true, false_imp_iff, true_imp_iff, i_10, i_01, i_m10, i_m11, eq_self, or_self, false_and, and_false, and_self, am_so_some, am_pv_some, am_pv_none, l_cl_none, l_cl_int, l_cl_ref, l_cl_ra, l_cl_null, l_cl_long, cat_int, cat_ref, cat_long, cat_ra, cat_null, cl_0, cl_1, cl_2, cl_3, cl_4, cl_5, cl_6, cl_7, cl_8, cl_9, cl_10, cl_11, cl_12, cl_13, cl_14, cl_15, cl_16, cl_30, cl_64, cl_500, vl_0_2, vl_0_3, vl_0_4, vl_0_6, vl_0_7, vl_0_12, vl_0_16, vl_0_1400, vl_1_2, vl_1_3, vl_1_4, vl_1_6, vl_1_7, vl_1_12, vl_1_16, vl_1_1400, vl_2_3, vl_2_4, vl_2_6, vl_2_7, vl_2_12, vl_2_16, vl_2_1400, vl_3_4, vl_3_6, vl_3_7, vl_3_12, vl_3_16, vl_3_1400, vl_4_6, vl_4_7, vl_4_12, vl_4_16, vl_4_1400, vl_5_6, vl_5_7, vl_5_12, vl_5_16, vl_5_1400, vl_6_7, vl_6_12, vl_6_16, vl_6_1400, vl_7_12, vl_7_16, vl_8_12, vl_8_16, vl_9_12, vl_9_16, vl_10_12, vl_10_16, vl_11_12, vl_11_16, i_64le_e, i64a_0, i64b_0, i64a_1, i64b_1, i64a_2, i64b_2, i64a_3, i64b_3, i64a_4, i64b_4, i64a_5, i64b_5, i64a_7, i64b_7, i64a_8, i64b_8, i64a_9, i64b_9, i64a_10, i64b_10, i64a_16, i64b_16, i64a_50, i64b_50, i64a_m50, i64b_m50, i64a_60, i64b_60, i64a_99, i64b_99, i64a_100, i64b_100, i64a_500, i64b_500, i64a_600, i64b_600, i64a_1000, i64b_1000, i64a_1000000, i64b_1000000, i64a_m9, i64b_m9, e_s_31, e_i_31, e_l_31, e_p_31_0, e_p_31_1, e_p_31_2, e_p_31_3, e_p_31_4, e_p_31_5, e_p_31_6, e_s_33, e_i_33, e_l_33, e_s_51, e_i_51, e_l_51, e_p_51_0, e_p_51_1, e_p_51_2, e_p_51_3, e_p_51_4, e_s_54, e_i_54, e_l_54, e_p_54_0, e_p_54_1, e_p_54_2, e_p_54_3, e_p_54_4, e_p_54_5, e_p_54_6, e_p_54_7, e_s_55, e_i_55, e_l_55, e_s_56, e_i_56, e_l_56, e_s_57, e_i_57, e_l_57, e_s_58, e_i_58, e_l_58, e_s_59, e_i_59, e_l_59, e_s_60, e_i_60, e_l_60, hE]
  have loop : ∀ i, i ≤ l.length → am_WP X d 45 4 [some (.ref 54), some (.int (h)), some (.int (nI (orL ((l.take i).filter (fun b => decide (V 80 b = h)))))), some (.int (nI i))] [] S (M) (L) 0 0 K := by
    refine am_ind ?_
    intro i hi ih
    refine H_Odds_houseBits_4 pt32_ok ?_
    simp only [s_aload_0_ref, s_get0, s_get2, s_goto, s_iald, s_ic_ge, s_ic_ne, s_iconst, s_iinc_3, s_iload_1_int, s_iload_2_int, s_iload_3_int, s_ior, s_ireturn, s_ishl, s_istore_2_int, s_istore_3_int, J_Odds_houseBits_0, b_Odds_houseBits_0, J_Odds_houseBits_41, b_Odds_houseBits_41, J_Odds_houseBits_47, b_Odds_houseBits_47, J_Odds_houseBits_4, b_Odds_houseBits_4, s_end, true_and, and_true, or_true, true_or, if_true, if_false, ite_true, ite_false, List.map_nil, List.map_cons, List.sum_nil, List.sum_cons, List.nil_append, List.cons_append, Option.toList_some, Option.toList_none, Nat.reduceAdd, Nat.reduceLeDiff, Nat.reduceSub, Nat.zero_le, List.headD_cons, List.tail_cons, List.length_cons, List.length_nil, ne_eq, reduceCtorEq, false_or, or_false, not_false_eq_true, Nat.reduceEqDiff, Nat.reduceLT, am_sw, bI_0, bI_z, bI_y, Classical.not_not, Nat.le_add_left, am_u_row2, am_r_row2, am_u_same, am_u_at, am_r_same, Int32.reduceLT, Int32.reduceLE, Int32.reduceAdd, Int32.reduceSub, Int32.reduceMul, forall_const, not_true_eq_false, implies_true, false_imp_iff, true_imp_iff, i_10, i_01, i_m10, i_m11, eq_self, or_self, false_and, and_false, and_self, am_so_some, am_pv_some, am_pv_none, l_cl_none, l_cl_int, l_cl_ref, l_cl_ra, l_cl_null, l_cl_long, cat_int, cat_ref, cat_long, cat_ra, cat_null, cl_0, cl_1, cl_2, cl_3, cl_4, cl_5, cl_6, cl_7, cl_8, cl_9, cl_10, cl_11, cl_12, cl_13, cl_14, cl_15, cl_16, cl_30, cl_64, cl_500, vl_0_2, vl_0_3, vl_0_4, vl_0_6, vl_0_7, vl_0_12, vl_0_16, vl_0_1400, vl_1_2, vl_1_3, vl_1_4, vl_1_6, vl_1_7, vl_1_12, vl_1_16, vl_1_1400, vl_2_3, vl_2_4, vl_2_6, vl_2_7, vl_2_12, vl_2_16, vl_2_1400, vl_3_4, vl_3_6, vl_3_7, vl_3_12, vl_3_16, vl_3_1400, vl_4_6, vl_4_7, vl_4_12, vl_4_16, vl_4_1400, vl_5_6, vl_5_7, vl_5_12, vl_5_16, vl_5_1400, vl_6_7, vl_6_12, vl_6_16, vl_6_1400, vl_7_12, vl_7_16, vl_8_12, vl_8_16, vl_9_12, vl_9_16, vl_10_12, vl_10_16, vl_11_12, vl_11_16, i_64le_e, i64a_0, i64b_0, i64a_1, i64b_1, i64a_2, i64b_2, i64a_3, i64b_3, i64a_4, i64b_4, i64a_5, i64b_5, i64a_7, i64b_7, i64a_8, i64b_8, i64a_9, i64b_9, i64a_10, i64b_10, i64a_16, i64b_16, i64a_50, i64b_50, i64a_m50, i64b_m50, i64a_60, i64b_60, i64a_99, i64b_99, i64a_100, i64b_100, i64a_500, i64b_500, i64a_600, i64b_600, i64a_1000, i64b_1000, i64a_1000000, i64b_1000000, i64a_m9, i64b_m9, e_s_31, e_i_31, e_l_31, e_p_31_0, e_p_31_1, e_p_31_2, e_p_31_3, e_p_31_4, e_p_31_5, e_p_31_6, e_s_33, e_i_33, e_l_33, e_s_51, e_i_51, e_l_51, e_p_51_0, e_p_51_1, e_p_51_2, e_p_51_3, e_p_51_4, e_s_54, e_i_54, e_l_54, e_p_54_0, e_p_54_1, e_p_54_2, e_p_54_3, e_p_54_4, e_p_54_5, e_p_54_6, e_p_54_7, e_s_55, e_i_55, e_l_55, e_s_56, e_i_56, e_l_56, e_s_57, e_i_57, e_l_57, e_s_58, e_i_58, e_l_58, e_s_59, e_i_59, e_l_59, e_s_60, e_i_60, e_l_60, a1, hE]
    by_cases c0 : i < l.length
    · have a2 := hc.w i (by rw [List.length_map]; exact c0)
      rw [getD_map (b := 0) c0] at a2
      have b16 := hn (l.getD i 0) (by rw [List.getD_eq_getElem?_getD, List.getElem?_eq_getElem c0]; exact List.getElem_mem c0)
      have a3 : M 33 (l.getD i 0) = V 80 (l.getD i 0) := hC.lab.ho _ b16
      have e1 : (1 : Int32) <<< (nI (l.getD i 0) &&& 31) = nI (2 ^ l.getD i 0) := (nI_shl (a := 1) (by omega)).trans (by rw [Nat.one_mul])
      have ih := ih c0
      rw [filter_snoc c0] at ih
      simp (disch := omega) only [Nat.not_le.mpr, c0, a2, a3, e1, nI_or, nI_clamp, nI_le', nI_lt', nI_eq', rem2_1, rem2_0, nI_eq0, nI_le0, nI_0lt, nI_0le, nI_lt0, nI_m1, vp_inE, nm_nI, i_20, nI_1, nI_add, and_true, true_and, and_self, or_true, true_or, or_false, false_or, false_and, and_false, not_true_eq_false, not_false_eq_true, if_true, if_false, ite_true, ite_false, false_imp_iff, true_imp_iff, rsn_00, rsn_10, rsn_01, rsn_11, n_09, n_19, n_29, n_99, implies_true, bI_t, bI_f, or_self, ne_eq, eq_self, Classical.not_not, Bool.false_eq_true]
      refine ⟨fun z => ?_, fun z => ?_⟩
      · rw [if_neg (by rw [decide_eq_true_eq]; exact z)] at ih; exact ih
      · rw [if_pos (by rw [decide_eq_true_eq]; exact z), orL_snoc] at ih; exact ih
    · have e : i = l.length := by omega
      subst e
      simp (disch := omega) only [Nat.le_refl, nI_clamp, nI_le', nI_lt', nI_eq', rem2_1, rem2_0, nI_eq0, nI_le0, nI_0lt, nI_0le, nI_lt0, nI_m1, vp_inE, nm_nI, i_20, nI_1, nI_add, and_true, true_and, and_self, or_true, true_or, or_false, false_or, false_and, and_false, not_true_eq_false, not_false_eq_true, if_true, if_false, ite_true, ite_false, false_imp_iff, true_imp_iff, rsn_00, rsn_10, rsn_01, rsn_11, n_09, n_19, n_29, n_99, implies_true, bI_t, bI_f, or_self, ne_eq, eq_self, Classical.not_not, Bool.false_eq_true]
      rw [List.take_length]
      exact k
  exact loop 0 (by omega)
theorem c_Odds_sumOf {w : Int32} {l : List Nat} (hE : am_env S) (hc : CtC V M l) (hl : l.length ≤ 16) (k : K (some (.int (smL ((l.filter (xC w)).map (difI V))))) S M L) : am_Call X d m_Odds_sumOf [.ref 54, .int w] S M L K := by
  have a1 := hc.n
  refine EE_Odds_sumOf pt32_ok ?_
  simp only [s_aload_0_ref, s_get0, s_get2, s_goto, s_iadd, s_iald, s_iand, s_ic_ge, s_iconst, s_if_eq, s_iinc_3, s_iload_1_int, s_iload_2_int, s_iload_3_int, s_ireturn, s_ishr, s_istore_2_int, s_istore_3_int, J_Odds_sumOf_0, b_Odds_sumOf_0, J_Odds_sumOf_34, b_Odds_sumOf_34, J_Odds_sumOf_40, b_Odds_sumOf_40, J_Odds_sumOf_4, b_Odds_sumOf_4, s_end, true_and, and_true, or_true, true_or, if_true, if_false, ite_true, ite_false, List.map_nil, List.map_cons, List.sum_nil, List.sum_cons, List.nil_append, List.cons_append, Option.toList_some, Option.toList_none, Nat.reduceAdd, Nat.reduceLeDiff, Nat.reduceSub, Nat.zero_le, List.headD_cons, List.tail_cons, List.length_cons, List.length_nil, ne_eq, reduceCtorEq, false_or, or_false, not_false_eq_true, Nat.reduceEqDiff, Nat.reduceLT, am_sw, bI_0, bI_z, bI_y, Classical.not_not, Nat.le_add_left, am_u_row2, am_r_row2, am_u_same, am_u_at, am_r_same, Int32.reduceLT, Int32.reduceLE, Int32.reduceAdd, Int32.reduceSub, Int32.reduceMul, forall_const, not_true_eq_false, implies_true, false_imp_iff, true_imp_iff, i_10, i_01, i_m10, i_m11, eq_self, or_self, false_and, and_false, and_self, am_so_some, am_pv_some, am_pv_none, l_cl_none, l_cl_int, l_cl_ref, l_cl_ra, l_cl_null, l_cl_long, cat_int, cat_ref, cat_long, cat_ra, cat_null, cl_0, cl_1, cl_2, cl_3, cl_4, cl_5, cl_6, cl_7, cl_8, cl_9, cl_10, cl_11, cl_12, cl_13, cl_14, cl_15, cl_16, cl_30, cl_64, cl_500, vl_0_2, vl_0_3, vl_0_4, vl_0_6, vl_0_7, vl_0_12, vl_0_16, vl_0_1400, vl_1_2, vl_1_3, vl_1_4, vl_1_6, vl_1_7, vl_1_12, vl_1_16, vl_1_1400, vl_2_3, vl_2_4, vl_2_6, vl_2_7, vl_2_12, vl_2_16, vl_2_1400, vl_3_4, vl_3_6, vl_3_7, vl_3_12, vl_3_16, vl_3_1400, vl_4_6, vl_4_7, vl_4_12, vl_4_16, vl_4_1400, vl_5_6, vl_5_7, vl_5_12, vl_5_16, vl_5_1400, vl_6_7, vl_6_12, vl_6_16, vl_6_1400, vl_7_12, vl_7_16, vl_8_12, vl_8_16, vl_9_12, vl_9_16, vl_10_12, vl_10_16, vl_11_12, vl_11_16, i_64le_e, i64a_0, i64b_0, i64a_1, i64b_1, i64a_2, i64b_2, i64a_3, i64b_3, i64a_4, i64b_4, i64a_5, i64b_5, i64a_7, i64b_7, i64a_8, i64b_8, i64a_9, i64b_9, i64a_10, i64b_10, i64a_16, i64b_16, i64a_50, i64b_50, i64a_m50, i64b_m50, i64a_60, i64b_60, i64a_99, i64b_99, i64a_100, i64b_100, i64a_500, i64b_500, i64a_600, i64b_600, i64a_1000, i64b_1000, i64a_1000000, i64b_1000000, i64a_m9, i64b_m9, e_s_31, e_i_31, e_l_31, e_p_31_0, e_p_31_1, e_p_31_2, e_p_31_3, e_p_31_4, e_p_31_5, e_p_31_6, e_s_51, e_i_51, e_l_51, e_p_51_0, e_p_51_1, e_p_51_2, e_p_51_3, e_p_51_4, e_s_54, e_i_54, e_l_54, e_p_54_0, e_p_54_1, e_p_54_2, e_p_54_3, e_p_54_4, e_p_54_5, e_p_54_6, e_p_54_7, e_s_55, e_i_55, e_l_55, e_s_56, e_i_56, e_l_56, e_s_57, e_i_57, e_l_57, e_s_58, e_i_58, e_l_58, e_s_59, e_i_59, e_l_59, e_s_60, e_i_60, e_l_60, hE]
  have loop : ∀ i, i ≤ l.length → am_WP X d 46 4 [some (.ref 54), some (.int (w)), some (.int (smL (((l.take i).filter (xC w)).map (difI V)))), some (.int (nI i))] [] S (M) (L) 0 0 K := by
    refine am_ind ?_
    intro i hi ih
    refine H_Odds_sumOf_4 pt32_ok ?_
    simp only [s_aload_0_ref, s_get0, s_get2, s_goto, s_iadd, s_iald, s_iand, s_ic_ge, s_iconst, s_if_eq, s_iinc_3, s_iload_1_int, s_iload_2_int, s_iload_3_int, s_ireturn, s_ishr, s_istore_2_int, s_istore_3_int, J_Odds_sumOf_0, b_Odds_sumOf_0, J_Odds_sumOf_34, b_Odds_sumOf_34, J_Odds_sumOf_40, b_Odds_sumOf_40, J_Odds_sumOf_4, b_Odds_sumOf_4, s_end, true_and, and_true, or_true, true_or, if_true, if_false, ite_true, ite_false, List.map_nil, List.map_cons, List.sum_nil, List.sum_cons, List.nil_append, List.cons_append, Option.toList_some, Option.toList_none, Nat.reduceAdd, Nat.reduceLeDiff, Nat.reduceSub, Nat.zero_le, List.headD_cons, List.tail_cons, List.length_cons, List.length_nil, ne_eq, reduceCtorEq, false_or, or_false, not_false_eq_true, Nat.reduceEqDiff, Nat.reduceLT, am_sw, bI_0, bI_z, bI_y, Classical.not_not, Nat.le_add_left, am_u_row2, am_r_row2, am_u_same, am_u_at, am_r_same, Int32.reduceLT, Int32.reduceLE, Int32.reduceAdd, Int32.reduceSub, Int32.reduceMul, forall_const, not_true_eq_false, implies_true, false_imp_iff, true_imp_iff, i_10, i_01, i_m10, i_m11, eq_self, or_self, false_and, and_false, and_self, am_so_some, am_pv_some, am_pv_none, l_cl_none, l_cl_int, l_cl_ref, l_cl_ra, l_cl_null, l_cl_long, cat_int, cat_ref, cat_long, cat_ra, cat_null, cl_0, cl_1, cl_2, cl_3, cl_4, cl_5, cl_6, cl_7, cl_8, cl_9, cl_10, cl_11, cl_12, cl_13, cl_14, cl_15, cl_16, cl_30, cl_64, cl_500, vl_0_2, vl_0_3, vl_0_4, vl_0_6, vl_0_7, vl_0_12, vl_0_16, vl_0_1400, vl_1_2, vl_1_3, vl_1_4, vl_1_6, vl_1_7, vl_1_12, vl_1_16, vl_1_1400, vl_2_3, vl_2_4, vl_2_6, vl_2_7, vl_2_12, vl_2_16, vl_2_1400, vl_3_4, vl_3_6, vl_3_7, vl_3_12, vl_3_16, vl_3_1400, vl_4_6, vl_4_7, vl_4_12, vl_4_16, vl_4_1400, vl_5_6, vl_5_7, vl_5_12, vl_5_16, vl_5_1400, vl_6_7, vl_6_12, vl_6_16, vl_6_1400, vl_7_12, vl_7_16, vl_8_12, vl_8_16, vl_9_12, vl_9_16, vl_10_12, vl_10_16, vl_11_12, vl_11_16, i_64le_e, i64a_0, i64b_0, i64a_1, i64b_1, i64a_2, i64b_2, i64a_3, i64b_3, i64a_4, i64b_4, i64a_5, i64b_5, i64a_7, i64b_7, i64a_8, i64b_8, i64a_9, i64b_9, i64a_10, i64b_10, i64a_16, i64b_16, i64a_50, i64b_50, i64a_m50, i64b_m50, i64a_60, i64b_60, i64a_99, i64b_99, i64a_100, i64b_100, i64a_500, i64b_500, i64a_600, i64b_600, i64a_1000, i64b_1000, i64a_1000000, i64b_1000000, i64a_m9, i64b_m9, e_s_31, e_i_31, e_l_31, e_p_31_0, e_p_31_1, e_p_31_2, e_p_31_3, e_p_31_4, e_p_31_5, e_p_31_6, e_s_51, e_i_51, e_l_51, e_p_51_0, e_p_51_1, e_p_51_2, e_p_51_3, e_p_51_4, e_s_54, e_i_54, e_l_54, e_p_54_0, e_p_54_1, e_p_54_2, e_p_54_3, e_p_54_4, e_p_54_5, e_p_54_6, e_p_54_7, e_s_55, e_i_55, e_l_55, e_s_56, e_i_56, e_l_56, e_s_57, e_i_57, e_l_57, e_s_58, e_i_58, e_l_58, e_s_59, e_i_59, e_l_59, e_s_60, e_i_60, e_l_60, a1, hE]
    by_cases c0 : i < l.length
    · have a2 := hc.w i (by rw [List.length_map]; exact c0)
      have a3 := hc.p i (by rw [List.length_map]; exact c0)
      rw [getD_map (b := 0) c0] at a2 a3
      have ih := ih c0
      rw [filter_snoc c0] at ih
      simp (disch := omega) only [Nat.not_le.mpr, c0, a2, a3, nI_clamp, nI_le', nI_lt', nI_eq', rem2_1, rem2_0, nI_eq0, nI_le0, nI_0lt, nI_0le, nI_lt0, nI_m1, vp_inE, nm_nI, i_20, nI_1, nI_add, and_true, true_and, and_self, or_true, true_or, or_false, false_or, false_and, and_false, not_true_eq_false, not_false_eq_true, if_true, if_false, ite_true, ite_false, false_imp_iff, true_imp_iff, rsn_00, rsn_10, rsn_01, rsn_11, n_09, n_19, n_29, n_99, implies_true, bI_t, bI_f, or_self, ne_eq, eq_self, Classical.not_not, Bool.false_eq_true]
      refine ⟨fun z => ?_, fun z => ?_⟩
      · rw [if_neg (by unfold xC; rw [decide_eq_true_eq]; exact not_not_intro z)] at ih; exact ih
      · rw [if_pos (by unfold xC; rw [decide_eq_true_eq]; exact z), List.map_append, List.map_singleton, smL_snoc] at ih; exact ih
    · have e : i = l.length := by omega
      subst e
      simp (disch := omega) only [Nat.le_refl, nI_clamp, nI_le', nI_lt', nI_eq', rem2_1, rem2_0, nI_eq0, nI_le0, nI_0lt, nI_0le, nI_lt0, nI_m1, vp_inE, nm_nI, i_20, nI_1, nI_add, and_true, true_and, and_self, or_true, true_or, or_false, false_or, false_and, and_false, not_true_eq_false, not_false_eq_true, if_true, if_false, ite_true, ite_false, false_imp_iff, true_imp_iff, rsn_00, rsn_10, rsn_01, rsn_11, n_09, n_19, n_29, n_99, implies_true, bI_t, bI_f, or_self, ne_eq, eq_self, Classical.not_not, Bool.false_eq_true]
      rw [List.take_length]
      exact k
  exact loop 0 (by omega)
end T45
