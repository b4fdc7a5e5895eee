section T42
variable {X : am_X} {d : Nat} {K : am_K} {S : am_S} {M : am_M} {L : am_L} {V : am_M}
theorem rdI_in (hI : IV V) (b t : Nat) : rdI V b t = -1 ∨ ∃ n, n ≤ 60000 ∧ rdI V b t = nI n := by
  unfold rdI
  rcases lenI_in hI b t with h | ⟨n, hn, h⟩
  · rw [if_pos h]; exact Or.inl rfl
  · rw [if_neg (by rw [h]; exact i_nI_ne_m1 (by omega)), h]
    right
    by_cases h1 : V 70 22 = 1
    · rw [if_pos h1]
      have c := hI.cp
      by_cases h2 : nI n < V 70 23
      · rw [if_pos h2]; exact ⟨n, by omega, rfl⟩
      · rw [if_neg h2]; exact ⟨_, by omega, c.1⟩
    rw [if_neg h1]
    by_cases h2 : V 70 22 = 2
    · rw [if_pos h2]
      have dl : ∀ f m, dgF f m ≤ f := by
        intro f
        induction f with
        | zero => intro m; exact Nat.le_refl _
        | succ f ih =>
          intro m
          show (if m = 0 then 0 else dgF f (m / 2) + 1) ≤ f + 1
          by_cases c : m = 0
          · rw [if_pos c]; omega
          · rw [if_neg c]; have := ih (m / 2); omega
      refine ⟨10 * dg (nm (nI n)), ?_, nI_mul 10 _⟩
      have : dg (nm (nI n)) ≤ 10 := dl 10 _
      omega
    rw [if_neg h2]
    by_cases h3 : V 70 22 = 3
    · rw [if_pos h3]
      by_cases h4 : lonI V b (tN V b) = 0
      · rw [if_pos h4]; exact ⟨0, by omega, rfl⟩
      · rw [if_neg h4]
        obtain ⟨m, hm, e⟩ := lonI_in hI b (tN V b)
        rw [e, show (100 : Int32) = nI 100 from rfl, nI_mul, nI_div (by omega) (by omega)]
        exact ⟨100 * n / m, Nat.le_trans (Nat.div_le_self _ _) (by omega), rfl⟩
    · rw [if_neg h3]; exact ⟨n, by omega, rfl⟩
theorem dA_in (hI : IV V) (b : Nat) : ∀ i, (∃ n, n ≤ 60000 * i ∧ dA V b i = nI n) ∧ (∃ n, n ≤ i ∧ dm V b i = nI n) ∧ (∃ n, n ≤ 60000 * i ∧ dC V b i = nI n) ∧ (∃ n, n ≤ i ∧ dn V b i = nI n) := by
  intro i
  induction i with
  | zero => exact ⟨⟨0, by omega, rfl⟩, ⟨0, by omega, rfl⟩, ⟨0, by omega, rfl⟩, ⟨0, by omega, rfl⟩⟩
  | succ i ih =>
    obtain ⟨⟨a, a1, a2⟩, ⟨m, m1, m2⟩, ⟨c, c1, c2⟩, ⟨n, n1, n2⟩⟩ := ih
    unfold dA dm dC dn
    rw [a2, m2, c2, n2]
    rcases rdI_in hI b i with h | ⟨r, hr, h⟩
    · simp only [if_pos h]
      exact ⟨⟨a, by omega, rfl⟩, ⟨m, by omega, rfl⟩, ⟨c, by omega, rfl⟩, ⟨n, by omega, rfl⟩⟩
    · have h2 : ¬ rdI V b i = -1 := by rw [h]; exact i_nI_ne_m1 (by omega)
      simp only [if_neg h2]
      by_cases o : oddV V (scN V b i)
      · simp only [if_pos o, h, nI_add]
        exact ⟨⟨a + r, by omega, rfl⟩, ⟨m + 1, by omega, (nI_succ m).symm⟩, ⟨c, by omega, rfl⟩, ⟨n, by omega, rfl⟩⟩
      · simp only [if_neg o, h, nI_add]
        exact ⟨⟨a, by omega, rfl⟩, ⟨m, by omega, rfl⟩, ⟨c + r, by omega, rfl⟩, ⟨n + 1, by omega, (nI_succ n).symm⟩⟩
theorem difI_in (hI : IV V) {b : Nat} (hb : b < nB V) : difI V b = -2147483648 ∨ (-3840000 ≤ (difI V b).toInt ∧ (difI V b).toInt ≤ 3840000) := by
  obtain ⟨p1, p2, p3, p4, p5, p6⟩ := hI.tn hb
  obtain ⟨⟨a, a1, a2⟩, ⟨m, m1, m2⟩, ⟨c, c1, c2⟩, ⟨n, n1, n2⟩⟩ := dA_in hI b (tN V b)
  unfold difI
  by_cases h : dm V b (tN V b) = 0 ∨ dn V b (tN V b) = 0
  · rw [if_pos h]; exact Or.inl rfl
  · rw [if_neg h, a2, m2, c2, n2, nI_mul, nI_mul]
    right
    have x1 : a * n ≤ 3840000 := Nat.le_trans (Nat.mul_le_mul (show a ≤ 480000 by omega) (show n ≤ 8 by omega)) (by decide)
    have x2 : c * m ≤ 3840000 := Nat.le_trans (Nat.mul_le_mul (show c ≤ 480000 by omega) (show m ≤ 8 by omega)) (by decide)
    generalize a * n = x at *
    generalize c * m = y at *
    rw [i_sub (by rw [nI_toInt (by omega), nI_toInt (by omega)]; omega) (by rw [nI_toInt (by omega), nI_toInt (by omega)]; omega), nI_toInt (by omega), nI_toInt (by omega)]
    omega
/-- who is counted -/
def ctP (V : am_M) (b : Nat) : Bool := decide (¬ V 83 b = 1 ∧ ¬ difI V b = -2147483648 ∧ outI V b = -1)
def ctL (V : am_M) (x : Nat → Bool) (n : Nat) : List Nat := (List.range n).filter (fun b => !(x b) && ctP V b)
theorem ctL_yes {x : Nat → Bool} {n : Nat} (h1 : x n = false) (h2 : ctP V n = true) : ctL V x (n + 1) = ctL V x n ++ [n] := by
  unfold ctL
  rw [List.range_succ, List.filter_append, List.filter_cons_of_pos (by rw [h1, h2]; rfl), List.filter_nil]
theorem ctL_no {x : Nat → Bool} {n : Nat} (h : x n = true ∨ ctP V n = false) : ctL V x (n + 1) = ctL V x n := by
  unfold ctL
  rw [List.range_succ, List.filter_append, List.filter_cons_of_neg, List.filter_nil, List.append_nil]
  rcases h with h | h
  · rw [h]; simp
  · rw [h]; simp
theorem ctL_mem {x : Nat → Bool} {n b : Nat} (h : b ∈ ctL V x n) : b < n ∧ x b = false ∧ ctP V b = true := by
  unfold ctL at h
  obtain ⟨h1, h2⟩ := List.mem_filter.mp h
  rw [Bool.and_eq_true, Bool.not_eq_true'] at h2
  exact ⟨List.mem_range.mp h1, h2.1, h2.2⟩
theorem ctL_len {x : Nat → Bool} {n : Nat} : (ctL V x n).length ≤ n := by
  have := List.length_filter_le (fun b => !(x b) && ctP V b) (List.range n)
  rw [List.length_range] at this
  exact this
def Arr (f : Nat → Int32) (l : List Int32) : Prop := ∀ i, i < l.length → f i = l.getD i 0
theorem Arr.snoc {M : am_M} {c : Nat} {l : List Int32} {x : Int32} {n : Nat} (h : Arr (M c) l) (hn : n = l.length) : Arr (am_u M c n x c) (l ++ [x]) := by
  intro i hi
  rw [List.length_append, List.length_singleton] at hi
  rw [hn]
  by_cases e : i = l.length
  · subst e
    rw [am_u_same, List.getD_eq_getElem?_getD, List.getElem?_append_right (Nat.le_refl _), Nat.sub_self]; rfl
  · rw [am_u_ne (fun q => e q.2), h i (by omega), List.getD_eq_getElem?_getD, List.getD_eq_getElem?_getD, List.getElem?_append_left (by omega)]
def smL (l : List Int32) : Int32 := l.foldl (fun a b => a + b) 0
theorem smL_snoc (l : List Int32) (x : Int32) : smL (l ++ [x]) = smL l + x := by unfold smL; rw [List.foldl_append]; rfl
def dZ (V : am_M) (l : List Nat) : List Int := l.map (fun b => (difI V b).toInt)
def CtR (V M : am_M) (l : List Nat) : Prop := (M 70 47 = nI l.length) ∧ (M 70 48 = smL (l.map (difI V))) ∧ (M 70 49 = nI (csI (dZ V l))) ∧ (Arr (M 106) (l.map nI)) ∧ (Arr (M 107) (l.map (difI V)))
theorem CtR.n {V M : am_M} {l : List Nat} (h : CtR V M l) : M 70 47 = nI l.length := h.1
theorem CtR.s {V M : am_M} {l : List Nat} (h : CtR V M l) : M 70 48 = smL (l.map (difI V)) := h.2.1
theorem CtR.o {V M : am_M} {l : List Nat} (h : CtR V M l) : M 70 49 = nI (csI (dZ V l)) := h.2.2.1
theorem CtR.w {V M : am_M} {l : List Nat} (h : CtR V M l) : Arr (M 106) (l.map nI) := h.2.2.2.1
theorem CtR.p {V M : am_M} {l : List Nat} (h : CtR V M l) : Arr (M 107) (l.map (difI V)) := h.2.2.2.2
def xR (V : am_M) (w h : Int32) (b : Nat) : Bool := decide ((w >>> (nI b &&& 31)) &&& 1 = 1 ∨ V 80 b = h)
theorem getD_map {α β : Type} {f : α → β} {l : List α} {i : Nat} {a : β} {b : α} (h : i < l.length) : (l.map f).getD i a = f (l.getD i b) := by
  rw [List.getD_eq_getElem?_getD, List.getD_eq_getElem?_getD, List.getElem?_map, List.getElem?_eq_getElem h]
  rfl
theorem c_R_counts {w h : Int32} (hE : am_env S) (hR : RS V M) (hI : IV V) (hP : IVp V) (k : ∀ M', Fr [100, 101, 106, 107, 108] [(70, 47), (70, 48), (70, 49)] M M' → CtR V M' (ctL V (xR V w h) (nB V)) → K none S M' L) : am_Call X (d + 5) m_R_counts [.ref 70, .int w, .int h] S M L K := by
  have n16 := hI.nb.2
  refine EE_R_counts pt32_ok ?_
  simp only [s_aload_0_ref, s_dup_int, s_dup_ref, s_get0, s_get2, s_goto, s_iadd, s_iald, s_iand, s_iast, s_ic_eq, s_ic_ge, s_ic_ne, s_iconst, s_if_gt, s_if_ne, s_iinc_3, s_iload_1_int, s_iload_2_int, s_iload_3_int, s_iload_4_int, s_ishl, s_ishr, s_ist_1, s_istore_3_int, s_istore_4_int, s_isub, s_iv_1, s_ldc, s_put0, s_return, J_R_counts_0, b_R_counts_0, J_R_counts_52, b_R_counts_52, J_R_counts_78, b_R_counts_78, J_R_counts_120, b_R_counts_120, J_R_counts_126, b_R_counts_126, J_R_counts_156, b_R_counts_156, J_R_counts_176, b_R_counts_176, J_R_counts_195, b_R_counts_195, J_R_counts_196, b_R_counts_196, J_R_counts_206, b_R_counts_206, J_R_counts_12, b_R_counts_12, J_R_counts_133, b_R_counts_133, s_end, true_and, and_true, or_true, true_or, if_true, if_false, ite_true, ite_false, List.map_nil, List.map_cons, List.sum_nil, List.sum_cons, List.nil_append, List.cons_append, Option.toList_some, Option.toList_none, Nat.reduceAdd, Nat.reduceLeDiff, Nat.reduceSub, Nat.zero_le, List.headD_cons, List.tail_cons, List.length_cons, List.length_nil, ne_eq, reduceCtorEq, false_or, or_false, not_false_eq_true, Nat.reduceEqDiff, Nat.reduceLT, am_sw, bI_0, bI_z, bI_y, Classical.not_not, Nat.le_add_left, am_u_row2, am_r_row2, am_u_same, am_u_at, am_r_same, Int32.reduceLT, Int32.reduceLE, Int32.reduceAdd, Int32.reduceSub, Int32.reduceMul, forall_const, not_true_eq_false, implies_true, false_imp_iff, true_imp_iff, i_10, i_01, i_m10, i_m11, eq_self, or_self, false_and, and_false, and_self, am_so_some, am_pv_some, am_pv_none, l_cl_none, l_cl_int, l_cl_ref, l_cl_ra, l_cl_null, l_cl_long, cat_int, cat_ref, cat_long, cat_ra, cat_null, cl_0, cl_1, cl_2, cl_3, cl_4, cl_5, cl_6, cl_7, cl_8, cl_9, cl_10, cl_11, cl_12, cl_13, cl_14, cl_15, cl_16, cl_30, cl_64, cl_500, vl_0_2, vl_0_3, vl_0_4, vl_0_6, vl_0_7, vl_0_12, vl_0_16, vl_0_1400, vl_1_2, vl_1_3, vl_1_4, vl_1_6, vl_1_7, vl_1_12, vl_1_16, vl_1_1400, vl_2_3, vl_2_4, vl_2_6, vl_2_7, vl_2_12, vl_2_16, vl_2_1400, vl_3_4, vl_3_6, vl_3_7, vl_3_12, vl_3_16, vl_3_1400, vl_4_6, vl_4_7, vl_4_12, vl_4_16, vl_4_1400, vl_5_6, vl_5_7, vl_5_12, vl_5_16, vl_5_1400, vl_6_7, vl_6_12, vl_6_16, vl_6_1400, vl_7_12, vl_7_16, vl_8_12, vl_8_16, vl_9_12, vl_9_16, vl_10_12, vl_10_16, vl_11_12, vl_11_16, i_64le_e, i64a_0, i64b_0, i64a_1, i64b_1, i64a_2, i64b_2, i64a_3, i64b_3, i64a_4, i64b_4, i64a_5, i64b_5, i64a_7, i64b_7, i64a_8, i64b_8, i64a_9, i64b_9, i64a_10, i64b_10, i64a_16, i64b_16, i64a_50, i64b_50, i64a_m50, i64b_m50, i64a_60, i64b_60, i64a_99, i64b_99, i64a_100, i64b_100, i64a_500, i64b_500, i64a_600, i64b_600, i64a_1000, i64b_1000, i64a_1000000, i64b_1000000, i64a_m9, i64b_m9, e_s_70, e_i_70, e_l_70, e_p_70_0, e_p_70_1, e_p_70_2, e_p_70_3, e_p_70_4, e_p_70_5, e_p_70_6, e_p_70_7, e_p_70_10, e_p_70_11, e_p_70_12, e_p_70_13, e_p_70_14, e_p_70_15, e_p_70_16, e_p_70_24, e_p_70_29, e_p_70_30, e_p_70_31, e_p_70_32, e_p_70_33, e_p_70_34, e_p_70_35, e_p_70_36, e_p_70_37, e_p_70_38, e_p_70_39, e_p_70_41, e_p_70_42, e_p_70_44, e_p_70_45, e_p_70_46, e_p_70_53, e_p_70_54, e_p_70_55, e_p_70_56, e_p_70_59, e_p_70_61, e_p_70_62, e_s_80, e_i_80, e_l_80, e_s_83, e_i_83, e_l_83, e_s_106, e_i_106, e_l_106, e_s_107, e_i_107, e_l_107, e_s_108, e_i_108, e_l_108, hE]
  have len : (ctL V (xR V w h) (nB V)).length ≤ 16 := Nat.le_trans ctL_len n16
  have loop2 : ∀ M1, Fr [100, 101, 106, 107, 108] [(70, 47), (70, 48), (70, 49)] M M1 → M1 70 47 = nI (ctL V (xR V w h) (nB V)).length → M1 70 48 = smL ((ctL V (xR V w h) (nB V)).map (difI V)) → Arr (M1 106) ((ctL V (xR V w h) (nB V)).map nI) → Arr (M1 107) ((ctL V (xR V w h) (nB V)).map (difI V)) → ∀ v4, ∀ i, i ≤ 2 ^ (ctL V (xR V w h) (nB V)).length → ∀ M2, Fr [108] [(70, 49)] M1 M2 → M2 70 49 = nI (sumN (fun g => if tL (dZ V (ctL V (xR V w h) (nB V))) g ≤ 0 then 1 else 0) i) → (∀ g, g < i → (M2 108 g).toInt = tL (dZ V (ctL V (xR V w h) (nB V))) g) → am_WP X (d + 5) 218 133 [some (.ref 70), some (.int (w)), some (.int (h)), some (.int (nI i)), v4] [] S (M2) (L) 0 0 K := by
    have bd : ∀ x ∈ dZ V (ctL V (xR V w h) (nB V)), -3840000 ≤ x ∧ x ≤ 3840000 := by
      intro x hx
      obtain ⟨b, hb, rfl⟩ := List.mem_map.mp hx
      obtain ⟨b1, b2, b3⟩ := ctL_mem hb
      have q := of_decide_eq_true b3
      rcases difI_in hI b1 with e | e
      · exact absurd e q.2.1
      · exact e
    generalize hl : ctL V (xR V w h) (nB V) = l at *
    intro M1 f1 a47 a48 a106 a107 v4
    have p16 : 2 ^ l.length ≤ 65536 := Nat.pow_le_pow_right (n := 2) (j := 16) (by decide) len
    have lz : (dZ V l).length = l.length := List.length_map _
    have tb := tL_bd (by decide) (dZ V l) bd
    have gb : ∀ i, i < l.length → (M1 107 i).toInt = (dZ V l).getD i 0 ∧ -3840000 ≤ (M1 107 i).toInt ∧ (M1 107 i).toInt ≤ 3840000 := by
      intro i hi
      have e1 := a107 i (by rw [List.length_map]; exact hi)
      rw [getD_map (b := 0) hi] at e1
      have e2 : (dZ V l).getD i 0 = (difI V (l.getD i 0)).toInt := getD_map (b := 0) hi
      have e3 := bd (difI V (l.getD i 0)).toInt (List.mem_map.mpr ⟨l.getD i 0, by rw [List.getD_eq_getElem?_getD, List.getElem?_eq_getElem hi]; exact List.getElem_mem hi, rfl⟩)
      rw [e1, e2]
      exact ⟨rfl, e3⟩
    refine am_ind ?_
    intro i hi ih M2 f2 a49 at2
    have b47 : M2 70 47 = nI l.length := by rw [f2 70 47 (by decide) (by decide)]; exact a47
    have b107 : M2 107 = M1 107 := f2.row 107 (by decide) (by decide)
    have e1 : (1 : Int32) <<< (nI l.length &&& 31) = nI (2 ^ l.length) := (nI_shl (a := 1) (by omega)).trans (by rw [Nat.one_mul])
    have sle : sumN (fun g => if tL (dZ V l) g ≤ 0 then 1 else 0) i ≤ i := by
      clear ih at2 a49 hi
      induction i with
      | zero => exact Nat.le_refl _
      | succ i ih =>
        show sumN _ i + (if tL (dZ V l) i ≤ 0 then 1 else 0) ≤ i + 1
        by_cases q : tL (dZ V l) i ≤ 0
        · rw [if_pos q]; omega
        · rw [if_neg q]; omega
    refine H_R_counts_133 pt32_ok ?_
    simp only [s_aload_0_ref, s_dup_int, s_dup_ref, s_get0, s_get2, s_goto, s_iadd, s_iald, s_iand, s_iast, s_ic_eq, s_ic_ge, s_ic_ne, s_iconst, s_if_gt, s_if_ne, s_iinc_3, s_iload_1_int, s_iload_2_int, s_iload_3_int, s_iload_4_int, s_ishl, s_ishr, s_ist_1, s_istore_3_int, s_istore_4_int, s_isub, s_iv_1, s_ldc, s_put0, s_return, J_R_counts_0, b_R_counts_0, J_R_counts_52, b_R_counts_52, J_R_counts_78, b_R_counts_78, J_R_counts_120, b_R_counts_120, J_R_counts_126, b_R_counts_126, J_R_counts_156, b_R_counts_156, J_R_counts_176, b_R_counts_176, J_R_counts_195, b_R_counts_195, J_R_counts_196, b_R_counts_196, J_R_counts_206, b_R_counts_206, J_R_counts_12, b_R_counts_12, J_R_counts_133, b_R_counts_133, s_end, true_and, and_true, or_true, true_or, if_true, if_false, ite_true, ite_false, List.map_nil, List.map_cons, List.sum_nil, List.sum_cons, List.nil_append, List.cons_append, Option.toList_some, Option.toList_none, Nat.reduceAdd, Nat.reduceLeDiff, Nat.reduceSub, Nat.zero_le, List.headD_cons, List.tail_cons, List.length_cons, List.length_nil, ne_eq, reduceCtorEq, false_or, or_false, not_false_eq_true, Nat.reduceEqDiff, Nat.reduceLT, am_sw, bI_0, bI_z, bI_y, Classical.not_not, Nat.le_add_left, am_u_row2, am_r_row2, am_u_same, am_u_at, am_r_same, Int32.reduceLT, Int32.reduceLE, Int32.reduceAdd, Int32.reduceSub, Int32.reduceMul, forall_const, not_true_eq_false, implies_true, false_imp_iff, true_imp_iff, i_10, i_01, i_m10, i_m11, eq_self, or_self, false_and, and_false, and_self, am_so_some, am_pv_some, am_pv_none, l_cl_none, l_cl_int, l_cl_ref, l_cl_ra, l_cl_null, l_cl_long, cat_int, cat_ref, cat_long, cat_ra, cat_null, cl_0, cl_1, cl_2, cl_3, cl_4, cl_5, cl_6, cl_7, cl_8, cl_9, cl_10, cl_11, cl_12, cl_13, cl_14, cl_15, cl_16, cl_30, cl_64, cl_500, vl_0_2, vl_0_3, vl_0_4, vl_0_6, vl_0_7, vl_0_12, vl_0_16, vl_0_1400, vl_1_2, vl_1_3, vl_1_4, vl_1_6, vl_1_7, vl_1_12, vl_1_16, vl_1_1400, vl_2_3, vl_2_4, vl_2_6, vl_2_7, vl_2_12, vl_2_16, vl_2_1400, vl_3_4, vl_3_6, vl_3_7, vl_3_12, vl_3_16, vl_3_1400, vl_4_6, vl_4_7, vl_4_12, vl_4_16, vl_4_1400, vl_5_6, vl_5_7, vl_5_12, vl_5_16, vl_5_1400, vl_6_7, vl_6_12, vl_6_16, vl_6_1400, vl_7_12, vl_7_16, vl_8_12, vl_8_16, vl_9_12, vl_9_16, vl_10_12, vl_10_16, vl_11_12, vl_11_16, i_64le_e, i64a_0, i64b_0, i64a_1, i64b_1, i64a_2, i64b_2, i64a_3, i64b_3, i64a_4, i64b_4, i64a_5, i64b_5, i64a_7, i64b_7, i64a_8, i64b_8, i64a_9, i64b_9, i64a_10, i64b_10, i64a_16, i64b_16, i64a_50, i64b_50, i64a_m50, i64b_m50, i64a_60, i64b_60, i64a_99, i64b_99, i64a_100, i64b_100, i64a_500, i64b_500, i64a_600, i64b_600, i64a_1000, i64b_1000, i64a_1000000, i64b_1000000, i64a_m9, i64b_m9, e_s_70, e_i_70, e_l_70, e_p_70_0, e_p_70_1, e_p_70_2, e_p_70_3, e_p_70_4, e_p_70_5, e_p_70_6, e_p_70_7, e_p_70_10, e_p_70_11, e_p_70_12, e_p_70_13, e_p_70_14, e_p_70_15, e_p_70_16, e_p_70_24, e_p_70_29, e_p_70_30, e_p_70_31, e_p_70_32, e_p_70_33, e_p_70_34, e_p_70_35, e_p_70_36, e_p_70_37, e_p_70_38, e_p_70_39, e_p_70_41, e_p_70_42, e_p_70_44, e_p_70_45, e_p_70_46, e_p_70_53, e_p_70_54, e_p_70_55, e_p_70_56, e_p_70_59, e_p_70_61, e_p_70_62, e_s_80, e_i_80, e_l_80, e_s_83, e_i_83, e_l_83, e_s_106, e_i_106, e_l_106, e_s_107, e_i_107, e_l_107, e_s_108, e_i_108, e_l_108, b47, e1, hE]
    by_cases c0 : i < 2 ^ l.length
    · have c1 : ¬ 2 ^ l.length ≤ i := by omega
      have fin : ∀ z : Int32, z.toInt = tL (dZ V l) i → (0 < z → am_WP X (d + 5) 218 133 [some (.ref 70), some (.int (w)), some (.int (h)), some (.int (nI (i + 1))), v4] [] S (am_u (am_u M2 108 i z) 70 49 (nI (sumN (fun g => if tL (dZ V l) g ≤ 0 then 1 else 0) i))) (L) 0 0 K) ∧ (¬ 0 < z → am_WP X (d + 5) 218 133 [some (.ref 70), some (.int (w)), some (.int (h)), some (.int (nI (i + 1))), v4] [] S (am_u (am_u M2 108 i z) 70 49 (nI (sumN (fun g => if tL (dZ V l) g ≤ 0 then 1 else 0) i + 1))) (L) 0 0 K) := by
        intro z hz
        have a2 : ∀ g, g < i + 1 → (am_u M2 108 i z 108 g).toInt = tL (dZ V l) g := by
          intro g hg
          by_cases e : g = i
          · rw [e, am_u_same]; exact hz
          · rw [am_u_ne (fun q => e q.2)]; exact at2 g (by omega)
        have zz : (0 < z) = (0 < tL (dZ V l) i) := by rw [← hz, Int32.lt_iff_toInt_lt]; rfl
        have st : sumN (fun g => if tL (dZ V l) g ≤ 0 then 1 else 0) (i + 1) = sumN (fun g => if tL (dZ V l) g ≤ 0 then 1 else 0) i + (if tL (dZ V l) i ≤ 0 then 1 else 0) := rfl
        rw [zz]
        refine ⟨fun q => ?_, fun q => ?_⟩
        · refine ih c0 _ ((f2.u (by decide)).uf (by decide)) ?_ (fun g hg => ?_)
          · rw [am_u_same, st, if_neg (by omega), Nat.add_zero]
          · rw [am_u_row2 (by decide)]; exact a2 g hg
        · refine ih c0 _ ((f2.u (by decide)).uf (by decide)) ?_ (fun g hg => ?_)
          · rw [am_u_same, st, if_pos (by omega)]
          · rw [am_u_row2 (by decide)]; exact a2 g hg
      by_cases c2 : i = 0
      · have c3 : (i = 0) = True := eq_true c2
        simp (disch := omega) only [c1, c3, a49, nI_clamp, nI_le', nI_lt', nI_eq', rem2_1, rem2_0, nI_eq0, nI_le0, nI_0lt, nI_0le, nI_lt0, nI_m1, vp_inE, nm_nI, i_20, nI_1, nI_add, and_true, true_and, and_self, or_true, true_or, or_false, false_or, false_and, and_false, not_true_eq_false, not_false_eq_true, if_true, if_false, ite_true, ite_false, false_imp_iff, true_imp_iff, rsn_00, rsn_10, rsn_01, rsn_11, n_09, n_19, n_29, n_99, implies_true, bI_t, bI_f, or_self, ne_eq, eq_self, Classical.not_not, Bool.false_eq_true]
        have q := fin 0 (by rw [c2, tL_zero]; rfl)
        exact q.2 (by decide)
      · have e2 : nI i - 1 = nI (i - 1) := nI_pre1' (by omega) (by omega)
        have lp := land_pred 16 i (by omega) (by omega)
        have lpos := Nat.two_pow_pos (ctz 16 i)
        simp (disch := omega) only [c1, c2, e2, nI_and, a49, nI_clamp, nI_le', nI_lt', nI_eq', rem2_1, rem2_0, nI_eq0, nI_le0, nI_0lt, nI_0le, nI_lt0, nI_m1, vp_inE, nm_nI, i_20, nI_1, nI_add, and_true, true_and, and_self, or_true, true_or, or_false, false_or, false_and, and_false, not_true_eq_false, not_false_eq_true, if_true, if_false, ite_true, ite_false, false_imp_iff, true_imp_iff, rsn_00, rsn_10, rsn_01, rsn_11, n_09, n_19, n_29, n_99, implies_true, bI_t, bI_f, or_self, ne_eq, eq_self, Classical.not_not, Bool.false_eq_true]
        refine am_cal_no rfl (c_JI_ntz (by omega) (by omega) ?_)
        have cl : ctz 16 i < l.length := by
          rcases Nat.lt_or_ge (ctz 16 i) l.length with q | q
          · exact q
          · have := Nat.pow_le_pow_right (n := 2) (by decide) q
            omega
        obtain ⟨g1, g2, g3⟩ := gb _ cl
        have t1 := at2 (i &&& i - 1) (by omega)
        have t2 := tL_step (dZ V l) 16 i (by omega) (by rw [lz]; exact c0) (by omega)
        have tb1 := tb (i &&& i - 1)
        rw [lz] at tb1
        have hz : (M2 108 (i &&& i - 1) + M1 107 (ctz 16 i)).toInt = tL (dZ V l) i := by
          rw [i_add (by omega) (by omega), t1, g1, t2]
        simp only [s_aload_0_ref, s_dup_int, s_dup_ref, s_get0, s_get2, s_goto, s_iadd, s_iald, s_iand, s_iast, s_ic_eq, s_ic_ge, s_ic_ne, s_iconst, s_if_gt, s_if_ne, s_iinc_3, s_iload_1_int, s_iload_2_int, s_iload_3_int, s_iload_4_int, s_ishl, s_ishr, s_ist_1, s_istore_3_int, s_istore_4_int, s_isub, s_iv_1, s_ldc, s_put0, s_return, J_R_counts_0, b_R_counts_0, J_R_counts_52, b_R_counts_52, J_R_counts_78, b_R_counts_78, J_R_counts_120, b_R_counts_120, J_R_counts_126, b_R_counts_126, J_R_counts_156, b_R_counts_156, J_R_counts_176, b_R_counts_176, J_R_counts_195, b_R_counts_195, J_R_counts_196, b_R_counts_196, J_R_counts_206, b_R_counts_206, J_R_counts_12, b_R_counts_12, J_R_counts_133, b_R_counts_133, s_end, true_and, and_true, or_true, true_or, if_true, if_false, ite_true, ite_false, List.map_nil, List.map_cons, List.sum_nil, List.sum_cons, List.nil_append, List.cons_append, Option.toList_some, Option.toList_none, Nat.reduceAdd, Nat.reduceLeDiff, Nat.reduceSub, Nat.zero_le, List.headD_cons, List.tail_cons, List.length_cons, List.length_nil, ne_eq, reduceCtorEq, false_or, or_false, not_false_eq_true, Nat.reduceEqDiff, Nat.reduceLT, am_sw, bI_0, bI_z, bI_y, Classical.not_not, Nat.le_add_left, am_u_row2, am_r_row2, am_u_same, am_u_at, am_r_same, Int32.reduceLT, Int32.reduceLE, Int32.reduceAdd, Int32.reduceSub, Int32.reduceMul, forall_const, not_true_eq_false, implies_true, false_imp_iff, true_imp_iff, i_10, i_01, i_m10, i_m11, eq_self, or_self, false_and, and_false, and_self, am_so_some, am_pv_some, am_pv_none, l_cl_none, l_cl_int, l_cl_ref, l_cl_ra, l_cl_null, l_cl_long, cat_int, cat_ref, cat_long, cat_ra, cat_null, cl_0, cl_1, cl_2, cl_3, cl_4, cl_5, cl_6, cl_7, cl_8, cl_9, cl_10, cl_11, cl_12, cl_13, cl_14, cl_15, cl_16, cl_30, cl_64, cl_500, vl_0_2, vl_0_3, vl_0_4, vl_0_6, vl_0_7, vl_0_12, vl_0_16, vl_0_1400, vl_1_2, vl_1_3, vl_1_4, vl_1_6, vl_1_7, vl_1_12, vl_1_16, vl_1_1400, vl_2_3, vl_2_4, vl_2_6, vl_2_7, vl_2_12, vl_2_16, vl_2_1400, vl_3_4, vl_3_6, vl_3_7, vl_3_12, vl_3_16, vl_3_1400, vl_4_6, vl_4_7, vl_4_12, vl_4_16, vl_4_1400, vl_5_6, vl_5_7, vl_5_12, vl_5_16, vl_5_1400, vl_6_7, vl_6_12, vl_6_16, vl_6_1400, vl_7_12, vl_7_16, vl_8_12, vl_8_16, vl_9_12, vl_9_16, vl_10_12, vl_10_16, vl_11_12, vl_11_16, i_64le_e, i64a_0, i64b_0, i64a_1, i64b_1, i64a_2, i64b_2, i64a_3, i64b_3, i64a_4, i64b_4, i64a_5, i64b_5, i64a_7, i64b_7, i64a_8, i64b_8, i64a_9, i64b_9, i64a_10, i64b_10, i64a_16, i64b_16, i64a_50, i64b_50, i64a_m50, i64b_m50, i64a_60, i64b_60, i64a_99, i64b_99, i64a_100, i64b_100, i64a_500, i64b_500, i64a_600, i64b_600, i64a_1000, i64b_1000, i64a_1000000, i64b_1000000, i64a_m9, i64b_m9, e_s_70, e_i_70, e_l_70, e_p_70_0, e_p_70_1, e_p_70_2, e_p_70_3, e_p_70_4, e_p_70_5, e_p_70_6, e_p_70_7, e_p_70_10, e_p_70_11, e_p_70_12, e_p_70_13, e_p_70_14, e_p_70_15, e_p_70_16, e_p_70_24, e_p_70_29, e_p_70_30, e_p_70_31, e_p_70_32, e_p_70_33, e_p_70_34, e_p_70_35, e_p_70_36, e_p_70_37, e_p_70_38, e_p_70_39, e_p_70_41, e_p_70_42, e_p_70_44, e_p_70_45, e_p_70_46, e_p_70_53, e_p_70_54, e_p_70_55, e_p_70_56, e_p_70_59, e_p_70_61, e_p_70_62, e_s_80, e_i_80, e_l_80, e_s_83, e_i_83, e_l_83, e_s_106, e_i_106, e_l_106, e_s_107, e_i_107, e_l_107, e_s_108, e_i_108, e_l_108, b107, hE]
        simp (disch := omega) only [a49, Int32.add_zero, nI_clamp, nI_le', nI_lt', nI_eq', rem2_1, rem2_0, nI_eq0, nI_le0, nI_0lt, nI_0le, nI_lt0, nI_m1, vp_inE, nm_nI, i_20, nI_1, nI_add, and_true, true_and, and_self, or_true, true_or, or_false, false_or, false_and, and_false, not_true_eq_false, not_false_eq_true, if_true, if_false, ite_true, ite_false, false_imp_iff, true_imp_iff, rsn_00, rsn_10, rsn_01, rsn_11, n_09, n_19, n_29, n_99, implies_true, bI_t, bI_f, or_self, ne_eq, eq_self, Classical.not_not, Bool.false_eq_true]
        exact fin _ hz
    · have e : i = 2 ^ l.length := by omega
      subst e
      simp (disch := omega) only [Nat.le_refl, nI_clamp, nI_le', nI_lt', nI_eq', rem2_1, rem2_0, nI_eq0, nI_le0, nI_0lt, nI_0le, nI_lt0, nI_m1, vp_inE, nm_nI, i_20, nI_1, nI_add, and_true, true_and, and_self, or_true, true_or, or_false, false_or, false_and, and_false, not_true_eq_false, not_false_eq_true, if_true, if_false, ite_true, ite_false, false_imp_iff, true_imp_iff, rsn_00, rsn_10, rsn_01, rsn_11, n_09, n_19, n_29, n_99, implies_true, bI_t, bI_f, or_self, ne_eq, eq_self, Classical.not_not, Bool.false_eq_true]
      refine k M2 (f1.trans (f2.mono (by decide) (by decide))) ⟨b47, ?_, ?_, ?_, ?_⟩
      · rw [f2 70 48 (by decide) (by decide)]; exact a48
      · rw [a49, ← lz]; exact congrArg nI (tL_sum (dZ V l) (fun x => if x ≤ 0 then 1 else 0))
      · rw [f2.row 106 (by decide) (by decide)]; exact a106
      · rw [b107]; exact a107
  have loop1 : ∀ b, b ≤ nB V → ∀ M1 v4, Fr [100, 101, 106, 107, 108] [(70, 47), (70, 48), (70, 49)] M M1 → M1 70 47 = nI (ctL V (xR V w h) b).length → M1 70 48 = smL ((ctL V (xR V w h) b).map (difI V)) → Arr (M1 106) ((ctL V (xR V w h) b).map nI) → Arr (M1 107) ((ctL V (xR V w h) b).map (difI V)) → am_WP X (d + 5) 218 12 [some (.ref 70), some (.int (w)), some (.int (h)), some (.int (nI b)), v4] [] S (M1) (L) 0 0 K := by
    refine am_ind ?_
    intro b hi ih M1 v4 f1 a47 a48 a106 a107
    have hR1 := hR.fr (f1.mono (by decide) (by decide))
    have e17 : M1 70 17 = nI (nB V) := hR1.f17.trans hI.nb.1
    refine H_R_counts_12 pt32_ok ?_
    simp only [s_aload_0_ref, s_dup_int, s_dup_ref, s_get0, s_get2, s_goto, s_iadd, s_iald, s_iand, s_iast, s_ic_eq, s_ic_ge, s_ic_ne, s_iconst, s_if_gt, s_if_ne, s_iinc_3, s_iload_1_int, s_iload_2_int, s_iload_3_int, s_iload_4_int, s_ishl, s_ishr, s_ist_1, s_istore_3_int, s_istore_4_int, s_isub, s_iv_1, s_ldc, s_put0, s_return, J_R_counts_0, b_R_counts_0, J_R_counts_52, b_R_counts_52, J_R_counts_78, b_R_counts_78, J_R_counts_120, b_R_counts_120, J_R_counts_126, b_R_counts_126, J_R_counts_156, b_R_counts_156, J_R_counts_176, b_R_counts_176, J_R_counts_195, b_R_counts_195, J_R_counts_196, b_R_counts_196, J_R_counts_206, b_R_counts_206, J_R_counts_12, b_R_counts_12, J_R_counts_133, b_R_counts_133, s_end, true_and, and_true, or_true, true_or, if_true, if_false, ite_true, ite_false, List.map_nil, List.map_cons, List.sum_nil, List.sum_cons, List.nil_append, List.cons_append, Option.toList_some, Option.toList_none, Nat.reduceAdd, Nat.reduceLeDiff, Nat.reduceSub, Nat.zero_le, List.headD_cons, List.tail_cons, List.length_cons, List.length_nil, ne_eq, reduceCtorEq, false_or, or_false, not_false_eq_true, Nat.reduceEqDiff, Nat.reduceLT, am_sw, bI_0, bI_z, bI_y, Classical.not_not, Nat.le_add_left, am_u_row2, am_r_row2, am_u_same, am_u_at, am_r_same, Int32.reduceLT, Int32.reduceLE, Int32.reduceAdd, Int32.reduceSub, Int32.reduceMul, forall_const, not_true_eq_false, implies_true, false_imp_iff, true_imp_iff, i_10, i_01, i_m10, i_m11, eq_self, or_self, false_and, and_false, and_self, am_so_some, am_pv_some, am_pv_none, l_cl_none, l_cl_int, l_cl_ref, l_cl_ra, l_cl_null, l_cl_long, cat_int, cat_ref, cat_long, cat_ra, cat_null, cl_0, cl_1, cl_2, cl_3, cl_4, cl_5, cl_6, cl_7, cl_8, cl_9, cl_10, cl_11, cl_12, cl_13, cl_14, cl_15, cl_16, cl_30, cl_64, cl_500, vl_0_2, vl_0_3, vl_0_4, vl_0_6, vl_0_7, vl_0_12, vl_0_16, vl_0_1400, vl_1_2, vl_1_3, vl_1_4, vl_1_6, vl_1_7, vl_1_12, vl_1_16, vl_1_1400, vl_2_3, vl_2_4, vl_2_6, vl_2_7, vl_2_12, vl_2_16, vl_2_1400, vl_3_4, vl_3_6, vl_3_7, vl_3_12, vl_3_16, vl_3_1400, vl_4_6, vl_4_7, vl_4_12, vl_4_16, vl_4_1400, vl_5_6, vl_5_7, vl_5_12, vl_5_16, vl_5_1400, vl_6_7, vl_6_12, vl_6_16, vl_6_1400, vl_7_12, vl_7_16, vl_8_12, vl_8_16, vl_9_12, vl_9_16, vl_10_12, vl_10_16, vl_11_12, vl_11_16, i_64le_e, i64a_0, i64b_0, i64a_1, i64b_1, i64a_2, i64b_2, i64a_3, i64b_3, i64a_4, i64b_4, i64a_5, i64b_5, i64a_7, i64b_7, i64a_8, i64b_8, i64a_9, i64b_9, i64a_10, i64b_10, i64a_16, i64b_16, i64a_50, i64b_50, i64a_m50, i64b_m50, i64a_60, i64b_60, i64a_99, i64b_99, i64a_100, i64b_100, i64a_500, i64b_500, i64a_600, i64b_600, i64a_1000, i64b_1000, i64a_1000000, i64b_1000000, i64a_m9, i64b_m9, e_s_70, e_i_70, e_l_70, e_p_70_0, e_p_70_1, e_p_70_2, e_p_70_3, e_p_70_4, e_p_70_5, e_p_70_6, e_p_70_7, e_p_70_10, e_p_70_11, e_p_70_12, e_p_70_13, e_p_70_14, e_p_70_15, e_p_70_16, e_p_70_24, e_p_70_29, e_p_70_30, e_p_70_31, e_p_70_32, e_p_70_33, e_p_70_34, e_p_70_35, e_p_70_36, e_p_70_37, e_p_70_38, e_p_70_39, e_p_70_41, e_p_70_42, e_p_70_44, e_p_70_45, e_p_70_46, e_p_70_53, e_p_70_54, e_p_70_55, e_p_70_56, e_p_70_59, e_p_70_61, e_p_70_62, e_s_80, e_i_80, e_l_80, e_s_83, e_i_83, e_l_83, e_s_106, e_i_106, e_l_106, e_s_107, e_i_107, e_l_107, e_s_108, e_i_108, e_l_108, e17, hR1.r83, hR1.r80, hE]
    by_cases c0 : b < nB V
    · simp (disch := omega) only [Nat.not_le.mpr, c0, nI_clamp, nI_le', nI_lt', nI_eq', rem2_1, rem2_0, nI_eq0, nI_le0, nI_0lt, nI_0le, nI_lt0, nI_m1, vp_inE, nm_nI, i_20, nI_1, nI_add, and_true, true_and, and_self, or_true, true_or, or_false, false_or, false_and, and_false, not_true_eq_false, not_false_eq_true, if_true, if_false, ite_true, ite_false, false_imp_iff, true_imp_iff, rsn_00, rsn_10, rsn_01, rsn_11, n_09, n_19, n_29, n_99, implies_true, bI_t, bI_f, or_self, ne_eq, eq_self, Classical.not_not, Bool.false_eq_true]
      have skip : (xR V w h b = true ∨ ctP V b = false) → ∀ M2 v4, Fr [100, 101] [] M1 M2 → am_WP X (d + 5) 218 12 [some (.ref 70), some (.int (w)), some (.int (h)), some (.int (nI (b + 1))), v4] [] S (M2) (L) 0 0 K := by
        intro q M2 v4 f2
        have ih := ih c0 M2 v4 (f1.trans (f2.mono (by decide) (by decide)))
        rw [ctL_no q, f2 70 47 (by decide) (by simp), f2 70 48 (by decide) (by simp), f2.row 106 (by decide) (by simp), f2.row 107 (by decide) (by simp)] at ih
        exact ih a47 a48 a106 a107
      refine ⟨fun h1 => skip (Or.inr (decide_eq_false (fun q => q.1 h1))) M1 _ Fr.refl, fun h1 => ⟨fun h2 => skip (Or.inl (decide_eq_true (Or.inl h2))) M1 _ Fr.refl, fun h2 => ⟨fun h3 => ?_, fun h3 => skip (Or.inl (decide_eq_true (Or.inr h3))) M1 _ Fr.refl⟩⟩⟩
      refine am_cal_no rfl (c_R_differenceOf hE hR1 hI c0 ?_)
      simp only [s_aload_0_ref, s_dup_int, s_dup_ref, s_get0, s_get2, s_goto, s_iadd, s_iald, s_iand, s_iast, s_ic_eq, s_ic_ge, s_ic_ne, s_iconst, s_if_gt, s_if_ne, s_iinc_3, s_iload_1_int, s_iload_2_int, s_iload_3_int, s_iload_4_int, s_ishl, s_ishr, s_ist_1, s_istore_3_int, s_istore_4_int, s_isub, s_iv_1, s_ldc, s_put0, s_return, J_R_counts_0, b_R_counts_0, J_R_counts_52, b_R_counts_52, J_R_counts_78, b_R_counts_78, J_R_counts_120, b_R_counts_120, J_R_counts_126, b_R_counts_126, J_R_counts_156, b_R_counts_156, J_R_counts_176, b_R_counts_176, J_R_counts_195, b_R_counts_195, J_R_counts_196, b_R_counts_196, J_R_counts_206, b_R_counts_206, J_R_counts_12, b_R_counts_12, J_R_counts_133, b_R_counts_133, s_end, true_and, and_true, or_true, true_or, if_true, if_false, ite_true, ite_false, List.map_nil, List.map_cons, List.sum_nil, List.sum_cons, List.nil_append, List.cons_append, Option.toList_some, Option.toList_none, Nat.reduceAdd, Nat.reduceLeDiff, Nat.reduceSub, Nat.zero_le, List.headD_cons, List.tail_cons, List.length_cons, List.length_nil, ne_eq, reduceCtorEq, false_or, or_false, not_false_eq_true, Nat.reduceEqDiff, Nat.reduceLT, am_sw, bI_0, bI_z, bI_y, Classical.not_not, Nat.le_add_left, am_u_row2, am_r_row2, am_u_same, am_u_at, am_r_same, Int32.reduceLT, Int32.reduceLE, Int32.reduceAdd, Int32.reduceSub, Int32.reduceMul, forall_const, not_true_eq_false, implies_true, false_imp_iff, true_imp_iff, i_10, i_01, i_m10, i_m11, eq_self, or_self, false_and, and_false, and_self, am_so_some, am_pv_some, am_pv_none, l_cl_none, l_cl_int, l_cl_ref, l_cl_ra, l_cl_null, l_cl_long, cat_int, cat_ref, cat_long, cat_ra, cat_null, cl_0, cl_1, cl_2, cl_3, cl_4, cl_5, cl_6, cl_7, cl_8, cl_9, cl_10, cl_11, cl_12, cl_13, cl_14, cl_15, cl_16, cl_30, cl_64, cl_500, vl_0_2, vl_0_3, vl_0_4, vl_0_6, vl_0_7, vl_0_12, vl_0_16, vl_0_1400, vl_1_2, vl_1_3, vl_1_4, vl_1_6, vl_1_7, vl_1_12, vl_1_16, vl_1_1400, vl_2_3, vl_2_4, vl_2_6, vl_2_7, vl_2_12, vl_2_16, vl_2_1400, vl_3_4, vl_3_6, vl_3_7, vl_3_12, vl_3_16, vl_3_1400, vl_4_6, vl_4_7, vl_4_12, vl_4_16, vl_4_1400, vl_5_6, vl_5_7, vl_5_12, vl_5_16, vl_5_1400, vl_6_7, vl_6_12, vl_6_16, vl_6_1400, vl_7_12, vl_7_16, vl_8_12, vl_8_16, vl_9_12, vl_9_16, vl_10_12, vl_10_16, vl_11_12, vl_11_16, i_64le_e, i64a_0, i64b_0, i64a_1, i64b_1, i64a_2, i64b_2, i64a_3, i64b_3, i64a_4, i64b_4, i64a_5, i64b_5, i64a_7, i64b_7, i64a_8, i64b_8, i64a_9, i64b_9, i64a_10, i64b_10, i64a_16, i64b_16, i64a_50, i64b_50, i64a_m50, i64b_m50, i64a_60, i64b_60, i64a_99, i64b_99, i64a_100, i64b_100, i64a_500, i64b_500, i64a_600, i64b_600, i64a_1000, i64b_1000, i64a_1000000, i64b_1000000, i64a_m9, i64b_m9, e_s_70, e_i_70, e_l_70, e_p_70_0, e_p_70_1, e_p_70_2, e_p_70_3, e_p_70_4, e_p_70_5, e_p_70_6, e_p_70_7, e_p_70_10, e_p_70_11, e_p_70_12, e_p_70_13, e_p_70_14, e_p_70_15, e_p_70_16, e_p_70_24, e_p_70_29, e_p_70_30, e_p_70_31, e_p_70_32, e_p_70_33, e_p_70_34, e_p_70_35, e_p_70_36, e_p_70_37, e_p_70_38, e_p_70_39, e_p_70_41, e_p_70_42, e_p_70_44, e_p_70_45, e_p_70_46, e_p_70_53, e_p_70_54, e_p_70_55, e_p_70_56, e_p_70_59, e_p_70_61, e_p_70_62, e_s_80, e_i_80, e_l_80, e_s_83, e_i_83, e_l_83, e_s_106, e_i_106, e_l_106, e_s_107, e_i_107, e_l_107, e_s_108, e_i_108, e_l_108, hE]
      simp (disch := omega) only [nI_clamp, nI_le', nI_lt', nI_eq', rem2_1, rem2_0, nI_eq0, nI_le0, nI_0lt, nI_0le, nI_lt0, nI_m1, vp_inE, nm_nI, i_20, nI_1, nI_add, and_true, true_and, and_self, or_true, true_or, or_false, false_or, false_and, and_false, not_true_eq_false, not_false_eq_true, if_true, if_false, ite_true, ite_false, false_imp_iff, true_imp_iff, rsn_00, rsn_10, rsn_01, rsn_11, n_09, n_19, n_29, n_99, implies_true, bI_t, bI_f, or_self, ne_eq, eq_self, Classical.not_not, Bool.false_eq_true]
      refine ⟨fun h4 => skip (Or.inr (decide_eq_false (fun q => q.2.1 h4))) M1 _ Fr.refl, fun h4 => ?_⟩
      refine am_cal_no rfl (c_R_outBy hE hR1 hI hP c0 ?_)
      intro M2 f2
      have b47 : M2 70 47 = nI (ctL V (xR V w h) b).length := by rw [f2 70 47 (by decide) (by simp)]; exact a47
      have b48 : M2 70 48 = smL ((ctL V (xR V w h) b).map (difI V)) := by rw [f2 70 48 (by decide) (by simp)]; exact a48
      have b106 : M2 106 = M1 106 := f2.row 106 (by decide) (by simp)
      have b107 : M2 107 = M1 107 := f2.row 107 (by decide) (by simp)
      have ll : (ctL V (xR V w h) b).length ≤ b := ctL_len
      simp only [s_aload_0_ref, s_dup_int, s_dup_ref, s_get0, s_get2, s_goto, s_iadd, s_iald, s_iand, s_iast, s_ic_eq, s_ic_ge, s_ic_ne, s_iconst, s_if_gt, s_if_ne, s_iinc_3, s_iload_1_int, s_iload_2_int, s_iload_3_int, s_iload_4_int, s_ishl, s_ishr, s_ist_1, s_istore_3_int, s_istore_4_int, s_isub, s_iv_1, s_ldc, s_put0, s_return, J_R_counts_0, b_R_counts_0, J_R_counts_52, b_R_counts_52, J_R_counts_78, b_R_counts_78, J_R_counts_120, b_R_counts_120, J_R_counts_126, b_R_counts_126, J_R_counts_156, b_R_counts_156, J_R_counts_176, b_R_counts_176, J_R_counts_195, b_R_counts_195, J_R_counts_196, b_R_counts_196, J_R_counts_206, b_R_counts_206, J_R_counts_12, b_R_counts_12, J_R_counts_133, b_R_counts_133, s_end, true_and, and_true, or_true, true_or, if_true, if_false, ite_true, ite_false, List.map_nil, List.map_cons, List.sum_nil, List.sum_cons, List.nil_append, List.cons_append, Option.toList_some, Option.toList_none, Nat.reduceAdd, Nat.reduceLeDiff, Nat.reduceSub, Nat.zero_le, List.headD_cons, List.tail_cons, List.length_cons, List.length_nil, ne_eq, reduceCtorEq, false_or, or_false, not_false_eq_true, Nat.reduceEqDiff, Nat.reduceLT, am_sw, bI_0, bI_z, bI_y, Classical.not_not, Nat.le_add_left, am_u_row2, am_r_row2, am_u_same, am_u_at, am_r_same, Int32.reduceLT, Int32.reduceLE, Int32.reduceAdd, Int32.reduceSub, Int32.reduceMul, forall_const, not_true_eq_false, implies_true, false_imp_iff, true_imp_iff, i_10, i_01, i_m10, i_m11, eq_self, or_self, false_and, and_false, and_self, am_so_some, am_pv_some, am_pv_none, l_cl_none, l_cl_int, l_cl_ref, l_cl_ra, l_cl_null, l_cl_long, cat_int, cat_ref, cat_long, cat_ra, cat_null, cl_0, cl_1, cl_2, cl_3, cl_4, cl_5, cl_6, cl_7, cl_8, cl_9, cl_10, cl_11, cl_12, cl_13, cl_14, cl_15, cl_16, cl_30, cl_64, cl_500, vl_0_2, vl_0_3, vl_0_4, vl_0_6, vl_0_7, vl_0_12, vl_0_16, vl_0_1400, vl_1_2, vl_1_3, vl_1_4, vl_1_6, vl_1_7, vl_1_12, vl_1_16, vl_1_1400, vl_2_3, vl_2_4, vl_2_6, vl_2_7, vl_2_12, vl_2_16, vl_2_1400, vl_3_4, vl_3_6, vl_3_7, vl_3_12, vl_3_16, vl_3_1400, vl_4_6, vl_4_7, vl_4_12, vl_4_16, vl_4_1400, vl_5_6, vl_5_7, vl_5_12, vl_5_16, vl_5_1400, vl_6_7, vl_6_12, vl_6_16, vl_6_1400, vl_7_12, vl_7_16, vl_8_12, vl_8_16, vl_9_12, vl_9_16, vl_10_12, vl_10_16, vl_11_12, vl_11_16, i_64le_e, i64a_0, i64b_0, i64a_1, i64b_1, i64a_2, i64b_2, i64a_3, i64b_3, i64a_4, i64b_4, i64a_5, i64b_5, i64a_7, i64b_7, i64a_8, i64b_8, i64a_9, i64b_9, i64a_10, i64b_10, i64a_16, i64b_16, i64a_50, i64b_50, i64a_m50, i64b_m50, i64a_60, i64b_60, i64a_99, i64b_99, i64a_100, i64b_100, i64a_500, i64b_500, i64a_600, i64b_600, i64a_1000, i64b_1000, i64a_1000000, i64b_1000000, i64a_m9, i64b_m9, e_s_70, e_i_70, e_l_70, e_p_70_0, e_p_70_1, e_p_70_2, e_p_70_3, e_p_70_4, e_p_70_5, e_p_70_6, e_p_70_7, e_p_70_10, e_p_70_11, e_p_70_12, e_p_70_13, e_p_70_14, e_p_70_15, e_p_70_16, e_p_70_24, e_p_70_29, e_p_70_30, e_p_70_31, e_p_70_32, e_p_70_33, e_p_70_34, e_p_70_35, e_p_70_36, e_p_70_37, e_p_70_38, e_p_70_39, e_p_70_41, e_p_70_42, e_p_70_44, e_p_70_45, e_p_70_46, e_p_70_53, e_p_70_54, e_p_70_55, e_p_70_56, e_p_70_59, e_p_70_61, e_p_70_62, e_s_80, e_i_80, e_l_80, e_s_83, e_i_83, e_l_83, e_s_106, e_i_106, e_l_106, e_s_107, e_i_107, e_l_107, e_s_108, e_i_108, e_l_108, b47, b48, hE]
      simp (disch := omega) only [nI_clamp, nI_le', nI_lt', nI_eq', rem2_1, rem2_0, nI_eq0, nI_le0, nI_0lt, nI_0le, nI_lt0, nI_m1, vp_inE, nm_nI, i_20, nI_1, nI_add, and_true, true_and, and_self, or_true, true_or, or_false, false_or, false_and, and_false, not_true_eq_false, not_false_eq_true, if_true, if_false, ite_true, ite_false, false_imp_iff, true_imp_iff, rsn_00, rsn_10, rsn_01, rsn_11, n_09, n_19, n_29, n_99, implies_true, bI_t, bI_f, or_self, ne_eq, eq_self, Classical.not_not, Bool.false_eq_true]
      refine ⟨fun h5 => ?_, fun h5 => skip (Or.inr (decide_eq_false (fun q => h5 q.2.2))) M2 _ f2⟩
      have y := ctL_yes (V := V) (x := xR V w h) (n := b) (decide_eq_false (fun q => q.elim h2 h3)) (decide_eq_true ⟨h1, h4, h5⟩)
      have ih := ih c0
      rw [y, List.map_append, List.map_append, List.length_append] at ih
      refine ih _ _ ((((f1.trans (f2.mono (by decide) (by decide))).u (by decide)).u (by decide)).uf (by decide) |>.uf (by decide)) ?_ ?_ ?_ ?_
      all_goals try simp only [am_u_same, am_u_row2, am_u_at, am_r_same, am_r_row2, Nat.reduceEqDiff, eq_self, reduceCtorEq, not_false_eq_true, true_and, and_true, if_true, if_false, ite_true, ite_false]
      · rfl
      · rw [List.map_singleton, smL_snoc]
      · refine Arr.snoc ?_ (by rw [List.length_map])
        rw [b106]; exact a106
      · refine Arr.snoc (M := am_u M2 106 _ _) ?_ (by rw [List.length_map])
        rw [am_u_row2 (by decide), b107]; exact a107
    · have e : b = nB V := by omega
      subst e
      simp (disch := omega) only [Nat.le_refl, nI_clamp, nI_le', nI_lt', nI_eq', rem2_1, rem2_0, nI_eq0, nI_le0, nI_0lt, nI_0le, nI_lt0, nI_m1, vp_inE, nm_nI, i_20, nI_1, nI_add, and_true, true_and, and_self, or_true, true_or, or_false, false_or, false_and, and_false, not_true_eq_false, not_false_eq_true, if_true, if_false, ite_true, ite_false, false_imp_iff, true_imp_iff, rsn_00, rsn_10, rsn_01, rsn_11, n_09, n_19, n_29, n_99, implies_true, bI_t, bI_f, or_self, ne_eq, eq_self, Classical.not_not, Bool.false_eq_true]
      refine loop2 (am_u M1 70 49 0) (f1.uf (by decide)) ?_ ?_ ?_ ?_ _ 0 (Nat.zero_le _) _ Fr.refl ?_ (fun g hg => by omega)
      all_goals try simp only [am_u_same, am_u_row2, am_u_at, am_r_same, am_r_row2, Nat.reduceEqDiff, eq_self, reduceCtorEq, not_false_eq_true, true_and, and_true, if_true, if_false, ite_true, ite_false]
      · exact a47
      · exact a48
      · exact a106
      · exact a107
      · rfl
  refine loop1 0 (by omega) _ _ ((Fr.refl.uf (by decide)).uf (by decide)) ?_ ?_ (fun i hi => absurd hi (by simp [ctL])) (fun i hi => absurd hi (by simp [ctL]))
  all_goals try simp only [am_u_same, am_u_row2, am_u_at, am_r_same, am_r_row2, Nat.reduceEqDiff, eq_self, reduceCtorEq, not_false_eq_true, true_and, and_true, if_true, if_false, ite_true, ite_false]
  all_goals rfl
end T42
