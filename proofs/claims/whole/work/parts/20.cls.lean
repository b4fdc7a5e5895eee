theorem am_ind {n : Nat} {P : Nat → Prop} (h : ∀ i, i ≤ n → (i < n → P (i + 1)) → P i) : ∀ i, i ≤ n → P i := by
  have q : ∀ j i, i + j = n → P i := by
    intro j
    induction j with
    | zero => intro i e; exact h i (by omega) (fun z => absurd z (by omega))
    | succ j ih => intro i e; exact h i (by omega) (fun _ => ih (i + 1) (by omega))
  intro i hi
  exact q (n - i) i (by omega)
def pN (V : am_M) (b : Nat) : Nat := nm (V 79 b)
def tN (V : am_M) (b : Nat) : Nat := nm (V 77 (pN V b))
def scN (V : am_M) (b t : Nat) : Nat := nm (V 78 (8 * pN V b + t))
def nL (V : am_M) : Nat := nm (V 97 0)
def nO (V : am_M) : Nat := nm (V 98 0)
theorem IV.tn {V : am_M} (h : IV V) {b : Nat} (hb : b < nB V) : V 79 b = nI (pN V b) ∧ pN V b < nP V ∧ V 77 (pN V b) = nI (tN V b) ∧ tN V b ≤ 8 ∧ nP V ≤ 4 ∧ nB V ≤ 16 := by
  have q := h.bp b hb
  have p := h.pm _ q.2
  exact ⟨q.1, q.2, p.1, p.2, h.np.2, h.nb.2⟩
theorem IV.sc {V : am_M} (h : IV V) {b t : Nat} (hb : b < nB V) (ht : t < tN V b) : V 78 (8 * pN V b + t) = nI (scN V b t) ∧ scN V b t < nS V ∧ nS V ≤ 12 := by
  have q := h.pr _ t (h.bp b hb).2 ht
  exact ⟨q.1, q.2, h.ns.2⟩
/-- the reference's mark as the class writes it -/
def tkc (m : Int32) : Int32 := if m = 20001 then 20043 else if m = 20002 then 20045 else if m = 20003 then 20042 else if m = 20004 then 20047 else if m = 20005 then 20060 else if m = 20006 then 20061 else m
def isC (V : am_M) (c : Nat) : Prop := c < nL V ∨ (6 ≤ c ∧ c < 6 + nO V)
/-- heights of the pile -/
def hts (g : Nat → Int32) (b : Nat) : Nat → Nat
  | 0 => 0
  | i + 1 => if g (b + i) < 20001 then hts g b i + 1 else hts g b i - 1
def mkv (m : Int32) : Prop := (∃ v, v ≤ 9999 ∧ m = nI v) ∨ (∃ v, v < 12 ∧ m = nI (10000 + v)) ∨ (∃ v, v < 6 ∧ m = nI (20001 + v))
def WFx (g : Nat → Int32) (b n : Nat) : Prop := (∀ i, i < n → mkv (g (b + i)) ∧ (¬ g (b + i) < 20001 → 2 ≤ hts g b i) ∧ (g (b + i) < 20001 → hts g b i < 64)) ∧ hts g b n = 1
def IVp (V : am_M) : Prop := (V 97 0 = nI (nL V) ∧ nL V ≤ 6) ∧ (V 98 0 = nI (nO V) ∧ nO V ≤ 4) ∧ (∀ c, isC V c → V 91 c = nI (nm (V 91 c)) ∧ V 94 c = nI (nm (V 94 c)) ∧ nm (V 91 c) + nm (V 94 c) ≤ 500 ∧ WFx (V 88) (nm (V 91 c)) (nm (V 94 c)))
theorem IVp.nl {V : am_M} (h : IVp V) : V 97 0 = nI (nL V) ∧ nL V ≤ 6 := h.1
theorem IVp.no {V : am_M} (h : IVp V) : V 98 0 = nI (nO V) ∧ nO V ≤ 4 := h.2.1
theorem IVp.ex {V : am_M} (h : IVp V) : ∀ c, isC V c → V 91 c = nI (nm (V 91 c)) ∧ V 94 c = nI (nm (V 94 c)) ∧ nm (V 91 c) + nm (V 94 c) ≤ 500 ∧ WFx (V 88) (nm (V 91 c)) (nm (V 94 c)) := h.2.2
def PgR (V M : am_M) : Prop := (M 16 7 = V 97 0) ∧ (M 16 8 = V 98 0) ∧ (∀ l, l < nL V → M 18 l = V 91 l ∧ M 19 l = V 91 l + V 94 l) ∧ (∀ c, c < nO V → M 20 c = V 91 (6 + c) ∧ M 21 c = V 91 (6 + c) + V 94 (6 + c)) ∧ (∀ c k, isC V c → k < nm (V 94 c) → M 17 (nm (V 91 c) + k) = tkc (V 88 (nm (V 91 c) + k)))
theorem PgR.f7 {V M : am_M} (h : PgR V M) : M 16 7 = V 97 0 := h.1
theorem PgR.f8 {V M : am_M} (h : PgR V M) : M 16 8 = V 98 0 := h.2.1
theorem PgR.ls {V M : am_M} (h : PgR V M) : ∀ l, l < nL V → M 18 l = V 91 l ∧ M 19 l = V 91 l + V 94 l := h.2.2.1
theorem PgR.cs {V M : am_M} (h : PgR V M) : ∀ c, c < nO V → M 20 c = V 91 (6 + c) ∧ M 21 c = V 91 (6 + c) + V 94 (6 + c) := h.2.2.2.1
theorem PgR.tk {V M : am_M} (h : PgR V M) : ∀ c k, isC V c → k < nm (V 94 c) → M 17 (nm (V 91 c) + k) = tkc (V 88 (nm (V 91 c) + k)) := h.2.2.2.2
/-- the class as the calls that ask find it -/
def CV (V M : am_M) : Prop := (LabR V M 31) ∧ (CSs V M) ∧ (PgR V M) ∧ (∀ i, 8 ≤ i → i < 12 → M 49 i = 0) ∧ (∀ i, i < 7 → M 52 i = 0) ∧ (M 48 6 = V 70 50) ∧ (M 48 7 = V 70 51)
theorem CV.lab {V M : am_M} (h : CV V M) : LabR V M 31 := h.1
theorem CV.st {V M : am_M} (h : CV V M) : CSs V M := h.2.1
theorem CV.pg {V M : am_M} (h : CV V M) : PgR V M := h.2.2.1
theorem CV.n49 {V M : am_M} (h : CV V M) : ∀ i, 8 ≤ i → i < 12 → M 49 i = 0 := h.2.2.2.1
theorem CV.n52 {V M : am_M} (h : CV V M) : ∀ i, i < 7 → M 52 i = 0 := h.2.2.2.2.1
theorem CV.sp {V M : am_M} (h : CV V M) : M 48 6 = V 70 50 := h.2.2.2.2.2.1
theorem CV.lo {V M : am_M} (h : CV V M) : M 48 7 = V 70 51 := h.2.2.2.2.2.2
def csL : List Nat := [1, 2, 3, 4, 5, 6, 7, 8, 9, 10, 11, 12, 13, 14, 15, 22, 39, 40, 41, 42, 43, 44, 45, 46, 50, 51, 53, 54, 55, 56, 57, 58, 59, 60, 61, 62, 63, 64, 65, 66, 67, 68, 69, 70, 71, 72, 73, 74, 75, 76, 77, 78, 79, 80, 81, 82, 83, 84, 85, 86, 88, 89, 91, 92, 94, 95, 97, 98, 99, 100, 101, 104, 105, 106, 107, 108, 109, 110, 111, 112, 113, 115, 116, 117, 118]
def fsL : List (Nat × Nat) := [(48, 4), (49, 0), (49, 1), (49, 2), (49, 3), (49, 4), (49, 5), (49, 6), (49, 7), (52, 7), (52, 8), (52, 9), (52, 10), (52, 11)]
theorem CV.fr {V M M' : am_M} (h : CV V M) (f : Fr csL fsL M M') : CV V M' := by
  refine ⟨h.lab.of (f.cells (a := 31) (n := 7) (by decide)), h.st.of (fun c h1 h2 => f.cells (a := 23) (n := 7) (by decide) c h1 (by omega)), ?_, ?_, ?_, ?_, ?_⟩
  · have p := h.pg
    have r := fun c h1 h2 => f.row c h1 h2
    unfold PgR at p ⊢
    rw [r 16 (by decide) (by decide), r 17 (by decide) (by decide), r 18 (by decide) (by decide), r 19 (by decide) (by decide), r 20 (by decide) (by decide), r 21 (by decide) (by decide)]
    exact p
  · intro i h1 h2
    have e : M' 49 i = M 49 i := by
      have q : i = 8 ∨ i = 9 ∨ i = 10 ∨ i = 11 := by omega
      rcases q with rfl | rfl | rfl | rfl
      · exact f 49 8 (by decide) (by decide)
      · exact f 49 9 (by decide) (by decide)
      · exact f 49 10 (by decide) (by decide)
      · exact f 49 11 (by decide) (by decide)
    rw [e]; exact h.n49 i h1 h2
  · intro i h1
    have e : M' 52 i = M 52 i := by
      have q : i = 0 ∨ i = 1 ∨ i = 2 ∨ i = 3 ∨ i = 4 ∨ i = 5 ∨ i = 6 := by omega
      rcases q with rfl | rfl | rfl | rfl | rfl | rfl | rfl
      · exact f 52 0 (by decide) (by decide)
      · exact f 52 1 (by decide) (by decide)
      · exact f 52 2 (by decide) (by decide)
      · exact f 52 3 (by decide) (by decide)
      · exact f 52 4 (by decide) (by decide)
      · exact f 52 5 (by decide) (by decide)
      · exact f 52 6 (by decide) (by decide)
    rw [e]; exact h.n52 i h1
  · rw [f 48 6 (by decide) (by decide)]; exact h.sp
  · rw [f 48 7 (by decide) (by decide)]; exact h.lo
/-- the stage and the laws alone: what telling needs -/
def RT (V M : am_M) : Prop := (M 72 = V 72) ∧ (M 73 = V 73) ∧ (M 74 = V 74) ∧ (M 75 = V 75) ∧ (M 76 = V 76) ∧ (M 77 = V 77) ∧ (M 78 = V 78) ∧ (M 88 = V 88) ∧ (M 91 = V 91) ∧ (M 94 = V 94)
theorem RT.r72 {V M : am_M} (h : RT V M) : M 72 = V 72 := h.1
theorem RT.r73 {V M : am_M} (h : RT V M) : M 73 = V 73 := h.2.1
theorem RT.r74 {V M : am_M} (h : RT V M) : M 74 = V 74 := h.2.2.1
theorem RT.r75 {V M : am_M} (h : RT V M) : M 75 = V 75 := h.2.2.2.1
theorem RT.r76 {V M : am_M} (h : RT V M) : M 76 = V 76 := h.2.2.2.2.1
theorem RT.r77 {V M : am_M} (h : RT V M) : M 77 = V 77 := h.2.2.2.2.2.1
theorem RT.r78 {V M : am_M} (h : RT V M) : M 78 = V 78 := h.2.2.2.2.2.2.1
theorem RT.r88 {V M : am_M} (h : RT V M) : M 88 = V 88 := h.2.2.2.2.2.2.2.1
theorem RT.r91 {V M : am_M} (h : RT V M) : M 91 = V 91 := h.2.2.2.2.2.2.2.2.1
theorem RT.r94 {V M : am_M} (h : RT V M) : M 94 = V 94 := h.2.2.2.2.2.2.2.2.2
theorem RS.t {V M : am_M} (h : RS V M) : RT V M := ⟨h.r72, h.r73, h.r74, h.r75, h.r76, h.r77, h.r78, h.r88, h.r91, h.r94⟩
def csT : List Nat := [0, 1, 2, 3, 4, 5, 6, 7, 8, 9, 10, 11, 12, 13, 14, 15, 16, 17, 18, 19, 20, 21, 22, 23, 24, 25, 26, 27, 28, 29, 30, 31, 32, 33, 34, 35, 36, 37, 38, 39, 40, 41, 42, 43, 44, 45, 46, 47, 48, 49, 50, 51, 52, 53, 54, 55, 56, 57, 58, 59, 60, 61, 62, 63, 64, 65, 66, 67, 68, 69, 70, 71, 79, 80, 81, 82, 83, 84, 85, 86, 89, 92, 95, 97, 98, 99, 100, 101, 104, 105, 106, 107, 108, 109, 110, 111, 112, 113, 115, 116, 117, 118]
theorem RT.fr {V M M' : am_M} (h : RT V M) (f : Fr csT [] M M') : RT V M' := by
  have r := fun c h1 h2 => f.row c h1 h2
  unfold RT at h ⊢
  rw [r 72 (by decide) (by decide), r 73 (by decide) (by decide), r 74 (by decide) (by decide), r 75 (by decide) (by decide), r 76 (by decide) (by decide), r 77 (by decide) (by decide), r 78 (by decide) (by decide), r 88 (by decide) (by decide), r 91 (by decide) (by decide), r 94 (by decide) (by decide)]
  exact h
def CT (V M : am_M) : Prop := (CSs V M) ∧ (PgR V M) ∧ (∀ i, 8 ≤ i → i < 12 → M 49 i = 0)
theorem CT.st {V M : am_M} (h : CT V M) : CSs V M := h.1
theorem CT.pg {V M : am_M} (h : CT V M) : PgR V M := h.2.1
theorem CT.n49 {V M : am_M} (h : CT V M) : ∀ i, 8 ≤ i → i < 12 → M 49 i = 0 := h.2.2
theorem CV.t {V M : am_M} (h : CV V M) : CT V M := ⟨h.st, h.pg, h.n49⟩
def csU : List Nat := 31 :: 32 :: 33 :: 34 :: 35 :: 36 :: 37 :: 38 :: 48 :: 52 :: csL
theorem CT.fr {V M M' : am_M} (h : CT V M) (f : Fr csU fsL M M') : CT V M' := by
  refine ⟨h.st.of (fun c h1 h2 => f.cells (a := 23) (n := 7) (by decide) c h1 (by omega)), ?_, ?_⟩
  · have p := h.pg
    have r := fun c h1 h2 => f.row c h1 h2
    unfold PgR at p ⊢
    rw [r 16 (by decide) (by decide), r 17 (by decide) (by decide), r 18 (by decide) (by decide), r 19 (by decide) (by decide), r 20 (by decide) (by decide), r 21 (by decide) (by decide)]
    exact p
  · intro i h1 h2
    have e : M' 49 i = M 49 i := by
      have q : i = 8 ∨ i = 9 ∨ i = 10 ∨ i = 11 := by omega
      rcases q with rfl | rfl | rfl | rfl
      · exact f 49 8 (by decide) (by decide)
      · exact f 49 9 (by decide) (by decide)
      · exact f 49 10 (by decide) (by decide)
      · exact f 49 11 (by decide) (by decide)
    rw [e]; exact h.n49 i h1 h2
def IVs (V : am_M) : Prop := (V 70 8 = nI (nS V) ∧ nS V ≤ 12) ∧ (V 70 9 = nI (nP V) ∧ nP V ≤ 4) ∧ (∀ p, p < nP V → V 77 p = nI (nm (V 77 p)) ∧ nm (V 77 p) ≤ 8) ∧ (∀ p t, p < nP V → t < nm (V 77 p) → V 78 (8 * p + t) = nI (nm (V 78 (8 * p + t))) ∧ nm (V 78 (8 * p + t)) < nS V) ∧ (∀ s, s < nS V → V 76 s = nI (nm (V 76 s)) ∧ nm (V 76 s) < 5) ∧ (∀ s, s < nS V → V 75 s = nI (nm (V 75 s)) ∧ nm (V 75 s) ≤ 9) ∧ (∀ s, s < 5 → V 72 s = nI (nm (V 72 s)) ∧ nm (V 72 s) ≤ 99)
theorem IVs.ns {V : am_M} (h : IVs V) : V 70 8 = nI (nS V) ∧ nS V ≤ 12 := h.1
theorem IVs.np {V : am_M} (h : IVs V) : V 70 9 = nI (nP V) ∧ nP V ≤ 4 := h.2.1
theorem IVs.pm {V : am_M} (h : IVs V) : ∀ p, p < nP V → V 77 p = nI (nm (V 77 p)) ∧ nm (V 77 p) ≤ 8 := h.2.2.1
theorem IVs.pr {V : am_M} (h : IVs V) : ∀ p t, p < nP V → t < nm (V 77 p) → V 78 (8 * p + t) = nI (nm (V 78 (8 * p + t))) ∧ nm (V 78 (8 * p + t)) < nS V := h.2.2.2.1
theorem IVs.ki {V : am_M} (h : IVs V) : ∀ s, s < nS V → V 76 s = nI (nm (V 76 s)) ∧ nm (V 76 s) < 5 := h.2.2.2.2.1
theorem IVs.sh {V : am_M} (h : IVs V) : ∀ s, s < nS V → V 75 s = nI (nm (V 75 s)) ∧ nm (V 75 s) ≤ 9 := h.2.2.2.2.2.1
theorem IVs.lk {V : am_M} (h : IVs V) : ∀ s, s < 5 → V 72 s = nI (nm (V 72 s)) ∧ nm (V 72 s) ≤ 99 := h.2.2.2.2.2.2
theorem IV.s {V : am_M} (h : IV V) : IVs V := ⟨h.ns, h.np, h.pm, h.pr, h.ki, h.sh, h.lk⟩
section T20
variable {X : am_X} {d : Nat} {K : am_K} {S : am_S} {M : am_M} {L : am_L} {V : am_M}
abbrev tP (V : am_M) (b t : Int32) : Prop := inN b (nB V) ∧ inN t (tN V (nm b))
abbrev oddV (V : am_M) (s : Nat) : Prop := oddP (V 73) (V 74) (V 75) s
theorem c_R_isTrial {b t : Int32} (hE : am_env S) (hR : RS V M) (hI : IV V) (k : K (some (.int (bI (tP V b t)))) S M L) : am_Call X (d + 2) m_R_isTrial [.ref 70, .int b, .int t] S M L K := by
  refine EE_R_isTrial pt26_ok ?_
  simp only [s_aload_0_ref, s_get2, s_goto, s_i2l, s_iald, s_iconst, s_if_eq, s_iload_1_int, s_iload_2_int, s_ireturnZ, s_ist_3, s_isub, s_iv_1, s_lconst, J_R_isTrial_0, b_R_isTrial_0, J_R_isTrial_35, b_R_isTrial_35, J_R_isTrial_36, b_R_isTrial_36, s_end, true_and, and_true, or_true, true_or, if_true, if_false, ite_true, ite_false, List.map_nil, List.map_cons, List.sum_nil, List.sum_cons, List.nil_append, List.cons_append, Option.toList_some, Option.toList_none, Nat.reduceAdd, Nat.reduceLeDiff, Nat.reduceSub, Nat.zero_le, List.headD_cons, List.tail_cons, List.length_cons, List.length_nil, ne_eq, reduceCtorEq, false_or, or_false, not_false_eq_true, Nat.reduceEqDiff, Nat.reduceLT, am_sw, bI_0, bI_z, bI_y, Classical.not_not, Nat.le_add_left, am_u_row2, am_r_row2, am_u_same, am_u_at, am_r_same, Int32.reduceLT, Int32.reduceLE, Int32.reduceAdd, Int32.reduceSub, Int32.reduceMul, forall_const, not_true_eq_false, implies_true, false_imp_iff, true_imp_iff, i_10, i_01, i_m10, i_m11, eq_self, or_self, false_and, and_false, and_self, am_so_some, am_pv_some, am_pv_none, l_cl_none, l_cl_int, l_cl_ref, l_cl_ra, l_cl_null, l_cl_long, cat_int, cat_ref, cat_long, cat_ra, cat_null, cl_0, cl_1, cl_2, cl_3, cl_4, cl_5, cl_6, cl_7, cl_8, cl_9, cl_10, cl_11, cl_12, cl_13, cl_14, cl_15, cl_16, cl_30, cl_64, cl_500, vl_0_2, vl_0_3, vl_0_4, vl_0_6, vl_0_7, vl_0_12, vl_0_16, vl_0_1400, vl_1_2, vl_1_3, vl_1_4, vl_1_6, vl_1_7, vl_1_12, vl_1_16, vl_1_1400, vl_2_3, vl_2_4, vl_2_6, vl_2_7, vl_2_12, vl_2_16, vl_2_1400, vl_3_4, vl_3_6, vl_3_7, vl_3_12, vl_3_16, vl_3_1400, vl_4_6, vl_4_7, vl_4_12, vl_4_16, vl_4_1400, vl_5_6, vl_5_7, vl_5_12, vl_5_16, vl_5_1400, vl_6_7, vl_6_12, vl_6_16, vl_6_1400, vl_7_12, vl_7_16, vl_8_12, vl_8_16, vl_9_12, vl_9_16, vl_10_12, vl_10_16, vl_11_12, vl_11_16, i_64le_e, i64a_0, i64b_0, i64a_1, i64b_1, i64a_2, i64b_2, i64a_3, i64b_3, i64a_4, i64b_4, i64a_5, i64b_5, i64a_7, i64b_7, i64a_8, i64b_8, i64a_9, i64b_9, i64a_10, i64b_10, i64a_16, i64b_16, i64a_50, i64b_50, i64a_m50, i64b_m50, i64a_60, i64b_60, i64a_99, i64b_99, i64a_100, i64b_100, i64a_500, i64b_500, i64a_600, i64b_600, i64a_1000, i64b_1000, i64a_1000000, i64b_1000000, i64a_m9, i64b_m9, e_s_70, e_i_70, e_l_70, e_p_70_0, e_p_70_1, e_p_70_2, e_p_70_3, e_p_70_4, e_p_70_5, e_p_70_6, e_p_70_7, e_p_70_10, e_p_70_11, e_p_70_12, e_p_70_13, e_p_70_14, e_p_70_15, e_p_70_16, e_p_70_24, e_p_70_29, e_p_70_30, e_p_70_31, e_p_70_32, e_p_70_33, e_p_70_34, e_p_70_35, e_p_70_36, e_p_70_37, e_p_70_38, e_p_70_39, e_p_70_41, e_p_70_42, e_p_70_44, e_p_70_45, e_p_70_46, e_p_70_53, e_p_70_54, e_p_70_55, e_p_70_56, e_p_70_59, e_p_70_61, e_p_70_62, e_s_77, e_i_77, e_l_77, e_s_79, e_i_79, e_l_79, pt26_R_in, pt26_R_isBaby, hR.f17, hR.r77, hR.r79, hE]
  have e1 : ∀ s, (s ≤ V 70 17 - 1) = (s < nI (nB V)) := fun s => by rw [hI.nb.1]; exact propext (i_pred (by have := hI.nb.2; omega))
  simp only [e1]
  by_cases h1 : 0 ≤ b ∧ b < nI (nB V)
  · obtain ⟨j, hj, rfl⟩ := i_ix (Int32.not_lt.mpr h1.1) h1.2 (by have := hI.nb.2; omega)
    obtain ⟨p1, p2, p3, p4, p5, p6⟩ := hI.tn hj
    have e2 : ∀ s, (s ≤ nI (tN V j) - 1) = (s < nI (tN V j)) := fun s => propext (i_pred (by omega))
    simp (disch := omega) only [p1, p3, e2, nI_clamp, nI_le', nI_lt', nI_eq', rem2_1, rem2_0, nI_eq0, nI_le0, nI_0lt, nI_0le, nI_lt0, nI_m1, vp_inE, nm_nI, i_20, nI_1, nI_add, and_true, true_and, and_self, or_true, true_or, or_false, false_or, false_and, and_false, not_true_eq_false, not_false_eq_true, if_true, if_false, ite_true, ite_false, false_imp_iff, true_imp_iff, rsn_00, rsn_10, rsn_01, rsn_11, n_09, n_19, n_29, n_99, implies_true, bI_t, bI_f, or_self, ne_eq, eq_self, Classical.not_not, Bool.false_eq_true]
    have tp : tP V (nI j) t ↔ (0 ≤ t ∧ t < nI (tN V j)) := by
      unfold tP
      rw [nm_nI (by omega)]
      exact ⟨fun h => h.2, fun h => ⟨h1, h⟩⟩
    simp only [hj, and_true, true_and, and_self, or_true, true_or, or_false, false_or, false_and, and_false, not_true_eq_false, not_false_eq_true, if_true, if_false, ite_true, ite_false, false_imp_iff, true_imp_iff, rsn_00, rsn_10, rsn_01, rsn_11, n_09, n_19, n_29, n_99, implies_true, bI_t, bI_f, or_self, ne_eq, eq_self, Classical.not_not, Bool.false_eq_true]
    refine ⟨fun h => ?_, fun h => ?_⟩
    · rw [bI_f (fun q => h (tp.mp q))] at k; exact k
    · rw [bI_t (tp.mpr h)] at k; exact k
  · rw [bI_f (fun q => h1 q.1)] at k
    simp only [h1, and_true, true_and, and_self, or_true, true_or, or_false, false_or, false_and, and_false, not_true_eq_false, not_false_eq_true, if_true, if_false, ite_true, ite_false, false_imp_iff, true_imp_iff, rsn_00, rsn_10, rsn_01, rsn_11, n_09, n_19, n_29, n_99, implies_true, bI_t, bI_f, or_self, ne_eq, eq_self, Classical.not_not, Bool.false_eq_true] at k ⊢
    exact k
theorem c_L_hasBabyTrial {b t : Int32} (hE : am_env S) (hC : CV V M) (hI : IV V) (k : K (some (.int (bI (tP V b t)))) S M L) : am_Call X (d + 2) m_L_hasBabyTrial [.ref 0, .int b, .int t] S M L K := by
  have m30 : M 30 = V 77 := hC.st.r30
  refine EE_L_hasBabyTrial pt26_ok ?_
  simp only [s_aload_0_ref, s_get2, s_goto, s_iald, s_iconst, s_if_eq, s_iload_1_int, s_iload_2_int, s_ireturnZ, s_iv_1, s_iv_2, J_L_hasBabyTrial_0, b_L_hasBabyTrial_0, J_L_hasBabyTrial_35, b_L_hasBabyTrial_35, J_L_hasBabyTrial_36, b_L_hasBabyTrial_36, s_end, true_and, and_true, or_true, true_or, if_true, if_false, ite_true, ite_false, List.map_nil, List.map_cons, List.sum_nil, List.sum_cons, List.nil_append, List.cons_append, Option.toList_some, Option.toList_none, Nat.reduceAdd, Nat.reduceLeDiff, Nat.reduceSub, Nat.zero_le, List.headD_cons, List.tail_cons, List.length_cons, List.length_nil, ne_eq, reduceCtorEq, false_or, or_false, not_false_eq_true, Nat.reduceEqDiff, Nat.reduceLT, am_sw, bI_0, bI_z, bI_y, Classical.not_not, Nat.le_add_left, am_u_row2, am_r_row2, am_u_same, am_u_at, am_r_same, Int32.reduceLT, Int32.reduceLE, Int32.reduceAdd, Int32.reduceSub, Int32.reduceMul, forall_const, not_true_eq_false, implies_true, false_imp_iff, true_imp_iff, i_10, i_01, i_m10, i_m11, eq_self, or_self, false_and, and_false, and_self, am_so_some, am_pv_some, am_pv_none, l_cl_none, l_cl_int, l_cl_ref, l_cl_ra, l_cl_null, l_cl_long, cat_int, cat_ref, cat_long, cat_ra, cat_null, cl_0, cl_1, cl_2, cl_3, cl_4, cl_5, cl_6, cl_7, cl_8, cl_9, cl_10, cl_11, cl_12, cl_13, cl_14, cl_15, cl_16, cl_30, cl_64, cl_500, vl_0_2, vl_0_3, vl_0_4, vl_0_6, vl_0_7, vl_0_12, vl_0_16, vl_0_1400, vl_1_2, vl_1_3, vl_1_4, vl_1_6, vl_1_7, vl_1_12, vl_1_16, vl_1_1400, vl_2_3, vl_2_4, vl_2_6, vl_2_7, vl_2_12, vl_2_16, vl_2_1400, vl_3_4, vl_3_6, vl_3_7, vl_3_12, vl_3_16, vl_3_1400, vl_4_6, vl_4_7, vl_4_12, vl_4_16, vl_4_1400, vl_5_6, vl_5_7, vl_5_12, vl_5_16, vl_5_1400, vl_6_7, vl_6_12, vl_6_16, vl_6_1400, vl_7_12, vl_7_16, vl_8_12, vl_8_16, vl_9_12, vl_9_16, vl_10_12, vl_10_16, vl_11_12, vl_11_16, i_64le_e, i64a_0, i64b_0, i64a_1, i64b_1, i64a_2, i64b_2, i64a_3, i64b_3, i64a_4, i64b_4, i64a_5, i64b_5, i64a_7, i64b_7, i64a_8, i64b_8, i64a_9, i64b_9, i64a_10, i64b_10, i64a_16, i64b_16, i64a_50, i64b_50, i64a_m50, i64b_m50, i64a_60, i64b_60, i64a_99, i64b_99, i64a_100, i64b_100, i64a_500, i64b_500, i64a_600, i64b_600, i64a_1000, i64b_1000, i64a_1000000, i64b_1000000, i64a_m9, i64b_m9, e_s_0, e_i_0, e_l_0, e_p_0_0, e_p_0_1, e_p_0_2, e_p_0_3, e_p_0_4, e_p_0_5, e_p_0_6, e_p_0_7, e_p_0_8, e_p_0_9, e_p_0_10, e_p_0_11, e_p_0_12, e_p_0_13, e_s_1, e_i_1, e_l_1, e_s_2, e_i_2, e_l_2, e_p_2_0, e_p_2_1, e_p_2_2, e_p_2_3, e_s_7, e_i_7, e_l_7, e_p_7_0, e_p_7_1, e_p_7_3, e_s_16, e_i_16, e_l_16, e_p_16_0, e_p_16_1, e_p_16_2, e_p_16_3, e_p_16_4, e_p_16_5, e_s_23, e_i_23, e_l_23, e_p_23_0, e_p_23_1, e_p_23_2, e_p_23_3, e_p_23_4, e_p_23_5, e_p_23_6, e_s_31, e_i_31, e_l_31, e_p_31_0, e_p_31_1, e_p_31_2, e_p_31_3, e_p_31_4, e_p_31_5, e_p_31_6, e_s_32, e_i_32, e_l_32, e_s_39, e_i_39, e_l_39, e_p_39_0, e_p_39_1, e_p_39_2, e_p_39_3, e_p_39_4, e_p_39_5, e_p_39_6, e_s_40, e_i_40, e_l_40, e_s_47, e_i_47, e_l_47, e_s_48, e_i_48, e_l_48, e_p_48_0, e_p_48_1, e_p_48_2, e_p_48_3, e_p_48_5, e_s_51, e_i_51, e_l_51, e_p_51_0, e_p_51_1, e_p_51_2, e_p_51_3, e_p_51_4, e_s_54, e_i_54, e_l_54, e_p_54_0, e_p_54_1, e_p_54_2, e_p_54_3, e_p_54_4, e_p_54_5, e_p_54_6, e_p_54_7, e_s_61, e_i_61, e_l_61, e_p_61_0, e_p_61_1, e_s_62, e_i_62, e_l_62, e_p_62_0, e_p_62_1, e_p_62_2, e_p_62_3, e_p_62_4, e_p_62_5, e_p_62_6, e_p_62_7, e_p_62_12, e_s_69, e_i_69, e_l_69, pt26_Lab_hasBaby, pt26_Stage_hasTrial, hC.lab.f7, hC.st.f8, m30, hE]
  rw [hI.nb.1]
  by_cases h1 : 0 ≤ b ∧ b < nI (nB V)
  · obtain ⟨j, hj, rfl⟩ := i_ix (Int32.not_lt.mpr h1.1) h1.2 (by have := hI.nb.2; omega)
    obtain ⟨p1, p2, p3, p4, p5, p6⟩ := hI.tn hj
    have m32 : M 32 j = V 79 j := hC.lab.pl j hj
    have np1 := hI.np.1
    simp (disch := omega) only [m32, p1, p3, np1, p2, nI_clamp, nI_le', nI_lt', nI_eq', rem2_1, rem2_0, nI_eq0, nI_le0, nI_0lt, nI_0le, nI_lt0, nI_m1, vp_inE, nm_nI, i_20, nI_1, nI_add, and_true, true_and, and_self, or_true, true_or, or_false, false_or, false_and, and_false, not_true_eq_false, not_false_eq_true, if_true, if_false, ite_true, ite_false, false_imp_iff, true_imp_iff, rsn_00, rsn_10, rsn_01, rsn_11, n_09, n_19, n_29, n_99, implies_true, bI_t, bI_f, or_self, ne_eq, eq_self, Classical.not_not, Bool.false_eq_true]
    have tp : tP V (nI j) t ↔ (0 ≤ t ∧ t < nI (tN V j)) := by
      unfold tP
      rw [nm_nI (by omega)]
      exact ⟨fun h => h.2, fun h => ⟨h1, h⟩⟩
    simp only [hj, and_true, true_and, and_self, or_true, true_or, or_false, false_or, false_and, and_false, not_true_eq_false, not_false_eq_true, if_true, if_false, ite_true, ite_false, false_imp_iff, true_imp_iff, rsn_00, rsn_10, rsn_01, rsn_11, n_09, n_19, n_29, n_99, implies_true, bI_t, bI_f, or_self, ne_eq, eq_self, Classical.not_not, Bool.false_eq_true]
    refine ⟨fun h => ?_, fun h => ?_⟩
    · rw [bI_f (fun q => h (tp.mp q))] at k; exact k
    · rw [bI_t (tp.mpr h)] at k; exact k
  · rw [bI_f (fun q => h1 q.1)] at k
    simp only [h1, and_true, true_and, and_self, or_true, true_or, or_false, false_or, false_and, and_false, not_true_eq_false, not_false_eq_true, if_true, if_false, ite_true, ite_false, false_imp_iff, true_imp_iff, rsn_00, rsn_10, rsn_01, rsn_11, n_09, n_19, n_29, n_99, implies_true, bI_t, bI_f, or_self, ne_eq, eq_self, Classical.not_not, Bool.false_eq_true] at k ⊢
    exact k
theorem c_R_screenOf {b t : Int32} (hp : am_env S ∧ vp_in b 16 ∧ vp_in (8 * M 79 b.toNatClampNeg + t) 32) (k : K (some (.int (M 78 (8 * M 79 b.toNatClampNeg + t).toNatClampNeg))) S M L) : am_Call X d m_R_screenOf [.ref 70, .int b, .int t] S M L K := by
  have hE := hp.1
  refine EE_R_screenOf pt26_ok ?_
  simp only [s_aload_0_ref, s_bipush, s_get2, s_iadd, s_iald, s_iload_1_int, s_iload_2_int, s_imul, s_ireturn, J_R_screenOf_0, b_R_screenOf_0, s_end, true_and, and_true, or_true, true_or, if_true, if_false, ite_true, ite_false, List.map_nil, List.map_cons, List.sum_nil, List.sum_cons, List.nil_append, List.cons_append, Option.toList_some, Option.toList_none, Nat.reduceAdd, Nat.reduceLeDiff, Nat.reduceSub, Nat.zero_le, List.headD_cons, List.tail_cons, List.length_cons, List.length_nil, ne_eq, reduceCtorEq, false_or, or_false, not_false_eq_true, Nat.reduceEqDiff, Nat.reduceLT, am_sw, bI_0, bI_z, bI_y, Classical.not_not, Nat.le_add_left, am_u_row2, am_r_row2, am_u_same, am_u_at, am_r_same, Int32.reduceLT, Int32.reduceLE, Int32.reduceAdd, Int32.reduceSub, Int32.reduceMul, forall_const, not_true_eq_false, implies_true, false_imp_iff, true_imp_iff, i_10, i_01, i_m10, i_m11, eq_self, or_self, false_and, and_false, and_self, am_so_some, am_pv_some, am_pv_none, l_cl_none, l_cl_int, l_cl_ref, l_cl_ra, l_cl_null, l_cl_long, cat_int, cat_ref, cat_long, cat_ra, cat_null, cl_0, cl_1, cl_2, cl_3, cl_4, cl_5, cl_6, cl_7, cl_8, cl_9, cl_10, cl_11, cl_12, cl_13, cl_14, cl_15, cl_16, cl_30, cl_64, cl_500, vl_0_2, vl_0_3, vl_0_4, vl_0_6, vl_0_7, vl_0_12, vl_0_16, vl_0_1400, vl_1_2, vl_1_3, vl_1_4, vl_1_6, vl_1_7, vl_1_12, vl_1_16, vl_1_1400, vl_2_3, vl_2_4, vl_2_6, vl_2_7, vl_2_12, vl_2_16, vl_2_1400, vl_3_4, vl_3_6, vl_3_7, vl_3_12, vl_3_16, vl_3_1400, vl_4_6, vl_4_7, vl_4_12, vl_4_16, vl_4_1400, vl_5_6, vl_5_7, vl_5_12, vl_5_16, vl_5_1400, vl_6_7, vl_6_12, vl_6_16, vl_6_1400, vl_7_12, vl_7_16, vl_8_12, vl_8_16, vl_9_12, vl_9_16, vl_10_12, vl_10_16, vl_11_12, vl_11_16, i_64le_e, i64a_0, i64b_0, i64a_1, i64b_1, i64a_2, i64b_2, i64a_3, i64b_3, i64a_4, i64b_4, i64a_5, i64b_5, i64a_7, i64b_7, i64a_8, i64b_8, i64a_9, i64b_9, i64a_10, i64b_10, i64a_16, i64b_16, i64a_50, i64b_50, i64a_m50, i64b_m50, i64a_60, i64b_60, i64a_99, i64b_99, i64a_100, i64b_100, i64a_500, i64b_500, i64a_600, i64b_600, i64a_1000, i64b_1000, i64a_1000000, i64b_1000000, i64a_m9, i64b_m9, e_s_70, e_i_70, e_l_70, e_p_70_0, e_p_70_1, e_p_70_2, e_p_70_3, e_p_70_4, e_p_70_5, e_p_70_6, e_p_70_7, e_p_70_10, e_p_70_11, e_p_70_12, e_p_70_13, e_p_70_14, e_p_70_15, e_p_70_16, e_p_70_24, e_p_70_29, e_p_70_30, e_p_70_31, e_p_70_32, e_p_70_33, e_p_70_34, e_p_70_35, e_p_70_36, e_p_70_37, e_p_70_38, e_p_70_39, e_p_70_41, e_p_70_42, e_p_70_44, e_p_70_45, e_p_70_46, e_p_70_53, e_p_70_54, e_p_70_55, e_p_70_56, e_p_70_59, e_p_70_61, e_p_70_62, e_s_78, e_i_78, e_l_78, e_s_79, e_i_79, e_l_79, hE]
  exact ⟨hp.2.1, hp.2.2, k⟩
theorem c_R_trialsOf {b : Int32} (hp : am_env S ∧ vp_in b 16 ∧ vp_in (M 79 b.toNatClampNeg) 4) (k : K (some (.int (M 77 (M 79 b.toNatClampNeg).toNatClampNeg))) S M L) : am_Call X d m_R_trialsOf [.ref 70, .int b] S M L K := by
  have hE := hp.1
  refine EE_R_trialsOf pt26_ok ?_
  simp only [s_aload_0_ref, s_get2, s_iald, s_iload_1_int, s_ireturn, J_R_trialsOf_0, b_R_trialsOf_0, s_end, true_and, and_true, or_true, true_or, if_true, if_false, ite_true, ite_false, List.map_nil, List.map_cons, List.sum_nil, List.sum_cons, List.nil_append, List.cons_append, Option.toList_some, Option.toList_none, Nat.reduceAdd, Nat.reduceLeDiff, Nat.reduceSub, Nat.zero_le, List.headD_cons, List.tail_cons, List.length_cons, List.length_nil, ne_eq, reduceCtorEq, false_or, or_false, not_false_eq_true, Nat.reduceEqDiff, Nat.reduceLT, am_sw, bI_0, bI_z, bI_y, Classical.not_not, Nat.le_add_left, am_u_row2, am_r_row2, am_u_same, am_u_at, am_r_same, Int32.reduceLT, Int32.reduceLE, Int32.reduceAdd, Int32.reduceSub, Int32.reduceMul, forall_const, not_true_eq_false, implies_true, false_imp_iff, true_imp_iff, i_10, i_01, i_m10, i_m11, eq_self, or_self, false_and, and_false, and_self, am_so_some, am_pv_some, am_pv_none, l_cl_none, l_cl_int, l_cl_ref, l_cl_ra, l_cl_null, l_cl_long, cat_int, cat_ref, cat_long, cat_ra, cat_null, cl_0, cl_1, cl_2, cl_3, cl_4, cl_5, cl_6, cl_7, cl_8, cl_9, cl_10, cl_11, cl_12, cl_13, cl_14, cl_15, cl_16, cl_30, cl_64, cl_500, vl_0_2, vl_0_3, vl_0_4, vl_0_6, vl_0_7, vl_0_12, vl_0_16, vl_0_1400, vl_1_2, vl_1_3, vl_1_4, vl_1_6, vl_1_7, vl_1_12, vl_1_16, vl_1_1400, vl_2_3, vl_2_4, vl_2_6, vl_2_7, vl_2_12, vl_2_16, vl_2_1400, vl_3_4, vl_3_6, vl_3_7, vl_3_12, vl_3_16, vl_3_1400, vl_4_6, vl_4_7, vl_4_12, vl_4_16, vl_4_1400, vl_5_6, vl_5_7, vl_5_12, vl_5_16, vl_5_1400, vl_6_7, vl_6_12, vl_6_16, vl_6_1400, vl_7_12, vl_7_16, vl_8_12, vl_8_16, vl_9_12, vl_9_16, vl_10_12, vl_10_16, vl_11_12, vl_11_16, i_64le_e, i64a_0, i64b_0, i64a_1, i64b_1, i64a_2, i64b_2, i64a_3, i64b_3, i64a_4, i64b_4, i64a_5, i64b_5, i64a_7, i64b_7, i64a_8, i64b_8, i64a_9, i64b_9, i64a_10, i64b_10, i64a_16, i64b_16, i64a_50, i64b_50, i64a_m50, i64b_m50, i64a_60, i64b_60, i64a_99, i64b_99, i64a_100, i64b_100, i64a_500, i64b_500, i64a_600, i64b_600, i64a_1000, i64b_1000, i64a_1000000, i64b_1000000, i64a_m9, i64b_m9, e_s_70, e_i_70, e_l_70, e_p_70_0, e_p_70_1, e_p_70_2, e_p_70_3, e_p_70_4, e_p_70_5, e_p_70_6, e_p_70_7, e_p_70_10, e_p_70_11, e_p_70_12, e_p_70_13, e_p_70_14, e_p_70_15, e_p_70_16, e_p_70_24, e_p_70_29, e_p_70_30, e_p_70_31, e_p_70_32, e_p_70_33, e_p_70_34, e_p_70_35, e_p_70_36, e_p_70_37, e_p_70_38, e_p_70_39, e_p_70_41, e_p_70_42, e_p_70_44, e_p_70_45, e_p_70_46, e_p_70_53, e_p_70_54, e_p_70_55, e_p_70_56, e_p_70_59, e_p_70_61, e_p_70_62, e_s_77, e_i_77, e_l_77, e_s_79, e_i_79, e_l_79, hE]
  exact ⟨hp.2.1, hp.2.2, k⟩
def f_R_screenOf : List Value → am_S → am_M → am_L → Option (Prop × Nat × Option Value × am_M × am_L) := fun avs S M L => match avs with
  | [.ref 70, .int b, .int t] => some (am_env S ∧ vp_in b 16 ∧ vp_in (8 * M 79 b.toNatClampNeg + t) 32, 0, some (.int (M 78 (8 * M 79 b.toNatClampNeg + t).toNatClampNeg)), M, L)
  | _ => none
theorem cal_R_screenOf {X : am_X} {PT : am_PT} {d : Nat} {K : am_K} {S : am_S} {M : am_M} {L : am_L} {b : Int32} {t : Int32} (hPT9 : PT 180 = some f_R_screenOf) : am_cal X PT d 180 [.ref 70, .int b, .int t] S M L K = (0 ≤ d ∧ (am_env S ∧ vp_in b 16 ∧ vp_in (8 * M 79 b.toNatClampNeg + t) 32) ∧ K (some (.int (M 78 (8 * M 79 b.toNatClampNeg + t).toNatClampNeg))) S (M) (L)) := by
  unfold am_cal
  rw [hPT9]
  exact propext Iff.rfl
theorem g_R_screenOf : am_PTf 180 f_R_screenOf := by
  intro avs S M L o h hp X d K k
  unfold f_R_screenOf at h
  split at h
  · cases h
    exact c_R_screenOf hp k
  · cases h
def f_R_trialsOf : List Value → am_S → am_M → am_L → Option (Prop × Nat × Option Value × am_M × am_L) := fun avs S M L => match avs with
  | [.ref 70, .int b] => some (am_env S ∧ vp_in b 16 ∧ vp_in (M 79 b.toNatClampNeg) 4, 0, some (.int (M 77 (M 79 b.toNatClampNeg).toNatClampNeg)), M, L)
  | _ => none
theorem cal_R_trialsOf {X : am_X} {PT : am_PT} {d : Nat} {K : am_K} {S : am_S} {M : am_M} {L : am_L} {b : Int32} (hPT9 : PT 184 = some f_R_trialsOf) : am_cal X PT d 184 [.ref 70, .int b] S M L K = (0 ≤ d ∧ (am_env S ∧ vp_in b 16 ∧ vp_in (M 79 b.toNatClampNeg) 4) ∧ K (some (.int (M 77 (M 79 b.toNatClampNeg).toNatClampNeg))) S (M) (L)) := by
  unfold am_cal
  rw [hPT9]
  exact propext Iff.rfl
theorem g_R_trialsOf : am_PTf 184 f_R_trialsOf := by
  intro avs S M L o h hp X d K k
  unfold f_R_trialsOf at h
  split at h
  · cases h
    exact c_R_trialsOf hp k
  · cases h
def pt27 : am_PT := am_add pt26 180 f_R_screenOf
theorem pt27_ok : am_PTok pt27 := am_add_ok pt26_ok g_R_screenOf
def pt28 : am_PT := am_add pt27 184 f_R_trialsOf
theorem pt28_ok : am_PTok pt28 := am_add_ok pt27_ok g_R_trialsOf
theorem pt28_L_within {X : am_X} {d : Nat} {K : am_K} {S : am_S} {M : am_M} {L : am_L} {n : Int32} {lo : Int32} {hi : Int32} : am_cal X pt28 d 156 [.int n, .int lo, .int hi] S M L K = (0 ≤ d ∧ (True) ∧ K (some (.int (bI (lo ≤ n ∧ n ≤ hi)))) S (M) (L)) := cal_L_within (show pt28 156 = some f_L_within from rfl)
theorem pt28_L_brought {X : am_X} {d : Nat} {K : am_K} {S : am_S} {M : am_M} {L : am_L} {n : Int32} {lo : Int32} {hi : Int32} : am_cal X pt28 d 157 [.int n, .int lo, .int hi] S M L K = (1 ≤ d ∧ (True) ∧ K (some (.int (bro n lo hi))) S (M) (L)) := cal_L_brought (show pt28 157 = some f_L_brought from rfl)
theorem pt28_L_refuse {X : am_X} {d : Nat} {K : am_K} {S : am_S} {M : am_M} {L : am_L} {r : Int32} : am_cal X pt28 d 151 [.ref 0, .int r] S M L K = (0 ≤ d ∧ (am_env S ∧ vp_in r 3) ∧ K (some (.int (-1))) S (rfL M r.toNatClampNeg) (L)) := cal_L_refuse (show pt28 151 = some f_L_refuse from rfl)
theorem pt28_L_deny {X : am_X} {d : Nat} {K : am_K} {S : am_S} {M : am_M} {L : am_L} {r : Int32} : am_cal X pt28 d 152 [.ref 0, .int r] S M L K = (0 ≤ d ∧ (am_env S ∧ vp_in r 3) ∧ K (some (.int 0)) S (rfL M r.toNatClampNeg) (L)) := cal_L_deny (show pt28 152 = some f_L_deny from rfl)
theorem pt28_R_in {X : am_X} {d : Nat} {K : am_K} {S : am_S} {M : am_M} {L : am_L} {v : Int64} {lo : Int64} {hi : Int64} : am_cal X pt28 d 159 [.long v, .long lo, .long hi] S M L K = (0 ≤ d ∧ (True) ∧ K (some (.int (bI (lo ≤ v ∧ v ≤ hi)))) S (M) (L)) := cal_R_in (show pt28 159 = some f_R_in from rfl)
theorem pt28_R_refuse {X : am_X} {d : Nat} {K : am_K} {S : am_S} {M : am_M} {L : am_L} {a : Int32} {b : Int32} : am_cal X pt28 d 160 [.ref 70, .int a, .int b] S M L K = (0 ≤ d ∧ (am_env S) ∧ K (some (.int (-1))) S (rfR M (rsn a b)) (L)) := cal_R_refuse (show pt28 160 = some f_R_refuse from rfl)
theorem pt28_R_deny {X : am_X} {d : Nat} {K : am_K} {S : am_S} {M : am_M} {L : am_L} {a : Int32} {b : Int32} : am_cal X pt28 d 161 [.ref 70, .int a, .int b] S M L K = (1 ≤ d ∧ (am_env S) ∧ K (some (.int 0)) S (rfR M (rsn a b)) (L)) := cal_R_deny (show pt28 161 = some f_R_deny from rfl)
theorem pt28_R_isScreen {X : am_X} {d : Nat} {K : am_K} {S : am_S} {M : am_M} {L : am_L} {s : Int32} : am_cal X pt28 d 165 [.ref 70, .int s] S M L K = (1 ≤ d ∧ (am_env S) ∧ K (some (.int (bI (0 ≤ s ∧ s ≤ M 70 8 - 1)))) S (M) (L)) := cal_R_isScreen (show pt28 165 = some f_R_isScreen from rfl)
theorem pt28_R_isPlan {X : am_X} {d : Nat} {K : am_K} {S : am_S} {M : am_M} {L : am_L} {s : Int32} : am_cal X pt28 d 169 [.ref 70, .int s] S M L K = (1 ≤ d ∧ (am_env S) ∧ K (some (.int (bI (0 ≤ s ∧ s ≤ M 70 9 - 1)))) S (M) (L)) := cal_R_isPlan (show pt28 169 = some f_R_isPlan from rfl)
theorem pt28_R_isBaby {X : am_X} {d : Nat} {K : am_K} {S : am_S} {M : am_M} {L : am_L} {s : Int32} : am_cal X pt28 d 173 [.ref 70, .int s] S M L K = (1 ≤ d ∧ (am_env S) ∧ K (some (.int (bI (0 ≤ s ∧ s ≤ M 70 17 - 1)))) S (M) (L)) := cal_R_isBaby (show pt28 173 = some f_R_isBaby from rfl)
theorem pt28_R_isLaw {X : am_X} {d : Nat} {K : am_K} {S : am_S} {M : am_M} {L : am_L} {s : Int32} : am_cal X pt28 d 209 [.ref 70, .int s] S M L K = (1 ≤ d ∧ (am_env S) ∧ K (some (.int (bI (0 ≤ s ∧ s ≤ M 97 0 - 1)))) S (M) (L)) := cal_R_isLaw (show pt28 209 = some f_R_isLaw from rfl)
theorem pt28_R_isOdd {X : am_X} {d : Nat} {K : am_K} {S : am_S} {M : am_M} {L : am_L} {s : Int32} : am_cal X pt28 d 166 [.ref 70, .int s] S M L K = (0 ≤ d ∧ (am_env S ∧ vp_in s 12) ∧ K (some (.int (bI (oddP (M 73) (M 74) (M 75) s.toNatClampNeg)))) S (M) (L)) := cal_R_isOdd (show pt28 166 = some f_R_isOdd from rfl)
theorem pt28_Stage_isOdd {X : am_X} {d : Nat} {K : am_K} {S : am_S} {M : am_M} {L : am_L} {s : Int32} : am_cal X pt28 d 77 [.ref 23, .int s] S M L K = (0 ≤ d ∧ (am_env S ∧ vp_in s 12) ∧ K (some (.int (bI (oddP (M 25) (M 26) (M 27) s.toNatClampNeg)))) S (M) (L)) := cal_Stage_isOdd (show pt28 77 = some f_Stage_isOdd from rfl)
theorem pt28_Stage_hasScreen {X : am_X} {d : Nat} {K : am_K} {S : am_S} {M : am_M} {L : am_L} {s : Int32} : am_cal X pt28 d 74 [.ref 23, .int s] S M L K = (0 ≤ d ∧ (am_env S) ∧ K (some (.int (bI (0 ≤ s ∧ s < M 23 7)))) S (M) (L)) := cal_Stage_hasScreen (show pt28 74 = some f_Stage_hasScreen from rfl)
theorem pt28_Stage_hasPlan {X : am_X} {d : Nat} {K : am_K} {S : am_S} {M : am_M} {L : am_L} {s : Int32} : am_cal X pt28 d 75 [.ref 23, .int s] S M L K = (0 ≤ d ∧ (am_env S) ∧ K (some (.int (bI (0 ≤ s ∧ s < M 23 8)))) S (M) (L)) := cal_Stage_hasPlan (show pt28 75 = some f_Stage_hasPlan from rfl)
theorem pt28_Lab_hasBaby {X : am_X} {d : Nat} {K : am_K} {S : am_S} {M : am_M} {L : am_L} {s : Int32} : am_cal X pt28 d 23 [.ref 31, .int s] S M L K = (0 ≤ d ∧ (am_env S) ∧ K (some (.int (bI (0 ≤ s ∧ s < M 31 7)))) S (M) (L)) := cal_Lab_hasBaby (show pt28 23 = some f_Lab_hasBaby from rfl)
theorem pt28_Program_hasLaw {X : am_X} {d : Nat} {K : am_K} {S : am_S} {M : am_M} {L : am_L} {s : Int32} : am_cal X pt28 d 65 [.ref 16, .int s] S M L K = (0 ≤ d ∧ (am_env S) ∧ K (some (.int (bI (0 ≤ s ∧ s < M 16 7)))) S (M) (L)) := cal_Program_hasLaw (show pt28 65 = some f_Program_hasLaw from rfl)
theorem pt28_Finder_forget {X : am_X} {d : Nat} {K : am_K} {S : am_S} {M : am_M} {L : am_L}  : am_cal X pt28 d 4 [.ref 62] S M L K = (0 ≤ d ∧ (am_env S) ∧ K (none) S (am_u M 62 8 0) (L)) := cal_Finder_forget (show pt28 4 = some f_Finder_forget from rfl)
theorem pt28_Stage_addPlan {X : am_X} {d : Nat} {K : am_K} {S : am_S} {M : am_M} {L : am_L}  : am_cal X pt28 d 80 [.ref 23] S M L K = (0 ≤ d ∧ (am_env S ∧ vp_in (M 23 8) 4) ∧ K (some (.int (M 23 8))) S (am_u (am_u M 30 (M 23 8).toNatClampNeg 0) 23 8 (M 23 8 + 1)) (L)) := cal_Stage_addPlan (show pt28 80 = some f_Stage_addPlan from rfl)
theorem pt28_Stage_addScreen {X : am_X} {d : Nat} {K : am_K} {S : am_S} {M : am_M} {L : am_L} {f : Int32} {h : Int32} {s : Int32} {q : Int32} : am_cal X pt28 d 79 [.ref 23, .int f, .int h, .int s, .int q] S M L K = (0 ≤ d ∧ (am_env S ∧ vp_in (M 23 7) 12) ∧ K (some (.int (M 23 7))) S (am_u (am_u (am_u (am_u (am_u M 25 (M 23 7).toNatClampNeg f) 26 (M 23 7).toNatClampNeg h) 27 (M 23 7).toNatClampNeg s) 28 (M 23 7).toNatClampNeg q) 23 7 (M 23 7 + 1)) (L)) := cal_Stage_addScreen (show pt28 79 = some f_Stage_addScreen from rfl)
theorem pt28_Stage_screenOf {X : am_X} {d : Nat} {K : am_K} {S : am_S} {M : am_M} {L : am_L} {p : Int32} {t : Int32} : am_cal X pt28 d 78 [.ref 23, .int p, .int t] S M L K = (0 ≤ d ∧ (am_env S ∧ vp_in (p * 8 + t) 32) ∧ K (some (.int (M 29 (p * 8 + t).toNatClampNeg))) S (M) (L)) := cal_Stage_screenOf (show pt28 78 = some f_Stage_screenOf from rfl)
theorem pt28_Stage_hasTrial {X : am_X} {d : Nat} {K : am_K} {S : am_S} {M : am_M} {L : am_L} {p : Int32} {t : Int32} : am_cal X pt28 d 76 [.ref 23, .int p, .int t] S M L K = (1 ≤ d ∧ (am_env S ∧ (0 ≤ p ∧ p < M 23 8 → vp_in p 4)) ∧ K (some (.int (bI ((0 ≤ p ∧ p < M 23 8) ∧ 0 ≤ t ∧ t < M 30 p.toNatClampNeg)))) S (M) (L)) := cal_Stage_hasTrial (show pt28 76 = some f_Stage_hasTrial from rfl)
theorem pt28_Stage_addTrial {X : am_X} {d : Nat} {K : am_K} {S : am_S} {M : am_M} {L : am_L} {p : Int32} {s : Int32} : am_cal X pt28 d 81 [.ref 23, .int p, .int s] S M L K = (0 ≤ d ∧ (am_env S ∧ vp_in p 4 ∧ vp_in (p * 8 + M 30 p.toNatClampNeg) 32) ∧ K (some (.int (M 30 p.toNatClampNeg + 1))) S (am_u (am_u M 29 (p * 8 + M 30 p.toNatClampNeg).toNatClampNeg s) 30 p.toNatClampNeg (M 30 p.toNatClampNeg + 1)) (L)) := cal_Stage_addTrial (show pt28 81 = some f_Stage_addTrial from rfl)
theorem pt28_Lab_gazeSize {X : am_X} {d : Nat} {K : am_K} {S : am_S} {M : am_M} {L : am_L} {b : Int32} {t : Int32} : am_cal X pt28 d 27 [.ref 31, .int b, .int t] S M L K = (0 ≤ d ∧ (am_env S ∧ vp_in (b * 8 + t) 128) ∧ K (some (.int (M 38 (b * 8 + t).toNatClampNeg))) S (M) (L)) := cal_Lab_gazeSize (show pt28 27 = some f_Lab_gazeSize from rfl)
theorem pt28_Lab_gazeAt {X : am_X} {d : Nat} {K : am_K} {S : am_S} {M : am_M} {L : am_L} {b : Int32} {t : Int32} {i : Int32} : am_cal X pt28 d 28 [.ref 31, .int b, .int t, .int i] S M L K = (0 ≤ d ∧ (am_env S ∧ vp_in ((b * 8 + t) * 8 + i) 1024) ∧ K (some (.int (M 37 ((b * 8 + t) * 8 + i).toNatClampNeg))) S (M) (L)) := cal_Lab_gazeAt (show pt28 28 = some f_Lab_gazeAt from rfl)
theorem pt28_Lab_isCrying {X : am_X} {d : Nat} {K : am_K} {S : am_S} {M : am_M} {L : am_L} {b : Int32} {t : Int32} : am_cal X pt28 d 31 [.ref 31, .int b, .int t] S M L K = (0 ≤ d ∧ (am_env S ∧ vp_in b 16) ∧ K (some (.int (bI (¬ M 35 b.toNatClampNeg = -1 ∧ M 35 b.toNatClampNeg ≤ t)))) S (M) (L)) := cal_Lab_isCrying (show pt28 31 = some f_Lab_isCrying from rfl)
theorem pt28_R_screenOf {X : am_X} {d : Nat} {K : am_K} {S : am_S} {M : am_M} {L : am_L} {b : Int32} {t : Int32} : am_cal X pt28 d 180 [.ref 70, .int b, .int t] S M L K = (0 ≤ d ∧ (am_env S ∧ vp_in b 16 ∧ vp_in (8 * M 79 b.toNatClampNeg + t) 32) ∧ K (some (.int (M 78 (8 * M 79 b.toNatClampNeg + t).toNatClampNeg))) S (M) (L)) := cal_R_screenOf (show pt28 180 = some f_R_screenOf from rfl)
theorem pt28_R_trialsOf {X : am_X} {d : Nat} {K : am_K} {S : am_S} {M : am_M} {L : am_L} {b : Int32} : am_cal X pt28 d 184 [.ref 70, .int b] S M L K = (0 ≤ d ∧ (am_env S ∧ vp_in b 16 ∧ vp_in (M 79 b.toNatClampNeg) 4) ∧ K (some (.int (M 77 (M 79 b.toNatClampNeg).toNatClampNeg))) S (M) (L)) := cal_R_trialsOf (show pt28 184 = some f_R_trialsOf from rfl)
/-- the length of a trial -/
def lenI (V : am_M) (b t : Nat) : Int32 := if oI (plainO V b t) = -1 ∨ ¬ oddV V (scN V b t) then oI (plainO V b t) else bro (oI (plainO V b t) + V 70 21) 0 600
theorem c_R_lengthOf {b t : Nat} (hE : am_env S) (hR : RS V M) (hI : IV V) (hb : b < nB V) (ht : t < tN V b) (k : K (some (.int (lenI V b t))) S M L) : am_Call X (d + 2) m_R_lengthOf [.ref 70, .int (nI b), .int (nI t)] S M L K := by
  obtain ⟨p1, p2, p3, p4, p5, p6⟩ := hI.tn hb
  obtain ⟨q1, q2, q3⟩ := hI.sc hb ht
  refine EE_R_lengthOf pt28_ok ?_
  simp only [s_aload_0_ref, s_get0, s_goto, s_iadd, s_ic_eq, s_iconst, s_if_ne, s_iload_1_int, s_iload_2_int, s_iload_3_int, s_ireturn, s_istore_3_int, s_iv_1, s_iv_2, s_mmax, s_mmin, s_sipush, J_R_lengthOf_0, b_R_lengthOf_0, J_R_lengthOf_25, b_R_lengthOf_25, J_R_lengthOf_29, b_R_lengthOf_29, J_R_lengthOf_45, b_R_lengthOf_45, s_end, true_and, and_true, or_true, true_or, if_true, if_false, ite_true, ite_false, List.map_nil, List.map_cons, List.sum_nil, List.sum_cons, List.nil_append, List.cons_append, Option.toList_some, Option.toList_none, Nat.reduceAdd, Nat.reduceLeDiff, Nat.reduceSub, Nat.zero_le, List.headD_cons, List.tail_cons, List.length_cons, List.length_nil, ne_eq, reduceCtorEq, false_or, or_false, not_false_eq_true, Nat.reduceEqDiff, Nat.reduceLT, am_sw, bI_0, bI_z, bI_y, Classical.not_not, Nat.le_add_left, am_u_row2, am_r_row2, am_u_same, am_u_at, am_r_same, Int32.reduceLT, Int32.reduceLE, Int32.reduceAdd, Int32.reduceSub, Int32.reduceMul, forall_const, not_true_eq_false, implies_true, false_imp_iff, true_imp_iff, i_10, i_01, i_m10, i_m11, eq_self, or_self, false_and, and_false, and_self, am_so_some, am_pv_some, am_pv_none, l_cl_none, l_cl_int, l_cl_ref, l_cl_ra, l_cl_null, l_cl_long, cat_int, cat_ref, cat_long, cat_ra, cat_null, cl_0, cl_1, cl_2, cl_3, cl_4, cl_5, cl_6, cl_7, cl_8, cl_9, cl_10, cl_11, cl_12, cl_13, cl_14, cl_15, cl_16, cl_30, cl_64, cl_500, vl_0_2, vl_0_3, vl_0_4, vl_0_6, vl_0_7, vl_0_12, vl_0_16, vl_0_1400, vl_1_2, vl_1_3, vl_1_4, vl_1_6, vl_1_7, vl_1_12, vl_1_16, vl_1_1400, vl_2_3, vl_2_4, vl_2_6, vl_2_7, vl_2_12, vl_2_16, vl_2_1400, vl_3_4, vl_3_6, vl_3_7, vl_3_12, vl_3_16, vl_3_1400, vl_4_6, vl_4_7, vl_4_12, vl_4_16, vl_4_1400, vl_5_6, vl_5_7, vl_5_12, vl_5_16, vl_5_1400, vl_6_7, vl_6_12, vl_6_16, vl_6_1400, vl_7_12, vl_7_16, vl_8_12, vl_8_16, vl_9_12, vl_9_16, vl_10_12, vl_10_16, vl_11_12, vl_11_16, i_64le_e, i64a_0, i64b_0, i64a_1, i64b_1, i64a_2, i64b_2, i64a_3, i64b_3, i64a_4, i64b_4, i64a_5, i64b_5, i64a_7, i64b_7, i64a_8, i64b_8, i64a_9, i64b_9, i64a_10, i64b_10, i64a_16, i64b_16, i64a_50, i64b_50, i64a_m50, i64b_m50, i64a_60, i64b_60, i64a_99, i64b_99, i64a_100, i64b_100, i64a_500, i64b_500, i64a_600, i64b_600, i64a_1000, i64b_1000, i64a_1000000, i64b_1000000, i64a_m9, i64b_m9, e_s_70, e_i_70, e_l_70, e_p_70_0, e_p_70_1, e_p_70_2, e_p_70_3, e_p_70_4, e_p_70_5, e_p_70_6, e_p_70_7, e_p_70_10, e_p_70_11, e_p_70_12, e_p_70_13, e_p_70_14, e_p_70_15, e_p_70_16, e_p_70_24, e_p_70_29, e_p_70_30, e_p_70_31, e_p_70_32, e_p_70_33, e_p_70_34, e_p_70_35, e_p_70_36, e_p_70_37, e_p_70_38, e_p_70_39, e_p_70_41, e_p_70_42, e_p_70_44, e_p_70_45, e_p_70_46, e_p_70_53, e_p_70_54, e_p_70_55, e_p_70_56, e_p_70_59, e_p_70_61, e_p_70_62, pt28_R_isOdd, pt28_R_screenOf, hE]
  refine am_cal_no rfl (c_R_plain hE hR hI hb (by omega) ?_)
  simp only [s_aload_0_ref, s_get0, s_goto, s_iadd, s_ic_eq, s_iconst, s_if_ne, s_iload_1_int, s_iload_2_int, s_iload_3_int, s_ireturn, s_istore_3_int, s_iv_1, s_iv_2, s_mmax, s_mmin, s_sipush, J_R_lengthOf_0, b_R_lengthOf_0, J_R_lengthOf_25, b_R_lengthOf_25, J_R_lengthOf_29, b_R_lengthOf_29, J_R_lengthOf_45, b_R_lengthOf_45, s_end, true_and, and_true, or_true, true_or, if_true, if_false, ite_true, ite_false, List.map_nil, List.map_cons, List.sum_nil, List.sum_cons, List.nil_append, List.cons_append, Option.toList_some, Option.toList_none, Nat.reduceAdd, Nat.reduceLeDiff, Nat.reduceSub, Nat.zero_le, List.headD_cons, List.tail_cons, List.length_cons, List.length_nil, ne_eq, reduceCtorEq, false_or, or_false, not_false_eq_true, Nat.reduceEqDiff, Nat.reduceLT, am_sw, bI_0, bI_z, bI_y, Classical.not_not, Nat.le_add_left, am_u_row2, am_r_row2, am_u_same, am_u_at, am_r_same, Int32.reduceLT, Int32.reduceLE, Int32.reduceAdd, Int32.reduceSub, Int32.reduceMul, forall_const, not_true_eq_false, implies_true, false_imp_iff, true_imp_iff, i_10, i_01, i_m10, i_m11, eq_self, or_self, false_and, and_false, and_self, am_so_some, am_pv_some, am_pv_none, l_cl_none, l_cl_int, l_cl_ref, l_cl_ra, l_cl_null, l_cl_long, cat_int, cat_ref, cat_long, cat_ra, cat_null, cl_0, cl_1, cl_2, cl_3, cl_4, cl_5, cl_6, cl_7, cl_8, cl_9, cl_10, cl_11, cl_12, cl_13, cl_14, cl_15, cl_16, cl_30, cl_64, cl_500, vl_0_2, vl_0_3, vl_0_4, vl_0_6, vl_0_7, vl_0_12, vl_0_16, vl_0_1400, vl_1_2, vl_1_3, vl_1_4, vl_1_6, vl_1_7, vl_1_12, vl_1_16, vl_1_1400, vl_2_3, vl_2_4, vl_2_6, vl_2_7, vl_2_12, vl_2_16, vl_2_1400, vl_3_4, vl_3_6, vl_3_7, vl_3_12, vl_3_16, vl_3_1400, vl_4_6, vl_4_7, vl_4_12, vl_4_16, vl_4_1400, vl_5_6, vl_5_7, vl_5_12, vl_5_16, vl_5_1400, vl_6_7, vl_6_12, vl_6_16, vl_6_1400, vl_7_12, vl_7_16, vl_8_12, vl_8_16, vl_9_12, vl_9_16, vl_10_12, vl_10_16, vl_11_12, vl_11_16, i_64le_e, i64a_0, i64b_0, i64a_1, i64b_1, i64a_2, i64b_2, i64a_3, i64b_3, i64a_4, i64b_4, i64a_5, i64b_5, i64a_7, i64b_7, i64a_8, i64b_8, i64a_9, i64b_9, i64a_10, i64b_10, i64a_16, i64b_16, i64a_50, i64b_50, i64a_m50, i64b_m50, i64a_60, i64b_60, i64a_99, i64b_99, i64a_100, i64b_100, i64a_500, i64b_500, i64a_600, i64b_600, i64a_1000, i64b_1000, i64a_1000000, i64b_1000000, i64a_m9, i64b_m9, e_s_70, e_i_70, e_l_70, e_p_70_0, e_p_70_1, e_p_70_2, e_p_70_3, e_p_70_4, e_p_70_5, e_p_70_6, e_p_70_7, e_p_70_10, e_p_70_11, e_p_70_12, e_p_70_13, e_p_70_14, e_p_70_15, e_p_70_16, e_p_70_24, e_p_70_29, e_p_70_30, e_p_70_31, e_p_70_32, e_p_70_33, e_p_70_34, e_p_70_35, e_p_70_36, e_p_70_37, e_p_70_38, e_p_70_39, e_p_70_41, e_p_70_42, e_p_70_44, e_p_70_45, e_p_70_46, e_p_70_53, e_p_70_54, e_p_70_55, e_p_70_56, e_p_70_59, e_p_70_61, e_p_70_62, pt28_R_isOdd, pt28_R_screenOf, hR.f21, hR.r78, hR.r79, hR.r73, hR.r74, hR.r75, ix8, hE]
  unfold lenI at k
  simp (disch := omega) only [p1, ix8, q1, nI_clamp, nI_le', nI_lt', nI_eq', rem2_1, rem2_0, nI_eq0, nI_le0, nI_0lt, nI_0le, nI_lt0, nI_m1, vp_inE, nm_nI, i_20, nI_1, nI_add, and_true, true_and, and_self, or_true, true_or, or_false, false_or, false_and, and_false, not_true_eq_false, not_false_eq_true, if_true, if_false, ite_true, ite_false, false_imp_iff, true_imp_iff, rsn_00, rsn_10, rsn_01, rsn_11, n_09, n_19, n_29, n_99, implies_true, bI_t, bI_f, or_self, ne_eq, eq_self, Classical.not_not, Bool.false_eq_true]
  generalize oI (plainO V b t) = z at k ⊢
  by_cases h1 : z = -1
  · simp only [h1, and_true, true_and, and_self, or_true, true_or, or_false, false_or, false_and, and_false, not_true_eq_false, not_false_eq_true, if_true, if_false, ite_true, ite_false, false_imp_iff, true_imp_iff, rsn_00, rsn_10, rsn_01, rsn_11, n_09, n_19, n_29, n_99, implies_true, bI_t, bI_f, or_self, ne_eq, eq_self, Classical.not_not, Bool.false_eq_true] at k ⊢
    exact k
  · by_cases h2 : V 75 (scN V b t) = V 73 (scN V b t) + V 74 (scN V b t)
    · simp only [h1, h2, and_true, true_and, and_self, or_true, true_or, or_false, false_or, false_and, and_false, not_true_eq_false, not_false_eq_true, if_true, if_false, ite_true, ite_false, false_imp_iff, true_imp_iff, rsn_00, rsn_10, rsn_01, rsn_11, n_09, n_19, n_29, n_99, implies_true, bI_t, bI_f, or_self, ne_eq, eq_self, Classical.not_not, Bool.false_eq_true] at k ⊢
      exact k
    · simp only [h1, h2, and_true, true_and, and_self, or_true, true_or, or_false, false_or, false_and, and_false, not_true_eq_false, not_false_eq_true, if_true, if_false, ite_true, ite_false, false_imp_iff, true_imp_iff, rsn_00, rsn_10, rsn_01, rsn_11, n_09, n_19, n_29, n_99, implies_true, bI_t, bI_f, or_self, ne_eq, eq_self, Classical.not_not, Bool.false_eq_true] at k ⊢
      exact k
theorem c_Meter_leanedLength {b t : Nat} (hE : am_env S) (hC : CV V M) (hI : IV V) (hb : b < nB V) (ht : t < tN V b) (k : K (some (.int (lenI V b t))) S M L) : am_Call X (d + 2) m_Meter_leanedLength [.ref 51, .int (nI b), .int (nI t)] S M L K := by
  obtain ⟨p1, p2, p3, p4, p5, p6⟩ := hI.tn hb
  obtain ⟨q1, q2, q3⟩ := hI.sc hb ht
  have m32 : M 32 b = V 79 b := hC.lab.pl b hb
  have mf : M 31 11 = V 70 21 := hC.lab.f11
  refine EE_Meter_leanedLength pt28_ok ?_
  simp only [s_aload_0_ref, s_get0, s_get2, s_iadd, s_iald, s_ic_eq, s_iconst, s_if_ne, s_iload_1_int, s_iload_2_int, s_iload_3_int, s_ireturn, s_ist_3, s_istore_3_int, s_iv_1, s_iv_2, s_sipush, J_Meter_leanedLength_0, b_Meter_leanedLength_0, J_Meter_leanedLength_39, b_Meter_leanedLength_39, J_Meter_leanedLength_41, b_Meter_leanedLength_41, s_end, true_and, and_true, or_true, true_or, if_true, if_false, ite_true, ite_false, List.map_nil, List.map_cons, List.sum_nil, List.sum_cons, List.nil_append, List.cons_append, Option.toList_some, Option.toList_none, Nat.reduceAdd, Nat.reduceLeDiff, Nat.reduceSub, Nat.zero_le, List.headD_cons, List.tail_cons, List.length_cons, List.length_nil, ne_eq, reduceCtorEq, false_or, or_false, not_false_eq_true, Nat.reduceEqDiff, Nat.reduceLT, am_sw, bI_0, bI_z, bI_y, Classical.not_not, Nat.le_add_left, am_u_row2, am_r_row2, am_u_same, am_u_at, am_r_same, Int32.reduceLT, Int32.reduceLE, Int32.reduceAdd, Int32.reduceSub, Int32.reduceMul, forall_const, not_true_eq_false, implies_true, false_imp_iff, true_imp_iff, i_10, i_01, i_m10, i_m11, eq_self, or_self, false_and, and_false, and_self, am_so_some, am_pv_some, am_pv_none, l_cl_none, l_cl_int, l_cl_ref, l_cl_ra, l_cl_null, l_cl_long, cat_int, cat_ref, cat_long, cat_ra, cat_null, cl_0, cl_1, cl_2, cl_3, cl_4, cl_5, cl_6, cl_7, cl_8, cl_9, cl_10, cl_11, cl_12, cl_13, cl_14, cl_15, cl_16, cl_30, cl_64, cl_500, vl_0_2, vl_0_3, vl_0_4, vl_0_6, vl_0_7, vl_0_12, vl_0_16, vl_0_1400, vl_1_2, vl_1_3, vl_1_4, vl_1_6, vl_1_7, vl_1_12, vl_1_16, vl_1_1400, vl_2_3, vl_2_4, vl_2_6, vl_2_7, vl_2_12, vl_2_16, vl_2_1400, vl_3_4, vl_3_6, vl_3_7, vl_3_12, vl_3_16, vl_3_1400, vl_4_6, vl_4_7, vl_4_12, vl_4_16, vl_4_1400, vl_5_6, vl_5_7, vl_5_12, vl_5_16, vl_5_1400, vl_6_7, vl_6_12, vl_6_16, vl_6_1400, vl_7_12, vl_7_16, vl_8_12, vl_8_16, vl_9_12, vl_9_16, vl_10_12, vl_10_16, vl_11_12, vl_11_16, i_64le_e, i64a_0, i64b_0, i64a_1, i64b_1, i64a_2, i64b_2, i64a_3, i64b_3, i64a_4, i64b_4, i64a_5, i64b_5, i64a_7, i64b_7, i64a_8, i64b_8, i64a_9, i64b_9, i64a_10, i64b_10, i64a_16, i64b_16, i64a_50, i64b_50, i64a_m50, i64b_m50, i64a_60, i64b_60, i64a_99, i64b_99, i64a_100, i64b_100, i64a_500, i64b_500, i64a_600, i64b_600, i64a_1000, i64b_1000, i64a_1000000, i64b_1000000, i64a_m9, i64b_m9, e_s_16, e_i_16, e_l_16, e_p_16_0, e_p_16_1, e_p_16_2, e_p_16_3, e_p_16_4, e_p_16_5, e_s_23, e_i_23, e_l_23, e_p_23_0, e_p_23_1, e_p_23_2, e_p_23_3, e_p_23_4, e_p_23_5, e_p_23_6, e_s_31, e_i_31, e_l_31, e_p_31_0, e_p_31_1, e_p_31_2, e_p_31_3, e_p_31_4, e_p_31_5, e_p_31_6, e_s_32, e_i_32, e_l_32, e_s_51, e_i_51, e_l_51, e_p_51_0, e_p_51_1, e_p_51_2, e_p_51_3, e_p_51_4, e_s_52, e_i_52, e_l_52, e_s_53, e_i_53, e_l_53, pt28_L_brought, pt28_Stage_isOdd, pt28_Stage_screenOf, hE]
  refine am_cal_no rfl (c_Meter_bareLength hE hC.lab hI hb (by omega) ?_)
  simp only [s_aload_0_ref, s_get0, s_get2, s_iadd, s_iald, s_ic_eq, s_iconst, s_if_ne, s_iload_1_int, s_iload_2_int, s_iload_3_int, s_ireturn, s_ist_3, s_istore_3_int, s_iv_1, s_iv_2, s_sipush, J_Meter_leanedLength_0, b_Meter_leanedLength_0, J_Meter_leanedLength_39, b_Meter_leanedLength_39, J_Meter_leanedLength_41, b_Meter_leanedLength_41, s_end, true_and, and_true, or_true, true_or, if_true, if_false, ite_true, ite_false, List.map_nil, List.map_cons, List.sum_nil, List.sum_cons, List.nil_append, List.cons_append, Option.toList_some, Option.toList_none, Nat.reduceAdd, Nat.reduceLeDiff, Nat.reduceSub, Nat.zero_le, List.headD_cons, List.tail_cons, List.length_cons, List.length_nil, ne_eq, reduceCtorEq, false_or, or_false, not_false_eq_true, Nat.reduceEqDiff, Nat.reduceLT, am_sw, bI_0, bI_z, bI_y, Classical.not_not, Nat.le_add_left, am_u_row2, am_r_row2, am_u_same, am_u_at, am_r_same, Int32.reduceLT, Int32.reduceLE, Int32.reduceAdd, Int32.reduceSub, Int32.reduceMul, forall_const, not_true_eq_false, implies_true, false_imp_iff, true_imp_iff, i_10, i_01, i_m10, i_m11, eq_self, or_self, false_and, and_false, and_self, am_so_some, am_pv_some, am_pv_none, l_cl_none, l_cl_int, l_cl_ref, l_cl_ra, l_cl_null, l_cl_long, cat_int, cat_ref, cat_long, cat_ra, cat_null, cl_0, cl_1, cl_2, cl_3, cl_4, cl_5, cl_6, cl_7, cl_8, cl_9, cl_10, cl_11, cl_12, cl_13, cl_14, cl_15, cl_16, cl_30, cl_64, cl_500, vl_0_2, vl_0_3, vl_0_4, vl_0_6, vl_0_7, vl_0_12, vl_0_16, vl_0_1400, vl_1_2, vl_1_3, vl_1_4, vl_1_6, vl_1_7, vl_1_12, vl_1_16, vl_1_1400, vl_2_3, vl_2_4, vl_2_6, vl_2_7, vl_2_12, vl_2_16, vl_2_1400, vl_3_4, vl_3_6, vl_3_7, vl_3_12, vl_3_16, vl_3_1400, vl_4_6, vl_4_7, vl_4_12, vl_4_16, vl_4_1400, vl_5_6, vl_5_7, vl_5_12, vl_5_16, vl_5_1400, vl_6_7, vl_6_12, vl_6_16, vl_6_1400, vl_7_12, vl_7_16, vl_8_12, vl_8_16, vl_9_12, vl_9_16, vl_10_12, vl_10_16, vl_11_12, vl_11_16, i_64le_e, i64a_0, i64b_0, i64a_1, i64b_1, i64a_2, i64b_2, i64a_3, i64b_3, i64a_4, i64b_4, i64a_5, i64b_5, i64a_7, i64b_7, i64a_8, i64b_8, i64a_9, i64b_9, i64a_10, i64b_10, i64a_16, i64b_16, i64a_50, i64b_50, i64a_m50, i64b_m50, i64a_60, i64b_60, i64a_99, i64b_99, i64a_100, i64b_100, i64a_500, i64b_500, i64a_600, i64b_600, i64a_1000, i64b_1000, i64a_1000000, i64b_1000000, i64a_m9, i64b_m9, e_s_16, e_i_16, e_l_16, e_p_16_0, e_p_16_1, e_p_16_2, e_p_16_3, e_p_16_4, e_p_16_5, e_s_23, e_i_23, e_l_23, e_p_23_0, e_p_23_1, e_p_23_2, e_p_23_3, e_p_23_4, e_p_23_5, e_p_23_6, e_s_31, e_i_31, e_l_31, e_p_31_0, e_p_31_1, e_p_31_2, e_p_31_3, e_p_31_4, e_p_31_5, e_p_31_6, e_s_32, e_i_32, e_l_32, e_s_51, e_i_51, e_l_51, e_p_51_0, e_p_51_1, e_p_51_2, e_p_51_3, e_p_51_4, e_s_52, e_i_52, e_l_52, e_s_53, e_i_53, e_l_53, pt28_L_brought, pt28_Stage_isOdd, pt28_Stage_screenOf, mf, hC.st.r29, hC.st.r25, hC.st.r26, hC.st.r27, ix8', hE]
  unfold lenI at k
  simp (disch := omega) only [m32, p1, ix8', q1, nI_clamp, nI_le', nI_lt', nI_eq', rem2_1, rem2_0, nI_eq0, nI_le0, nI_0lt, nI_0le, nI_lt0, nI_m1, vp_inE, nm_nI, i_20, nI_1, nI_add, and_true, true_and, and_self, or_true, true_or, or_false, false_or, false_and, and_false, not_true_eq_false, not_false_eq_true, if_true, if_false, ite_true, ite_false, false_imp_iff, true_imp_iff, rsn_00, rsn_10, rsn_01, rsn_11, n_09, n_19, n_29, n_99, implies_true, bI_t, bI_f, or_self, ne_eq, eq_self, Classical.not_not, Bool.false_eq_true]
  generalize oI (plainO V b t) = z at k ⊢
  by_cases h1 : z = -1
  · simp only [h1, and_true, true_and, and_self, or_true, true_or, or_false, false_or, false_and, and_false, not_true_eq_false, not_false_eq_true, if_true, if_false, ite_true, ite_false, false_imp_iff, true_imp_iff, rsn_00, rsn_10, rsn_01, rsn_11, n_09, n_19, n_29, n_99, implies_true, bI_t, bI_f, or_self, ne_eq, eq_self, Classical.not_not, Bool.false_eq_true] at k ⊢
    exact k
  · by_cases h2 : V 75 (scN V b t) = V 73 (scN V b t) + V 74 (scN V b t)
    · simp only [h1, h2, and_true, true_and, and_self, or_true, true_or, or_false, false_or, false_and, and_false, not_true_eq_false, not_false_eq_true, if_true, if_false, ite_true, ite_false, false_imp_iff, true_imp_iff, rsn_00, rsn_10, rsn_01, rsn_11, n_09, n_19, n_29, n_99, implies_true, bI_t, bI_f, or_self, ne_eq, eq_self, Classical.not_not, Bool.false_eq_true] at k ⊢
      exact k
    · simp only [h1, h2, and_true, true_and, and_self, or_true, true_or, or_false, false_or, false_and, and_false, not_true_eq_false, not_false_eq_true, if_true, if_false, ite_true, ite_false, false_imp_iff, true_imp_iff, rsn_00, rsn_10, rsn_01, rsn_11, n_09, n_19, n_29, n_99, implies_true, bI_t, bI_f, or_self, ne_eq, eq_self, Classical.not_not, Bool.false_eq_true] at k ⊢
      exact k
end T20
