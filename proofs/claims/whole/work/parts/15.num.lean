theorem i_lt_of {a b : Int32} (h : ¬ a < b) : b ≤ a := Int32.not_lt.mp h
theorem i_le_of {a b : Int32} (h : ¬ a ≤ b) : b < a := Int32.not_le.mp h
theorem i_T (x : Int32) : -2147483648 ≤ x.toInt ∧ x.toInt < 2147483648 := ⟨Int32.le_toInt x, Int32.toInt_lt x⟩
theorem i_add {a b : Int32} (h1 : -2147483648 ≤ a.toInt + b.toInt) (h2 : a.toInt + b.toInt < 2147483648) : (a + b).toInt = a.toInt + b.toInt := by
  rw [Int32.toInt_add]
  apply Int.bmod_eq_of_le <;> omega
theorem i_sub {a b : Int32} (h1 : -2147483648 ≤ a.toInt - b.toInt) (h2 : a.toInt - b.toInt < 2147483648) : (a - b).toInt = a.toInt - b.toInt := by
  rw [Int32.toInt_sub]
  apply Int.bmod_eq_of_le <;> omega
theorem i_mul {a b : Int32} (h1 : -2147483648 ≤ a.toInt * b.toInt) (h2 : a.toInt * b.toInt < 2147483648) : (a * b).toInt = a.toInt * b.toInt := by
  rw [Int32.toInt_mul]
  apply Int.bmod_eq_of_le <;> omega
/-- a number within [0, n) is the n-th of so many -/
theorem i_ix {x : Int32} {n : Nat} (h0 : ¬ x < 0) (h1 : x < nI n) (hn : n < 2147483648) : ∃ j : Nat, j < n ∧ x = nI j := by
  rcases pk_ix x (n := n) hn with h | h | h
  · exact absurd h h0
  · exact absurd h1 (Int32.not_lt.mpr h)
  · exact h
theorem i_m1 : (-1 : Int32).toInt = -1 := by decide
theorem i_nI_ne_m1 {n : Nat} (h : n < 2147483648) : nI n ≠ -1 := by
  intro e
  have := congrArg Int32.toInt e
  rw [nI_toInt h, i_m1] at this
  omega
theorem i_10 : ((1 : Int32) = 0) = False := by decide
theorem i_01 : ((0 : Int32) = 1) = False := by decide
theorem i_m10 : ((-1 : Int32) = 0) = False := by decide
theorem i_m11 : ((-1 : Int32) = 1) = False := by decide
theorem i_64le {a b : Int32} : a.toInt64 ≤ b.toInt64 ↔ a ≤ b := by
  rw [Int64.le_iff_toInt_le, Int32.le_iff_toInt_le, Int32.toInt_toInt64, Int32.toInt_toInt64]
theorem i_64lt {a b : Int32} : a.toInt64 < b.toInt64 ↔ a < b := by
  rw [Int64.lt_iff_toInt_lt, Int32.lt_iff_toInt_lt, Int32.toInt_toInt64, Int32.toInt_toInt64]
theorem lc_1 {x y : Int64} (h : y < x) : lg_cmp x y = 1 := by simp [lg_cmp, h]
theorem lc_0 {x y : Int64} (h : x = y) : lg_cmp x y = 0 := by
  subst h
  have : ¬ x < x := Int64.lt_irrefl
  simp [lg_cmp, this]
theorem lc_m {x y : Int64} (h : x < y) : lg_cmp x y = -1 := by
  have h1 : ¬ y < x := Int64.not_lt.mpr (Int64.le_of_lt h)
  have h2 : ¬ x = y := fun e => by subst e; exact Int64.lt_irrefl h
  simp [lg_cmp, h1, h2]
theorem lc_tri (x y : Int64) : y < x ∨ x = y ∨ x < y := by
  by_cases h1 : y < x
  · exact Or.inl h1
  · by_cases h2 : x < y
    · exact Or.inr (Or.inr h2)
    · exact Or.inr (Or.inl (Int64.le_antisymm (Int64.not_lt.mp h1) (Int64.not_lt.mp h2)))
theorem lg_lt0 {x y : Int64} : (lg_cmp x y < 0) ↔ x < y := by
  rcases lc_tri x y with h | h | h
  · rw [lc_1 h]; exact ⟨fun q => absurd q (by decide), fun q => absurd h (Int64.not_lt.mpr (Int64.le_of_lt q))⟩
  · rw [lc_0 h]; subst h; exact ⟨fun q => absurd q (by decide), fun q => absurd q Int64.lt_irrefl⟩
  · rw [lc_m h]; exact ⟨fun _ => h, fun _ => by decide⟩
theorem lg_gt0 {x y : Int64} : (0 < lg_cmp x y) ↔ y < x := by
  rcases lc_tri x y with h | h | h
  · rw [lc_1 h]; exact ⟨fun _ => h, fun _ => by decide⟩
  · rw [lc_0 h]; subst h; exact ⟨fun q => absurd q (by decide), fun q => absurd q Int64.lt_irrefl⟩
  · rw [lc_m h]; exact ⟨fun q => absurd q (by decide), fun q => absurd h (Int64.not_lt.mpr (Int64.le_of_lt q))⟩
theorem lg_eq0 {x y : Int64} : (lg_cmp x y = 0) ↔ x = y := by
  rcases lc_tri x y with h | h | h
  · rw [lc_1 h]; exact ⟨fun q => absurd q (by decide), fun q => by subst q; exact absurd h Int64.lt_irrefl⟩
  · rw [lc_0 h]; exact ⟨fun _ => h, fun _ => rfl⟩
  · rw [lc_m h]; exact ⟨fun q => absurd q (by decide), fun q => by subst q; exact absurd h Int64.lt_irrefl⟩
theorem cl_0 : (0 : Int32).toNatClampNeg = 0 := rfl
theorem cl_1 : (1 : Int32).toNatClampNeg = 1 := rfl
theorem cl_2 : (2 : Int32).toNatClampNeg = 2 := rfl
theorem cl_3 : (3 : Int32).toNatClampNeg = 3 := rfl
theorem cl_4 : (4 : Int32).toNatClampNeg = 4 := rfl
theorem cl_5 : (5 : Int32).toNatClampNeg = 5 := rfl
theorem cl_6 : (6 : Int32).toNatClampNeg = 6 := rfl
theorem cl_7 : (7 : Int32).toNatClampNeg = 7 := rfl
theorem cl_8 : (8 : Int32).toNatClampNeg = 8 := rfl
theorem cl_9 : (9 : Int32).toNatClampNeg = 9 := rfl
theorem cl_10 : (10 : Int32).toNatClampNeg = 10 := rfl
theorem cl_11 : (11 : Int32).toNatClampNeg = 11 := rfl
theorem cl_12 : (12 : Int32).toNatClampNeg = 12 := rfl
theorem cl_13 : (13 : Int32).toNatClampNeg = 13 := rfl
theorem cl_14 : (14 : Int32).toNatClampNeg = 14 := rfl
theorem cl_15 : (15 : Int32).toNatClampNeg = 15 := rfl
theorem cl_16 : (16 : Int32).toNatClampNeg = 16 := rfl
theorem cl_30 : (30 : Int32).toNatClampNeg = 30 := rfl
theorem cl_64 : (64 : Int32).toNatClampNeg = 64 := rfl
theorem cl_500 : (500 : Int32).toNatClampNeg = 500 := rfl
theorem vl_0_2 : vp_in 0 2 = True := eq_true (show vp_in (nI 0) 2 from vp_in_nI (by decide) (by decide))
theorem vl_0_3 : vp_in 0 3 = True := eq_true (show vp_in (nI 0) 3 from vp_in_nI (by decide) (by decide))
theorem vl_0_4 : vp_in 0 4 = True := eq_true (show vp_in (nI 0) 4 from vp_in_nI (by decide) (by decide))
theorem vl_0_6 : vp_in 0 6 = True := eq_true (show vp_in (nI 0) 6 from vp_in_nI (by decide) (by decide))
theorem vl_0_7 : vp_in 0 7 = True := eq_true (show vp_in (nI 0) 7 from vp_in_nI (by decide) (by decide))
theorem vl_0_12 : vp_in 0 12 = True := eq_true (show vp_in (nI 0) 12 from vp_in_nI (by decide) (by decide))
theorem vl_0_16 : vp_in 0 16 = True := eq_true (show vp_in (nI 0) 16 from vp_in_nI (by decide) (by decide))
theorem vl_0_1400 : vp_in 0 1400 = True := eq_true (show vp_in (nI 0) 1400 from vp_in_nI (by decide) (by decide))
theorem vl_1_2 : vp_in 1 2 = True := eq_true (show vp_in (nI 1) 2 from vp_in_nI (by decide) (by decide))
theorem vl_1_3 : vp_in 1 3 = True := eq_true (show vp_in (nI 1) 3 from vp_in_nI (by decide) (by decide))
theorem vl_1_4 : vp_in 1 4 = True := eq_true (show vp_in (nI 1) 4 from vp_in_nI (by decide) (by decide))
theorem vl_1_6 : vp_in 1 6 = True := eq_true (show vp_in (nI 1) 6 from vp_in_nI (by decide) (by decide))
theorem vl_1_7 : vp_in 1 7 = True := eq_true (show vp_in (nI 1) 7 from vp_in_nI (by decide) (by decide))
theorem vl_1_12 : vp_in 1 12 = True := eq_true (show vp_in (nI 1) 12 from vp_in_nI (by decide) (by decide))
theorem vl_1_16 : vp_in 1 16 = True := eq_true (show vp_in (nI 1) 16 from vp_in_nI (by decide) (by decide))
theorem vl_1_1400 : vp_in 1 1400 = True := eq_true (show vp_in (nI 1) 1400 from vp_in_nI (by decide) (by decide))
theorem vl_2_3 : vp_in 2 3 = True := eq_true (show vp_in (nI 2) 3 from vp_in_nI (by decide) (by decide))
theorem vl_2_4 : vp_in 2 4 = True := eq_true (show vp_in (nI 2) 4 from vp_in_nI (by decide) (by decide))
theorem vl_2_6 : vp_in 2 6 = True := eq_true (show vp_in (nI 2) 6 from vp_in_nI (by decide) (by decide))
theorem vl_2_7 : vp_in 2 7 = True := eq_true (show vp_in (nI 2) 7 from vp_in_nI (by decide) (by decide))
theorem vl_2_12 : vp_in 2 12 = True := eq_true (show vp_in (nI 2) 12 from vp_in_nI (by decide) (by decide))
theorem vl_2_16 : vp_in 2 16 = True := eq_true (show vp_in (nI 2) 16 from vp_in_nI (by decide) (by decide))
theorem vl_2_1400 : vp_in 2 1400 = True := eq_true (show vp_in (nI 2) 1400 from vp_in_nI (by decide) (by decide))
theorem vl_3_4 : vp_in 3 4 = True := eq_true (show vp_in (nI 3) 4 from vp_in_nI (by decide) (by decide))
theorem vl_3_6 : vp_in 3 6 = True := eq_true (show vp_in (nI 3) 6 from vp_in_nI (by decide) (by decide))
theorem vl_3_7 : vp_in 3 7 = True := eq_true (show vp_in (nI 3) 7 from vp_in_nI (by decide) (by decide))
theorem vl_3_12 : vp_in 3 12 = True := eq_true (show vp_in (nI 3) 12 from vp_in_nI (by decide) (by decide))
theorem vl_3_16 : vp_in 3 16 = True := eq_true (show vp_in (nI 3) 16 from vp_in_nI (by decide) (by decide))
theorem vl_3_1400 : vp_in 3 1400 = True := eq_true (show vp_in (nI 3) 1400 from vp_in_nI (by decide) (by decide))
theorem vl_4_6 : vp_in 4 6 = True := eq_true (show vp_in (nI 4) 6 from vp_in_nI (by decide) (by decide))
theorem vl_4_7 : vp_in 4 7 = True := eq_true (show vp_in (nI 4) 7 from vp_in_nI (by decide) (by decide))
theorem vl_4_12 : vp_in 4 12 = True := eq_true (show vp_in (nI 4) 12 from vp_in_nI (by decide) (by decide))
theorem vl_4_16 : vp_in 4 16 = True := eq_true (show vp_in (nI 4) 16 from vp_in_nI (by decide) (by decide))
theorem vl_4_1400 : vp_in 4 1400 = True := eq_true (show vp_in (nI 4) 1400 from vp_in_nI (by decide) (by decide))
theorem vl_5_6 : vp_in 5 6 = True := eq_true (show vp_in (nI 5) 6 from vp_in_nI (by decide) (by decide))
theorem vl_5_7 : vp_in 5 7 = True := eq_true (show vp_in (nI 5) 7 from vp_in_nI (by decide) (by decide))
theorem vl_5_12 : vp_in 5 12 = True := eq_true (show vp_in (nI 5) 12 from vp_in_nI (by decide) (by decide))
theorem vl_5_16 : vp_in 5 16 = True := eq_true (show vp_in (nI 5) 16 from vp_in_nI (by decide) (by decide))
theorem vl_5_1400 : vp_in 5 1400 = True := eq_true (show vp_in (nI 5) 1400 from vp_in_nI (by decide) (by decide))
theorem vl_6_7 : vp_in 6 7 = True := eq_true (show vp_in (nI 6) 7 from vp_in_nI (by decide) (by decide))
theorem vl_6_12 : vp_in 6 12 = True := eq_true (show vp_in (nI 6) 12 from vp_in_nI (by decide) (by decide))
theorem vl_6_16 : vp_in 6 16 = True := eq_true (show vp_in (nI 6) 16 from vp_in_nI (by decide) (by decide))
theorem vl_6_1400 : vp_in 6 1400 = True := eq_true (show vp_in (nI 6) 1400 from vp_in_nI (by decide) (by decide))
theorem vl_7_12 : vp_in 7 12 = True := eq_true (show vp_in (nI 7) 12 from vp_in_nI (by decide) (by decide))
theorem vl_7_16 : vp_in 7 16 = True := eq_true (show vp_in (nI 7) 16 from vp_in_nI (by decide) (by decide))
theorem vl_8_12 : vp_in 8 12 = True := eq_true (show vp_in (nI 8) 12 from vp_in_nI (by decide) (by decide))
theorem vl_8_16 : vp_in 8 16 = True := eq_true (show vp_in (nI 8) 16 from vp_in_nI (by decide) (by decide))
theorem vl_9_12 : vp_in 9 12 = True := eq_true (show vp_in (nI 9) 12 from vp_in_nI (by decide) (by decide))
theorem vl_9_16 : vp_in 9 16 = True := eq_true (show vp_in (nI 9) 16 from vp_in_nI (by decide) (by decide))
theorem vl_10_12 : vp_in 10 12 = True := eq_true (show vp_in (nI 10) 12 from vp_in_nI (by decide) (by decide))
theorem vl_10_16 : vp_in 10 16 = True := eq_true (show vp_in (nI 10) 16 from vp_in_nI (by decide) (by decide))
theorem vl_11_12 : vp_in 11 12 = True := eq_true (show vp_in (nI 11) 12 from vp_in_nI (by decide) (by decide))
theorem vl_11_16 : vp_in 11 16 = True := eq_true (show vp_in (nI 11) 16 from vp_in_nI (by decide) (by decide))
/-- a number is one of the first n -/
abbrev inN (s : Int32) (n : Nat) : Prop := 0 ≤ s ∧ s < nI n
theorem inN.ix {s : Int32} {n : Nat} (h : inN s n) (hn : n < 2147483648) : ∃ j : Nat, j < n ∧ s = nI j := i_ix (Int32.not_lt.mpr h.1) h.2 hn
theorem inN_nI {j n : Nat} (h : j < n) (hn : n < 2147483648) : inN (nI j) n := ⟨nI_pos' (by omega), nI_lt h hn⟩
theorem i_pred {s : Int32} {n : Nat} (hn : n < 2147483648) : s ≤ nI n - 1 ↔ s < nI n := by
  have e : (nI n - 1).toInt = (n : Int) - 1 := by
    have h1 : (1 : Int32).toInt = 1 := rfl
    rw [i_sub (by rw [nI_toInt hn, h1]; omega) (by rw [nI_toInt hn, h1]; omega), nI_toInt hn, h1]
  rw [Int32.le_iff_toInt_le, Int32.lt_iff_toInt_lt, e, nI_toInt hn]
  omega
theorem inN_pred {s : Int32} {n : Nat} (hn : n < 2147483648) : (0 ≤ s ∧ s ≤ nI n - 1) ↔ inN s n := by rw [i_pred hn]
theorem i_back (x : Int32) : x + 1 - 1 = x := by
  rw [Int32.sub_eq_add_neg, Int32.add_assoc, Int32.add_right_neg, Int32.add_zero]
theorem am_u_row2 {α : Type} {M : Nat → Nat → α} {k j a : Nat} {x : α} (h : (a = k) = False) : am_u M k j x a = M a := am_u_row (fun e => by rw [h] at e; exact e)
theorem am_r_row2 {α : Type} {M : Nat → Nat → α} {k a : Nat} {f : Nat → α} (h : (a = k) = False) : am_r M k f a = M a := am_r_ne (fun e => by rw [h] at e; exact e)
theorem am_u_at {α : Type} {M : Nat → Nat → α} {k j b : Nat} {x : α} (h : (b = j) = False) : am_u M k j x k b = M k b := am_u_ne (fun e => by rw [h] at e; exact e.2)
theorem i_64le_e {a b : Int32} : (a.toInt64 ≤ b.toInt64) = (a ≤ b) := propext i_64le
theorem i64a_0 {x : Int32} : ((0 : Int64) ≤ x.toInt64) = (0 ≤ x) := propext (i_64le (a := 0) (b := x))
theorem i64b_0 {x : Int32} : (x.toInt64 ≤ (0 : Int64)) = (x ≤ 0) := propext (i_64le (a := x) (b := 0))
theorem i64a_1 {x : Int32} : ((1 : Int64) ≤ x.toInt64) = (1 ≤ x) := propext (i_64le (a := 1) (b := x))
theorem i64b_1 {x : Int32} : (x.toInt64 ≤ (1 : Int64)) = (x ≤ 1) := propext (i_64le (a := x) (b := 1))
theorem i64a_2 {x : Int32} : ((2 : Int64) ≤ x.toInt64) = (2 ≤ x) := propext (i_64le (a := 2) (b := x))
theorem i64b_2 {x : Int32} : (x.toInt64 ≤ (2 : Int64)) = (x ≤ 2) := propext (i_64le (a := x) (b := 2))
theorem i64a_3 {x : Int32} : ((3 : Int64) ≤ x.toInt64) = (3 ≤ x) := propext (i_64le (a := 3) (b := x))
theorem i64b_3 {x : Int32} : (x.toInt64 ≤ (3 : Int64)) = (x ≤ 3) := propext (i_64le (a := x) (b := 3))
theorem i64a_4 {x : Int32} : ((4 : Int64) ≤ x.toInt64) = (4 ≤ x) := propext (i_64le (a := 4) (b := x))
theorem i64b_4 {x : Int32} : (x.toInt64 ≤ (4 : Int64)) = (x ≤ 4) := propext (i_64le (a := x) (b := 4))
theorem i64a_5 {x : Int32} : ((5 : Int64) ≤ x.toInt64) = (5 ≤ x) := propext (i_64le (a := 5) (b := x))
theorem i64b_5 {x : Int32} : (x.toInt64 ≤ (5 : Int64)) = (x ≤ 5) := propext (i_64le (a := x) (b := 5))
theorem i64a_7 {x : Int32} : ((7 : Int64) ≤ x.toInt64) = (7 ≤ x) := propext (i_64le (a := 7) (b := x))
theorem i64b_7 {x : Int32} : (x.toInt64 ≤ (7 : Int64)) = (x ≤ 7) := propext (i_64le (a := x) (b := 7))
theorem i64a_8 {x : Int32} : ((8 : Int64) ≤ x.toInt64) = (8 ≤ x) := propext (i_64le (a := 8) (b := x))
theorem i64b_8 {x : Int32} : (x.toInt64 ≤ (8 : Int64)) = (x ≤ 8) := propext (i_64le (a := x) (b := 8))
theorem i64a_9 {x : Int32} : ((9 : Int64) ≤ x.toInt64) = (9 ≤ x) := propext (i_64le (a := 9) (b := x))
theorem i64b_9 {x : Int32} : (x.toInt64 ≤ (9 : Int64)) = (x ≤ 9) := propext (i_64le (a := x) (b := 9))
theorem i64a_10 {x : Int32} : ((10 : Int64) ≤ x.toInt64) = (10 ≤ x) := propext (i_64le (a := 10) (b := x))
theorem i64b_10 {x : Int32} : (x.toInt64 ≤ (10 : Int64)) = (x ≤ 10) := propext (i_64le (a := x) (b := 10))
theorem i64a_16 {x : Int32} : ((16 : Int64) ≤ x.toInt64) = (16 ≤ x) := propext (i_64le (a := 16) (b := x))
theorem i64b_16 {x : Int32} : (x.toInt64 ≤ (16 : Int64)) = (x ≤ 16) := propext (i_64le (a := x) (b := 16))
theorem i64a_50 {x : Int32} : ((50 : Int64) ≤ x.toInt64) = (50 ≤ x) := propext (i_64le (a := 50) (b := x))
theorem i64b_50 {x : Int32} : (x.toInt64 ≤ (50 : Int64)) = (x ≤ 50) := propext (i_64le (a := x) (b := 50))
theorem i64a_m50 {x : Int32} : (((-50) : Int64) ≤ x.toInt64) = ((-50) ≤ x) := propext (i_64le (a := (-50)) (b := x))
theorem i64b_m50 {x : Int32} : (x.toInt64 ≤ ((-50) : Int64)) = (x ≤ (-50)) := propext (i_64le (a := x) (b := (-50)))
theorem i64a_60 {x : Int32} : ((60 : Int64) ≤ x.toInt64) = (60 ≤ x) := propext (i_64le (a := 60) (b := x))
theorem i64b_60 {x : Int32} : (x.toInt64 ≤ (60 : Int64)) = (x ≤ 60) := propext (i_64le (a := x) (b := 60))
theorem i64a_99 {x : Int32} : ((99 : Int64) ≤ x.toInt64) = (99 ≤ x) := propext (i_64le (a := 99) (b := x))
theorem i64b_99 {x : Int32} : (x.toInt64 ≤ (99 : Int64)) = (x ≤ 99) := propext (i_64le (a := x) (b := 99))
theorem i64a_100 {x : Int32} : ((100 : Int64) ≤ x.toInt64) = (100 ≤ x) := propext (i_64le (a := 100) (b := x))
theorem i64b_100 {x : Int32} : (x.toInt64 ≤ (100 : Int64)) = (x ≤ 100) := propext (i_64le (a := x) (b := 100))
theorem i64a_500 {x : Int32} : ((500 : Int64) ≤ x.toInt64) = (500 ≤ x) := propext (i_64le (a := 500) (b := x))
theorem i64b_500 {x : Int32} : (x.toInt64 ≤ (500 : Int64)) = (x ≤ 500) := propext (i_64le (a := x) (b := 500))
theorem i64a_600 {x : Int32} : ((600 : Int64) ≤ x.toInt64) = (600 ≤ x) := propext (i_64le (a := 600) (b := x))
theorem i64b_600 {x : Int32} : (x.toInt64 ≤ (600 : Int64)) = (x ≤ 600) := propext (i_64le (a := x) (b := 600))
theorem i64a_1000 {x : Int32} : ((1000 : Int64) ≤ x.toInt64) = (1000 ≤ x) := propext (i_64le (a := 1000) (b := x))
theorem i64b_1000 {x : Int32} : (x.toInt64 ≤ (1000 : Int64)) = (x ≤ 1000) := propext (i_64le (a := x) (b := 1000))
theorem i64a_1000000 {x : Int32} : ((1000000 : Int64) ≤ x.toInt64) = (1000000 ≤ x) := propext (i_64le (a := 1000000) (b := x))
theorem i64b_1000000 {x : Int32} : (x.toInt64 ≤ (1000000 : Int64)) = (x ≤ 1000000) := propext (i_64le (a := x) (b := 1000000))
theorem i64a_m9 {x : Int32} : (((-9) : Int64) ≤ x.toInt64) = ((-9) ≤ x) := propext (i_64le (a := (-9)) (b := x))
theorem i64b_m9 {x : Int32} : (x.toInt64 ≤ ((-9) : Int64)) = (x ≤ (-9)) := propext (i_64le (a := x) (b := (-9)))
