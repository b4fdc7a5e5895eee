theorem i_lt_of {a b : Int32} (h : ¬ a < b) : b ≤ a := Int32.not_lt.mp h
theorem i_le_of {a b : Int32} (h : ¬ a ≤ b) : b < a := Int32.not_le.mp h
theorem i_T (x : Int32) : -2147483648 ≤ x.toInt ∧ x.toInt < 2147483648 := ⟨Int32.le_toInt x, Int32.toInt_lt x⟩
theorem i_add {a b : Int32} (h1 : -2147483648 ≤ a.toInt + b.toInt) (h2 : a.toInt + b.toInt < 2147483648) : (a + b).toInt = a.toInt + b.toInt := by
  rw [Int32.toInt_add]
  apply Int.bmod_eq_of_le <;> omega
theorem i_sub {a b : Int32} (h1 : -2147483648 ≤ a.toInt - b.toInt) (h2 : a.toInt - b.toInt < 2147483648) : (a - b).toInt = a.toInt - b.toInt := by
  rw [Int32.toInt_sub]
  apply Int.bmod_eq_of_le <;> omega
theorem i_mul {a b : Int32} (h1 : -2147483648 ≤ a.toInt * b.toInt) (h2 : a.toInt * b.toInt < 2147483648) : (a * b).toInt = a.toInt * b.toInt := by
  rw [Int32.toInt_mul]
  apply Int.bmod_eq_of_le <;> omega
/-- a number within [0, n) is the n-th of so many -/
theorem i_ix {x : Int32} {n : Nat} (h0 : ¬ x < 0) (h1 : x < nI n) (hn : n < 2147483648) : ∃ j : Nat, j < n ∧ x = nI j := by
  rcases pk_ix x (n := n) hn with h | h | h
  · exact absurd h h0
  · exact absurd h1 (Int32.not_lt.mpr h)
  · exact h
theorem i_m1 : (-1 : Int32).toInt = -1 := by decide
theorem i_nI_ne_m1 {n : Nat} (h : n < 2147483648) : nI n ≠ -1 := by
  intro e
  have := congrArg Int32.toInt e
  rw [nI_toInt h, i_m1] at this
  omega
theorem i_10 : ((1 : Int32) = 0) = False := by decide
theorem i_01 : ((0 : Int32) = 1) = False := by decide
theorem i_m10 : ((-1 : Int32) = 0) = False := by decide
theorem i_m11 : ((-1 : Int32) = 1) = False := by decide
theorem i_64le {a b : Int32} : a.toInt64 ≤ b.toInt64 ↔ a ≤ b := by
  rw [Int64.le_iff_toInt_le, Int32.le_iff_toInt_le, Int32.toInt_toInt64, Int32.toInt_toInt64]
theorem i_64lt {a b : Int32} : a.toInt64 < b.toInt64 ↔ a < b := by
  rw [Int64.lt_iff_toInt_lt, Int32.lt_iff_toInt_lt, Int32.toInt_toInt64, Int32.toInt_toInt64]
theorem lc_1 {x y : Int64} (h : y < x) : lg_cmp x y = 1 := by simp [lg_cmp, h]
theorem lc_0 {x y : Int64} (h : x = y) : lg_cmp x y = 0 := by
  subst h
  have : ¬ x < x := Int64.lt_irrefl
  simp [lg_cmp, this]
theorem lc_m {x y : Int64} (h : x < y) : lg_cmp x y = -1 := by
  have h1 : ¬ y < x := Int64.not_lt.mpr (Int64.le_of_lt h)
  have h2 : ¬ x = y := fun e => by subst e; exact Int64.lt_irrefl h
  simp [lg_cmp, h1, h2]
theorem lc_tri (x y : Int64) : y < x ∨ x = y ∨ x < y := by
  by_cases h1 : y < x
  · exact Or.inl h1
  · by_cases h2 : x < y
    · exact Or.inr (Or.inr h2)
    · exact Or.inr (Or.inl (Int64.le_antisymm (Int64.not_lt.mp h1) (Int64.not_lt.mp h2)))
theorem lg_lt0 {x y : Int64} : (lg_cmp x y < 0) ↔ x < y := by
  rcases lc_tri x y with h | h | h
  · rw [lc_1 h]; exact ⟨fun q => absurd q (by decide), fun q => absurd h (Int64.not_lt.mpr (Int64.le_of_lt q))⟩
  · rw [lc_0 h]; subst h; exact ⟨fun q => absurd q (by decide), fun q => absurd q Int64.lt_irrefl⟩
  · rw [lc_m h]; exact ⟨fun _ => h, fun _ => by decide⟩
theorem lg_gt0 {x y : Int64} : (0 < lg_cmp x y) ↔ y < x := by
  rcases lc_tri x y with h | h | h
  · rw [lc_1 h]; exact ⟨fun _ => h, fun _ => by decide⟩
  · rw [lc_0 h]; subst h; exact ⟨fun q => absurd q (by decide), fun q => absurd q Int64.lt_irrefl⟩
  · rw [lc_m h]; exact ⟨fun q => absurd q (by decide), fun q => absurd h (Int64.not_lt.mpr (Int64.le_of_lt q))⟩
theorem lg_eq0 {x y : Int64} : (lg_cmp x y = 0) ↔ x = y := by
  rcases lc_tri x y with h | h | h
  · rw [lc_1 h]; exact ⟨fun q => absurd q (by decide), fun q => by subst q; exact absurd h Int64.lt_irrefl⟩
  · rw [lc_0 h]; exact ⟨fun _ => h, fun _ => rfl⟩
  · rw [lc_m h]; exact ⟨fun q => absurd q (by decide), fun q => by subst q; exact absurd h Int64.lt_irrefl⟩
