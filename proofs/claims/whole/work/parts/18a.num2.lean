theorem nI_mul (a b : Nat) : nI a * nI b = nI (a * b) := by unfold nI; rw [← Int32.ofNat_mul]
theorem nI_sub {a b : Nat} (h : b ≤ a) (ha : a < 2147483648) : nI a - nI b = nI (a - b) := by
  apply Int32.toInt_inj.mp
  rw [i_sub (by rw [nI_toInt ha, nI_toInt (by omega)]; omega) (by rw [nI_toInt ha, nI_toInt (by omega)]; omega), nI_toInt ha, nI_toInt (by omega), nI_toInt (by omega)]
  omega
theorem nI_div {a b : Nat} (ha : a < 2147483648) (hb : b < 2147483648) : nI a / nI b = nI (a / b) := by
  apply Int32.toInt_inj.mp
  have h1 : a / b ≤ a := Nat.div_le_self a b
  rw [Int32.toInt_div, nI_toInt ha, nI_toInt hb, nI_toInt (by omega), ← Int.ofNat_tdiv]
  generalize a / b = q at h1 ⊢
  apply Int.bmod_eq_of_le <;> omega
theorem nI_rem {a b : Nat} (ha : a < 2147483648) (hb : b < 2147483648) : nI a - nI a / nI b * nI b = nI (a % b) := by
  have h2 : a / b * b ≤ a := Nat.div_mul_le_self a b
  rw [nI_div ha hb, nI_mul, nI_sub h2 ha]
  have h1 := Nat.div_add_mod a b
  rw [Nat.mul_comm] at h1
  congr 1
  omega
theorem rem2_1 {a : Nat} (ha : a < 2147483648) : (nI a - nI a / 2 * 2 = 1) = (a % 2 = 1) := by
  have h := nI_rem (b := 2) ha (by decide)
  rw [show nI 2 = 2 from rfl] at h
  rw [h, show (1 : Int32) = nI 1 from rfl, nI_eq (by omega) (by omega)]
theorem rem2_0 {a : Nat} (ha : a < 2147483648) : (nI a - nI a / 2 * 2 = 0) = (a % 2 = 0) := by
  have h := nI_rem (b := 2) ha (by decide)
  rw [show nI 2 = 2 from rfl] at h
  rw [h, show (0 : Int32) = nI 0 from rfl, nI_eq (by omega) (by omega)]
theorem nI_eq0 {a : Nat} (ha : a < 2147483648) : (nI a = 0) = (a = 0) := by rw [show (0 : Int32) = nI 0 from rfl, nI_eq (by omega) (by omega)]
theorem nI_le0 {a : Nat} (ha : a < 2147483648) : (nI a ≤ 0) = (a = 0) := by
  rw [show (0 : Int32) = nI 0 from rfl, nI_leI (by omega) (by omega)]
  exact propext ⟨fun h => by omega, fun h => by omega⟩
theorem nI_0lt {a : Nat} (ha : a < 2147483648) : (0 < nI a) = (0 < a) := by rw [show (0 : Int32) = nI 0 from rfl, nI_ltI (by omega) (by omega)]
theorem nI_0le {a : Nat} (ha : a < 2147483648) : (0 ≤ nI a) = True := eq_true (nI_pos' ha)
theorem nI_lt0 {a : Nat} (ha : a < 2147483648) : (nI a < 0) = False := eq_false (nI_pos ha)
theorem nI_m1 {a : Nat} (ha : a < 2147483648) : (nI a = -1) = False := eq_false (i_nI_ne_m1 ha)
theorem vp_inE {a n : Nat} (h : a < n) (hn : n < 2147483648) : vp_in (nI a) n = True := eq_true (vp_in_nI h hn)
theorem nI_le' {a b : Nat} (ha : a < 2147483648) (hb : b < 2147483648) : (nI a ≤ nI b) = (a ≤ b) := propext (nI_leI ha hb)
theorem nI_lt' {a b : Nat} (ha : a < 2147483648) (hb : b < 2147483648) : (nI a < nI b) = (a < b) := propext (nI_ltI ha hb)
theorem nI_eq' {a b : Nat} (ha : a < 2147483648) (hb : b < 2147483648) : (nI a = nI b) = (a = b) := propext (nI_eq ha hb)
theorem i_20 : ((2 : Int32) = 0) = False := by decide
theorem nI_min {a b : Nat} (ha : a < 2147483648) (hb : b < 2147483648) : (if nI a < nI b then nI a else nI b) = nI (min a b) := by
  simp only [nI_lt' ha hb]
  by_cases h : a < b
  · rw [if_pos h, Nat.min_eq_left (by omega)]
  · rw [if_neg h, Nat.min_eq_right (by omega)]
theorem nI_max {a b : Nat} (ha : a < 2147483648) (hb : b < 2147483648) : (if nI a < nI b then nI b else nI a) = nI (max a b) := by
  simp only [nI_lt' ha hb]
  by_cases h : a < b
  · rw [if_pos h, Nat.max_eq_right (by omega)]
  · rw [if_neg h, Nat.max_eq_left (by omega)]
theorem nI_min2 {a b : Nat} : (if a < b then nI a else nI b) = nI (min b a) := by
  by_cases h : a < b
  · rw [if_pos h, Nat.min_eq_right (by omega)]
  · rw [if_neg h, Nat.min_eq_left (by omega)]
theorem nI_min3 {a b : Nat} : (if a < b then nI a else nI b) = nI (min a b) := by rw [nI_min2, Nat.min_comm]
