section T51
variable {X : am_X} {d : Nat} {K : am_K} {S : am_S} {M : am_M} {L : am_L} {V : am_M}
def vA (V : am_M) (i j r : Nat) : am_M := am_u (am_u (am_u V 70 18 (nI (5 * 2 ^ i))) 70 19 (nI (150 * 2 ^ j))) 70 22 (nI r)
def vQ (V : am_M) (q : Nat) : am_M := vA V (q / 12) (q / 4 % 3) (q % 4)
def clA (V : am_M) (q : Nat) : List Nat := ctL (vQ V q) x0 (nB (vQ V q))
def wyA (V : am_M) (q : Nat) : Nat := csI (dZ (vQ V q) (clA V q))
def thA (V : am_M) (q : Nat) : Nat := thN (vQ V q) (clA V q)
def shA (V : am_M) (q : Nat) : Nat := wyA V q * 2 ^ (16 - (clA V q).length)
def bsA (V : am_M) : Nat → Option Nat
  | 0 => none
  | q + 1 => match bsA V q with
    | none => some q
    | some p => if shA V q < shA V p then some q else some p
def rrA (V : am_M) : Nat → Nat
  | 0 => 0
  | q + 1 => if thA V q < 50 then rrA V q + 1 else rrA V q
theorem vA_iv (hI : IV V) {i j r : Nat} (hi : i < 4) (hj : j < 3) (hr : r < 4) : IV (vA V i j r) := by
  have e1 : ∃ n, nI (5 * 2 ^ i) = nI n ∧ 1 ≤ n ∧ n ≤ 100 := by
    have q : i = 0 ∨ i = 1 ∨ i = 2 ∨ i = 3 := by omega
    rcases q with rfl | rfl | rfl | rfl <;> exact ⟨_, rfl, by decide, by decide⟩
  have e2 : ∃ n, nI (150 * 2 ^ j) = nI n ∧ 10 ≤ n ∧ n ≤ 600 := by
    have q : j = 0 ∨ j = 1 ∨ j = 2 := by omega
    rcases q with rfl | rfl | rfl <;> exact ⟨_, rfl, by decide, by decide⟩
  have a := hI.u (j := 18) (x := nI (5 * 2 ^ i)) (by decide) (fun _ => e1) (fun q => absurd q (by decide)) (fun q => absurd q (by decide)) (fun q => absurd q (by decide))
  have b := a.u (j := 19) (x := nI (150 * 2 ^ j)) (by decide) (fun q => absurd q (by decide)) (fun _ => e2) (fun q => absurd q (by decide)) (fun q => absurd q (by decide))
  exact b.u (j := 22) (x := nI r) (by decide) (fun q => absurd q (by decide)) (fun q => absurd q (by decide)) (fun q => absurd q (by decide)) (fun _ => ⟨r, rfl, by omega⟩)
theorem bsA_lt : ∀ q p, bsA V q = some p → p < q := by
  intro q
  induction q with
  | zero => intro p h; cases h
  | succ q ih =>
    intro p h
    unfold bsA at h
    cases e : bsA V q with
    | none => rw [e] at h; cases h; omega
    | some y =>
      rw [e] at h
      have := ih y e
      by_cases c : shA V q < shA V y
      · simp only [if_pos c] at h; cases h; omega
      · simp only [if_neg c] at h; cases h; omega
theorem bsA_none : ∀ q, bsA V q = none → q = 0 := by
  intro q h
  cases q with
  | zero => rfl
  | succ q =>
    unfold bsA at h
    cases e : bsA V q with
    | none => rw [e] at h; cases h
    | some y =>
      rw [e] at h
      by_cases c : shA V q < shA V y
      · simp only [if_pos c] at h; cases h
      · simp only [if_neg c] at h; cases h
def fsA : List (Nat × Nat) := (31, 8) :: (31, 9) :: (31, 12) :: fsO
theorem CV.a3 {M1 : am_M} {i j r : Nat} (h : CV V M) (f : Fr (61 :: csO) fsA M M1) (h8 : M1 31 8 = nI (5 * 2 ^ i)) (h9 : M1 31 9 = nI (150 * 2 ^ j)) (h12 : M1 31 12 = nI r) : CV (vA V i j r) M1 := by
  have f2 : Fr (61 :: csO) fsO M (am_u (am_u (am_u M1 31 8 (M 31 8)) 31 9 (M 31 9)) 31 12 (M 31 12)) := ((f.back rfl).back rfl).back rfl
  have c0 := h.fr (f2.mono (by decide) (by decide))
  have c1 := ((c0.u (j := 18) (x := nI (5 * 2 ^ i)) (by decide)).u (j := 19) (x := nI (150 * 2 ^ j)) (by decide)).u (j := 22) (x := nI r) (by decide)
  have e : am_u (am_u (am_u (am_u (am_u (am_u M1 31 8 (M 31 8)) 31 9 (M 31 9)) 31 12 (M 31 12)) 31 (fz 18) (nI (5 * 2 ^ i))) 31 (fz 19) (nI (150 * 2 ^ j))) 31 (fz 22) (nI r) = M1 := by
    funext a b
    show am_u (am_u (am_u (am_u (am_u (am_u M1 31 8 (M 31 8)) 31 9 (M 31 9)) 31 12 (M 31 12)) 31 8 (nI (5 * 2 ^ i))) 31 9 (nI (150 * 2 ^ j))) 31 12 (nI r) a b = _
    by_cases z1 : a = 31 ∧ b = 12
    · rw [z1.1, z1.2, am_u_same]; exact h12.symm
    · rw [am_u_ne z1]
      by_cases z2 : a = 31 ∧ b = 9
      · rw [z2.1, z2.2, am_u_same]; exact h9.symm
      · rw [am_u_ne z2]
        by_cases z3 : a = 31 ∧ b = 8
        · rw [z3.1, z3.2, am_u_same]; exact h8.symm
        · rw [am_u_ne z3, am_u_ne z1, am_u_ne z2, am_u_ne z3]
  rw [e] at c1
  exact c1
theorem RS.a3 {M1 : am_M} {i j r : Nat} (h : RS V M) (f : Fr [100, 101, 106, 107, 108] ((70, 18) :: (70, 19) :: (70, 22) :: fsN) M M1) (h8 : M1 70 18 = nI (5 * 2 ^ i)) (h9 : M1 70 19 = nI (150 * 2 ^ j)) (h12 : M1 70 22 = nI r) : RS (vA V i j r) M1 := by
  have f2 : Fr [100, 101, 106, 107, 108] fsN M (am_u (am_u (am_u M1 70 18 (M 70 18)) 70 19 (M 70 19)) 70 22 (M 70 22)) := ((f.back rfl).back rfl).back rfl
  have c0 := h.fr (f2.mono (by decide) (by decide))
  have c1 := ((c0.u (j := 18) (x := nI (5 * 2 ^ i))).u (j := 19) (x := nI (150 * 2 ^ j))).u (j := 22) (x := nI r)
  have e : am_u (am_u (am_u (am_u (am_u (am_u M1 70 18 (M 70 18)) 70 19 (M 70 19)) 70 22 (M 70 22)) 70 18 (nI (5 * 2 ^ i))) 70 19 (nI (150 * 2 ^ j))) 70 22 (nI r) = M1 := by
    funext a b
    by_cases z1 : a = 70 ∧ b = 22
    · rw [z1.1, z1.2, am_u_same]; exact h12.symm
    · rw [am_u_ne z1]
      by_cases z2 : a = 70 ∧ b = 19
      · rw [z2.1, z2.2, am_u_same]; exact h9.symm
      · rw [am_u_ne z2]
        by_cases z3 : a = 70 ∧ b = 18
        · rw [z3.1, z3.2, am_u_same]; exact h8.symm
        · rw [am_u_ne z3, am_u_ne z1, am_u_ne z2, am_u_ne z3]
  rw [e] at c1
  exact c1
/-- what the class keeps of the best so far -/
def RB (V M : am_M) (q : Nat) : Prop := M 61 6 = nI (rrA V q) ∧ match bsA V q with
  | none => M 61 9 = -1
  | some p => M 61 9 = nI (shA V p) ∧ M 61 2 = nI (5 * 2 ^ (p / 12)) ∧ M 61 3 = nI (150 * 2 ^ (p / 4 % 3)) ∧ M 61 4 = nI (p % 4) ∧ M 61 5 = nI (thA V p)
theorem RB.of {M1 : am_M} {q : Nat} (h : RB V M q) (e : M1 61 = M 61) : RB V M1 q := by
  unfold RB at h ⊢
  rw [e]; exact h
theorem rr_le : ∀ q, rrA V q ≤ q := by
  intro q
  induction q with
  | zero => exact Nat.le_refl _
  | succ q ih =>
    unfold rrA
    by_cases c : thA V q < 50
    · rw [if_pos c]; omega
    · rw [if_neg c]; omega
end T51
