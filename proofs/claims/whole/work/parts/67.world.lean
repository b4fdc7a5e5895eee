section T67
variable {X : am_X} {d : Nat} {K : am_K} {S : am_S} {M : am_M} {L : am_L} {V : am_M}
/-- the lots after so many trials of a baby -/
def wX (V : am_M) (x0 b : Nat) : Nat → Nat
  | 0 => x0
  | t + 1 => if cryP V b t then wX V x0 b t else lcg (lcg (wX V x0 b t))
def wC (V : am_M) (b : Nat) : Nat → Nat
  | 0 => 0
  | t + 1 => if cryP V b t then wC V b t else wC V b t + 1
def wB (V : am_M) (x0 : Nat) : Nat → Nat
  | 0 => x0
  | b + 1 => wX V (wB V x0 b) b (tN V b)
def wN (V : am_M) : Nat → Nat
  | 0 => 0
  | b + 1 => wN V b + wC V b (tN V b)
def wG (V : am_M) (l : Option Nat) (x b t : Nat) : Int32 := lkI V (sdP V l (plF V (pN V b)) (V 81 b) t) (wX V (wB V x b) b t)
def w84 (V : am_M) (q : Nat) : Int32 := if q < 8 * nB V ∧ q % 8 < tN V (q / 8) then (if cryP V (q / 8) (q % 8) then 0 else 1) else V 84 q
def w85 (V : am_M) (l : Option Nat) (x i : Nat) : Int32 := if i < 64 * nB V ∧ i % 8 = 0 ∧ i / 8 % 8 < tN V (i / 64) ∧ ¬ cryP V (i / 64) (i / 8 % 8) then wG V l x (i / 64) (i / 8 % 8) else V 85 i
theorem wX_lt {x0 b : Nat} (h : x0 < 2147483648) : ∀ t, wX V x0 b t < 2147483648 := by
  intro t
  induction t with
  | zero => exact h
  | succ t ih =>
    unfold wX
    by_cases c : cryP V b t
    · rw [if_pos c]; exact ih
    · rw [if_neg c]; exact lcg_lt _
theorem wB_lt {x : Nat} (h : x < 2147483648) : ∀ b, wB V x b < 2147483648 := by
  intro b
  induction b with
  | zero => exact h
  | succ b ih => exact wX_lt ih _
theorem wC_le {b : Nat} : ∀ t, wC V b t ≤ t := by
  intro t
  induction t with
  | zero => exact Nat.le_refl _
  | succ t ih =>
    unfold wC
    by_cases c : cryP V b t
    · rw [if_pos c]; omega
    · rw [if_neg c]; omega
theorem wN_le (hI : IV V) : ∀ b, b ≤ nB V → wN V b ≤ 8 * b := by
  intro b
  induction b with
  | zero => intro _; exact Nat.le_refl _
  | succ b ih =>
    intro h
    have a := ih (by omega)
    have c := wC_le (V := V) (b := b) (tN V b)
    have e := (hI.tn (b := b) (by omega)).2.2.2.1
    show wN V b + wC V b (tN V b) ≤ _
    omega
theorem w84_at {b t : Nat} (hb : b < nB V) (ht : t < tN V b) (h8 : tN V b ≤ 8) : w84 V (8 * b + t) = if cryP V b t then 0 else 1 := by
  have e1 : (8 * b + t) / 8 = b := by omega
  have e2 : (8 * b + t) % 8 = t := by omega
  unfold w84
  rw [e1, e2, if_pos ⟨by omega, ht⟩]
theorem w84_of {q : Nat} (h : ¬ (q < 8 * nB V ∧ q % 8 < tN V (q / 8))) : w84 V q = V 84 q := if_neg h
theorem w85_at {l : Option Nat} {x b t : Nat} (hb : b < nB V) (ht : t < tN V b) (h8 : tN V b ≤ 8) (hc : ¬ cryP V b t) : w85 V l x (8 * (8 * b + t)) = wG V l x b t := by
  have e0 : 8 * (8 * b + t) % 8 = 0 := by omega
  have e1 : 8 * (8 * b + t) / 64 = b := by omega
  have e2 : 8 * (8 * b + t) / 8 % 8 = t := by omega
  unfold w85
  rw [e1, e2, if_pos ⟨by omega, e0, ht, hc⟩]
theorem w85_of {l : Option Nat} {x i : Nat} (h : ¬ (i < 64 * nB V ∧ i % 8 = 0 ∧ i / 8 % 8 < tN V (i / 64) ∧ ¬ cryP V (i / 64) (i / 8 % 8))) : w85 V l x i = V 85 i := if_neg h
/-- the picture after a world -/
def wV (V : am_M) (l : Option Nat) (x : Nat) : am_M := am_r (am_r V 84 (w84 V)) 85 (w85 V l x)
theorem wV_r {l : Option Nat} {x c : Nat} (h1 : (c = 84) = False) (h2 : (c = 85) = False) : wV V l x c = V c := by
  unfold wV
  rw [am_r_row2 h2, am_r_row2 h1]
theorem wV_84 {l : Option Nat} {x : Nat} : wV V l x 84 = w84 V := by
  unfold wV
  rw [am_r_row2 (by decide), am_r_same]
theorem wV_85 {l : Option Nat} {x : Nat} : wV V l x 85 = w85 V l x := am_r_same
theorem bro1_in (z : Int32) : ∃ n, 1 ≤ n ∧ n ≤ 600 ∧ bro z 1 600 = nI n := by
  unfold bro
  by_cases c : z < 600
  · rw [if_pos c]
    by_cases c2 : 1 < z
    · rw [if_pos c2]
      have a := Int32.lt_iff_toInt_lt.mp c
      have b := Int32.lt_iff_toInt_lt.mp c2
      rw [show (600 : Int32).toInt = 600 from rfl] at a
      rw [show (1 : Int32).toInt = 1 from rfl] at b
      refine ⟨z.toInt.toNat, by omega, by omega, ?_⟩
      apply Int32.toInt_inj.mp
      rw [nI_toInt (by omega)]
      omega
    · rw [if_neg c2]; exact ⟨1, by omega, by omega, rfl⟩
  · rw [if_neg c, if_pos (by decide)]; exact ⟨600, by omega, by omega, rfl⟩
theorem IV.wld {l : Option Nat} {x : Nat} (hI : IV V) : IV (wV V l x) := by
  have n16 := hI.nb.2
  have gm : ∀ q, q < 8 * nB V → w84 V q = nI (nm (w84 V q)) ∧ nm (w84 V q) ≤ 8 := by
    intro q hq
    by_cases c : q < 8 * nB V ∧ q % 8 < tN V (q / 8)
    · unfold w84
      rw [if_pos c]
      by_cases c2 : cryP V (q / 8) (q % 8)
      · rw [if_pos c2]; exact ⟨rfl, by decide⟩
      · rw [if_neg c2]; exact ⟨rfl, by decide⟩
    · rw [w84_of c]; exact hI.gm q hq
  have gz : ∀ q i, q < 8 * nB V → i < nm (w84 V q) → w85 V l x (8 * q + i) = nI (nm (w85 V l x (8 * q + i))) ∧ 1 ≤ nm (w85 V l x (8 * q + i)) ∧ nm (w85 V l x (8 * q + i)) ≤ 600 := by
    intro q i hq hi
    by_cases c : q % 8 < tN V (q / 8)
    · have e : 8 * (q / 8) + q % 8 = q := by omega
      have h8 := (hI.tn (b := q / 8) (by omega)).2.2.2.1
      have a := w84_at (V := V) (b := q / 8) (t := q % 8) (by omega) c h8
      rw [e] at a
      rw [a] at hi
      by_cases c2 : cryP V (q / 8) (q % 8)
      · rw [if_pos c2] at hi; exact absurd hi (by show ¬ i < 0; omega)
      · rw [if_neg c2] at hi
        have i0 : i = 0 := by
          have : i < 1 := hi
          omega
        subst i0
        have b := w85_at (V := V) (l := l) (x := x) (b := q / 8) (t := q % 8) (by omega) c h8 c2
        rw [e] at b
        rw [Nat.add_zero, b]
        obtain ⟨n, h1, h2, h3⟩ := bro1_in (if lcg (lcg (wX V (wB V x (q / 8)) (q / 8) (q % 8))) / 256 % 16 = 0 then (sdP V l (plF V (pN V (q / 8))) (V 81 (q / 8)) (q % 8) + nI (lcg (wX V (wB V x (q / 8)) (q / 8) (q % 8)) / 256 % (2 * nm (V 70 50) + 1)) - V 70 50) * V 70 51 else sdP V l (plF V (pN V (q / 8))) (V 81 (q / 8)) (q % 8) + nI (lcg (wX V (wB V x (q / 8)) (q / 8) (q % 8)) / 256 % (2 * nm (V 70 50) + 1)) - V 70 50)
        have h4 : wG V l x (q / 8) (q % 8) = nI n := h3
        rw [h4, nm_nI (by omega)]
        exact ⟨rfl, h1, h2⟩
    · have a := w84_of (V := V) (q := q) (fun z => c z.2)
      rw [a] at hi
      have z := hI.g0 (q / 8) (q % 8) (by omega) (by omega) (Nat.le_of_not_lt c)
      rw [show 8 * (q / 8) + q % 8 = q by omega] at z
      rw [z] at hi
      exact absurd hi (by show ¬ i < 0; omega)
  have g0 : ∀ b t, b < nB V → t < 8 → nm (V 77 (nm (V 79 b))) ≤ t → w84 V (8 * b + t) = 0 := by
    intro b t hb ht h
    rw [w84_of (fun z => ?_)]
    · exact hI.g0 b t hb ht h
    · have e1 : (8 * b + t) / 8 = b := by omega
      have e2 : (8 * b + t) % 8 = t := by omega
      have q := z.2
      rw [e1, e2] at q
      have : tN V b ≤ t := h
      omega
  have r70 : wV V l x 70 = V 70 := wV_r (by decide) (by decide)
  have nb : nB (wV V l x) = nB V := by unfold nB; rw [r70]
  have ns : nS (wV V l x) = nS V := by unfold nS; rw [r70]
  have np : nP (wV V l x) = nP V := by unfold nP; rw [r70]
  unfold IV at hI ⊢
  rw [nb, ns, np, r70, wV_84, wV_85, wV_r (c := 72) (by decide) (by decide), wV_r (c := 75) (by decide) (by decide), wV_r (c := 76) (by decide) (by decide), wV_r (c := 77) (by decide) (by decide), wV_r (c := 78) (by decide) (by decide), wV_r (c := 79) (by decide) (by decide), wV_r (c := 80) (by decide) (by decide), wV_r (c := 81) (by decide) (by decide), wV_r (c := 83) (by decide) (by decide)]
  obtain ⟨h1, h2, h3, h4, h5, h6, h7, h8, h9, h10, h11, h12, h13, h14, h15, hr⟩ := hI
  exact ⟨h1, h2, h3, h4, h5, h6, h7, h8, h9, h10, h11, h12, gm, gz, g0, hr⟩
theorem IVp.wld {l : Option Nat} {x : Nat} (hP : IVp V) : IVp (wV V l x) := by
  have r97 : wV V l x 97 = V 97 := wV_r (by decide) (by decide)
  have r98 : wV V l x 98 = V 98 := wV_r (by decide) (by decide)
  have nl : nL (wV V l x) = nL V := by unfold nL; rw [r97]
  have no : nO (wV V l x) = nO V := by unfold nO; rw [r98]
  have ic : ∀ c, isC (wV V l x) c = isC V c := fun c => by unfold isC; rw [nl, no]
  unfold IVp at hP ⊢
  simp only [ic, nl, no, r97, r98, wV_r (V := V) (l := l) (x := x) (c := 91) (by decide) (by decide), wV_r (V := V) (l := l) (x := x) (c := 94) (by decide) (by decide), wV_r (V := V) (l := l) (x := x) (c := 88) (by decide) (by decide)]
  exact hP
end T67
