section T24
variable {X : am_X} {d : Nat} {K : am_K} {S : am_S} {M : am_M} {L : am_L} {V : am_M}
/-- a long brought into bounds -/
def clp (w : Int64) : Int32 := if 1000000 < w then 1000000 else if w < -1000000 then -1000000 else w.toInt32
def opE (m x y : Int32) : Int32 := if m = 20001 then clp (x.toInt64 + y.toInt64) else if m = 20002 then clp (x.toInt64 - y.toInt64) else if m = 20003 then clp (x.toInt64 * y.toInt64) else if m = 20004 then (if y = 0 then 0 else clp ((x / y).toInt64)) else if m = 20005 then (if x < y then 1 else 0) else (if x = y then 1 else 0)
theorem clp_1 : clp 1 = 1 := by decide
theorem clp_0 : clp 0 = 0 := by decide
theorem clp_ne (w : Int64) : clp w ≠ -2147483648 := by
  unfold clp
  by_cases h1 : 1000000 < w
  · rw [if_pos h1]; decide
  · rw [if_neg h1]
    by_cases h2 : w < -1000000
    · rw [if_pos h2]; decide
    · rw [if_neg h2]
      intro e
      have q := congrArg Int32.toInt e
      rw [Int64.toInt_toInt32] at q
      have a1 := Int64.le_iff_toInt_le.mp (Int64.not_lt.mp h1)
      have a2 := Int64.le_iff_toInt_le.mp (Int64.not_lt.mp h2)
      rw [show (1000000 : Int64).toInt = 1000000 from rfl] at a1
      rw [show (-1000000 : Int64).toInt = -1000000 from rfl] at a2
      rw [Int.bmod_eq_of_le (by omega) (by omega), show (-2147483648 : Int32).toInt = -2147483648 from rfl] at q
      omega
theorem i_divL {x y : Int32} (hx : x ≠ -2147483648) (hy : ¬ y = 0) : x.toInt64 / y.toInt64 = (x / y).toInt64 := by
  apply Int64.toInt_inj.mp
  have t1 := i_T x
  have t2 := i_T y
  have n1 : x.toInt ≠ -2147483648 := fun e => hx (Int32.toInt_inj.mp e)
  have n2 : y.toInt ≠ 0 := fun e => hy (Int32.toInt_inj.mp e)
  have b := Int.natAbs_tdiv_le_natAbs x.toInt y.toInt
  rw [Int64.toInt_div, Int32.toInt_toInt64, Int32.toInt_toInt64, Int32.toInt_toInt64, Int32.toInt_div]
  rw [Int.bmod_eq_of_le (by omega) (by omega), Int.bmod_eq_of_le (by omega) (by omega)]
theorem opE_ne (m x y : Int32) : opE m x y ≠ -2147483648 := by
  unfold opE
  have c1 : ∀ (p : Prop) [Decidable p], (if p then (1 : Int32) else 0) ≠ -2147483648 := by
    intro p _
    by_cases h : p
    · rw [if_pos h]; decide
    · rw [if_neg h]; decide
  by_cases h1 : m = 20001
  · rw [if_pos h1]; exact clp_ne _
  rw [if_neg h1]
  by_cases h1 : m = 20002
  · rw [if_pos h1]; exact clp_ne _
  rw [if_neg h1]
  by_cases h1 : m = 20003
  · rw [if_pos h1]; exact clp_ne _
  rw [if_neg h1]
  by_cases h1 : m = 20004
  · rw [if_pos h1]
    by_cases h2 : y = 0
    · rw [if_pos h2]; decide
    · rw [if_neg h2]; exact clp_ne _
  rw [if_neg h1]
  by_cases h1 : m = 20005
  · rw [if_pos h1]; exact c1 _
  rw [if_neg h1]; exact c1 _
/-- the pile -/
def stE (nz : Nat → Int32) (m : Int32) (st : List Int32) : List Int32 := if m < 20001 then (if m < 10000 then m else nz (nm (m - 10000))) :: st else match st with
  | y :: x :: r => opE m x y :: r
  | r => r
def evS (g nz : Nat → Int32) (b : Nat) : Nat → List Int32
  | 0 => []
  | i + 1 => stE nz (g (b + i)) (evS g nz b i)
def Stk (f : Nat → Int32) : List Int32 → Prop
  | [] => True
  | x :: r => f r.length = x ∧ Stk f r
theorem Stk.u {M : am_M} {c j : Nat} {x : Int32} : ∀ {st : List Int32}, Stk (M c) st → st.length ≤ j → Stk (am_u M c j x c) st := by
  intro st
  induction st with
  | nil => intros; exact True.intro
  | cons y r ih =>
    intro h hj
    have hl : (y :: r).length = r.length + 1 := rfl
    refine ⟨?_, ih h.2 (by omega)⟩
    rw [am_u_ne (fun q => by omega)]
    exact h.1
def topS (st : List Int32) : Int32 := match st with
  | [] => 0
  | x :: _ => x
/-- what a law or a clause comes to -/
def wkI (V : am_M) (c : Nat) (nz : Nat → Int32) : Int32 := topS (evS (V 88) nz (nm (V 91 c)) (nm (V 94 c)))
theorem evS_len {g nz : Nat → Int32} {b n : Nat} (h : WFx g b n) : ∀ i, i ≤ n → (evS g nz b i).length = hts g b i := by
  intro i
  induction i with
  | zero => intro _; rfl
  | succ i ih =>
    intro hi
    have q := (h.1 i (by omega)).2
    have e := ih (by omega)
    unfold evS hts stE
    by_cases c : g (b + i) < 20001
    · rw [if_pos c, if_pos c, List.length_cons, e]
    · rw [if_neg c, if_neg c]
      have q2 := q.1 c
      rw [← e] at q2 ⊢
      match evS g nz b i, q2 with
      | y :: x :: r, _ => rfl
theorem stE_ne {nz : Nat → Int32} (hz : ∀ k, k < 12 → nz k ≠ -2147483648) {m : Int32} (hm : mkv m) {st : List Int32} (hs : ∀ x ∈ st, x ≠ -2147483648) : ∀ x ∈ stE nz m st, x ≠ -2147483648 := by
  unfold stE
  by_cases c : m < 20001
  · rw [if_pos c]
    intro x hx
    rcases List.mem_cons.mp hx with e | e
    · rw [e]
      rcases hm with ⟨v, hv, e⟩ | ⟨v, hv, e⟩ | ⟨v, hv, e⟩
      · rw [e, if_pos (by rw [show (10000 : Int32) = nI 10000 from rfl, nI_lt' (by omega) (by omega)]; omega)]
        intro q
        exact absurd (q ▸ nI_pos' (n := v) (by omega)) (by decide)
      · rw [e, if_neg (by rw [show (10000 : Int32) = nI 10000 from rfl, nI_lt' (by omega) (by omega)]; omega)]
        rw [show (10000 : Int32) = nI 10000 from rfl, nI_sub (by omega) (by omega), nm_nI (by omega)]
        exact hz _ (by omega)
      · rw [e, show (20001 : Int32) = nI 20001 from rfl, nI_lt' (by omega) (by omega)] at c
        omega
    · exact hs x e
  · rw [if_neg c]
    match st, hs with
    | [], hs => exact hs
    | [y], hs => exact hs
    | y :: x :: r, hs =>
      intro z hz2
      rcases List.mem_cons.mp hz2 with e | e
      · rw [e]; exact opE_ne _ _ _
      · exact hs z (List.mem_cons_of_mem _ (List.mem_cons_of_mem _ e))
theorem evS_ne {g nz : Nat → Int32} (hz : ∀ k, k < 12 → nz k ≠ -2147483648) {b n : Nat} (h : WFx g b n) : ∀ i, i ≤ n → ∀ x ∈ evS g nz b i, x ≠ -2147483648 := by
  intro i
  induction i with
  | zero => intro _ x hx; cases hx
  | succ i ih => intro hi; exact stE_ne hz (h.1 i (by omega)).1 (ih (by omega))
end T24
