/-! ===== couples of laws that are parted, rows in their order ===== -/
/-- how many of the first j have another sign than l -/
def pr1 (s : Nat → Int32) (l : Nat) : Nat → Nat
  | 0 => 0
  | j + 1 => if s l = s j then pr1 s l j else pr1 s l j + 1
def prs (s : Nat → Int32) : Nat → Nat
  | 0 => 0
  | l + 1 => prs s l + pr1 s l l
def cnt (s : Nat → Int32) (v : Int32) : Nat → Nat
  | 0 => 0
  | l + 1 => if s l = v then cnt s v l + 1 else cnt s v l
theorem cnt_le {s : Nat → Int32} {v w : Int32} (hvw : v ≠ w) : ∀ n, cnt s v n + cnt s w n ≤ n := by
  intro n
  induction n with
  | zero => exact Nat.le_refl _
  | succ n ih =>
    unfold cnt
    by_cases c : s n = v
    · rw [if_pos c, if_neg (fun e => hvw (c.symm.trans e))]; omega
    · rw [if_neg c]
      by_cases c2 : s n = w
      · rw [if_pos c2]; omega
      · rw [if_neg c2]; omega
theorem pr1_eq {s : Nat → Int32} {z : Int32} {l : Nat} (hz1 : z ≠ 1) (hz2 : z ≠ -1) : ∀ j, (∀ i, i < j → s i = 1 ∨ s i = -1 ∨ s i = z) → (s l = 1 → pr1 s l j = j - cnt s 1 j) ∧ (s l = -1 → pr1 s l j = j - cnt s (-1) j) ∧ (s l = z → pr1 s l j = cnt s 1 j + cnt s (-1) j) := by
  intro j
  induction j with
  | zero => intro _; exact ⟨fun _ => rfl, fun _ => rfl, fun _ => rfl⟩
  | succ j ih =>
    intro h
    obtain ⟨i1, i2, i3⟩ := ih (fun i hi => h i (by omega))
    have b := cnt_le (s := s) (v := 1) (w := -1) (by decide) j
    refine ⟨fun e => ?_, fun e => ?_, fun e => ?_⟩
    · have i1 := i1 e
      unfold pr1 cnt
      rw [e]
      rcases h j (by omega) with q | q | q
      · rw [q, if_pos rfl, if_pos rfl]; omega
      · rw [q, if_neg (by decide), if_neg (by decide)]; omega
      · rw [q, if_neg (fun e => hz1 e.symm), if_neg hz1]; omega
    · have i2 := i2 e
      unfold pr1 cnt
      rw [e]
      rcases h j (by omega) with q | q | q
      · rw [q, if_neg (by decide), if_neg (by decide)]; omega
      · rw [q, if_pos rfl, if_pos rfl]; omega
      · rw [q, if_neg (fun e => hz2 e.symm), if_neg hz2]; omega
    · have i3 := i3 e
      unfold pr1 cnt
      rw [e]
      rcases h j (by omega) with q | q | q
      · rw [q, if_neg hz1, if_pos rfl, if_neg (by decide)]; omega
      · rw [q, if_neg hz2, if_neg (by decide), if_pos rfl]; omega
      · rw [q, if_pos rfl, if_neg hz1, if_neg hz2]; omega
theorem prs_eq {s : Nat → Int32} {z : Int32} (hz1 : z ≠ 1) (hz2 : z ≠ -1) : ∀ n, (∀ i, i < n → s i = 1 ∨ s i = -1 ∨ s i = z) → prs s n = cnt s 1 n * cnt s (-1) n + cnt s 1 n * (n - cnt s 1 n - cnt s (-1) n) + cnt s (-1) n * (n - cnt s 1 n - cnt s (-1) n) := by
  intro n
  induction n with
  | zero => intro _; rfl
  | succ n ih =>
    intro h
    have ih := ih (fun i hi => h i (by omega))
    have b := cnt_le (s := s) (v := 1) (w := -1) (by decide) n
    obtain ⟨i1, i2, i3⟩ := pr1_eq (s := s) (l := n) hz1 hz2 n (fun i hi => h i (by omega))
    have e : prs s (n + 1) = prs s n + pr1 s n n := rfl
    rw [e, ih]
    have u1 : cnt s 1 (n + 1) = if s n = 1 then cnt s 1 n + 1 else cnt s 1 n := rfl
    have u2 : cnt s (-1) (n + 1) = if s n = -1 then cnt s (-1) n + 1 else cnt s (-1) n := rfl
    rw [u1, u2]
    obtain ⟨o, ho⟩ : ∃ o, n = cnt s 1 n + cnt s (-1) n + o := ⟨n - cnt s 1 n - cnt s (-1) n, by omega⟩
    rcases h n (by omega) with q | q | q
    · rw [if_pos q, if_neg (by rw [q]; decide), i1 q]
      generalize cnt s 1 n = a at *
      generalize cnt s (-1) n = c at *
      rw [show n - a - c = o by omega, show n + 1 - (a + 1) - c = o by omega, show n - a = c + o by omega, Nat.add_mul, Nat.add_mul, Nat.one_mul, Nat.one_mul]
      omega
    · rw [if_neg (by rw [q]; decide), if_pos q, i2 q]
      generalize cnt s 1 n = a at *
      generalize cnt s (-1) n = c at *
      rw [show n - a - c = o by omega, show n + 1 - a - (c + 1) = o by omega, show n - c = a + o by omega, Nat.mul_add, Nat.add_mul, Nat.mul_one, Nat.one_mul]
      omega
    · rw [if_neg (by rw [q]; exact hz1), if_neg (by rw [q]; exact hz2), i3 q]
      generalize cnt s 1 n = a at *
      generalize cnt s (-1) n = c at *
      rw [show n - a - c = o by omega, show n + 1 - a - c = o + 1 by omega, Nat.mul_add, Nat.mul_add, Nat.mul_one, Nat.mul_one]
      omega
theorem third : ∀ a b o : Nat, a + b + o ≤ 6 → a * b + a * o + b * o ≤ (a + b + o) * (a + b + o) / 3 := by
  have h : ∀ a b o : Fin 7, a.val + b.val + o.val ≤ 6 → a.val * b.val + a.val * o.val + b.val * o.val ≤ (a.val + b.val + o.val) * (a.val + b.val + o.val) / 3 := by decide +kernel
  intro a b o q
  exact h ⟨a, by omega⟩ ⟨b, by omega⟩ ⟨o, by omega⟩ q
theorem prs_le {s : Nat → Int32} {z : Int32} (hz1 : z ≠ 1) (hz2 : z ≠ -1) {n : Nat} (hn : n ≤ 6) (h : ∀ i, i < n → s i = 1 ∨ s i = -1 ∨ s i = z) : prs s n ≤ n * n / 3 := by
  have b := cnt_le (s := s) (v := 1) (w := -1) (by decide) n
  rw [prs_eq hz1 hz2 n h]
  have t := third (cnt s 1 n) (cnt s (-1) n) (n - cnt s 1 n - cnt s (-1) n) (by omega)
  rw [show cnt s 1 n + cnt s (-1) n + (n - cnt s 1 n - cnt s (-1) n) = n by omega] at t
  exact t
/-- a row of screens -/
def fR (p : List Nat) (j : Nat) : Int32 := nI (p.getD j 0)
def sgR (V : am_M) (a : Int32) (p : List Nat) (l : Nat) : Int32 := sgN V (fR p) (sdI V l (fR p) a) p.length
def cpR (V : am_M) (a : Int32) (p : List Nat) : Nat := prs (sgR V a p) (nL V)
abbrev fSt : Type := Option (Nat × List Nat)
def rateS (V : am_M) (a : Int32) (p : List Nat) (q : fSt) : fSt := match q with
  | none => some (cpR V a p, p)
  | some (c, r) => if c < cpR V a p then some (cpR V a p, p) else some (c, r)
def lpS (g : Nat → fSt → fSt) : Nat → fSt → fSt
  | 0, q => q
  | i + 1, q => g i (lpS g i q)
def dfS (V : am_M) (a : Int32) : Nat → List Nat → fSt → fSt
  | 0, p, q => rateS V a p q
  | n + 1, p, q => lpS (fun s q => if p.contains s = true then q else dfS V a n (p ++ [s]) q) (nS V) q
/-- all rows of 2 .. m screens -/
def nxS (V : am_M) (a : Int32) : Nat → fSt
  | 0 => none
  | m + 1 => dfS V a (m + 2) [] (nxS V a m)
theorem sg_kind {V : am_M} {a : Int32} {p : List Nat} : ∃ z : Int32, z ≠ 1 ∧ z ≠ -1 ∧ ∀ l, sgR V a p l = 1 ∨ sgR V a p l = -1 ∨ sgR V a p l = z := by
  by_cases c : om V (fR p) p.length = 0 ∨ p.length - om V (fR p) p.length = 0
  · refine ⟨2, by decide, by decide, fun l => Or.inr (Or.inr ?_)⟩
    unfold sgR sgN sgI
    rw [if_pos c]
  · refine ⟨0, by decide, by decide, fun l => ?_⟩
    unfold sgR sgN sgI
    rw [if_neg c]
    split
    · exact Or.inr (Or.inl rfl)
    · split
      · exact Or.inr (Or.inr rfl)
      · exact Or.inl rfl
theorem cpR_le {V : am_M} {a : Int32} {p : List Nat} (h : nL V ≤ 6) : cpR V a p ≤ nL V * nL V / 3 := by
  obtain ⟨z, z1, z2, q⟩ := sg_kind (V := V) (a := a) (p := p)
  exact prs_le z1 z2 h (fun i _ => q i)
/-- enough couples are parted: nothing changes -/
def satS (V : am_M) (q : fSt) : Prop := ∃ c r, q = some (c, r) ∧ nL V * nL V / 3 ≤ c
theorem lpS_sat {g : Nat → fSt → fSt} {q : fSt} (h : ∀ s, g s q = q) : ∀ n, lpS g n q = q := by
  intro n
  induction n with
  | zero => rfl
  | succ n ih => show g n (lpS g n q) = q; rw [ih, h]
theorem dfS_sat {V : am_M} {a : Int32} (hl : nL V ≤ 6) {q : fSt} (h : satS V q) : ∀ n p, dfS V a n p q = q := by
  intro n
  induction n with
  | zero =>
    intro p
    obtain ⟨c, r, rfl, h2⟩ := h
    show (if c < cpR V a p then some (cpR V a p, p) else some (c, r)) = some (c, r)
    rw [if_neg (by have := cpR_le (a := a) (p := p) hl; omega)]
  | succ n ih =>
    intro p
    refine lpS_sat (fun s => ?_) (nS V)
    by_cases c : p.contains s = true
    · rw [if_pos c]
    · rw [if_neg c]; exact ih _
theorem lpS_from {g : Nat → fSt → fSt} {q : fSt} {i : Nat} (h : ∀ s, g s (lpS g i q) = lpS g i q) : ∀ n, i ≤ n → lpS g n q = lpS g i q := by
  intro n
  induction n with
  | zero => intro hi; rw [show i = 0 by omega]
  | succ n ih =>
    intro hi
    by_cases e : i = n + 1
    · rw [e]
    · show g n (lpS g n q) = _
      rw [ih (by omega), h]
/-- too few screens: no row -/
def cntM (p : List Nat) : Nat → Nat
  | 0 => 0
  | i + 1 => if p.contains i = true then cntM p i + 1 else cntM p i
theorem cntM_le {p : List Nat} : ∀ n, cntM p n ≤ n := by
  intro n
  induction n with
  | zero => exact Nat.le_refl _
  | succ n ih =>
    unfold cntM
    by_cases c : p.contains n = true
    · rw [if_pos c]; omega
    · rw [if_neg c]; omega
theorem cntM_all {p : List Nat} : ∀ n, cntM p n = n → ∀ s, s < n → p.contains s = true := by
  intro n
  induction n with
  | zero => intro _ s h; omega
  | succ n ih =>
    intro h s hs
    have b := cntM_le (p := p) n
    unfold cntM at h
    by_cases c : p.contains n = true
    · rw [if_pos c] at h
      by_cases e : s = n
      · rw [e]; exact c
      · exact ih (by omega) s (by omega)
    · rw [if_neg c] at h; omega
theorem cont_snoc {p : List Nat} {s i : Nat} : (p ++ [s]).contains i = true ↔ (p.contains i = true ∨ i = s) := by
  simp only [List.contains_iff_mem, List.mem_append, List.mem_singleton]
theorem cntM_snoc {p : List Nat} {s : Nat} (h : ¬ p.contains s = true) : ∀ n, cntM (p ++ [s]) n = if s < n then cntM p n + 1 else cntM p n := by
  intro n
  induction n with
  | zero => rw [if_neg (by omega)]; rfl
  | succ n ih =>
    have e1 : cntM (p ++ [s]) (n + 1) = if (p ++ [s]).contains n = true then cntM (p ++ [s]) n + 1 else cntM (p ++ [s]) n := rfl
    have e2 : cntM p (n + 1) = if p.contains n = true then cntM p n + 1 else cntM p n := rfl
    rw [e1, e2, ih]
    by_cases e : n = s
    · subst e
      rw [if_pos (cont_snoc.mpr (Or.inr rfl)), if_neg (by omega), if_pos (by omega), if_neg h]
    · by_cases c : p.contains n = true
      · rw [if_pos (cont_snoc.mpr (Or.inl c)), if_pos c]
        by_cases c2 : s < n
        · rw [if_pos c2, if_pos (by omega)]
        · rw [if_neg c2, if_neg (by omega)]
      · rw [if_neg (fun q => (cont_snoc.mp q).elim c e), if_neg c]
        by_cases c2 : s < n
        · rw [if_pos c2, if_pos (by omega)]
        · rw [if_neg c2, if_neg (by omega)]
theorem dfS_few {V : am_M} {a : Int32} : ∀ n p, cntM p (nS V) = p.length → nS V < p.length + n → 0 < n → ∀ q, dfS V a n p q = q := by
  intro n
  induction n with
  | zero => intro p _ _ h; omega
  | succ n ih =>
    intro p h1 h2 _ q
    have b := cntM_le (p := p) (nS V)
    have key : ∀ i, i ≤ nS V → lpS (fun s q => if p.contains s = true then q else dfS V a n (p ++ [s]) q) i q = q := by
      intro i
      induction i with
      | zero => intro _; rfl
      | succ i ih2 =>
        intro hi
        show (if p.contains i = true then lpS _ i q else dfS V a n (p ++ [i]) (lpS _ i q)) = q
        rw [ih2 (by omega)]
        by_cases c : p.contains i = true
        · rw [if_pos c]
        · rw [if_neg c]
          by_cases n0 : n = 0
          · exact absurd (cntM_all (nS V) (by omega) i (by omega)) c
          · refine ih (p ++ [i]) ?_ ?_ (by omega) q
            · rw [cntM_snoc c, if_pos (by omega), h1, List.length_append]; rfl
            · rw [List.length_append, List.length_singleton]; omega
    exact key (nS V) (Nat.le_refl _)
