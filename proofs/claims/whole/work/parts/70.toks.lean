/-! ===== the text: bytes T 0 .. T (n - 1), its tokens ===== -/
abbrev bL (b : Nat) : Prop := 97 ≤ b ∧ b ≤ 122
abbrev bD (b : Nat) : Prop := 48 ≤ b ∧ b ≤ 57
abbrev bB (b : Nat) : Prop := b = 32 ∨ b = 10
abbrev bG (b : Nat) : Prop := b = 43 ∨ b = 45 ∨ b = 42 ∨ b = 47 ∨ b = 60 ∨ b = 61 ∨ b = 40 ∨ b = 41 ∨ b = 59
/-- the first place from i on at which p ends -/
def rnE (T : Nat → Nat) (p : Nat → Bool) (n : Nat) : Nat → Nat → Nat
  | 0, i => i
  | f + 1, i => if i < n ∧ p (T i) = true then rnE T p n f (i + 1) else i
def rnn (T : Nat → Nat) (p : Nat → Bool) (n i : Nat) : Nat := rnE T p n (n - i) i
theorem rnn_step {T : Nat → Nat} {p : Nat → Bool} {n i : Nat} (h : i < n) (hp : p (T i) = true) : rnn T p n i = rnn T p n (i + 1) := by
  unfold rnn
  rw [show n - i = (n - (i + 1)) + 1 by omega]
  show (if i < n ∧ p (T i) = true then rnE T p n (n - (i + 1)) (i + 1) else i) = _
  rw [if_pos ⟨h, hp⟩]
theorem rnn_stop {T : Nat → Nat} {p : Nat → Bool} {n i : Nat} (h : ¬ (i < n ∧ p (T i) = true)) : rnn T p n i = i := by
  unfold rnn
  cases e : n - i with
  | zero => rfl
  | succ f =>
    show (if i < n ∧ p (T i) = true then rnE T p n f (i + 1) else i) = _
    rw [if_neg h]
theorem rnn_all {T : Nat → Nat} {p : Nat → Bool} {n : Nat} : ∀ i, i ≤ rnn T p n i ∧ (i ≤ n → rnn T p n i ≤ n) ∧ (∀ j, i ≤ j → j < rnn T p n i → p (T j) = true) ∧ ¬ (rnn T p n i < n ∧ p (T (rnn T p n i)) = true) := by
  have q : ∀ f i, n - i = f → i ≤ rnn T p n i ∧ (i ≤ n → rnn T p n i ≤ n) ∧ (∀ j, i ≤ j → j < rnn T p n i → p (T j) = true) ∧ ¬ (rnn T p n i < n ∧ p (T (rnn T p n i)) = true) := by
    intro f
    induction f with
    | zero =>
      intro i e
      have h : ¬ (i < n ∧ p (T i) = true) := fun z => by omega
      rw [rnn_stop h]
      exact ⟨Nat.le_refl _, id, fun j h1 h2 => by omega, h⟩
    | succ f ih =>
      intro i e
      by_cases h : i < n ∧ p (T i) = true
      · obtain ⟨a, b, c, g⟩ := ih (i + 1) (by omega)
        rw [rnn_step h.1 h.2]
        refine ⟨by omega, fun _ => b (by omega), fun j h1 h2 => ?_, g⟩
        by_cases e : j = i
        · rw [e]; exact h.2
        · exact c j (by omega) h2
      · rw [rnn_stop h]
        exact ⟨Nat.le_refl _, id, fun j h1 h2 => by omega, h⟩
  exact fun i => q _ i rfl
def pL (b : Nat) : Bool := decide (bL b)
def pD (b : Nat) : Bool := decide (bD b)
def pB (b : Nat) : Bool := decide (bB b)
theorem pL_t {b : Nat} : (pL b = true) = bL b := propext ⟨of_decide_eq_true, decide_eq_true⟩
theorem pD_t {b : Nat} : (pD b = true) = bD b := propext ⟨of_decide_eq_true, decide_eq_true⟩
theorem pB_t {b : Nat} : (pB b = true) = bB b := propext ⟨of_decide_eq_true, decide_eq_true⟩
/-- where the token ends that begins at i -/
def tkE (T : Nat → Nat) (n i : Nat) : Nat := if i < n then (if bL (T i) then rnn T pL n i else if bD (T i) then rnn T pD n i else i + 1) else i
def sqT (T : Nat → Nat) (n : Nat) : Nat → Nat
  | 0 => rnn T pB n 0
  | k + 1 => rnn T pB n (tkE T n (sqT T n k))
def eqT (T : Nat → Nat) (n k : Nat) : Nat := tkE T n (sqT T n k)
theorem tkE_gt {T : Nat → Nat} {n i : Nat} (h : i < n) : i + 1 ≤ tkE T n i ∧ tkE T n i ≤ n := by
  unfold tkE
  rw [if_pos h]
  by_cases c : bL (T i)
  · rw [if_pos c, rnn_step h (by rw [pL_t]; exact c)]
    have q := rnn_all (T := T) (p := pL) (n := n) (i + 1)
    exact ⟨q.1, q.2.1 (by omega)⟩
  · rw [if_neg c]
    by_cases c2 : bD (T i)
    · rw [if_pos c2, rnn_step h (by rw [pD_t]; exact c2)]
      have q := rnn_all (T := T) (p := pD) (n := n) (i + 1)
      exact ⟨q.1, q.2.1 (by omega)⟩
    · rw [if_neg c2]; omega
theorem tkE_n {T : Nat → Nat} {n i : Nat} (h : ¬ i < n) : tkE T n i = i := if_neg h
theorem sqT_le {T : Nat → Nat} {n : Nat} : ∀ k, sqT T n k ≤ n := by
  intro k
  induction k with
  | zero => exact (rnn_all (T := T) (p := pB) (n := n) 0).2.1 (by omega)
  | succ k ih =>
    refine (rnn_all (T := T) (p := pB) (n := n) _).2.1 ?_
    by_cases h : sqT T n k < n
    · exact (tkE_gt h).2
    · rw [tkE_n h]; exact ih
theorem eqT_le {T : Nat → Nat} {n k : Nat} : eqT T n k ≤ n := by
  unfold eqT
  by_cases h : sqT T n k < n
  · exact (tkE_gt h).2
  · rw [tkE_n h]; exact sqT_le k
theorem sqT_ge {T : Nat → Nat} {n : Nat} : ∀ k, k ≤ sqT T n k ∨ sqT T n k = n := by
  intro k
  induction k with
  | zero => exact Or.inl (Nat.zero_le _)
  | succ k ih =>
    have q := (rnn_all (T := T) (p := pB) (n := n) (tkE T n (sqT T n k))).1
    have e : sqT T n (k + 1) = rnn T pB n (tkE T n (sqT T n k)) := rfl
    have l := sqT_le (T := T) (n := n) (k + 1)
    by_cases h : sqT T n k < n
    · have g := (tkE_gt (T := T) h).1
      rcases ih with ih | ih
      · exact Or.inl (by omega)
      · omega
    · rw [tkE_n h] at q e
      exact Or.inr (by omega)
theorem sqT_nb {T : Nat → Nat} {n k : Nat} : ¬ (sqT T n k < n ∧ bB (T (sqT T n k))) := by
  have q : ∀ i, ¬ (rnn T pB n i < n ∧ bB (T (rnn T pB n i))) := fun i z => (rnn_all (T := T) (p := pB) (n := n) i).2.2.2 ⟨z.1, by rw [pB_t]; exact z.2⟩
  cases k with
  | zero => exact q 0
  | succ k => exact q _
theorem sqT_eq {T : Nat → Nat} {n k : Nat} (h : sqT T n k = n) : eqT T n k = n := by
  unfold eqT
  rw [tkE_n (by omega)]; exact h
/-- a word's letters from i on -/
def splB (T : Nat → Nat) : Nat → List Nat → Bool
  | _, [] => true
  | i, c :: r => decide (T i = c) && splB T (i + 1) r
/-- the words, the names first -/
def wds : List (List Nat) := [[111, 100, 100], [102, 114, 101, 115, 104], [109, 117, 99, 104], [108, 97, 115, 116], [111, 114, 100, 101, 114], [116, 105, 114, 101, 100], [108, 105, 107, 101, 100], [97, 103, 101], [104, 111, 117, 115, 101], [116, 111, 116, 97, 108], [108, 111, 110, 103, 101, 115, 116], [116, 114, 105, 97, 108, 115], [108, 97, 119], [105, 115], [111, 117, 116], [105, 102]]
def wd (w : Nat) : List Nat := wds.getD w []
def spW (T : Nat → Nat) (i j w : Nat) : Bool := decide (j = i + (wd w).length) && splB T i (wd w)
def wcd (T : Nat → Nat) (i j : Nat) : Nat := (fh (spW T i j) 16).getD 16
def nvl (T : Nat → Nat) (i : Nat) : Nat → Nat
  | 0 => 0
  | m + 1 => if 9999 < nvl T i m then nvl T i m else 10 * nvl T i m + (T (i + m) - 48)
def cdT (T : Nat → Nat) (n k : Nat) : Nat := if sqT T n k < n then (if bL (T (sqT T n k)) then 10000 + wcd T (sqT T n k) (eqT T n k) else if bD (T (sqT T n k)) then (if 9999 < nvl T (sqT T n k) (eqT T n k - sqT T n k) then 30000 else nvl T (sqT T n k) (eqT T n k - sqT T n k)) else if bG (T (sqT T n k)) then 20000 + T (sqT T n k) else 30002) else 30001
theorem fh_nn {p : Nat → Bool} : ∀ {n : Nat}, fh p n = none → ∀ y, y < n → p y = false := by
  intro n h y hy
  cases e : p y with
  | false => rfl
  | true =>
    have q : ∀ m, y < m → fh p m ≠ none := by
      intro m
      induction m with
      | zero => intro h; omega
      | succ m ih =>
        intro hm z
        unfold fh at z
        by_cases c : y = m
        · subst c
          cases e2 : fh p y with
          | none => rw [e2] at z; simp [e] at z
          | some x => rw [e2] at z; simp at z
        · have := ih (by omega)
          cases e2 : fh p m with
          | none => exact this e2
          | some x => rw [e2] at z; simp at z
    exact absurd h (q n hy)
theorem wcd_le {T : Nat → Nat} {i j : Nat} : wcd T i j ≤ 16 := by
  unfold wcd
  cases e : fh (spW T i j) 16 with
  | none => exact Nat.le_refl _
  | some w => exact Nat.le_of_lt (fh_lt e).1
/-- the kinds of a token, and its code -/
theorem cdT_cases (T : Nat → Nat) (n k : Nat) : (sqT T n k < n ∧ bL (T (sqT T n k)) ∧ cdT T n k = 10000 + wcd T (sqT T n k) (eqT T n k) ∧ cdT T n k ≤ 10016) ∨ (sqT T n k < n ∧ bD (T (sqT T n k)) ∧ ((9999 < nvl T (sqT T n k) (eqT T n k - sqT T n k) ∧ cdT T n k = 30000) ∨ (nvl T (sqT T n k) (eqT T n k - sqT T n k) ≤ 9999 ∧ cdT T n k = nvl T (sqT T n k) (eqT T n k - sqT T n k)))) ∨ (sqT T n k < n ∧ bG (T (sqT T n k)) ∧ cdT T n k = 20000 + T (sqT T n k)) ∨ (sqT T n k < n ∧ ¬ bL (T (sqT T n k)) ∧ ¬ bD (T (sqT T n k)) ∧ ¬ bG (T (sqT T n k)) ∧ cdT T n k = 30002) ∨ (¬ sqT T n k < n ∧ cdT T n k = 30001) := by
  have w := wcd_le (T := T) (i := sqT T n k) (j := eqT T n k)
  unfold cdT
  by_cases c0 : sqT T n k < n
  · rw [if_pos c0]
    by_cases c1 : bL (T (sqT T n k))
    · rw [if_pos c1]; exact Or.inl ⟨c0, c1, rfl, by omega⟩
    · rw [if_neg c1]
      by_cases c2 : bD (T (sqT T n k))
      · rw [if_pos c2]
        refine Or.inr (Or.inl ⟨c0, c2, ?_⟩)
        by_cases c3 : 9999 < nvl T (sqT T n k) (eqT T n k - sqT T n k)
        · rw [if_pos c3]; exact Or.inl ⟨c3, rfl⟩
        · rw [if_neg c3]; exact Or.inr ⟨by omega, rfl⟩
      · rw [if_neg c2]
        by_cases c3 : bG (T (sqT T n k))
        · rw [if_pos c3]; exact Or.inr (Or.inr (Or.inl ⟨c0, c3, rfl⟩))
        · rw [if_neg c3]; exact Or.inr (Or.inr (Or.inr (Or.inl ⟨c0, c1, c2, c3, rfl⟩)))
  · rw [if_neg c0]; exact Or.inr (Or.inr (Or.inr (Or.inr ⟨c0, rfl⟩)))
theorem cd_sign {T : Nat → Nat} {n k ch : Nat} (hc : bG ch) : (sqT T n k < n ∧ T (sqT T n k) = ch) ↔ cdT T n k = 20000 + ch := by
  have q := cdT_cases T n k
  constructor
  · intro h
    rcases q with q | q | q | q | q
    · have := q.2.1; omega
    · have := q.2.1; omega
    · rw [q.2.2, h.2]
    · exact absurd (h.2 ▸ hc) q.2.2.2.1
    · exact absurd h.1 q.1
  · intro h
    rcases q with q | q | q | q | q
    · have := q.2.2.2; omega
    · rcases q.2.2 with z | z
      · omega
      · omega
    · exact ⟨q.1, by omega⟩
    · omega
    · omega
theorem cd_dig {T : Nat → Nat} {n k : Nat} : (sqT T n k < n ∧ bD (T (sqT T n k))) ↔ (cdT T n k ≤ 9999 ∨ cdT T n k = 30000) := by
  have q := cdT_cases T n k
  constructor
  · intro h
    rcases q with q | q | q | q | q
    · have := q.2.1; have := h.2; omega
    · rcases q.2.2 with z | z
      · exact Or.inr z.2
      · exact Or.inl (by omega)
    · have := q.2.1; have := h.2; omega
    · exact absurd h.2 q.2.2.1
    · exact absurd h.1 q.1
  · intro h
    rcases q with q | q | q | q | q
    · omega
    · exact ⟨q.1, q.2.1⟩
    · omega
    · omega
    · omega
theorem cd_let {T : Nat → Nat} {n k : Nat} : (sqT T n k < n ∧ bL (T (sqT T n k))) ↔ (10000 ≤ cdT T n k ∧ cdT T n k ≤ 10016) := by
  have q := cdT_cases T n k
  constructor
  · intro h
    rcases q with q | q | q | q | q
    · omega
    · have := q.2.1; have := h.2; omega
    · have := q.2.1; have := h.2; omega
    · exact absurd h.2 q.2.1
    · exact absurd h.1 q.1
  · intro h
    rcases q with q | q | q | q | q
    · exact ⟨q.1, q.2.1⟩
    · rcases q.2.2 with z | z
      · omega
      · omega
    · have := q.2.1; omega
    · omega
    · omega
theorem cd_end {T : Nat → Nat} {n k : Nat} : sqT T n k < n ↔ cdT T n k ≠ 30001 := by
  have q := cdT_cases T n k
  constructor
  · intro h
    rcases q with q | q | q | q | q
    · omega
    · rcases q.2.2 with z | z
      · omega
      · omega
    · have := q.2.1; omega
    · omega
    · exact absurd h q.1
  · intro h
    rcases q with q | q | q | q | q
    · exact q.1
    · exact q.1
    · exact q.1
    · exact q.1
    · exact absurd q.2 h
/-- a word is spelled by one alone -/
theorem splB_len {T : Nat → Nat} : ∀ (a b : List Nat) (i : Nat), splB T i a = true → splB T i b = true → a.length = b.length → a = b := by
  intro a
  induction a with
  | nil =>
    intro b i _ _ h
    cases b with
    | nil => rfl
    | cons => simp at h
  | cons x a ih =>
    intro b i h1 h2 h
    cases b with
    | nil => simp at h
    | cons y b =>
      simp only [splB, Bool.and_eq_true, decide_eq_true_eq] at h1 h2
      rw [← h1.1, ← h2.1, ih b (i + 1) h1.2 h2.2 (by simpa using h)]
theorem wd_inj : ∀ v w : Nat, v < 16 → w < 16 → wd v = wd w → v = w := by
  have h : ∀ v w : Fin 16, wd v.val = wd w.val → v.val = w.val := by decide +kernel
  intro v w hv hw e
  exact h ⟨v, hv⟩ ⟨w, hw⟩ e
theorem spW_inj {T : Nat → Nat} {i j v w : Nat} (hv : v < 16) (hw : w < 16) (h1 : spW T i j v = true) (h2 : spW T i j w = true) : v = w := by
  unfold spW at h1 h2
  simp only [Bool.and_eq_true, decide_eq_true_eq] at h1 h2
  exact wd_inj v w hv hw (splB_len _ _ i h1.2 h2.2 (by omega))
theorem wcd_iff {T : Nat → Nat} {i j w : Nat} (hw : w < 16) : spW T i j w = true ↔ wcd T i j = w := by
  unfold wcd
  constructor
  · intro h
    cases e : fh (spW T i j) 16 with
    | none =>
      have := fh_nn e w hw
      rw [h] at this
      cases this
    | some v =>
      have q := fh_lt e
      exact spW_inj q.1 hw q.2 h
  · intro h
    cases e : fh (spW T i j) 16 with
    | none =>
      rw [e] at h
      have : (16 : Nat) = w := h
      omega
    | some v =>
      rw [e] at h
      have : v = w := h
      rw [← this]
      exact (fh_lt e).2
theorem wd_let : ∀ w : Nat, w < 16 → ∃ c r, wd w = c :: r ∧ bL c := by
  have h : ∀ w : Fin 16, bL ((wd w.val).headD 0) := by decide +kernel
  intro w hw
  have q := h ⟨w, hw⟩
  cases e : wd w with
  | nil =>
    have q2 : bL ((wd w).headD 0) := q
    rw [e] at q2
    have : bL 0 := q2
    omega
  | cons c r =>
    have q2 : bL ((wd w).headD 0) := q
    rw [e] at q2
    exact ⟨c, r, rfl, q2⟩
/-- a word stands at a token just if its code is the word's -/
theorem cd_word {T : Nat → Nat} {n k w : Nat} (hw : w < 16) : (sqT T n k < n ∧ spW T (sqT T n k) (eqT T n k) w = true) ↔ cdT T n k = 10000 + w := by
  constructor
  · intro h
    have l : bL (T (sqT T n k)) := by
      obtain ⟨c, r, e, hc⟩ := wd_let w hw
      have q := h.2
      unfold spW at q
      rw [e] at q
      simp only [splB, Bool.and_eq_true, decide_eq_true_eq] at q
      rw [q.2.1]; exact hc
    have e := (wcd_iff hw).mp h.2
    unfold cdT
    rw [if_pos h.1, if_pos l, e]
  · intro h
    have q := cd_let.mpr (show 10000 ≤ cdT T n k ∧ cdT T n k ≤ 10016 by omega)
    unfold cdT at h
    rw [if_pos q.1, if_pos q.2] at h
    exact ⟨q.1, (wcd_iff hw).mpr (by omega)⟩
