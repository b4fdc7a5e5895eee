def tb (h j : Nat) : Prop := h / 2 ^ j % 2 = 1
theorem tb_iff (h j : Nat) : h.testBit j = true ↔ tb h j := by
  unfold tb
  rw [Nat.testBit_eq_decide_div_mod_eq, decide_eq_true_eq]
def sub2 (h c : Nat) : Prop := ∀ j, tb h j → tb c j
theorem sub_iff {h c : Nat} : (h &&& c = h) = sub2 h c := by
  refine propext ⟨fun e j hj => ?_, fun s => ?_⟩
  · rw [← tb_iff] at hj ⊢
    rw [← e, Nat.testBit_and, Bool.and_eq_true] at hj
    exact hj.2
  · apply Nat.eq_of_testBit_eq
    intro j
    rw [Nat.testBit_and]
    by_cases q : h.testBit j = true
    · rw [q, (tb_iff c j).mpr (s j ((tb_iff h j).mp q))]; rfl
    · rw [Bool.not_eq_true] at q; rw [q]; rfl
theorem land_not : ∀ (f h c : Nat), h < 2 ^ f → c < 2 ^ f → (h &&& (2 ^ f - 1 - c)) + (h &&& c) = h := by
  intro f
  induction f with
  | zero => intro h c h1 h2
            have : h = 0 := by omega
            have : c = 0 := by omega
            subst h; subst c; rfl
  | succ f ih =>
    intro h c h1 h2
    have h3 : 2 ^ (f + 1) = 2 * 2 ^ f := by rw [Nat.pow_succ]; omega
    have q := ih (h / 2) (c / 2) (by omega) (by omega)
    rw [land2 h c, land2 h (2 ^ (f + 1) - 1 - c), show (2 ^ (f + 1) - 1 - c) / 2 = 2 ^ f - 1 - c / 2 by omega]
    by_cases a : h % 2 = 1
    · by_cases b : c % 2 = 1
      · rw [if_neg (by omega), if_pos ⟨a, b⟩]; omega
      · rw [if_pos (by omega), if_neg (fun z => b z.2)]; omega
    · rw [if_neg (fun z => a z.1), if_neg (fun z => a z.1)]; omega
theorem i_andnot {h c : Nat} (hh : h < 65536) (hc : c < 65536) : (nI h &&& (nI c ^^^ -1) = 0) = sub2 h c := by
  have e1 : nI c ^^^ -1 = nI (2 ^ 32 - 1 - c) := by
    apply Int32.toBitVec_inj.mp
    apply BitVec.eq_of_toNat_eq
    have e : (nI c ^^^ -1).toBitVec = ~~~ (nI c).toBitVec := by
      rw [Int32.toBitVec_xor, show (-1 : Int32).toBitVec = BitVec.allOnes 32 from by decide, BitVec.xor_allOnes]
    rw [e, BitVec.toNat_not, nI_bv, nI_bv, BitVec.toNat_ofNat, BitVec.toNat_ofNat]
    omega
  have q := land_not 32 h c (by omega) (by omega)
  have le : (h &&& (2 ^ 32 - 1 - c)) ≤ h := Nat.and_le_left
  rw [e1, nI_and, nI_eq0 (by omega), ← sub_iff]
  exact propext ⟨fun z => by omega, fun z => by omega⟩
theorem topbit : ∀ (f h : Nat), h < 2 ^ f → 0 < h → ∃ t, t < f ∧ ∃ r, r < 2 ^ t ∧ h = r + 2 ^ t := by
  intro f
  induction f with
  | zero => intro h h1 h2; omega
  | succ f ih =>
    intro h h1 h2
    rw [Nat.pow_succ] at h1
    by_cases c : h < 2 ^ f
    · obtain ⟨t, a, r, b, e⟩ := ih h c h2
      exact ⟨t, by omega, r, b, e⟩
    · exact ⟨f, by omega, h - 2 ^ f, by omega, by omega⟩
theorem sumN_one {a : Nat → Nat} {t : Nat} : ∀ n, t < n → sumN (fun j => a j + (if j = t then 1 else 0)) n = sumN a n + 1 := by
  have z : ∀ n, n ≤ t → sumN (fun j => a j + (if j = t then 1 else 0)) n = sumN a n := by
    intro n hn
    apply sumN_congr
    intro i hi
    rw [if_neg (by omega)]; rfl
  intro n
  induction n with
  | zero => intro h; omega
  | succ n ih =>
    intro h
    show sumN _ n + (a n + (if n = t then 1 else 0)) = sumN a n + a n + 1
    by_cases c : n = t
    · rw [if_pos c, z n (by omega)]; omega
    · rw [if_neg c, ih (by omega)]; omega
theorem pcn_add {r t : Nat} (hr : r < 2 ^ t) (ht : t < 16) : pcn 16 (r + 2 ^ t) = pcn 16 r + 1 := by
  rw [pcn_sum, pcn_sum, ← sumN_one (t := t) 16 ht]
  apply sumN_congr
  intro j _
  rw [add_bit hr]
  by_cases c : j < t
  · rw [if_pos c, if_neg (by omega)]; rfl
  · have z : r / 2 ^ j = 0 := Nat.div_eq_of_lt (Nat.lt_of_lt_of_le hr (Nat.pow_le_pow_right (by decide) (by omega)))
    rw [if_neg c, z]
    by_cases c2 : j = t
    · rw [if_pos c2]
    · rw [if_neg c2]
theorem pcn_zero {h : Nat} (hh : h < 65536) (e : pcn 16 h = 0) : h = 0 := by
  rcases Nat.eq_zero_or_pos h with q | q
  · exact q
  · obtain ⟨t, a, r, b, e2⟩ := topbit 16 h hh q
    rw [e2, pcn_add b a] at e
    omega
theorem tb_add {r t j : Nat} (hr : r < 2 ^ t) : tb (r + 2 ^ t) j ↔ (j < t ∧ tb r j) ∨ j = t := by
  unfold tb
  rw [add_bit hr]
  by_cases c : j < t
  · rw [if_pos c]
    exact ⟨fun z => Or.inl ⟨c, z⟩, fun z => z.elim (fun z => z.2) (fun z => by omega)⟩
  · rw [if_neg c]
    by_cases c2 : j = t
    · rw [if_pos c2]; exact ⟨fun _ => Or.inr c2, fun _ => rfl⟩
    · rw [if_neg c2]; exact ⟨fun z => absurd z (by decide), fun z => z.elim (fun z => absurd z.1 c) (fun z => absurd z c2)⟩
theorem tb_lt {r t j : Nat} (hr : r < 2 ^ t) (h : tb r j) : j < t := by
  rcases Nat.lt_or_ge j t with q | q
  · exact q
  · unfold tb at h
    rw [Nat.div_eq_of_lt (Nat.lt_of_lt_of_le hr (Nat.pow_le_pow_right (by decide) q))] at h
    exact absurd h (by decide)
/-- a set with one more: its highest, and the rest -/
theorem split_top {h c n : Nat} (hh : h < 65536) (e : pcn 16 h = n + 1) (s : sub2 h c) : ∃ t, t < 16 ∧ tb c t ∧ ∃ r, r < 2 ^ t ∧ h = r + 2 ^ t ∧ pcn 16 r = n ∧ sub2 r c := by
  have pos : 0 < h := by
    rcases Nat.eq_zero_or_pos h with q | q
    · rw [q] at e; exact absurd e (by show ¬ 0 = n + 1; omega)
    · exact q
  obtain ⟨t, a, r, b, e2⟩ := topbit 16 h hh pos
  refine ⟨t, a, s t (by rw [e2]; exact (tb_add b).mpr (Or.inr rfl)), r, b, e2, ?_, fun j hj => s j ?_⟩
  · rw [e2, pcn_add b a] at e; omega
  · rw [e2]; exact (tb_add b).mpr (Or.inl ⟨tb_lt b hj, hj⟩)
theorem fh_some {p : Nat → Bool} {x n : Nat} (hx : x < n) (h : p x = true) (hy : ∀ y, y < x → p y = false) : fh p n = some x := by
  have z : ∀ i, i ≤ x → fh p i = none := by
    intro i
    induction i with
    | zero => intro _; rfl
    | succ i ih => intro hi; exact fh_no (ih (by omega)) (hy i (by omega))
  exact fh_hit (z x (Nat.le_refl _)) h hx
theorem fh_none {p : Nat → Bool} {n : Nat} (hy : ∀ y, y < n → p y = false) : fh p n = none := by
  induction n with
  | zero => rfl
  | succ n ih => exact fh_no (ih (fun y h => hy y (by omega))) (hy n (by omega))
theorem filter_range_lt {q : Nat → Bool} : ∀ n i j, i < j → j < ((List.range n).filter q).length → ((List.range n).filter q).getD i 0 < ((List.range n).filter q).getD j 0 := by
  intro n
  induction n with
  | zero => intro i j h1 h2; exact absurd h2 (by simp)
  | succ n ih =>
    intro i j h1 h2
    rw [List.range_succ, List.filter_append] at h2 ⊢
    by_cases c : q n = true
    · rw [List.filter_cons_of_pos c, List.filter_nil] at h2 ⊢
      rw [List.length_append, List.length_singleton] at h2
      have gi : (((List.range n).filter q) ++ [n]).getD i 0 = ((List.range n).filter q).getD i 0 := by
        rw [List.getD_eq_getElem?_getD, List.getD_eq_getElem?_getD, List.getElem?_append_left (by omega)]
      by_cases e : j = ((List.range n).filter q).length
      · have gj : (((List.range n).filter q) ++ [n]).getD j 0 = n := by
          rw [List.getD_eq_getElem?_getD, e, List.getElem?_append_right (Nat.le_refl _), Nat.sub_self]; rfl
        rw [gi, gj]
        have m := getD_in (l := (List.range n).filter q) (i := i) (by omega)
        exact List.mem_range.mp (List.mem_filter.mp m).1
      · have gj : (((List.range n).filter q) ++ [n]).getD j 0 = ((List.range n).filter q).getD j 0 := by
          rw [List.getD_eq_getElem?_getD, List.getD_eq_getElem?_getD, List.getElem?_append_left (by omega)]
        rw [gi, gj]
        exact ih i j h1 (by omega)
    · rw [List.filter_cons_of_neg c, List.filter_nil, List.append_nil] at h2 ⊢
      exact ih i j h1 h2
theorem mem_getD {l : List Nat} {x : Nat} (h : x ∈ l) : ∃ i, i < l.length ∧ l.getD i 0 = x := by
  obtain ⟨i, hi, e⟩ := List.mem_iff_getElem.mp h
  exact ⟨i, hi, by rw [List.getD_eq_getElem?_getD, List.getElem?_eq_getElem hi]; exact e⟩
