/-! ===== lines: laws (name, start, size), clauses (start, size), marks ===== -/
abbrev gP : Type := List (Nat × Nat × Nat) × List (Nat × Nat) × List Nat
def lwA (q : gP) (l : Nat) : Nat × Nat × Nat := q.1.getD l (0, 0, 0)
def ctA (q : gP) (l : Nat) : Nat × Nat := q.2.1.getD l (0, 0)
def nmO (T : Nat → Nat) (n k : Nat) (q : gP) : Bool := decide (cdT T n k = 10016) && decide (eqT T n k - sqT T n k ≤ 8) && (List.range q.1.length).all (fun l => !(smB T n k (lwA q l).1))
def gLn (T : Nat → Nat) (n k : Nat) (q : gP) : Bool × Nat × gP :=
  if cdT T n k = 10012 ∧ q.1.length < 6 then
    (if nmO T n (k + 1) q = true then
      (if cdT T n (k + 2) = 10013 then
        (if (gW (cdT T n) 8 (k + 3)).1 = true ∧ cdT T n (gW (cdT T n) 8 (k + 3)).2.1 = 20059 then (true, (gW (cdT T n) 8 (k + 3)).2.1 + 1, (q.1 ++ [(k + 1, q.2.2.length, (gW (cdT T n) 8 (k + 3)).2.2.length)], q.2.1, q.2.2 ++ (gW (cdT T n) 8 (k + 3)).2.2)) else (false, (gW (cdT T n) 8 (k + 3)).2.1, q))
      else (false, k + 2, q))
    else (false, k + 1, q))
  else if cdT T n k = 10014 ∧ q.2.1.length < 4 then
    (if cdT T n (k + 1) = 10015 then
      (if (gW (cdT T n) 8 (k + 2)).1 = true ∧ cdT T n (gW (cdT T n) 8 (k + 2)).2.1 = 20059 then (true, (gW (cdT T n) 8 (k + 2)).2.1 + 1, (q.1, q.2.1 ++ [(q.2.2.length, (gW (cdT T n) 8 (k + 2)).2.2.length)], q.2.2 ++ (gW (cdT T n) 8 (k + 2)).2.2)) else (false, (gW (cdT T n) 8 (k + 2)).2.1, q))
    else (false, k + 1, q))
  else (false, k, q)
def gLs (T : Nat → Nat) (n : Nat) : Nat → Nat → gP → Bool × Nat × gP
  | 0, k, q => (true, k, q)
  | f + 1, k, q => if cdT T n k = 30001 then (true, k, q) else if (gLn T n k q).1 = true then gLs T n f (gLn T n k q).2.1 (gLn T n k q).2.2 else (false, (gLn T n k q).2.1, q)
def gAl (T : Nat → Nat) (n : Nat) : Bool × Nat × gP := if cdT T n 0 = 30001 then (false, 0, ([], [], [])) else gLs T n 500 0 ([], [], [])
def fltI (T : Nat → Nat) (n : Nat) : Int32 := if (gAl T n).1 = true then -1 else nI (sqT T n (gAl T n).2.1)
/-- a piece of the marks is a law or a clause -/
def seg (e : List Nat) (s z : Nat) : List Nat := (e.drop s).take z
def gIn (T : Nat → Nat) (n k : Nat) (q : gP) : Prop := (q.1.length ≤ 6) ∧ (q.2.1.length ≤ 4) ∧ (q.2.2.length ≤ k) ∧ (∀ j, j < k → cdT T n j < 30001) ∧ (∀ l, l < q.1.length → (lwA q l).1 < k ∧ cdT T n (lwA q l).1 = 10016 ∧ eqT T n (lwA q l).1 - sqT T n (lwA q l).1 ≤ 8) ∧ (∀ l, l < q.1.length → (lwA q l).2.1 + (lwA q l).2.2 ≤ q.2.2.length ∧ hWf 28 (seg q.2.2 (lwA q l).2.1 (lwA q l).2.2)) ∧ (∀ l, l < q.2.1.length → (ctA q l).1 + (ctA q l).2 ≤ q.2.2.length ∧ hWf 28 (seg q.2.2 (ctA q l).1 (ctA q l).2))
theorem gIn.l6 {T : Nat → Nat} {n k : Nat} {q : gP} (h : gIn T n k q) : q.1.length ≤ 6 := h.1
theorem gIn.o4 {T : Nat → Nat} {n k : Nat} {q : gP} (h : gIn T n k q) : q.2.1.length ≤ 4 := h.2.1
theorem gIn.em {T : Nat → Nat} {n k : Nat} {q : gP} (h : gIn T n k q) : q.2.2.length ≤ k := h.2.2.1
theorem gIn.gd {T : Nat → Nat} {n k : Nat} {q : gP} (h : gIn T n k q) : ∀ j, j < k → cdT T n j < 30001 := h.2.2.2.1
theorem gIn.nm {T : Nat → Nat} {n k : Nat} {q : gP} (h : gIn T n k q) : ∀ l, l < q.1.length → (lwA q l).1 < k ∧ cdT T n (lwA q l).1 = 10016 ∧ eqT T n (lwA q l).1 - sqT T n (lwA q l).1 ≤ 8 := h.2.2.2.2.1
theorem gIn.lw {T : Nat → Nat} {n k : Nat} {q : gP} (h : gIn T n k q) : ∀ l, l < q.1.length → (lwA q l).2.1 + (lwA q l).2.2 ≤ q.2.2.length ∧ hWf 28 (seg q.2.2 (lwA q l).2.1 (lwA q l).2.2) := h.2.2.2.2.2.1
theorem gIn.ct {T : Nat → Nat} {n k : Nat} {q : gP} (h : gIn T n k q) : ∀ l, l < q.2.1.length → (ctA q l).1 + (ctA q l).2 ≤ q.2.2.length ∧ hWf 28 (seg q.2.2 (ctA q l).1 (ctA q l).2) := h.2.2.2.2.2.2
theorem seg_app {e f : List Nat} {s z : Nat} (h : s + z ≤ e.length) : seg (e ++ f) s z = seg e s z := by
  unfold seg
  rw [List.drop_append_of_le_length (by omega), List.take_append_of_le_length (by rw [List.length_drop]; omega)]
theorem seg_new {e f : List Nat} : seg (e ++ f) e.length f.length = f := by
  unfold seg
  rw [List.drop_left, List.take_length]
theorem getD_app {α : Type} {a : List α} {x y : α} {l : Nat} : (a ++ [x]).getD l y = if l < a.length then a.getD l y else if l = a.length then x else y := by
  rw [List.getD_eq_getElem?_getD, List.getD_eq_getElem?_getD]
  by_cases c : l < a.length
  · rw [if_pos c, List.getElem?_append_left c]
  · rw [if_neg c, List.getElem?_append_right (by omega)]
    by_cases c2 : l = a.length
    · rw [if_pos c2, c2, Nat.sub_self]; rfl
    · rw [if_neg c2, List.getElem?_eq_none (by show 1 ≤ l - a.length; omega)]; rfl
theorem gLn_in {T : Nat → Nat} {n k : Nat} {q : gP} (h : gIn T n k q) : k ≤ (gLn T n k q).2.1 ∧ (∀ j, j < (gLn T n k q).2.1 → cdT T n j < 30001) ∧ ((gLn T n k q).1 = true → k < (gLn T n k q).2.1 ∧ gIn T n (gLn T n k q).2.1 (gLn T n k q).2.2) := by
  unfold gLn
  have gd := h.gd
  have em := h.em
  by_cases c1 : cdT T n k = 10012 ∧ q.1.length < 6
  · rw [if_pos c1]
    have g1 : ∀ j, j < k + 1 → cdT T n j < 30001 := lt_add gd (by rw [c1.1]; omega)
    by_cases c2 : nmO T n (k + 1) q = true
    · rw [if_pos c2]
      have n1 : cdT T n (k + 1) = 10016 ∧ eqT T n (k + 1) - sqT T n (k + 1) ≤ 8 := by
        unfold nmO at c2
        simp only [Bool.and_eq_true, decide_eq_true_eq] at c2
        exact c2.1
      have g2 : ∀ j, j < k + 2 → cdT T n j < 30001 := lt_add g1 (by rw [n1.1]; omega)
      by_cases c3 : cdT T n (k + 2) = 10013
      · rw [if_pos c3]
        have g3 : ∀ j, j < k + 3 → cdT T n j < 30001 := lt_add g2 (by rw [c3]; omega)
        obtain ⟨y1, y2, y3⟩ := gok_W (c := cdT T n) 8 (k + 3)
        generalize gW (cdT T n) 8 (k + 3) = w at *
        have g4 : ∀ j, j < w.2.1 → cdT T n j < 30001 := fun j hj => by
          by_cases e : j < k + 3
          · exact g3 j e
          · have := y2 j (by omega) hj; omega
        by_cases c4 : w.1 = true ∧ cdT T n w.2.1 = 20059
        · rw [if_pos c4]
          obtain ⟨u1, u2, u3⟩ := y3 c4.1
          have g5 : ∀ j, j < w.2.1 + 1 → cdT T n j < 30001 := lt_add g4 (by rw [c4.2]; omega)
          refine ⟨by show k ≤ w.2.1 + 1; omega, g5, fun _ => ⟨by show k < w.2.1 + 1; omega, ?_⟩⟩
          refine ⟨?_, h.o4, ?_, g5, ?_, ?_, ?_⟩
          · show (q.1 ++ [_]).length ≤ 6
            rw [List.length_append, List.length_singleton]; omega
          · show (q.2.2 ++ w.2.2).length ≤ w.2.1 + 1
            rw [List.length_append]; omega
          · intro l hl
            have hl : l < (q.1 ++ [(k + 1, q.2.2.length, w.2.2.length)]).length := hl
            rw [List.length_append, List.length_singleton] at hl
            show ((q.1 ++ [(k + 1, q.2.2.length, w.2.2.length)]).getD l (0, 0, 0)).1 < w.2.1 + 1 ∧ _
            rw [show lwA (q.1 ++ [(k + 1, q.2.2.length, w.2.2.length)], q.2.1, q.2.2 ++ w.2.2) l = (q.1 ++ [(k + 1, q.2.2.length, w.2.2.length)]).getD l (0, 0, 0) from rfl, getD_app]
            by_cases e : l < q.1.length
            · rw [if_pos e]
              have z := h.nm l e
              exact ⟨by have := z.1; show (lwA q l).1 < w.2.1 + 1; omega, z.2⟩
            · rw [if_neg e, if_pos (by omega)]
              exact ⟨by show k + 1 < w.2.1 + 1; omega, n1⟩
          · intro l hl
            have hl : l < (q.1 ++ [(k + 1, q.2.2.length, w.2.2.length)]).length := hl
            rw [List.length_append, List.length_singleton] at hl
            rw [show lwA (q.1 ++ [(k + 1, q.2.2.length, w.2.2.length)], q.2.1, q.2.2 ++ w.2.2) l = (q.1 ++ [(k + 1, q.2.2.length, w.2.2.length)]).getD l (0, 0, 0) from rfl, getD_app]
            show _ ≤ (q.2.2 ++ w.2.2).length ∧ hWf 28 (seg (q.2.2 ++ w.2.2) _ _)
            rw [List.length_append]
            by_cases e : l < q.1.length
            · rw [if_pos e]
              have z := h.lw l e
              exact ⟨by have := z.1; show (lwA q l).2.1 + (lwA q l).2.2 ≤ _; omega, by show hWf 28 (seg (q.2.2 ++ w.2.2) (lwA q l).2.1 (lwA q l).2.2); rw [seg_app z.1]; exact z.2⟩
            · rw [if_neg e, if_pos (by omega)]
              exact ⟨Nat.le_refl _, by rw [seg_new]; exact u3⟩
          · intro l hl
            have z := h.ct l hl
            exact ⟨by show _ ≤ (q.2.2 ++ w.2.2).length; rw [List.length_append]; exact Nat.le_trans z.1 (Nat.le_add_right _ _), by show hWf 28 (seg (q.2.2 ++ w.2.2) (ctA q l).1 (ctA q l).2); rw [seg_app z.1]; exact z.2⟩
        · rw [if_neg c4]
          exact ⟨by show k ≤ w.2.1; omega, g4, fun z => by cases z⟩
      · rw [if_neg c3]
        exact ⟨by show k ≤ k + 2; omega, g2, fun z => by cases z⟩
    · rw [if_neg c2]
      exact ⟨by show k ≤ k + 1; omega, g1, fun z => by cases z⟩
  · rw [if_neg c1]
    by_cases c2 : cdT T n k = 10014 ∧ q.2.1.length < 4
    · rw [if_pos c2]
      have g1 : ∀ j, j < k + 1 → cdT T n j < 30001 := lt_add gd (by rw [c2.1]; omega)
      by_cases c3 : cdT T n (k + 1) = 10015
      · rw [if_pos c3]
        have g3 : ∀ j, j < k + 2 → cdT T n j < 30001 := lt_add g1 (by rw [c3]; omega)
        obtain ⟨y1, y2, y3⟩ := gok_W (c := cdT T n) 8 (k + 2)
        generalize gW (cdT T n) 8 (k + 2) = w at *
        have g4 : ∀ j, j < w.2.1 → cdT T n j < 30001 := fun j hj => by
          by_cases e : j < k + 2
          · exact g3 j e
          · have := y2 j (by omega) hj; omega
        by_cases c4 : w.1 = true ∧ cdT T n w.2.1 = 20059
        · rw [if_pos c4]
          obtain ⟨u1, u2, u3⟩ := y3 c4.1
          have g5 : ∀ j, j < w.2.1 + 1 → cdT T n j < 30001 := lt_add g4 (by rw [c4.2]; omega)
          refine ⟨by show k ≤ w.2.1 + 1; omega, g5, fun _ => ⟨by show k < w.2.1 + 1; omega, ?_⟩⟩
          refine ⟨h.l6, ?_, ?_, g5, ?_, ?_, ?_⟩
          · show (q.2.1 ++ [_]).length ≤ 4
            rw [List.length_append, List.length_singleton]; omega
          · show (q.2.2 ++ w.2.2).length ≤ w.2.1 + 1
            rw [List.length_append]; omega
          · intro l hl
            have z := h.nm l hl
            exact ⟨by have := z.1; show (lwA q l).1 < w.2.1 + 1; omega, z.2⟩
          · intro l hl
            have z := h.lw l hl
            exact ⟨by show _ ≤ (q.2.2 ++ w.2.2).length; rw [List.length_append]; exact Nat.le_trans z.1 (Nat.le_add_right _ _), by show hWf 28 (seg (q.2.2 ++ w.2.2) (lwA q l).2.1 (lwA q l).2.2); rw [seg_app z.1]; exact z.2⟩
          · intro l hl
            have hl : l < (q.2.1 ++ [(q.2.2.length, w.2.2.length)]).length := hl
            rw [List.length_append, List.length_singleton] at hl
            rw [show ctA (q.1, q.2.1 ++ [(q.2.2.length, w.2.2.length)], q.2.2 ++ w.2.2) l = (q.2.1 ++ [(q.2.2.length, w.2.2.length)]).getD l (0, 0) from rfl, getD_app]
            show _ ≤ (q.2.2 ++ w.2.2).length ∧ hWf 28 (seg (q.2.2 ++ w.2.2) _ _)
            rw [List.length_append]
            by_cases e : l < q.2.1.length
            · rw [if_pos e]
              have z := h.ct l e
              exact ⟨by have := z.1; show (ctA q l).1 + (ctA q l).2 ≤ _; omega, by show hWf 28 (seg (q.2.2 ++ w.2.2) (ctA q l).1 (ctA q l).2); rw [seg_app z.1]; exact z.2⟩
            · rw [if_neg e, if_pos (by omega)]
              exact ⟨Nat.le_refl _, by rw [seg_new]; exact u3⟩
        · rw [if_neg c4]
          exact ⟨by show k ≤ w.2.1; omega, g4, fun z => by cases z⟩
      · rw [if_neg c3]
        exact ⟨by show k ≤ k + 1; omega, g1, fun z => by cases z⟩
    · rw [if_neg c2]
      exact ⟨Nat.le_refl _, gd, fun z => by cases z⟩
