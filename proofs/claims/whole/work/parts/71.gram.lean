/-! ===== the grammar over codes c 0, c 1 .. ===== -/
abbrev gR : Type := Bool × Nat × List Nat
/-- the reference's mark for a sign -/
def mkO (s : Nat) : Nat := if s = 20043 then 20001 else if s = 20045 then 20002 else if s = 20042 then 20003 else if s = 20047 then 20004 else if s = 20060 then 20005 else 20006
def gF (k : Nat) : gR := (false, k, [])
def gFac (c : Nat → Nat) (W : Nat → gR) (r k : Nat) : gR := if c k < 10012 then (true, k + 1, [c k]) else if c k = 20040 ∧ 0 < r then (if (W (k + 1)).1 = true ∧ c (W (k + 1)).2.1 = 20041 then (true, (W (k + 1)).2.1 + 1, (W (k + 1)).2.2) else gF (W (k + 1)).2.1) else gF k
def gLo (c : Nat → Nat) (F : Nat → gR) (s1 s2 : Nat) : Nat → Nat → gR
  | 0, k => (true, k, [])
  | f + 1, k => if c k = s1 ∨ c k = s2 then (if (F (k + 1)).1 = true then (if (gLo c F s1 s2 f (F (k + 1)).2.1).1 = true then (true, (gLo c F s1 s2 f (F (k + 1)).2.1).2.1, (F (k + 1)).2.2 ++ mkO (c k) :: (gLo c F s1 s2 f (F (k + 1)).2.1).2.2) else gF (gLo c F s1 s2 f (F (k + 1)).2.1).2.1) else gF (F (k + 1)).2.1) else (true, k, [])
def gSq (c : Nat → Nat) (F : Nat → gR) (s1 s2 k : Nat) : gR := if (F k).1 = true then (if (gLo c F s1 s2 500 (F k).2.1).1 = true then (true, (gLo c F s1 s2 500 (F k).2.1).2.1, (F k).2.2 ++ (gLo c F s1 s2 500 (F k).2.1).2.2) else gF (gLo c F s1 s2 500 (F k).2.1).2.1) else gF (F k).2.1
def gCm (c : Nat → Nat) (G : Nat → gR) (k : Nat) : gR := if (G k).1 = true then (if c (G k).2.1 = 20060 ∨ c (G k).2.1 = 20061 then (if (G ((G k).2.1 + 1)).1 = true then (true, (G ((G k).2.1 + 1)).2.1, (G k).2.2 ++ ((G ((G k).2.1 + 1)).2.2 ++ [mkO (c (G k).2.1)])) else gF (G ((G k).2.1 + 1)).2.1) else G k) else gF (G k).2.1
def gWh (c : Nat → Nat) (F : Nat → gR) (k : Nat) : gR := gCm c (gSq c (gSq c F 20042 20047) 20043 20045) k
def gW (c : Nat → Nat) : Nat → Nat → gR
  | 0, k => gWh c (gFac c gF 0) k
  | r + 1, k => gWh c (gFac c (gW c r) (r + 1)) k
/-- the factor that W r is made of -/
def gFr (c : Nat → Nat) : Nat → Nat → gR
  | 0 => gFac c gF 0
  | r + 1 => gFac c (gW c r) (r + 1)
theorem gW_eq (c : Nat → Nat) : ∀ r, gW c r = gWh c (gFr c r) := by
  intro r
  funext k
  cases r <;> rfl
/-- heights -/
def hnx (m h : Nat) : Nat := if m < 20001 then h + 1 else h - 1
def hrun : List Nat → Nat → Nat
  | [], h => h
  | m :: r, h => hrun r (hnx m h)
def mkN (m : Nat) : Prop := m ≤ 9999 ∨ (10000 ≤ m ∧ m < 10012) ∨ (20001 ≤ m ∧ m ≤ 20006)
def hok (top : Nat) : List Nat → Nat → Prop
  | [], _ => True
  | m :: r, h => (mkN m ∧ (m < 20001 → h < top) ∧ (¬ m < 20001 → 2 ≤ h)) ∧ hok top r (hnx m h)
theorem hrun_app : ∀ (a b : List Nat) (h : Nat), hrun (a ++ b) h = hrun b (hrun a h) := by
  intro a
  induction a with
  | nil => intros; rfl
  | cons m a ih => intro b h; exact ih b _
theorem hok_app {top : Nat} : ∀ (a b : List Nat) (h : Nat), hok top a h → hok top b (hrun a h) → hok top (a ++ b) h := by
  intro a
  induction a with
  | nil => intro b h _ h2; exact h2
  | cons m a ih => intro b h h1 h2; exact ⟨h1.1, ih b _ h1.2 h2⟩
def hWf (H : Nat) (e : List Nat) : Prop := ∀ h top, h + H ≤ top → hok top e h ∧ hrun e h = h + 1
def hWl (H : Nat) (e : List Nat) : Prop := ∀ h top, 1 ≤ h → h + H ≤ top → hok top e h ∧ hrun e h = h
theorem hWf.mono {H H' : Nat} {e : List Nat} (h : hWf H e) (hH : H ≤ H') : hWf H' e := fun a t q => h a t (by omega)
theorem hWf_one {m : Nat} (hm : m < 10012) : hWf 1 [m] := by
  intro h top q
  refine ⟨⟨⟨by unfold mkN; omega, fun _ => by omega, fun z => by omega⟩, True.intro⟩, ?_⟩
  show hnx m h = h + 1
  unfold hnx
  rw [if_pos (by omega)]
theorem mkO_in (s : Nat) : 20001 ≤ mkO s ∧ mkO s ≤ 20006 := by
  unfold mkO
  split
  · omega
  split
  · omega
  split
  · omega
  split
  · omega
  split
  · omega
  · omega
theorem hWf.op {H : Nat} {e f : List Nat} {s : Nat} (h1 : hWf H e) (h2 : hWl H f) : hWl H (e ++ mkO s :: f) := by
  intro h top a b
  obtain ⟨o1, r1⟩ := h1 h top b
  obtain ⟨o2, r2⟩ := h2 h top a b
  have m := mkO_in s
  have e1 : hnx (mkO s) (h + 1) = h := by
    unfold hnx
    rw [if_neg (by omega)]; omega
  refine ⟨hok_app _ _ _ o1 ?_, ?_⟩
  · rw [r1]
    refine ⟨⟨by unfold mkN; omega, fun z => by omega, fun _ => by omega⟩, ?_⟩
    rw [e1]; exact o2
  · rw [hrun_app, r1]
    show hrun f (hnx (mkO s) (h + 1)) = h
    rw [e1]; exact r2
theorem hWf.seq {H : Nat} {e f : List Nat} (h1 : hWf H e) (h2 : hWl H f) : hWf (H + 1) (e ++ f) := by
  intro h top q
  obtain ⟨o1, r1⟩ := h1 h top (by omega)
  obtain ⟨o2, r2⟩ := h2 (h + 1) top (by omega) (by omega)
  refine ⟨hok_app _ _ _ o1 (by rw [r1]; exact o2), ?_⟩
  rw [hrun_app, r1]; exact r2
theorem hWl_nil {H : Nat} : hWl H [] := fun _ _ _ _ => ⟨True.intro, rfl⟩
theorem hWf.cmp {H : Nat} {e f : List Nat} {s : Nat} (h1 : hWf H e) (h2 : hWf H f) : hWf (H + 1) (e ++ (f ++ [mkO s])) := by
  intro h top q
  obtain ⟨o1, r1⟩ := h1 h top (by omega)
  obtain ⟨o2, r2⟩ := h2 (h + 1) top (by omega)
  have m := mkO_in s
  have e1 : hnx (mkO s) (h + 1 + 1) = h + 1 := by
    unfold hnx
    rw [if_neg (by omega)]; omega
  refine ⟨hok_app _ _ _ o1 ?_, ?_⟩
  · rw [r1]
    refine hok_app _ _ _ o2 ?_
    rw [r2]
    exact ⟨⟨by unfold mkN; omega, fun z => by omega, fun _ => by omega⟩, True.intro⟩
  · rw [hrun_app, r1, hrun_app, r2]
    exact e1
/-- what a way of reading keeps to -/
def gok (c : Nat → Nat) (H : Nat) (P : Nat → gR) : Prop := ∀ k, k ≤ (P k).2.1 ∧ (∀ j, k ≤ j → j < (P k).2.1 → c j < 30000) ∧ ((P k).1 = true → k < (P k).2.1 ∧ (P k).2.2.length + k ≤ (P k).2.1 ∧ hWf H (P k).2.2)
theorem gok_F {c : Nat → Nat} {H : Nat} : gok c H gF := fun k => ⟨Nat.le_refl _, fun j h1 h2 => by have : j < k := h2; omega, fun h => by cases h⟩
theorem gok_fac {c : Nat → Nat} {H r : Nat} {W : Nat → gR} (hW : gok c H W) (hH : 1 ≤ H) : gok c H (gFac c W r) := by
  intro k
  unfold gFac
  by_cases c1 : c k < 10012
  · rw [if_pos c1]
    exact ⟨by show k ≤ k + 1; omega, fun j h1 h2 => by have : j < k + 1 := h2; rw [show j = k by omega]; omega, fun _ => ⟨by show k < k + 1; omega, by show 1 + k ≤ k + 1; omega, (hWf_one c1).mono hH⟩⟩
  · rw [if_neg c1]
    by_cases c2 : c k = 20040 ∧ 0 < r
    · rw [if_pos c2]
      obtain ⟨a1, a2, a3⟩ := hW (k + 1)
      have in2 : ∀ j, k ≤ j → j < (W (k + 1)).2.1 → c j < 30000 := fun j h1 h2 => by
        by_cases e : j = k
        · rw [e, c2.1]; omega
        · exact a2 j (by omega) h2
      by_cases c3 : (W (k + 1)).1 = true ∧ c (W (k + 1)).2.1 = 20041
      · rw [if_pos c3]
        obtain ⟨b1, b2, b3⟩ := a3 c3.1
        refine ⟨by show k ≤ _ + 1; omega, fun j h1 h2 => ?_, fun _ => ⟨by show k < _ + 1; omega, by show (W (k + 1)).2.2.length + k ≤ (W (k + 1)).2.1 + 1; omega, b3⟩⟩
        have h2 : j < (W (k + 1)).2.1 + 1 := h2
        by_cases e : j = (W (k + 1)).2.1
        · rw [e, c3.2]; omega
        · exact in2 j h1 (by omega)
      · rw [if_neg c3]
        exact ⟨by show k ≤ (W (k + 1)).2.1; omega, in2, fun h => by cases h⟩
    · rw [if_neg c2]; exact gok_F k
theorem gok_lo {c : Nat → Nat} {H s1 s2 : Nat} {F : Nat → gR} (hF : gok c H F) (h1 : s1 < 30000) (h2 : s2 < 30000) : ∀ f k, k ≤ (gLo c F s1 s2 f k).2.1 ∧ (∀ j, k ≤ j → j < (gLo c F s1 s2 f k).2.1 → c j < 30000) ∧ ((gLo c F s1 s2 f k).1 = true → (gLo c F s1 s2 f k).2.2.length + k ≤ (gLo c F s1 s2 f k).2.1 ∧ hWl H (gLo c F s1 s2 f k).2.2) := by
  intro f
  induction f with
  | zero => intro k; exact ⟨Nat.le_refl _, fun j h1 h2 => by have : j < k := h2; omega, fun _ => ⟨by show 0 + k ≤ k; omega, hWl_nil⟩⟩
  | succ f ih =>
    intro k
    unfold gLo
    by_cases c1 : c k = s1 ∨ c k = s2
    · rw [if_pos c1]
      obtain ⟨a1, a2, a3⟩ := hF (k + 1)
      have ck : c k < 30000 := by omega
      have in2 : ∀ j, k ≤ j → j < (F (k + 1)).2.1 → c j < 30000 := fun j h1 h2 => by
        by_cases e : j = k
        · rw [e]; exact ck
        · exact a2 j (by omega) h2
      by_cases c2 : (F (k + 1)).1 = true
      · rw [if_pos c2]
        obtain ⟨b1, b2, b3⟩ := a3 c2
        obtain ⟨i1, i2, i3⟩ := ih (F (k + 1)).2.1
        have in3 : ∀ j, k ≤ j → j < (gLo c F s1 s2 f (F (k + 1)).2.1).2.1 → c j < 30000 := fun j h1 h2 => by
          by_cases e : j < (F (k + 1)).2.1
          · exact in2 j h1 e
          · exact i2 j (by omega) h2
        by_cases c3 : (gLo c F s1 s2 f (F (k + 1)).2.1).1 = true
        · rw [if_pos c3]
          obtain ⟨d1, d2⟩ := i3 c3
          refine ⟨by show k ≤ (gLo c F s1 s2 f (F (k + 1)).2.1).2.1; omega, in3, fun _ => ⟨?_, b3.op d2⟩⟩
          show ((F (k + 1)).2.2 ++ mkO (c k) :: (gLo c F s1 s2 f (F (k + 1)).2.1).2.2).length + k ≤ (gLo c F s1 s2 f (F (k + 1)).2.1).2.1
          rw [List.length_append, List.length_cons]
          omega
        · rw [if_neg c3]
          exact ⟨by show k ≤ (gLo c F s1 s2 f (F (k + 1)).2.1).2.1; omega, in3, fun h => by cases h⟩
      · rw [if_neg c2]
        exact ⟨by show k ≤ (F (k + 1)).2.1; omega, in2, fun h => by cases h⟩
    · rw [if_neg c1]; exact ⟨Nat.le_refl _, fun j h1 h2 => by have : j < k := h2; omega, fun _ => ⟨by show 0 + k ≤ k; omega, hWl_nil⟩⟩
theorem gok_sq {c : Nat → Nat} {H s1 s2 : Nat} {F : Nat → gR} (hF : gok c H F) (h1 : s1 < 30000) (h2 : s2 < 30000) : gok c (H + 1) (gSq c F s1 s2) := by
  intro k
  unfold gSq
  obtain ⟨a1, a2, a3⟩ := hF k
  by_cases c2 : (F k).1 = true
  · rw [if_pos c2]
    obtain ⟨b1, b2, b3⟩ := a3 c2
    obtain ⟨i1, i2, i3⟩ := gok_lo hF h1 h2 500 (F k).2.1
    have in3 : ∀ j, k ≤ j → j < (gLo c F s1 s2 500 (F k).2.1).2.1 → c j < 30000 := fun j h1 h2 => by
      by_cases e : j < (F k).2.1
      · exact a2 j h1 e
      · exact i2 j (by omega) h2
    by_cases c3 : (gLo c F s1 s2 500 (F k).2.1).1 = true
    · rw [if_pos c3]
      obtain ⟨d1, d2⟩ := i3 c3
      refine ⟨by show k ≤ (gLo c F s1 s2 500 (F k).2.1).2.1; omega, in3, fun _ => ⟨by show k < (gLo c F s1 s2 500 (F k).2.1).2.1; omega, ?_, b3.seq d2⟩⟩
      show ((F k).2.2 ++ (gLo c F s1 s2 500 (F k).2.1).2.2).length + k ≤ (gLo c F s1 s2 500 (F k).2.1).2.1
      rw [List.length_append]
      omega
    · rw [if_neg c3]
      exact ⟨by show k ≤ (gLo c F s1 s2 500 (F k).2.1).2.1; omega, in3, fun h => by cases h⟩
  · rw [if_neg c2]
    exact ⟨a1, a2, fun h => by cases h⟩
theorem gok_cm {c : Nat → Nat} {H : Nat} {G : Nat → gR} (hG : gok c H G) : gok c (H + 1) (gCm c G) := by
  intro k
  unfold gCm
  obtain ⟨a1, a2, a3⟩ := hG k
  by_cases c2 : (G k).1 = true
  · rw [if_pos c2]
    obtain ⟨b1, b2, b3⟩ := a3 c2
    by_cases c3 : c (G k).2.1 = 20060 ∨ c (G k).2.1 = 20061
    · rw [if_pos c3]
      obtain ⟨i1, i2, i3⟩ := hG ((G k).2.1 + 1)
      have in3 : ∀ j, k ≤ j → j < (G ((G k).2.1 + 1)).2.1 → c j < 30000 := fun j h1 h2 => by
        by_cases e : j < (G k).2.1
        · exact a2 j h1 e
        · by_cases e2 : j = (G k).2.1
          · rw [e2]; omega
          · exact i2 j (by omega) h2
      by_cases c4 : (G ((G k).2.1 + 1)).1 = true
      · rw [if_pos c4]
        obtain ⟨d1, d2, d3⟩ := i3 c4
        refine ⟨by show k ≤ (G ((G k).2.1 + 1)).2.1; omega, in3, fun _ => ⟨by show k < (G ((G k).2.1 + 1)).2.1; omega, ?_, b3.cmp d3⟩⟩
        show ((G k).2.2 ++ ((G ((G k).2.1 + 1)).2.2 ++ [mkO (c (G k).2.1)])).length + k ≤ (G ((G k).2.1 + 1)).2.1
        rw [List.length_append, List.length_append, List.length_singleton]
        omega
      · rw [if_neg c4]
        exact ⟨by show k ≤ (G ((G k).2.1 + 1)).2.1; omega, in3, fun h => by cases h⟩
    · rw [if_neg c3]
      exact ⟨a1, a2, fun _ => ⟨b1, b2, b3.mono (by omega)⟩⟩
  · rw [if_neg c2]
    exact ⟨a1, a2, fun h => by cases h⟩
theorem gok_wh {c : Nat → Nat} {H : Nat} {F : Nat → gR} (hF : gok c H F) : gok c (H + 3) (gWh c F) := gok_cm (gok_sq (gok_sq hF (by decide) (by decide)) (by decide) (by decide))
theorem gok_W {c : Nat → Nat} : ∀ r, gok c (3 * r + 4) (gW c r) := by
  intro r
  induction r with
  | zero => exact gok_wh (H := 1) (gok_fac gok_F (by decide))
  | succ r ih => exact gok_wh (H := 3 * r + 4) (gok_fac ih (by omega))
theorem gok_Fr {c : Nat → Nat} : ∀ r, gok c (3 * r + 1) (gFr c r) := by
  intro r
  cases r with
  | zero => exact gok_fac gok_F (by decide)
  | succ r => exact gok_fac (gok_W r) (by omega)
