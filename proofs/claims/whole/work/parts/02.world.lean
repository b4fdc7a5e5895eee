/-! ===== a small machine over the kit: its memory is rows of numbers, its references are numbers of cells in the order in which they were made; what is foreign (the script, texts, static rows) has numbers of its own ===== -/
abbrev am_S : Type := Nat × (Nat → Nat × Nat) × (Nat → Nat → Option Nat)
abbrev am_M : Type := Nat → Nat → Int32
abbrev am_L : Type := Nat → Nat → Int64
abbrev am_X : Type := Nat × (Nat → Int32)
abbrev am_K : Type := Option Value → am_S → am_M → am_L → Prop
abbrev am_G : Type := va_G × (Nat → ClassId) × (Nat → Nat) × Value
def am_mv (G : am_G) (ad : Nat → Nat) (v : Value) : Value := match v with
  | .ref k => .ref (ad k)
  | .retAddr i => if i = 3 then G.2.2.2 else .ref (G.2.2.1 i)
  | v => v
def am_ok (n : Nat) (v : Value) : Prop := match v with
  | .ref k => k < n
  | _ => True
theorem am_ok_mono {n n' : Nat} {v : Value} (h : am_ok n v) (hn : n ≤ n') : am_ok n' v := by
  cases v with
  | ref k => exact Nat.lt_of_lt_of_le h hn
  | _ => trivial
def am_zok (G : am_G) : Prop := G.2.2.2 = .null ∨ ∃ a, G.2.2.2 = .ref a
theorem am_mv_cat {G : am_G} {ad : Nat → Nat} (hz : am_zok G) (v : Value) : (am_mv G ad v).category = v.category := by
  cases v with
  | retAddr i =>
    simp only [am_mv]
    split
    · rcases hz with h | ⟨a, h⟩ <;> rw [h] <;> rfl
    · rfl
  | _ => rfl
theorem am_mv_int {G : am_G} {ad : Nat → Nat} {x : Int32} : am_mv G ad (.int x) = .int x := rfl
theorem am_mv_long {G : am_G} {ad : Nat → Nat} {x : Int64} : am_mv G ad (.long x) = .long x := rfl
theorem am_mv_ref {G : am_G} {ad : Nat → Nat} {k : Nat} : am_mv G ad (.ref k) = .ref (ad k) := rfl
theorem am_mv_null {G : am_G} {ad : Nat → Nat} : am_mv G ad .null = .null := rfl
theorem am_mv_for {G : am_G} {ad : Nat → Nat} {i : Nat} (h : i ≠ 3) : am_mv G ad (.retAddr i) = .ref (G.2.2.1 i) := by simp [am_mv, h]
theorem am_mv_ext {G : am_G} {ad ad' : Nat → Nat} {n : Nat} {v : Value} (h : am_ok n v) (he : ∀ k, k < n → ad' k = ad k) : am_mv G ad' v = am_mv G ad v := by
  cases v with
  | ref k => show Value.ref (ad' k) = Value.ref (ad k); rw [he k h]
  | _ => rfl
/-- the kind of a field: 0 a number, 1 a long one, 2 a reference -/
def am_tk (ty : FieldType) : Nat := match ty with
  | .long => 1
  | .object _ => 2
  | .array _ => 2
  | _ => 0
def am_fv (ad : Nat → Nat) (P : Nat → Nat → Option Nat) (M : am_M) (L : am_L) (k j t : Nat) : Value := if t = 0 then .int (M k j) else if t = 1 then .long (L k j) else va_rf ((P k j).map ad)
def am_fs (ad : Nat → Nat) (P : Nat → Nat → Option Nat) (M : am_M) (L : am_L) (k ci : Nat) : List Value := (List.range (am_nf ci)).map (fun j => am_fv ad P M L k j (am_tk (am_ty ci j)))
def am_ar (G : am_G) (ad : Nat → Nat) (S : am_S) (M : am_M) (L : am_L) (k t : Nat) : (Nat → Int32) ⊕ (Nat → Int64) ⊕ (Nat → UInt32) ⊕ (Nat → UInt64) ⊕ (Nat → Option Nat) :=
  if t = 4 then .inr (.inl (L k)) else if t = 5 then .inr (.inr (.inr (.inr (fun j => (S.2.2 k j).map G.2.2.1)))) else if t = 6 ∨ t = 7 then .inr (.inr (.inr (.inr (fun j => (S.2.2 k j).map ad)))) else .inl (M k)
def am_ce (G : am_G) (ad : Nat → Nat) (S : am_S) (M : am_M) (L : am_L) (k : Nat) : va_E :=
  if (S.2.1 k).1 = 0 then .inr ((S.2.1 k).2, am_fs ad S.2.2 M L k (S.2.1 k).2) else .inl (G.2.1 (S.2.1 k).1, (S.2.1 k).2, am_ar G ad S M L k (S.2.1 k).1)
def am_ws (G : am_G) (ad : Nat → Nat) (S : am_S) (M : am_M) (L : am_L) : va_W := (List.range S.1).map (fun k => (ad k, am_ce G ad S M L k))
theorem am_ws_get {G : am_G} {ad : Nat → Nat} {S : am_S} {M : am_M} {L : am_L} {k : Nat} (h : k < S.1) : (am_ws G ad S M L)[k]? = some (ad k, am_ce G ad S M L k) := by
  simp [am_ws, h]
theorem am_ws_none {G : am_G} {ad : Nat → Nat} {S : am_S} {M : am_M} {L : am_L} {k : Nat} (h : ¬ k < S.1) : (am_ws G ad S M L)[k]? = none := by
  simp [am_ws, h]
theorem am_ws_set {G : am_G} {ad : Nat → Nat} {S S' : am_S} {M M' : am_M} {L L' : am_L} {k : Nat} {e : va_E} (hS : S'.1 = S.1) (he : e = am_ce G ad S' M' L' k) (ho : ∀ j, j < S.1 → j ≠ k → am_ce G ad S' M' L' j = am_ce G ad S M L j) :
    (am_ws G ad S M L).set k (ad k, e) = am_ws G ad S' M' L' := by
  apply List.ext_getElem?
  intro i
  rw [List.getElem?_set]
  by_cases hi : i < S.1
  · rw [am_ws_get (S := S') (by rw [hS]; exact hi)]
    by_cases hk : k = i
    · subst hk
      simp [am_ws, hi, he]
    · rw [if_neg hk, am_ws_get hi, ho i hi (fun h => hk h.symm)]
  · rw [am_ws_none (S := S') (by rw [hS]; exact hi)]
    by_cases hk : k = i
    · subst hk
      simp [am_ws, hi]
    · rw [if_neg hk, am_ws_none hi]
theorem am_ws_push {G : am_G} {ad ad' : Nat → Nat} {S S' : am_S} {M M' : am_M} {L L' : am_L} {q : Nat} {e : va_E} (hS : S'.1 = S.1 + 1) (hq : ad' S.1 = q) (he : e = am_ce G ad' S' M' L' S.1) (ha : ∀ j, j < S.1 → ad' j = ad j) (ho : ∀ j, j < S.1 → am_ce G ad' S' M' L' j = am_ce G ad S M L j) :
    am_ws G ad S M L ++ [(q, e)] = am_ws G ad' S' M' L' := by
  show (List.range S.1).map _ ++ [(q, e)] = (List.range S'.1).map _
  rw [hS, List.range_succ, List.map_append]
  congr 1
  · apply List.map_congr_left
    intro j hj
    have hj := List.mem_range.mp hj
    rw [ha j hj, ho j hj]
  · simp [hq, he]
/-- a place of a row of rows is another number -/
def am_u {α : Type} (M : Nat → Nat → α) (k j : Nat) (x : α) : Nat → Nat → α := fun a b => if a = k ∧ b = j then x else M a b
/-- a row of rows is another -/
def am_r {α : Type} (M : Nat → Nat → α) (k : Nat) (f : Nat → α) : Nat → Nat → α := fun a => if a = k then f else M a
theorem am_u_same {α : Type} {M : Nat → Nat → α} {k j : Nat} {x : α} : am_u M k j x k j = x := by simp [am_u]
theorem am_u_row {α : Type} {M : Nat → Nat → α} {k j a : Nat} {x : α} (h : a ≠ k) : am_u M k j x a = M a := by
  funext b
  simp [am_u, h]
theorem am_u_ne {α : Type} {M : Nat → Nat → α} {k j a b : Nat} {x : α} (h : ¬ (a = k ∧ b = j)) : am_u M k j x a b = M a b := by simp [am_u, h]
theorem am_r_same {α : Type} {M : Nat → Nat → α} {k : Nat} {f : Nat → α} : am_r M k f k = f := by simp [am_r]
theorem am_r_ne {α : Type} {M : Nat → Nat → α} {k a : Nat} {f : Nat → α} (h : a ≠ k) : am_r M k f a = M a := by simp [am_r, h]
def am_tys (G : am_G) : List (ClassId × FieldType) := [(G.2.1 1, .int), (G.2.1 2, .byte), (G.2.1 3, .boolean), (G.2.1 4, .long), (G.2.1 5, .object "java/lang/String"), (G.2.1 6, .array .int), (G.2.1 7, .object "LookTimes$Lab")]
/-- no reference leads behind what was made -/
def am_wf (S : am_S) : Prop := ∀ k j r, k < S.1 → (S.2.1 k).1 ≠ 5 → S.2.2 k j = some r → r < S.1
/-- the cells as the memory says -/
def am_Wd (G : am_G) (A : Nat → Prop) (ad : Nat → Nat) (H0 : Heap) (S : am_S) (M : am_M) (L : am_L) (H : Heap) (locs : List Loc) : Prop :=
  va_P G.1 vwCl (am_ws G ad S M L) H ∧ va_D A (am_ws G ad S M L) ∧ va_S A H0 H locs ∧ am_wf S
theorem am_ce_ext {G : am_G} {ad ad' : Nat → Nat} {S : am_S} {M : am_M} {L : am_L} (hw : am_wf S) (he : ∀ k, k < S.1 → ad' k = ad k) {k : Nat} (hk : k < S.1) : am_ce G ad' S M L k = am_ce G ad S M L k := by
  have hp : (S.2.1 k).1 ≠ 5 → ∀ j, (S.2.2 k j).map ad' = (S.2.2 k j).map ad := by
    intro h5 j
    cases h : S.2.2 k j with
    | none => rfl
    | some r => simp only [Option.map_some]; rw [he r (hw k j r hk h5 h)]
  unfold am_ce
  split
  next h0 =>
    have h5 : (S.2.1 k).1 ≠ 5 := by omega
    have e : am_fs ad' S.2.2 M L k (S.2.1 k).2 = am_fs ad S.2.2 M L k (S.2.1 k).2 := by
      unfold am_fs
      apply List.map_congr_left
      intro j _
      unfold am_fv
      rw [hp h5 j]
    rw [e]
  next h0 =>
    unfold am_ar
    by_cases h5 : (S.2.1 k).1 = 5
    · simp [h5]
    · simp only [hp h5]
def am_lens : List Nat := [128, 3, 2, 3, 2, 3, 5, 4, 4, 5, 5, 5, 3, 5, 5, 7, 6]
def am_byts : List (List Int32) := [[111, 100, 100, 32, 32, 32, 32, 32, 102, 114, 101, 115, 104, 32, 32, 32, 109, 117, 99, 104, 32, 32, 32, 32, 108, 97, 115, 116, 32, 32, 32, 32, 111, 114, 100, 101, 114, 32, 32, 32, 116, 105, 114, 101, 100, 32, 32, 32, 108, 105, 107, 101, 100, 32, 32, 32, 97, 103, 101, 32, 32, 32, 32, 32, 104, 111, 117, 115, 101, 32, 32, 32, 116, 111, 116, 97, 108, 32, 32, 32, 108, 111, 110, 103, 101, 115, 116, 32, 116, 114, 105, 97, 108, 115, 32, 32, 108, 97, 119, 32, 32, 32, 32, 32, 105, 115, 32, 32, 32, 32, 32, 32, 111, 117, 116, 32, 32, 32, 32, 32, 105, 102, 32, 32, 32, 32, 32, 32], [108, 97, 119], [105, 115], [111, 117, 116], [105, 102], [111, 100, 100], [102, 114, 101, 115, 104], [109, 117, 99, 104], [108, 97, 115, 116], [111, 114, 100, 101, 114], [116, 105, 114, 101, 100], [108, 105, 107, 101, 100], [97, 103, 101], [104, 111, 117, 115, 101], [116, 111, 116, 97, 108], [108, 111, 110, 103, 101, 115, 116], [116, 114, 105, 97, 108, 115]]
def am_strs : List (String × Nat × String × Nat) := [("LookTimes$Text", 74, "odd     fresh   much    last    order   tired   liked   age     house   total   longest trials  law     is      out     if      ", 0), ("LookTimesModel", 101, "law", 1), ("LookTimesModel", 103, "is", 2), ("LookTimesModel", 105, "out", 3), ("LookTimesModel", 107, "if", 4), ("LookTimesModel", 113, "odd", 5), ("LookTimesModel", 115, "fresh", 6), ("LookTimesModel", 117, "much", 7), ("LookTimesModel", 119, "last", 8), ("LookTimesModel", 121, "order", 9), ("LookTimesModel", 123, "tired", 10), ("LookTimesModel", 125, "liked", 11), ("LookTimesModel", 127, "age", 12), ("LookTimesModel", 129, "house", 13), ("LookTimesModel", 131, "total", 14), ("LookTimesModel", 133, "longest", 15), ("LookTimesModel", 135, "trials", 16)]
def am_nest : List Cond := [(Cond.methodLinkNest "LookTimes" (15 : Nat) ({ cls := "LookTimes$Text", name := "<init>", desc := "()V" } : Jvm.MethodName) "LookTimes"), (Cond.methodLinkNest "LookTimes$Parser" (17 : Nat) ({ cls := "LookTimes$Program", name := "<init>", desc := "()V" } : Jvm.MethodName) "LookTimes"), (Cond.methodLinkNest "LookTimes" (31 : Nat) ({ cls := "LookTimes$Program", name := "<init>", desc := "()V" } : Jvm.MethodName) "LookTimes"), (Cond.methodLinkNest "LookTimes" (38 : Nat) ({ cls := "LookTimes$Stage", name := "<init>", desc := "()V" } : Jvm.MethodName) "LookTimes"), (Cond.methodLinkNest "LookTimes" (45 : Nat) ({ cls := "LookTimes$Lab", name := "<init>", desc := "()V" } : Jvm.MethodName) "LookTimes"), (Cond.methodLinkNest "LookTimes" (102 : Nat) ({ cls := "LookTimes$Book", name := "<init>", desc := "()V" } : Jvm.MethodName) "LookTimes"), (Cond.methodLinkNest "LookTimes$Meter" (77 : Nat) ({ cls := "LookTimes", name := "brought", desc := "(III)I" } : Jvm.MethodName) "LookTimes"), (Cond.methodLinkNest "LookTimes$Teller" (69 : Nat) ({ cls := "LookTimes", name := "brought", desc := "(III)I" } : Jvm.MethodName) "LookTimes"), (Cond.fieldLinkNest "LookTimes$Hindsight" (37 : Nat) "LookTimes" "AFTER_W" "[I" "LookTimes"), (Cond.fieldLinkNest "LookTimes$Hindsight" (41 : Nat) "LookTimes" "AFTER_MOST" "[I" "LookTimes")]
def am_ovs : List FieldType := [.object "LookTimes$Lab", .object "java/lang/String", .array .int]
def am_sta (i : Nat) : List Int32 := if i = 1 then [5, 10, 20, 40] else [150, 300, 600]
/-- what is given and stays: the classes, the script, static rows, texts, what nest mates may use -/
def am_For (X : am_X) (G : am_G) (A : Nat → Prop) (U : State) (H : Heap) : Prop :=
  va_K G.1 vwCl (am_tys G) U ∧ (∀ q, H.size ≤ q → A q) ∧ (va_X (G.2.2.1 0) X.1 X.2 U H ∧ G.2.2.1 0 < H.size ∧ ¬ A (G.2.2.1 0)) ∧ (va_T .int (G.2.2.1 1) 4 (fun j => .int ((am_sta 1).getD j 0)) A U H ∧ va_T .int (G.2.2.1 2) 3 (fun j => .int ((am_sta 2).getD j 0)) A U H) ∧
  (va_Z "LookTimes" "AFTER_W" "[I" (.ref (G.2.2.1 1)) A U H ∧ va_Z "LookTimes" "AFTER_MOST" "[I" (.ref (G.2.2.1 2)) A U H ∧ va_Z "java/lang/String" "COMPACT_STRINGS" "Z" (.int 1) A U H ∧ va_Z "jdk/internal/util/Preconditions" "SIOOBE_FORMATTER" "Ljava/util/function/BiFunction;" G.2.2.2 A U H) ∧ am_zok G ∧
  vk_S 17 am_lens am_byts (fun i => G.2.2.1 (10 + i)) (fun i => G.2.2.1 (40 + i)) A U H ∧ (∀ q ∈ am_strs, vk_R q.1 q.2.1 q.2.2.1 (G.2.2.1 (10 + q.2.2.2)) U) ∧ (∀ w ∈ am_nest, va_Nw w U) ∧ ∀ ty ∈ am_ovs, (Cond.arrayOver ty).before #[] U = true
theorem am_nest_warm {s U : State} (hW : s.WarmedH U.vm) : ∀ w ∈ am_nest, va_Nw w s → va_Nw w U := by
  intro w hw h
  simp only [am_nest, List.mem_cons, List.not_mem_nil, or_false] at hw
  rcases hw with rfl | rfl | rfl | rfl | rfl | rfl | rfl | rfl | rfl | rfl <;> first | exact va_Nw.warmM hW h | exact va_Nw.warmF hW h
theorem am_For.step {X : am_X} {G : am_G} {A : Nat → Prop} {s U : State} {H : Heap} {locs : List Loc} (h : am_For X G A s s.heap) (hS : va_S A s.heap H locs) (hW : s.WarmedH U.vm) : am_For X G A U H := by
  obtain ⟨hK, hA, ⟨hX, hb, hbA⟩, ⟨hT1, hT2⟩, ⟨hZ1, hZ2, hZ3, hZ4⟩, hz, hs, hR, hN, hO⟩ := h
  have al := hW.alike
  refine ⟨va_K.moved al hK, fun q hq => hA q (Nat.le_trans hS.1 hq), ⟨(hX.moved al).kept (hS.2.1 _ hb hbA), Nat.lt_of_lt_of_le hb hS.1, hbA⟩, ⟨(va_T.moved al hT1).kept hS.2.1, (va_T.moved al hT2).kept hS.2.1⟩, ⟨?_, ?_, ?_, ?_⟩, hz, (vk_S.moved al hs).kept hS.2.1, fun q hq => vk_R.warm hW (hR q hq), fun w hw => am_nest_warm hW w hw (hN w hw), fun ty hty => by
    have h9 := hO ty hty
    rw [← Cond.arrayOver_setVmC al] at h9
    exact h9⟩
  · exact (va_Z.moved al hZ1).kept hS.2.1
  · exact (va_Z.moved al hZ2).kept hS.2.1
  · exact (va_Z.moved al hZ3).kept hS.2.1
  · exact (va_Z.moved al hZ4).kept hS.2.1
