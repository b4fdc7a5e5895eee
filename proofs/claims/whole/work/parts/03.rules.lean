/-! ===== locals ===== -/
def l_get : List (Option Value) → Nat → Option Value
  | [], _ => none
  | o :: _, 0 => o
  | _ :: t, n + 1 => l_get t n
def l_cl (o : Option Value) : Option Value := match o with
  | some (.long _) => none
  | some (.double _) => none
  | o => o
def l_n : List (Option Value) → List (Option Value)
  | [] => []
  | _ :: t => none :: t
def l_st : List (Option Value) → Nat → Value → List (Option Value)
  | [], _, _ => []
  | _ :: t, 0, v => some v :: t
  | o :: t, 1, v => l_cl o :: l_st t 0 v
  | o :: t, n + 2, v => o :: l_st t (n + 1) v
def l_st2 : List (Option Value) → Nat → Value → List (Option Value)
  | [], _, _ => []
  | _ :: t, 0, v => some v :: l_n t
  | o :: t, 1, v => l_cl o :: l_st2 t 0 v
  | o :: t, n + 2, v => o :: l_st2 t (n + 1) v
theorem l_get_eq : ∀ (ls : List (Option Value)) (k : Nat), l_get ls k = (ls[k]?).getD none
  | [], _ => by simp [l_get]
  | _ :: _, 0 => by simp [l_get]
  | _ :: t, n + 1 => by simp [l_get, l_get_eq t n]
theorem l_cl_of {o : Option Value} {w : Value} (h : l_cl o = some w) : o = some w ∧ w.category = 1 := by
  cases o with
  | none => cases h
  | some v => cases v <;> simp [l_cl] at h <;> subst h <;> exact ⟨rfl, rfl⟩
theorem l_st_len : ∀ (ls : List (Option Value)) (i : Nat) (v : Value), (l_st ls i v).length = ls.length
  | [], _, _ => rfl
  | _ :: _, 0, _ => rfl
  | _ :: t, 1, v => by simp [l_st, l_st_len t 0 v]
  | _ :: t, n + 2, v => by simp [l_st, l_st_len t (n + 1) v]
theorem l_n_len (t : List (Option Value)) : (l_n t).length = t.length := by cases t <;> rfl
theorem l_st2_len : ∀ (ls : List (Option Value)) (i : Nat) (v : Value), (l_st2 ls i v).length = ls.length
  | [], _, _ => rfl
  | _ :: t, 0, _ => by simp [l_st2, l_n_len]
  | _ :: t, 1, v => by simp [l_st2, l_st2_len t 0 v]
  | _ :: t, n + 2, v => by simp [l_st2, l_st2_len t (n + 1) v]
theorem l_st_get : ∀ (ls : List (Option Value)) (i : Nat) (v : Value) (j : Nat) (w : Value), (l_st ls i v)[j]? = some (some w) → (j = i ∧ w = v) ∨ (j ≠ i ∧ ls[j]? = some (some w) ∧ ¬ (j + 1 = i ∧ w.category = 2))
  | [], _, _, j, w, h => by simp [l_st] at h
  | o :: t, 0, v, 0, w, h => by simp [l_st] at h; exact Or.inl ⟨rfl, h.symm⟩
  | o :: t, 0, v, j + 1, w, h => by
    simp only [l_st, List.getElem?_cons_succ] at h
    exact Or.inr ⟨by omega, by simpa using h, fun q => by omega⟩
  | o :: t, 1, v, 0, w, h => by
    simp only [l_st, List.getElem?_cons_zero, Option.some.injEq] at h
    obtain ⟨h1, h2⟩ := l_cl_of h
    exact Or.inr ⟨by omega, by simpa using h1, fun q => by omega⟩
  | o :: t, 1, v, j + 1, w, h => by
    simp only [l_st, List.getElem?_cons_succ] at h
    rcases l_st_get t 0 v j w h with ⟨a, b⟩ | ⟨a, b, c⟩
    · exact Or.inl ⟨by omega, b⟩
    · exact Or.inr ⟨by omega, by simpa using b, fun q => by omega⟩
  | o :: t, n + 2, v, 0, w, h => by
    simp only [l_st, List.getElem?_cons_zero] at h
    exact Or.inr ⟨by omega, by simpa using h, fun q => by omega⟩
  | o :: t, n + 2, v, j + 1, w, h => by
    simp only [l_st, List.getElem?_cons_succ] at h
    rcases l_st_get t (n + 1) v j w h with ⟨a, b⟩ | ⟨a, b, c⟩
    · exact Or.inl ⟨by omega, b⟩
    · exact Or.inr ⟨by omega, by simpa using b, fun q => c ⟨by omega, q.2⟩⟩
theorem l_n_get {t : List (Option Value)} {j : Nat} {w : Value} (h : (l_n t)[j]? = some (some w)) : j ≠ 0 ∧ t[j]? = some (some w) := by
  cases t with
  | nil => simp [l_n] at h
  | cons o t =>
    cases j with
    | zero => simp [l_n] at h
    | succ j => exact ⟨by omega, by simpa [l_n] using h⟩
theorem l_st2_get : ∀ (ls : List (Option Value)) (i : Nat) (v : Value) (j : Nat) (w : Value), (l_st2 ls i v)[j]? = some (some w) → (j = i ∧ w = v) ∨ (j ≠ i ∧ j ≠ i + 1 ∧ ls[j]? = some (some w) ∧ ¬ (j + 1 = i ∧ w.category = 2))
  | [], _, _, j, w, h => by simp [l_st2] at h
  | o :: t, 0, v, 0, w, h => by simp [l_st2] at h; exact Or.inl ⟨rfl, h.symm⟩
  | o :: t, 0, v, j + 1, w, h => by
    simp only [l_st2, List.getElem?_cons_succ] at h
    obtain ⟨h1, h2⟩ := l_n_get h
    exact Or.inr ⟨by omega, by omega, by simpa using h2, fun q => by omega⟩
  | o :: t, 1, v, 0, w, h => by
    simp only [l_st2, List.getElem?_cons_zero, Option.some.injEq] at h
    obtain ⟨h1, h2⟩ := l_cl_of h
    exact Or.inr ⟨by omega, by omega, by simpa using h1, fun q => by omega⟩
  | o :: t, 1, v, j + 1, w, h => by
    simp only [l_st2, List.getElem?_cons_succ] at h
    rcases l_st2_get t 0 v j w h with ⟨a, b⟩ | ⟨a, a2, b, c⟩
    · exact Or.inl ⟨by omega, b⟩
    · exact Or.inr ⟨by omega, by omega, by simpa using b, fun q => by omega⟩
  | o :: t, n + 2, v, 0, w, h => by
    simp only [l_st2, List.getElem?_cons_zero] at h
    exact Or.inr ⟨by omega, by omega, by simpa using h, fun q => by omega⟩
  | o :: t, n + 2, v, j + 1, w, h => by
    simp only [l_st2, List.getElem?_cons_succ] at h
    rcases l_st2_get t (n + 1) v j w h with ⟨a, b⟩ | ⟨a, a2, b, c⟩
    · exact Or.inl ⟨by omega, b⟩
    · exact Or.inr ⟨by omega, by omega, by simpa using b, fun q => c ⟨by omega, q.2⟩⟩
/-- the locals as a list of pairs, for the kit -/
def am_asc (G : am_G) (ad : Nat → Nat) (ls : List (Option Value)) : List (Nat × Value) := (List.range ls.length).filterMap (fun i => ((ls[i]?).getD none).map (fun v => (i, am_mv G ad v)))
theorem am_asc_mem {G : am_G} {ad : Nat → Nat} {ls : List (Option Value)} {i : Nat} {w : Value} : (i, w) ∈ am_asc G ad ls ↔ ∃ v, ls[i]? = some (some v) ∧ w = am_mv G ad v := by
  unfold am_asc
  rw [List.mem_filterMap]
  constructor
  · rintro ⟨a, ha, h⟩
    cases hl : ls[a]? with
    | none => rw [hl] at h; simp at h
    | some o =>
      cases o with
      | none => rw [hl] at h; simp at h
      | some v =>
        rw [hl] at h
        simp only [Option.getD_some, Option.map_some, Option.some.injEq, Prod.mk.injEq] at h
        obtain ⟨rfl, rfl⟩ := h
        exact ⟨v, hl, rfl⟩
  · rintro ⟨v, hv, rfl⟩
    refine ⟨i, List.mem_range.mpr (List.getElem?_eq_some_iff.mp hv).1, ?_⟩
    rw [hv]
    rfl
def am_Loc (G : am_G) (ad : Nat → Nat) (n nL : Nat) (ls : List (Option Value)) (lsm : Array Slot) : Prop := ls.length = nL ∧ lv_has lsm nL (am_asc G ad ls) ∧ ∀ (i : Nat) (v : Value), ls[i]? = some (some v) → am_ok n v
theorem am_Loc.get {G : am_G} {ad : Nat → Nat} {n nL : Nat} {ls : List (Option Value)} {lsm : Array Slot} (h : am_Loc G ad n nL ls lsm) {k : Nat} {v : Value} (hk : l_get ls k = some v) : lsm[k]? = some (.val (am_mv G ad v)) ∧ am_ok n v := by
  rw [l_get_eq] at hk
  cases hl : ls[k]? with
  | none => rw [hl] at hk; cases hk
  | some o =>
    rw [hl] at hk
    have hk : o = some v := hk
    subst hk
    exact ⟨h.2.1.2.2 (k, am_mv G ad v) (am_asc_mem.mpr ⟨v, hl, rfl⟩), h.2.2 k v hl⟩
theorem am_Loc.ext {G : am_G} {ad ad' : Nat → Nat} {n n' nL : Nat} {ls : List (Option Value)} {lsm : Array Slot} (h : am_Loc G ad n nL ls lsm) (he : ∀ k, k < n → ad' k = ad k) (hn : n ≤ n') : am_Loc G ad' n' nL ls lsm := by
  refine ⟨h.1, ⟨h.2.1.1, h.2.1.2.1, fun q hq => ?_⟩, fun i v hv => am_ok_mono (h.2.2 i v hv) hn⟩
  obtain ⟨v, hv, hw⟩ := am_asc_mem.mp (show (q.1, q.2) ∈ am_asc G ad' ls from hq)
  have h1 := h.2.1.2.2 (q.1, am_mv G ad v) (am_asc_mem.mpr ⟨v, hv, rfl⟩)
  rw [hw, am_mv_ext (h.2.2 _ v hv) he]
  exact h1
theorem am_Loc.st {G : am_G} {ad : Nat → Nat} (hz : am_zok G) {n nL i : Nat} {ls : List (Option Value)} {lsm lsm' : Array Slot} {v : Value} (h : am_Loc G ad n nL ls lsm) (hv : am_ok n v)
    (h' : lv_has lsm' nL ((i, am_mv G ad v) :: (am_asc G ad ls).filter (fun q => !(q.1 == i) && !(q.1 + 1 == i && q.2.category == 2)))) : am_Loc G ad n nL (l_st ls i v) lsm' := by
  refine ⟨by rw [l_st_len]; exact h.1, ⟨h'.1, h'.2.1, fun q hq => ?_⟩, fun j w hw => ?_⟩
  · obtain ⟨w, hw, he⟩ := am_asc_mem.mp (show (q.1, q.2) ∈ _ from hq)
    apply h'.2.2 q
    rcases l_st_get ls i v q.1 w hw with ⟨a, b⟩ | ⟨a, b, c⟩
    · subst b
      rw [← a, ← he]
      exact List.mem_cons_self
    · refine List.mem_cons_of_mem _ (List.mem_filter.mpr ⟨am_asc_mem.mpr ⟨w, b, he⟩, ?_⟩)
      rw [he, am_mv_cat hz]
      simp only [Bool.and_eq_true, Bool.not_eq_true', beq_eq_false_iff_ne, Bool.and_eq_false_imp, beq_iff_eq]
      exact ⟨a, fun e1 e2 => c ⟨e1, e2⟩⟩
  · rcases l_st_get ls i v j w hw with ⟨a, b⟩ | ⟨a, b, c⟩
    · rw [b]; exact hv
    · exact h.2.2 j w b
theorem am_Loc.st2 {G : am_G} {ad : Nat → Nat} (hz : am_zok G) {n nL i : Nat} {ls : List (Option Value)} {lsm lsm' : Array Slot} {v : Value} (h : am_Loc G ad n nL ls lsm) (hv : am_ok n v)
    (h' : lv_has lsm' nL ((i, am_mv G ad v) :: (am_asc G ad ls).filter (fun q => !(q.1 == i) && (!(q.1 == i + 1) && !(q.1 + 1 == i && q.2.category == 2))))) : am_Loc G ad n nL (l_st2 ls i v) lsm' := by
  refine ⟨by rw [l_st2_len]; exact h.1, ⟨h'.1, h'.2.1, fun q hq => ?_⟩, fun j w hw => ?_⟩
  · obtain ⟨w, hw, he⟩ := am_asc_mem.mp (show (q.1, q.2) ∈ _ from hq)
    apply h'.2.2 q
    rcases l_st2_get ls i v q.1 w hw with ⟨a, b⟩ | ⟨a, a2, b, c⟩
    · subst b
      rw [← a, ← he]
      exact List.mem_cons_self
    · refine List.mem_cons_of_mem _ (List.mem_filter.mpr ⟨am_asc_mem.mpr ⟨w, b, he⟩, ?_⟩)
      rw [he, am_mv_cat hz]
      simp only [Bool.and_eq_true, Bool.not_eq_true', beq_eq_false_iff_ne, Bool.and_eq_false_imp, beq_iff_eq]
      exact ⟨a, a2, fun e1 e2 => c ⟨e1, e2⟩⟩
  · rcases l_st2_get ls i v j w hw with ⟨a, b⟩ | ⟨a, a2, b, c⟩
    · rw [b]; exact hv
    · exact h.2.2 j w b
/-! ===== the judgement ===== -/
def am_Fix (q : am_Q) (p : Program) (s : State) (m : MethodId) (args : Array Value) (meth : Method) (c : Code) : Prop :=
  p.tables.exec = Jvm.exec ∧ c.code = q.2.1 ∧ meth.sig.returnType = q.2.2.2.1 ∧ c.maxLocals = q.2.2.1 ∧ s.vm.findClass q.1.cls = some m.cls ∧ (∀ w ∈ am_gt, w.before args s = true) ∧ meth.locks = false ∧ (q.1.name = "<init>" → meth.name = "<init>")
def am_ext (S : am_S) (ad : Nat → Nat) (S' : am_S) (ad' : Nat → Nat) : Prop := S.1 ≤ S'.1 ∧ ∀ k, k < S.1 → ad' k = ad k
theorem am_ext.rf {S : am_S} {ad : Nat → Nat} : am_ext S ad S ad := ⟨Nat.le_refl _, fun _ _ => rfl⟩
theorem am_ext.tr {S S1 S2 : am_S} {ad ad1 ad2 : Nat → Nat} (h : am_ext S ad S1 ad1) (h' : am_ext S1 ad1 S2 ad2) : am_ext S ad S2 ad2 := ⟨Nat.le_trans h.1 h'.1, fun k hk => by rw [h'.2 k (Nat.lt_of_lt_of_le hk h.1), h.2 k hk]⟩
/-- at a return instruction that fits what is given back -/
def am_rt (q : am_Q) (pc : Nat) (r : Option Value) : Prop := match r with
  | none => decode q.2.1 pc = .ok (.return_, 1) ∧ q.2.2.2.1 = none
  | some (.int v) => decode q.2.1 pc = .ok (.ireturn, 1) ∧ ∃ ty, q.2.2.2.1 = some ty ∧ narrow ty (.int v) = .int v
  | some (.long _) => decode q.2.1 pc = .ok (.lreturn, 1) ∧ q.2.2.2.1 = some .long
  | _ => False
def am_Rm (d : Nat) (R : Room) (cells slots bc bs mc ms : Nat) : Prop := d ≤ R.frames ∧ 64 * d ≤ R.locals ∧ cells + bc ≤ mc ∧ slots + bs ≤ ms ∧ mc ≤ R.cells ∧ ms ≤ R.slots
def am_WP (X : am_X) (d y pc : Nat) (ls : List (Option Value)) (st : List Value) (S : am_S) (M : am_M) (L : am_L) (bc bs : Nat) (K : am_K) : Prop :=
  ∀ (q : am_Q) (p : Program) (l : Launch) (e : Env) (R : Room) (s : State) (m : MethodId) (args : Array Value) (below : List Frame) (meth : Method) (c : Code) (H : Heap) (locs : List Loc) (cells slots : Nat) (Q : State → Prop) (G : am_G) (A : Nat → Prop) (ad : Nat → Nat) (lsm : Array Slot) (mc ms : Nat),
    am_mt[y]? = some q → am_Fix q p s m args meth c → am_For X G A s s.heap → am_Wd G A ad s.heap S M L H locs → am_Loc G ad S.1 q.2.2.1 ls lsm → (∀ v ∈ st, am_ok S.1 v) → am_Rm d R cells slots bc bs mc ms →
    (∀ (r : Option Value) (S' : am_S) (M' : am_M) (L' : am_L) (ad' : Nat → Nat) (H' : Heap) (locs' : List Loc) (pc' : Nat) (ls' : Array Slot), K r S' M' L' → am_Wd G A ad' s.heap S' M' L' H' locs' → (∀ v, r = some v → am_ok S'.1 v) → am_ext S ad S' ad' → am_rt q pc' r →
      W p l e R s m args below meth c H' locs' mc ms Q (F0 m pc' ls' ((r.map (am_mv G ad')).toList))) →
    W p l e R s m args below meth c H locs cells slots Q (F0 m pc lsm (st.map (am_mv G ad)))
def am_at (y pc : Nat) (i : Instr) (n : Nat) : Prop := ∀ q, am_mt[y]? = some q → decode q.2.1 pc = .ok (i, n)
/-- an instruction that changes the operands alone -/
theorem am_step {X : am_X} {d y pc pc' : Nat} {ls : List (Option Value)} {st st' : List Value} {S : am_S} {M : am_M} {L : am_L} {bc bs : Nat} {K : am_K} (h : am_WP X d y pc' ls st' S M L bc bs K)
    (row : ∀ (q : am_Q) (p : Program) (l : Launch) (e : Env) (R : Room) (s : State) (m : MethodId) (args : Array Value) (below : List Frame) (meth : Method) (c : Code) (H : Heap) (locs : List Loc) (cells slots : Nat) (Q : State → Prop) (G : am_G) (A : Nat → Prop) (ad : Nat → Nat) (lsm : Array Slot),
      am_mt[y]? = some q → am_Fix q p s m args meth c → am_For X G A s s.heap → am_Wd G A ad s.heap S M L H locs → am_Loc G ad S.1 q.2.2.1 ls lsm → (∀ v ∈ st, am_ok S.1 v) → ((1 ≤ d → 1 ≤ R.frames ∧ 64 ≤ R.locals) ∧ cells ≤ R.cells ∧ slots ≤ R.slots) →
      ((∀ v ∈ st', am_ok S.1 v) → W p l e R s m args below meth c H locs cells slots Q (F0 m pc' lsm (st'.map (am_mv G ad)))) → W p l e R s m args below meth c H locs cells slots Q (F0 m pc lsm (st.map (am_mv G ad)))) : am_WP X d y pc ls st S M L bc bs K := by
  intro q p l e R s m args below meth c H locs cells slots Q G A ad lsm mc ms hq F Fo Wd Lo so Rm Re
  exact row q p l e R s m args below meth c H locs cells slots Q G A ad lsm hq F Fo Wd Lo so ⟨fun h1 => ⟨Nat.le_trans h1 Rm.1, Nat.le_trans (by omega) Rm.2.1⟩, by have := Rm.2.2.1; have := Rm.2.2.2.2.1; omega, by have := Rm.2.2.2.1; have := Rm.2.2.2.2.2; omega⟩ (fun so' => h q p l e R s m args below meth c H locs cells slots Q G A ad lsm mc ms hq F Fo Wd Lo so' Rm Re)
/-- two ways -/
theorem am_step2 {X : am_X} {d y pc p1 p2 : Nat} {ls : List (Option Value)} {st st' : List Value} {S : am_S} {M : am_M} {L : am_L} {bc bs : Nat} {K : am_K} {c1 c2 : Prop} (h1 : c1 → am_WP X d y p1 ls st' S M L bc bs K) (h2 : c2 → am_WP X d y p2 ls st' S M L bc bs K) (hok : (∀ v ∈ st, am_ok S.1 v) → ∀ v ∈ st', am_ok S.1 v)
    (row : ∀ (q : am_Q) (p : Program) (l : Launch) (e : Env) (R : Room) (s : State) (m : MethodId) (args : Array Value) (below : List Frame) (meth : Method) (c : Code) (H : Heap) (locs : List Loc) (cells slots : Nat) (Q : State → Prop) (G : am_G) (ad : Nat → Nat) (lsm : Array Slot),
      am_mt[y]? = some q → am_Fix q p s m args meth c → 
      (c1 → W p l e R s m args below meth c H locs cells slots Q (F0 m p1 lsm (st'.map (am_mv G ad)))) → (c2 → W p l e R s m args below meth c H locs cells slots Q (F0 m p2 lsm (st'.map (am_mv G ad)))) → W p l e R s m args below meth c H locs cells slots Q (F0 m pc lsm (st.map (am_mv G ad)))) : am_WP X d y pc ls st S M L bc bs K := by
  intro q p l e R s m args below meth c H locs cells slots Q G A ad lsm mc ms hq F Fo Wd Lo so Rm Re
  exact row q p l e R s m args below meth c H locs cells slots Q G ad lsm hq F (fun z => h1 z q p l e R s m args below meth c H locs cells slots Q G A ad lsm mc ms hq F Fo Wd Lo (hok so) Rm Re) (fun z => h2 z q p l e R s m args below meth c H locs cells slots Q G A ad lsm mc ms hq F Fo Wd Lo (hok so) Rm Re)
/-- an instruction that changes the locals -/
theorem am_stepL {X : am_X} {d y pc pc' : Nat} {ls ls' : List (Option Value)} {st st' : List Value} {S : am_S} {M : am_M} {L : am_L} {bc bs : Nat} {K : am_K} (h : am_WP X d y pc' ls' st' S M L bc bs K) (hok : (∀ v ∈ st, am_ok S.1 v) → ∀ v ∈ st', am_ok S.1 v)
    (row : ∀ (q : am_Q) (p : Program) (l : Launch) (e : Env) (R : Room) (s : State) (m : MethodId) (args : Array Value) (below : List Frame) (meth : Method) (c : Code) (H : Heap) (locs : List Loc) (cells slots : Nat) (Q : State → Prop) (G : am_G) (ad : Nat → Nat) (lsm : Array Slot),
      am_mt[y]? = some q → am_Fix q p s m args meth c → am_zok G → am_Loc G ad S.1 q.2.2.1 ls lsm → (∀ v ∈ st, am_ok S.1 v) →
      (∀ lsm', am_Loc G ad S.1 q.2.2.1 ls' lsm' → W p l e R s m args below meth c H locs cells slots Q (F0 m pc' lsm' (st'.map (am_mv G ad)))) → W p l e R s m args below meth c H locs cells slots Q (F0 m pc lsm (st.map (am_mv G ad)))) : am_WP X d y pc ls st S M L bc bs K := by
  intro q p l e R s m args below meth c H locs cells slots Q G A ad lsm mc ms hq F Fo Wd Lo so Rm Re
  exact row q p l e R s m args below meth c H locs cells slots Q G ad lsm hq F Fo.2.2.2.2.2.1 Lo so (fun lsm' Lo' => h q p l e R s m args below meth c H locs cells slots Q G A ad lsm' mc ms hq F Fo Wd Lo' (hok so) Rm Re)
/-- an instruction that changes numbers of the memory (no cell is made) -/
theorem am_stepM {X : am_X} {d y pc pc' : Nat} {ls : List (Option Value)} {st st' : List Value} {S S' : am_S} {M M' : am_M} {L L' : am_L} {bc bs : Nat} {K : am_K} (h : am_WP X d y pc' ls st' S' M' L' bc bs K) (hn : S'.1 = S.1)
    (row : ∀ (q : am_Q) (p : Program) (l : Launch) (e : Env) (R : Room) (s : State) (m : MethodId) (args : Array Value) (below : List Frame) (meth : Method) (c : Code) (H : Heap) (locs : List Loc) (cells slots : Nat) (Q : State → Prop) (G : am_G) (A : Nat → Prop) (ad : Nat → Nat) (lsm : Array Slot),
      am_mt[y]? = some q → am_Fix q p s m args meth c → am_For X G A s s.heap → am_Wd G A ad s.heap S M L H locs → am_Loc G ad S.1 q.2.2.1 ls lsm → (∀ v ∈ st, am_ok S.1 v) → ((1 ≤ d → 1 ≤ R.frames ∧ 64 ≤ R.locals) ∧ cells ≤ R.cells ∧ slots ≤ R.slots) →
      (∀ H' locs', (∀ v ∈ st', am_ok S.1 v) → am_Wd G A ad s.heap S' M' L' H' locs' → W p l e R s m args below meth c H' locs' cells slots Q (F0 m pc' lsm (st'.map (am_mv G ad)))) → W p l e R s m args below meth c H locs cells slots Q (F0 m pc lsm (st.map (am_mv G ad)))) : am_WP X d y pc ls st S M L bc bs K := by
  intro q p l e R s m args below meth c H locs cells slots Q G A ad lsm mc ms hq F Fo Wd Lo so Rm Re
  refine row q p l e R s m args below meth c H locs cells slots Q G A ad lsm hq F Fo Wd Lo so ⟨fun h1 => ⟨Nat.le_trans h1 Rm.1, Nat.le_trans (by omega) Rm.2.1⟩, by have := Rm.2.2.1; have := Rm.2.2.2.2.1; omega, by have := Rm.2.2.2.1; have := Rm.2.2.2.2.2; omega⟩ (fun H' locs' so' Wd' => h q p l e R s m args below meth c H' locs' cells slots Q G A ad lsm mc ms hq F Fo Wd' (by rw [hn]; exact Lo) (by rw [hn]; exact so') Rm ?_)
  intro r S2 M2 L2 ad2 H2 locs2 pc2 ls2 k1 k2 k3 k4 k5
  exact Re r S2 M2 L2 ad2 H2 locs2 pc2 ls2 k1 k2 k3 ⟨by rw [← hn]; exact k4.1, fun k hk => k4.2 k (by rw [hn]; exact hk)⟩ k5
theorem am_oc {n : Nat} {v : Value} {st : List Value} (h : am_ok n v) (so : ∀ w ∈ st, am_ok n w) : ∀ w ∈ v :: st, am_ok n w := List.forall_mem_cons.mpr ⟨h, so⟩
theorem am_ot {n : Nat} {v : Value} {st : List Value} (so : ∀ w ∈ v :: st, am_ok n w) : ∀ w ∈ st, am_ok n w := fun w hw => so w (List.mem_cons_of_mem _ hw)
theorem am_oh {n : Nat} {v : Value} {st : List Value} (so : ∀ w ∈ v :: st, am_ok n w) : am_ok n v := so v List.mem_cons_self
