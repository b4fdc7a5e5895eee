def am_pv (o : Option Nat) : Value := match o with
  | some r => .ref r
  | none => .null
theorem am_pv_mv {G : am_G} {ad : Nat → Nat} (o : Option Nat) : am_mv G ad (am_pv o) = va_rf (o.map ad) := by cases o <;> rfl
def am_gv (S : am_S) (M : am_M) (L : am_L) (k j t : Nat) : Value := if t = 0 then .int (M k j) else if t = 1 then .long (L k j) else am_pv (S.2.2 k j)
theorem am_gv_mv {G : am_G} {ad : Nat → Nat} {S : am_S} {M : am_M} {L : am_L} {k j t : Nat} : am_mv G ad (am_gv S M L k j t) = am_fv ad S.2.2 M L k j t := by
  unfold am_gv am_fv
  split
  · rfl
  · split
    · rfl
    · exact am_pv_mv _
theorem am_row {ci j : Nat} (h : j < am_nf ci) : ∃ r : vw_C, vwCl[ci]? = some r ∧ am_F ci = r.2.1 ∧ am_nf ci = r.2.2 := by
  cases hc : vwCl[ci]? with
  | none =>
    have e : am_nf ci = 0 := by
      unfold am_nf
      rw [List.getD_eq_getElem?_getD, hc]
      rfl
    omega
  | some r =>
    refine ⟨r, rfl, ?_, ?_⟩
    · unfold am_F
      rw [List.getD_eq_getElem?_getD, hc]
      rfl
    · unfold am_nf
      rw [List.getD_eq_getElem?_getD, hc]
      rfl
theorem am_fs_get {ad : Nat → Nat} {P : Nat → Nat → Option Nat} {M : am_M} {L : am_L} {k ci j : Nat} (hj : j < am_nf ci) : (am_fs ad P M L k ci)[j]? = some (am_fv ad P M L k j (am_tk (am_ty ci j))) := by
  simp [am_fs, hj]
theorem am_fs_len {ad : Nat → Nat} {P : Nat → Nat → Option Nat} {M : am_M} {L : am_L} {k ci : Nat} : (am_fs ad P M L k ci).length = am_nf ci := by simp [am_fs]
theorem am_fs_set {ad : Nat → Nat} {P P' : Nat → Nat → Option Nat} {M M' : am_M} {L L' : am_L} {k ci j : Nat} {v : Value} (hj : j < am_nf ci) (hv : v = am_fv ad P' M' L' k j (am_tk (am_ty ci j))) (ho : ∀ i, i ≠ j → M' k i = M k i ∧ L' k i = L k i ∧ P' k i = P k i) :
    (am_fs ad P M L k ci).set j v = am_fs ad P' M' L' k ci := by
  apply List.ext_getElem?
  intro i
  rw [List.getElem?_set]
  by_cases hi : i < am_nf ci
  · by_cases e : j = i
    · subst e
      rw [if_pos rfl, if_pos (by rw [am_fs_len]; exact hj), am_fs_get hj, hv]
    · rw [if_neg e, am_fs_get hi, am_fs_get hi]
      obtain ⟨h1, h2, h3⟩ := ho i (fun h => e h.symm)
      unfold am_fv
      rw [h1, h2, h3]
  · have n1 : (am_fs ad P M L k ci)[i]? = none := by rw [List.getElem?_eq_none_iff, am_fs_len]; omega
    have n2 : (am_fs ad P' M' L' k ci)[i]? = none := by rw [List.getElem?_eq_none_iff, am_fs_len]; omega
    rw [n2]
    by_cases e : j = i
    · omega
    · rw [if_neg e, n1]
theorem am_ce_row {G : am_G} {ad : Nat → Nat} {S S' : am_S} {M M' : am_M} {L L' : am_L} {i : Nat} (hs : S'.2.1 i = S.2.1 i) (hp : S'.2.2 i = S.2.2 i) (hm : M' i = M i) (hl : L' i = L i) : am_ce G ad S' M' L' i = am_ce G ad S M L i := by
  unfold am_ce am_fs am_ar am_fv
  rw [hs, hm, hl, hp]
theorem am_ce_obj {G : am_G} {ad : Nat → Nat} {S : am_S} {M : am_M} {L : am_L} {k ci : Nat} (h : S.2.1 k = (0, ci)) : am_ce G ad S M L k = .inr (ci, am_fs ad S.2.2 M L k ci) := by
  unfold am_ce
  rw [h]
  rfl
theorem am_ce_arr {G : am_G} {ad : Nat → Nat} {S : am_S} {M : am_M} {L : am_L} {k t n : Nat} (h : S.2.1 k = (t, n)) (ht : t ≠ 0) : am_ce G ad S M L k = .inl (G.2.1 t, n, am_ar G ad S M L k t) := by
  unfold am_ce
  rw [h]
  simp [ht]
theorem am_u_upd {M : am_M} {k i : Nat} {x : Int32} : am_u M k i x k = upd (M k) i x := by
  funext b
  by_cases e : b = i
  · subst e; simp [am_u, upd]
  · simp [am_u, upd, e]
theorem am_narrow_ref {ty : FieldType} (h : am_tk ty = 2) {v : Value} (hv : v = .null ∨ ∃ a, v = .ref a) : narrow ty v = v ∧ fits ty v = true := by
  rcases hv with rfl | ⟨a, rfl⟩ <;> cases ty <;> first | (simp [am_tk] at h; done) | exact ⟨rfl, rfl⟩
/-- a cell of one's own is another: numbers, long numbers, references of one row -/
theorem am_Wd.put {G : am_G} {A : Nat → Prop} {ad : Nat → Nat} {H0 H1 : Heap} {S S' : am_S} {M M' : am_M} {L L' : am_L} {locs1 : List Loc} {k : Nat} {e : va_E} (hn : S'.1 = S.1) (hs : S'.2.1 = S.2.1) (he : e = am_ce G ad S' M' L' k) (ho : ∀ i, i ≠ k → S'.2.2 i = S.2.2 i ∧ M' i = M i ∧ L' i = L i) (hw : am_wf S')
    (hP : va_P G.1 vwCl ((am_ws G ad S M L).set k (ad k, e)) H1) (hD : va_D A ((am_ws G ad S M L).set k (ad k, e))) (hS : va_S A H0 H1 locs1) : am_Wd G A ad H0 S' M' L' H1 locs1 := by
  have e9 : (am_ws G ad S M L).set k (ad k, e) = am_ws G ad S' M' L' := am_ws_set hn he (fun i _ hi => am_ce_row (by rw [hs]) (ho i hi).1 (ho i hi).2.1 (ho i hi).2.2)
  rw [e9] at hP hD
  exact ⟨hP, hD, hS, hw⟩
/-- one more cell -/
def am_nS (S : am_S) (t n : Nat) : am_S := (S.1 + 1, (fun a => if a = S.1 then (t, n) else S.2.1 a), am_r S.2.2 S.1 (fun _ => none))
def am_nM (S : am_S) (M : am_M) : am_M := am_r M S.1 (fun _ => 0)
def am_nL (S : am_S) (L : am_L) : am_L := am_r L S.1 (fun _ => 0)
theorem am_nS_wf {S : am_S} {t n : Nat} (h : am_wf S) : am_wf (am_nS S t n) := by
  intro k j r hk h5 hr
  show r < S.1 + 1
  by_cases e : k = S.1
  · simp [am_nS, am_r, e] at hr
  · have h1 : S.2.2 k j = some r := by simpa [am_nS, am_r, e] using hr
    have h2 : (S.2.1 k).1 ≠ 5 := by simpa [am_nS, e] using h5
    have h3 : k < S.1 := by have : k < S.1 + 1 := hk; omega
    have := h k j r h3 h2 h1
    omega
def am_na (ad : Nat → Nat) (n q : Nat) : Nat → Nat := fun j => if j = n then q else ad j
theorem am_na_ext {ad : Nat → Nat} {S : am_S} {q t n : Nat} : am_ext S ad (am_nS S t n) (am_na ad S.1 q) := ⟨Nat.le_succ _, fun k hk => by simp [am_na]; omega⟩
theorem am_Wd.push {G : am_G} {A : Nat → Prop} {ad : Nat → Nat} {H0 H1 : Heap} {S : am_S} {M : am_M} {L : am_L} {locs : List Loc} {t n q : Nat} {e : va_E} (hw : am_wf S) (he : e = am_ce G (am_na ad S.1 q) (am_nS S t n) (am_nM S M) (am_nL S L) S.1)
    (hP : va_P G.1 vwCl (am_ws G ad S M L ++ [(q, e)]) H1) (hD : va_D A (am_ws G ad S M L ++ [(q, e)])) (hS : va_S A H0 H1 locs) : am_Wd G A (am_na ad S.1 q) H0 (am_nS S t n) (am_nM S M) (am_nL S L) H1 locs := by
  have e9 : am_ws G ad S M L ++ [(q, e)] = am_ws G (am_na ad S.1 q) (am_nS S t n) (am_nM S M) (am_nL S L) := by
    refine am_ws_push rfl (by simp [am_na]) he (fun j hj => am_na_ext (t := t) (n := n) |>.2 j hj) (fun j hj => ?_)
    have e1 := am_ce_row (G := G) (ad := am_na ad S.1 q) (S := S) (S' := am_nS S t n) (M := M) (M' := am_nM S M) (L := L) (L' := am_nL S L) (i := j) (by show (if j = S.1 then (t, n) else S.2.1 j) = _; rw [if_neg (by omega)]) (am_r_ne (by omega)) (am_r_ne (by omega)) (am_r_ne (by omega))
    rw [e1]
    exact am_ce_ext hw (fun k hk => (am_na_ext (t := t) (n := n)).2 k hk) hj
  rw [e9] at hP hD
  exact ⟨hP, hD, hS, am_nS_wf hw⟩
/-- an instruction that makes cells -/
theorem am_stepN {X : am_X} {d y pc pc' : Nat} {ls : List (Option Value)} {st st' : List Value} {S S' : am_S} {M M' : am_M} {L L' : am_L} {bc bs dc ds : Nat} {K : am_K} (h : am_WP X d y pc' ls st' S' M' L' (bc - dc) (bs - ds) K) (hbc : dc ≤ bc) (hbs : ds ≤ bs)
    (row : ∀ (q : am_Q) (p : Program) (l : Launch) (e : Env) (R : Room) (s : State) (m : MethodId) (args : Array Value) (below : List Frame) (meth : Method) (c : Code) (H : Heap) (locs : List Loc) (cells slots : Nat) (Q : State → Prop) (G : am_G) (A : Nat → Prop) (ad : Nat → Nat) (lsm : Array Slot),
      am_mt[y]? = some q → am_Fix q p s m args meth c → am_For X G A s s.heap → am_Wd G A ad s.heap S M L H locs → am_Loc G ad S.1 q.2.2.1 ls lsm → (∀ v ∈ st, am_ok S.1 v) → (cells + dc ≤ R.cells ∧ slots + ds ≤ R.slots) →
      (∀ H' locs' ad', am_ext S ad S' ad' → (∀ v ∈ st', am_ok S'.1 v) → am_Wd G A ad' s.heap S' M' L' H' locs' → W p l e R s m args below meth c H' locs' (cells + dc) (slots + ds) Q (F0 m pc' lsm (st'.map (am_mv G ad')))) → W p l e R s m args below meth c H locs cells slots Q (F0 m pc lsm (st.map (am_mv G ad)))) : am_WP X d y pc ls st S M L bc bs K := by
  intro q p l e R s m args below meth c H locs cells slots Q G A ad lsm mc ms hq F Fo Wd Lo so Rm Re
  obtain ⟨r1, r2, r3, r4, r5, r6⟩ := Rm
  refine row q p l e R s m args below meth c H locs cells slots Q G A ad lsm hq F Fo Wd Lo so ⟨by omega, by omega⟩ (fun H' locs' ad' he so' Wd' => h q p l e R s m args below meth c H' locs' (cells + dc) (slots + ds) Q G A ad' lsm mc ms hq F Fo Wd' (Lo.ext he.2 he.1) so' ⟨r1, r2, by omega, by omega, r5, r6⟩ ?_)
  intro r S2 M2 L2 ad2 H2 locs2 pc2 ls2 k1 k2 k3 k4 k5
  exact Re r S2 M2 L2 ad2 H2 locs2 pc2 ls2 k1 k2 k3 (he.tr k4) k5
section R5
variable {X : am_X} {d y pc : Nat} {ls : List (Option Value)} {st : List Value} {S : am_S} {M : am_M} {L : am_L} {bc bs : Nat} {K : am_K}
theorem r_get {idx k ci j : Nat} (t : Nat) (ha : am_at y pc (.getfield idx) 3) (hw : (∀ q, am_mt[y]? = some q → Cond.fieldLink q.1.cls idx (am_F ci j).1 (am_F ci j).2.1 (am_F ci j).2.2.1 ∈ am_gt)) (hj : j < am_nf ci) (ht : am_tk (am_ty ci j) = t) (hk : k < S.1) (hc : S.2.1 k = (0, ci)) (h : am_WP X d y (pc + 3) ls (am_gv S M L k j t :: st) S M L bc bs K) : am_WP X d y pc ls (.ref k :: st) S M L bc bs K := by
  refine am_step h (fun q p l e R s m args below meth c H locs cells slots Q G A ad lsm hq F Fo Wd Lo so rm kk => ?_)
  obtain ⟨r, hr, e1, e2⟩ := am_row hj
  obtain ⟨g1, g2, g3⟩ := am_cls ci r hr
  have hw := hw q hq
  rw [e1] at hw
  have kk := kk (am_oc (by
    subst ht
    unfold am_gv
    split
    · trivial
    · split
      · trivial
      · cases hp : S.2.2 k j with
        | none => trivial
        | some r0 => exact Wd.2.2.2 k j r0 hk (by rw [hc]; show (0 : Nat) ≠ 5; decide) hp) (am_ot so))
  rw [List.map_cons, am_gv_mv, ← ht] at kk
  exact va_get F.1 F.2.1 F.2.2.2.2.2.1 g1 F.2.2.2.2.1 Fo.1 Wd.1 k (by rw [am_ws_get hk, am_ce_obj hc]) hr j (by rw [← e2]; exact hj) (F.2.2.2.2.2.1 _ hw) (fun _ h9 => h9) (am_fs_get hj) (ha q hq) kk
theorem r_put {idx k ci j : Nat} {v : Value} {S' : am_S} {M' : am_M} {L' : am_L} (ha : am_at y pc (.putfield idx) 3) (hw : (∀ q, am_mt[y]? = some q → Cond.fieldLink q.1.cls idx (am_F ci j).1 (am_F ci j).2.1 (am_F ci j).2.2.1 ∈ am_gt)) (hj : j < am_nf ci) (hf : (am_F ci j).2.2.2 = false ∨ ((am_F ci j).2.2.2 = true ∧ ∀ q, am_mt[y]? = some q → q.1.name = "<init>" ∧ (am_F ci j).1 = q.1.cls)) (hk : k < S.1) (hc : S.2.1 k = (0, ci))
    (hn : S'.1 = S.1) (hs : S'.2.1 = S.2.1) (hwf : am_ok S.1 v → am_wf S → am_wf S') (hv : ∀ (G : am_G) (ad : Nat → Nat), am_zok G → am_mv G ad v = am_fv ad S'.2.2 M' L' k j (am_tk (am_ty ci j)) ∧ narrow (am_ty ci j) (am_mv G ad v) = am_mv G ad v ∧ fits (am_ty ci j) (am_mv G ad v) = true) (ho : ∀ i, i ≠ k → S'.2.2 i = S.2.2 i ∧ M' i = M i ∧ L' i = L i) (ho2 : ∀ i, i ≠ j → M' k i = M k i ∧ L' k i = L k i ∧ S'.2.2 k i = S.2.2 k i)
    (h : am_WP X d y (pc + 3) ls st S' M' L' bc bs K) : am_WP X d y pc ls (v :: .ref k :: st) S M L bc bs K := by
  refine am_stepM h hn (fun q p l e R s m args below meth c H locs cells slots Q G A ad lsm hq F Fo Wd Lo so rm kk => ?_)
  obtain ⟨r, hr, e1, e2⟩ := am_row hj
  obtain ⟨g1, g2, g3⟩ := am_cls ci r hr
  have hw := hw q hq
  obtain ⟨v1, v2, v3⟩ := hv G ad Fo.2.2.2.2.2.1
  rw [e1] at hw hf
  have hjr : j < r.2.2 := by rw [← e2]; exact hj
  have fin : ∀ (H1 : Heap) (locs1 : List Loc), va_P G.1 vwCl ((am_ws G ad S M L).set k (ad k, .inr (ci, (am_fs ad S.2.2 M L k ci).set j (am_mv G ad v)))) H1 → va_D A ((am_ws G ad S M L).set k (ad k, .inr (ci, (am_fs ad S.2.2 M L k ci).set j (am_mv G ad v)))) → va_S A s.heap H1 locs1 → W p l e R s m args below meth c H1 locs1 cells slots Q (F0 m (pc + 3) lsm (st.map (am_mv G ad))) := fun H1 locs1 hP hD hS =>
    kk H1 locs1 (am_ot (am_ot so)) (am_Wd.put (S := S) (M := M) (L := L) (k := k) hn hs (by rw [am_ce_obj (by rw [hs]; exact hc), am_fs_set hj v1 ho2]) ho (hwf (am_oh so) Wd.2.2.2) hP hD hS)
  have he : (am_ws G ad S M L)[k]? = some (ad k, .inr (ci, am_fs ad S.2.2 M L k ci)) := by rw [am_ws_get hk, am_ce_obj hc]
  rcases hf with hf | ⟨hf, hi⟩
  · exact va_put F.1 F.2.1 F.2.2.2.2.2.1 g1 (am_ty ci) g2 g3 F.2.2.2.2.1 Fo.1 Wd.1 Wd.2.1 Wd.2.2.1 k he hr j hjr (F.2.2.2.2.2.1 _ hw) (fun _ h9 => h9) hf (g2 j hjr) v2 v3 (by rw [am_fs_len]; exact hj) (ha q hq) fin
  · exact va_putF F.1 F.2.1 F.2.2.2.2.2.1 g1 (am_ty ci) g2 g3 F.2.2.2.2.1 Fo.1 Wd.1 Wd.2.1 Wd.2.2.1 k he hr j hjr (F.2.2.2.2.2.1 _ hw) (fun _ h9 => h9) hf (F.2.2.2.2.2.2.2 (hi q hq).1) (hi q hq).2 (g2 j hjr) v2 v3 (by rw [am_fs_len]; exact hj) (ha q hq) fin
theorem r_puti {idx k ci j : Nat} {x : Int32} (ha : am_at y pc (.putfield idx) 3) (hw : (∀ q, am_mt[y]? = some q → Cond.fieldLink q.1.cls idx (am_F ci j).1 (am_F ci j).2.1 (am_F ci j).2.2.1 ∈ am_gt)) (hj : j < am_nf ci) (hf : (am_F ci j).2.2.2 = false ∨ ((am_F ci j).2.2.2 = true ∧ ∀ q, am_mt[y]? = some q → q.1.name = "<init>" ∧ (am_F ci j).1 = q.1.cls)) (ht : am_ty ci j = .int ∨ (am_ty ci j = .boolean ∧ (x = 0 ∨ x = 1))) (hk : k < S.1) (hc : S.2.1 k = (0, ci)) (h : am_WP X d y (pc + 3) ls st S (am_u M k j x) L bc bs K) : am_WP X d y pc ls (.int x :: .ref k :: st) S M L bc bs K := by
  refine r_put ha hw hj hf hk hc rfl rfl (fun _ h9 => h9) (fun G ad _ => ?_) (fun i hi => ⟨rfl, am_u_row hi, rfl⟩) (fun i hi => ⟨am_u_ne (fun q => hi q.2), rfl, rfl⟩) h
  have e0 : am_tk (am_ty ci j) = 0 := by rcases ht with h1 | ⟨h1, -⟩ <;> rw [h1] <;> rfl
  refine ⟨by rw [e0]; show Value.int x = Value.int (am_u M k j x k j); rw [am_u_same], ?_⟩
  rcases ht with h1 | ⟨h1, rfl | rfl⟩ <;> rw [h1] <;> exact ⟨rfl, rfl⟩
theorem r_putl {idx k ci j : Nat} {x : Int64} (ha : am_at y pc (.putfield idx) 3) (hw : (∀ q, am_mt[y]? = some q → Cond.fieldLink q.1.cls idx (am_F ci j).1 (am_F ci j).2.1 (am_F ci j).2.2.1 ∈ am_gt)) (hj : j < am_nf ci) (hf : (am_F ci j).2.2.2 = false ∨ ((am_F ci j).2.2.2 = true ∧ ∀ q, am_mt[y]? = some q → q.1.name = "<init>" ∧ (am_F ci j).1 = q.1.cls)) (ht : am_ty ci j = .long) (hk : k < S.1) (hc : S.2.1 k = (0, ci)) (h : am_WP X d y (pc + 3) ls st S M (am_u L k j x) bc bs K) : am_WP X d y pc ls (.long x :: .ref k :: st) S M L bc bs K := by
  refine r_put ha hw hj hf hk hc rfl rfl (fun _ h9 => h9) (fun G ad _ => ?_) (fun i hi => ⟨rfl, rfl, am_u_row hi⟩) (fun i hi => ⟨rfl, am_u_ne (fun q => hi q.2), rfl⟩) h
  rw [ht]
  exact ⟨by show Value.long x = Value.long (am_u L k j x k j); rw [am_u_same], rfl, rfl⟩
theorem r_putr {idx k ci j : Nat} (o : Option Nat) (ha : am_at y pc (.putfield idx) 3) (hw : (∀ q, am_mt[y]? = some q → Cond.fieldLink q.1.cls idx (am_F ci j).1 (am_F ci j).2.1 (am_F ci j).2.2.1 ∈ am_gt)) (hj : j < am_nf ci) (hf : (am_F ci j).2.2.2 = false ∨ ((am_F ci j).2.2.2 = true ∧ ∀ q, am_mt[y]? = some q → q.1.name = "<init>" ∧ (am_F ci j).1 = q.1.cls)) (ht : am_tk (am_ty ci j) = 2) (hk : k < S.1) (hc : S.2.1 k = (0, ci)) (h : am_WP X d y (pc + 3) ls st (S.1, S.2.1, am_u S.2.2 k j o) M L bc bs K) : am_WP X d y pc ls (am_pv o :: .ref k :: st) S M L bc bs K := by
  refine r_put (S' := (S.1, S.2.1, am_u S.2.2 k j o)) ha hw hj hf hk hc rfl rfl (fun h1 h9 => ?_) (fun G ad _ => ?_) (fun i hi => ⟨am_u_row hi, rfl, rfl⟩) (fun i hi => ⟨rfl, rfl, am_u_ne (fun q => hi q.2)⟩) h
  · intro a b r ha1 hb1 hr
    have hr : am_u S.2.2 k j o a b = some r := hr
    by_cases e : a = k ∧ b = j
    · simp [am_u, e] at hr
      subst hr
      exact h1
    · rw [am_u_ne e] at hr
      exact h9 a b r ha1 hb1 hr
  · rw [ht, am_pv_mv]
    refine ⟨by show va_rf (o.map ad) = va_rf ((am_u S.2.2 k j o k j).map ad); rw [am_u_same], ?_⟩
    exact am_narrow_ref ht (by cases o with | none => exact Or.inl rfl | some r => exact Or.inr ⟨_, rfl⟩)
theorem r_iald {k n : Nat} {i : Int32} (ha : am_at y pc .iaload 1) (hk : k < S.1) (hc : S.2.1 k = (1, n)) (hi : vp_in i n) (h : am_WP X d y (pc + 1) ls (.int (M k i.toNatClampNeg) :: st) S M L bc bs K) : am_WP X d y pc ls (.int i :: .ref k :: st) S M L bc bs K :=
  am_step h (fun q p l e R s m args below meth c H locs cells slots Q G A ad lsm hq F Fo Wd Lo so rm kk => va_iald F.1 F.2.1 Fo.1 Wd.1 k 0 (by rw [am_ws_get hk, am_ce_arr hc (by decide)]; rfl) rfl hi (ha q hq) (kk (am_oc trivial (am_ot (am_ot so)))))
theorem r_bald {k n : Nat} {i : Int32} (ha : am_at y pc .baload 1) (hk : k < S.1) (hc : S.2.1 k = (2, n)) (hi : vp_in i n) (h : am_WP X d y (pc + 1) ls (.int (M k i.toNatClampNeg) :: st) S M L bc bs K) : am_WP X d y pc ls (.int i :: .ref k :: st) S M L bc bs K :=
  am_step h (fun q p l e R s m args below meth c H locs cells slots Q G A ad lsm hq F Fo Wd Lo so rm kk => va_bald F.1 F.2.1 Fo.1 Wd.1 k 1 (by rw [am_ws_get hk, am_ce_arr hc (by decide)]; rfl) rfl hi (ha q hq) (kk (am_oc trivial (am_ot (am_ot so)))))
theorem r_zald {k n : Nat} {i : Int32} (ha : am_at y pc .baload 1) (hk : k < S.1) (hc : S.2.1 k = (3, n)) (hi : vp_in i n) (h : am_WP X d y (pc + 1) ls (.int (M k i.toNatClampNeg) :: st) S M L bc bs K) : am_WP X d y pc ls (.int i :: .ref k :: st) S M L bc bs K :=
  am_step h (fun q p l e R s m args below meth c H locs cells slots Q G A ad lsm hq F Fo Wd Lo so rm kk => va_zald F.1 F.2.1 Fo.1 Wd.1 k 2 (by rw [am_ws_get hk, am_ce_arr hc (by decide)]; rfl) rfl hi (ha q hq) (kk (am_oc trivial (am_ot (am_ot so)))))
theorem r_lald {k n : Nat} {i : Int32} (ha : am_at y pc .laload 1) (hk : k < S.1) (hc : S.2.1 k = (4, n)) (hi : vp_in i n) (h : am_WP X d y (pc + 1) ls (.long (L k i.toNatClampNeg) :: st) S M L bc bs K) : am_WP X d y pc ls (.int i :: .ref k :: st) S M L bc bs K :=
  am_step h (fun q p l e R s m args below meth c H locs cells slots Q G A ad lsm hq F Fo Wd Lo so rm kk => va_lald F.1 F.2.1 Fo.1 Wd.1 k 3 (by rw [am_ws_get hk, am_ce_arr hc (by decide)]; rfl) rfl hi (ha q hq) (kk (am_oc trivial (am_ot (am_ot so)))))
theorem r_iast {k n : Nat} {i x : Int32} (ha : am_at y pc .iastore 1) (hk : k < S.1) (hc : S.2.1 k = (1, n)) (hi : vp_in i n) (h : am_WP X d y (pc + 1) ls st S (am_u M k i.toNatClampNeg x) L bc bs K) : am_WP X d y pc ls (.int x :: .int i :: .ref k :: st) S M L bc bs K :=
  am_stepM h rfl (fun q p l e R s m args below meth c H locs cells slots Q G A ad lsm hq F Fo Wd Lo so rm kk => va_iast F.1 F.2.1 Fo.1 Wd.1 Wd.2.1 Wd.2.2.1 k 0 (by rw [am_ws_get hk, am_ce_arr hc (by decide)]; rfl) rfl hi (ha q hq) (fun H1 locs1 hP hD hS =>
    kk H1 locs1 (am_ot (am_ot (am_ot so))) (am_Wd.put (S := S) (M := M) (L := L) (k := k) rfl rfl (by rw [am_ce_arr hc (by decide), ← am_u_upd]; rfl) (fun i hi => ⟨rfl, am_u_row hi, rfl⟩) Wd.2.2.2 hP hD hS)))
theorem r_bast {k n : Nat} {i x : Int32} (ha : am_at y pc .bastore 1) (hk : k < S.1) (hc : S.2.1 k = (2, n)) (hi : vp_in i n) (h : am_WP X d y (pc + 1) ls st S (am_u M k i.toNatClampNeg (vp_nar .byte x)) L bc bs K) : am_WP X d y pc ls (.int x :: .int i :: .ref k :: st) S M L bc bs K :=
  am_stepM h rfl (fun q p l e R s m args below meth c H locs cells slots Q G A ad lsm hq F Fo Wd Lo so rm kk => va_bast F.1 F.2.1 Fo.1 Wd.1 Wd.2.1 Wd.2.2.1 k 1 (by rw [am_ws_get hk, am_ce_arr hc (by decide)]; rfl) rfl hi (ha q hq) (fun H1 locs1 hP hD hS =>
    kk H1 locs1 (am_ot (am_ot (am_ot so))) (am_Wd.put (S := S) (M := M) (L := L) (k := k) rfl rfl (by rw [am_ce_arr hc (by decide), ← am_u_upd]; rfl) (fun i hi => ⟨rfl, am_u_row hi, rfl⟩) Wd.2.2.2 hP hD hS)))
theorem r_zast {k n : Nat} {i x : Int32} (ha : am_at y pc .bastore 1) (hk : k < S.1) (hc : S.2.1 k = (3, n)) (hi : vp_in i n) (h : am_WP X d y (pc + 1) ls st S (am_u M k i.toNatClampNeg (vp_nar .boolean x)) L bc bs K) : am_WP X d y pc ls (.int x :: .int i :: .ref k :: st) S M L bc bs K :=
  am_stepM h rfl (fun q p l e R s m args below meth c H locs cells slots Q G A ad lsm hq F Fo Wd Lo so rm kk => va_zast F.1 F.2.1 Fo.1 Wd.1 Wd.2.1 Wd.2.2.1 k 2 (by rw [am_ws_get hk, am_ce_arr hc (by decide)]; rfl) rfl hi (ha q hq) (fun H1 locs1 hP hD hS =>
    kk H1 locs1 (am_ot (am_ot (am_ot so))) (am_Wd.put (S := S) (M := M) (L := L) (k := k) rfl rfl (by rw [am_ce_arr hc (by decide), ← am_u_upd]; rfl) (fun i hi => ⟨rfl, am_u_row hi, rfl⟩) Wd.2.2.2 hP hD hS)))
theorem am_uL_upd {L : am_L} {k i : Nat} {x : Int64} : am_u L k i x k = vp_updL (L k) i x := by
  funext b
  by_cases e : b = i
  · subst e; simp [am_u, vp_updL]
  · simp [am_u, vp_updL, e]
theorem r_last {k n : Nat} {i : Int32} {x : Int64} (ha : am_at y pc .lastore 1) (hk : k < S.1) (hc : S.2.1 k = (4, n)) (hi : vp_in i n) (h : am_WP X d y (pc + 1) ls st S M (am_u L k i.toNatClampNeg x) bc bs K) : am_WP X d y pc ls (.long x :: .int i :: .ref k :: st) S M L bc bs K :=
  am_stepM h rfl (fun q p l e R s m args below meth c H locs cells slots Q G A ad lsm hq F Fo Wd Lo so rm kk => va_last F.1 F.2.1 Fo.1 Wd.1 Wd.2.1 Wd.2.2.1 k 3 (by rw [am_ws_get hk, am_ce_arr hc (by decide)]; rfl) rfl hi (ha q hq) (fun H1 locs1 hP hD hS =>
    kk H1 locs1 (am_ot (am_ot (am_ot so))) (am_Wd.put (S := S) (M := M) (L := L) (k := k) rfl rfl (by rw [am_ce_arr hc (by decide), ← am_uL_upd]; rfl) (fun i hi => ⟨rfl, rfl, am_u_row hi⟩) Wd.2.2.2 hP hD hS)))
theorem r_aalen {k t n : Nat} (ha : am_at y pc .arraylength 1) (hk : k < S.1) (hc : S.2.1 k = (t, n)) (ht : t = 1 ∨ t = 2 ∨ t = 3 ∨ t = 4 ∨ t = 5 ∨ t = 6 ∨ t = 7) (h : am_WP X d y (pc + 1) ls (.int (Int32.ofNat n) :: st) S M L bc bs K) : am_WP X d y pc ls (.ref k :: st) S M L bc bs K := by
  refine am_step h (fun q p l e R s m args below meth c H locs cells slots Q G A ad lsm hq F Fo Wd Lo so rm kk => ?_)
  have kk := kk (am_oc trivial (am_ot so))
  have he : (am_ws G ad S M L)[k]? = some (ad k, .inl (G.2.1 t, n, am_ar G ad S M L k t)) := by rw [am_ws_get hk, am_ce_arr hc (by omega)]
  rcases ht with rfl | rfl | rfl | rfl | rfl | rfl | rfl
  · exact va_alen F.1 F.2.1 Fo.1 Wd.1 k 0 he rfl rfl (ha q hq) kk
  · exact va_alen F.1 F.2.1 Fo.1 Wd.1 k 1 he rfl rfl (ha q hq) kk
  · exact va_alen F.1 F.2.1 Fo.1 Wd.1 k 2 he rfl rfl (ha q hq) kk
  · exact va_alen F.1 F.2.1 Fo.1 Wd.1 k 3 he rfl rfl (ha q hq) kk
  · exact va_alen F.1 F.2.1 Fo.1 Wd.1 k 4 he rfl rfl (ha q hq) kk
  · exact va_alen F.1 F.2.1 Fo.1 Wd.1 k 5 he rfl rfl (ha q hq) kk
  · exact va_alen F.1 F.2.1 Fo.1 Wd.1 k 6 he rfl rfl (ha q hq) kk
theorem r_aaldL {k n : Nat} {i : Int32} (ha : am_at y pc .aaload 1) (hk : k < S.1) (hc : S.2.1 k = (7, n)) (hi : vp_in i n) (h : am_WP X d y (pc + 1) ls (am_pv (S.2.2 k i.toNatClampNeg) :: st) S M L bc bs K) : am_WP X d y pc ls (.int i :: .ref k :: st) S M L bc bs K := by
  refine am_step h (fun q p l e R s m args below meth c H locs cells slots Q G A ad lsm hq F Fo Wd Lo so rm kk => ?_)
  have kk := kk (am_oc (by
    cases hp : S.2.2 k i.toNatClampNeg with
    | none => trivial
    | some r0 => exact Wd.2.2.2 k _ r0 hk (by rw [hc]; show (7 : Nat) ≠ 5; decide) hp) (am_ot (am_ot so)))
  rw [List.map_cons, am_pv_mv] at kk
  exact va_aldq F.1 F.2.1 Fo.1 Wd.1 k 6 (by rw [am_ws_get hk, am_ce_arr hc (by decide)]; rfl) rfl hi (ha q hq) kk
theorem r_aaldS {k n r : Nat} {i : Int32} (ha : am_at y pc .aaload 1) (hk : k < S.1) (hc : S.2.1 k = (5, n)) (hi : vp_in i n) (hp : S.2.2 k i.toNatClampNeg = some r) (hr : r ≠ 3) (h : am_WP X d y (pc + 1) ls (.retAddr r :: st) S M L bc bs K) : am_WP X d y pc ls (.int i :: .ref k :: st) S M L bc bs K := by
  refine am_step h (fun q p l e R s m args below meth c H locs cells slots Q G A ad lsm hq F Fo Wd Lo so rm kk => ?_)
  have kk := kk (am_oc trivial (am_ot (am_ot so)))
  rw [List.map_cons, am_mv_for hr] at kk
  refine va_aldq F.1 F.2.1 Fo.1 Wd.1 k 4 (f := fun j => (S.2.2 k j).map G.2.2.1) (by rw [am_ws_get hk, am_ce_arr hc (by decide)]; rfl) rfl hi (ha q hq) ?_
  rw [hp]
  exact kk
theorem r_aaldI {k n : Nat} {i : Int32} (ha : am_at y pc .aaload 1) (hk : k < S.1) (hc : S.2.1 k = (6, n)) (hi : vp_in i n) (h : am_WP X d y (pc + 1) ls (am_pv (S.2.2 k i.toNatClampNeg) :: st) S M L bc bs K) : am_WP X d y pc ls (.int i :: .ref k :: st) S M L bc bs K := by
  refine am_step h (fun q p l e R s m args below meth c H locs cells slots Q G A ad lsm hq F Fo Wd Lo so rm kk => ?_)
  have kk := kk (am_oc (by
    cases hp : S.2.2 k i.toNatClampNeg with
    | none => trivial
    | some r0 => exact Wd.2.2.2 k _ r0 hk (by rw [hc]; show (6 : Nat) ≠ 5; decide) hp) (am_ot (am_ot so)))
  rw [List.map_cons, am_pv_mv] at kk
  have hlt : i.toNatClampNeg < n := Nat.not_le.mp fun q => hi (Or.inr q)
  have he : (am_ws G ad S M L)[k]? = some (ad k, .inl (G.2.1 6, n, .inr (.inr (.inr (.inr (fun j => (S.2.2 k j).map ad)))))) := by rw [am_ws_get hk, am_ce_arr hc (by decide)]; rfl
  exact W.aald (v := va_rf ((S.2.2 k i.toNatClampNeg).map ad)) (ty := .array .int) F.1 F.2.1 (Wd.1 k _ he) ((Fo.1.2 5 _ rfl).1 n (fun j => va_rf ((S.2.2 k j).map ad))) rfl (fun q => by cases q) (by show ¬ (i < 0 ∨ (arrV _ _ _).slots.size ≤ _); rw [arrV_size]; exact hi) (by show (arrV _ _ _).slots[_]? = _; rw [arrV_read _ _ hlt]) rfl rfl (ha q hq) kk
theorem r_aastL {k n r : Nat} {i : Int32} (ha : am_at y pc .aastore 1) (hk : k < S.1) (hc : S.2.1 k = (7, n)) (hr : r < S.1) (hcr : S.2.1 r = (0, 3)) (hi : vp_in i n) (h : am_WP X d y (pc + 1) ls st (S.1, S.2.1, am_u S.2.2 k i.toNatClampNeg (some r)) M L bc bs K) : am_WP X d y pc ls (.ref r :: .int i :: .ref k :: st) S M L bc bs K := by
  refine am_stepM h rfl (fun q p l e R s m args below meth c H locs cells slots Q G A ad lsm hq F Fo Wd Lo so rm kk => ?_)
  refine va_astq F.1 F.2.1 Fo.1 Wd.1 Wd.2.1 Wd.2.2.1 k 6 r 3 (r := (RX3, TX3, am_nf 3)) (f := fun j => (S.2.2 k j).map ad) (by rw [am_ws_get hk, am_ce_arr hc (by decide)]; rfl) rfl (by rw [am_ws_get hr, am_ce_obj hcr]) rfl hi (ha q hq) (fun H1 locs1 hP hD hS => ?_)
  refine kk H1 locs1 (am_ot (am_ot (am_ot so))) (am_Wd.put (S := S) (M := M) (L := L) (k := k) rfl rfl ?_ (fun i hi => ⟨am_u_row hi, rfl, rfl⟩) ?_ hP hD hS)
  · rw [am_ce_arr (S := (S.1, S.2.1, am_u S.2.2 k i.toNatClampNeg (some r))) (t := 7) (n := n) hc (by decide)]
    have e9 : va_up (fun j => (S.2.2 k j).map ad) i.toNatClampNeg (some (ad r)) = fun j => (am_u S.2.2 k i.toNatClampNeg (some r) k j).map ad := by
      funext j
      by_cases e : j = i.toNatClampNeg
      · simp [va_up, am_u, e]
      · simp [va_up, am_u, e]
    rw [e9]
    rfl
  · intro a b r1 ha1 hb1 hr1
    have hr1 : am_u S.2.2 k i.toNatClampNeg (some r) a b = some r1 := hr1
    by_cases e : a = k ∧ b = i.toNatClampNeg
    · simp [am_u, e] at hr1
      subst hr1
      exact hr
    · rw [am_u_ne e] at hr1
      exact Wd.2.2.2 a b r1 ha1 hb1 hr1
theorem r_aastS {k n r : Nat} {i : Int32} (ha : am_at y pc .aastore 1) (hk : k < S.1) (hc : S.2.1 k = (5, n)) (hr : r < 17) (hi : vp_in i n) (h : am_WP X d y (pc + 1) ls st (S.1, S.2.1, am_u S.2.2 k i.toNatClampNeg (some (10 + r))) M L bc bs K) : am_WP X d y pc ls (.retAddr (10 + r) :: .int i :: .ref k :: st) S M L bc bs K := by
  refine am_stepM h rfl (fun q p l e R s m args below meth c H locs cells slots Q G A ad lsm hq F Fo Wd Lo so rm kk => ?_)
  rw [List.map_cons, am_mv_for (by omega)]
  obtain ⟨cell, c1, c2, c3⟩ := vk_recv Fo.2.2.2.2.2.2.1 hr Wd.2.2.1
  have hany : va_Any "java/lang/String" s H (G.2.2.1 (10 + r)) := ⟨cell, c1, c2, Vm.classAt_of_findClass c3, fun comp hc9 => by rw [c3] at hc9; cases hc9; exact va_asg _ _⟩
  refine va_astqM (v := G.2.2.1 (10 + r)) (E := "java/lang/String") F.1 F.2.1 Fo.1 Wd.1 Wd.2.1 Wd.2.2.1 k 4 (f := fun j => (S.2.2 k j).map G.2.2.1) (by rw [am_ws_get hk, am_ce_arr hc (by decide)]; rfl) rfl hany hi (ha q hq) (fun H1 locs1 hP hD hS => ?_)
  refine kk H1 locs1 (am_ot (am_ot (am_ot so))) (am_Wd.put (S := S) (M := M) (L := L) (k := k) rfl rfl ?_ (fun i hi => ⟨am_u_row hi, rfl, rfl⟩) ?_ hP hD hS)
  · rw [am_ce_arr (S := (S.1, S.2.1, am_u S.2.2 k i.toNatClampNeg (some (10 + r)))) (t := 5) (n := n) hc (by decide)]
    have e9 : va_up (fun j => (S.2.2 k j).map G.2.2.1) i.toNatClampNeg (some (G.2.2.1 (10 + r))) = fun j => (am_u S.2.2 k i.toNatClampNeg (some (10 + r)) k j).map G.2.2.1 := by
      funext j
      by_cases e : j = i.toNatClampNeg
      · simp [va_up, am_u, e]
      · simp [va_up, am_u, e]
    rw [e9]
    rfl
  · intro a b r1 ha1 hb1 hr1
    have hr1 : am_u S.2.2 k i.toNatClampNeg (some (10 + r)) a b = some r1 := hr1
    have e : ¬ (a = k ∧ b = i.toNatClampNeg) := fun e => hb1 (by rw [e.1]; show (S.2.1 k).1 = 5; rw [hc])
    rw [am_u_ne e] at hr1
    exact Wd.2.2.2 a b r1 ha1 hb1 hr1
theorem r_newI {n : Int32} {N : Nat} (ha : am_at y pc (.newarray .int) 2) (hw : Cond.arrayClass .int ∈ am_gt) (hn : ¬ n < 0) (hN : n.toNatClampNeg = N) (hb : N ≤ 67108864) (h1 : 1 ≤ bc) (h2 : N ≤ bs) (h : am_WP X d y (pc + 2) ls (.ref S.1 :: st) (am_nS S 1 N) (am_nM S M) (am_nL S L) (bc - 1) (bs - N) K) : am_WP X d y pc ls (.int n :: st) S M L bc bs K := by
  refine am_stepN h h1 h2 (fun q p l e R s m args below meth c H locs cells slots Q G A ad lsm hq F Fo Wd Lo so rm kk => ?_)
  refine va_newa (atype := .int) (ty := .int) (a0 := (N, .inl (fun _ => 0))) F.1 F.2.1 (F.2.2.2.2.2.1 _ hw) rfl Fo.1 Wd.1 Wd.2.1 Wd.2.2.1 Fo.2.1 (fun _ => rfl) hn hN (by show N * 4 ≤ 536870912; omega) rm.1 rm.2 (ha q hq) (fun q1 cA H1 hK hP hD hS => ?_)
  have hcA : cA = G.2.1 1 := by
    have e1 := (hK.2 7 _ rfl).2
    have e2 := (Fo.1.2 0 _ rfl).2
    exact Option.some.inj (e1.symm.trans e2)
  subst hcA
  have kk := kk H1 locs (am_na ad S.1 q1) am_na_ext (am_oc (by show S.1 < S.1 + 1; omega) (fun v hv => am_ok_mono (am_ot so v hv) (Nat.le_succ _))) (am_Wd.push (t := 1) (n := N) Wd.2.2.2 (by rw [am_ce_arr (S := am_nS S 1 N) (t := 1) (n := N) (by simp [am_nS]) (by decide)]; simp [am_ar, am_nM, am_nL, am_r_same]) hP hD hS)
  have e3 : List.map (am_mv G (am_na ad S.1 q1)) (.ref S.1 :: st) = .ref q1 :: st.map (am_mv G ad) := by
    rw [List.map_cons, am_mv_ref]
    congr 1
    · simp [am_na]
    · exact List.map_congr_left (fun v hv => am_mv_ext (am_ot so v hv) (am_na_ext (S := S) (t := 0) (n := 0)).2)
  rw [e3] at kk
  exact kk
theorem r_newB {n : Int32} {N : Nat} (ha : am_at y pc (.newarray .byte) 2) (hw : Cond.arrayClass .byte ∈ am_gt) (hn : ¬ n < 0) (hN : n.toNatClampNeg = N) (hb : N ≤ 67108864) (h1 : 1 ≤ bc) (h2 : N ≤ bs) (h : am_WP X d y (pc + 2) ls (.ref S.1 :: st) (am_nS S 2 N) (am_nM S M) (am_nL S L) (bc - 1) (bs - N) K) : am_WP X d y pc ls (.int n :: st) S M L bc bs K := by
  refine am_stepN h h1 h2 (fun q p l e R s m args below meth c H locs cells slots Q G A ad lsm hq F Fo Wd Lo so rm kk => ?_)
  refine va_newa (atype := .byte) (ty := .byte) (a0 := (N, .inl (fun _ => 0))) F.1 F.2.1 (F.2.2.2.2.2.1 _ hw) rfl Fo.1 Wd.1 Wd.2.1 Wd.2.2.1 Fo.2.1 (fun _ => rfl) hn hN (by show N * 1 ≤ 536870912; omega) rm.1 rm.2 (ha q hq) (fun q1 cA H1 hK hP hD hS => ?_)
  have hcA : cA = G.2.1 2 := by
    have e1 := (hK.2 7 _ rfl).2
    have e2 := (Fo.1.2 1 _ rfl).2
    exact Option.some.inj (e1.symm.trans e2)
  subst hcA
  have kk := kk H1 locs (am_na ad S.1 q1) am_na_ext (am_oc (by show S.1 < S.1 + 1; omega) (fun v hv => am_ok_mono (am_ot so v hv) (Nat.le_succ _))) (am_Wd.push (t := 2) (n := N) Wd.2.2.2 (by rw [am_ce_arr (S := am_nS S 2 N) (t := 2) (n := N) (by simp [am_nS]) (by decide)]; simp [am_ar, am_nM, am_nL, am_r_same]) hP hD hS)
  have e3 : List.map (am_mv G (am_na ad S.1 q1)) (.ref S.1 :: st) = .ref q1 :: st.map (am_mv G ad) := by
    rw [List.map_cons, am_mv_ref]
    congr 1
    · simp [am_na]
    · exact List.map_congr_left (fun v hv => am_mv_ext (am_ot so v hv) (am_na_ext (S := S) (t := 0) (n := 0)).2)
  rw [e3] at kk
  exact kk
theorem r_newZ {n : Int32} {N : Nat} (ha : am_at y pc (.newarray .boolean) 2) (hw : Cond.arrayClass .boolean ∈ am_gt) (hn : ¬ n < 0) (hN : n.toNatClampNeg = N) (hb : N ≤ 67108864) (h1 : 1 ≤ bc) (h2 : N ≤ bs) (h : am_WP X d y (pc + 2) ls (.ref S.1 :: st) (am_nS S 3 N) (am_nM S M) (am_nL S L) (bc - 1) (bs - N) K) : am_WP X d y pc ls (.int n :: st) S M L bc bs K := by
  refine am_stepN h h1 h2 (fun q p l e R s m args below meth c H locs cells slots Q G A ad lsm hq F Fo Wd Lo so rm kk => ?_)
  refine va_newa (atype := .boolean) (ty := .boolean) (a0 := (N, .inl (fun _ => 0))) F.1 F.2.1 (F.2.2.2.2.2.1 _ hw) rfl Fo.1 Wd.1 Wd.2.1 Wd.2.2.1 Fo.2.1 (fun _ => rfl) hn hN (by show N * 1 ≤ 536870912; omega) rm.1 rm.2 (ha q hq) (fun q1 cA H1 hK hP hD hS => ?_)
  have hcA : cA = G.2.1 3 := by
    have e1 := (hK.2 7 _ rfl).2
    have e2 := (Fo.1.2 2 _ rfl).2
    exact Option.some.inj (e1.symm.trans e2)
  subst hcA
  have kk := kk H1 locs (am_na ad S.1 q1) am_na_ext (am_oc (by show S.1 < S.1 + 1; omega) (fun v hv => am_ok_mono (am_ot so v hv) (Nat.le_succ _))) (am_Wd.push (t := 3) (n := N) Wd.2.2.2 (by rw [am_ce_arr (S := am_nS S 3 N) (t := 3) (n := N) (by simp [am_nS]) (by decide)]; simp [am_ar, am_nM, am_nL, am_r_same]) hP hD hS)
  have e3 : List.map (am_mv G (am_na ad S.1 q1)) (.ref S.1 :: st) = .ref q1 :: st.map (am_mv G ad) := by
    rw [List.map_cons, am_mv_ref]
    congr 1
    · simp [am_na]
    · exact List.map_congr_left (fun v hv => am_mv_ext (am_ot so v hv) (am_na_ext (S := S) (t := 0) (n := 0)).2)
  rw [e3] at kk
  exact kk
theorem r_newJ {n : Int32} {N : Nat} (ha : am_at y pc (.newarray .long) 2) (hw : Cond.arrayClass .long ∈ am_gt) (hn : ¬ n < 0) (hN : n.toNatClampNeg = N) (hb : N ≤ 67108864) (h1 : 1 ≤ bc) (h2 : N ≤ bs) (h : am_WP X d y (pc + 2) ls (.ref S.1 :: st) (am_nS S 4 N) (am_nM S M) (am_nL S L) (bc - 1) (bs - N) K) : am_WP X d y pc ls (.int n :: st) S M L bc bs K := by
  refine am_stepN h h1 h2 (fun q p l e R s m args below meth c H locs cells slots Q G A ad lsm hq F Fo Wd Lo so rm kk => ?_)
  refine va_newa (atype := .long) (ty := .long) (a0 := (N, .inr (.inl (fun _ => 0)))) F.1 F.2.1 (F.2.2.2.2.2.1 _ hw) rfl Fo.1 Wd.1 Wd.2.1 Wd.2.2.1 Fo.2.1 (fun _ => rfl) hn hN (by show N * 8 ≤ 536870912; omega) rm.1 rm.2 (ha q hq) (fun q1 cA H1 hK hP hD hS => ?_)
  have hcA : cA = G.2.1 4 := by
    have e1 := (hK.2 7 _ rfl).2
    have e2 := (Fo.1.2 3 _ rfl).2
    exact Option.some.inj (e1.symm.trans e2)
  subst hcA
  have kk := kk H1 locs (am_na ad S.1 q1) am_na_ext (am_oc (by show S.1 < S.1 + 1; omega) (fun v hv => am_ok_mono (am_ot so v hv) (Nat.le_succ _))) (am_Wd.push (t := 4) (n := N) Wd.2.2.2 (by rw [am_ce_arr (S := am_nS S 4 N) (t := 4) (n := N) (by simp [am_nS]) (by decide)]; simp [am_ar, am_nM, am_nL, am_r_same]) hP hD hS)
  have e3 : List.map (am_mv G (am_na ad S.1 q1)) (.ref S.1 :: st) = .ref q1 :: st.map (am_mv G ad) := by
    rw [List.map_cons, am_mv_ref]
    congr 1
    · simp [am_na]
    · exact List.map_congr_left (fun v hv => am_mv_ext (am_ot so v hv) (am_na_ext (S := S) (t := 0) (n := 0)).2)
  rw [e3] at kk
  exact kk
theorem r_newS {idx : Nat} {n : Int32} {N : Nat} (ha : am_at y pc (.anewarray idx) 3) (hl : ∀ q, am_mt[y]? = some q → Cond.classLink q.1.cls idx "java/lang/String" ∈ am_gt) (hn : ¬ n < 0) (hN : n.toNatClampNeg = N) (hb : N ≤ 67108864) (h1 : 1 ≤ bc) (h2 : N ≤ bs) (h : am_WP X d y (pc + 3) ls (.ref S.1 :: st) (am_nS S 5 N) (am_nM S M) (am_nL S L) (bc - 1) (bs - N) K) : am_WP X d y pc ls (.int n :: st) S M L bc bs K := by
  refine am_stepN h h1 h2 (fun q p l e R s m args below meth c H locs cells slots Q G A ad lsm hq F Fo Wd Lo so rm kk => ?_)
  refine va_newq F.1 F.2.1 F.2.2.2.2.1 (F.2.2.2.2.2.1 _ (hl q hq)) (va_AO.of (Fo.2.2.2.2.2.2.2.2.2 _ (by decide))) Fo.1 Wd.1 Wd.2.1 Wd.2.2.1 Fo.2.1 hn hN (by omega) rm.1 rm.2 (ha q hq) (fun q1 cA H1 hK hP hD hS => ?_)
  have hcA : cA = G.2.1 5 := by
    obtain ⟨_, _, _, _, _, e1⟩ := (hK.2 7 _ rfl).2
    obtain ⟨_, _, _, _, _, e2⟩ := (Fo.1.2 4 _ rfl).2
    exact Option.some.inj (e1.symm.trans e2)
  subst hcA
  have kk := kk H1 locs (am_na ad S.1 q1) am_na_ext (am_oc (by show S.1 < S.1 + 1; omega) (fun v hv => am_ok_mono (am_ot so v hv) (Nat.le_succ _))) (am_Wd.push (t := 5) (n := N) Wd.2.2.2 (by rw [am_ce_arr (S := am_nS S 5 N) (t := 5) (n := N) (by simp [am_nS]) (by decide)]; simp [am_ar, am_nM, am_nL, am_nS, am_r_same]) hP hD hS)
  have e3 : List.map (am_mv G (am_na ad S.1 q1)) (.ref S.1 :: st) = .ref q1 :: st.map (am_mv G ad) := by
    rw [List.map_cons, am_mv_ref]
    congr 1
    · simp [am_na]
    · exact List.map_congr_left (fun v hv => am_mv_ext (am_ot so v hv) (am_na_ext (S := S) (t := 0) (n := 0)).2)
  rw [e3] at kk
  exact kk
theorem r_newQ {idx : Nat} {n : Int32} {N : Nat} (ha : am_at y pc (.anewarray idx) 3) (hl : ∀ q, am_mt[y]? = some q → Cond.classLink q.1.cls idx "LookTimes$Lab" ∈ am_gt) (hn : ¬ n < 0) (hN : n.toNatClampNeg = N) (hb : N ≤ 67108864) (h1 : 1 ≤ bc) (h2 : N ≤ bs) (h : am_WP X d y (pc + 3) ls (.ref S.1 :: st) (am_nS S 7 N) (am_nM S M) (am_nL S L) (bc - 1) (bs - N) K) : am_WP X d y pc ls (.int n :: st) S M L bc bs K := by
  refine am_stepN h h1 h2 (fun q p l e R s m args below meth c H locs cells slots Q G A ad lsm hq F Fo Wd Lo so rm kk => ?_)
  refine va_newq F.1 F.2.1 F.2.2.2.2.1 (F.2.2.2.2.2.1 _ (hl q hq)) (va_AO.of (Fo.2.2.2.2.2.2.2.2.2 _ (by decide))) Fo.1 Wd.1 Wd.2.1 Wd.2.2.1 Fo.2.1 hn hN (by omega) rm.1 rm.2 (ha q hq) (fun q1 cA H1 hK hP hD hS => ?_)
  have hcA : cA = G.2.1 7 := by
    obtain ⟨_, _, _, _, _, e1⟩ := (hK.2 7 _ rfl).2
    obtain ⟨_, _, _, _, _, e2⟩ := (Fo.1.2 6 _ rfl).2
    exact Option.some.inj (e1.symm.trans e2)
  subst hcA
  have kk := kk H1 locs (am_na ad S.1 q1) am_na_ext (am_oc (by show S.1 < S.1 + 1; omega) (fun v hv => am_ok_mono (am_ot so v hv) (Nat.le_succ _))) (am_Wd.push (t := 7) (n := N) Wd.2.2.2 (by rw [am_ce_arr (S := am_nS S 7 N) (t := 7) (n := N) (by simp [am_nS]) (by decide)]; simp [am_ar, am_nM, am_nL, am_nS, am_r_same]) hP hD hS)
  have e3 : List.map (am_mv G (am_na ad S.1 q1)) (.ref S.1 :: st) = .ref q1 :: st.map (am_mv G ad) := by
    rw [List.map_cons, am_mv_ref]
    congr 1
    · simp [am_na]
    · exact List.map_congr_left (fun v hv => am_mv_ext (am_ot so v hv) (am_na_ext (S := S) (t := 0) (n := 0)).2)
  rw [e3] at kk
  exact kk
theorem am_nt : ∀ ci, ci < 13 → ∀ j, j < 64 → am_ty ci j ≠ .float ∧ am_ty ci j ≠ .double := by decide +kernel
theorem r_new {idx ci : Nat} {r : vw_C} (ha : am_at y pc (.new idx) 3) (hr : vwCl[ci]? = some r) (hl : ∀ q, am_mt[y]? = some q → Cond.classLink q.1.cls idx r.1 ∈ am_gt) (hw : Cond.instantiable r.1 r.2.2 ∈ am_gt) (hw2 : Cond.initialized r.1 ∈ am_gt) (hr2 : r.2.2 ≤ 64) (h1 : 1 ≤ bc) (h2 : r.2.2 ≤ bs) (h : am_WP X d y (pc + 3) ls (.ref S.1 :: st) (am_nS S 0 ci) (am_nM S M) (am_nL S L) (bc - 1) (bs - r.2.2) K) : am_WP X d y pc ls st S M L bc bs K := by
  refine am_stepN h h1 h2 (fun q p l e R s m args below meth c H locs cells slots Q G A ad lsm hq F Fo Wd Lo so rm kk => ?_)
  obtain ⟨g1, g2, g3⟩ := am_cls ci r hr
  have hnf : am_nf ci = r.2.2 := by unfold am_nf; rw [List.getD_eq_getElem?_getD, hr]; rfl
  refine va_new (fs := am_fs (am_na ad S.1 0) (am_nS S 0 ci).2.2 (am_nM S M) (am_nL S L) S.1 ci) F.1 F.2.1 F.2.2.2.2.2.1 g1 (am_ty ci) g2 F.2.2.2.2.1 (F.2.2.2.2.2.1 _ (hl q hq)) (F.2.2.2.2.2.1 _ hw) (F.2.2.2.2.2.1 _ hw2) Fo.1 Wd.1 Wd.2.1 Wd.2.2.1 Fo.2.1 hr (fun j hj => ?_) rm.1 rm.2 (ha q hq) (fun q1 H1 hP hD hS => ?_)
  · unfold vp_V
    rw [List.getD_eq_getElem?_getD, am_fs_get (by rw [hnf]; exact hj)]
    simp only [am_fv, am_nM, am_nL, am_nS, am_r_same, Option.getD_some]
    have n9 := am_nt ci (List.getElem?_eq_some_iff.mp hr).1 j (Nat.lt_of_lt_of_le hj hr2)
    cases h9 : am_ty ci j <;> first | exact absurd h9 n9.1 | exact absurd h9 n9.2 | rfl
  · have kk := kk H1 locs (am_na ad S.1 q1) am_na_ext (am_oc (by show S.1 < S.1 + 1; omega) (fun v hv => am_ok_mono (so v hv) (Nat.le_succ _))) (am_Wd.push (t := 0) (n := ci) Wd.2.2.2 (by
      rw [am_ce_obj (S := am_nS S 0 ci) (ci := ci) (by simp [am_nS])]
      congr 2
      unfold am_fs
      apply List.map_congr_left
      intro j _
      simp [am_fv, am_nM, am_nL, am_nS, am_r_same]) hP hD hS)
    have e3 : List.map (am_mv G (am_na ad S.1 q1)) (.ref S.1 :: st) = .ref q1 :: st.map (am_mv G ad) := by
      rw [List.map_cons, am_mv_ref]
      congr 1
      · simp [am_na]
      · exact List.map_congr_left (fun v hv => am_mv_ext (so v hv) (am_na_ext (S := S) (t := 0) (n := 0)).2)
    rw [e3] at kk
    exact kk
theorem r_sld {i : Int32} (ha : am_at y pc .iaload 1) (hi : vp_in i X.1) (h : am_WP X d y (pc + 1) ls (.int (X.2 i.toNatClampNeg) :: st) S M L bc bs K) : am_WP X d y pc ls (.int i :: .retAddr 0 :: st) S M L bc bs K :=
  am_step h (fun q p l e R s m args below meth c H locs cells slots Q G A ad lsm hq F Fo Wd Lo so rm kk => va_sld F.1 F.2.1 Fo.2.2.1.1 Fo.2.2.1.2.1 Fo.2.2.1.2.2 Wd.2.2.1 hi (ha q hq) (kk (am_oc trivial (am_ot (am_ot so)))))
theorem r_slen (ha : am_at y pc .arraylength 1) (h : am_WP X d y (pc + 1) ls (.int (Int32.ofNat X.1) :: st) S M L bc bs K) : am_WP X d y pc ls (.retAddr 0 :: st) S M L bc bs K :=
  am_step h (fun q p l e R s m args below meth c H locs cells slots Q G A ad lsm hq F Fo Wd Lo so rm kk => va_slen F.1 F.2.1 Fo.2.2.1.1 Fo.2.2.1.2.1 Fo.2.2.1.2.2 Wd.2.2.1 (ha q hq) (kk (am_oc trivial (am_ot so))))
theorem r_tld1 {i : Int32} (ha : am_at y pc .iaload 1) (hi : vp_in i 4) (h : am_WP X d y (pc + 1) ls (.int ((am_sta 1).getD i.toNatClampNeg 0) :: st) S M L bc bs K) : am_WP X d y pc ls (.int i :: .retAddr 1 :: st) S M L bc bs K :=
  am_step h (fun q p l e R s m args below meth c H locs cells slots Q G A ad lsm hq F Fo Wd Lo so rm kk => va_ti F.1 F.2.1 Fo.2.2.2.1.1 Wd.2.2.1 hi rfl (ha q hq) (kk (am_oc trivial (am_ot (am_ot so)))))
theorem r_tld2 {i : Int32} (ha : am_at y pc .iaload 1) (hi : vp_in i 3) (h : am_WP X d y (pc + 1) ls (.int ((am_sta 2).getD i.toNatClampNeg 0) :: st) S M L bc bs K) : am_WP X d y pc ls (.int i :: .retAddr 2 :: st) S M L bc bs K :=
  am_step h (fun q p l e R s m args below meth c H locs cells slots Q G A ad lsm hq F Fo Wd Lo so rm kk => va_ti F.1 F.2.1 Fo.2.2.2.1.2 Wd.2.2.1 hi rfl (ha q hq) (kk (am_oc trivial (am_ot (am_ot so)))))
theorem r_tlen1 (ha : am_at y pc .arraylength 1) (h : am_WP X d y (pc + 1) ls (.int 4 :: st) S M L bc bs K) : am_WP X d y pc ls (.retAddr 1 :: st) S M L bc bs K :=
  am_step h (fun q p l e R s m args below meth c H locs cells slots Q G A ad lsm hq F Fo Wd Lo so rm kk => va_tlen F.1 F.2.1 Fo.2.2.2.1.1 Wd.2.2.1 rfl (ha q hq) (kk (am_oc trivial (am_ot so))))
theorem r_tlen2 (ha : am_at y pc .arraylength 1) (h : am_WP X d y (pc + 1) ls (.int 3 :: st) S M L bc bs K) : am_WP X d y pc ls (.retAddr 2 :: st) S M L bc bs K :=
  am_step h (fun q p l e R s m args below meth c H locs cells slots Q G A ad lsm hq F Fo Wd Lo so rm kk => va_tlen F.1 F.2.1 Fo.2.2.2.1.2 Wd.2.2.1 rfl (ha q hq) (kk (am_oc trivial (am_ot so))))
theorem r_kld {i : Int32} {r : Nat} (hr : r < 17) (ha : am_at y pc .baload 1) (hi : vp_in i (am_lens.getD r 0)) (h : am_WP X d y (pc + 1) ls (.int ((am_byts.getD r []).getD i.toNatClampNeg 0) :: st) S M L bc bs K) : am_WP X d y pc ls (.int i :: .retAddr (40 + r) :: st) S M L bc bs K := by
  refine am_step h (fun q p l e R s m args below meth c H locs cells slots Q G A ad lsm hq F Fo Wd Lo so rm kk => ?_)
  rw [List.map_cons, List.map_cons, am_mv_for (by omega)]
  exact va_tb F.1 F.2.1 (Fo.2.2.2.2.2.2.1.1 r hr).2.2.2 Wd.2.2.1 hi rfl (ha q hq) (kk (am_oc trivial (am_ot (am_ot so))))
theorem r_klen {r : Nat} (hr : r < 17) (ha : am_at y pc .arraylength 1) (h : am_WP X d y (pc + 1) ls (.int (Int32.ofNat (am_lens.getD r 0)) :: st) S M L bc bs K) : am_WP X d y pc ls (.retAddr (40 + r) :: st) S M L bc bs K := by
  refine am_step h (fun q p l e R s m args below meth c H locs cells slots Q G A ad lsm hq F Fo Wd Lo so rm kk => ?_)
  rw [List.map_cons, am_mv_for (by omega)]
  exact va_tlen F.1 F.2.1 (Fo.2.2.2.2.2.2.1.1 r hr).2.2.2 Wd.2.2.1 rfl (ha q hq) (kk (am_oc trivial (am_ot so)))
theorem r_kcod {idx r : Nat} (hr : r < 17) (ha : am_at y pc (.getfield idx) 3) (hw : ∀ q, am_mt[y]? = some q → Cond.fieldLink q.1.cls idx "java/lang/String" "coder" "B" ∈ am_gt) (h : am_WP X d y (pc + 3) ls (.int 0 :: st) S M L bc bs K) : am_WP X d y pc ls (.retAddr (10 + r) :: st) S M L bc bs K := by
  refine am_step h (fun q p l e R s m args below meth c H locs cells slots Q G A ad lsm hq F Fo Wd Lo so rm kk => ?_)
  rw [List.map_cons, am_mv_for (by omega)]
  exact vk_getf F.1 F.2.1 (Fo.2.2.2.2.2.2.1.1 r hr).2.1 Wd.2.2.1 F.2.2.2.2.1 (F.2.2.2.2.2.1 _ (hw q hq)) (fun _ h9 => h9) (ha q hq) (kk (am_oc trivial (am_ot so)))
theorem r_kval {idx r : Nat} (hr : r < 17) (ha : am_at y pc (.getfield idx) 3) (hw : ∀ q, am_mt[y]? = some q → Cond.fieldLink q.1.cls idx "java/lang/String" "value" "[B" ∈ am_gt) (h : am_WP X d y (pc + 3) ls (.retAddr (40 + r) :: st) S M L bc bs K) : am_WP X d y pc ls (.retAddr (10 + r) :: st) S M L bc bs K := by
  refine am_step h (fun q p l e R s m args below meth c H locs cells slots Q G A ad lsm hq F Fo Wd Lo so rm kk => ?_)
  have kk := kk (am_oc trivial (am_ot so))
  rw [List.map_cons, am_mv_for (by omega)] at kk ⊢
  exact vk_getf F.1 F.2.1 (Fo.2.2.2.2.2.2.1.1 r hr).2.2.1 Wd.2.2.1 F.2.2.2.2.1 (F.2.2.2.2.2.1 _ (hw q hq)) (fun _ h9 => h9) (ha q hq) kk
theorem r_gsC {idx : Nat} (ha : am_at y pc (.getstatic idx) 3) (hw : ∀ q, am_mt[y]? = some q → Cond.fieldLink q.1.cls idx "java/lang/String" "COMPACT_STRINGS" "Z" ∈ am_gt) (h : am_WP X d y (pc + 3) ls (.int 1 :: st) S M L bc bs K) : am_WP X d y pc ls st S M L bc bs K :=
  am_step h (fun q p l e R s m args below meth c H locs cells slots Q G A ad lsm hq F Fo Wd Lo so rm kk => va_gets F.1 F.2.1 Fo.2.2.2.2.1.2.2.1 Wd.2.2.1 F.2.2.2.2.1 (F.2.2.2.2.2.1 _ (hw q hq)) (fun _ h9 => h9) (ha q hq) (kk (am_oc trivial so)))
theorem r_gsF {idx : Nat} (ha : am_at y pc (.getstatic idx) 3) (hw : ∀ q, am_mt[y]? = some q → Cond.fieldLink q.1.cls idx "jdk/internal/util/Preconditions" "SIOOBE_FORMATTER" "Ljava/util/function/BiFunction;" ∈ am_gt) (h : am_WP X d y (pc + 3) ls (.retAddr 3 :: st) S M L bc bs K) : am_WP X d y pc ls st S M L bc bs K :=
  am_step h (fun q p l e R s m args below meth c H locs cells slots Q G A ad lsm hq F Fo Wd Lo so rm kk => va_gets F.1 F.2.1 Fo.2.2.2.2.1.2.2.2 Wd.2.2.1 F.2.2.2.2.1 (F.2.2.2.2.2.1 _ (hw q hq)) (fun _ h9 => h9) (ha q hq) (kk (am_oc trivial so)))
theorem r_gs1 {idx : Nat} (ha : am_at y pc (.getstatic idx) 3) (hw : ∀ q, am_mt[y]? = some q → Cond.fieldLinkNest q.1.cls idx "LookTimes" "AFTER_W" "[I" "LookTimes" ∈ am_nest) (h : am_WP X d y (pc + 3) ls (.retAddr 1 :: st) S M L bc bs K) : am_WP X d y pc ls st S M L bc bs K :=
  am_step h (fun q p l e R s m args below meth c H locs cells slots Q G A ad lsm hq F Fo Wd Lo so rm kk => va_getsN F.1 F.2.1 Fo.2.2.2.2.1.1 Wd.2.2.1 F.2.2.2.2.1 (va_Nw.use rfl (Fo.2.2.2.2.2.2.2.2.1 _ (hw q hq))) (fun _ h9 => h9) (ha q hq) (kk (am_oc trivial so)))
theorem r_gs2 {idx : Nat} (ha : am_at y pc (.getstatic idx) 3) (hw : ∀ q, am_mt[y]? = some q → Cond.fieldLinkNest q.1.cls idx "LookTimes" "AFTER_MOST" "[I" "LookTimes" ∈ am_nest) (h : am_WP X d y (pc + 3) ls (.retAddr 2 :: st) S M L bc bs K) : am_WP X d y pc ls st S M L bc bs K :=
  am_step h (fun q p l e R s m args below meth c H locs cells slots Q G A ad lsm hq F Fo Wd Lo so rm kk => va_getsN F.1 F.2.1 Fo.2.2.2.2.1.2.1 Wd.2.2.1 F.2.2.2.2.1 (va_Nw.use rfl (Fo.2.2.2.2.2.2.2.2.1 _ (hw q hq))) (fun _ h9 => h9) (ha q hq) (kk (am_oc trivial so)))
end R5
