def am_en : Nat → List Value → List (Option Value)
  | 0, _ => []
  | n + 1, [] => none :: am_en n []
  | 1, v :: _ => [some v]
  | n + 2, v :: vs => if v.category = 2 then some v :: none :: am_en n vs else some v :: am_en (n + 1) vs
theorem am_en_len : ∀ (n : Nat) (vs : List Value), (am_en n vs).length = n
  | 0, _ => rfl
  | n + 1, [] => by simp [am_en, am_en_len n []]
  | 1, v :: _ => by simp [am_en]
  | n + 2, v :: vs => by
    unfold am_en
    split
    · simp [am_en_len n vs]
    · simp [am_en_len (n + 1) vs]
theorem am_en_nil (n i : Nat) (v : Value) : ¬ (am_en n [])[i]? = some (some v) := by
  induction n generalizing i with
  | zero => simp [am_en]
  | succ n ih =>
    cases i with
    | zero => simp [am_en]
    | succ i => simpa [am_en] using ih i
theorem am_en_get {G : am_G} (hz : am_zok G) {ad : Nat → Nat} : ∀ (n : Nat) (vs : List Value) (off i : Nat) (v : Value), (am_en n vs)[i]? = some (some v) → (off + i, am_mv G ad v) ∈ lv_args off (vs.map (am_mv G ad)) ∧ v ∈ vs
  | 0, vs, off, i, v, h => by simp [am_en] at h
  | n + 1, [], off, i, v, h => absurd h (am_en_nil (n + 1) i v)
  | 1, w :: vs, off, i, v, h => by
    cases i with
    | zero =>
      simp [am_en] at h
      subst h
      exact ⟨by simp [lv_args], by simp⟩
    | succ i => simp [am_en] at h
  | n + 2, w :: vs, off, i, v, h => by
    unfold am_en at h
    by_cases hc : w.category = 2
    · rw [if_pos hc] at h
      cases i with
      | zero =>
        simp at h
        subst h
        exact ⟨by simp [lv_args], by simp⟩
      | succ i =>
        cases i with
        | zero => simp at h
        | succ i =>
          have h : (am_en n vs)[i]? = some (some v) := by simpa using h
          have g := am_en_get hz (ad := ad) n vs (off + 2) i v h
          refine ⟨?_, List.mem_cons_of_mem _ g.2⟩
          rw [List.map_cons, lv_args, if_pos (by rw [am_mv_cat hz]; exact hc)]
          refine List.mem_cons_of_mem _ ?_
          have e : off + (i + 1 + 1) = off + 2 + i := by omega
          rw [e]
          exact g.1
    · rw [if_neg hc] at h
      cases i with
      | zero =>
        simp at h
        subst h
        exact ⟨by simp [lv_args], by simp⟩
      | succ i =>
        have h : (am_en (n + 1) vs)[i]? = some (some v) := by simpa using h
        have g := am_en_get hz (ad := ad) (n + 1) vs (off + 1) i v h
        refine ⟨?_, List.mem_cons_of_mem _ g.2⟩
        rw [List.map_cons, lv_args, if_neg (by rw [am_mv_cat hz]; exact hc)]
        refine List.mem_cons_of_mem _ ?_
        have e : off + (i + 1) = off + 1 + i := by omega
        rw [e]
        exact g.1
theorem am_sl_len {G : am_G} (hz : am_zok G) {ad : Nat → Nat} : ∀ vs : List Value, (lg_sl (vs.map (am_mv G ad))).length = (vs.map (fun v => v.category)).sum
  | [] => rfl
  | v :: vs => by
    have h := am_sl_len hz (ad := ad) vs
    unfold lg_sl at h ⊢
    rw [List.map_cons, List.flatMap_cons, List.length_append, h, List.map_cons, List.sum_cons, am_mv_cat hz]
    rcases lv_cat v with e | e <;> rw [e] <;> rfl
/-- a call by its contract: the method's own walk from its first instruction on -/
def am_Call (X : am_X) (d y : Nat) (avs : List Value) (S : am_S) (M : am_M) (L : am_L) (K : am_K) : Prop :=
  ∃ q : am_Q, am_mt[y]? = some q ∧ (avs.map (fun v => v.category)).sum ≤ q.2.2.1 ∧ am_WP X d y 0 (am_en q.2.2.1 avs) [] S M L q.2.2.2.2.2.2.1 q.2.2.2.2.2.2.2 K
def am_Pc (X : am_X) (G : am_G) (A : Nat → Prop) (ad : Nat → Nat) (S : am_S) (M : am_M) (L : am_L) (avs : List Value) : Array Value → State → Prop :=
  va_Pc (avs.map (am_mv G ad)) (fun U => am_For X G A U U.heap ∧ va_P G.1 vwCl (am_ws G ad S M L) U.heap ∧ va_D A (am_ws G ad S M L) ∧ am_wf S)
def am_Qc (G : am_G) (A : Nat → Prop) (S : am_S) (ad : Nat → Nat) (K : am_K) : Array Value → State → Outcome → State → Prop := fun _ st oc t =>
  (∃ (r : Option Value) (S' : am_S) (M' : am_M) (L' : am_L) (ad' : Nat → Nat), oc = .returned (r.map (am_mv G ad')) ∧ K r S' M' L' ∧ va_P G.1 vwCl (am_ws G ad' S' M' L') t.heap ∧ va_D A (am_ws G ad' S' M' L') ∧ am_wf S' ∧ am_ext S ad S' ad' ∧ (∀ v, r = some v → am_ok S'.1 v)) ∧ va_F A st t
theorem am_Pc_blind {X : am_X} {G : am_G} {A : Nat → Prop} {ad : Nat → Nat} {S : am_S} {M : am_M} {L : am_L} {avs : List Value} : FrameBlind (am_Pc X G A ad S M L avs) := by
  intro a U g mk h
  obtain ⟨h0, h1, h2, h3⟩ := h
  exact ⟨h0, am_For.step (U := U.calling g mk a) h1 va_S.rf (State.WarmedH.refl U), h2, h3⟩
set_option maxHeartbeats 2000000 in
theorem am_met {X : am_X} {d y : Nat} {avs : List Value} {S : am_S} {M : am_M} {L : am_L} {K : am_K} {q : am_Q} (hq : am_mt[y]? = some q) (hm : am_mok q) (h : am_Call X d y avs S M L K) (hok : ∀ v ∈ avs, am_ok S.1 v) (l : Launch) (G : am_G) (A : Nat → Prop) (ad : Nat → Nat) :
    Met l q.1 (am_wc q :: am_gt) ({ frames := d, cells := q.2.2.2.2.2.2.1, slots := q.2.2.2.2.2.2.2, locals := 64 * d }) (am_Pc X G A ad S M L avs) (am_Qc G A S ad K) q.2.2.2.2.2.2.1 q.2.2.2.2.2.2.2 A := by
  obtain ⟨q0, hq0, hlen, hw⟩ := h
  obtain rfl : q0 = q := Option.some.inj (hq0.symm.trans hq)
  refine Met.ofW (cc := q0.2.1) (maxL := q0.2.2.1) (ret := q0.2.2.2.1) hm.2.2.2.2.1 rfl ?_
  intro p e s m args below meth c s₁ B hml hv
  obtain ⟨rfl, hFo, hP, hD, hwf⟩ := hv
  have hz := hFo.2.2.2.2.2.1
  have hts := atoms_spec (ws := am_wc q0 :: am_gt) B.pre
  have F : am_Fix q0 p s m (avs.map (am_mv G ad)).toArray meth c := ⟨B.exec, B.bytes, B.returns, hml, findClass_of_methodNamed B.named, fun w hw => hts w (List.mem_cons_of_mem _ hw), B.notSynchronized, fun h => (name_of_methodNamed B.named B.method).1.trans h⟩
  have hl := lv_entry (avs.map (am_mv G ad)) (n := q0.2.2.1) (by rw [am_sl_len hz]; exact hlen)
  rw [lg_entry_eq]
  generalize (lg_sl (avs.map (am_mv G ad)) ++ List.replicate (q0.2.2.1 - (lg_sl (avs.map (am_mv G ad))).length) Slot.unset).toArray = lsm at hl ⊢
  have Lo : am_Loc G ad S.1 q0.2.2.1 (am_en q0.2.2.1 avs) lsm := by
    refine ⟨am_en_len _ _, ⟨hl.1, hl.2.1, fun z hz9 => ?_⟩, fun i v hv => hok v (am_en_get hz (ad := ad) _ _ 0 i v hv).2⟩
    obtain ⟨v, hv, he⟩ := am_asc_mem.mp (show (z.1, z.2) ∈ _ from hz9)
    have g := (am_en_get hz (ad := ad) _ _ 0 z.1 v hv).1
    rw [Nat.zero_add, ← he] at g
    exact hl.2.2 z g
  refine hw q0 p l e _ s m _ below meth c s.heap [] 0 0 _ G A ad lsm _ _ hq F hFo ⟨hP, hD, va_S.rf, hwf⟩ Lo (fun _ h9 => by cases h9) ⟨Nat.le_refl d, Nat.le_refl (64 * d), Nat.le_of_eq (Nat.zero_add _), Nat.le_of_eq (Nat.zero_add _), Nat.le_refl _, Nat.le_refl _⟩ ?_
  intro r S' M' L' ad' H' locs' pc' ls' hK Wd' hok' hext hrt
  have fin : ∀ t : State, t.heap = H' → s.WarmedH t.vm → am_Qc G A S ad K (avs.map (am_mv G ad)).toArray s (.returned (r.map (am_mv G ad'))) t := fun t ht _ => ⟨⟨r, S', M', L', ad', rfl, hK, by rw [ht]; exact Wd'.1, Wd'.2.1, Wd'.2.2.2, hext, hok'⟩, Wd'.2.2.1.F ht⟩
  cases r with
  | none => exact W.vret F.1 F.2.1 (F.2.2.1.trans hrt.2) fin Wd'.2.2.1.2.2 hrt.1 F.2.2.2.2.2.2.1
  | some v =>
    cases v with
    | int v =>
      obtain ⟨h1, ty, h2, h3⟩ := hrt
      exact W.zret F.1 F.2.1 (F.2.2.1.trans h2) h3 fin Wd'.2.2.1.2.2 h1 F.2.2.2.2.2.2.1
    | long v => exact W.lret F.1 F.2.1 (F.2.2.1.trans hrt.2) fin Wd'.2.2.1.2.2 hrt.1 F.2.2.2.2.2.2.1
    | _ => exact hrt.elim
theorem am_after {p : Program} {l : Launch} {e : Env} {R : Room} {s : State} {m : MethodId} {args : Array Value} {below : List Frame} {meth : Method} {c : Code} {H : Heap} {locs : List Loc} {cells slots mc ms pc : Nat} {Q : State → Prop} {G : am_G} {A : Nat → Prop} {ad : Nat → Nat} {S : am_S} {K : am_K} {lsm : Array Slot} {st0 rest : List Value} {a0 : Array Value}
    (hr : va_Run p l e R s m args below meth c H locs cells slots mc ms (F0 m pc lsm st0) rest (am_Qc G A S ad K a0) A) (hS : va_S A s.heap H locs)
    (kk : ∀ (r : Option Value) (S' : am_S) (M' : am_M) (L' : am_L) (ad' : Nat → Nat) (H1 : Heap) (locs1 : List Loc), K r S' M' L' → am_Wd G A ad' s.heap S' M' L' H1 locs1 → (∀ v, r = some v → am_ok S'.1 v) → am_ext S ad S' ad' → W p l e R s m args below meth c H1 locs1 (cells + mc) (slots + ms) Q (F0 m (pc + 3) lsm ((r.map (am_mv G ad')).toList ++ rest))) :
    W p l e R s m args below meth c H locs cells slots Q (F0 m pc lsm st0) := by
  intro T hT X
  obtain ⟨v, st₀, t, T', L9, h0, X', hL, e1, e2, ⟨⟨r, S', M', L', ad', hv, hK, hP, hD, hwf, hext, hok⟩, hz, hk⟩, st⟩ := hr T hT X
  cases hv
  rw [h0] at hz hk
  have hS' : va_S A s.heap T'.heap (locs ++ L9) := ⟨Nat.le_trans hS.1 (by rw [e1]; exact hz), fun q h1 h2 => by rw [e1, hk q (Nat.lt_of_lt_of_le h1 hS.1) h2]; exact hS.2.1 q h1 h2, fun q hq => by
      rcases List.mem_append.mp hq with h | h
      · exact hS.2.2 q h
      · exact hL q h⟩
  obtain ⟨t2, a1, b1⟩ := kk r S' M' L' ad' T'.heap (locs ++ L9) hK ⟨by rw [e1]; exact hP, hD, hS', hwf⟩ hok hext T' rfl X'
  exact ⟨t2, st t2 a1, b1⟩
theorem am_good {ws : List Cond} (h : ∀ w ∈ ws, w ∈ am_gt) : GoodIn am_gt ws := fun w hw => ⟨h w hw, good_of_word (am_gt_good w (h w hw))⟩
theorem am_cat_sum {G : am_G} (hz : am_zok G) {ad : Nat → Nat} : ∀ st : List Value, ((st.map (am_mv G ad)).map fun v => v.category).sum = (st.map fun v => v.category).sum
  | [] => rfl
  | v :: st => by simp only [List.map_cons, List.sum_cons, am_mv_cat hz]; rw [am_cat_sum hz st]
section R6
variable {X : am_X} {d y pc : Nat} {ls : List (Option Value)} {st : List Value} {S : am_S} {M : am_M} {L : am_L} {bc bs : Nat} {K : am_K}
/-- behind a call: the caller goes on -/
theorem am_cont {y' : Nat} {q' : am_Q} {avs stk : List Value} (hq' : am_mt[y']? = some q') (hm : am_mok q') (h1 : q'.2.2.2.2.2.2.1 ≤ bc) (h2 : q'.2.2.2.2.2.2.2 ≤ bs) (hs8 : (st.map fun v => v.category).sum ≤ 8)
    (hc : am_Call X d y' avs S M L (fun r S' M' L' => am_WP X (d + 1) y (pc + 3) ls (r.toList ++ st) S' M' L' (bc - q'.2.2.2.2.2.2.1) (bs - q'.2.2.2.2.2.2.2) K)) (hstk : (∀ v ∈ stk, am_ok S.1 v) → (∀ v ∈ avs, am_ok S.1 v) ∧ ∀ v ∈ st, am_ok S.1 v)
    (row : ∀ (q : am_Q) (p : Program) (l : Launch) (e : Env) (R : Room) (s : State) (m : MethodId) (args : Array Value) (below : List Frame) (meth : Method) (c : Code) (H : Heap) (locs : List Loc) (cells slots : Nat) (G : am_G) (A : Nat → Prop) (ad : Nat → Nat) (lsm : Array Slot),
      am_mt[y]? = some q → am_Fix q p s m args meth c → am_For X G A s s.heap → am_Wd G A ad s.heap S M L H locs → lsm.size = q.2.2.1 → (d + 1 ≤ R.frames ∧ 64 * (d + 1) ≤ R.locals ∧ cells + q'.2.2.2.2.2.2.1 ≤ R.cells ∧ slots + q'.2.2.2.2.2.2.2 ≤ R.slots) → 2 * (F0 m pc lsm (stk.map (am_mv G ad))).monitorRoom + ((st.map (am_mv G ad)).map fun v => v.category).sum ≤ 8 →
      ∀ (K' : am_K), Met l q'.1 (am_wc q' :: am_gt) ({ frames := d, cells := q'.2.2.2.2.2.2.1, slots := q'.2.2.2.2.2.2.2, locals := 64 * d }) (am_Pc X G A ad S M L avs) (am_Qc G A S ad K') q'.2.2.2.2.2.2.1 q'.2.2.2.2.2.2.2 A → (∀ U : State, U.heap = H → s.WarmedH U.vm → am_Pc X G A ad S M L avs (avs.map (am_mv G ad)).toArray U) →
      ∃ a0, va_Run p l e R s m args below meth c H locs cells slots q'.2.2.2.2.2.2.1 q'.2.2.2.2.2.2.2 (F0 m pc lsm (stk.map (am_mv G ad))) (st.map (am_mv G ad)) (am_Qc G A S ad K' a0) A) : am_WP X (d + 1) y pc ls stk S M L bc bs K := by
  intro q p l e R s m args below meth c H locs cells slots Q G A ad lsm mc ms hq F Fo Wd Lo so Rm Re
  obtain ⟨r1, r2, r3, r4, r5, r6⟩ := Rm
  obtain ⟨oa, os⟩ := hstk so
  obtain ⟨a0, hrun⟩ := row q p l e R s m args below meth c H locs cells slots G A ad lsm hq F Fo Wd Lo.2.1.1 ⟨r1, r2, by omega, by omega⟩ (lv_room (by rw [am_cat_sum Fo.2.2.2.2.2.1]; exact hs8)) _ (am_met hq' hm hc oa l G A ad) (fun U hU hW => ⟨rfl, by rw [hU]; exact am_For.step Fo Wd.2.2.1 hW, by rw [hU]; exact Wd.1, Wd.2.1, Wd.2.2.2⟩)
  refine am_after hrun Wd.2.2.1 (fun r S' M' L' ad' H1 locs1 hK Wd' hok hext => ?_)
  have e9 : (r.map (am_mv G ad')).toList ++ st.map (am_mv G ad) = (r.toList ++ st).map (am_mv G ad') := by
    rw [List.map_append, List.map_congr_left (fun v hv => (am_mv_ext (os v hv) hext.2).symm)]
    cases r <;> rfl
  rw [e9]
  refine hK q p l e R s m args below meth c H1 locs1 _ _ Q G A ad' lsm mc ms hq F Fo Wd' (Lo.ext hext.2 hext.1) (fun v hv => ?_) ⟨r1, r2, by omega, by omega, r5, r6⟩ ?_
  · rcases List.mem_append.mp hv with h | h
    · exact hok v (by simpa using h)
    · exact am_ok_mono (os v h) hext.1
  · intro r S2 M2 L2 ad2 H2 locs2 pc2 ls2 k1 k2 k3 k4 k5
    exact Re r S2 M2 L2 ad2 H2 locs2 pc2 ls2 k1 k2 k3 (hext.tr k4) k5
theorem am_stk {n : Nat} {vs st : List Value} {r : Value} (so : ∀ v ∈ vs.reverse ++ r :: st, am_ok n v) : (∀ v ∈ r :: vs, am_ok n v) ∧ ∀ v ∈ st, am_ok n v :=
  ⟨List.forall_mem_cons.mpr ⟨so r (by simp), fun v hv => so v (by simp [hv])⟩, fun v hv => so v (by simp [hv])⟩
theorem am_stkS {n : Nat} {vs st : List Value} (so : ∀ v ∈ vs.reverse ++ st, am_ok n v) : (∀ v ∈ vs, am_ok n v) ∧ ∀ v ∈ st, am_ok n v :=
  ⟨fun v hv => so v (by simp [hv]), fun v hv => so v (by simp [hv])⟩
theorem am_mapR {G : am_G} {ad : Nat → Nat} {vs st : List Value} {r : Value} : (vs.reverse ++ r :: st).map (am_mv G ad) = (vs.map (am_mv G ad)).reverse ++ am_mv G ad r :: st.map (am_mv G ad) := by simp
theorem am_mapS {G : am_G} {ad : Nat → Nat} {vs st : List Value} : (vs.reverse ++ st).map (am_mv G ad) = (vs.map (am_mv G ad)).reverse ++ st.map (am_mv G ad) := by simp
/-- invokevirtual, of an object of one's own -/
theorem r_callV {idx y' k : Nat} {q' : am_Q} {r : vw_C} {ci : Nat} {vs : List Value} (ha : am_at y pc (.invokevirtual idx) 3) (hq' : am_mt[y']? = some q') (hm : am_mok q') (h0 : q'.2.2.2.2.1 = 0) (hl : ∀ q, am_mt[y]? = some q → Cond.methodLink q.1.cls idx q'.1 ∈ am_gt) (hn : vs.length = q'.2.2.2.2.2.1) (hk : k < S.1) (hc0 : S.2.1 k = (0, ci)) (hr : vwCl[ci]? = some r) (hrc : r.1 = q'.1.cls) (hs8 : (st.map fun v => v.category).sum ≤ 8) (h1 : q'.2.2.2.2.2.2.1 ≤ bc) (h2 : q'.2.2.2.2.2.2.2 ≤ bs)
    (hc : am_Call X d y' (.ref k :: vs) S M L (fun r S' M' L' => am_WP X (d + 1) y (pc + 3) ls (r.toList ++ st) S' M' L' (bc - q'.2.2.2.2.2.2.1) (bs - q'.2.2.2.2.2.2.2) K)) : am_WP X (d + 1) y pc ls (vs.reverse ++ .ref k :: st) S M L bc bs K := by
  refine am_cont hq' hm h1 h2 hs8 hc am_stk (fun q p l e R s m args below meth c H locs cells slots G A ad lsm hq F Fo Wd hls rm hmr K' hMet hpre => ?_)
  refine ⟨(Value.ref (ad k) :: vs.map (am_mv G ad)).toArray, ?_⟩
  have mk := hm.2.2.1
  rw [am_wk, if_neg (by rw [h0]; decide)] at mk
  refine va_runV (Ts := am_gt) (own := q.1.cls) (C := q'.1.cls) (As := vs.map (am_mv G ad)) (b := ad k) ⟨F.1, F.2.1, F.2.2.2.1, F.2.2.2.2.1, F.2.2.2.2.2.1⟩ hMet (cwV q'.2.2.2.2.2.1 F.2.2.2.2.2.1 (am_good fun w hw => ?_) rfl rfl rfl ⟨rfl, hm.2.2.2.2.2.1, hm.2.2.2.2.2.2.1, hm.2.2.2.2.2.2.2.1⟩ ⟨rm.1, by have := hm.2.2.2.2.2.2.2.2.1; have := rm.2.1; show 8 + (q'.2.2.1 + 11) + 64 * d ≤ R.locals; omega⟩) ⟨am_Pc_blind, ?_, fun U hU hW => hpre U hU hW⟩ rfl (by rw [List.length_map]; exact hn) hls (am_mapR (r := .ref k)) hmr (ha q hq) ⟨rm.2.2.1, rm.2.2.2⟩
  · simp only [wsV, List.mem_append, List.mem_cons, List.not_mem_nil, or_false] at hw
    rcases hw with (rfl | rfl | rfl | rfl) | rfl | hw
    · exact hl q hq
    · exact mk
    · exact hm.2.2.2.1 h0
    · exact hm.2.1
    · exact hm.1
    · exact hw
  · have := va_recv Fo.1 Wd.1 hr (by rw [am_ws_get hk, am_ce_obj hc0])
    rw [hrc] at this
    exact this
/-- invokevirtual, of a text -/
theorem r_callK {idx y' i : Nat} {q' : am_Q} {vs : List Value} (ha : am_at y pc (.invokevirtual idx) 3) (hq' : am_mt[y']? = some q') (hm : am_mok q') (h0 : q'.2.2.2.2.1 = 0) (hl : ∀ q, am_mt[y]? = some q → Cond.methodLink q.1.cls idx q'.1 ∈ am_gt) (hn : vs.length = q'.2.2.2.2.2.1) (hi : i < 17) (hrc : "java/lang/String" = q'.1.cls) (hs8 : (st.map fun v => v.category).sum ≤ 8) (h1 : q'.2.2.2.2.2.2.1 ≤ bc) (h2 : q'.2.2.2.2.2.2.2 ≤ bs)
    (hc : am_Call X d y' (.retAddr (10 + i) :: vs) S M L (fun r S' M' L' => am_WP X (d + 1) y (pc + 3) ls (r.toList ++ st) S' M' L' (bc - q'.2.2.2.2.2.2.1) (bs - q'.2.2.2.2.2.2.2) K)) : am_WP X (d + 1) y pc ls (vs.reverse ++ .retAddr (10 + i) :: st) S M L bc bs K := by
  refine am_cont hq' hm h1 h2 hs8 hc am_stk (fun q p l e R s m args below meth c H locs cells slots G A ad lsm hq F Fo Wd hls rm hmr K' hMet hpre => ?_)
  refine ⟨(Value.ref (G.2.2.1 (10 + i)) :: vs.map (am_mv G ad)).toArray, ?_⟩
  have mk := hm.2.2.1
  rw [am_wk, if_neg (by rw [h0]; decide)] at mk
  refine va_runV (Ts := am_gt) (own := q.1.cls) (C := q'.1.cls) (As := vs.map (am_mv G ad)) (b := G.2.2.1 (10 + i)) ⟨F.1, F.2.1, F.2.2.2.1, F.2.2.2.2.1, F.2.2.2.2.2.1⟩ hMet (cwV q'.2.2.2.2.2.1 F.2.2.2.2.2.1 (am_good fun w hw => ?_) rfl rfl rfl ⟨rfl, hm.2.2.2.2.2.1, hm.2.2.2.2.2.2.1, hm.2.2.2.2.2.2.2.1⟩ ⟨rm.1, by have := hm.2.2.2.2.2.2.2.2.1; have := rm.2.1; show 8 + (q'.2.2.1 + 11) + 64 * d ≤ R.locals; omega⟩) ⟨am_Pc_blind, ?_, fun U hU hW => ?_⟩ rfl (by rw [List.length_map]; exact hn) hls ?_ hmr (ha q hq) ⟨rm.2.2.1, rm.2.2.2⟩
  · simp only [wsV, List.mem_append, List.mem_cons, List.not_mem_nil, or_false] at hw
    rcases hw with (rfl | rfl | rfl | rfl) | rfl | hw
    · exact hl q hq
    · exact mk
    · exact hm.2.2.2.1 h0
    · exact hm.2.1
    · exact hm.1
    · exact hw
  · have := vk_recv Fo.2.2.2.2.2.2.1 hi Wd.2.2.1
    rw [hrc] at this
    exact this
  · have := hpre U hU hW
    rw [List.map_cons, am_mv_for (by omega)] at this
    exact this
  · show (vs.reverse ++ Value.retAddr (10 + i) :: st).map (am_mv G ad) = _
    rw [am_mapR, am_mv_for (by omega)]
/-- invokestatic -/
theorem r_callS {idx y' : Nat} {q' : am_Q} {vs : List Value} (ha : am_at y pc (.invokestatic idx) 3) (hq' : am_mt[y']? = some q') (hm : am_mok q') (h0 : q'.2.2.2.2.1 = 1) (hl : ∀ q, am_mt[y]? = some q → Cond.methodLink q.1.cls idx q'.1 ∈ am_gt) (hn : vs.length = q'.2.2.2.2.2.1) (hs8 : (st.map fun v => v.category).sum ≤ 8) (h1 : q'.2.2.2.2.2.2.1 ≤ bc) (h2 : q'.2.2.2.2.2.2.2 ≤ bs)
    (hc : am_Call X d y' vs S M L (fun r S' M' L' => am_WP X (d + 1) y (pc + 3) ls (r.toList ++ st) S' M' L' (bc - q'.2.2.2.2.2.2.1) (bs - q'.2.2.2.2.2.2.2) K)) : am_WP X (d + 1) y pc ls (vs.reverse ++ st) S M L bc bs K := by
  refine am_cont hq' hm h1 h2 hs8 hc am_stkS (fun q p l e R s m args below meth c H locs cells slots G A ad lsm hq F Fo Wd hls rm hmr K' hMet hpre => ?_)
  refine ⟨(vs.map (am_mv G ad)).toArray, ?_⟩
  have mk := hm.2.2.1
  rw [am_wk, if_pos h0] at mk
  refine va_runS (Ts := am_gt) (own := q.1.cls) (As := vs.map (am_mv G ad)) ⟨F.1, F.2.1, F.2.2.2.1, F.2.2.2.2.1, F.2.2.2.2.2.1⟩ hMet (va_cwS q'.2.2.2.2.2.1 F.2.2.2.2.2.1 (am_good fun w hw => ?_) rfl rfl rfl ⟨hm.2.2.2.2.2.1, hm.2.2.2.2.2.2.1, hm.2.2.2.2.2.2.2.1⟩ ⟨rm.1, by have := hm.2.2.2.2.2.2.2.2.1; have := rm.2.1; show 8 + (q'.2.2.1 + 11) + 64 * d ≤ R.locals; omega⟩) ⟨am_Pc_blind, fun U hU hW => hpre U hU hW⟩ rfl (by rw [List.length_map]; exact hn) hls am_mapS hmr (ha q hq) ⟨rm.2.2.1, rm.2.2.2⟩
  simp only [va_wsS, List.mem_append, List.mem_cons, List.not_mem_nil, or_false] at hw
  rcases hw with (rfl | rfl | rfl) | rfl | hw
  · exact hl q hq
  · exact mk
  · exact hm.2.1
  · exact hm.1
  · exact hw
/-- invokestatic, a nest mate's own -/
theorem r_callSN {idx y' : Nat} {q' : am_Q} {vs : List Value} (ha : am_at y pc (.invokestatic idx) 3) (hq' : am_mt[y']? = some q') (hm : am_mok q') (h0 : q'.2.2.2.2.1 = 1) (hl : ∀ q, am_mt[y]? = some q → Cond.methodLinkNest q.1.cls idx q'.1 "LookTimes" ∈ am_nest) (hn : vs.length = q'.2.2.2.2.2.1) (hs8 : (st.map fun v => v.category).sum ≤ 8) (h1 : q'.2.2.2.2.2.2.1 ≤ bc) (h2 : q'.2.2.2.2.2.2.2 ≤ bs)
    (hc : am_Call X d y' vs S M L (fun r S' M' L' => am_WP X (d + 1) y (pc + 3) ls (r.toList ++ st) S' M' L' (bc - q'.2.2.2.2.2.2.1) (bs - q'.2.2.2.2.2.2.2) K)) : am_WP X (d + 1) y pc ls (vs.reverse ++ st) S M L bc bs K := by
  refine am_cont hq' hm h1 h2 hs8 hc am_stkS (fun q p l e R s m args below meth c H locs cells slots G A ad lsm hq F Fo Wd hls rm hmr K' hMet hpre => ?_)
  refine ⟨(vs.map (am_mv G ad)).toArray, ?_⟩
  have mk := hm.2.2.1
  rw [am_wk, if_pos h0] at mk
  refine va_runSN (Ts := am_gt) (own := q.1.cls) (host := "LookTimes") (As := vs.map (am_mv G ad)) ⟨F.1, F.2.1, F.2.2.2.1, F.2.2.2.2.1, F.2.2.2.2.2.1⟩ hMet ⟨va_cnB q'.2.2.2.2.2.1 F.2.2.2.2.2.1 (am_good fun w hw => ?_) rfl rfl rfl (Fo.2.2.2.2.2.2.2.2.1 _ (hl q hq)) (F.2.2.2.2.2.1 _ hm.2.1) ⟨hm.2.2.2.2.2.1, hm.2.2.2.2.2.2.1, hm.2.2.2.2.2.2.2.1⟩ ⟨rm.1, by have := hm.2.2.2.2.2.2.2.2.1; have := rm.2.1; show 8 + (q'.2.2.1 + 11) + 64 * d ≤ R.locals; omega⟩, F.2.2.2.2.2.1 _ mk, trivial⟩ ⟨am_Pc_blind, fun U hU hW => hpre U hU hW⟩ rfl (by rw [List.length_map]; exact hn) hls am_mapS hmr (ha q hq) ⟨rm.2.2.1, rm.2.2.2⟩
  rcases List.mem_cons.mp hw with rfl | hw
  · exact hm.1
  · exact hw
/-- invokespecial of a constructor -/
theorem r_callI {idx y' k : Nat} {q' : am_Q} {vs : List Value} (ha : am_at y pc (.invokespecial idx) 3) (hq' : am_mt[y']? = some q') (hm : am_mok q') (h0 : q'.2.2.2.2.1 = 2) (hl : ∀ q, am_mt[y]? = some q → Cond.methodLink q.1.cls idx q'.1 ∈ am_gt ∨ Cond.methodLinkNest q.1.cls idx q'.1 "LookTimes" ∈ am_nest) (hn : vs.length = q'.2.2.2.2.2.1) (hs8 : (st.map fun v => v.category).sum ≤ 8) (h1 : q'.2.2.2.2.2.2.1 ≤ bc) (h2 : q'.2.2.2.2.2.2.2 ≤ bs)
    (hc : am_Call X d y' (.ref k :: vs) S M L (fun r S' M' L' => am_WP X (d + 1) y (pc + 3) ls (r.toList ++ st) S' M' L' (bc - q'.2.2.2.2.2.2.1) (bs - q'.2.2.2.2.2.2.2) K)) : am_WP X (d + 1) y pc ls (vs.reverse ++ .ref k :: st) S M L bc bs K := by
  refine am_cont hq' hm h1 h2 hs8 hc am_stk (fun q p l e R s m args below meth c H locs cells slots G A ad lsm hq F Fo Wd hls rm hmr K' hMet hpre => ?_)
  refine ⟨(Value.ref (ad k) :: vs.map (am_mv G ad)).toArray, ?_⟩
  have mk := hm.2.2.1
  rw [am_wk, if_neg (by rw [h0]; decide)] at mk
  have hnm := hm.2.2.2.2.2.2.2.2.2 h0
  have hg : GoodIn am_gt (am_wc q' :: am_gt) := am_good fun w hw => by
    rcases List.mem_cons.mp hw with rfl | hw
    · exact hm.1
    · exact hw
  have hwc : am_wc q' = Cond.code q'.1 q'.2.1 q'.2.2.1 none := by unfold am_wc; rw [hnm.2]
  have hR : d + 1 ≤ R.frames ∧ 8 + (q'.2.2.1 + 11) + 64 * d ≤ R.locals := ⟨rm.1, by have := hm.2.2.2.2.2.2.2.2.1; have := rm.2.1; omega⟩
  rcases hl q hq with hl | hl
  · exact va_runI (Ts := am_gt) (own := q.1.cls) (As := vs.map (am_mv G ad)) (b := ad k) (bytes := q'.2.1) (maxL := q'.2.2.1) ⟨F.1, F.2.1, F.2.2.2.1, F.2.2.2.2.1, F.2.2.2.2.2.1⟩ hMet (cwI q'.2.2.2.2.2.1 F.2.2.2.2.2.1 hg (by rw [hwc]) rfl rfl (F.2.2.2.2.2.1 _ hm.2.1) (F.2.2.2.2.2.1 _ hl) (F.2.2.2.2.2.1 _ mk) hnm.1 ⟨hm.2.2.2.2.2.1, hm.2.2.2.2.2.2.1, hm.2.2.2.2.2.2.2.1⟩ hR) ⟨am_Pc_blind, fun U hU hW => hpre U hU hW⟩ rfl (by rw [List.length_map]; exact hn) hls (am_mapR (r := .ref k)) hmr (ha q hq) ⟨rm.2.2.1, rm.2.2.2⟩
  · exact va_runIN (Ts := am_gt) (own := q.1.cls) (host := "LookTimes") (As := vs.map (am_mv G ad)) (b := ad k) (bytes := q'.2.1) (maxL := q'.2.2.1) ⟨F.1, F.2.1, F.2.2.2.1, F.2.2.2.2.1, F.2.2.2.2.2.1⟩ hMet ⟨va_cnB q'.2.2.2.2.2.1 F.2.2.2.2.2.1 hg (by rw [hwc]) rfl rfl (Fo.2.2.2.2.2.2.2.2.1 _ hl) (F.2.2.2.2.2.1 _ hm.2.1) ⟨hm.2.2.2.2.2.1, hm.2.2.2.2.2.2.1, hm.2.2.2.2.2.2.2.1⟩ hR, hnm.1, F.2.2.2.2.2.1 _ mk⟩ ⟨am_Pc_blind, fun U hU hW => hpre U hU hW⟩ rfl (by rw [List.length_map]; exact hn) hls (am_mapR (r := .ref k)) hmr (ha q hq) ⟨rm.2.2.1, rm.2.2.2⟩
theorem r_ireturn {v : Int32} (ha : am_at y pc .ireturn 1) (hr : ∀ q, am_mt[y]? = some q → ∃ ty, q.2.2.2.1 = some ty ∧ narrow ty (.int v) = .int v) (h : K (some (.int v)) S M L) : am_WP X d y pc ls [.int v] S M L bc bs K := by
  intro q p l e R s m args below meth c H locs cells slots Q G A ad lsm mc ms hq F Fo Wd Lo so Rm Re
  obtain ⟨r1, r2, r3, r4, r5, r6⟩ := Rm
  exact W.widen (by omega) (by omega) (Re (some (.int v)) S M L ad H locs pc lsm h Wd (fun w hw => by cases hw; trivial) am_ext.rf ⟨ha q hq, hr q hq⟩)
theorem r_lreturn {v : Int64} (ha : am_at y pc .lreturn 1) (hr : ∀ q, am_mt[y]? = some q → q.2.2.2.1 = some .long) (h : K (some (.long v)) S M L) : am_WP X d y pc ls [.long v] S M L bc bs K := by
  intro q p l e R s m args below meth c H locs cells slots Q G A ad lsm mc ms hq F Fo Wd Lo so Rm Re
  obtain ⟨r1, r2, r3, r4, r5, r6⟩ := Rm
  exact W.widen (by omega) (by omega) (Re (some (.long v)) S M L ad H locs pc lsm h Wd (fun w hw => by cases hw; trivial) am_ext.rf ⟨ha q hq, hr q hq⟩)
theorem r_return (ha : am_at y pc .return_ 1) (hr : ∀ q, am_mt[y]? = some q → q.2.2.2.1 = none) (h : K none S M L) : am_WP X d y pc ls [] S M L bc bs K := by
  intro q p l e R s m args below meth c H locs cells slots Q G A ad lsm mc ms hq F Fo Wd Lo so Rm Re
  obtain ⟨r1, r2, r3, r4, r5, r6⟩ := Rm
  exact W.widen (by omega) (by omega) (Re none S M L ad H locs pc lsm h Wd (fun w hw => by cases hw) am_ext.rf ⟨ha q hq, hr q hq⟩)
end R6
