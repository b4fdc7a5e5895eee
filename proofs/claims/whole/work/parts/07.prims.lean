def va_AOA (ty : FieldType) (U : State) : Prop := (Cond.arrayOver (.array ty)).before #[] U = true
theorem va_AOA.use {ty : FieldType} {A : Array Value} {U : State} (h : va_AOA ty U) : (Cond.arrayOver (.array ty)).before A U = true := h
theorem va_AOA.of {ty : FieldType} {A : Array Value} {U : State} (h : (Cond.arrayOver (.array ty)).before A U = true) : va_AOA ty U := h
/-! ===== BEGIN new T[n][m]: the outer array a place, the inner ones among the pooled ===== -/
/-- f, but v at every address of l -/
def vr_up {α : Type} (f : Nat → α) (l : List Nat) (v : α) : Nat → α := fun a => if a ∈ l then v else f a
theorem vr_up_in {α : Type} {f : Nat → α} {l : List Nat} {v : α} {a : Nat} (h : a ∈ l) : vr_up f l v a = v := if_pos h
theorem vr_up_ne {α : Type} {f : Nat → α} {l : List Nat} {v : α} {a : Nat} (h : a ∉ l) : vr_up f l v a = f a := if_neg h
theorem vr_rows {L l : List Nat} {f : Nat → va_E} {e : va_E} (h : ∀ a, a ∈ l → a ∉ L) : va_pl L f ++ l.map (fun a => (a, e)) = va_pl (L ++ l) (vr_up f l e) := by
  unfold va_pl
  rw [List.map_append]
  congr 1
  · apply List.map_congr_left
    intro a ha
    rw [vr_up_ne (fun q => h a q ha)]
  · apply List.map_congr_left
    intro a ha
    rw [vr_up_in ha]
theorem vr_lay {X rows : va_W} {x : Nat × va_E} {pl : va_W} {D : va_G} {cl : List vw_C} {H : Heap} (hP : va_P D cl (((X ++ pl) ++ [x]) ++ rows) H) : va_P D cl ((X ++ [x]) ++ (pl ++ rows)) H := by
  rw [List.append_assoc (X ++ pl)] at hP
  have h := va_P.swap hP
  rw [← List.append_assoc X] at h
  have h2 := va_P.swap h
  rw [List.append_assoc (X ++ [x])] at h2
  exact h2
theorem vr_layD {X rows : va_W} {x : Nat × va_E} {pl : va_W} {A : Nat → Prop} (hD : va_D A (((X ++ pl) ++ [x]) ++ rows)) : va_D A ((X ++ [x]) ++ (pl ++ rows)) := by
  rw [List.append_assoc (X ++ pl)] at hD
  have h := va_D.swap hD
  rw [← List.append_assoc X] at h
  have h2 := va_D.swap h
  rw [List.append_assoc (X ++ [x])] at h2
  exact h2
theorem vr_outer (c : ClassId) (N h0 : Nat) : ∀ i : Nat, Jvm.Free.Multi.outerC c N h0 i = arrV c N (fun j => va_rf (if j < i then some (h0 + 1 + j) else none))
  | 0 => by
    show ({ cls := c, slots := Array.replicate N .null, vm := .none } : Cell) = _
    rw [arrV_new]
    refine congrArg (arrV c N) (funext fun j => ?_)
    simp [va_rf]
  | i + 1 => by
    show (Jvm.Free.Multi.outerC c N h0 i).setSlot i (.ref (h0 + 1 + i)) = _
    rw [vr_outer c N h0 i, arrV_store]
    refine congrArg (arrV c N) (funext fun j => ?_)
    by_cases e : j = i
    · subst e
      simp [updV, va_rf]
    · by_cases h : j < i
      · simp [updV, e, h, Nat.lt_succ_of_lt h]
      · simp [updV, e, h, show ¬ j < i + 1 by omega]
section VGM
variable {p : Program} {l : Launch} {e : Env} {R : Room} {s : State} {m : MethodId} {args : Array Value} {below : List Frame} {meth : Method} {c : Code} {H : Heap} {locs : List Loc} {cells slots : Nat} {Q : State → Prop}
variable {cc : ByteArray} {pc : Nat} {ls : Array Slot} {rest : List Value} {D : va_G} {cl : List vw_C} {A : Nat → Prop} {a : Nat} {tys : List (ClassId × FieldType)} {ws : va_W} {H0 : Heap}
theorem va_mna {X : va_W} {L : List Nat} {f : Nat → va_E} {cc : ByteArray} (hexec : p.tables.exec = Jvm.exec) (hb : c.code = cc) {own : String} {index : Nat} {ty : FieldType} {cy : ClassId} (hown : s.vm.findClass own = some m.cls) (hclink : (Cond.classLink own index ("[" ++ (FieldType.array ty).toString)).before args s = true) (hover : va_AOA ty s) (harr : (Cond.arrayClass ty).before args s = true) (hcy : s.vm.findClass (FieldType.array ty).toString = some cy)
    (hK : va_K D cl tys s) (hP : va_P D cl (X ++ va_pl L f) H) (hD : va_D A (X ++ va_pl L f)) (hS : va_S A H0 H locs) (hA : ∀ q, H0.size ≤ q → A q) {n k : Int32} {N' K' : Nat} {z : vp_A} (hn : ¬ n < 0) (hk : ¬ k < 0) (hN : n.toNatClampNeg = N') (hM : k.toNatClampNeg = K')
    (hb1 : N' * 4 ≤ 536870912) (hb2 : K' * componentBytes ty ≤ 536870912) (hb3 : K' ≤ 536870912) (hdf : fits ty (defaultValue ty) = true) (hdd : (defaultValue ty).isDefault = true) (hcells : cells + (1 + N') ≤ R.cells) (hslots : slots + (N' + N' * K') ≤ R.slots) (hz : ∀ c : ClassId, Jvm.Free.Multi.innerC c K' (defaultValue ty) = vp_cell c z) (hdg : decode cc pc = .ok (.multianewarray index 2, 4))
    (kk : ∀ (q : Nat) (r : Nat → Nat) (cA : ClassId) (H1 : Heap), (∀ i j : Nat, i < N' → j < N' → r i = r j → i = j) → (∀ i : Nat, i < N' → r i ∉ L) → va_K D cl (tys ++ [(cA, .array ty)]) s →
      va_P D cl ((X ++ [(q, .inl (cA, N', .inr (.inr (.inr (.inr (fun i => if i < N' then some (r i) else none))))))]) ++ va_pl (L ++ (List.range N').map r) (vr_up f ((List.range N').map r) (.inl (cy, z)))) H1 → va_D A ((X ++ [(q, .inl (cA, N', .inr (.inr (.inr (.inr (fun i => if i < N' then some (r i) else none))))))]) ++ va_pl (L ++ (List.range N').map r) (vr_up f ((List.range N').map r) (.inl (cy, z)))) → va_S A H0 H1 locs →
      W p l e R s m args below meth c H1 locs (cells + 1 + N') (slots + N' + N' * K') Q (F0 m (pc + 4) ls (.ref q :: rest))) : W p l e R s m args below meth c H locs cells slots Q (F0 m pc ls (.int k :: .int n :: rest)) := by
  subst hN
  subst hM
  intro T hT Xs
  obtain ⟨vm₁, cA, comp, -, fA, fC, hO, -, X', step⟩ := Xs.multianewarray2F hexec hown hclink (va_AOA.use hover) harr (g := F0 m pc ls (.int k :: .int n :: rest)) rfl (by rw [hb]; exact hdg) rfl hn hk hb1 hb2 hb3 hdf hdd hcells hslots
  have ec : some cy = some comp := hcy.symm.trans fC
  cases ec
  generalize hF : Jvm.Free.Multi.fill (T.setVm vm₁) cA cy n.toNatClampNeg k.toNatClampNeg (defaultValue ty) n.toNatClampNeg = F at X' step
  have hTh : (T.setVm vm₁).heap = H := hT
  obtain ⟨f1, f2, -, -⟩ := Jvm.Free.Multi.fill_facts (T.setVm vm₁) cA cy n.toNatClampNeg k.toNatClampNeg (defaultValue ty) n.toNatClampNeg
  rw [hF, hTh] at f1 f2
  have hold : ∀ x : Nat, x < H.size → F.heap[x]? = H[x]? := fun x hx => by
    have := Jvm.Free.Multi.fill_old (T.setVm vm₁) cA cy n.toNatClampNeg k.toNatClampNeg (defaultValue ty) (a := x) (by rw [hTh]; exact hx) n.toNatClampNeg
    rw [hF, hTh] at this
    exact this
  have hrow : ∀ j : Nat, j < n.toNatClampNeg → F.heap[H.size + 1 + j]? = some (vp_cell cy z) := fun j hj => by
    have := Jvm.Free.Multi.fill_inner (T.setVm vm₁) cA cy n.toNatClampNeg k.toNatClampNeg (defaultValue ty) n.toNatClampNeg j hj
    rw [hF, hTh, hz] at this
    exact this
  have hout : Jvm.Free.Multi.outerC cA n.toNatClampNeg H.size n.toNatClampNeg = vp_cell cA (n.toNatClampNeg, .inr (.inr (.inr (.inr (fun i => if i < n.toNatClampNeg then some (H.size + 1 + i) else none))))) := by
    rw [vp_cell_q]
    exact vr_outer cA n.toNatClampNeg H.size n.toNatClampNeg
  rw [hout] at f2
  have hlt : ∀ a, a ∈ L → a < H.size := fun a ha => by
    obtain ⟨k9, hk9⟩ := va_pl_get (X := X) (f := f) ha
    exact (hP k9 _ hk9).lt
  have hnl : ∀ i : Nat, i < n.toNatClampNeg → H.size + 1 + i ∉ L := fun i _ h => by
    have := hlt _ h
    omega
  have hnm : ∀ a, a ∈ (List.range n.toNatClampNeg).map (fun i => H.size + 1 + i) → a ∉ L := fun a ha h => by
    obtain ⟨i, -, rfl⟩ := List.mem_map.mp ha
    have := hlt _ h
    omega
  have hP0 : va_P D cl (X ++ va_pl L f) F.heap := hP.kept (fun k9 x hx => hold x.1 ((hP k9 x hx).lt))
  have hP1 : va_P D cl ((X ++ va_pl L f) ++ [(H.size, .inl (cA, n.toNatClampNeg, .inr (.inr (.inr (.inr (fun i => if i < n.toNatClampNeg then some (H.size + 1 + i) else none))))))]) F.heap := hP0.app (fun k9 x hx => by
    have h0 : k9 < 1 := (List.getElem?_eq_some_iff.mp hx).1
    rw [show k9 = 0 by omega] at hx
    cases hx
    exact f2)
  have hP2 : va_P D cl (((X ++ va_pl L f) ++ [(H.size, .inl (cA, n.toNatClampNeg, .inr (.inr (.inr (.inr (fun i => if i < n.toNatClampNeg then some (H.size + 1 + i) else none))))))]) ++ ((List.range n.toNatClampNeg).map (fun i => H.size + 1 + i)).map (fun a => (a, .inl (cy, z)))) F.heap := hP1.app (fun k9 x hx => by
    obtain ⟨a, ha, rfl⟩ := List.mem_map.mp (List.mem_of_getElem? hx)
    obtain ⟨i, hi, rfl⟩ := List.mem_map.mp ha
    exact hrow i (List.mem_range.mp hi))
  have hD2 : va_D A (((X ++ va_pl L f) ++ [(H.size, .inl (cA, n.toNatClampNeg, .inr (.inr (.inr (.inr (fun i => if i < n.toNatClampNeg then some (H.size + 1 + i) else none))))))]) ++ ((List.range n.toNatClampNeg).map (fun i => H.size + 1 + i)).map (fun a => (a, .inl (cy, z)))) := by
    have hD1 := hD.push (e := .inl (cA, n.toNatClampNeg, .inr (.inr (.inr (.inr (fun i => if i < n.toNatClampNeg then some (H.size + 1 + i) else none)))))) hP rfl (hA _ hS.1)
    generalize hW1 : (X ++ va_pl L f) ++ [(H.size, .inl (cA, n.toNatClampNeg, .inr (.inr (.inr (.inr (fun i => if i < n.toNatClampNeg then some (H.size + 1 + i) else none))))))] = W1 at hD1 hP1 ⊢
    have hle : ∀ (k9 : Nat) (x : Nat × va_E), W1[k9]? = some x → x.1 ≤ H.size := fun k9 x hx => by
      rw [← hW1] at hx
      by_cases hl : k9 < (X ++ va_pl L f).length
      · rw [List.getElem?_append_left hl] at hx
        exact Nat.le_of_lt ((hP k9 x hx).lt)
      · rw [List.getElem?_append_right (by omega)] at hx
        have h0 : k9 - (X ++ va_pl L f).length < 1 := (List.getElem?_eq_some_iff.mp hx).1
        rw [show k9 - (X ++ va_pl L f).length = 0 by omega] at hx
        cases hx
        exact Nat.le_refl _
    have hr : ∀ (k9 : Nat) (x : Nat × va_E), (((List.range n.toNatClampNeg).map (fun i => H.size + 1 + i)).map (fun a => ((a, .inl (cy, z)) : Nat × va_E)))[k9]? = some x → x.1 = H.size + 1 + k9 := fun k9 x hx => by
      rw [List.getElem?_map, List.getElem?_map] at hx
      by_cases h9 : k9 < n.toNatClampNeg
      · rw [List.getElem?_range h9] at hx
        cases hx
        rfl
      · have hn0 : (List.range n.toNatClampNeg)[k9]? = none := List.getElem?_eq_none (by rw [List.length_range]; omega)
        rw [hn0] at hx
        cases hx
    refine ⟨fun i j x y hi hj hxy => ?_, fun k9 x hx => ?_⟩
    · by_cases h1 : i < W1.length <;> by_cases h2 : j < W1.length
      · rw [List.getElem?_append_left h1] at hi
        rw [List.getElem?_append_left h2] at hj
        exact hD1.1 i j x y hi hj hxy
      · rw [List.getElem?_append_left h1] at hi
        rw [List.getElem?_append_right (by omega)] at hj
        have := hle _ _ hi
        have := hr _ _ hj
        omega
      · rw [List.getElem?_append_right (by omega)] at hi
        rw [List.getElem?_append_left h2] at hj
        have := hle _ _ hj
        have := hr _ _ hi
        omega
      · rw [List.getElem?_append_right (by omega)] at hi hj
        have := hr _ _ hi
        have := hr _ _ hj
        omega
    · by_cases h1 : k9 < W1.length
      · rw [List.getElem?_append_left h1] at hx
        exact hD1.2 k9 x hx
      · rw [List.getElem?_append_right (by omega)] at hx
        have := hr _ _ hx
        exact hA _ (by have := hS.1; omega)
  have hAr : ArrOfT s cA (.array ty) := fun N9 z9 => by
    obtain ⟨-, k9, hk9, cm9, hkk9⟩ := (hO 0 0 0).1
    exact ⟨(fun q hq => by cases hq), k9, hk9, cm9, hkk9⟩
  have hK2 : va_K D cl (tys ++ [(cA, .array ty)]) s := ⟨hK.1, fun k9 x hx => by
    by_cases hl : k9 < tys.length
    · rw [List.getElem?_append_left hl] at hx
      exact hK.2 k9 x hx
    · rw [List.getElem?_append_right (by omega)] at hx
      have h0 : k9 - tys.length < 1 := (List.getElem?_eq_some_iff.mp hx).1
      rw [show k9 - tys.length = 0 by omega] at hx
      cases hx
      exact ⟨hAr, fA⟩⟩
  obtain ⟨t, a1, b1⟩ := kk H.size (fun i => H.size + 1 + i) cA F.heap (fun i j _ _ h => by have h9 : H.size + 1 + i = H.size + 1 + j := h; omega) hnl hK2 (by rw [← vr_rows hnm]; exact vr_lay hP2) (by rw [← vr_rows hnm]; exact vr_layD hD2) ⟨by rw [f1]; have := hS.1; omega, fun x h1 h2 => (hold x (Nat.lt_of_lt_of_le h1 hS.1)).trans (hS.2.1 x h1 h2), hS.2.2⟩ F rfl X'
  refine ⟨t, step t ?_, b1⟩
  have e : T.heap.size = H.size := by rw [hT]
  rw [e]
  exact a1
end VGM
section R7
variable {X : am_X} {d y pc : Nat} {ls : List (Option Value)} {st : List Value} {S : am_S} {M : am_M} {L : am_L} {bc bs : Nat} {K : am_K}
theorem r_obj {idx k : Nat} (hd : 1 ≤ d) (ha : am_at y pc (.invokespecial idx) 3) (hl : ∀ q, am_mt[y]? = some q → Cond.methodLink q.1.cls idx objectInit ∈ am_gt) (hw : Cond.instanceMethod objectInit ∈ am_gt) (hw2 : Cond.code objectInit ⟨#[0xb1]⟩ 1 none ∈ am_gt) (hs8 : (st.map fun v => v.category).sum ≤ 8) (h : am_WP X d y (pc + 3) ls st S M L bc bs K) : am_WP X d y pc ls (.ref k :: st) S M L bc bs K := by
  refine am_step h (fun q p l e R s m args below meth c H locs cells slots Q G A ad lsm hq F Fo Wd Lo so rm kk => ?_)
  have r9 := rm.1 hd
  have kk := kk (am_ot so)
  exact W.objInit F.1 F.2.1 F.2.2.2.2.1 (F.2.2.2.2.2.1 _ (hl q hq)) (F.2.2.2.2.2.1 _ hw) (F.2.2.2.2.2.1 _ hw2) rfl (by rw [F.2.2.2.1]; exact Lo.2.1.1) rfl (ha q hq) r9.1 (by
    have := lv_room (m := m) (pc := pc) (ls := lsm) (rest := (.ref k :: st).map (am_mv G ad)) (st := st.map (am_mv G ad)) (by rw [am_cat_sum Fo.2.2.2.2.2.1]; exact hs8)
    have h2 := r9.2
    omega) kk
theorem r_mmax {idx : Nat} {x y9 : Int32} (hd : 1 ≤ d) (ha : am_at y pc (.invokestatic idx) 3) (hl : ∀ q, am_mt[y]? = some q → Cond.methodLink q.1.cls idx Lib.Math.max.name ∈ am_gt) (hw : Cond.static Lib.Math.max.name ∈ am_gt) (hw2 : Cond.initialized "java/lang/Math" ∈ am_gt) (hw3 : Cond.code Lib.Math.max.name Lib.Math.max.code 2 (some .int) ∈ am_gt) (hs8 : (st.map fun v => v.category).sum ≤ 8) (h : am_WP X d y (pc + 3) ls (.int (if x < y9 then y9 else x) :: st) S M L bc bs K) : am_WP X d y pc ls (.int y9 :: .int x :: st) S M L bc bs K := by
  refine am_step h (fun q p l e R s m args below meth c H locs cells slots Q G A ad lsm hq F Fo Wd Lo so rm kk => ?_)
  have r9 := rm.1 hd
  exact va_mmax F.1 F.2.1 (by rw [F.2.2.2.1]; exact Lo.2.1.1.symm) F.2.2.2.2.1 (F.2.2.2.2.2.1 _ (hl q hq)) (F.2.2.2.2.2.1 _ hw) (F.2.2.2.2.2.1 _ hw2) (F.2.2.2.2.2.1 _ hw3) r9.1 (by rw [am_cat_sum Fo.2.2.2.2.2.1]; have := r9.2; omega) rm.2.1 rm.2.2 (ha q hq) (kk (am_oc trivial (am_ot (am_ot so))))
theorem r_mmin {idx : Nat} {x y9 : Int32} (hd : 1 ≤ d) (ha : am_at y pc (.invokestatic idx) 3) (hl : ∀ q, am_mt[y]? = some q → Cond.methodLink q.1.cls idx Lib.Math.min.name ∈ am_gt) (hw : Cond.static Lib.Math.min.name ∈ am_gt) (hw2 : Cond.initialized "java/lang/Math" ∈ am_gt) (hw3 : Cond.code Lib.Math.min.name Lib.Math.min.code 2 (some .int) ∈ am_gt) (hs8 : (st.map fun v => v.category).sum ≤ 8) (h : am_WP X d y (pc + 3) ls (.int (if y9 < x then y9 else x) :: st) S M L bc bs K) : am_WP X d y pc ls (.int y9 :: .int x :: st) S M L bc bs K := by
  refine am_step h (fun q p l e R s m args below meth c H locs cells slots Q G A ad lsm hq F Fo Wd Lo so rm kk => ?_)
  have r9 := rm.1 hd
  exact va_mmin F.1 F.2.1 (by rw [F.2.2.2.1]; exact Lo.2.1.1.symm) F.2.2.2.2.1 (F.2.2.2.2.2.1 _ (hl q hq)) (F.2.2.2.2.2.1 _ hw) (F.2.2.2.2.2.1 _ hw2) (F.2.2.2.2.2.1 _ hw3) r9.1 (by rw [am_cat_sum Fo.2.2.2.2.2.1]; have := r9.2; omega) rm.2.1 rm.2.2 (ha q hq) (kk (am_oc trivial (am_ot (am_ot so))))
theorem r_mmaxl {idx : Nat} {x y9 : Int64} (hd : 1 ≤ d) (ha : am_at y pc (.invokestatic idx) 3) (hl : ∀ q, am_mt[y]? = some q → Cond.methodLink q.1.cls idx Lib.MathLoose.max_long.x ∈ am_gt) (hw : Cond.static Lib.MathLoose.max_long.x ∈ am_gt) (hw2 : Cond.initialized "java/lang/Math" ∈ am_gt) (hw3 : Cond.code Lib.MathLoose.max_long.x Lib.MathLoose.max_long.code 4 (some .long) ∈ am_gt) (hs8 : (st.map fun v => v.category).sum ≤ 8) (h : am_WP X d y (pc + 3) ls (.long (if y9 < x then x else y9) :: st) S M L bc bs K) : am_WP X d y pc ls (.long y9 :: .long x :: st) S M L bc bs K := by
  refine am_step h (fun q p l e R s m args below meth c H locs cells slots Q G A ad lsm hq F Fo Wd Lo so rm kk => ?_)
  have r9 := rm.1 hd
  exact va_mmax_long F.1 F.2.1 (by rw [F.2.2.2.1]; exact Lo.2.1.1.symm) F.2.2.2.2.1 (F.2.2.2.2.2.1 _ (hl q hq)) (F.2.2.2.2.2.1 _ hw) (F.2.2.2.2.2.1 _ hw2) (F.2.2.2.2.2.1 _ hw3) r9.1 (by rw [am_cat_sum Fo.2.2.2.2.2.1]; have := r9.2; omega) rm.2.1 rm.2.2 (ha q hq) (kk (am_oc trivial (am_ot (am_ot so))))
theorem r_mminl {idx : Nat} {x y9 : Int64} (hd : 1 ≤ d) (ha : am_at y pc (.invokestatic idx) 3) (hl : ∀ q, am_mt[y]? = some q → Cond.methodLink q.1.cls idx Lib.MathLoose.min_long.x ∈ am_gt) (hw : Cond.static Lib.MathLoose.min_long.x ∈ am_gt) (hw2 : Cond.initialized "java/lang/Math" ∈ am_gt) (hw3 : Cond.code Lib.MathLoose.min_long.x Lib.MathLoose.min_long.code 4 (some .long) ∈ am_gt) (hs8 : (st.map fun v => v.category).sum ≤ 8) (h : am_WP X d y (pc + 3) ls (.long (if y9 < x then y9 else x) :: st) S M L bc bs K) : am_WP X d y pc ls (.long y9 :: .long x :: st) S M L bc bs K := by
  refine am_step h (fun q p l e R s m args below meth c H locs cells slots Q G A ad lsm hq F Fo Wd Lo so rm kk => ?_)
  have r9 := rm.1 hd
  exact va_mmin_long F.1 F.2.1 (by rw [F.2.2.2.1]; exact Lo.2.1.1.symm) F.2.2.2.2.1 (F.2.2.2.2.2.1 _ (hl q hq)) (F.2.2.2.2.2.1 _ hw) (F.2.2.2.2.2.1 _ hw2) (F.2.2.2.2.2.1 _ hw3) r9.1 (by rw [am_cat_sum Fo.2.2.2.2.2.1]; have := r9.2; omega) rm.2.1 rm.2.2 (ha q hq) (kk (am_oc trivial (am_ot (am_ot so))))
theorem r_mabs {idx : Nat} {x : Int32} (hd : 1 ≤ d) (ha : am_at y pc (.invokestatic idx) 3) (hl : ∀ q, am_mt[y]? = some q → Cond.methodLink q.1.cls idx Lib.Math.abs.name ∈ am_gt) (hw : Cond.static Lib.Math.abs.name ∈ am_gt) (hw2 : Cond.initialized "java/lang/Math" ∈ am_gt) (hw3 : Cond.code Lib.Math.abs.name Lib.Math.abs.code 1 (some .int) ∈ am_gt) (hs8 : (st.map fun v => v.category).sum ≤ 8) (h : am_WP X d y (pc + 3) ls (.int (if 0 ≤ x then x else 0 - x) :: st) S M L bc bs K) : am_WP X d y pc ls (.int x :: st) S M L bc bs K := by
  refine am_step h (fun q p l e R s m args below meth c H locs cells slots Q G A ad lsm hq F Fo Wd Lo so rm kk => ?_)
  have r9 := rm.1 hd
  exact va_mabs F.1 F.2.1 (by rw [F.2.2.2.1]; exact Lo.2.1.1.symm) F.2.2.2.2.1 (F.2.2.2.2.2.1 _ (hl q hq)) (F.2.2.2.2.2.1 _ hw) (F.2.2.2.2.2.1 _ hw2) (F.2.2.2.2.2.1 _ hw3) r9.1 (by rw [am_cat_sum Fo.2.2.2.2.2.1]; have := r9.2; omega) rm.2.1 rm.2.2 (ha q hq) (kk (am_oc trivial (am_ot so)))
theorem r_copy {idx a b na nb : Nat} {sp dp n : Int32} (hd : 1 ≤ d) (ha : am_at y pc (.invokestatic idx) 3) (hl : ∀ q, am_mt[y]? = some q → Cond.methodLink q.1.cls idx arraycopyName ∈ am_gt) (hw : Cond.native arraycopyName ∈ am_gt) (hw2 : Cond.static arraycopyName ∈ am_gt) (hw3 : Cond.initialized "java/lang/System" ∈ am_gt) (hka : a < S.1) (hca : S.2.1 a = (1, na)) (hkb : b < S.1) (hcb : S.2.1 b = (1, nb)) (hab : a ≠ b)
    (h1 : ¬ sp < 0) (h2 : ¬ dp < 0) (h3 : ¬ n < 0) (h4 : sp.toNatClampNeg + n.toNatClampNeg ≤ na) (h5 : dp.toNatClampNeg + n.toNatClampNeg ≤ nb) (hs8 : (st.map fun v => v.category).sum ≤ 8)
    (h : am_WP X d y (pc + 3) ls st S (am_r M b (va_cpy (M a) (M b) sp.toNatClampNeg dp.toNatClampNeg n.toNatClampNeg)) L bc bs K) : am_WP X d y pc ls (.int n :: .int dp :: .ref b :: .int sp :: .ref a :: st) S M L bc bs K := by
  refine am_stepM h rfl (fun q p l e R s m args below meth c H locs cells slots Q G A ad lsm hq F Fo Wd Lo so rm kk => ?_)
  have r9 := rm.1 hd
  refine va_copyi F.1 F.2.1 (by rw [F.2.2.2.1]; exact Lo.2.1.1.symm) F.2.2.2.2.1 (F.2.2.2.2.2.1 _ (hl q hq)) (F.2.2.2.2.2.1 _ hw) (F.2.2.2.2.2.1 _ hw2) (F.2.2.2.2.2.1 _ hw3) Fo.1 Wd.1 Wd.2.1 Wd.2.2.1 a b 0 0 (by rw [am_ws_get hka, am_ce_arr hca (by decide)]; rfl) (by rw [am_ws_get hkb, am_ce_arr hcb (by decide)]; rfl) rfl rfl rfl h1 h2 h3 h4 h5 (fun _ _ => rfl) r9.1 (by rw [am_cat_sum Fo.2.2.2.2.2.1]; show _ + (5 + 2 + 11) ≤ R.locals; have := r9.2; omega) (ha q hq) (fun H1 locs1 hP hD hS => ?_)
  refine kk H1 locs1 (am_ot (am_ot (am_ot (am_ot (am_ot so))))) (am_Wd.put (S := S) (M := M) (L := L) (k := b) rfl rfl ?_ (fun i hi => ⟨rfl, am_r_ne hi, rfl⟩) Wd.2.2.2 hP hD hS)
  rw [am_ce_arr hcb (by decide)]
  simp [am_ar, am_r_same]
/-- n rows of k numbers, and the row of them -/
def am_mS (S : am_S) (N K : Nat) : am_S := (S.1 + 1 + N, (fun a => if a = S.1 then (6, N) else if S.1 < a ∧ a < S.1 + 1 + N then (1, K) else S.2.1 a), (fun a j => if a = S.1 then (if j < N then some (S.1 + 1 + j) else none) else if S.1 < a ∧ a < S.1 + 1 + N then none else S.2.2 a j))
def am_mM (S : am_S) (N : Nat) (M : am_M) : am_M := fun a => if S.1 ≤ a ∧ a < S.1 + 1 + N then (fun _ => 0) else M a
theorem am_mS_wf {S : am_S} {N K : Nat} (h : am_wf S) : am_wf (am_mS S N K) := by
  intro k j r hk h5 hr
  show r < S.1 + 1 + N
  have hk : k < S.1 + 1 + N := hk
  have hr : (if k = S.1 then (if j < N then some (S.1 + 1 + j) else none) else if S.1 < k ∧ k < S.1 + 1 + N then none else S.2.2 k j) = some r := hr
  have h5 : (if k = S.1 then (6, N) else if S.1 < k ∧ k < S.1 + 1 + N then (1, K) else S.2.1 k).1 ≠ 5 := h5
  by_cases e : k = S.1
  · rw [if_pos e] at hr
    split at hr
    · cases hr; omega
    · cases hr
  · rw [if_neg e] at hr h5
    by_cases e2 : S.1 < k ∧ k < S.1 + 1 + N
    · rw [if_pos e2] at hr; cases hr
    · rw [if_neg e2] at hr h5
      have := h k j r (by omega) h5 hr
      omega
def am_ma (ad : Nat → Nat) (n N q : Nat) (r : Nat → Nat) : Nat → Nat := fun a => if a = n then q else if n < a ∧ a < n + 1 + N then r (a - (n + 1)) else ad a
theorem am_ma_ext {ad : Nat → Nat} {S : am_S} {q N K : Nat} {r : Nat → Nat} : am_ext S ad (am_mS S N K) (am_ma ad S.1 N q r) := ⟨by show S.1 ≤ S.1 + 1 + N; omega, fun k hk => by unfold am_ma; rw [if_neg (by omega), if_neg (by omega)]⟩
theorem am_ws_mna {G : am_G} {ad r : Nat → Nat} {S : am_S} {M : am_M} {L : am_L} {N K q : Nat} {f : Nat → va_E} (hw : am_wf S) :
    (am_ws G ad S M L ++ [(q, .inl (G.2.1 6, N, .inr (.inr (.inr (.inr (fun i => if i < N then some (r i) else none))))))]) ++ va_pl ([] ++ (List.range N).map r) (vr_up f ((List.range N).map r) (.inl (G.2.1 1, K, .inl (fun _ => 0)))) = am_ws G (am_ma ad S.1 N q r) (am_mS S N K) (am_mM S N M) L := by
  have e0 : (am_mS S N K).1 = S.1 + 1 + N := rfl
  unfold am_ws
  rw [e0, List.range_add, List.map_append, List.range_succ, List.map_append]
  congr 1
  · congr 1
    · apply List.map_congr_left
      intro j hj
      have hj := List.mem_range.mp hj
      have e1 := am_ce_row (G := G) (ad := am_ma ad S.1 N q r) (S := S) (S' := am_mS S N K) (M := M) (M' := am_mM S N M) (L := L) (L' := L) (i := j) (by show (if j = S.1 then (6, N) else if S.1 < j ∧ j < S.1 + 1 + N then (1, K) else S.2.1 j) = _; rw [if_neg (by omega), if_neg (by omega)]) (by funext i; show (if j = S.1 then (if i < N then some (S.1 + 1 + i) else none) else if S.1 < j ∧ j < S.1 + 1 + N then none else S.2.2 j i) = _; rw [if_neg (by omega), if_neg (by omega)]) (by show (if S.1 ≤ j ∧ j < S.1 + 1 + N then (fun _ => 0) else M j) = _; rw [if_neg (by omega)]) rfl
      rw [e1, am_ce_ext hw (fun k hk => (am_ma_ext (N := N) (K := K)).2 k hk) hj, (am_ma_ext (S := S) (N := N) (K := K)).2 j hj]
    · rw [List.map_cons, List.map_nil, am_ce_arr (S := am_mS S N K) (t := 6) (n := N) (by simp [am_mS]) (by decide)]
      have e2 : am_ma ad S.1 N q r S.1 = q := by simp [am_ma]
      rw [e2]
      have e3 : (fun i => if i < N then some (r i) else none) = fun j => ((am_mS S N K).2.2 S.1 j).map (am_ma ad S.1 N q r) := by
        funext j
        show _ = (if S.1 = S.1 then (if j < N then some (S.1 + 1 + j) else none) else _).map _
        rw [if_pos rfl]
        by_cases hj : j < N
        · rw [if_pos hj, if_pos hj]
          show some (r j) = some (am_ma ad S.1 N q r (S.1 + 1 + j))
          unfold am_ma
          rw [if_neg (by omega), if_pos (by omega)]
          congr 2
          omega
        · rw [if_neg hj, if_neg hj]; rfl
      rw [e3]
      rfl
  · rw [List.nil_append]
    unfold va_pl
    rw [List.map_map, List.map_map]
    apply List.map_congr_left
    intro j hj
    have hj9 := List.mem_range.mp hj
    show (r j, vr_up f ((List.range N).map r) _ (r j)) = (am_ma ad S.1 N q r (S.1 + 1 + j), am_ce G _ _ _ _ (S.1 + 1 + j))
    rw [vr_up_in (List.mem_map.mpr ⟨j, hj, rfl⟩)]
    rw [am_ce_arr (S := am_mS S N K) (t := 1) (n := K) (by show (if S.1 + 1 + j = S.1 then (6, N) else if S.1 < S.1 + 1 + j ∧ S.1 + 1 + j < S.1 + 1 + N then (1, K) else _) = _; rw [if_neg (by omega), if_pos (by omega)]) (by decide)]
    have e4 : am_ma ad S.1 N q r (S.1 + 1 + j) = r j := by
      unfold am_ma
      rw [if_neg (by omega), if_pos (by omega)]
      congr 1
      omega
    have e5 : am_mM S N M (S.1 + 1 + j) = fun _ => 0 := by unfold am_mM; rw [if_pos (by omega)]
    rw [e4]
    simp [am_ar, e5]
theorem r_mna {idx : Nat} {n k : Int32} {N K9 : Nat} (ha : am_at y pc (.multianewarray idx 2) 4) (hl : ∀ q, am_mt[y]? = some q → Cond.classLink q.1.cls idx "[[I" ∈ am_gt)(hw2 : Cond.arrayClass .int ∈ am_gt) (hn : ¬ n < 0) (hk : ¬ k < 0) (hN : n.toNatClampNeg = N) (hM : k.toNatClampNeg = K9) (hb1 : N ≤ 1000) (hb2 : K9 ≤ 100000) (h1 : 1 + N ≤ bc) (h2 : N + N * K9 ≤ bs)
    (h : am_WP X d y (pc + 4) ls (.ref S.1 :: st) (am_mS S N K9) (am_mM S N M) L (bc - (1 + N)) (bs - (N + N * K9)) K) : am_WP X d y pc ls (.int k :: .int n :: st) S M L bc bs K := by
  refine am_stepN h h1 h2 (fun q p l e R s m args below meth c H locs cells slots Q G A ad lsm hq F Fo Wd Lo so rm kk => ?_)
  refine va_mna (X := am_ws G ad S M L) (L := []) (f := fun _ => .inr (0, [])) (ty := .int) (cy := G.2.1 1) (z := (K9, .inl (fun _ => 0))) F.1 F.2.1 F.2.2.2.2.1 (F.2.2.2.2.2.1 _ (hl q hq)) (va_AOA.of (Fo.2.2.2.2.2.2.2.2.2 _ (by decide))) (F.2.2.2.2.2.1 _ hw2) (Fo.1.2 0 _ rfl).2 Fo.1 (by simpa [va_pl] using Wd.1) (by simpa [va_pl] using Wd.2.1) Wd.2.2.1 Fo.2.1 hn hk hN hM (by omega) (by show K9 * 4 ≤ 536870912; omega) (by omega) rfl rfl rm.1 rm.2 (fun cc => ?_) (ha q hq) (fun q1 r cA H1 _ _ hK hP hD hS => ?_)
  · show ({ cls := cc, slots := Array.replicate K9 (.int 0), vm := .none } : Cell) = _
    rw [arrV_new]
    rfl
  · have hcA : cA = G.2.1 6 := by
      have e1 := (hK.2 7 _ rfl).2
      have e2 := (Fo.1.2 5 _ rfl).2
      exact Option.some.inj (e1.symm.trans e2)
    subst hcA
    rw [am_ws_mna Wd.2.2.2] at hP hD
    have kk := kk H1 locs (am_ma ad S.1 N q1 r) am_ma_ext (am_oc (by show S.1 < S.1 + 1 + N; omega) (fun v hv => am_ok_mono (am_ot (am_ot so) v hv) (by show S.1 ≤ S.1 + 1 + N; omega))) ⟨hP, hD, hS, am_mS_wf Wd.2.2.2⟩
    have e3 : List.map (am_mv G (am_ma ad S.1 N q1 r)) (.ref S.1 :: st) = .ref q1 :: st.map (am_mv G ad) := by
      rw [List.map_cons, am_mv_ref]
      congr 1
      · simp [am_ma]
      · exact List.map_congr_left (fun v hv => am_mv_ext (am_ot (am_ot so) v hv) (am_ma_ext (S := S) (N := N) (K := K9)).2)
    rw [e3] at kk
    rw [show cells + 1 + N = cells + (1 + N) by omega, show slots + N + N * K9 = slots + (N + N * K9) by omega]
    exact kk
end R7
