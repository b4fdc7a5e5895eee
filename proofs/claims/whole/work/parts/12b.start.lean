/-- what holds at the law's entry is what the small machine asks of a start -/
theorem am_begin {p : Program} {s : State} {m : MethodId} {meth : Method} {c : Code} {b L : Nat} {xs : Nat → Int32} (C0 : lw_At p s m meth c b L xs) : ∃ G : am_G, G.2.2.1 0 = b ∧ am_For (L, xs) G (fun q => s.heap.size ≤ q) s s.heap := by
  obtain ⟨hx, hb, hr, hml, hown, hts, hX, hbl, hlocks, hgv⟩ := C0
  have hfl : ∀ c ∈ am_fla, c.before #[Value.ref b] s = true := flat_of_before _ hgv
  have htb : ∀ w ∈ tables_1, w.before #[Value.ref b] s = true := fun w hw => hts w (List.mem_append_right _ hw)
  have hgt : ∀ w ∈ am_gt, w.before #[Value.ref b] s = true := fun w hw => hts w (am_gt_sub hw)
  have hA : ∀ a : Nat, a < s.heap.size → ¬ (fun q : Nat => s.heap.size ≤ q) a := fun a ha h => absurd ha (Nat.not_lt.mpr h)
  have h0 : ∀ ci : Nat, ∃ z : ClassId × (Nat → Nat), ∀ r : vw_C, vwCl[ci]? = some r → u_Kn s r.1 r.2.1 r.2.2 z.1 z.2 := by
    intro ci
    cases hc : vwCl[ci]? with
    | none => exact ⟨(0, fun _ => 0), fun r h => by cases h⟩
    | some r =>
      obtain ⟨cC, iS, h⟩ := u_known (C := r.1) (T := r.2.1) (N := r.2.2) (n := r.2.2) hgt (am_cls ci r hc).1 (hgt _ (w_inst r (List.mem_of_getElem? hc)).1)
      exact ⟨(cC, iS), fun r' h' => by cases h'; exact h⟩
  obtain ⟨fD, hD⟩ := Classical.axiomOfChoice h0
  have prim : ∀ ty : FieldType, Cond.arrayClass ty ∈ am_gt → ∃ cA : ClassId, ArrOfT s cA ty ∧ s.vm.findClass ("[" ++ ty.toString) = some cA := by
    intro ty hty
    obtain ⟨cA, k, comp, h1, h2, h3⟩ := Cond.arrayClass_spec (hgt _ hty)
    exact ⟨cA, fun n z => ⟨(fun _ h9 => by cases h9), k, h2, comp, h3⟩, h1⟩
  obtain ⟨cI, hI1, hI2⟩ := prim .int w_arrI
  obtain ⟨cB, hB1, hB2⟩ := prim .byte w_arrB
  obtain ⟨cZ, hZ1, hZ2⟩ := prim .boolean w_arrZ
  obtain ⟨cJ, hJ1, hJ2⟩ := prim .long w_arrJ
  have ovr : ∀ n : String, Cond.arrayOver (.object n) ∈ tables_1 → ∃ cA : ClassId, ArrOfT s cA (.object n) ∧ va_RA s cA (.object n) := by
    intro n hn
    obtain ⟨comp, cA, k, h1, -, h2, h3, h4⟩ := Cond.arrayOver_spec (htb _ hn)
    exact ⟨cA, fun n z => ⟨(fun _ h9 => by cases h9), k, h2, comp, h3⟩, k, comp, h2, h3, h1, h4⟩
  obtain ⟨cS, hS1, hS2⟩ := ovr "java/lang/String" (tb_ovs _ (by decide))
  obtain ⟨cQ, hQ1, hQ2⟩ := ovr "LookTimes$Lab" (tb_ovs _ (by decide))
  obtain ⟨cG, hG1, hG2⟩ : ∃ cA : ClassId, ArrOfT s cA (.array .int) ∧ va_RA s cA (.array .int) := by
    obtain ⟨comp, cA, k, h1, h2, h3, h4⟩ := Cond.arrayOver_specA (htb _ (tb_ovs (.array .int) (by decide)))
    exact ⟨cA, fun n z => ⟨(fun _ h9 => by cases h9), k, h2, comp, h3⟩, h4⟩
  have sta : ∀ z ∈ ([("AFTER_W", 4, 1), ("AFTER_MOST", 3, 2)] : List (String × Nat × Nat)), ∃ t : Nat, (Term.static "LookTimes" z.1 "[I").eval #[Value.ref b] s none [] s = some (.ref t) ∧ va_T .int t z.2.1 (fun j => .int ((am_sta z.2.2).getD j 0)) (fun q => s.heap.size ≤ q) s s.heap := by
    intro z hz
    obtain ⟨f1, f2, f3⟩ := fl_sta z hz
    exact va_Tof (by simp only [List.mem_cons, List.not_mem_nil, or_false] at hz; rcases hz with rfl | rfl <;> decide) (hfl _ f1) (va_eqt (hfl _ f2)) (fun j hj => va_eqt (hfl _ (f3 j hj))) hA
  obtain ⟨t1, ht1, hT1⟩ := sta ("AFTER_W", 4, 1) (by decide)
  obtain ⟨t2, ht2, hT2⟩ := sta ("AFTER_MOST", 3, 2) (by decide)
  obtain ⟨adK, adV, hstr, hev⟩ := vk_Sof (N := 17) (tm := am_stm) (len := am_lens) (byt := am_byts) (by decide) (fun i hi => hfl _ (fl_exa i hi)) (fun i hi => hfl _ (fl_cod i hi)) (fun i hi => hfl _ (fl_arr i hi)) (fun i hi => hfl _ (fl_len i hi)) (fun i hi j hj => hfl _ (fl_elm i hi j hj)) (fun i j hi hj hij => (fl_neq i hi j hj hij).imp (hfl _) (hfl _)) hA
  obtain ⟨fz, hfz, hfzZ⟩ : ∃ fz : Value, (fz = .null ∨ ∃ a, fz = .ref a) ∧ va_Z "jdk/internal/util/Preconditions" "SIOOBE_FORMATTER" "Ljava/util/function/BiFunction;" fz (fun q => s.heap.size ≤ q) s s.heap := by
    have := va_Zqof (htb _ (tb_lay ("jdk/internal/util/Preconditions", "SIOOBE_FORMATTER", "Ljava/util/function/BiFunction;") (by decide)).1) (htb _ (tb_lay ("jdk/internal/util/Preconditions", "SIOOBE_FORMATTER", "Ljava/util/function/BiFunction;") (by decide)).2) (hfl _ fl_fmt) hA
    rcases this with h | ⟨t, h⟩
    · exact ⟨.null, Or.inl rfl, h⟩
    · exact ⟨.ref t, Or.inr ⟨t, rfl⟩, h⟩
  refine ⟨((fun ci => (fD ci).1, fun ci => (fD ci).2), (fun k => [0, cI, cB, cZ, cJ, cS, cG, cQ].getD k 0), (fun i => if i = 0 then b else if i = 1 then t1 else if i = 2 then t2 else if i < 40 then adK (i - 10) else adV (i - 40)), fz), rfl, ?_⟩
  refine ⟨⟨fun ci r hr => hD ci r hr, ?_⟩, fun q h => h, ⟨hX, hbl, Nat.not_le.mpr hbl⟩, ⟨hT1, hT2⟩, ⟨?_, ?_, ?_, hfzZ⟩, hfz, ?_, ?_, ?_, ?_⟩
  · intro k q hk
    match k, hk with
    | 0, hk => cases hk; exact ⟨hI1, hI2⟩
    | 1, hk => cases hk; exact ⟨hB1, hB2⟩
    | 2, hk => cases hk; exact ⟨hZ1, hZ2⟩
    | 3, hk => cases hk; exact ⟨hJ1, hJ2⟩
    | 4, hk => cases hk; exact ⟨hS1, hS2⟩
    | 5, hk => cases hk; exact ⟨hG1, hG2⟩
    | 6, hk => cases hk; exact ⟨hQ1, hQ2⟩
    | k + 7, hk => simp [am_tys] at hk
  · exact va_Zof (htb _ (tb_lay ("LookTimes", "AFTER_W", "[I") (by decide)).1) (htb _ (tb_lay ("LookTimes", "AFTER_W", "[I") (by decide)).2) ht1 hA
  · exact va_Zof (htb _ (tb_lay ("LookTimes", "AFTER_MOST", "[I") (by decide)).1) (htb _ (tb_lay ("LookTimes", "AFTER_MOST", "[I") (by decide)).2) ht2 hA
  · exact va_Zof (htb _ (tb_lay ("java/lang/String", "COMPACT_STRINGS", "Z") (by decide)).1) (htb _ (tb_lay ("java/lang/String", "COMPACT_STRINGS", "Z") (by decide)).2) (va_eqi (hfl _ fl_cmp)) hA
  · have e1 : ∀ i, i < 17 → (if 10 + i = 0 then b else if 10 + i = 1 then t1 else if 10 + i = 2 then t2 else if 10 + i < 40 then adK (10 + i - 10) else adV (10 + i - 40)) = adK i := fun i hi => by
      rw [if_neg (by omega), if_neg (by omega), if_neg (by omega), if_pos (by omega)]
      congr 1
      omega
    have e2 : ∀ i, (if 40 + i = 0 then b else if 40 + i = 1 then t1 else if 40 + i = 2 then t2 else if 40 + i < 40 then adK (40 + i - 10) else adV (40 + i - 40)) = adV i := fun i => by
      rw [if_neg (by omega), if_neg (by omega), if_neg (by omega), if_neg (by omega)]
      congr 1
      omega
    refine ⟨fun i hi => ?_, fun i j hi hj h => ?_⟩
    · show va_O "java/lang/String" (if 10 + i = 0 then b else if 10 + i = 1 then t1 else if 10 + i = 2 then t2 else if 10 + i < 40 then adK (10 + i - 10) else adV (10 + i - 40)) _ _ _ ∧ va_OF _ _ _ _ (if 10 + i = 0 then b else if 10 + i = 1 then t1 else if 10 + i = 2 then t2 else if 10 + i < 40 then adK (10 + i - 10) else adV (10 + i - 40)) _ _ _ ∧ va_OF _ _ _ (.ref (if 40 + i = 0 then b else if 40 + i = 1 then t1 else if 40 + i = 2 then t2 else if 40 + i < 40 then adK (40 + i - 10) else adV (40 + i - 40))) (if 10 + i = 0 then b else if 10 + i = 1 then t1 else if 10 + i = 2 then t2 else if 10 + i < 40 then adK (10 + i - 10) else adV (10 + i - 40)) _ _ _ ∧ va_T _ (if 40 + i = 0 then b else if 40 + i = 1 then t1 else if 40 + i = 2 then t2 else if 40 + i < 40 then adK (40 + i - 10) else adV (40 + i - 40)) _ _ _ _ _
      rw [e1 i hi, e2 i]
      exact hstr.1 i hi
    · have h : (if 10 + i = 0 then b else if 10 + i = 1 then t1 else if 10 + i = 2 then t2 else if 10 + i < 40 then adK (10 + i - 10) else adV (10 + i - 40)) = (if 10 + j = 0 then b else if 10 + j = 1 then t1 else if 10 + j = 2 then t2 else if 10 + j < 40 then adK (10 + j - 10) else adV (10 + j - 40)) := h
      rw [e1 i hi, e1 j hj] at h
      exact hstr.2 i j hi hj h
  · intro q hq
    have h1 := htb _ (tb_str q hq)
    obtain ⟨hi, he⟩ := fl_stm q hq
    have h2 := hev q.2.2.2 hi
    rw [he] at h2
    have e1 : (if 10 + q.2.2.2 = 0 then b else if 10 + q.2.2.2 = 1 then t1 else if 10 + q.2.2.2 = 2 then t2 else if 10 + q.2.2.2 < 40 then adK (10 + q.2.2.2 - 10) else adV (10 + q.2.2.2 - 40)) = adK q.2.2.2 := by
      rw [if_neg (by omega), if_neg (by omega), if_neg (by omega), if_pos (by omega)]
      congr 1
      omega
    show vk_R q.1 q.2.1 q.2.2.1 (if 10 + q.2.2.2 = 0 then b else if 10 + q.2.2.2 = 1 then t1 else if 10 + q.2.2.2 = 2 then t2 else if 10 + q.2.2.2 < 40 then adK (10 + q.2.2.2 - 10) else adV (10 + q.2.2.2 - 40)) s
    rw [e1]
    exact vk_R.of h1 h2
  · intro w hw
    exact va_Nw.of (tb_nest w hw).2 (htb _ (tb_nest w hw).1)
  · intro ty hty
    exact htb _ (tb_ovs ty hty)

def am_S0 : am_S := (0, (fun _ => (0, 0)), fun _ _ => none)
/-- the law's entry, by the small machine's own walk of the law -/
theorem am_law (Hw : ∀ X : am_X, X.1 ≤ 3072 → am_WP X 1000 262 0 [some (.retAddr 0), none, none, none] [] am_S0 (fun _ _ => 0) (fun _ _ => 0) 300000 3000000 (fun r _ _ _ => r = some (.int 1))) {p : Program} {e : Env} {s : State} {m : MethodId} {below : List Frame} {meth : Method} {c : Code} (l : Launch) {b L : Nat} {xs : Nat → Int32} (hL : L ≤ 3072) (C0 : lw_At p s m meth c b L xs) : W p l e room_1 s m #[Value.ref b] below meth c s.heap [] 0 0 (lw_Z below #[Value.ref b] s) (entryFrame m ([Value.ref b] : List Value).toArray 4) := by
  obtain ⟨G, hG, hFo⟩ := am_begin C0
  obtain ⟨hx, hb, hr, hml, hown, hts, hX, hbl, hlocks, hgv⟩ := C0
  have hz := hFo.2.2.2.2.2.1
  have F : am_Fix (yL_law, cL_law, 4, (some .boolean), 1, 1, 708928, 6975464) p s m #[Value.ref b] meth c := ⟨hx, hb, hr, hml, hown, fun w hw => hts w (am_gt_sub hw), hlocks, fun h => absurd h (by decide)⟩
  have hl := lv_entry ([Value.ref b]) (n := 4) (Nat.le_of_ble_eq_true rfl)
  rw [lg_entry_eq]
  generalize (lg_sl ([Value.ref b]) ++ List.replicate (4 - (lg_sl ([Value.ref b])).length) Slot.unset).toArray = lsm at hl ⊢
  have e0 : ([Value.retAddr 0].map (am_mv G (fun _ => 0))) = [Value.ref b] := by
    rw [List.map_cons, List.map_nil, am_mv_for (by decide), hG]
  have Lo : am_Loc G (fun _ => 0) am_S0.1 4 [some (.retAddr 0), none, none, none] lsm := by
    refine ⟨rfl, ⟨hl.1, hl.2.1, fun z hz9 => ?_⟩, fun i v hv => ?_⟩
    · obtain ⟨v, hv, he⟩ := am_asc_mem.mp (show (z.1, z.2) ∈ _ from hz9)
      have g := (am_en_get hz (ad := fun _ => 0) 4 [.retAddr 0] 0 z.1 v hv).1
      rw [Nat.zero_add, ← he, e0] at g
      exact hl.2.2 z g
    · have g := (am_en_get hz (ad := fun _ => 0) 4 [.retAddr 0] 0 i v hv).2
      rw [List.mem_singleton] at g
      subst g
      trivial
  refine Hw (L, xs) hL (yL_law, cL_law, 4, (some .boolean), 1, 1, 708928, 6975464) p l e room_1 s m #[Value.ref b] below meth c s.heap [] 0 0 (lw_Z below #[Value.ref b] s) G (fun q => s.heap.size ≤ q) (fun _ => 0) lsm room_1.cells room_1.slots rfl F hFo ⟨fun k q h => by simp [am_ws, am_S0] at h, ⟨fun i j p q h => by simp [am_ws, am_S0] at h, fun k q h => by simp [am_ws, am_S0] at h⟩, va_S.rf, fun k j r hk => absurd hk (Nat.not_lt_zero k)⟩ Lo (fun _ h9 => by cases h9) ⟨by decide, by decide, by decide, by decide, Nat.le_refl _, Nat.le_refl _⟩ ?_
  intro r S' M' L' ad' H' locs' pc' ls' hK Wd' hok hext hrt
  have hK : r = some (.int 1) := hK
  subst hK
  exact va_forget Wd'.2.2.1.2.2 (lw_ret hx hb hr hlocks hrt.1)
