theorem usesP_congr {f g : Nat → Int32} {p : Int32} : ∀ n, (∀ i, i < n → f i = g i) → usesP f p n = usesP g p n := by
  intro n
  induction n with
  | zero => intro _; rfl
  | succ n ih =>
    intro h
    unfold usesP
    rw [ih (fun i hi => h i (by omega)), h n (by omega)]
/-- the stage is another: the lab, the laws and the rest stay -/
theorem mkSR {S : am_S} {cs : List Nat} {fs : List (Nat × Nat)} {M M' : am_M} (h : Rel S M) (f : Fr cs fs M M') (g : okF cs fs ([32, 33, 34, 35, 36, 37, 38, 79, 80, 81, 82, 83, 84, 85] ++ rsPg ++ [113, 3, 86, 1, 71, 115, 116, 117, 118]) ([(31, 7), (31, 8), (31, 9), (31, 10), (31, 11), (31, 12), (31, 13), (70, 17), (70, 18), (70, 19), (70, 20), (70, 21), (70, 22), (70, 23)] ++ psPg ++ psNm ++ psSp ++ psBk ++ [(2, 5), (70, 25)]) = true) (h1 : (cs.all fun c => decide (c < 119)) = true) (h2 : (fs.all fun z => decide (z.1 < 119)) = true) (hs : pSt M') (hF : FnR M' M') (e5 : nP M ≤ nP M') (e6 : ∀ p, p < nP M → nm (M 77 p) ≤ nm (M' 77 p)) : Rel S M' := by
  have a := (f.rw g).1
  have b := (f.rw g).2
  have m : ∀ j, (31, j) ∈ psLb → M' 31 j = M 31 j := fun j hj => b (31, j) (by
    have : j = 7 ∨ j = 8 ∨ j = 9 ∨ j = 10 ∨ j = 11 ∨ j = 12 ∨ j = 13 := by
      simp [psLb] at hj; omega
    rcases this with rfl | rfl | rfl | rfl | rfl | rfl | rfl <;> decide)
  have e17 : nB M' = nB M := by unfold nB; rw [b (70, 17) (by decide)]
  have q17 : M' 70 17 = M 70 17 := b (70, 17) (by decide)
  have q18 : M' 70 18 = M 70 18 := b (70, 18) (by decide)
  have q19 : M' 70 19 = M 70 19 := b (70, 19) (by decide)
  have q20 : M' 70 20 = M 70 20 := b (70, 20) (by decide)
  have q21 : M' 70 21 = M 70 21 := b (70, 21) (by decide)
  have q22 : M' 70 22 = M 70 22 := b (70, 22) (by decide)
  have q23 : M' 70 23 = M 70 23 := b (70, 23) (by decide)
  have hl : pLb M' := by
    refine ⟨?_, ?_⟩
    · have c := h.lb.c
      unfold LabR at c ⊢
      rw [e17, m 7 (by decide), m 8 (by decide), m 9 (by decide), m 10 (by decide), m 11 (by decide), m 12 (by decide), m 13 (by decide), q17, q18, q19, q20, q21, q22, q23, a (31 + 1) (by decide), a (31 + 2) (by decide), a (31 + 3) (by decide), a (31 + 4) (by decide), a (31 + 5) (by decide), a (31 + 6) (by decide), a (31 + 7) (by decide), a 79 (by decide), a 80 (by decide), a 81 (by decide), a 82 (by decide), a 83 (by decide), a 84 (by decide), a 85 (by decide)]
      exact c
    · have i : ILb M M' := by
        have i := h.lb.i
        unfold ILb at i ⊢
        rw [e17, q17, q18, q19, q20, q21, q22, q23, a 79 (by decide), a 80 (by decide), a 81 (by decide), a 83 (by decide), a 84 (by decide), a 85 (by decide)]
        exact i
      exact i.of e5 e6
  exact ⟨h.env, hs, hl, h.pg.fr f (okF_sub g (by decide) (by decide)), h.nm.fr f (okF_sub g (by decide) (by decide)), h.sp.fr f (okF_sub g (by decide) (by decide)), h.bk.fr f (okF_sub g (by decide) (by decide)), h.tx.fr f (okF_sub g (by decide) (by decide)), rf.fr h.rf f (okF_sub g (by decide) (by decide)), h.im.fr f (okF_sub g (by decide) (by decide)) h1 h2 e5 e6, hF⟩
section T95
variable {X : am_X} {d : Nat} {S : am_S} {M : am_M} {L : am_L}
theorem P_liked {a b : Int32} (h : Rel S M) : Pair X (d + 60) m_L_liked m_R_liked [.int a, .int b] S M L := by
  intro K k
  refine c_L_liked h.env ?_
  refine k _ S _ L h.env ?_
  intro K2 k2
  refine c_R_liked h.env ?_
  refine k2 S _ L ?_
  unfold uR_liked uL_liked
  by_cases e : o_liked a b = 9
  · rw [if_pos e, if_pos e]
    have c : (0 ≤ a ∧ a ≤ 4) ∧ (0 ≤ b ∧ b ≤ 99) := by
      unfold o_liked at e
      by_cases c1 : 0 ≤ a ∧ a ≤ 4
      · rw [if_pos c1] at e
        by_cases c2 : 0 ≤ b ∧ b ≤ 99
        · exact ⟨c1, c2⟩
        · rw [if_neg c2] at e; exact absurd e (by decide)
      · rw [if_neg c1] at e; exact absurd e (by decide)
    have b1 := in_nI (lo := 0) (hi := 99) (by decide) (by decide) c.2
    have f : Fr [24, 72] [(62, 8)] M (am_u (am_u (am_u M 24 a.toNatClampNeg b) 62 8 0) 72 a.toNatClampNeg b) := ((Fr.refl.u (by decide)).uf (by decide)).u (by decide)
    refine mkSR h f (by decide) (by decide) (by decide) ⟨?_, ?_⟩ (h.fn.fgt f (by decide) ?_) ?_ ?_
    · have q := h.st.c
      unfold CSs at q ⊢
      simp (disch := decide) only [am_u_ne, u_row]
      obtain ⟨q1, q2, q3, q4⟩ := q
      refine ⟨q1, q2, ?_, q4⟩
      funext j
      by_cases e2 : j = a.toNatClampNeg
      · rw [e2, am_u_same, am_u_same]
      · rw [am_u_ne (fun w => e2 w.2), am_u_ne (fun w => e2 w.2), u_row (by decide), u_row (by decide), q3]
    · have q := h.st.i
      unfold IVs nS nP at q ⊢
      simp (disch := decide) only [am_u_ne, u_row]
      obtain ⟨q1, q2, q3, q4, q5, q6, q7⟩ := q
      refine ⟨q1, q2, q3, q4, q5, q6, fun s hs => ?_⟩
      by_cases e2 : s = a.toNatClampNeg
      · rw [e2, am_u_same]; exact ⟨b1.1, b1.2.2⟩
      · rw [am_u_ne (fun w => e2 w.2), u_row (by decide), u_row (by decide)]; exact q7 s hs
    · rw [u_row (by decide), am_u_same]
    · unfold nP
      simp (disch := decide) only [am_u_ne, u_row]
      exact Nat.le_refl _
    · intro p _
      simp (disch := decide) only [u_row]
      exact Nat.le_refl _
  · rw [if_neg e, if_neg e]
    exact h.ref
theorem P_plan (h : Rel S M) : Pair X (d + 60) m_L_plan m_R_plan [] S M L := by
  intro K k
  have n4 := h.st.i.np.2
  refine c_L_plan h.env (np := nP M) (h.st.c.f8.trans h.st.i.np.1) n4 ?_
  rw [h.st.c.f8]
  refine k _ S _ L h.env ?_
  intro K2 k2
  by_cases e : o_plan (M 70 9) = 9
  · rw [if_pos e] at k2 ⊢
    have n3 : nP M < 4 := by
      rcases Nat.lt_or_ge (nP M) 4 with c | c
      · exact c
      · unfold o_plan at e
        rw [if_pos (by rw [h.st.i.np.1, show nP M = 4 by omega]; rfl)] at e
        exact absurd e (by decide)
    have e1 : M 70 9 + 1 = nI (nP M + 1) := by rw [h.st.i.np.1, nI_succ]
    have e9 : (am_u (am_u M 30 (nP M) 0) 23 8 (M 70 9 + 1)) 70 9 = M 70 9 := by simp (disch := decide) only [u_row]
    refine c_R_plan h.env (np := nP M) (by rw [e9]; exact h.st.i.np.1) n4 ?_
    rw [e9, if_pos e, if_pos e]
    refine k2 S _ L ?_
    have f : Fr [30, 77] [(23, 8), (70, 9)] M (am_u (am_u (am_u (am_u M 30 (nP M) 0) 23 8 (M 70 9 + 1)) 77 (nP M) 0) 70 9 (M 70 9 + 1)) := (((Fr.refl.u (by decide)).uf (by decide)).u (by decide)).uf (by decide)
    have nP2 : nP (am_u (am_u (am_u (am_u M 30 (nP M) 0) 23 8 (M 70 9 + 1)) 77 (nP M) 0) 70 9 (M 70 9 + 1)) = nP M + 1 := by
      show nm (am_u _ 70 9 (M 70 9 + 1) 70 9) = _
      rw [am_u_same, e1, nm_nI (by omega)]
    refine mkSR h f (by decide) (by decide) (by decide) ⟨?_, ?_⟩ (h.fn.fr f (by decide)) (by rw [nP2]; omega) ?_
    · have q := h.st.c
      unfold CSs at q ⊢
      simp (disch := decide) only [am_u_ne, am_u_same, u_row, true_and]
      obtain ⟨q1, q2, q3, q4, q5, q6, q7, q8, q9⟩ := q
      refine ⟨q1, q3, q4, q5, q6, q7, q8, ?_⟩
      funext j
      by_cases e2 : j = nP M
      · rw [e2, am_u_same, am_u_same]
      · rw [am_u_ne (fun w => e2 w.2), am_u_ne (fun w => e2 w.2), u_row (by decide), u_row (by decide), q9]
    · have q := h.st.i
      unfold IVs at q ⊢
      rw [nP2]
      unfold nS at q ⊢
      simp (disch := decide) only [am_u_ne, am_u_same, u_row]
      obtain ⟨q1, q2, q3, q4, q5⟩ := q
      refine ⟨q1, ⟨e1, by omega⟩, fun p hp => ?_, fun p t hp ht => ?_, q5⟩
      · by_cases e2 : p = nP M
        · rw [e2, am_u_same]; exact ⟨rfl, by decide⟩
        · rw [am_u_ne (fun w => e2 w.2), u_row (by decide), u_row (by decide)]; exact q3 p (by omega)
      · by_cases e2 : p = nP M
        · rw [e2, am_u_same] at ht; exact absurd ht (by show ¬ t < 0; omega)
        · rw [am_u_ne (fun w => e2 w.2), u_row (by decide), u_row (by decide)] at ht; exact q4 p t (by omega) ht
    · intro p hp
      rw [u_row (by decide), am_u_ne (fun w => by omega), u_row (by decide), u_row (by decide)]
      exact Nat.le_refl _
  · rw [if_neg e] at k2 ⊢
    have e9 : (rfL M 1) 70 9 = M 70 9 := frL 70 9 (by decide) (by decide)
    refine c_R_plan h.env (np := nP M) (by rw [e9]; exact h.st.i.np.1) n4 ?_
    rw [e9, if_neg e, if_neg e]
    exact k2 S _ L h.ref
theorem P_screen {f1 h1 s1 q1 : Int32} (h : Rel S M) : Pair X (d + 60) m_L_screen m_R_screen [.int f1, .int h1, .int s1, .int q1] S M L := by
  intro K k
  have n12 := h.st.i.ns.2
  refine c_L_screen h.env (ns := nS M) (h.st.c.f7.trans h.st.i.ns.1) n12 ?_
  unfold uL_screen
  rw [h.st.c.f7]
  refine k _ S _ L h.env ?_
  intro K2 k2
  by_cases e : o_screen (M 70 8) f1 h1 s1 q1 = 9
  · rw [if_pos e] at k2 ⊢
    have cc : (0 ≤ q1 ∧ q1 ≤ 4) ∧ ¬ M 70 8 = 12 ∧ (0 ≤ s1 ∧ s1 ≤ 9) := by
      unfold o_screen at e
      by_cases c1 : 0 ≤ q1 ∧ q1 ≤ 4
      · rw [if_pos c1] at e
        by_cases c2 : M 70 8 = 12
        · rw [if_pos c2] at e; exact absurd e (by decide)
        · rw [if_neg c2] at e
          by_cases c3 : (0 ≤ f1 ∧ f1 ≤ 9) ∧ (-9 ≤ h1 ∧ h1 ≤ 9) ∧ (0 ≤ s1 ∧ s1 ≤ 9) ∧ 0 ≤ f1 + h1 ∧ f1 + h1 ≤ 9
          · exact ⟨c1, c2, c3.2.2.1⟩
          · rw [if_neg c3] at e; exact absurd e (by decide)
      · rw [if_neg c1] at e; exact absurd e (by decide)
    have n11 : nS M < 12 := by
      rcases Nat.lt_or_ge (nS M) 12 with c | c
      · exact c
      · exact absurd (by rw [h.st.i.ns.1, show nS M = 12 by omega]; rfl) cc.2.1
    have kq := in_nI (lo := 0) (hi := 4) (by decide) (by decide) cc.1
    have sq := in_nI (lo := 0) (hi := 9) (by decide) (by decide) cc.2.2
    have e1 : M 70 8 + 1 = nI (nS M + 1) := by rw [h.st.i.ns.1, nI_succ]
    have e8 : (am_u (am_u (am_u (am_u (am_u (am_u M 62 8 0) 25 (nS M) f1) 26 (nS M) h1) 27 (nS M) s1) 28 (nS M) q1) 23 7 (M 70 8 + 1)) 70 8 = M 70 8 := by simp (disch := decide) only [u_row]
    refine c_R_screen h.env (ns := nS M) (by rw [e8]; exact h.st.i.ns.1) n12 ?_
    unfold uR_screen
    rw [e8, if_pos e, if_pos e]
    refine k2 S _ L ?_
    have f : Fr [25, 26, 27, 28, 73, 74, 75, 76] [(62, 8), (23, 7), (70, 8)] M (am_u (am_u (am_u (am_u (am_u (am_u (am_u (am_u (am_u (am_u (am_u M 62 8 0) 25 (nS M) f1) 26 (nS M) h1) 27 (nS M) s1) 28 (nS M) q1) 23 7 (M 70 8 + 1)) 73 (nS M) f1) 74 (nS M) h1) 75 (nS M) s1) 76 (nS M) q1) 70 8 (M 70 8 + 1)) := ((((((((((Fr.refl.uf (by decide)).u (by decide)).u (by decide)).u (by decide)).u (by decide)).uf (by decide)).u (by decide)).u (by decide)).u (by decide)).u (by decide)).uf (by decide)
    refine mkSR h f (by decide) (by decide) (by decide) ⟨?_, ?_⟩ (h.fn.fgt f (by decide) ?_) ?_ ?_
    · have q := h.st.c
      unfold CSs at q ⊢
      simp (disch := decide) only [am_u_ne, am_u_same, u_row, true_and]
      obtain ⟨q1, q2, q3, q4, q5, q6, q7, q8⟩ := q
      have rw9 : ∀ (A B : am_M) (c c' : Nat) (x : Int32), A c = B c' → am_u A c (nS M) x c = am_u B c' (nS M) x c' := fun A B c c' x hh => by
        funext j
        by_cases e2 : j = nS M
        · rw [e2, am_u_same, am_u_same]
        · rw [am_u_ne (fun w => e2 w.2), am_u_ne (fun w => e2 w.2), hh]
      refine ⟨q2, q3, rw9 _ _ 25 73 f1 ?_, rw9 _ _ 26 74 h1 ?_, rw9 _ _ 27 75 s1 ?_, rw9 _ _ 28 76 _ ?_, q8⟩
      · simp (disch := decide) only [u_row]; exact q4
      · simp (disch := decide) only [u_row]; exact q5
      · simp (disch := decide) only [u_row]; exact q6
      · simp (disch := decide) only [u_row]; exact q7
    · have q := h.st.i
      have nS2 : nS (am_u (am_u (am_u (am_u (am_u (am_u (am_u (am_u (am_u (am_u (am_u M 62 8 0) 25 (nS M) f1) 26 (nS M) h1) 27 (nS M) s1) 28 (nS M) q1) 23 7 (M 70 8 + 1)) 73 (nS M) f1) 74 (nS M) h1) 75 (nS M) s1) 76 (nS M) q1) 70 8 (M 70 8 + 1)) = nS M + 1 := by
        show nm (am_u _ 70 8 (M 70 8 + 1) 70 8) = _
        rw [am_u_same, e1, nm_nI (by omega)]
      unfold IVs at q ⊢
      rw [nS2]
      unfold nP at q ⊢
      simp (disch := decide) only [am_u_ne, am_u_same, u_row]
      obtain ⟨q1, q2, q3, q4, q5, q6, q7⟩ := q
      refine ⟨⟨e1, by omega⟩, q2, q3, fun p t hp ht => ⟨(q4 p t hp ht).1, by have := (q4 p t hp ht).2; omega⟩, fun s hs => ?_, fun s hs => ?_, q7⟩
      · by_cases e2 : s = nS M
        · rw [e2, am_u_same]; exact ⟨kq.1, by omega⟩
        · rw [am_u_ne (fun w => e2 w.2)]
          simp (disch := decide) only [u_row]
          exact q5 s (by omega)
      · by_cases e2 : s = nS M
        · rw [e2, am_u_same]; exact ⟨sq.1, sq.2.2⟩
        · rw [am_u_ne (fun w => e2 w.2)]
          simp (disch := decide) only [u_row]
          exact q6 s (by omega)
    · simp (disch := decide) only [u_row, am_u_ne, am_u_same]
    · unfold nP
      simp (disch := decide) only [am_u_ne, u_row]
      exact Nat.le_refl _
    · intro p _
      simp (disch := decide) only [u_row]
      exact Nat.le_refl _
  · rw [if_neg e] at k2 ⊢
    have e8 : ∀ r, (rfL M r) 70 8 = M 70 8 := fun r => frL 70 8 (by decide) (by decide)
    refine c_R_screen h.env (ns := nS M) (by rw [e8]; exact h.st.i.ns.1) n12 ?_
    unfold uR_screen
    rw [e8, if_neg e, if_neg e]
    exact k2 S _ L h.ref
end T95
