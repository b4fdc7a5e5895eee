section T96
variable {X : am_X} {d : Nat} {S : am_S} {M : am_M} {L : am_L}
theorem P_trial {p s : Int32} (h : Rel S M) : Pair X (d + 60) m_L_trial m_R_trial [.int p, .int s] S M L := by
  intro K k
  have n4 := h.st.i.np.2
  have n12 := h.st.i.ns.2
  have n16 := h.lb.i.nb.2
  have hm : ∀ j, j < nP M → ∃ n, n ≤ 8 ∧ M 77 j = nI n := fun j hj => ⟨_, (h.st.i.pm j hj).2, (h.st.i.pm j hj).1⟩
  have us : usesP (M 32) p (nB M) = usesP (M 79) p (nB M) := usesP_congr (nB M) (fun i hi => h.lb.c.pl i hi)
  have oE : o_trial (M 70 9) (M 70 8) (M 77) (M 32) (nB M) p s = o_trial (M 70 9) (M 70 8) (M 77) (M 79) (nB M) p s := by unfold o_trial; rw [us]
  refine c_L_trial h.env (np := nP M) (nb := nB M) (h.st.c.f8.trans h.st.i.np.1) n4 (by rw [h.st.c.r30]; exact hm) (h.lb.c.f7.trans h.lb.i.nb.1) n16 ?_
  unfold uL_trial
  rw [h.st.c.f8, h.st.c.f7, h.st.c.r30, oE]
  refine k _ S _ L h.env ?_
  intro K2 k2
  by_cases e : o_trial (M 70 9) (M 70 8) (M 77) (M 79) (nB M) p s = 9
  · rw [if_pos e] at k2 ⊢
    have cc : (0 ≤ p ∧ p < nI (nP M)) ∧ (0 ≤ s ∧ s < nI (nS M)) ∧ ¬ M 77 p.toNatClampNeg = 8 := by
      unfold o_trial at e
      by_cases c1 : (0 ≤ p ∧ p < M 70 9) ∧ (0 ≤ s ∧ s < M 70 8)
      · rw [if_pos c1] at e
        by_cases c2 : M 77 p.toNatClampNeg = 8
        · rw [if_pos c2] at e; exact absurd e (by decide)
        · exact ⟨by rw [← h.st.i.np.1]; exact c1.1, by rw [← h.st.i.ns.1]; exact c1.2, c2⟩
      · rw [if_neg c1] at e; exact absurd e (by decide)
    obtain ⟨p, hp, rfl⟩ := inN.ix cc.1 (by omega)
    obtain ⟨s, hs, rfl⟩ := inN.ix cc.2.1 (by omega)
    have cp : (nI p).toNatClampNeg = p := nI_clamp (by omega)
    obtain ⟨z1, z2⟩ := h.st.i.pm p hp
    have c3 := cc.2.2
    rw [cp] at c3
    generalize hz : nm (M 77 p) = z at *
    have z7 : z < 8 := by
      rcases Nat.lt_or_ge z 8 with c | c
      · exact c
      · exact absurd (by rw [z1, show z = 8 by omega]; rfl) c3
    have zc : (M 77 p).toNatClampNeg = z := hz
    have e1 : M 77 p + 1 = nI (z + 1) := by rw [z1, nI_succ]
    have g1 : Fr [29, 30] [] M (am_u (am_u M 29 (8 * (nI p).toNatClampNeg + (M 77 (nI p).toNatClampNeg).toNatClampNeg) (nI s)) 30 (nI p).toNatClampNeg (M 77 (nI p).toNatClampNeg + 1)) := (Fr.refl.u (by decide)).u (by decide)
    have a9 := g1 70 9 (by decide) (by decide)
    have a8 := g1 70 8 (by decide) (by decide)
    have a17 := g1 70 17 (by decide) (by decide)
    have a77 := g1.row 77 (by decide) (by decide)
    have a79 := g1.row 79 (by decide) (by decide)
    refine c_R_trial h.env (np := nP M) (ns := nS M) (nb := nB M) (by rw [a9]; exact h.st.i.np.1) n4 (by rw [a8]; exact h.st.i.ns.1) n12 (by rw [a77]; exact hm) (by rw [a17]; exact h.lb.i.nb.1) n16 ?_
    unfold uR_trial
    rw [a9, a8, a77, a79, if_pos e, if_pos e, cp, zc, e1]
    rw [cp, e1] at k2
    refine k2 S _ L ?_
    have f : Fr [29, 30, 78, 77] [] M (am_u (am_u (am_u (am_u M 29 (8 * p + z) (nI s)) 30 p (nI (z + 1))) 78 (8 * p + z) (nI s)) 77 p (nI (z + 1))) := (((Fr.refl.u (by decide)).u (by decide)).u (by decide)).u (by decide)
    refine mkSR h f (by decide) (by decide) (by decide) ⟨?_, ?_⟩ (h.fn.fr f (by decide)) ?_ ?_
    · have q := h.st.c
      unfold CSs at q ⊢
      simp (disch := decide) only [am_u_ne, u_row]
      obtain ⟨q1, q2, q3, q4, q5, q6, q7, q8, q9⟩ := q
      refine ⟨q1, q2, q3, q4, q5, q6, q7, ?_, ?_⟩
      · funext j
        by_cases e2 : j = 8 * p + z
        · rw [e2, am_u_same, am_u_same]
        · rw [am_u_ne (fun w => e2 w.2), am_u_ne (fun w => e2 w.2)]
          simp (disch := decide) only [u_row]
          rw [q8]
      · funext j
        by_cases e2 : j = p
        · rw [e2, am_u_same, am_u_same]
        · rw [am_u_ne (fun w => e2 w.2), am_u_ne (fun w => e2 w.2)]
          simp (disch := decide) only [u_row]
          rw [q9]
    · have q := h.st.i
      unfold IVs nS nP at q ⊢
      simp (disch := decide) only [am_u_ne, u_row]
      obtain ⟨q1, q2, q3, q4, q5⟩ := q
      refine ⟨q1, q2, fun p' hp' => ?_, fun p' t hp' ht => ?_, q5⟩
      · by_cases e2 : p' = p
        · rw [e2, am_u_same, nm_nI (by omega)]; exact ⟨rfl, by omega⟩
        · rw [am_u_ne (fun w => e2 w.2)]
          simp (disch := decide) only [u_row]
          exact q3 p' hp'
      · by_cases e2 : p' = p
        · subst e2
          rw [am_u_same, nm_nI (by omega)] at ht
          by_cases e3 : t = z
          · rw [e3, am_u_same, nm_nI (by omega)]; exact ⟨rfl, hs⟩
          · rw [am_u_ne (fun w => by omega)]
            simp (disch := decide) only [u_row]
            exact q4 p' t hp' (by rw [hz]; omega)
        · rw [am_u_ne (fun w => e2 w.2)] at ht
          simp (disch := decide) only [u_row] at ht
          have := (q3 p' hp').2
          rw [am_u_ne (fun w => by omega)]
          simp (disch := decide) only [u_row]
          exact q4 p' t hp' ht
    · unfold nP
      simp (disch := decide) only [u_row]
      exact Nat.le_refl _
    · intro p' hp'
      by_cases e2 : p' = p
      · rw [e2, am_u_same, nm_nI (by omega), hz]; omega
      · rw [am_u_ne (fun w => e2 w.2)]
        simp (disch := decide) only [u_row]
        exact Nat.le_refl _
  · rw [if_neg e] at k2 ⊢
    have a9 : ∀ r, (rfL M r) 70 9 = M 70 9 := fun r => frL 70 9 (by decide) (by decide)
    have a8 : ∀ r, (rfL M r) 70 8 = M 70 8 := fun r => frL 70 8 (by decide) (by decide)
    have a17 : ∀ r, (rfL M r) 70 17 = M 70 17 := fun r => frL 70 17 (by decide) (by decide)
    have a77 : ∀ r, (rfL M r) 77 = M 77 := fun r => frL.row 77 (by decide) (by decide)
    have a79 : ∀ r, (rfL M r) 79 = M 79 := fun r => frL.row 79 (by decide) (by decide)
    refine c_R_trial h.env (np := nP M) (ns := nS M) (nb := nB M) (by rw [a9]; exact h.st.i.np.1) n4 (by rw [a8]; exact h.st.i.ns.1) n12 (by rw [a77]; exact hm) (by rw [a17]; exact h.lb.i.nb.1) n16 ?_
    unfold uR_trial
    rw [a9, a8, a77, a79, if_neg e, if_neg e]
    exact k2 S _ L h.ref
theorem P_baby {p o a : Int32} (h : Rel S M) : Pair X (d + 60) m_L_baby m_R_baby [.int p, .int o, .int a] S M L := by
  intro K k
  have n16 := h.lb.i.nb.2
  have n4 := h.st.i.np.2
  refine c_L_baby h.env h.cv h.iv (fun e => ?_) (fun e => ?_)
  · have cc : inN p (nP M) ∧ ¬ nB M = 16 ∧ (0 ≤ o ∧ o ≤ 5) ∧ (8 ≤ a ∧ a ≤ 60) := by
      unfold oBb at e
      by_cases c1 : inN p (nP M)
      · rw [if_pos c1] at e
        by_cases c2 : nB M = 16
        · rw [if_pos c2] at e; exact absurd e (by decide)
        · rw [if_neg c2] at e
          by_cases c3 : (0 ≤ o ∧ o ≤ 5) ∧ (8 ≤ a ∧ a ≤ 60)
          · exact ⟨c1, c2, c3⟩
          · rw [if_neg c3] at e; exact absurd e (by decide)
      · rw [if_neg c1] at e; exact absurd e (by decide)
    have rp : p = nI (nm p) ∧ nm p < nP M := by
      obtain ⟨j, hj, rfl⟩ := cc.1.ix (by omega)
      rw [nm_nI (by omega)]; exact ⟨rfl, hj⟩
    have ro := in_nI (lo := 0) (hi := 5) (by decide) (by decide) cc.2.2.1
    have ra := in_nI (lo := 8) (hi := 60) (by decide) (by decide) cc.2.2.2
    intro M1 f1 e17 B1
    refine k _ S M1 L h.env ?_
    intro K2 k2
    refine c_R_baby h.env (RS.refl.fr (f1.mono (by decide) (by decide))) h.iv (fun _ => ?_) (fun e2 => absurd e e2)
    intro M2 f2 g17 B2
    refine k2 S M2 L ?_
    have f := f1.join f2
    have nB2 : nB M2 = nB M + 1 := by unfold nB at *; rw [g17, nm_nI (by omega)]
    have c1 : ∀ c, c = 32 ∨ c = 33 ∨ c = 34 ∨ c = 35 ∨ c = 36 ∨ c = 37 ∨ c = 38 → M2 c = M1 c := fun c hc => by
      rcases hc with rfl | rfl | rfl | rfl | rfl | rfl | rfl
      · exact f2.row 32 (by decide) (by decide)
      · exact f2.row 33 (by decide) (by decide)
      · exact f2.row 34 (by decide) (by decide)
      · exact f2.row 35 (by decide) (by decide)
      · exact f2.row 36 (by decide) (by decide)
      · exact f2.row 37 (by decide) (by decide)
      · exact f2.row 38 (by decide) (by decide)
    have r1 : ∀ c, c = 79 ∨ c = 80 ∨ c = 81 ∨ c = 82 ∨ c = 83 ∨ c = 84 ∨ c = 85 → M1 c = M c := fun c hc => by
      rcases hc with rfl | rfl | rfl | rfl | rfl | rfl | rfl
      · exact f1.row 79 (by decide) (by decide)
      · exact f1.row 80 (by decide) (by decide)
      · exact f1.row 81 (by decide) (by decide)
      · exact f1.row 82 (by decide) (by decide)
      · exact f1.row 83 (by decide) (by decide)
      · exact f1.row 84 (by decide) (by decide)
      · exact f1.row 85 (by decide) (by decide)
    have q37 : M2 37 = M 37 := (c1 37 (by omega)).trans (f1.row 37 (by decide) (by decide))
    have q85 : M2 85 = M 85 := (f2.row 85 (by decide) (by decide)).trans (r1 85 (by omega))
    have q84 : ∀ q, q < 8 * nB M → M2 84 q = M 84 q := fun q hq => by rw [B2.g0 q hq, r1 84 (by omega)]
    have q38 : ∀ q, q < 8 * nB M → M2 38 q = M 38 q := fun q hq => by rw [c1 38 (by omega)]; exact B1.g0 q hq
    have z84 : ∀ q, 8 * nB M ≤ q → q < 8 * (nB M + 1) → M2 84 q = 0 := fun q h1 h2 => by
      have := B2.g1 (q - 8 * nB M) (by omega)
      rw [show 8 * nB M + (q - 8 * nB M) = q by omega] at this
      exact this
    have z38 : ∀ q, 8 * nB M ≤ q → q < 8 * (nB M + 1) → M2 38 q = 0 := fun q h1 h2 => by
      have := B1.g1 (q - 8 * nB M) (by omega)
      rw [show 8 * nB M + (q - 8 * nB M) = q by omega] at this
      rw [c1 38 (by omega)]; exact this
    refine h.mkL f (by decide) (by decide) (by decide) ⟨?_, ?_⟩
    · have q := h.lb.c
      obtain ⟨q1, q2, q3, q4, q5, q6, q7, q8, q9, q10, q11, q12, q13, q14⟩ := q
      have fL : ∀ j, j ≠ 7 → M2 31 j = M 31 j := fun j hj => f 31 j (by decide) (by simp; omega)
      have fR : ∀ j, j ≠ 17 → M2 70 j = M 70 j := fun j hj => f 70 j (by decide) (by simp; omega)
      refine ⟨?_, ?_, ?_, ?_, ?_, ?_, ?_, fun i hi => ?_, fun i hi => ?_, fun i hi => ?_, fun i hi => ?_, fun i hi => ?_, fun i hi => ?_, fun i j hi hj => ?_⟩
      · rw [f2 31 7 (by decide) (by decide), e17, g17]
      · rw [fL 8 (by decide), fR 18 (by decide)]; exact q2
      · rw [fL 9 (by decide), fR 19 (by decide)]; exact q3
      · rw [fL 10 (by decide), fR 20 (by decide)]; exact q4
      · rw [fL 11 (by decide), fR 21 (by decide)]; exact q5
      · rw [fL 12 (by decide), fR 22 (by decide)]; exact q6
      · rw [fL 13 (by decide), fR 23 (by decide)]; exact q7
      · rw [nB2] at hi
        rw [c1 (31 + 1) (by omega)]
        by_cases e2 : i = nB M
        · rw [e2]; exact B1.n0.trans B2.n0.symm
        · rw [B2.o0 i e2, r1 79 (by omega)]; exact (B1.o0 i e2).trans (q8 i (by omega))
      · rw [nB2] at hi
        rw [c1 (31 + 2) (by omega)]
        by_cases e2 : i = nB M
        · rw [e2]; exact B1.n1.trans B2.n1.symm
        · have z := B2.o1 i e2
          rw [show M2 80 i = M1 80 i from z, r1 80 (by omega)]; exact (B1.o1 i e2).trans (q9 i (by omega))
      · rw [nB2] at hi
        rw [c1 (31 + 3) (by omega)]
        by_cases e2 : i = nB M
        · rw [e2]; exact B1.n2.trans B2.n2.symm
        · have z := B2.o2 i e2
          rw [show M2 81 i = M1 81 i from z, r1 81 (by omega)]; exact (B1.o2 i e2).trans (q10 i (by omega))
      · rw [nB2] at hi
        rw [c1 (31 + 4) (by omega)]
        by_cases e2 : i = nB M
        · rw [e2]; exact B1.n3.trans B2.n3.symm
        · have z := B2.o3 i e2
          rw [show M2 82 i = M1 82 i from z, r1 82 (by omega)]; exact (B1.o3 i e2).trans (q11 i (by omega))
      · rw [nB2] at hi
        rw [c1 (31 + 5) (by omega)]
        by_cases e2 : i = nB M
        · rw [e2]; exact B1.n4.trans B2.n4.symm
        · have z := B2.o4 i e2
          rw [show M2 83 i = M1 83 i from z, r1 83 (by omega)]; exact (B1.o4 i e2).trans (q12 i (by omega))
      · rw [nB2] at hi
        by_cases e2 : i < 8 * nB M
        · rw [q84 i e2]; exact (q38 i e2).trans (q13 i e2)
        · rw [z84 i (by omega) hi]; exact z38 i (by omega) hi
      · rw [nB2] at hi
        by_cases e2 : i < 8 * nB M
        · rw [q84 i e2] at hj
          rw [q85, show M2 (31 + 6) = M 37 from q37]; exact q14 i j e2 hj
        · rw [z84 i (by omega) hi] at hj; exact absurd hj (by show ¬ j < 0; omega)
    · have q := h.lb.i
      obtain ⟨q1, q2, q3, q4, q5, q6, q7, q8, q9⟩ := q
      have fR : ∀ j, j ≠ 17 → M2 70 j = M 70 j := fun j hj => f 70 j (by decide) (by simp; omega)
      have nPe : nP M2 = nP M := by unfold nP; rw [fR 9 (by decide)]
      have e77 : M2 77 = M 77 := f.row 77 (by decide) (by decide)
      refine ⟨?_, fun i hi => ?_, fun i hi => ?_, fun i hi => ?_, fun i hi => ?_, fun i hi => ?_, fun i j hi hj => ?_, fun i t hi ht hh => ?_, ?_⟩
      · rw [nB2, g17]; exact ⟨rfl, by have := cc.2.1; omega⟩
      · rw [nB2] at hi
        rw [nPe]
        by_cases e2 : i = nB M
        · rw [e2, B2.n0]; exact rp
        · rw [B2.o0 i e2, r1 79 (by omega)]; exact q2 i (by omega)
      · rw [nB2] at hi
        by_cases e2 : i = nB M
        · rw [e2, show M2 80 (nB M) = o from B2.n1]; exact ⟨ro.1, by omega⟩
        · rw [show M2 80 i = M1 80 i from B2.o1 i e2, r1 80 (by omega)]; exact q3 i (by omega)
      · rw [nB2] at hi
        by_cases e2 : i = nB M
        · rw [e2, show M2 81 (nB M) = a from B2.n2]; exact ⟨ra.1, ra.2.2⟩
        · rw [show M2 81 i = M1 81 i from B2.o2 i e2, r1 81 (by omega)]; exact q4 i (by omega)
      · rw [nB2] at hi
        by_cases e2 : i = nB M
        · rw [e2, show M2 83 (nB M) = 0 from B2.n4]; exact Or.inl rfl
        · rw [show M2 83 i = M1 83 i from B2.o4 i e2, r1 83 (by omega)]; exact q5 i (by omega)
      · rw [nB2] at hi
        by_cases e2 : i < 8 * nB M
        · rw [q84 i e2]; exact q6 i e2
        · rw [z84 i (by omega) hi]; exact ⟨rfl, by decide⟩
      · rw [nB2] at hi
        by_cases e2 : i < 8 * nB M
        · rw [q84 i e2] at hj
          rw [q85]; exact q7 i j e2 hj
        · rw [z84 i (by omega) hi] at hj; exact absurd hj (by show ¬ j < 0; omega)
      · rw [nB2] at hi
        by_cases e2 : i = nB M
        · exact z84 _ (by omega) (by omega)
        · rw [B2.o0 i e2, r1 79 (by omega), e77] at hh
          rw [q84 _ (by omega)]
          exact q8 i t (by omega) ht hh
      · rw [fR 18 (by decide), fR 19 (by decide), fR 20 (by decide), fR 21 (by decide), fR 22 (by decide), fR 23 (by decide)]; exact q9
  · refine k _ S _ L h.env ?_
    intro K2 k2
    refine c_R_baby h.env (RS.refl.fr (frL.mono (by decide) (by decide))) h.iv (fun e2 => absurd e2 e) (fun e2 => ?_)
    exact k2 S _ L h.ref
end T96
