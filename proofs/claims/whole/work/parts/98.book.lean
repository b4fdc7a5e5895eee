section T98
variable {X : am_X} {d : Nat} {K : am_K} {S : am_S} {M : am_M} {L : am_L}
theorem Lb.nS {t z q : Nat} (h : Lb S q) : Lb (am_nS S t z) q := by
  have h0 := h.lt
  have s : ∀ j, j ≤ 7 → (am_nS S t z).2.1 (q + j) = S.2.1 (q + j) := fun j hj => if_neg (by omega)
  have p : ∀ j, (am_nS S t z).2.2 q j = S.2.2 q j := fun j => by
    show am_r S.2.2 S.1 (fun _ => none) q j = _
    rw [am_r_ne (by omega)]
  obtain ⟨h1, h2, h3, h4, h5, h6, h7, h8, h9, h10⟩ := h
  refine ⟨by show q + 7 < S.1 + 1; omega, ?_, ?_, ?_, ?_, ?_, ?_, ?_, ?_, ?_⟩
  · have := s 0 (by omega); rw [Nat.add_zero] at this; rw [this]; exact h2
  · rw [s 1 (by omega)]; exact h3
  · rw [s 2 (by omega)]; exact h4
  · rw [s 3 (by omega)]; exact h5
  · rw [s 4 (by omega)]; exact h6
  · rw [s 5 (by omega)]; exact h7
  · rw [s 6 (by omega)]; exact h8
  · rw [s 7 (by omega)]; exact h9
  · rw [p, p, p, p, p, p, p]; exact h10
/-- one garbage cell more, and what the reference kept for itself -/
theorem pIm.grow {t z : Nat} {M' : am_M} (hE : am_env S) (h : pIm S M) (e : ∀ c, c ≠ S.1 → c = 118 ∨ 115 ≤ c ∧ c ≤ 117 ∨ 119 ≤ c ∨ c = 77 → M' c = M c) (e9 : M' 70 9 = M 70 9) : pIm (am_nS S t z) M' := by
  have h0 := hE.1
  have p47 : ∀ k, (am_nS S t z).2.2 47 k = S.2.2 47 k := fun k => by
    show am_r S.2.2 S.1 (fun _ => none) 47 k = _
    rw [am_r_ne (by omega)]
  have nPe : nP M' = nP M := by unfold nP; rw [e9]
  refine ⟨fun k hk => ?_, fun k k' q q' hk hk' hn h1 h2 => h.2 k k' q q' hk hk' hn (by rw [← p47]; exact h1) (by rw [← p47]; exact h2)⟩
  refine (h.1 k hk).keep hk (by rw [e 118 (by omega) (by omega)]) (e _ (by omega) (by omega)) (fun q hq c hc1 hc2 => ?_) (p47 k) (fun q hq => hq.nS) (by rw [nPe]; exact Nat.le_refl _) (fun p _ => by rw [e 77 (by omega) (by omega)]; exact Nat.le_refl _)
  rcases h.1 k hk with ⟨_, y⟩ | ⟨_, q', y, y2, y3, _⟩
  · rw [y] at hq; cases hq
  · rw [y] at hq
    cases hq
    have := y3.lt
    exact e c (by omega) (by omega)
theorem okF_cons {x : Nat} {cs : List Nat} {fs : List (Nat × Nat)} {rs : List Nat} {ps : List (Nat × Nat)} (h : okF cs fs rs ps = true) (hr : (rs.all fun c => decide (c < 119)) = true) (hp : (ps.all fun z => decide (z.1 < 119)) = true) (h0 : 119 ≤ x) : okF (x :: cs) fs rs ps = true := by
  unfold okF at h ⊢
  rw [Bool.and_eq_true] at h ⊢
  refine ⟨List.all_eq_true.mpr (fun c hc => ?_), List.all_eq_true.mpr (fun z hz => ?_)⟩
  · have a := List.all_eq_true.mp h.1 c hc
    have b := of_decide_eq_true (List.all_eq_true.mp hr c hc)
    rw [List.contains_cons, show (c == x) = false from beq_false_of_ne (by omega), Bool.false_or]
    exact a
  · have a := List.all_eq_true.mp h.2 z hz
    have b := of_decide_eq_true (List.all_eq_true.mp hp z hz)
    rw [List.contains_cons, show (z.1 == x) = false from beq_false_of_ne (by omega), Bool.false_or]
    exact a
theorem P_book {z : Int32} (h : Rel S M) : Pair X (d + 60) m_L_book m_R_book [.int z] S M L := by
  intro K k
  have h0 := h.env.1
  refine c_L_book h.env (fun y => ?_) (fun y => ?_)
  · refine k _ S _ L h.env ?_
    intro K2 k2
    have f1 : Fr [69] [] M (am_u (am_u (am_u (am_u (am_u (am_u (am_u (am_u M 69 0 1) 69 1 0) 69 2 (M 31 8)) 69 3 (M 31 9)) 69 4 (M 31 10)) 69 5 (M 31 12)) 69 6 (M 31 13)) 69 7 z) := (((((((Fr.refl.u (by decide)).u (by decide)).u (by decide)).u (by decide)).u (by decide)).u (by decide)).u (by decide)).u (by decide)
    have w0 : (am_u (am_u (am_u (am_u (am_u (am_u (am_u (am_u M 69 0 1) 69 1 0) 69 2 (M 31 8)) 69 3 (M 31 9)) 69 4 (M 31 10)) 69 5 (M 31 12)) 69 6 (M 31 13)) 69 7 z) 69 0 = 1 := by simp (disch := decide) only [am_u_ne, am_u_same]
    have w1 : (am_u (am_u (am_u (am_u (am_u (am_u (am_u (am_u M 69 0 1) 69 1 0) 69 2 (M 31 8)) 69 3 (M 31 9)) 69 4 (M 31 10)) 69 5 (M 31 12)) 69 6 (M 31 13)) 69 7 z) 69 1 = 0 := by simp (disch := decide) only [am_u_ne, am_u_same]
    have w2 : (am_u (am_u (am_u (am_u (am_u (am_u (am_u (am_u M 69 0 1) 69 1 0) 69 2 (M 31 8)) 69 3 (M 31 9)) 69 4 (M 31 10)) 69 5 (M 31 12)) 69 6 (M 31 13)) 69 7 z) 69 2 = M 31 8 := by simp (disch := decide) only [am_u_ne, am_u_same]
    have w3 : (am_u (am_u (am_u (am_u (am_u (am_u (am_u (am_u M 69 0 1) 69 1 0) 69 2 (M 31 8)) 69 3 (M 31 9)) 69 4 (M 31 10)) 69 5 (M 31 12)) 69 6 (M 31 13)) 69 7 z) 69 3 = M 31 9 := by simp (disch := decide) only [am_u_ne, am_u_same]
    have w4 : (am_u (am_u (am_u (am_u (am_u (am_u (am_u (am_u M 69 0 1) 69 1 0) 69 2 (M 31 8)) 69 3 (M 31 9)) 69 4 (M 31 10)) 69 5 (M 31 12)) 69 6 (M 31 13)) 69 7 z) 69 4 = M 31 10 := by simp (disch := decide) only [am_u_ne, am_u_same]
    have w5 : (am_u (am_u (am_u (am_u (am_u (am_u (am_u (am_u M 69 0 1) 69 1 0) 69 2 (M 31 8)) 69 3 (M 31 9)) 69 4 (M 31 10)) 69 5 (M 31 12)) 69 6 (M 31 13)) 69 7 z) 69 5 = M 31 12 := by simp (disch := decide) only [am_u_ne, am_u_same]
    have w6 : (am_u (am_u (am_u (am_u (am_u (am_u (am_u (am_u M 69 0 1) 69 1 0) 69 2 (M 31 8)) 69 3 (M 31 9)) 69 4 (M 31 10)) 69 5 (M 31 12)) 69 6 (M 31 13)) 69 7 z) 69 6 = M 31 13 := by simp (disch := decide) only [am_u_ne, am_u_same]
    have w7 : (am_u (am_u (am_u (am_u (am_u (am_u (am_u (am_u M 69 0 1) 69 1 0) 69 2 (M 31 8)) 69 3 (M 31 9)) 69 4 (M 31 10)) 69 5 (M 31 12)) 69 6 (M 31 13)) 69 7 z) 69 7 = z := am_u_same
    generalize (am_u (am_u (am_u (am_u (am_u (am_u (am_u (am_u M 69 0 1) 69 1 0) 69 2 (M 31 8)) 69 3 (M 31 9)) 69 4 (M 31 10)) 69 5 (M 31 12)) 69 6 (M 31 13)) 69 7 z) = M1 at *
    refine c_R_book h.env (fun _ => ?_) (fun y2 => absurd y y2)
    intro M2 L2 e1 e2 e60 e40 b0 b1 b2 b3 b4 b5
    refine k2 _ M2 L2 ?_
    have g70 : ∀ j, M1 70 j = M 70 j := fun j => f1 70 j (by decide) (by simp)
    -- outside the new cell M2 differs from M at 69, 113 and two fields
    have N : ∀ c, c ≠ S.1 → c ≠ 113 → c ≠ 70 → c ≠ 69 → M2 c = M c := fun c h1 h2 h3 h4 => (e1 c h1 h2 h3).trans (f1.row c (by simp; exact h4) (by simp))
    have F : Fr (S.1 :: [69, 113]) [(70, 60), (70, 40)] M M2 := by
      intro c j h1 h2
      simp only [List.mem_cons, List.not_mem_nil, or_false, not_or] at h1 h2
      by_cases c70 : c = 70
      · subst c70
        rw [e2 j (fun w => h2.1 (by rw [w])) (fun w => h2.2 (by rw [w]))]
        exact g70 j
      · rw [N c h1.1 h1.2.2 c70 h1.2.1]
    have ok : ∀ {rs : List Nat} {ps : List (Nat × Nat)}, okF [69, 113] [(70, 60), (70, 40)] rs ps = true → (rs.all fun c => decide (c < 119)) = true → (ps.all fun z => decide (z.1 < 119)) = true → okF (S.1 :: [69, 113]) [(70, 60), (70, 40)] rs ps = true := fun a b c => okF_cons a b c h0
    have g31 : ∀ j, M1 31 j = M 31 j := fun j => f1 31 j (by decide) (by simp)
    have r69 : M2 69 = M1 69 := e1 69 (by omega) (by decide) (by decide)
    have lc := h.lb.c
    refine ⟨am_env_nS h.env, h.st.fr F (ok (by decide) (by decide) (by decide)), h.lb.fr F (ok (by decide) (by decide) (by decide)), h.pg.fr F (ok (by decide) (by decide) (by decide)), h.nm.fr F (ok (by decide) (by decide) (by decide)), h.sp.fr F (ok (by decide) (by decide) (by decide)), ?_, h.tx.fr F (ok (by decide) (by decide) (by decide)), rf.fr h.rf F (ok (by decide) (by decide) (by decide)), h.im.grow h.env (fun c h1 h2 => N c h1 (by omega) (by omega) (by omega)) (by rw [e2 9 (by decide) (by decide)]; exact g70 9), h.fn.fr F (ok (by decide) (by decide) (by decide))⟩
    refine ⟨?_, ?_, fun _ => ?_, fun _ => ?_, fun _ => ?_, fun _ => ?_, fun _ => ?_, fun _ => ?_, Or.inr e60, Or.inl e40⟩
    · rw [r69, w0, e60]
    · rw [r69, w1, e40]
    · rw [r69, w2, b0, g70]; exact lc.f8
    · rw [r69, w3, b1, g70]; exact lc.f9
    · rw [r69, w4, b2, g70]; exact lc.f10
    · rw [r69, w5, b3, g70]; exact lc.f12
    · rw [r69, w6, b4, g70]; exact lc.f13
    · rw [r69, w7, b5]
  · refine k _ S _ L h.env ?_
    intro K2 k2
    refine c_R_book h.env (fun y2 => absurd y2 y) (fun _ => ?_)
    exact k2 S _ L h.ref
end T98
