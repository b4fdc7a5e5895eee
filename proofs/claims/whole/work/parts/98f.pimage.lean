section T98f
variable {X : am_X} {d : Nat} {S : am_S} {M : am_M} {L : am_L}
theorem Rel.image {S1 : am_S} {M1 M2 : am_M} {k q : Nat} (h : Rel S M) (hk : k < 3) (hE1 : am_env S1) (g1 : S.1 ≤ S1.1) (e : S1.2.2 47 k = some q) (h9 : 119 ≤ q) (hb : Lb S1 q) (fA : FrA q M M1) (hl : LabR M M1 q) (ek : ∀ k', k' ≠ k → S1.2.2 47 k' = S.2.2 47 k') (eL : ∀ q', Lb S q' → Lb S1 q') (ed : ∀ k' q', k' < 3 → k' ≠ k → S.2.2 47 k' = some q' → q' + 7 < q ∨ q + 7 < q')
    (a1 : ∀ c, c ≠ S1.1 → c ≠ 115 + k → c ≠ 118 → c ≠ 70 → M2 c = M1 c) (a2 : ∀ j, j ≠ 63 → M2 70 j = M1 70 j) (a3 : ∀ j, j ≠ k → M2 118 j = M1 118 j) (a4 : M2 118 k = 1) (a5 : ∀ j, j < 7 → M2 (115 + k) j = M1 70 (17 + j)) (r1 : ∀ j, j < 16 → M2 (115 + k) (7 + j) = M1 79 j) (r2 : ∀ j, j < 16 → M2 (115 + k) (23 + j) = M1 80 j) (r3 : ∀ j, j < 16 → M2 (115 + k) (39 + j) = M1 81 j) (r4 : ∀ j, j < 16 → M2 (115 + k) (55 + j) = M1 82 j) (r5 : ∀ j, j < 16 → M2 (115 + k) (71 + j) = M1 83 j) (r6 : ∀ j, j < 128 → M2 (115 + k) (87 + j) = M1 84 j) (r7 : ∀ j, j < 1024 → M2 (115 + k) (215 + j) = M1 85 j) : Rel (am_nS S1 1 7) M2 := by
  have h0 := h.env.1
  have hq := hb.lt
  have m1 : ∀ c, c < 119 → M1 c = M c := fun c hc => fA c (Or.inl (by omega))
  have F : Fr (q :: (q + 1) :: (q + 2) :: (q + 3) :: (q + 4) :: (q + 5) :: (q + 6) :: (q + 7) :: S1.1 :: [115, 116, 117, 118]) [(70, 63)] M M2 := by
    intro c j h1 h2
    simp only [List.mem_cons, List.not_mem_nil, or_false, not_or] at h1 h2
    by_cases c70 : c = 70
    · subst c70
      rw [a2 j (fun w => h2 (by rw [w])), m1 70 (by omega)]
    · rw [a1 c (by omega) (by omega) (by omega) c70]
      exact congrFun (fA c (by omega)) j
  have ok : ∀ {rs : List Nat} {ps : List (Nat × Nat)}, okF [115, 116, 117, 118] [(70, 63)] rs ps = true → (rs.all fun c => decide (c < 119)) = true → (ps.all fun z => decide (z.1 < 119)) = true → okF (q :: (q + 1) :: (q + 2) :: (q + 3) :: (q + 4) :: (q + 5) :: (q + 6) :: (q + 7) :: S1.1 :: [115, 116, 117, 118]) [(70, 63)] rs ps = true := fun a b c => okF_cons (okF_cons (okF_cons (okF_cons (okF_cons (okF_cons (okF_cons (okF_cons (okF_cons a b c hE1.1) b c (by omega)) b c (by omega)) b c (by omega)) b c (by omega)) b c (by omega)) b c (by omega)) b c (by omega)) b c h9
  have lb2 := h.lb.fr F (ok (by decide) (by decide) (by decide))
  have i2 := lb2.i
  have g70 : ∀ j, j ≠ 63 → M2 70 j = M 70 j := fun j hj => by rw [a2 j hj, m1 70 (by omega)]
  have g77 : M2 77 = M 77 := (a1 77 (by omega) (by omega) (by omega) (by omega)).trans (m1 77 (by omega))
  have nPe : nP M2 = nP M := by unfold nP; rw [g70 9 (by omega)]
  have row : ∀ c, 79 ≤ c → c ≤ 85 → M2 c = M1 c := fun c x y => a1 c (by omega) (by omega) (by omega) (by omega)
  have E0 : labE M M2 := ⟨fun j _ _ => g70 j (by omega), fun i _ => ⟨by rw [row 79 (by omega) (by omega), m1 79 (by omega)], by rw [row 80 (by omega) (by omega), m1 80 (by omega)], by rw [row 81 (by omega) (by omega), m1 81 (by omega)], by rw [row 82 (by omega) (by omega), m1 82 (by omega)], by rw [row 83 (by omega) (by omega), m1 83 (by omega)]⟩, fun i _ => by rw [row 84 (by omega) (by omega), m1 84 (by omega)], fun i _ => by rw [row 85 (by omega) (by omega), m1 85 (by omega)]⟩
  have E2 : labE M2 (imV M2 k) := by
    refine ⟨fun j x y => ?_, fun i hi => ⟨?_, ?_, ?_, ?_, ?_⟩, fun i hi => ?_, fun i hi => ?_⟩
    · unfold imV
      rw [if_neg (by omega), if_neg (by omega), if_neg (by omega), if_neg (by omega), if_neg (by omega), if_neg (by omega), if_neg (by omega), if_pos (by omega), a5 (j - 17) (by omega), show 17 + (j - 17) = j by omega, a2 j (by omega)]
    · unfold imV
      rw [if_pos (by omega), r1 i hi, row 79 (by omega) (by omega)]
    · unfold imV
      rw [if_neg (by omega), if_pos (by omega), r2 i hi, row 80 (by omega) (by omega)]
    · unfold imV
      rw [if_neg (by omega), if_neg (by omega), if_pos (by omega), r3 i hi, row 81 (by omega) (by omega)]
    · unfold imV
      rw [if_neg (by omega), if_neg (by omega), if_neg (by omega), if_pos (by omega), r4 i hi, row 82 (by omega) (by omega)]
    · unfold imV
      rw [if_neg (by omega), if_neg (by omega), if_neg (by omega), if_neg (by omega), if_pos (by omega), r5 i hi, row 83 (by omega) (by omega)]
    · unfold imV
      rw [if_neg (by omega), if_neg (by omega), if_neg (by omega), if_neg (by omega), if_neg (by omega), if_pos (by omega), r6 i hi, row 84 (by omega) (by omega)]
    · unfold imV
      rw [if_neg (by omega), if_neg (by omega), if_neg (by omega), if_neg (by omega), if_neg (by omega), if_neg (by omega), if_pos (by omega), r7 i hi, row 85 (by omega) (by omega)]
  have p47 : ∀ k', (am_nS S1 1 7).2.2 47 k' = S1.2.2 47 k' := fun k' => by
    show am_r S1.2.2 S1.1 (fun _ => none) 47 k' = _
    rw [am_r_ne (by have := hE1.1; omega)]
  have lq : LabR M M2 q := hl.of (fun c x y => a1 c (by omega) (by omega) (by omega) (by omega))
  have l2 : LabR M2 M2 q := lq.ve h.lb.i.nb.2 (fun p hp => (h.lb.i.gm p hp).2) E0
  refine ⟨am_env_nS hE1, h.st.fr F (ok (by decide) (by decide) (by decide)), lb2, h.pg.fr F (ok (by decide) (by decide) (by decide)), h.nm.fr F (ok (by decide) (by decide) (by decide)), h.sp.fr F (ok (by decide) (by decide) (by decide)), h.bk.fr F (ok (by decide) (by decide) (by decide)), h.tx.fr F (ok (by decide) (by decide) (by decide)), rf.fr h.rf F (ok (by decide) (by decide) (by decide)), ⟨fun k' hk' => ?_, fun x y qx qy hx hy hn ex ey => ?_⟩, h.fn.fr F (ok (by decide) (by decide) (by decide))⟩
  · by_cases ekk : k' = k
    · subst ekk
      exact Or.inr ⟨a4, q, (p47 _).trans e, h9, hb.nS, l2.ve i2.nb.2 (fun p hp => (i2.gm p hp).2) E2, i2.ve E2⟩
    · have i1 := h.im.1 k' hk'
      refine i1.keep hk' (by rw [a3 k' ekk, m1 118 (by omega)]) ((a1 _ (by omega) (by omega) (by omega) (by omega)).trans (m1 _ (by omega))) (fun q' hq' c x y => ?_) ((p47 k').trans (ek k' ekk)) (fun q' hq' => (eL q' hq').nS) (by rw [nPe]; exact Nat.le_refl _) (fun p _ => by rw [g77]; exact Nat.le_refl _)
      rcases i1 with ⟨_, w⟩ | ⟨_, q2, w, w2, w3, _⟩
      · rw [w] at hq'; cases hq'
      · rw [w] at hq'
        cases hq'
        have := w3.lt
        have := ed k' q' hk' ekk w
        rw [a1 c (by omega) (by omega) (by omega) (by omega)]
        exact fA c (by omega)
  · rw [p47] at ex ey
    by_cases e1 : x = k
    · subst e1
      rw [e] at ex
      cases ex
      rw [ek y (fun w => hn w.symm)] at ey
      have := ed y qy hy (fun w => hn w.symm) ey
      omega
    · rw [ek x e1] at ex
      by_cases e2 : y = k
      · subst e2
        rw [e] at ey
        cases ey
        have := ed x qx hx e1 ex
        omega
      · rw [ek y e2] at ey
        exact h.im.2 x y qx qy hx hy hn ex ey
end T98f
