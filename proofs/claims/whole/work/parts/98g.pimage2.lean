section T98g
variable {X : am_X} {d : Nat} {S : am_S} {M : am_M} {L : am_L}
theorem im1.q {k q : Nat} (h : im1 S M k) (e : S.2.2 47 k = some q) : M 118 k = 1 ∧ 119 ≤ q ∧ Lb S q ∧ LabR (imV M k) M q ∧ ILb M (imV M k) := by
  rcases h with ⟨_, w⟩ | ⟨w1, q2, w, w2⟩
  · rw [w] at e; cases e
  · rw [w] at e
    cases e
    exact ⟨w1, w2⟩
theorem Lb.old {S' : am_S} {q : Nat} (h : Lb S q) (q47 : q ≠ 47) (h1 : S.1 ≤ S'.1) (hs : ∀ c, c < S.1 → S'.2.1 c = S.2.1 c) (hp : ∀ c j, c < S.1 → c ≠ 47 → S'.2.2 c j = S.2.2 c j) : Lb S' q := by
  have h0 := h.lt
  have s : ∀ j, j ≤ 7 → S'.2.1 (q + j) = S.2.1 (q + j) := fun j hj => hs _ (by omega)
  have p : ∀ j, S'.2.2 q j = S.2.2 q j := fun j => hp q j (by omega) (by omega)
  obtain ⟨h1', h2, h3, h4, h5, h6, h7, h8, h9, h10⟩ := h
  refine ⟨by omega, ?_, ?_, ?_, ?_, ?_, ?_, ?_, ?_, ?_⟩
  · rw [hs q (by omega)]; exact h2
  · rw [s 1 (by omega)]; exact h3
  · rw [s 2 (by omega)]; exact h4
  · rw [s 3 (by omega)]; exact h5
  · rw [s 4 (by omega)]; exact h6
  · rw [s 5 (by omega)]; exact h7
  · rw [s 6 (by omega)]; exact h8
  · rw [s 7 (by omega)]; exact h9
  · rw [p, p, p, p, p, p, p]; exact h10
theorem imV_o {k c j : Nat} (h : ¬ (79 ≤ c ∧ c ≤ 85)) (h2 : ¬ (c = 70 ∧ 17 ≤ j ∧ j ≤ 23)) : imV M k c j = M c j := by
  unfold imV
  rw [if_neg (by omega), if_neg (by omega), if_neg (by omega), if_neg (by omega), if_neg (by omega), if_neg (by omega), if_neg (by omega), if_neg (by omega)]
theorem ILb.vv {V V' W : am_M} (h : ILb V W) (e9 : V' 70 9 = V 70 9) (e77 : V' 77 = V 77) : ILb V' W := by
  unfold ILb nP at *
  rw [e9, e77]
  exact h
theorem Rel.ivi {k : Nat} (h : Rel S M) (w : ILb M (imV M k)) : IV (imV M k) := by
  have a : IVs (imV M k) := h.st.i
  have b : ISp (imV M k) := h.sp.i
  exact IV.mk' a (w.vv (imV_o (by omega) (by omega)) (funext fun j => imV_o (by omega) (by omega))) b h.tx.r
theorem P_image {z : Int32} (h : Rel S M) : Pair X (d + 60) m_L_image m_R_image [.int z] S M L := by
  intro K kk
  have h0 := h.env.1
  by_cases hz : 0 ≤ z ∧ z ≤ 2
  · obtain ⟨e, _, hk⟩ := in_nI (lo := 0) (hi := 2) (by decide) (by decide) hz
    generalize hkk : nm z = k at *
    subst e
    have hk : k < 3 := by omega
    refine c_L_image (V := M) hk h.env h.lb.c h.iv (fun q e => ⟨((h.im.1 k hk).q e).2.2.1, ((h.im.1 k hk).q e).2.1⟩) (fun q M1 e fA hl => ?_) (fun e S1 M1 L1 s1 sb ss sp se fA hl => ?_)
    · obtain ⟨_, h9, hb, _⟩ := (h.im.1 k hk).q e
      refine kk 1 S M1 L h.env ?_
      intro K2 k2
      refine c_R_image hk h.env ?_
      intro M2 L2 a1 a2 a3 a4 a5 r1 r2 r3 r4 r5 r6 r7
      exact k2 _ M2 L2 (h.image hk h.env (Nat.le_refl _) e h9 hb fA hl (fun _ _ => rfl) (fun _ w => w) (fun k' q' hk' hn e' => h.im.2 k' k q' q hk' hk hn e' e) a1 a2 a3 a4 a5 r1 r2 r3 r4 r5 r6 r7)
    · have hE1 : am_env S1 := h.env.of (by omega) (fun c hc => ss c (by omega)) (fun c j hc hn => sp c j (by omega) (fun w => hn w.1))
      refine kk 1 S1 M1 L1 hE1 ?_
      intro K2 k2
      refine c_R_image hk hE1 ?_
      intro M2 L2 a1 a2 a3 a4 a5 r1 r2 r3 r4 r5 r6 r7
      refine k2 _ M2 L2 (h.image hk hE1 (by omega) se h0 sb fA hl (fun k' hn => sp 47 k' (by omega) (fun w => hn w.2)) (fun q' w => w.old (fun y => ?_) (by omega) ss (fun c j hc hn => sp c j hc (fun w => hn w.1))) (fun k' q' hk' hn e' => ?_) a1 a2 a3 a4 a5 r1 r2 r3 r4 r5 r6 r7)
      · subst y
        have := w.s0
        rw [e_s_47 h.env] at this
        cases this
      · have := ((h.im.1 k' hk').q e').2.2.1.lt
        omega
  · refine c_L_image0 h.env hz ?_
    refine kk 0 S _ L h.env ?_
    intro K2 k2
    refine c_R_image0 h.env hz ?_
    exact k2 S _ L h.ref
theorem P_restore {z : Int32} (h : Rel S M) : Pair X (d + 60) m_L_restore m_R_restore [.int z] S M L := by
  intro K kk
  have h0 := h.env.1
  by_cases hz : 0 ≤ z ∧ z ≤ 2
  · obtain ⟨e, _, hk⟩ := in_nI (lo := 0) (hi := 2) (by decide) (by decide) hz
    generalize hkk : nm z = k at *
    subst e
    have hk : k < 3 := by omega
    refine c_L_restore (V := imV M k) hk h.env (fun q e => h.ivi ((h.im.1 k hk).q e).2.2.2.2) (fun q e => ⟨((h.im.1 k hk).q e).2.2.1, ((h.im.1 k hk).q e).2.1, ((h.im.1 k hk).q e).2.2.2.1⟩) (fun q M1 e fA hl => ?_) (fun e => ?_)
    · obtain ⟨w1, h9, hb, lq, iq⟩ := (h.im.1 k hk).q e
      refine kk 1 S M1 L h.env ?_
      intro K2 k2
      have m1 : ∀ c, c < 31 ∨ 38 < c → M1 c = M c := fun c hc => fA c (by omega)
      refine c_R_restore hk h.env (fun _ => ?_) (fun y => ?_)
      · intro M2 a1 a2 a3 r1 r2 r3 r4 r5 r6 r7
        refine k2 S M2 L ?_
        have F : Fr [31, 32, 33, 34, 35, 36, 37, 38, 79, 80, 81, 82, 83, 84, 85] [(70, 17), (70, 18), (70, 19), (70, 20), (70, 21), (70, 22), (70, 23), (70, 63)] M M2 := by
          intro c j h1 h2
          simp only [List.mem_cons, List.not_mem_nil, or_false, not_or, Prod.mk.injEq, not_and] at h1 h2
          by_cases c70 : c = 70
          · subst c70
            rw [a2 j (by omega) (by omega), m1 70 (by omega)]
          · rw [a1 c (by omega) c70, m1 c (by omega)]
        have E : labE (imV M k) M2 := by
          refine ⟨fun j x y => ?_, fun i hi => ⟨?_, ?_, ?_, ?_, ?_⟩, fun i hi => ?_, fun i hi => ?_⟩
          · unfold imV
            have := a3 (j - 17) (by omega)
            rw [show 17 + (j - 17) = j by omega, m1 (115 + k) (by omega)] at this
            rw [if_neg (by omega), if_neg (by omega), if_neg (by omega), if_neg (by omega), if_neg (by omega), if_neg (by omega), if_neg (by omega), if_pos (by omega), this]
          · unfold imV
            rw [if_pos (by omega), r1 i hi, m1 (115 + k) (by omega)]
          · unfold imV
            rw [if_neg (by omega), if_pos (by omega), r2 i hi, m1 (115 + k) (by omega)]
          · unfold imV
            rw [if_neg (by omega), if_neg (by omega), if_pos (by omega), r3 i hi, m1 (115 + k) (by omega)]
          · unfold imV
            rw [if_neg (by omega), if_neg (by omega), if_neg (by omega), if_pos (by omega), r4 i hi, m1 (115 + k) (by omega)]
          · unfold imV
            rw [if_neg (by omega), if_neg (by omega), if_neg (by omega), if_neg (by omega), if_pos (by omega), r5 i hi, m1 (115 + k) (by omega)]
          · unfold imV
            rw [if_neg (by omega), if_neg (by omega), if_neg (by omega), if_neg (by omega), if_neg (by omega), if_pos (by omega), r6 i hi, m1 (115 + k) (by omega)]
          · unfold imV
            rw [if_neg (by omega), if_neg (by omega), if_neg (by omega), if_neg (by omega), if_neg (by omega), if_neg (by omega), if_pos (by omega), r7 i hi, m1 (115 + k) (by omega)]
        have i3 : ILb M M2 := iq.ve E
        have i4 : ILb M2 M2 := i3.vv (by rw [a2 9 (by omega) (by omega), m1 70 (by omega)]) (by rw [a1 77 (by omega) (by omega), m1 77 (by omega)])
        have l3 : LabR M2 M2 31 := (hl.of (fun c x y => a1 c (by omega) (by omega))).ve iq.nb.2 (fun p hp => (iq.gm p hp).2) E
        exact h.mkL F (by decide) (by decide) (by decide) ⟨l3, i4⟩
      · rw [m1 118 (by omega), w1] at y
        exact absurd y (by decide)
    · have w : M 118 k = 0 := by
        rcases h.im.1 k hk with ⟨w, _⟩ | ⟨_, q, w, _⟩
        · exact w
        · rw [w] at e; cases e
      refine kk 0 S _ L h.env ?_
      intro K2 k2
      refine c_R_restore hk h.env (fun y => ?_) (fun _ => k2 S _ L h.ref)
      rw [show rfL M 0 118 = M 118 from frL.row 118 (by decide) (by decide)] at y
      exact absurd w y
  · refine c_L_restore0 h.env hz ?_
    refine kk 0 S _ L h.env ?_
    intro K2 k2
    refine c_R_restore0 h.env hz ?_
    exact k2 S _ L h.ref
end T98g
