theorem Fr.back {cs : List Nat} {fs : List (Nat × Nat)} {M M1 : am_M} {c j : Nat} {x : Int32} (h : Fr cs ((c, j) :: fs) M M1) (hx : x = M c j) : Fr cs fs M (am_u M1 c j x) := by
  intro a b h1 h2
  by_cases e : a = c ∧ b = j
  · rw [e.1, e.2, am_u_same]; exact hx
  · rw [am_u_ne e]
    refine h a b h1 (fun q => ?_)
    rcases List.mem_cons.mp q with q | q
    · injection q with q1 q2; exact e ⟨q1, q2⟩
    · exact h2 q
theorem u_both {V M : am_M} {c j a b : Nat} {x : Int32} (h : M a b = V a b) : am_u M c j x a b = am_u V c j x a b := by
  by_cases e : a = c ∧ b = j
  · rw [e.1, e.2, am_u_same, am_u_same]
  · rw [am_u_ne e, am_u_ne e]; exact h
theorem u_bothr {V M : am_M} {c j a : Nat} {x : Int32} (h : M a = V a) : am_u M c j x a = am_u V c j x a := by
  funext b
  exact u_both (congrFun h b)
/-- the reference's own field changed in both -/
theorem RS.u {V M : am_M} {j : Nat} {x : Int32} (h : RS V M) : RS (am_u V 70 j x) (am_u M 70 j x) := by
  unfold RS at h ⊢
  obtain ⟨h1, h2, h3, h4, h5, h6, h7, h8, h9, h10, h11, h12, h13, h14, h15, h16, h17, h18, h19, h20, h21, h22, h23, h24, h25, h26, h27, h28, h29, h30, h31, h32, h33, h34, h35, h36, h37, h38, h39, h40⟩ := h
  exact ⟨u_bothr h1, u_bothr h2, u_bothr h3, u_bothr h4, u_bothr h5, u_bothr h6, u_bothr h7, u_bothr h8, u_bothr h9, u_bothr h10, u_bothr h11, u_bothr h12, u_bothr h13, u_bothr h14, u_bothr h15, u_bothr h16, u_bothr h17, u_bothr h18, u_bothr h19, u_bothr h20, u_bothr h21, u_bothr h22, u_bothr h23, u_bothr h24, u_both h25, u_both h26, u_both h27, u_both h28, u_both h29, u_both h30, u_both h31, u_both h32, u_both h33, u_both h34, u_both h35, u_both h36, u_both h37, u_both h38, u_both h39, u_both h40⟩
theorem IVp.u {V : am_M} {j : Nat} {x : Int32} (h : IVp V) : IVp (am_u V 70 j x) := by
  have e : ∀ c, (c = 70) = False → am_u V 70 j x c = V c := fun c hc => am_u_row2 hc
  unfold IVp nL nO isC nL nO at h ⊢
  rw [e 97 (by decide), e 98 (by decide), e 91 (by decide), e 94 (by decide), e 88 (by decide)]
  exact h
/-- rule, lean, reading: which fields they are in both -/
def fz (j : Nat) : Nat := if j = 18 then 8 else if j = 19 then 9 else if j = 21 then 11 else 12
theorem CV.u {V M : am_M} {j : Nat} {x : Int32} (hj : j = 18 ∨ j = 19 ∨ j = 21 ∨ j = 22) (h : CV V M) : CV (am_u V 70 j x) (am_u M 31 (fz j) x) := by
  have e : ∀ c, (c = 70) = False → am_u V 70 j x c = V c := fun c hc => am_u_row2 hc
  have g : ∀ c, (c = 31) = False → am_u M 31 (fz j) x c = M c := fun c hc => am_u_row2 hc
  have n17 : am_u V 70 j x 70 17 = V 70 17 := am_u_ne (by omega)
  have n8 : am_u V 70 j x 70 8 = V 70 8 := am_u_ne (by omega)
  have n9 : am_u V 70 j x 70 9 = V 70 9 := am_u_ne (by omega)
  refine ⟨?_, ?_, ?_, ?_, ?_, ?_, ?_⟩
  · have p := h.lab
    unfold LabR nB at p ⊢
    obtain ⟨p1, p2, p3, p4, p5, p6, p7, p8, p9, p10, p11, p12, p13, p14⟩ := p
    rw [n17]
    refine ⟨?_, ?_, ?_, ?_, ?_, ?_, ?_, ?_, ?_, ?_, ?_, ?_, ?_, ?_⟩
    · rw [am_u_ne (by unfold fz; rcases hj with rfl | rfl | rfl | rfl <;> decide)]; exact p1
    · rcases hj with rfl | rfl | rfl | rfl
      · rw [show fz 18 = 8 from rfl, am_u_same, am_u_same]
      all_goals (rw [am_u_ne (by unfold fz; decide), am_u_ne (by decide)]; exact p2)
    · rcases hj with rfl | rfl | rfl | rfl
      · rw [am_u_ne (by unfold fz; decide), am_u_ne (by decide)]; exact p3
      · rw [show fz 19 = 9 from rfl, am_u_same, am_u_same]
      all_goals (rw [am_u_ne (by unfold fz; decide), am_u_ne (by decide)]; exact p3)
    · rw [am_u_ne (by unfold fz; rcases hj with rfl | rfl | rfl | rfl <;> decide), am_u_ne (by omega)]; exact p4
    · rcases hj with rfl | rfl | rfl | rfl
      · rw [am_u_ne (by unfold fz; decide), am_u_ne (by decide)]; exact p5
      · rw [am_u_ne (by unfold fz; decide), am_u_ne (by decide)]; exact p5
      · rw [show fz 21 = 11 from rfl, am_u_same, am_u_same]
      · rw [am_u_ne (by unfold fz; decide), am_u_ne (by decide)]; exact p5
    · rcases hj with rfl | rfl | rfl | rfl
      · rw [am_u_ne (by unfold fz; decide), am_u_ne (by decide)]; exact p6
      · rw [am_u_ne (by unfold fz; decide), am_u_ne (by decide)]; exact p6
      · rw [am_u_ne (by unfold fz; decide), am_u_ne (by decide)]; exact p6
      · rw [show fz 22 = 12 from rfl, am_u_same, am_u_same]
    · rw [am_u_ne (by unfold fz; rcases hj with rfl | rfl | rfl | rfl <;> decide), am_u_ne (by omega)]; exact p7
    · rw [g (31 + 1) (by decide), e 79 (by decide)]; exact p8
    · rw [g (31 + 2) (by decide), e 80 (by decide)]; exact p9
    · rw [g (31 + 3) (by decide), e 81 (by decide)]; exact p10
    · rw [g (31 + 4) (by decide), e 82 (by decide)]; exact p11
    · rw [g (31 + 5) (by decide), e 83 (by decide)]; exact p12
    · rw [g (31 + 7) (by decide), e 84 (by decide)]; exact p13
    · rw [g (31 + 6) (by decide), e 84 (by decide), e 85 (by decide)]; exact p14
  · have p := h.st
    unfold CSs at p ⊢
    rw [n8, n9, g 23 (by decide), g 24 (by decide), g 25 (by decide), g 26 (by decide), g 27 (by decide), g 28 (by decide), g 29 (by decide), g 30 (by decide), e 72 (by decide), e 73 (by decide), e 74 (by decide), e 75 (by decide), e 76 (by decide), e 77 (by decide), e 78 (by decide)]
    exact p
  · have p := h.pg
    unfold PgR nL nO isC nL nO at p ⊢
    rw [g 16 (by decide), g 17 (by decide), g 18 (by decide), g 19 (by decide), g 20 (by decide), g 21 (by decide), e 97 (by decide), e 98 (by decide), e 91 (by decide), e 94 (by decide), e 88 (by decide)]
    exact p
  · rw [g 49 (by decide)]; exact h.n49
  · rw [g 52 (by decide)]; exact h.n52
  · rw [g 48 (by decide), am_u_ne (by omega)]; exact h.sp
  · rw [g 48 (by decide), am_u_ne (by omega)]; exact h.lo
