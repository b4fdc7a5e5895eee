section T94
variable {X : am_X} {d : Nat} {S : am_S} {M : am_M} {L : am_L}
theorem P_world {l s : Int32} (h : Rel S M) : Pair X (d + 60) m_L_world m_R_world [.int l, .int s] S M L := by
  intro K k
  refine c_L_world h.env h.cv h.iv h.ip (fun e => ?_) (fun e => ?_)
  · intro M1 f1 C1
    refine k _ S M1 L h.env ?_
    intro K2 k2
    refine c_R_world h.env (RS.refl.fr (f1.mono (by decide) (by decide))) h.iv h.ip (fun e2 => ?_) (fun e2 => absurd e e2)
    intro M2 L2 f2 R2
    have C2 : CV (wV M (lO l) (nm s)) M2 := C1.fr (f2.mono (by decide) (by decide))
    have I2 := (h.iv.wld (l := lO l) (x := nm s)).self R2
    have f := f1.join f2
    have e9 : M2 70 9 = M 70 9 := f 70 9 (by decide) (by decide)
    have e77 : M2 77 = M 77 := f.row 77 (by decide) (by decide)
    refine k2 S M2 L2 ⟨h.env, h.st.fr f (by decide), ⟨C2.lab.self R2, I2.b⟩, h.pg.fr f (by decide), h.nm.fr f (by decide), h.sp.fr f (by decide), h.bk.fr f (by decide), h.tx.fr f (by decide), rf.fr h.rf f (by decide), h.im.fr f (by decide) (by decide) (by decide) ?_ (fun p _ => by rw [e77]; exact Nat.le_refl _), h.fn.fr f (by decide)⟩
    unfold nP
    rw [e9]
    exact Nat.le_refl _
  · refine k _ S _ L h.env ?_
    intro K2 k2
    refine c_R_world h.env (RS.refl.fr (frL.mono (by decide) (by decide))) h.iv h.ip (fun e2 => absurd e2 e) (fun e2 => ?_)
    exact k2 S _ L h.ref
theorem P_cried {b t : Int32} (h : Rel S M) : Pair X (d + 60) m_L_cried m_R_cried [.int b, .int t] S M L := by
  intro K k
  refine c_L_cried h.env h.cv h.iv ?_
  refine k _ S _ L h.env ?_
  intro K2 k2
  by_cases c : crP M b t
  · have e : oCr M b t = 9 := if_pos c
    rw [if_pos e]
    have f1 : Fr [35] [] M (am_u M 35 (nm b) t) := Fr.refl.u (by decide)
    refine c_R_cried h.env (RS.refl.fr (f1.mono (by decide) (by decide))) h.iv ?_
    rw [if_pos e]
    refine k2 S _ L ?_
    refine h.mkL (cs := [35, 82]) (fs := []) ((Fr.refl.u (by decide)).u (by decide)) (by decide) (by decide) (by decide) ⟨?_, ?_⟩
    · have q := h.lb.c
      unfold LabR nB at q ⊢
      simp (disch := decide) only [am_u_ne, u_row]
      obtain ⟨q1, q2, q3, q4, q5, q6, q7, q8, q9, q10, q11, q12⟩ := q
      refine ⟨q1, q2, q3, q4, q5, q6, q7, q8, q9, q10, fun i hi => ?_, q12⟩
      by_cases e2 : i = nm b
      · rw [e2, am_u_same, am_u_same]
      · rw [am_u_ne (fun z => e2 z.2), am_u_ne (fun z => e2 z.2), u_row (by decide)]; exact q11 i hi
    · have q := h.lb.i
      unfold ILb nP nB at q ⊢
      simp (disch := decide) only [am_u_ne, u_row]
      exact q
  · have e : oCr M b t = 0 := if_neg c
    have e9 : ¬ oCr M b t = 9 := by rw [e]; decide
    rw [if_neg e9]
    refine c_R_cried h.env (RS.refl.fr (frL.mono (by decide) (by decide))) h.iv ?_
    rw [if_neg e9]
    exact k2 S _ L h.ref
theorem P_leave {b y : Int32} (hy : y = 0 ∨ y = 1) (h : Rel S M) : Pair X (d + 60) m_L_leave m_R_leave [.int b, .int y] S M L := by
  intro K k
  refine c_L_leave h.env h.cv h.iv hy ?_
  refine k _ S _ L h.env ?_
  intro K2 k2
  by_cases e : oLv M b y = 9
  · rw [if_pos e]
    have f1 : Fr [36] [] M (am_u M 36 (nm b) y) := Fr.refl.u (by decide)
    refine c_R_leave h.env (RS.refl.fr (f1.mono (by decide) (by decide))) h.iv hy ?_
    rw [if_pos e]
    refine k2 S _ L ?_
    refine h.mkL (cs := [36, 83]) (fs := []) ((Fr.refl.u (by decide)).u (by decide)) (by decide) (by decide) (by decide) ⟨?_, ?_⟩
    · have q := h.lb.c
      unfold LabR nB at q ⊢
      simp (disch := decide) only [am_u_ne, u_row]
      obtain ⟨q1, q2, q3, q4, q5, q6, q7, q8, q9, q10, q11, q12, q13⟩ := q
      refine ⟨q1, q2, q3, q4, q5, q6, q7, q8, q9, q10, q11, fun i hi => ?_, q13⟩
      by_cases e2 : i = nm b
      · rw [e2, am_u_same, am_u_same]
      · rw [am_u_ne (fun z => e2 z.2), am_u_ne (fun z => e2 z.2), u_row (by decide)]; exact q12 i hi
    · have q := h.lb.i
      unfold ILb nP nB at q ⊢
      simp (disch := decide) only [am_u_ne, u_row]
      obtain ⟨q1, q2, q3, q4, q5, q6⟩ := q
      refine ⟨q1, q2, q3, q4, fun i hi => ?_, q6⟩
      by_cases e2 : i = nm b
      · rw [e2, am_u_same]; exact hy
      · rw [am_u_ne (fun z => e2 z.2), u_row (by decide)]; exact q5 i hi
  · rw [if_neg e]
    refine c_R_leave h.env (RS.refl.fr (frL.mono (by decide) (by decide))) h.iv hy ?_
    rw [if_neg e]
    exact k2 S _ L h.ref
theorem P_gaze {b t z : Int32} (h : Rel S M) : Pair X (d + 60) m_L_gaze m_R_gaze [.int b, .int t, .int z] S M L := by
  intro K k
  refine c_L_gaze h.env h.cv h.iv ?_
  refine k _ S _ L h.env ?_
  intro K2 k2
  by_cases e : oGz M b t z = 9
  · rw [if_pos e]
    have tp : tP M b t ∧ ¬ M 84 (8 * nm b + nm t) = 8 ∧ (1 ≤ z ∧ z ≤ 600) := by
      unfold oGz at e
      by_cases c1 : tP M b t
      · rw [if_pos c1] at e
        by_cases c2 : M 84 (8 * nm b + nm t) = 8
        · rw [if_pos c2] at e; exact absurd e (by decide)
        · rw [if_neg c2] at e
          by_cases c3 : 1 ≤ z ∧ z ≤ 600
          · exact ⟨c1, c2, c3⟩
          · rw [if_neg c3] at e; exact absurd e (by decide)
      · rw [if_neg c1] at e; exact absurd e (by decide)
    obtain ⟨c1, c2, c3⟩ := tp
    have zr := in_nI (lo := 1) (hi := 600) (by decide) (by decide) c3
    obtain ⟨b, t, rfl, rfl, hb, ht, hb2, ht2⟩ := tP_ix h.iv c1
    rw [nm_nI (by omega), nm_nI (by omega)] at *
    have gm := h.lb.i.gm (8 * b + t) (by omega)
    have tl := (h.iv.tn hb).2.2.2.1
    generalize hg : nm (M 84 (8 * b + t)) = g at *
    have g8 : g < 8 := by
      rcases Nat.lt_or_ge g 8 with c | c
      · exact c
      · exact absurd (by rw [gm.1, show g = 8 by omega]; rfl) c2
    have f1 : Fr [37, 38] [] M (am_u (am_u M 37 (8 * (8 * b + t) + g) z) 38 (8 * b + t) (nI (g + 1))) := (Fr.refl.u (by decide)).u (by decide)
    refine c_R_gaze h.env (RS.refl.fr (f1.mono (by decide) (by decide))) h.iv ?_
    rw [if_pos e, nm_nI (by omega), nm_nI (by omega), hg]
    refine k2 S _ L ?_
    refine h.mkL (cs := [37, 38, 85, 84]) (fs := []) ((((Fr.refl.u (by decide)).u (by decide)).u (by decide)).u (by decide)) (by decide) (by decide) (by decide) ⟨?_, ?_⟩
    · have q := h.lb.c
      unfold LabR nB at q ⊢
      simp (disch := decide) only [am_u_ne, u_row]
      obtain ⟨q1, q2, q3, q4, q5, q6, q7, q8, q9, q10, q11, q12, q13, q14⟩ := q
      refine ⟨q1, q2, q3, q4, q5, q6, q7, q8, q9, q10, q11, q12, fun i hi => ?_, fun i j hi hj => ?_⟩
      · by_cases e2 : i = 8 * b + t
        · rw [e2, am_u_same, am_u_same]
        · rw [am_u_ne (fun w => e2 w.2), am_u_ne (fun w => e2 w.2), u_row (by decide), u_row (by decide), u_row (by decide), u_row (by decide)]; exact q13 i hi
      · by_cases e2 : i = 8 * b + t
        · subst e2
          by_cases e3 : j = g
          · rw [e3, am_u_same, am_u_same]
          · rw [am_u_same, nm_nI (by omega)] at hj
            rw [am_u_ne (fun w => by omega), am_u_ne (fun w => by omega), u_row (by decide), u_row (by decide)]
            exact q14 _ j hi (by rw [hg]; omega)
        · rw [am_u_ne (fun w => e2 w.2), u_row (by decide), u_row (by decide), u_row (by decide)] at hj
          have := (h.lb.i.gm i hi).2
          rw [am_u_ne (fun w => by omega), am_u_ne (fun w => by omega), u_row (by decide), u_row (by decide)]
          exact q14 i j hi hj
    · have q := h.lb.i
      unfold ILb nP nB at q ⊢
      simp (disch := decide) only [am_u_ne, u_row]
      obtain ⟨q1, q2, q3, q4, q5, q6, q7, q8, q9⟩ := q
      refine ⟨q1, q2, q3, q4, q5, fun i hi => ?_, fun i j hi hj => ?_, fun b' t' hb' ht' hh => ?_, q9⟩
      · by_cases e2 : i = 8 * b + t
        · rw [e2, am_u_same, nm_nI (by omega)]; exact ⟨rfl, by omega⟩
        · rw [am_u_ne (fun w => e2 w.2), u_row (by decide), u_row (by decide), u_row (by decide)]; exact q6 i hi
      · by_cases e2 : i = 8 * b + t
        · subst e2
          by_cases e3 : j = g
          · rw [e3, am_u_same]; exact zr
          · rw [am_u_same, nm_nI (by omega)] at hj
            rw [am_u_ne (fun w => by omega), u_row (by decide), u_row (by decide)]
            exact q7 _ j hi (by rw [hg]; omega)
        · rw [am_u_ne (fun w => e2 w.2), u_row (by decide), u_row (by decide), u_row (by decide)] at hj
          have := (h.lb.i.gm i hi).2
          rw [am_u_ne (fun w => by omega), u_row (by decide), u_row (by decide)]
          exact q7 i j hi hj
      · by_cases e2 : 8 * b' + t' = 8 * b + t
        · have e3 : b' = b := by omega
          have e4 : t' = t := by omega
          subst e3 e4
          have : tN M b' ≤ t' := hh
          omega
        · rw [am_u_ne (fun w => e2 w.2), u_row (by decide), u_row (by decide), u_row (by decide)]; exact q8 b' t' hb' ht' hh
  · rw [if_neg e]
    refine c_R_gaze h.env (RS.refl.fr (frL.mono (by decide) (by decide))) h.iv ?_
    rw [if_neg e]
    exact k2 S _ L h.ref
end T94
