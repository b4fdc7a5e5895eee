def rsB : List Nat := rsSt ++ rsLb ++ rsPg ++ [113, 3, 86, 115, 116, 117, 118]
theorem Rel.scrR {S : am_S} {cs : List Nat} {fs : List (Nat × Nat)} {M M' : am_M} (h : Rel S M) (f : Fr cs fs M M') (g : okF cs fs rsB psA = true) (g2 : okF cs fs rsFn psFn = true) (h1 : (cs.all fun c => decide (c < 119)) = true) (h2 : (fs.all fun z => decide (z.1 < 119)) = true) (hr : M' 1 = M' 71) : Rel S M' := by
  have a := (f.rw g).1
  have b := (f.rw g).2
  have e9 : nP M' = nP M := by unfold nP; rw [b (70, 9) (by decide)]
  refine ⟨h.env, h.st.fr f (okF_sub g (by decide) (by decide)), h.lb.fr f (okF_sub g (by decide) (by decide)), h.pg.fr f (okF_sub g (by decide) (by decide)), h.nm.fr f (okF_sub g (by decide) (by decide)), h.sp.fr f (okF_sub g (by decide) (by decide)), h.bk.fr f (okF_sub g (by decide) (by decide)), h.tx.fr f (okF_sub g (by decide) (by decide)), hr, h.im.fr f (okF_sub g (by decide) (by decide)) h1 h2 (by rw [e9]; exact Nat.le_refl _) (fun p _ => by rw [a 77 (by decide)]; exact Nat.le_refl _), h.fn.fr f g2⟩
theorem frL {M : am_M} {r : Nat} : Fr [1] [] M (rfL M r) := Fr.refl.u (by decide)
theorem frR {M : am_M} {r : Nat} : Fr [71] [] M (rfR M r) := Fr.refl.u (by decide)
theorem rf_eq {M M' : am_M} {r : Nat} (h : M 1 = M 71) (e1 : M' 1 = rfL M r 1) (e2 : M' 71 = M 71) : rfR M' r 1 = rfR M' r 71 := by
  unfold rfR
  rw [u_row (by decide), e1]
  unfold rfL
  funext j
  unfold am_u
  by_cases e : j = r
  · rw [if_pos ⟨rfl, e⟩, if_pos ⟨rfl, e⟩, e2, h]
  · rw [if_neg (fun q => e q.2), if_neg (fun q => e q.2), e2, h]
theorem Rel.ref {S : am_S} {M : am_M} {r : Nat} (h : Rel S M) : Rel S (rfR (rfL M r) r) := h.scrR ((frL (M := M) (r := r)).join frR) (by decide) (by decide) (by decide) (by decide) (rf_eq h.rf rfl (frL.row 71 (by decide) (by decide)))
/-- the stage alone changes nothing of the heap's images -/
theorem Rel.mkL {S : am_S} {cs : List Nat} {fs : List (Nat × Nat)} {M M' : am_M} (h : Rel S M) (f : Fr cs fs M M') (g : okF cs fs (rsSt ++ rsPg ++ [113, 3, 86, 1, 71, 115, 116, 117, 118] ++ rsFn) (psSt ++ psPg ++ psNm ++ psSp ++ psBk ++ [(2, 5), (70, 25)] ++ psFn) = true) (h1 : (cs.all fun c => decide (c < 119)) = true) (h2 : (fs.all fun z => decide (z.1 < 119)) = true) (hl : pLb M') : Rel S M' := by
  have a := (f.rw g).1
  have b := (f.rw g).2
  have e9 : nP M' = nP M := by unfold nP; rw [b (70, 9) (by decide)]
  exact ⟨h.env, h.st.fr f (okF_sub g (by decide) (by decide)), hl, h.pg.fr f (okF_sub g (by decide) (by decide)), h.nm.fr f (okF_sub g (by decide) (by decide)), h.sp.fr f (okF_sub g (by decide) (by decide)), h.bk.fr f (okF_sub g (by decide) (by decide)), h.tx.fr f (okF_sub g (by decide) (by decide)), rf.fr h.rf f (okF_sub g (by decide) (by decide)), h.im.fr f (okF_sub g (by decide) (by decide)) h1 h2 (by rw [e9]; exact Nat.le_refl _) (fun p _ => by rw [a 77 (by decide)]; exact Nat.le_refl _), h.fn.fr f (okF_sub g (by decide) (by decide))⟩
section T93
variable {X : am_X} {d : Nat} {S : am_S} {M : am_M} {L : am_L}
theorem in_nI {x : Int32} {lo hi : Nat} (hlo : lo < 2147483648) (hhi : hi < 2147483648) (h : nI lo ≤ x ∧ x ≤ nI hi) : x = nI (nm x) ∧ lo ≤ nm x ∧ nm x ≤ hi := by
  obtain ⟨j, hj, rfl⟩ := nI_of2 (M := nI hi) (n := hi) (nI_toInt hhi) (Int32.not_lt.mpr (Int32.le_trans (nI_pos' hlo) h.1)) h.2
  rw [nm_nI (by omega)]
  refine ⟨rfl, ?_, hj⟩
  have := h.1
  rw [nI_leI hlo (by omega)] at this
  exact this
theorem P_rule {w m l : Int32} (h : Rel S M) : Pair X (d + 60) m_L_rule m_R_rule [.int w, .int m, .int l] S M L := by
  intro K k
  refine c_L_rule h.env ?_
  refine k _ S _ L h.env ?_
  intro K2 k2
  refine c_R_rule h.env ?_
  refine k2 S _ L ?_
  by_cases c : (1 ≤ w ∧ w ≤ 100) ∧ (10 ≤ m ∧ m ≤ 600) ∧ (0 ≤ l ∧ l ≤ 100)
  · have e : o_rule w m l = 9 := if_pos c
    rw [if_pos e, if_pos e]
    have rw1 := in_nI (lo := 1) (hi := 100) (by decide) (by decide) c.1
    have rm1 := in_nI (lo := 10) (hi := 600) (by decide) (by decide) c.2.1
    have rl1 := in_nI (lo := 0) (hi := 100) (by decide) (by decide) c.2.2
    refine h.mkL (cs := []) (fs := [(31, 8), (31, 9), (31, 10), (70, 18), (70, 19), (70, 20)]) ((((((Fr.refl.uf (by decide)).uf (by decide)).uf (by decide)).uf (by decide)).uf (by decide)).uf (by decide)) (by decide) (by decide) (by decide) ⟨?_, ?_⟩
    · have q := h.lb.c
      unfold LabR nB at q ⊢
      simp (disch := decide) only [am_u_ne, am_u_same, u_row, true_and]
      exact ⟨q.1, q.2.2.2.2⟩
    · have q := h.lb.i
      unfold ILb nP nB at q ⊢
      simp (disch := decide) only [am_u_ne, am_u_same, u_row, true_and]
      obtain ⟨q1, q2, q3, q4, q5, q6, q7, q8, q9, q10, q11, q12⟩ := q
      exact ⟨q1, q2, q3, q4, q5, q6, q7, q8, rw1, rm1, ⟨rl1.1, rl1.2.2⟩, q12⟩
  · have e : o_rule w m l = 2 := if_neg c
    rw [if_neg (by rw [e]; decide), if_neg (by rw [e]; decide)]
    exact h.ref
theorem P_lean {l : Int32} (h : Rel S M) : Pair X (d + 60) m_L_lean m_R_lean [.int l] S M L := by
  intro K k
  refine c_L_lean h.env ?_
  refine k _ S _ L h.env ?_
  intro K2 k2
  refine c_R_lean h.env ?_
  refine k2 S _ L ?_
  by_cases c : -50 ≤ l ∧ l ≤ 50
  · have e : o_lean l = 9 := if_pos c
    rw [if_pos e, if_pos e]
    have r1 : -50 ≤ l.toInt ∧ l.toInt ≤ 50 := ⟨Int32.le_iff_toInt_le.mp c.1, Int32.le_iff_toInt_le.mp c.2⟩
    refine h.mkL (cs := []) (fs := [(31, 11), (70, 21)]) ((Fr.refl.uf (by decide)).uf (by decide)) (by decide) (by decide) (by decide) ⟨?_, ?_⟩
    · have q := h.lb.c
      unfold LabR nB at q ⊢
      simp (disch := decide) only [am_u_ne, am_u_same, u_row, true_and]
      exact ⟨q.1, q.2.1, q.2.2.1, q.2.2.2.1, q.2.2.2.2.2⟩
    · have q := h.lb.i
      unfold ILb nP nB at q ⊢
      simp (disch := decide) only [am_u_ne, am_u_same, u_row, true_and]
      obtain ⟨q1, q2, q3, q4, q5, q6, q7, q8, q9, q10, q11, q12, q13⟩ := q
      exact ⟨q1, q2, q3, q4, q5, q6, q7, q8, q9, q10, q11, r1, q13⟩
  · have e : o_lean l = 2 := if_neg c
    rw [if_neg (by rw [e]; decide), if_neg (by rw [e]; decide)]
    exact h.ref
theorem P_reading {r c : Int32} (h : Rel S M) : Pair X (d + 60) m_L_reading m_R_reading [.int r, .int c] S M L := by
  intro K k
  refine c_L_reading h.env ?_
  refine k _ S _ L h.env ?_
  intro K2 k2
  refine c_R_reading h.env ?_
  refine k2 S _ L ?_
  by_cases y : (0 ≤ r ∧ r ≤ 3) ∧ (10 ≤ c ∧ c ≤ 600)
  · have e : o_reading r c = 9 := if_pos y
    rw [if_pos e, if_pos e]
    have r1 := in_nI (lo := 0) (hi := 3) (by decide) (by decide) y.1
    have c1 := in_nI (lo := 10) (hi := 600) (by decide) (by decide) y.2
    refine h.mkL (cs := []) (fs := [(31, 12), (31, 13), (70, 22), (70, 23)]) ((((Fr.refl.uf (by decide)).uf (by decide)).uf (by decide)).uf (by decide)) (by decide) (by decide) (by decide) ⟨?_, ?_⟩
    · have q := h.lb.c
      unfold LabR nB at q ⊢
      simp (disch := decide) only [am_u_ne, am_u_same, u_row, true_and]
      exact ⟨q.1, q.2.1, q.2.2.1, q.2.2.2.1, q.2.2.2.2.1, q.2.2.2.2.2.2.2⟩
    · have q := h.lb.i
      unfold ILb nP nB at q ⊢
      simp (disch := decide) only [am_u_ne, am_u_same, u_row, true_and]
      obtain ⟨q1, q2, q3, q4, q5, q6, q7, q8, q9, q10, q11, q12, q13, q14⟩ := q
      exact ⟨q1, q2, q3, q4, q5, q6, q7, q8, q9, q10, q11, q12, ⟨r1.1, r1.2.2⟩, c1⟩
  · have e : o_reading r c = 2 := if_neg y
    rw [if_neg (by rw [e]; decide), if_neg (by rw [e]; decide)]
    exact h.ref
theorem P_spread {s l : Int32} (h : Rel S M) : Pair X (d + 60) m_L_spread m_R_spread [.int s, .int l] S M L := by
  intro K k
  refine c_L_spread h.env ?_
  refine k _ S _ L h.env ?_
  intro K2 k2
  refine c_R_spread h.env ?_
  refine k2 S _ L ?_
  by_cases y : (0 ≤ s ∧ s ≤ 100) ∧ (1 ≤ l ∧ l ≤ 5)
  · have e : o_spread s l = 9 := if_pos y
    rw [if_pos e, if_pos e]
    have s1 := in_nI (lo := 0) (hi := 100) (by decide) (by decide) y.1
    have l1 := in_nI (lo := 1) (hi := 5) (by decide) (by decide) y.2
    have f : Fr [] [(48, 6), (48, 7), (70, 50), (70, 51)] M (am_u (am_u (am_u (am_u M 48 6 s) 48 7 l) 70 50 s) 70 51 l) := (((Fr.refl.uf (by decide)).uf (by decide)).uf (by decide)).uf (by decide)
    refine ⟨h.env, h.st.fr f (by decide), h.lb.fr f (by decide), h.pg.fr f (by decide), h.nm.fr f (by decide), ⟨?_, ?_, ?_, ?_⟩, h.bk.fr f (by decide), h.tx.fr f (by decide), rf.fr h.rf f (by decide), h.im.fr f (by decide) (by decide) (by decide) ?_ ?_, h.fn.fr f (by decide)⟩
    · simp (disch := decide) only [am_u_ne, am_u_same]
    · simp (disch := decide) only [am_u_ne, am_u_same]
    · simp (disch := decide) only [am_u_ne, am_u_same]; exact ⟨s1.1, s1.2.2⟩
    · simp (disch := decide) only [am_u_ne, am_u_same]; exact l1
    · unfold nP
      simp (disch := decide) only [am_u_ne]
      exact Nat.le_refl _
    · intro p _
      simp (disch := decide) only [u_row]
      exact Nat.le_refl _
  · have e : o_spread s l = 2 := if_neg y
    rw [if_neg (by rw [e]; decide), if_neg (by rw [e]; decide)]
    exact h.ref
end T93
