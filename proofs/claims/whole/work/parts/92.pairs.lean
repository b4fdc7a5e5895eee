theorem okF_sub {cs : List Nat} {fs : List (Nat × Nat)} {rs rs' : List Nat} {ps ps' : List (Nat × Nat)} (h : okF cs fs rs ps = true) (h1 : ∀ c ∈ rs', c ∈ rs) (h2 : ∀ z ∈ ps', z ∈ ps) : okF cs fs rs' ps' = true := by
  unfold okF at h ⊢
  rw [Bool.and_eq_true] at h ⊢
  exact ⟨List.all_eq_true.mpr (fun c hc => List.all_eq_true.mp h.1 c (h1 c hc)), List.all_eq_true.mpr (fun z hz => List.all_eq_true.mp h.2 z (h2 z hz))⟩
theorem Fr.join {c1 c2 : List Nat} {f1 f2 : List (Nat × Nat)} {M M1 M2 : am_M} (h : Fr c1 f1 M M1) (g : Fr c2 f2 M1 M2) : Fr (c1 ++ c2) (f1 ++ f2) M M2 := fun c j h1 h2 => (g c j (fun q => h1 (List.mem_append_right _ q)) (fun q => h2 (List.mem_append_right _ q))).trans (h c j (fun q => h1 (List.mem_append_left _ q)) (fun q => h2 (List.mem_append_left _ q)))
def rsA : List Nat := rsSt ++ rsLb ++ rsPg ++ [113, 3, 86, 1, 71, 115, 116, 117, 118]
def psA : List (Nat × Nat) := psSt ++ psLb ++ psPg ++ psNm ++ psSp ++ psBk ++ [(2, 5), (70, 25)]
theorem Rel.scrF {S : am_S} {cs : List Nat} {fs : List (Nat × Nat)} {M M' : am_M} (h : Rel S M) (f : Fr cs fs M M') (g : okF cs fs rsA psA = true) (h1 : (cs.all fun c => decide (c < 119)) = true) (h2 : (fs.all fun z => decide (z.1 < 119)) = true) (hF : FnR M' M') : Rel S M' := by
  have a := (f.rw g).1
  have b := (f.rw g).2
  have e9 : nP M' = nP M := by unfold nP; rw [b (70, 9) (by decide)]
  refine ⟨h.env, h.st.fr f (okF_sub g (by decide) (by decide)), h.lb.fr f (okF_sub g (by decide) (by decide)), h.pg.fr f (okF_sub g (by decide) (by decide)), h.nm.fr f (okF_sub g (by decide) (by decide)), h.sp.fr f (okF_sub g (by decide) (by decide)), h.bk.fr f (okF_sub g (by decide) (by decide)), h.tx.fr f (okF_sub g (by decide) (by decide)), rf.fr h.rf f (okF_sub g (by decide) (by decide)), h.im.fr f (okF_sub g (by decide) (by decide)) h1 h2 (by rw [e9]; exact Nat.le_refl _) (fun p _ => by rw [a 77 (by decide)]; exact Nat.le_refl _), hF⟩
theorem Rel.scr {S : am_S} {cs : List Nat} {fs : List (Nat × Nat)} {M M' : am_M} (h : Rel S M) (f : Fr cs fs M M') (g : okF cs fs rsA psA = true) (g2 : okF cs fs rsFn psFn = true) (h1 : (cs.all fun c => decide (c < 119)) = true) (h2 : (fs.all fun z => decide (z.1 < 119)) = true) : Rel S M' := h.scrF f g h1 h2 (h.fn.fr f g2)
/-- a call of both: the same answer, and what holds between calls holds again -/
def Pair (X : am_X) (D mL mR : Nat) (as : List Value) (S : am_S) (M : am_M) (L : am_L) : Prop := ∀ K : am_K, (∀ r S1 M1 L1, am_env S1 → (∀ K' : am_K, (∀ S2 M2 L2, Rel S2 M2 → K' (some (.int r)) S2 M2 L2) → am_Call X D mR (.ref 70 :: as) S1 M1 L1 K') → K (some (.int r)) S1 M1 L1) → am_Call X D mL (.ref 0 :: as) S M L K
section T92
variable {X : am_X} {d : Nat} {S : am_S} {M : am_M} {L : am_L}
theorem P_length {b t : Int32} (h : Rel S M) : Pair X (d + 60) m_L_length m_R_length [.int b, .int t] S M L := by
  intro K k
  refine c_L_length h.env h.cv h.iv ?_
  refine k _ S M L h.env ?_
  intro K2 k2
  refine c_R_length h.env RS.refl h.iv ?_
  exact k2 S M L h
theorem P_read {b t : Int32} (h : Rel S M) : Pair X (d + 60) m_L_read m_R_read [.int b, .int t] S M L := by
  intro K k
  refine c_L_read h.env h.cv h.iv ?_
  intro M1 f1
  refine k _ S M1 L h.env ?_
  intro K2 k2
  refine c_R_read h.env (RS.refl.fr (f1.mono (by decide) (by decide))) h.iv ?_
  exact k2 S M1 L (h.scr f1 (by decide) (by decide) (by decide) (by decide))
theorem P_says {l p t a : Int32} (h : Rel S M) : Pair X (d + 60) m_L_says m_R_says [.int l, .int p, .int t, .int a] S M L := by
  intro K k
  refine c_L_says h.env h.cv h.iv h.ip ?_
  intro M1 f1
  refine k _ S M1 L h.env ?_
  intro K2 k2
  refine c_R_says h.env (RS.refl.fr (f1.mono (by decide) (by decide))) h.iv h.ip ?_
  intro M2 f2
  exact k2 S M2 L (h.scr (f1.join f2) (by decide) (by decide) (by decide) (by decide))
theorem P_out {b w : Int32} (h : Rel S M) : Pair X (d + 60) m_L_out m_R_out [.int b, .int w] S M L := by
  intro K k
  refine c_L_out h.env h.cv h.iv h.ip ?_
  intro M1 f1
  refine k _ S M1 L h.env ?_
  intro K2 k2
  refine c_R_out h.env (RS.refl.fr (f1.mono (by decide) (by decide))) h.iv h.ip ?_
  intro M2 f2
  exact k2 S M2 L (h.scr (f1.join f2) (by decide) (by decide) (by decide) (by decide))
theorem P_difference {b : Int32} (h : Rel S M) : Pair X (d + 60) m_L_difference m_R_difference [.int b] S M L := by
  intro K k
  refine c_L_difference h.env h.cv h.iv ?_
  intro M1 f1
  refine k _ S M1 L h.env ?_
  intro K2 k2
  refine c_R_difference h.env (RS.refl.fr (f1.mono (by decide) (by decide))) h.iv ?_
  exact k2 S M1 L (h.scr f1 (by decide) (by decide) (by decide) (by decide))
theorem P_odds {w : Int32} (h : Rel S M) : Pair X (d + 60) m_L_odds m_R_odds [.int w] S M L := by
  intro K k
  refine c_L_odds h.env h.cv h.iv h.ip ?_
  intro M1 f1
  refine k _ S M1 L h.env ?_
  intro K2 k2
  refine c_R_odds h.env (RS.refl.fr (f1.mono (by decide) (by decide))) h.iv h.ip ?_
  intro M2 f2
  exact k2 S M2 L (h.scr (f1.join f2) (by decide) (by decide) (by decide) (by decide))
theorem P_after {w : Int32} (h : Rel S M) : Pair X (d + 60) m_L_after m_R_after [.int w] S M L := by
  intro K k
  refine c_L_after h.env h.cv h.iv h.ip ?_
  intro M1 f1
  refine k _ S M1 L h.env ?_
  intro K2 k2
  refine c_R_after h.env (RS.refl.fr (f1.mono (by decide) (by decide))) h.iv h.ip ?_
  intro M2 f2
  exact k2 S M2 L (h.scr (f1.join f2) (by decide) (by decide) (by decide) (by decide))
theorem P_leaving {w : Int32} (h : Rel S M) : Pair X (d + 60) m_L_leaving m_R_leaving [.int w] S M L := by
  intro K k
  refine c_L_leaving h.env h.cv h.iv h.ip ?_
  intro M1 f1
  refine k _ S M1 L h.env ?_
  intro K2 k2
  refine c_R_leaving h.env (RS.refl.fr (f1.mono (by decide) (by decide))) h.iv h.ip ?_
  intro M2 f2
  exact k2 S M2 L (h.scr (f1.join f2) (by decide) (by decide) (by decide) (by decide))
theorem P_house {w v : Int32} (h : Rel S M) : Pair X (d + 60) m_L_house m_R_house [.int w, .int v] S M L := by
  intro K k
  refine c_L_house h.env h.cv h.iv h.ip ?_
  intro M1 f1
  refine k _ S M1 L h.env ?_
  intro K2 k2
  refine c_R_house h.env (RS.refl.fr (f1.mono (by decide) (by decide))) h.iv h.ip ?_
  intro M2 f2
  exact k2 S M2 L (h.scr (f1.join f2) (by decide) (by decide) (by decide) (by decide))
theorem P_joined {w : Int32} (h : Rel S M) : Pair X (d + 60) m_L_joined m_R_joined [.int w] S M L := by
  intro K k
  refine c_L_joined h.env h.cv h.iv h.ip ?_
  intro M1 f1
  refine k _ S M1 L h.env ?_
  intro K2 k2
  refine c_R_joined h.env (RS.refl.fr (f1.mono (by decide) (by decide))) h.iv h.ip ?_
  intro M2 f2
  exact k2 S M2 L (h.scr (f1.join f2) (by decide) (by decide) (by decide) (by decide))
theorem P_span {l w : Int32} (h : Rel S M) : Pair X (d + 60) m_L_span m_R_span [.int l, .int w] S M L := by
  intro K k
  refine c_L_span h.env h.cv h.iv h.ip ?_
  intro M1 f1
  refine k _ S M1 L h.env ?_
  intro K2 k2
  refine c_R_span h.env (RS.refl.fr (f1.mono (by decide) (by decide))) h.iv h.ip ?_
  intro M2 f2
  exact k2 S M2 L (h.scr (f1.join f2) (by decide) (by decide) (by decide) (by decide))
theorem P_parts {p o q a : Int32} (h : Rel S M) : Pair X (d + 60) m_L_parts m_R_parts [.int p, .int o, .int q, .int a] S M L := by
  intro K k
  refine c_L_parts h.env h.cv h.iv h.ip ?_
  intro M1 f1
  refine k _ S M1 L h.env ?_
  intro K2 k2
  refine c_R_parts h.env (RS.refl.fr (f1.mono (by decide) (by decide))) h.iv h.ip ?_
  intro M2 f2
  exact k2 S M2 L (h.scr (f1.join f2) (by decide) (by decide) (by decide) (by decide))
theorem P_fresh {w : Int32} (h : Rel S M) : Pair X (d + 60) m_L_fresh m_R_fresh [.int w] S M L := by
  intro K k
  refine c_L_fresh h.env h.cv h.iv h.ip ?_
  intro M1 f1
  refine k _ S M1 L h.env ?_
  intro K2 k2
  refine c_R_fresh h.env (RS.refl.fr (f1.mono (by decide) (by decide))) h.iv h.ip ?_
  intro M2 f2
  exact k2 S M2 L (h.scr (f1.join f2) (by decide) (by decide) (by decide) (by decide))
theorem P_settled {b : Int32} (h : Rel S M) : Pair X (d + 60) m_L_settled m_R_settled [.int b] S M L := by
  intro K k
  refine c_L_settled h.env h.cv h.iv ?_
  intro M1 f1
  refine k _ S M1 L h.env ?_
  intro K2 k2
  refine c_R_settled h.env (RS.refl.fr (f1.mono (by decide) (by decide))) h.iv ?_
  exact k2 S M1 L (h.scr f1 (by decide) (by decide) (by decide) (by decide))
theorem P_apart {l b : Int32} (h : Rel S M) : Pair X (d + 60) m_L_apart m_R_apart [.int l, .int b] S M L := by
  intro K k
  refine c_L_apart h.env h.cv h.iv h.ip ?_
  intro M1 f1
  refine k _ S M1 L h.env ?_
  intro K2 k2
  refine c_R_apart h.env (RS.refl.fr (f1.mono (by decide) (by decide))) h.iv h.ip ?_
  intro M2 f2
  exact k2 S M2 L (h.scr (f1.join f2) (by decide) (by decide) (by decide) (by decide))
theorem P_nearest {b : Int32} (h : Rel S M) : Pair X (d + 60) m_L_nearest m_R_nearest [.int b] S M L := by
  intro K k
  refine c_L_nearest h.env h.cv h.iv h.ip ?_
  intro M1 f1
  refine k _ S M1 L h.env ?_
  intro K2 k2
  refine c_R_nearest h.env (RS.refl.fr (f1.mono (by decide) (by decide))) h.iv h.ip ?_
  intro M2 f2
  exact k2 S M2 L (h.scr (f1.join f2) (by decide) (by decide) (by decide) (by decide))
theorem P_kept (h : Rel S M) : Pair X (d + 60) m_L_kept m_R_kept [] S M L := by
  intro K k
  refine c_L_kept h.env h.cv h.iv h.bk ?_
  refine k _ S M L h.env ?_
  intro K2 k2
  refine c_R_kept h.env RS.refl h.iv h.bk.b1 ?_
  exact k2 S M L h
theorem P_status {r : Int32} (h : Rel S M) : Pair X (d + 60) m_L_status m_R_status [.int r] S M L := by
  intro K k
  refine c_L_status h.env ?_
  refine k _ S M L h.env ?_
  intro K2 k2
  refine c_R_status h.env ?_
  rw [← h.rf]
  exact k2 S M L h
theorem P_count {w : Int32} (h : Rel S M) : Pair X (d + 60) m_L_count m_R_count [.int w] S M L := by
  intro K k
  refine c_L_count h.env h.cv h.iv ?_ ?_
  · obtain ⟨T, n, a, b⟩ := h.tx
    rw [a.f5, b.f5]
  refine k _ S M L h.env ?_
  intro K2 k2
  refine c_R_count h.env RS.refl h.iv ?_
  exact k2 S M L h
theorem P_on {s w : Int32} (h : Rel S M) : Pair X (d + 60) m_L_on m_R_on [.int s, .int w] S M L := by
  intro K k
  refine c_L_on h.env (ns := nS M) (h.st.c.f7.trans h.st.i.ns.1) h.st.i.ns.2 ?_
  rw [h.st.c.f7, h.st.c.r25, h.st.c.r26, h.st.c.r27, h.st.c.r28]
  refine k _ S M L h.env ?_
  intro K2 k2
  exact c_R_on h.env (ns := nS M) h.st.i.ns.1 h.st.i.ns.2 (k2 S M L h)
theorem P_row {s w : Int32} (h : Rel S M) : Pair X (d + 60) m_L_row m_R_row [.int s, .int w] S M L := by
  intro K k
  have hm : ∀ j, j < nP M → ∃ n, n ≤ 8 ∧ M 77 j = nI n := fun j hj => ⟨_, (h.st.i.pm j hj).2, (h.st.i.pm j hj).1⟩
  refine c_L_row h.env (np := nP M) (h.st.c.f8.trans h.st.i.np.1) h.st.i.np.2 (by rw [h.st.c.r30]; exact hm) ?_
  rw [h.st.c.f8, h.st.c.r29, h.st.c.r30]
  refine k _ S M L h.env ?_
  intro K2 k2
  exact c_R_row h.env (np := nP M) h.st.i.np.1 h.st.i.np.2 hm (k2 S M L h)
theorem P_fault (h : Rel S M) : Pair X (d + 60) m_L_fault m_R_fault [] S M L := by
  intro K k
  obtain ⟨T, n, a, b⟩ := h.tx
  refine c_L_fault h.env a ?_
  intro M1 f1
  refine k _ S M1 L h.env ?_
  intro K2 k2
  refine c_R_fault h.env (b.of (f1 70 25 (by decide) (by decide)) (f1.row 86 (by decide) (by decide))) ?_
  intro M2 L2 f2
  exact k2 S M2 L2 (h.scr (f1.join f2) (by decide) (by decide) (by decide) (by decide))
theorem P_next {m a w : Int32} (h : Rel S M) : Pair X (d + 60) m_L_next m_R_next_IIII [.int m, .int a, .int w] S M L := by
  intro K k
  refine c_L_next h.env h.cv h.iv h.ip h.fn ?_
  intro M1 f1 F1
  refine k _ S M1 L h.env ?_
  intro K2 k2
  refine c_R_next h.env (RS.refl.fr (f1.mono (by decide) (by decide))) h.iv h.ip ?_
  intro M2 f2
  have F1' : FnR M1 M1 := ⟨F1.us, F1.o0, F1.s0, by
    rcases F1.ca with c | ⟨m, x, c1, c2, c3, c4, c5, c6⟩
    · exact Or.inl c
    · have e8 : nS M1 = nS M := by unfold nS; rw [f1 70 8 (by decide) (by decide)]
      refine Or.inr ⟨m, x, c1, c2, by rw [e8]; exact c3, c4, c5, ?_⟩
      rw [nxS_congr (V := M) (f1.row 72 (by decide) (by decide)) (f1.row 73 (by decide) (by decide)) (f1.row 74 (by decide) (by decide)) (f1.row 75 (by decide) (by decide)) (f1.row 76 (by decide) (by decide)) (f1.row 88 (by decide) (by decide)) (f1.row 91 (by decide) (by decide)) (f1.row 94 (by decide) (by decide)) (f1 70 8 (by decide) (by decide)) (f1 97 0 (by decide) (by decide))]
      exact c6⟩
  exact k2 S M2 L (h.scrF (f1.join f2) (by decide) (by decide) (by decide) (F1'.fr f2 (by decide)))
theorem P_worlds {l s w lm : Int32} (h : Rel S M) : Pair X (d + 60) m_L_worlds m_R_worlds [.int l, .int s, .int w, .int lm] S M L := by
  intro K k
  refine c_L_worlds h.env h.cv h.iv h.ip ?_
  intro M1 f1 C1
  refine k _ S M1 L h.env ?_
  intro K2 k2
  refine c_R_worlds h.env (RS.refl.fr (f1.mono (by decide) (by decide))) h.iv h.ip ?_
  intro M2 L2 f2 R2
  have C2 : CV M M2 := C1.fr (f2.mono (by decide) (by decide))
  have I2 := h.iv.self R2
  have f := f1.join f2
  refine k2 S M2 L2 ⟨h.env, h.st.fr f (by decide), ⟨C2.lab.self R2, I2.b⟩, h.pg.fr f (by decide), h.nm.fr f (by decide), h.sp.fr f (by decide), h.bk.fr f (by decide), h.tx.fr f (by decide), rf.fr h.rf f (by decide), h.im.fr f (by decide) (by decide) (by decide) ?_ (fun p _ => by rw [R2.r77]; exact Nat.le_refl _), h.fn.fr f (by decide)⟩
  unfold nP
  rw [R2.f9]
  exact Nat.le_refl _
end T92
