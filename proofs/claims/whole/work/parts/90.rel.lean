/-! ===== what holds between calls, piece by piece ===== -/
/-- the lab's ranges: W's lab over V's stage -/
def ILb (V W : am_M) : Prop := (W 70 17 = nI (nB W) ∧ nB W ≤ 16) ∧ (∀ b, b < nB W → W 79 b = nI (nm (W 79 b)) ∧ nm (W 79 b) < nP V) ∧ (∀ b, b < nB W → W 80 b = nI (nm (W 80 b)) ∧ nm (W 80 b) < 6) ∧ (∀ b, b < nB W → W 81 b = nI (nm (W 81 b)) ∧ nm (W 81 b) ≤ 60) ∧ (∀ b, b < nB W → W 83 b = 0 ∨ W 83 b = 1) ∧ (∀ q, q < 8 * nB W → W 84 q = nI (nm (W 84 q)) ∧ nm (W 84 q) ≤ 8) ∧ (∀ q i, q < 8 * nB W → i < nm (W 84 q) → W 85 (8 * q + i) = nI (nm (W 85 (8 * q + i))) ∧ 1 ≤ nm (W 85 (8 * q + i)) ∧ nm (W 85 (8 * q + i)) ≤ 600) ∧ (∀ b t, b < nB W → t < 8 → nm (V 77 (nm (W 79 b))) ≤ t → W 84 (8 * b + t) = 0) ∧ (W 70 18 = nI (nm (W 70 18)) ∧ 1 ≤ nm (W 70 18) ∧ nm (W 70 18) ≤ 100) ∧ (W 70 19 = nI (nm (W 70 19)) ∧ 10 ≤ nm (W 70 19) ∧ nm (W 70 19) ≤ 600) ∧ (W 70 20 = nI (nm (W 70 20)) ∧ nm (W 70 20) ≤ 100) ∧ (-50 ≤ (W 70 21).toInt ∧ (W 70 21).toInt ≤ 50) ∧ (W 70 22 = nI (nm (W 70 22)) ∧ nm (W 70 22) ≤ 3) ∧ (W 70 23 = nI (nm (W 70 23)) ∧ 10 ≤ nm (W 70 23) ∧ nm (W 70 23) ≤ 600)
theorem ILb.nb {V W : am_M} (h : ILb V W) : W 70 17 = nI (nB W) ∧ nB W ≤ 16 := h.1
theorem ILb.bp {V W : am_M} (h : ILb V W) : ∀ b, b < nB W → W 79 b = nI (nm (W 79 b)) ∧ nm (W 79 b) < nP V := h.2.1
theorem ILb.bh {V W : am_M} (h : ILb V W) : ∀ b, b < nB W → W 80 b = nI (nm (W 80 b)) ∧ nm (W 80 b) < 6 := h.2.2.1
theorem ILb.ba {V W : am_M} (h : ILb V W) : ∀ b, b < nB W → W 81 b = nI (nm (W 81 b)) ∧ nm (W 81 b) ≤ 60 := h.2.2.2.1
theorem ILb.bl {V W : am_M} (h : ILb V W) : ∀ b, b < nB W → W 83 b = 0 ∨ W 83 b = 1 := h.2.2.2.2.1
theorem ILb.gm {V W : am_M} (h : ILb V W) : ∀ q, q < 8 * nB W → W 84 q = nI (nm (W 84 q)) ∧ nm (W 84 q) ≤ 8 := h.2.2.2.2.2.1
theorem ILb.gz {V W : am_M} (h : ILb V W) : ∀ q i, q < 8 * nB W → i < nm (W 84 q) → W 85 (8 * q + i) = nI (nm (W 85 (8 * q + i))) ∧ 1 ≤ nm (W 85 (8 * q + i)) ∧ nm (W 85 (8 * q + i)) ≤ 600 := h.2.2.2.2.2.2.1
theorem ILb.g0 {V W : am_M} (h : ILb V W) : ∀ b t, b < nB W → t < 8 → nm (V 77 (nm (W 79 b))) ≤ t → W 84 (8 * b + t) = 0 := h.2.2.2.2.2.2.2.1
theorem ILb.w {V W : am_M} (h : ILb V W) : W 70 18 = nI (nm (W 70 18)) ∧ 1 ≤ nm (W 70 18) ∧ nm (W 70 18) ≤ 100 := h.2.2.2.2.2.2.2.2.1
theorem ILb.mo {V W : am_M} (h : ILb V W) : W 70 19 = nI (nm (W 70 19)) ∧ 10 ≤ nm (W 70 19) ∧ nm (W 70 19) ≤ 600 := h.2.2.2.2.2.2.2.2.2.1
theorem ILb.le {V W : am_M} (h : ILb V W) : W 70 20 = nI (nm (W 70 20)) ∧ nm (W 70 20) ≤ 100 := h.2.2.2.2.2.2.2.2.2.2.1
theorem ILb.ln {V W : am_M} (h : ILb V W) : -50 ≤ (W 70 21).toInt ∧ (W 70 21).toInt ≤ 50 := h.2.2.2.2.2.2.2.2.2.2.2.1
theorem ILb.rd {V W : am_M} (h : ILb V W) : W 70 22 = nI (nm (W 70 22)) ∧ nm (W 70 22) ≤ 3 := h.2.2.2.2.2.2.2.2.2.2.2.2.1
theorem ILb.cp {V W : am_M} (h : ILb V W) : W 70 23 = nI (nm (W 70 23)) ∧ 10 ≤ nm (W 70 23) ∧ nm (W 70 23) ≤ 600 := h.2.2.2.2.2.2.2.2.2.2.2.2.2
def ISp (V : am_M) : Prop := (V 70 50 = nI (nm (V 70 50)) ∧ nm (V 70 50) ≤ 100) ∧ (V 70 51 = nI (nm (V 70 51)) ∧ 1 ≤ nm (V 70 51) ∧ nm (V 70 51) ≤ 5)
theorem ISp.sp {V : am_M} (h : ISp V) : V 70 50 = nI (nm (V 70 50)) ∧ nm (V 70 50) ≤ 100 := h.1
theorem ISp.lo {V : am_M} (h : ISp V) : V 70 51 = nI (nm (V 70 51)) ∧ 1 ≤ nm (V 70 51) ∧ nm (V 70 51) ≤ 5 := h.2
theorem IV.b {V : am_M} (h : IV V) : ILb V V := ⟨h.nb, h.bp, h.bh, h.ba, h.bl, h.gm, h.gz, h.g0, h.w, h.mo, h.le, h.ln, h.rd, h.cp⟩
theorem IV.p {V : am_M} (h : IV V) : ISp V := ⟨h.sp, h.lo⟩
theorem IV.mk' {V : am_M} (s : IVs V) (b : ILb V V) (p : ISp V) (t : V 70 25 = nI (nm (V 70 25)) ∧ nm (V 70 25) ≤ 500) : IV V := ⟨s.ns, s.np, b.nb, s.pm, s.pr, s.ki, s.sh, s.lk, b.bp, b.bh, b.ba, b.bl, b.gm, b.gz, b.g0, b.w, b.mo, b.le, b.ln, b.rd, b.cp, p.sp, p.lo, t⟩
theorem RS.refl {M : am_M} : RS M M := ⟨rfl, rfl, rfl, rfl, rfl, rfl, rfl, rfl, rfl, rfl, rfl, rfl, rfl, rfl, rfl, rfl, rfl, rfl, rfl, rfl, rfl, rfl, rfl, rfl, rfl, rfl, rfl, rfl, rfl, rfl, rfl, rfl, rfl, rfl, rfl, rfl, rfl, rfl, rfl, rfl⟩
/-- the picture may be the memory itself -/
theorem IV.self {V M : am_M} (r : RS V M) (h : IV V) : IV M := by
  have e8 : nS M = nS V := by unfold nS; rw [r.f8]
  have e9 : nP M = nP V := by unfold nP; rw [r.f9]
  have e17 : nB M = nB V := by unfold nB; rw [r.f17]
  unfold IV at h ⊢
  rw [e8, e9, e17, r.f8, r.f9, r.f17, r.f18, r.f19, r.f20, r.f21, r.f22, r.f23, r.f25, r.f50, r.f51, r.r72, r.r75, r.r76, r.r77, r.r78, r.r79, r.r80, r.r81, r.r83, r.r84, r.r85]
  exact h
theorem IVp.self {V M : am_M} (r : RS V M) (h : IVp V) : IVp M := by
  have e1 : nL M = nL V := by unfold nL; rw [r.l0]
  have e2 : nO M = nO V := by unfold nO; rw [r.o0]
  have ic : ∀ c, isC M c = isC V c := fun c => by unfold isC; rw [e1, e2]
  unfold IVp at h ⊢
  simp only [ic, e1, e2, r.l0, r.o0, r.r91, r.r94, r.r88]
  exact h
theorem LabR.self {V M : am_M} {b : Nat} (r : RS V M) (h : LabR V M b) : LabR M M b := by
  have e17 : nB M = nB V := by unfold nB; rw [r.f17]
  unfold LabR at h ⊢
  rw [e17, r.f17, r.f18, r.f19, r.f20, r.f21, r.f22, r.f23, r.r79, r.r80, r.r81, r.r82, r.r83, r.r84, r.r85]
  exact h
/-- cells from 119 on -/
theorem Fr.hi {cs : List Nat} {fs : List (Nat × Nat)} {M M' : am_M} (f : Fr cs fs M M') (h1 : (cs.all fun c => decide (c < 119)) = true) (h2 : (fs.all fun z => decide (z.1 < 119)) = true) : ∀ c, 119 ≤ c → M' c = M c := by
  intro c hc
  refine f.row c (fun q => ?_) (fun q => ?_)
  · have := of_decide_eq_true (List.all_eq_true.mp h1 c q); omega
  · obtain ⟨z, hz, e⟩ := List.mem_map.mp q
    have := of_decide_eq_true (List.all_eq_true.mp h2 z hz); omega
def pSt (M : am_M) : Prop := (CSs M M) ∧ (IVs M)
theorem pSt.c {M : am_M} (h : pSt M) : CSs M M := h.1
theorem pSt.i {M : am_M} (h : pSt M) : IVs M := h.2
def pLb (M : am_M) : Prop := (LabR M M 31) ∧ (ILb M M)
theorem pLb.c {M : am_M} (h : pLb M) : LabR M M 31 := h.1
theorem pLb.i {M : am_M} (h : pLb M) : ILb M M := h.2
def pPg (M : am_M) : Prop := (PgR M M) ∧ (IVp M)
theorem pPg.c {M : am_M} (h : pPg M) : PgR M M := h.1
theorem pPg.i {M : am_M} (h : pPg M) : IVp M := h.2
def pNm (M : am_M) : Prop := (∀ i, 8 ≤ i → i < 12 → M 49 i = 0) ∧ (∀ i, i < 7 → M 52 i = 0)
theorem pNm.n49 {M : am_M} (h : pNm M) : ∀ i, 8 ≤ i → i < 12 → M 49 i = 0 := h.1
theorem pNm.n52 {M : am_M} (h : pNm M) : ∀ i, i < 7 → M 52 i = 0 := h.2
def pSp (M : am_M) : Prop := (M 48 6 = M 70 50) ∧ (M 48 7 = M 70 51) ∧ (ISp M)
theorem pSp.s {M : am_M} (h : pSp M) : M 48 6 = M 70 50 := h.1
theorem pSp.l {M : am_M} (h : pSp M) : M 48 7 = M 70 51 := h.2.1
theorem pSp.i {M : am_M} (h : pSp M) : ISp M := h.2.2
def pTx (M : am_M) : Prop := ∃ T n, TxC T n M ∧ TxR T n M
theorem pTx.r {M : am_M} (h : pTx M) : M 70 25 = nI (nm (M 70 25)) ∧ nm (M 70 25) ≤ 500 := by
  obtain ⟨T, n, a, b⟩ := h
  have n5 := b.n5
  rw [b.f5, nm_nI (by omega)]
  exact ⟨rfl, n5⟩
/-- the picture of an image -/
def imV (V : am_M) (k : Nat) : am_M := fun c j => if c = 79 ∧ j < 16 then V (115 + k) (7 + j) else if c = 80 ∧ j < 16 then V (115 + k) (23 + j) else if c = 81 ∧ j < 16 then V (115 + k) (39 + j) else if c = 82 ∧ j < 16 then V (115 + k) (55 + j) else if c = 83 ∧ j < 16 then V (115 + k) (71 + j) else if c = 84 ∧ j < 128 then V (115 + k) (87 + j) else if c = 85 ∧ j < 1024 then V (115 + k) (215 + j) else if c = 70 ∧ 17 ≤ j ∧ j ≤ 23 then V (115 + k) (j - 17) else V c j
/-- one image: none, or a lab on the heap -/
def im1 (S : am_S) (M : am_M) (k : Nat) : Prop := (M 118 k = 0 ∧ S.2.2 47 k = none) ∨ (M 118 k = 1 ∧ ∃ q, S.2.2 47 k = some q ∧ 119 ≤ q ∧ Lb S q ∧ LabR (imV M k) M q ∧ ILb M (imV M k))
def imD (S : am_S) : Prop := ∀ k k' q q', k < 3 → k' < 3 → k ≠ k' → S.2.2 47 k = some q → S.2.2 47 k' = some q' → q + 7 < q' ∨ q' + 7 < q
def pIm (S : am_S) (M : am_M) : Prop := (∀ k, k < 3 → im1 S M k) ∧ imD S
/-- all of it -/
def Rel (S : am_S) (M : am_M) : Prop := (am_env S) ∧ (pSt M) ∧ (pLb M) ∧ (pPg M) ∧ (pNm M) ∧ (pSp M) ∧ (BkR M M) ∧ (pTx M) ∧ (M 1 = M 71) ∧ (pIm S M) ∧ (FnR M M)
theorem Rel.env {S : am_S} {M : am_M} (h : Rel S M) : am_env S := h.1
theorem Rel.st {S : am_S} {M : am_M} (h : Rel S M) : pSt M := h.2.1
theorem Rel.lb {S : am_S} {M : am_M} (h : Rel S M) : pLb M := h.2.2.1
theorem Rel.pg {S : am_S} {M : am_M} (h : Rel S M) : pPg M := h.2.2.2.1
theorem Rel.nm {S : am_S} {M : am_M} (h : Rel S M) : pNm M := h.2.2.2.2.1
theorem Rel.sp {S : am_S} {M : am_M} (h : Rel S M) : pSp M := h.2.2.2.2.2.1
theorem Rel.bk {S : am_S} {M : am_M} (h : Rel S M) : BkR M M := h.2.2.2.2.2.2.1
theorem Rel.tx {S : am_S} {M : am_M} (h : Rel S M) : pTx M := h.2.2.2.2.2.2.2.1
theorem Rel.rf {S : am_S} {M : am_M} (h : Rel S M) : M 1 = M 71 := h.2.2.2.2.2.2.2.2.1
theorem Rel.im {S : am_S} {M : am_M} (h : Rel S M) : pIm S M := h.2.2.2.2.2.2.2.2.2.1
theorem Rel.fn {S : am_S} {M : am_M} (h : Rel S M) : FnR M M := h.2.2.2.2.2.2.2.2.2.2
theorem Rel.cv {S : am_S} {M : am_M} (h : Rel S M) : CV M M := ⟨h.lb.c, h.st.c, h.pg.c, h.nm.n49, h.nm.n52, h.sp.s, h.sp.l⟩
theorem Rel.iv {S : am_S} {M : am_M} (h : Rel S M) : IV M := IV.mk' h.st.i h.lb.i h.sp.i h.tx.r
theorem Rel.ip {S : am_S} {M : am_M} (h : Rel S M) : IVp M := h.pg.i
/-- footprints -/
def okF (cs : List Nat) (fs : List (Nat × Nat)) (rs : List Nat) (ps : List (Nat × Nat)) : Bool := (rs.all fun c => !(cs.contains c) && !((fs.map (fun z => z.1)).contains c)) && (ps.all fun z => !(cs.contains z.1) && !(fs.contains z))
theorem Fr.rw {cs : List Nat} {fs : List (Nat × Nat)} {rs : List Nat} {ps : List (Nat × Nat)} {M M' : am_M} (f : Fr cs fs M M') (h : okF cs fs rs ps = true) : (∀ c ∈ rs, M' c = M c) ∧ ∀ z ∈ ps, M' z.1 z.2 = M z.1 z.2 := by
  unfold okF at h
  rw [Bool.and_eq_true] at h
  refine ⟨fun c hc => ?_, fun z hz => ?_⟩
  · have q := List.all_eq_true.mp h.1 c hc
    rw [Bool.and_eq_true] at q
    refine f.row c (fun p => ?_) (fun p => ?_)
    · have y := q.1; rw [List.contains_iff_mem.mpr p] at y; cases y
    · have y := q.2; rw [List.contains_iff_mem.mpr p] at y; cases y
  · have q := List.all_eq_true.mp h.2 z hz
    rw [Bool.and_eq_true] at q
    refine f z.1 z.2 (fun p => ?_) (fun p => ?_)
    · have y := q.1; rw [List.contains_iff_mem.mpr p] at y; cases y
    · have y := q.2; rw [List.contains_iff_mem.mpr p] at y; cases y
def rsSt : List Nat := [24, 25, 26, 27, 28, 29, 30, 72, 73, 74, 75, 76, 77, 78]
def psSt : List (Nat × Nat) := [(23, 7), (23, 8), (70, 8), (70, 9)]
theorem pSt.fr {cs : List Nat} {fs : List (Nat × Nat)} {M M' : am_M} (h : pSt M) (f : Fr cs fs M M') (g : okF cs fs rsSt psSt = true) : pSt M' := by
  obtain ⟨a, b⟩ := f.rw g
  have a := fun c (hc : c ∈ rsSt) => a c hc
  have p1 : M' 23 7 = M 23 7 := b (23, 7) (by decide)
  have p2 : M' 23 8 = M 23 8 := b (23, 8) (by decide)
  have p3 : M' 70 8 = M 70 8 := b (70, 8) (by decide)
  have p4 : M' 70 9 = M 70 9 := b (70, 9) (by decide)
  have e8 : nS M' = nS M := by unfold nS; rw [p3]
  have e9 : nP M' = nP M := by unfold nP; rw [p4]
  refine ⟨?_, ?_⟩
  · have c := h.c
    unfold CSs at c ⊢
    rw [p1, p2, p3, p4, a 24 (by decide), a 25 (by decide), a 26 (by decide), a 27 (by decide), a 28 (by decide), a 29 (by decide), a 30 (by decide), a 72 (by decide), a 73 (by decide), a 74 (by decide), a 75 (by decide), a 76 (by decide), a 77 (by decide), a 78 (by decide)]
    exact c
  · have i := h.i
    unfold IVs at i ⊢
    rw [e8, e9, p3, p4, a 72 (by decide), a 75 (by decide), a 76 (by decide), a 77 (by decide), a 78 (by decide)]
    exact i
def rsLb : List Nat := [32, 33, 34, 35, 36, 37, 38, 79, 80, 81, 82, 83, 84, 85, 77]
def psLb : List (Nat × Nat) := [(31, 7), (31, 8), (31, 9), (31, 10), (31, 11), (31, 12), (31, 13), (70, 17), (70, 18), (70, 19), (70, 20), (70, 21), (70, 22), (70, 23), (70, 9)]
theorem ILb.of {V V' W : am_M} (h : ILb V W) (e1 : nP V ≤ nP V') (e2 : ∀ p, p < nP V → nm (V 77 p) ≤ nm (V' 77 p)) : ILb V' W := by
  obtain ⟨h1, h2, h3, h4, h5, h6, h7, h8, h9⟩ := h
  refine ⟨h1, fun b hb => ⟨(h2 b hb).1, Nat.lt_of_lt_of_le (h2 b hb).2 e1⟩, h3, h4, h5, h6, h7, fun b t hb ht hh => h8 b t hb ht (Nat.le_trans (e2 _ (h2 b hb).2) hh), h9⟩
theorem pLb.fr {cs : List Nat} {fs : List (Nat × Nat)} {M M' : am_M} (h : pLb M) (f : Fr cs fs M M') (g : okF cs fs rsLb psLb = true) : pLb M' := by
  obtain ⟨a, b⟩ := f.rw g
  have a := fun c (hc : c ∈ rsLb) => a c hc
  have m : ∀ j, (31, j) ∈ psLb → M' 31 j = M 31 j := fun j hj => b (31, j) hj
  have q : ∀ j, (70, j) ∈ psLb → M' 70 j = M 70 j := fun j hj => b (70, j) hj
  have e17 : nB M' = nB M := by unfold nB; rw [q 17 (by decide)]
  have e9 : nP M' = nP M := by unfold nP; rw [q 9 (by decide)]
  refine ⟨?_, ?_⟩
  · have c := h.c
    unfold LabR at c ⊢
    rw [e17, m 7 (by decide), m 8 (by decide), m 9 (by decide), m 10 (by decide), m 11 (by decide), m 12 (by decide), m 13 (by decide), q 17 (by decide), q 18 (by decide), q 19 (by decide), q 20 (by decide), q 21 (by decide), q 22 (by decide), q 23 (by decide), a (31 + 1) (by decide), a (31 + 2) (by decide), a (31 + 3) (by decide), a (31 + 4) (by decide), a (31 + 5) (by decide), a (31 + 6) (by decide), a (31 + 7) (by decide), a 79 (by decide), a 80 (by decide), a 81 (by decide), a 82 (by decide), a 83 (by decide), a 84 (by decide), a 85 (by decide)]
    exact c
  · have i := h.i
    unfold ILb at i ⊢
    rw [e17, e9, q 17 (by decide), q 18 (by decide), q 19 (by decide), q 20 (by decide), q 21 (by decide), q 22 (by decide), q 23 (by decide), a 79 (by decide), a 80 (by decide), a 81 (by decide), a 83 (by decide), a 84 (by decide), a 85 (by decide), a 77 (by decide)]
    exact i
def rsPg : List Nat := [17, 18, 19, 20, 21, 88, 91, 94]
def psPg : List (Nat × Nat) := [(16, 7), (16, 8), (97, 0), (98, 0)]
theorem pPg.fr {cs : List Nat} {fs : List (Nat × Nat)} {M M' : am_M} (h : pPg M) (f : Fr cs fs M M') (g : okF cs fs rsPg psPg = true) : pPg M' := by
  obtain ⟨a, b⟩ := f.rw g
  have a := fun c (hc : c ∈ rsPg) => a c hc
  have p1 : M' 16 7 = M 16 7 := b (16, 7) (by decide)
  have p2 : M' 16 8 = M 16 8 := b (16, 8) (by decide)
  have p3 : M' 97 0 = M 97 0 := b (97, 0) (by decide)
  have p4 : M' 98 0 = M 98 0 := b (98, 0) (by decide)
  have e1 : nL M' = nL M := by unfold nL; rw [p3]
  have e2 : nO M' = nO M := by unfold nO; rw [p4]
  have ic : ∀ c, isC M' c = isC M c := fun c => by unfold isC; rw [e1, e2]
  refine ⟨?_, ?_⟩
  · have c := h.c
    unfold PgR at c ⊢
    simp only [ic, e1, e2, p1, p2, p3, p4, a 17 (by decide), a 18 (by decide), a 19 (by decide), a 20 (by decide), a 21 (by decide), a 88 (by decide), a 91 (by decide), a 94 (by decide)]
    exact c
  · have i := h.i
    unfold IVp at i ⊢
    simp only [ic, e1, e2, p3, p4, a 88 (by decide), a 91 (by decide), a 94 (by decide)]
    exact i
def psNm : List (Nat × Nat) := [(49, 8), (49, 9), (49, 10), (49, 11), (52, 0), (52, 1), (52, 2), (52, 3), (52, 4), (52, 5), (52, 6)]
theorem pNm.fr {cs : List Nat} {fs : List (Nat × Nat)} {M M' : am_M} (h : pNm M) (f : Fr cs fs M M') (g : okF cs fs [] psNm = true) : pNm M' := by
  obtain ⟨_, b⟩ := f.rw g
  refine ⟨fun i h1 h2 => ?_, fun i h1 => ?_⟩
  · have q : (49, i) ∈ psNm := by
      have z : i = 8 ∨ i = 9 ∨ i = 10 ∨ i = 11 := by omega
      rcases z with rfl | rfl | rfl | rfl <;> decide
    rw [b (49, i) q]; exact h.n49 i h1 h2
  · have q : (52, i) ∈ psNm := by
      have z : i = 0 ∨ i = 1 ∨ i = 2 ∨ i = 3 ∨ i = 4 ∨ i = 5 ∨ i = 6 := by omega
      rcases z with rfl | rfl | rfl | rfl | rfl | rfl | rfl <;> decide
    rw [b (52, i) q]; exact h.n52 i h1
def psSp : List (Nat × Nat) := [(48, 6), (48, 7), (70, 50), (70, 51)]
theorem pSp.fr {cs : List Nat} {fs : List (Nat × Nat)} {M M' : am_M} (h : pSp M) (f : Fr cs fs M M') (g : okF cs fs [] psSp = true) : pSp M' := by
  obtain ⟨_, b⟩ := f.rw g
  have p1 : M' 48 6 = M 48 6 := b (48, 6) (by decide)
  have p2 : M' 48 7 = M 48 7 := b (48, 7) (by decide)
  have p3 : M' 70 50 = M 70 50 := b (70, 50) (by decide)
  have p4 : M' 70 51 = M 70 51 := b (70, 51) (by decide)
  unfold pSp ISp at h ⊢
  rw [p1, p2, p3, p4]; exact h
def psBk : List (Nat × Nat) := [(69, 0), (69, 1), (69, 2), (69, 3), (69, 4), (69, 5), (69, 6), (69, 7), (70, 60), (70, 40)]
theorem BkR.fr {cs : List Nat} {fs : List (Nat × Nat)} {M M' : am_M} (h : BkR M M) (f : Fr cs fs M M') (g : okF cs fs [113] psBk = true) : BkR M' M' := by
  obtain ⟨a, b⟩ := f.rw g
  have a1 : M' 113 = M 113 := a 113 (by decide)
  have m : ∀ j, (69, j) ∈ psBk → M' 69 j = M 69 j := fun j hj => b (69, j) hj
  have q : ∀ j, (70, j) ∈ psBk → M' 70 j = M 70 j := fun j hj => b (70, j) hj
  unfold BkR at h ⊢
  rw [a1, m 0 (by decide), m 1 (by decide), m 2 (by decide), m 3 (by decide), m 4 (by decide), m 5 (by decide), m 6 (by decide), m 7 (by decide), q 60 (by decide), q 40 (by decide)]
  exact h
theorem pTx.fr {cs : List Nat} {fs : List (Nat × Nat)} {M M' : am_M} (h : pTx M) (f : Fr cs fs M M') (g : okF cs fs [3, 86] [(2, 5), (70, 25)] = true) : pTx M' := by
  obtain ⟨a, b⟩ := f.rw g
  obtain ⟨T, n, h1, h2⟩ := h
  exact ⟨T, n, h1.of (b (2, 5) (by decide)) (a 3 (by decide)), h2.of (b (70, 25) (by decide)) (a 86 (by decide))⟩
theorem rf.fr {cs : List Nat} {fs : List (Nat × Nat)} {M M' : am_M} (h : M 1 = M 71) (f : Fr cs fs M M') (g : okF cs fs [1, 71] [] = true) : M' 1 = M' 71 := by
  obtain ⟨a, _⟩ := f.rw g
  rw [a 1 (by decide), a 71 (by decide)]; exact h
