def nm (x : Int32) : Nat := x.toNatClampNeg
theorem nm_nI {n : Nat} (h : n < 2147483648) : nm (nI n) = n := nI_clamp h
def oI : Option Nat → Int32
  | none => -1
  | some n => nI n
/-- what a run may have changed: the cells cs, and the places fs -/
def Fr (cs : List Nat) (fs : List (Nat × Nat)) (M M' : am_M) : Prop := ∀ c j, c ∉ cs → (c, j) ∉ fs → M' c j = M c j
theorem Fr.refl {cs : List Nat} {fs : List (Nat × Nat)} {M : am_M} : Fr cs fs M M := fun _ _ _ _ => rfl
theorem Fr.row {cs : List Nat} {fs : List (Nat × Nat)} {M M' : am_M} (h : Fr cs fs M M') (c : Nat) (h1 : c ∉ cs) (h2 : c ∉ fs.map (fun z => z.1)) : M' c = M c := by
  funext j
  exact h c j h1 (fun q => h2 (List.mem_map.mpr ⟨(c, j), q, rfl⟩))
theorem Fr.trans {cs : List Nat} {fs : List (Nat × Nat)} {M M' M'' : am_M} (h : Fr cs fs M M') (g : Fr cs fs M' M'') : Fr cs fs M M'' := fun c j h1 h2 => (g c j h1 h2).trans (h c j h1 h2)
theorem Fr.mono {cs cs' : List Nat} {fs fs' : List (Nat × Nat)} {M M' : am_M} (h : Fr cs fs M M') (h1 : ∀ c ∈ cs, c ∈ cs') (h2 : ∀ z ∈ fs, z.1 ∈ cs' ∨ z ∈ fs') : Fr cs' fs' M M' := fun c j q1 q2 => h c j (fun q => q1 (h1 c q)) (fun q => (h2 (c, j) q).elim q1 q2)
theorem Fr.u {cs : List Nat} {fs : List (Nat × Nat)} {M M' : am_M} (h : Fr cs fs M M') {c j : Nat} {x : Int32} (hc : c ∈ cs) : Fr cs fs M (am_u M' c j x) := fun a b h1 h2 => by
  rw [am_u_ne (fun (q : a = c ∧ b = j) => h1 (by rw [q.1]; exact hc))]
  exact h a b h1 h2
theorem Fr.uf {cs : List Nat} {fs : List (Nat × Nat)} {M M' : am_M} (h : Fr cs fs M M') {c j : Nat} {x : Int32} (hc : (c, j) ∈ fs) : Fr cs fs M (am_u M' c j x) := fun a b h1 h2 => by
  rw [am_u_ne (fun (q : a = c ∧ b = j) => h2 (by rw [q.1, q.2]; exact hc))]
  exact h a b h1 h2
theorem Fr.r {cs : List Nat} {fs : List (Nat × Nat)} {M M' : am_M} (h : Fr cs fs M M') {c : Nat} {f : Nat → Int32} (hc : c ∈ cs) : Fr cs fs M (am_r M' c f) := fun a b h1 h2 => by
  rw [am_r_ne (fun (q : a = c) => h1 (by rw [q]; exact hc))]
  exact h a b h1 h2
/-- the reference's own cells that V pictures -/
def RS (V M : am_M) : Prop := (M 71 = V 71) ∧ (M 72 = V 72) ∧ (M 73 = V 73) ∧ (M 74 = V 74) ∧ (M 75 = V 75) ∧ (M 76 = V 76) ∧ (M 77 = V 77) ∧ (M 78 = V 78) ∧ (M 79 = V 79) ∧ (M 80 = V 80) ∧ (M 81 = V 81) ∧ (M 82 = V 82) ∧ (M 83 = V 83) ∧ (M 84 = V 84) ∧ (M 85 = V 85) ∧ (M 86 = V 86) ∧ (M 88 = V 88) ∧ (M 91 = V 91) ∧ (M 94 = V 94) ∧ (M 113 = V 113) ∧ (M 115 = V 115) ∧ (M 116 = V 116) ∧ (M 117 = V 117) ∧ (M 118 = V 118) ∧ (M 70 8 = V 70 8) ∧ (M 70 9 = V 70 9) ∧ (M 70 17 = V 70 17) ∧ (M 70 18 = V 70 18) ∧ (M 70 19 = V 70 19) ∧ (M 70 20 = V 70 20) ∧ (M 70 21 = V 70 21) ∧ (M 70 22 = V 70 22) ∧ (M 70 23 = V 70 23) ∧ (M 70 25 = V 70 25) ∧ (M 70 40 = V 70 40) ∧ (M 70 50 = V 70 50) ∧ (M 70 51 = V 70 51) ∧ (M 70 60 = V 70 60) ∧ (M 97 0 = V 97 0) ∧ (M 98 0 = V 98 0)
theorem RS.r71 {V M : am_M} (h : RS V M) : M 71 = V 71 := h.1
theorem RS.r72 {V M : am_M} (h : RS V M) : M 72 = V 72 := h.2.1
theorem RS.r73 {V M : am_M} (h : RS V M) : M 73 = V 73 := h.2.2.1
theorem RS.r74 {V M : am_M} (h : RS V M) : M 74 = V 74 := h.2.2.2.1
theorem RS.r75 {V M : am_M} (h : RS V M) : M 75 = V 75 := h.2.2.2.2.1
theorem RS.r76 {V M : am_M} (h : RS V M) : M 76 = V 76 := h.2.2.2.2.2.1
theorem RS.r77 {V M : am_M} (h : RS V M) : M 77 = V 77 := h.2.2.2.2.2.2.1
theorem RS.r78 {V M : am_M} (h : RS V M) : M 78 = V 78 := h.2.2.2.2.2.2.2.1
theorem RS.r79 {V M : am_M} (h : RS V M) : M 79 = V 79 := h.2.2.2.2.2.2.2.2.1
theorem RS.r80 {V M : am_M} (h : RS V M) : M 80 = V 80 := h.2.2.2.2.2.2.2.2.2.1
theorem RS.r81 {V M : am_M} (h : RS V M) : M 81 = V 81 := h.2.2.2.2.2.2.2.2.2.2.1
theorem RS.r82 {V M : am_M} (h : RS V M) : M 82 = V 82 := h.2.2.2.2.2.2.2.2.2.2.2.1
theorem RS.r83 {V M : am_M} (h : RS V M) : M 83 = V 83 := h.2.2.2.2.2.2.2.2.2.2.2.2.1
theorem RS.r84 {V M : am_M} (h : RS V M) : M 84 = V 84 := h.2.2.2.2.2.2.2.2.2.2.2.2.2.1
theorem RS.r85 {V M : am_M} (h : RS V M) : M 85 = V 85 := h.2.2.2.2.2.2.2.2.2.2.2.2.2.2.1
theorem RS.r86 {V M : am_M} (h : RS V M) : M 86 = V 86 := h.2.2.2.2.2.2.2.2.2.2.2.2.2.2.2.1
theorem RS.r88 {V M : am_M} (h : RS V M) : M 88 = V 88 := h.2.2.2.2.2.2.2.2.2.2.2.2.2.2.2.2.1
theorem RS.r91 {V M : am_M} (h : RS V M) : M 91 = V 91 := h.2.2.2.2.2.2.2.2.2.2.2.2.2.2.2.2.2.1
theorem RS.r94 {V M : am_M} (h : RS V M) : M 94 = V 94 := h.2.2.2.2.2.2.2.2.2.2.2.2.2.2.2.2.2.2.1
theorem RS.r113 {V M : am_M} (h : RS V M) : M 113 = V 113 := h.2.2.2.2.2.2.2.2.2.2.2.2.2.2.2.2.2.2.2.1
theorem RS.r115 {V M : am_M} (h : RS V M) : M 115 = V 115 := h.2.2.2.2.2.2.2.2.2.2.2.2.2.2.2.2.2.2.2.2.1
theorem RS.r116 {V M : am_M} (h : RS V M) : M 116 = V 116 := h.2.2.2.2.2.2.2.2.2.2.2.2.2.2.2.2.2.2.2.2.2.1
theorem RS.r117 {V M : am_M} (h : RS V M) : M 117 = V 117 := h.2.2.2.2.2.2.2.2.2.2.2.2.2.2.2.2.2.2.2.2.2.2.1
theorem RS.r118 {V M : am_M} (h : RS V M) : M 118 = V 118 := h.2.2.2.2.2.2.2.2.2.2.2.2.2.2.2.2.2.2.2.2.2.2.2.1
theorem RS.f8 {V M : am_M} (h : RS V M) : M 70 8 = V 70 8 := h.2.2.2.2.2.2.2.2.2.2.2.2.2.2.2.2.2.2.2.2.2.2.2.2.1
theorem RS.f9 {V M : am_M} (h : RS V M) : M 70 9 = V 70 9 := h.2.2.2.2.2.2.2.2.2.2.2.2.2.2.2.2.2.2.2.2.2.2.2.2.2.1
theorem RS.f17 {V M : am_M} (h : RS V M) : M 70 17 = V 70 17 := h.2.2.2.2.2.2.2.2.2.2.2.2.2.2.2.2.2.2.2.2.2.2.2.2.2.2.1
theorem RS.f18 {V M : am_M} (h : RS V M) : M 70 18 = V 70 18 := h.2.2.2.2.2.2.2.2.2.2.2.2.2.2.2.2.2.2.2.2.2.2.2.2.2.2.2.1
theorem RS.f19 {V M : am_M} (h : RS V M) : M 70 19 = V 70 19 := h.2.2.2.2.2.2.2.2.2.2.2.2.2.2.2.2.2.2.2.2.2.2.2.2.2.2.2.2.1
theorem RS.f20 {V M : am_M} (h : RS V M) : M 70 20 = V 70 20 := h.2.2.2.2.2.2.2.2.2.2.2.2.2.2.2.2.2.2.2.2.2.2.2.2.2.2.2.2.2.1
theorem RS.f21 {V M : am_M} (h : RS V M) : M 70 21 = V 70 21 := h.2.2.2.2.2.2.2.2.2.2.2.2.2.2.2.2.2.2.2.2.2.2.2.2.2.2.2.2.2.2.1
theorem RS.f22 {V M : am_M} (h : RS V M) : M 70 22 = V 70 22 := h.2.2.2.2.2.2.2.2.2.2.2.2.2.2.2.2.2.2.2.2.2.2.2.2.2.2.2.2.2.2.2.1
theorem RS.f23 {V M : am_M} (h : RS V M) : M 70 23 = V 70 23 := h.2.2.2.2.2.2.2.2.2.2.2.2.2.2.2.2.2.2.2.2.2.2.2.2.2.2.2.2.2.2.2.2.1
theorem RS.f25 {V M : am_M} (h : RS V M) : M 70 25 = V 70 25 := h.2.2.2.2.2.2.2.2.2.2.2.2.2.2.2.2.2.2.2.2.2.2.2.2.2.2.2.2.2.2.2.2.2.1
theorem RS.f40 {V M : am_M} (h : RS V M) : M 70 40 = V 70 40 := h.2.2.2.2.2.2.2.2.2.2.2.2.2.2.2.2.2.2.2.2.2.2.2.2.2.2.2.2.2.2.2.2.2.2.1
theorem RS.f50 {V M : am_M} (h : RS V M) : M 70 50 = V 70 50 := h.2.2.2.2.2.2.2.2.2.2.2.2.2.2.2.2.2.2.2.2.2.2.2.2.2.2.2.2.2.2.2.2.2.2.2.1
theorem RS.f51 {V M : am_M} (h : RS V M) : M 70 51 = V 70 51 := h.2.2.2.2.2.2.2.2.2.2.2.2.2.2.2.2.2.2.2.2.2.2.2.2.2.2.2.2.2.2.2.2.2.2.2.2.1
theorem RS.f60 {V M : am_M} (h : RS V M) : M 70 60 = V 70 60 := h.2.2.2.2.2.2.2.2.2.2.2.2.2.2.2.2.2.2.2.2.2.2.2.2.2.2.2.2.2.2.2.2.2.2.2.2.2.1
theorem RS.l0 {V M : am_M} (h : RS V M) : M 97 0 = V 97 0 := h.2.2.2.2.2.2.2.2.2.2.2.2.2.2.2.2.2.2.2.2.2.2.2.2.2.2.2.2.2.2.2.2.2.2.2.2.2.2.1
theorem RS.o0 {V M : am_M} (h : RS V M) : M 98 0 = V 98 0 := h.2.2.2.2.2.2.2.2.2.2.2.2.2.2.2.2.2.2.2.2.2.2.2.2.2.2.2.2.2.2.2.2.2.2.2.2.2.2.2
def csR : List Nat := [0, 1, 2, 3, 4, 5, 6, 7, 8, 9, 10, 11, 12, 13, 14, 15, 16, 17, 18, 19, 20, 21, 22, 23, 24, 25, 26, 27, 28, 29, 30, 31, 32, 33, 34, 35, 36, 37, 38, 39, 40, 41, 42, 43, 44, 45, 46, 47, 48, 49, 50, 51, 52, 53, 54, 55, 56, 57, 58, 59, 60, 61, 62, 63, 64, 65, 66, 67, 68, 69, 89, 92, 95, 99, 100, 101, 104, 105, 106, 107, 108, 109, 110, 111, 112]
def fsR : List (Nat × Nat) := [(70, 26), (70, 27), (70, 28), (70, 43), (70, 47), (70, 48), (70, 49), (70, 57), (70, 58), (70, 63), (97, 1), (98, 1)]
theorem RS.fr {V M M' : am_M} (h : RS V M) (f : Fr csR fsR M M') : RS V M' := by
  have r := fun c h1 h2 => f.row c h1 h2
  unfold RS at h ⊢
  rw [r 71 (by decide) (by decide), r 72 (by decide) (by decide), r 73 (by decide) (by decide), r 74 (by decide) (by decide), r 75 (by decide) (by decide), r 76 (by decide) (by decide), r 77 (by decide) (by decide), r 78 (by decide) (by decide), r 79 (by decide) (by decide), r 80 (by decide) (by decide), r 81 (by decide) (by decide), r 82 (by decide) (by decide), r 83 (by decide) (by decide), r 84 (by decide) (by decide), r 85 (by decide) (by decide), r 86 (by decide) (by decide), r 88 (by decide) (by decide), r 91 (by decide) (by decide), r 94 (by decide) (by decide), r 113 (by decide) (by decide), r 115 (by decide) (by decide), r 116 (by decide) (by decide), r 117 (by decide) (by decide), r 118 (by decide) (by decide)]
  rw [f 70 8 (by decide) (by decide), f 70 9 (by decide) (by decide), f 70 17 (by decide) (by decide), f 70 18 (by decide) (by decide), f 70 19 (by decide) (by decide), f 70 20 (by decide) (by decide), f 70 21 (by decide) (by decide), f 70 22 (by decide) (by decide), f 70 23 (by decide) (by decide), f 70 25 (by decide) (by decide), f 70 40 (by decide) (by decide), f 70 50 (by decide) (by decide), f 70 51 (by decide) (by decide), f 70 60 (by decide) (by decide), f 97 0 (by decide) (by decide), f 98 0 (by decide) (by decide)]
  exact h
/-- the class's stage -/
def CSs (V M : am_M) : Prop := (M 23 7 = V 70 8) ∧ (M 23 8 = V 70 9) ∧ (M 24 = V 72) ∧ (M 25 = V 73) ∧ (M 26 = V 74) ∧ (M 27 = V 75) ∧ (M 28 = V 76) ∧ (M 29 = V 78) ∧ (M 30 = V 77)
theorem CSs.f7 {V M : am_M} (h : CSs V M) : M 23 7 = V 70 8 := h.1
theorem CSs.f8 {V M : am_M} (h : CSs V M) : M 23 8 = V 70 9 := h.2.1
theorem CSs.r24 {V M : am_M} (h : CSs V M) : M 24 = V 72 := h.2.2.1
theorem CSs.r25 {V M : am_M} (h : CSs V M) : M 25 = V 73 := h.2.2.2.1
theorem CSs.r26 {V M : am_M} (h : CSs V M) : M 26 = V 74 := h.2.2.2.2.1
theorem CSs.r27 {V M : am_M} (h : CSs V M) : M 27 = V 75 := h.2.2.2.2.2.1
theorem CSs.r28 {V M : am_M} (h : CSs V M) : M 28 = V 76 := h.2.2.2.2.2.2.1
theorem CSs.r29 {V M : am_M} (h : CSs V M) : M 29 = V 78 := h.2.2.2.2.2.2.2.1
theorem CSs.r30 {V M : am_M} (h : CSs V M) : M 30 = V 77 := h.2.2.2.2.2.2.2.2
def nS (V : am_M) : Nat := nm (V 70 8)
def nP (V : am_M) : Nat := nm (V 70 9)
def nB (V : am_M) : Nat := nm (V 70 17)
/-- the class's lab: cells b .. b + 7 -/
def LabR (V M : am_M) (b : Nat) : Prop := (M b 7 = V 70 17) ∧ (M b 8 = V 70 18) ∧ (M b 9 = V 70 19) ∧ (M b 10 = V 70 20) ∧ (M b 11 = V 70 21) ∧ (M b 12 = V 70 22) ∧ (M b 13 = V 70 23) ∧ (∀ i, i < nB V → M (b + 1) i = V 79 i) ∧ (∀ i, i < nB V → M (b + 2) i = V 80 i) ∧ (∀ i, i < nB V → M (b + 3) i = V 81 i) ∧ (∀ i, i < nB V → M (b + 4) i = V 82 i) ∧ (∀ i, i < nB V → M (b + 5) i = V 83 i) ∧ (∀ q, q < 8 * nB V → M (b + 7) q = V 84 q) ∧ (∀ q i, q < 8 * nB V → i < nm (V 84 q) → M (b + 6) (8 * q + i) = V 85 (8 * q + i))
theorem LabR.f7 {V M : am_M} {b : Nat} (h : LabR V M b) : M b 7 = V 70 17 := h.1
theorem LabR.f8 {V M : am_M} {b : Nat} (h : LabR V M b) : M b 8 = V 70 18 := h.2.1
theorem LabR.f9 {V M : am_M} {b : Nat} (h : LabR V M b) : M b 9 = V 70 19 := h.2.2.1
theorem LabR.f10 {V M : am_M} {b : Nat} (h : LabR V M b) : M b 10 = V 70 20 := h.2.2.2.1
theorem LabR.f11 {V M : am_M} {b : Nat} (h : LabR V M b) : M b 11 = V 70 21 := h.2.2.2.2.1
theorem LabR.f12 {V M : am_M} {b : Nat} (h : LabR V M b) : M b 12 = V 70 22 := h.2.2.2.2.2.1
theorem LabR.f13 {V M : am_M} {b : Nat} (h : LabR V M b) : M b 13 = V 70 23 := h.2.2.2.2.2.2.1
theorem LabR.pl {V M : am_M} {b : Nat} (h : LabR V M b) : ∀ i, i < nB V → M (b + 1) i = V 79 i := h.2.2.2.2.2.2.2.1
theorem LabR.ho {V M : am_M} {b : Nat} (h : LabR V M b) : ∀ i, i < nB V → M (b + 2) i = V 80 i := h.2.2.2.2.2.2.2.2.1
theorem LabR.ag {V M : am_M} {b : Nat} (h : LabR V M b) : ∀ i, i < nB V → M (b + 3) i = V 81 i := h.2.2.2.2.2.2.2.2.2.1
theorem LabR.cr {V M : am_M} {b : Nat} (h : LabR V M b) : ∀ i, i < nB V → M (b + 4) i = V 82 i := h.2.2.2.2.2.2.2.2.2.2.1
theorem LabR.lf {V M : am_M} {b : Nat} (h : LabR V M b) : ∀ i, i < nB V → M (b + 5) i = V 83 i := h.2.2.2.2.2.2.2.2.2.2.2.1
theorem LabR.gs {V M : am_M} {b : Nat} (h : LabR V M b) : ∀ q, q < 8 * nB V → M (b + 7) q = V 84 q := h.2.2.2.2.2.2.2.2.2.2.2.2.1
theorem LabR.gz {V M : am_M} {b : Nat} (h : LabR V M b) : ∀ q i, q < 8 * nB V → i < nm (V 84 q) → M (b + 6) (8 * q + i) = V 85 (8 * q + i) := h.2.2.2.2.2.2.2.2.2.2.2.2.2
theorem LabR.of {V M M' : am_M} {b : Nat} (h : LabR V M b) (e : ∀ c, b ≤ c → c ≤ b + 7 → M' c = M c) : LabR V M' b := by
  unfold LabR at h ⊢
  rw [e b (by omega) (by omega), e (b + 1) (by omega) (by omega), e (b + 2) (by omega) (by omega), e (b + 3) (by omega) (by omega), e (b + 4) (by omega) (by omega), e (b + 5) (by omega) (by omega), e (b + 6) (by omega) (by omega), e (b + 7) (by omega) (by omega)]
  exact h
theorem CSs.of {V M M' : am_M} (h : CSs V M) (e : ∀ c, 23 ≤ c → c ≤ 30 → M' c = M c) : CSs V M' := by
  unfold CSs at h ⊢
  rw [e 23 (by omega) (by omega), e 24 (by omega) (by omega), e 25 (by omega) (by omega), e 26 (by omega) (by omega), e 27 (by omega) (by omega), e 28 (by omega) (by omega), e 29 (by omega) (by omega), e 30 (by omega) (by omega)]
  exact h
theorem Fr.cells {cs : List Nat} {fs : List (Nat × Nat)} {M M' : am_M} (h : Fr cs fs M M') {a n : Nat} (h1 : ((List.range (n + 1)).all fun i => !(cs.contains (a + i)) && !((fs.map (fun z => z.1)).contains (a + i))) = true) : ∀ c, a ≤ c → c ≤ a + n → M' c = M c := by
  intro c ha hn
  have q := List.all_eq_true.mp h1 (c - a) (List.mem_range.mpr (by omega))
  rw [show a + (c - a) = c by omega, Bool.and_eq_true] at q
  refine h.row c (fun p => ?_) (fun p => ?_)
  · have z := q.1
    rw [List.contains_iff_mem.mpr p] at z
    cases z
  · have z := q.2
    rw [List.contains_iff_mem.mpr p] at z
    cases z
/-- ranges -/
def IV (V : am_M) : Prop := (V 70 8 = nI (nS V) ∧ nS V ≤ 12) ∧ (V 70 9 = nI (nP V) ∧ nP V ≤ 4) ∧ (V 70 17 = nI (nB V) ∧ nB V ≤ 16) ∧ (∀ p, p < nP V → V 77 p = nI (nm (V 77 p)) ∧ nm (V 77 p) ≤ 8) ∧ (∀ p t, p < nP V → t < nm (V 77 p) → V 78 (8 * p + t) = nI (nm (V 78 (8 * p + t))) ∧ nm (V 78 (8 * p + t)) < nS V) ∧ (∀ s, s < nS V → V 76 s = nI (nm (V 76 s)) ∧ nm (V 76 s) < 5) ∧ (∀ s, s < nS V → V 75 s = nI (nm (V 75 s)) ∧ nm (V 75 s) ≤ 9) ∧ (∀ s, s < 5 → V 72 s = nI (nm (V 72 s)) ∧ nm (V 72 s) ≤ 99) ∧ (∀ b, b < nB V → V 79 b = nI (nm (V 79 b)) ∧ nm (V 79 b) < nP V) ∧ (∀ b, b < nB V → V 80 b = nI (nm (V 80 b)) ∧ nm (V 80 b) < 6) ∧ (∀ b, b < nB V → V 81 b = nI (nm (V 81 b)) ∧ nm (V 81 b) ≤ 60) ∧ (∀ b, b < nB V → V 83 b = 0 ∨ V 83 b = 1) ∧ (∀ q, q < 8 * nB V → V 84 q = nI (nm (V 84 q)) ∧ nm (V 84 q) ≤ 8) ∧ (∀ q i, q < 8 * nB V → i < nm (V 84 q) → V 85 (8 * q + i) = nI (nm (V 85 (8 * q + i))) ∧ 1 ≤ nm (V 85 (8 * q + i)) ∧ nm (V 85 (8 * q + i)) ≤ 600) ∧ (∀ b t, b < nB V → t < 8 → nm (V 77 (nm (V 79 b))) ≤ t → V 84 (8 * b + t) = 0) ∧ (V 70 18 = nI (nm (V 70 18)) ∧ 1 ≤ nm (V 70 18) ∧ nm (V 70 18) ≤ 100) ∧ (V 70 19 = nI (nm (V 70 19)) ∧ 10 ≤ nm (V 70 19) ∧ nm (V 70 19) ≤ 600) ∧ (V 70 20 = nI (nm (V 70 20)) ∧ nm (V 70 20) ≤ 100) ∧ (-50 ≤ (V 70 21).toInt ∧ (V 70 21).toInt ≤ 50) ∧ (V 70 22 = nI (nm (V 70 22)) ∧ nm (V 70 22) ≤ 3) ∧ (V 70 23 = nI (nm (V 70 23)) ∧ 10 ≤ nm (V 70 23) ∧ nm (V 70 23) ≤ 600) ∧ (V 70 50 = nI (nm (V 70 50)) ∧ nm (V 70 50) ≤ 100) ∧ (V 70 51 = nI (nm (V 70 51)) ∧ 1 ≤ nm (V 70 51) ∧ nm (V 70 51) ≤ 5) ∧ (V 70 25 = nI (nm (V 70 25)) ∧ nm (V 70 25) ≤ 500)
theorem IV.ns {V : am_M} (h : IV V) : V 70 8 = nI (nS V) ∧ nS V ≤ 12 := h.1
theorem IV.np {V : am_M} (h : IV V) : V 70 9 = nI (nP V) ∧ nP V ≤ 4 := h.2.1
theorem IV.nb {V : am_M} (h : IV V) : V 70 17 = nI (nB V) ∧ nB V ≤ 16 := h.2.2.1
theorem IV.pm {V : am_M} (h : IV V) : ∀ p, p < nP V → V 77 p = nI (nm (V 77 p)) ∧ nm (V 77 p) ≤ 8 := h.2.2.2.1
theorem IV.pr {V : am_M} (h : IV V) : ∀ p t, p < nP V → t < nm (V 77 p) → V 78 (8 * p + t) = nI (nm (V 78 (8 * p + t))) ∧ nm (V 78 (8 * p + t)) < nS V := h.2.2.2.2.1
theorem IV.ki {V : am_M} (h : IV V) : ∀ s, s < nS V → V 76 s = nI (nm (V 76 s)) ∧ nm (V 76 s) < 5 := h.2.2.2.2.2.1
theorem IV.sh {V : am_M} (h : IV V) : ∀ s, s < nS V → V 75 s = nI (nm (V 75 s)) ∧ nm (V 75 s) ≤ 9 := h.2.2.2.2.2.2.1
theorem IV.lk {V : am_M} (h : IV V) : ∀ s, s < 5 → V 72 s = nI (nm (V 72 s)) ∧ nm (V 72 s) ≤ 99 := h.2.2.2.2.2.2.2.1
theorem IV.bp {V : am_M} (h : IV V) : ∀ b, b < nB V → V 79 b = nI (nm (V 79 b)) ∧ nm (V 79 b) < nP V := h.2.2.2.2.2.2.2.2.1
theorem IV.bh {V : am_M} (h : IV V) : ∀ b, b < nB V → V 80 b = nI (nm (V 80 b)) ∧ nm (V 80 b) < 6 := h.2.2.2.2.2.2.2.2.2.1
theorem IV.ba {V : am_M} (h : IV V) : ∀ b, b < nB V → V 81 b = nI (nm (V 81 b)) ∧ nm (V 81 b) ≤ 60 := h.2.2.2.2.2.2.2.2.2.2.1
theorem IV.bl {V : am_M} (h : IV V) : ∀ b, b < nB V → V 83 b = 0 ∨ V 83 b = 1 := h.2.2.2.2.2.2.2.2.2.2.2.1
theorem IV.gm {V : am_M} (h : IV V) : ∀ q, q < 8 * nB V → V 84 q = nI (nm (V 84 q)) ∧ nm (V 84 q) ≤ 8 := h.2.2.2.2.2.2.2.2.2.2.2.2.1
theorem IV.gz {V : am_M} (h : IV V) : ∀ q i, q < 8 * nB V → i < nm (V 84 q) → V 85 (8 * q + i) = nI (nm (V 85 (8 * q + i))) ∧ 1 ≤ nm (V 85 (8 * q + i)) ∧ nm (V 85 (8 * q + i)) ≤ 600 := h.2.2.2.2.2.2.2.2.2.2.2.2.2.1
theorem IV.g0 {V : am_M} (h : IV V) : ∀ b t, b < nB V → t < 8 → nm (V 77 (nm (V 79 b))) ≤ t → V 84 (8 * b + t) = 0 := h.2.2.2.2.2.2.2.2.2.2.2.2.2.2.1
theorem IV.w {V : am_M} (h : IV V) : V 70 18 = nI (nm (V 70 18)) ∧ 1 ≤ nm (V 70 18) ∧ nm (V 70 18) ≤ 100 := h.2.2.2.2.2.2.2.2.2.2.2.2.2.2.2.1
theorem IV.mo {V : am_M} (h : IV V) : V 70 19 = nI (nm (V 70 19)) ∧ 10 ≤ nm (V 70 19) ∧ nm (V 70 19) ≤ 600 := h.2.2.2.2.2.2.2.2.2.2.2.2.2.2.2.2.1
theorem IV.le {V : am_M} (h : IV V) : V 70 20 = nI (nm (V 70 20)) ∧ nm (V 70 20) ≤ 100 := h.2.2.2.2.2.2.2.2.2.2.2.2.2.2.2.2.2.1
theorem IV.ln {V : am_M} (h : IV V) : -50 ≤ (V 70 21).toInt ∧ (V 70 21).toInt ≤ 50 := h.2.2.2.2.2.2.2.2.2.2.2.2.2.2.2.2.2.2.1
theorem IV.rd {V : am_M} (h : IV V) : V 70 22 = nI (nm (V 70 22)) ∧ nm (V 70 22) ≤ 3 := h.2.2.2.2.2.2.2.2.2.2.2.2.2.2.2.2.2.2.2.1
theorem IV.cp {V : am_M} (h : IV V) : V 70 23 = nI (nm (V 70 23)) ∧ 10 ≤ nm (V 70 23) ∧ nm (V 70 23) ≤ 600 := h.2.2.2.2.2.2.2.2.2.2.2.2.2.2.2.2.2.2.2.2.1
theorem IV.sp {V : am_M} (h : IV V) : V 70 50 = nI (nm (V 70 50)) ∧ nm (V 70 50) ≤ 100 := h.2.2.2.2.2.2.2.2.2.2.2.2.2.2.2.2.2.2.2.2.2.1
theorem IV.lo {V : am_M} (h : IV V) : V 70 51 = nI (nm (V 70 51)) ∧ 1 ≤ nm (V 70 51) ∧ nm (V 70 51) ≤ 5 := h.2.2.2.2.2.2.2.2.2.2.2.2.2.2.2.2.2.2.2.2.2.2.1
theorem IV.tx {V : am_M} (h : IV V) : V 70 25 = nI (nm (V 70 25)) ∧ nm (V 70 25) ≤ 500 := h.2.2.2.2.2.2.2.2.2.2.2.2.2.2.2.2.2.2.2.2.2.2.2
