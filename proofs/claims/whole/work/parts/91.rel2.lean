/-- what next depends on, alone -/
def cV (V : am_M) : am_M := fun c j => if c = 72 then V 72 j else if c = 73 then V 73 j else if c = 74 then V 74 j else if c = 75 then V 75 j else if c = 76 then V 76 j else if c = 88 then V 88 j else if c = 91 then V 91 j else if c = 94 then V 94 j else if c = 70 then (if j = 8 then V 70 8 else 0) else if c = 97 then (if j = 0 then V 97 0 else 0) else 0
section T91
variable {V V' : am_M}
theorem cV_sd {l t : Nat} {f : Nat → Int32} {a s : Int32} : sdOf (cV V) l f a t s = sdOf V l f a t s := rfl
theorem cV_sm {l : Nat} {f : Nat → Int32} {a : Int32} : ∀ t, smI (cV V) l f a t = smI V l f a t := by
  intro t
  induction t with
  | zero => rfl
  | succ t ih =>
    show smI (cV V) l f a t + sdOf (cV V) l f a t (smI (cV V) l f a t) = smI V l f a t + sdOf V l f a t (smI V l f a t)
    rw [ih, cV_sd]
theorem cV_sdi {l : Nat} {f : Nat → Int32} {a : Int32} : sdI (cV V) l f a = sdI V l f a := by
  funext t
  show sdOf (cV V) l f a t (smI (cV V) l f a t) = sdOf V l f a t (smI V l f a t)
  rw [cV_sm, cV_sd]
theorem cV_om {f : Nat → Int32} : ∀ j, om (cV V) f j = om V f j := by
  intro j
  induction j with
  | zero => rfl
  | succ j ih =>
    show (if oddV V (nm (f j)) then om (cV V) f j + 1 else om (cV V) f j) = (if oddV V (nm (f j)) then om V f j + 1 else om V f j)
    rw [ih]
theorem cV_oA {f u : Nat → Int32} : ∀ j, oA (cV V) f u j = oA V f u j := by
  intro j
  induction j with
  | zero => rfl
  | succ j ih =>
    show (if oddV V (nm (f j)) then oA (cV V) f u j + nm (u j) else oA (cV V) f u j) = (if oddV V (nm (f j)) then oA V f u j + nm (u j) else oA V f u j)
    rw [ih]
theorem cV_oC {f u : Nat → Int32} : ∀ j, oC (cV V) f u j = oC V f u j := by
  intro j
  induction j with
  | zero => rfl
  | succ j ih =>
    show (if oddV V (nm (f j)) then oC (cV V) f u j else oC (cV V) f u j + nm (u j)) = (if oddV V (nm (f j)) then oC V f u j else oC V f u j + nm (u j))
    rw [ih]
theorem cV_sg {a : Int32} {p : List Nat} : sgR (cV V) a p = sgR V a p := by
  funext l
  show sgN (cV V) (fR p) (sdI (cV V) l (fR p) a) p.length = sgN V (fR p) (sdI V l (fR p) a) p.length
  rw [cV_sdi]
  unfold sgN
  rw [cV_om, cV_oA, cV_oC]
theorem cV_cp {a : Int32} {p : List Nat} : cpR (cV V) a p = cpR V a p := by
  show prs (sgR (cV V) a p) (nL V) = prs (sgR V a p) (nL V)
  rw [cV_sg]
theorem cV_rt {a : Int32} {p : List Nat} {q : fSt} : rateS (cV V) a p q = rateS V a p q := by
  unfold rateS
  rw [cV_cp]
theorem cV_df {a : Int32} : ∀ n p q, dfS (cV V) a n p q = dfS V a n p q := by
  intro n
  induction n with
  | zero => intro p q; exact cV_rt
  | succ n ih =>
    intro p q
    show lpS (fun s q => if p.contains s = true then q else dfS (cV V) a n (p ++ [s]) q) (nS V) q = lpS (fun s q => if p.contains s = true then q else dfS V a n (p ++ [s]) q) (nS V) q
    have e : (fun s q => if p.contains s = true then q else dfS (cV V) a n (p ++ [s]) q) = (fun s q => if p.contains s = true then q else dfS V a n (p ++ [s]) q) := by
      funext s q
      rw [ih]
    rw [e]
theorem cV_nx {a : Int32} : ∀ m, nxS V a m = nxS (cV V) a m := by
  intro m
  induction m with
  | zero => rfl
  | succ m ih =>
    show dfS V a (m + 2) [] (nxS V a m) = dfS (cV V) a (m + 2) [] (nxS (cV V) a m)
    rw [ih, cV_df]
theorem nxS_congr (h72 : V' 72 = V 72) (h73 : V' 73 = V 73) (h74 : V' 74 = V 74) (h75 : V' 75 = V 75) (h76 : V' 76 = V 76) (h88 : V' 88 = V 88) (h91 : V' 91 = V 91) (h94 : V' 94 = V 94) (f8 : V' 70 8 = V 70 8) (l0 : V' 97 0 = V 97 0) {a : Int32} {m : Nat} : nxS V' a m = nxS V a m := by
  have e : cV V' = cV V := by unfold cV; rw [h72, h73, h74, h75, h76, h88, h91, h94, f8, l0]
  rw [cV_nx (V := V'), cV_nx (V := V), e]
theorem BsC.fr' {cs : List Nat} {fs : List (Nat × Nat)} {q : fSt} {M M' : am_M} (h : BsC q M) (f : Fr cs fs M M') (g : okF cs fs [68] [(62, 13), (62, 14)] = true) : BsC q M' := by
  obtain ⟨a, b⟩ := f.rw g
  exact h.of (b (62, 14) (by decide)) (b (62, 13) (by decide)) (a 68 (by decide))
def rsFn : List Nat := [63, 65, 66, 67, 68, 72, 73, 74, 75, 76, 88, 91, 94]
def psFn : List (Nat × Nat) := [(62, 8), (62, 9), (62, 13), (62, 14), (70, 8), (97, 0)]
theorem FnR.fr {cs : List Nat} {fs : List (Nat × Nat)} {M M' : am_M} (h : FnR M M) (f : Fr cs fs M M') (g : okF cs fs rsFn psFn = true) : FnR M' M' := by
  obtain ⟨a, b⟩ := f.rw g
  have p8 : M' 70 8 = M 70 8 := b (70, 8) (by decide)
  have e8 : nS M' = nS M := by unfold nS; rw [p8]
  refine ⟨fun s hs => ?_, ?_, fun l hl => ?_, ?_⟩
  · rw [a 63 (by decide)]; exact h.us s hs
  · rw [a 65 (by decide)]; exact h.o0
  · rw [a 66 (by decide), a 67 (by decide)]; exact h.s0 l hl
  · rcases h.ca with c | ⟨m, x, c1, c2, c3, c4, c5, c6⟩
    · exact Or.inl ((b (62, 8) (by decide)).trans c)
    · refine Or.inr ⟨m, x, c1, c2, by rw [e8]; exact c3, (b (62, 8) (by decide)).trans c4, (b (62, 9) (by decide)).trans c5, ?_⟩
      rw [nxS_congr (V := M) (a 72 (by decide)) (a 73 (by decide)) (a 74 (by decide)) (a 75 (by decide)) (a 76 (by decide)) (a 88 (by decide)) (a 91 (by decide)) (a 94 (by decide)) p8 (b (97, 0) (by decide))]
      exact c6.of (b (62, 14) (by decide)) (b (62, 13) (by decide)) (a 68 (by decide))
/-- another stage, laws or likes: nothing is kept -/
theorem FnR.fgt {cs : List Nat} {fs : List (Nat × Nat)} {M M' : am_M} (h : FnR M M) (f : Fr cs fs M M') (g : okF cs fs [63, 65, 66, 67] [] = true) (h8 : M' 62 8 = 0) : FnR M' M' := by
  obtain ⟨a, _⟩ := f.rw g
  refine ⟨fun s hs => ?_, ?_, fun l hl => ?_, Or.inl h8⟩
  · rw [a 63 (by decide)]; exact h.us s hs
  · rw [a 65 (by decide)]; exact h.o0
  · rw [a 66 (by decide), a 67 (by decide)]; exact h.s0 l hl
end T91
section T91b
variable {S S' : am_S} {M M' : am_M}
theorem imV_nB {k : Nat} : imV M k 70 17 = M (115 + k) 0 := rfl
theorem imV_of {k : Nat} (e : M' (115 + k) = M (115 + k)) : ∀ c j, (c = 79 ∧ j < 16) ∨ (c = 80 ∧ j < 16) ∨ (c = 81 ∧ j < 16) ∨ (c = 82 ∧ j < 16) ∨ (c = 83 ∧ j < 16) ∨ (c = 84 ∧ j < 128) ∨ (c = 85 ∧ j < 1024) ∨ (c = 70 ∧ 17 ≤ j ∧ j ≤ 23) → imV M' k c j = imV M k c j := by
  intro c j h
  unfold imV
  rw [e]
  rcases h with h | h | h | h | h | h | h | h
  · rw [if_pos h, if_pos h]
  · rw [if_neg (by omega), if_pos h, if_neg (by omega), if_pos h]
  · rw [if_neg (by omega), if_neg (by omega), if_pos h, if_neg (by omega), if_neg (by omega), if_pos h]
  · rw [if_neg (by omega), if_neg (by omega), if_neg (by omega), if_pos h, if_neg (by omega), if_neg (by omega), if_neg (by omega), if_pos h]
  · rw [if_neg (by omega), if_neg (by omega), if_neg (by omega), if_neg (by omega), if_pos h, if_neg (by omega), if_neg (by omega), if_neg (by omega), if_neg (by omega), if_pos h]
  · rw [if_neg (by omega), if_neg (by omega), if_neg (by omega), if_neg (by omega), if_neg (by omega), if_pos h, if_neg (by omega), if_neg (by omega), if_neg (by omega), if_neg (by omega), if_neg (by omega), if_pos h]
  · rw [if_neg (by omega), if_neg (by omega), if_neg (by omega), if_neg (by omega), if_neg (by omega), if_neg (by omega), if_pos h, if_neg (by omega), if_neg (by omega), if_neg (by omega), if_neg (by omega), if_neg (by omega), if_neg (by omega), if_pos h]
  · rw [if_neg (by omega), if_neg (by omega), if_neg (by omega), if_neg (by omega), if_neg (by omega), if_neg (by omega), if_neg (by omega), if_pos h, if_neg (by omega), if_neg (by omega), if_neg (by omega), if_neg (by omega), if_neg (by omega), if_neg (by omega), if_neg (by omega), if_pos h]
/-- two pictures with the same lab -/
def labE (W W' : am_M) : Prop := (∀ j, 17 ≤ j → j ≤ 23 → W' 70 j = W 70 j) ∧ (∀ i, i < 16 → W' 79 i = W 79 i ∧ W' 80 i = W 80 i ∧ W' 81 i = W 81 i ∧ W' 82 i = W 82 i ∧ W' 83 i = W 83 i) ∧ (∀ q, q < 128 → W' 84 q = W 84 q) ∧ (∀ q, q < 1024 → W' 85 q = W 85 q)
theorem labE.nb {W W' : am_M} (h : labE W W') : nB W' = nB W := by unfold nB; rw [h.1 17 (by omega) (by omega)]
theorem LabR.ve {W W' : am_M} {M : am_M} {b : Nat} (h : LabR W M b) (i : nB W ≤ 16) (gm : ∀ q, q < 8 * nB W → nm (W 84 q) ≤ 8) (e : labE W W') : LabR W' M b := by
  obtain ⟨h1, h2, h3, h4, h5, h6, h7, h8, h9, h10, h11, h12, h13, h14⟩ := h
  refine ⟨?_, ?_, ?_, ?_, ?_, ?_, ?_, ?_, ?_, ?_, ?_, ?_, ?_, ?_⟩
  · rw [e.1 17 (by omega) (by omega)]; exact h1
  · rw [e.1 18 (by omega) (by omega)]; exact h2
  · rw [e.1 19 (by omega) (by omega)]; exact h3
  · rw [e.1 20 (by omega) (by omega)]; exact h4
  · rw [e.1 21 (by omega) (by omega)]; exact h5
  · rw [e.1 22 (by omega) (by omega)]; exact h6
  · rw [e.1 23 (by omega) (by omega)]; exact h7
  · intro i hi; rw [e.nb] at hi; rw [(e.2.1 i (by omega)).1]; exact h8 i hi
  · intro i hi; rw [e.nb] at hi; rw [(e.2.1 i (by omega)).2.1]; exact h9 i hi
  · intro i hi; rw [e.nb] at hi; rw [(e.2.1 i (by omega)).2.2.1]; exact h10 i hi
  · intro i hi; rw [e.nb] at hi; rw [(e.2.1 i (by omega)).2.2.2.1]; exact h11 i hi
  · intro i hi; rw [e.nb] at hi; rw [(e.2.1 i (by omega)).2.2.2.2]; exact h12 i hi
  · intro q hq; rw [e.nb] at hq; rw [e.2.2.1 q (by omega)]; exact h13 q hq
  · intro q i hq hi
    rw [e.nb] at hq
    rw [e.2.2.1 q (by omega)] at hi
    have := gm q hq
    rw [e.2.2.2 (8 * q + i) (by omega)]; exact h14 q i hq hi
theorem ILb.ve {V W W' : am_M} (h : ILb V W) (e : labE W W') : ILb V W' := by
  have n16 := h.nb.2
  obtain ⟨h1, h2, h3, h4, h5, h6, h7, h8, h9, h10, h11, h12, h13, h14⟩ := h
  refine ⟨?_, ?_, ?_, ?_, ?_, ?_, ?_, ?_, ?_, ?_, ?_, ?_, ?_, ?_⟩
  · rw [e.nb, e.1 17 (by omega) (by omega)]; exact h1
  · intro i hi; rw [e.nb] at hi; rw [(e.2.1 i (by omega)).1]; exact h2 i hi
  · intro i hi; rw [e.nb] at hi; rw [(e.2.1 i (by omega)).2.1]; exact h3 i hi
  · intro i hi; rw [e.nb] at hi; rw [(e.2.1 i (by omega)).2.2.1]; exact h4 i hi
  · intro i hi; rw [e.nb] at hi; rw [(e.2.1 i (by omega)).2.2.2.2]; exact h5 i hi
  · intro q hq; rw [e.nb] at hq; rw [e.2.2.1 q (by omega)]; exact h6 q hq
  · intro q i hq hi
    rw [e.nb] at hq
    rw [e.2.2.1 q (by omega)] at hi
    have := (h6 q hq).2
    rw [e.2.2.2 (8 * q + i) (by omega)]; exact h7 q i hq hi
  · intro b t hb ht hh
    rw [e.nb] at hb
    rw [(e.2.1 b (by omega)).1] at hh
    rw [e.2.2.1 (8 * b + t) (by omega)]; exact h8 b t hb ht hh
  · rw [e.1 18 (by omega) (by omega)]; exact h9
  · rw [e.1 19 (by omega) (by omega)]; exact h10
  · rw [e.1 20 (by omega) (by omega)]; exact h11
  · rw [e.1 21 (by omega) (by omega)]; exact h12
  · rw [e.1 22 (by omega) (by omega)]; exact h13
  · rw [e.1 23 (by omega) (by omega)]; exact h14
theorem imV_E {k : Nat} (e : M' (115 + k) = M (115 + k)) : labE (imV M k) (imV M' k) := by
  have q := imV_of (k := k) e
  refine ⟨fun j h1 h2 => q 70 j (by omega), fun i hi => ⟨q 79 i (by omega), q 80 i (by omega), q 81 i (by omega), q 82 i (by omega), q 83 i (by omega)⟩, fun i hi => q 84 i (by omega), fun i hi => q 85 i (by omega)⟩
/-- an image stays: its row, its flag and the heap's cells are as they were; the stage may have grown -/
theorem im1.keep {k : Nat} (hk : k < 3) (h : im1 S M k) (e0 : M' 118 k = M 118 k) (e1 : M' (115 + k) = M (115 + k)) (e2 : ∀ q, S.2.2 47 k = some q → ∀ c, q ≤ c → c ≤ q + 7 → M' c = M c) (e3 : S'.2.2 47 k = S.2.2 47 k) (e4 : ∀ q, Lb S q → Lb S' q) (e5 : nP M ≤ nP M') (e6 : ∀ p, p < nP M → nm (M 77 p) ≤ nm (M' 77 p)) : im1 S' M' k := by
  rcases h with ⟨h1, h2⟩ | ⟨h1, q, h2, h3, h4, h5, h6⟩
  · exact Or.inl ⟨e0.trans h1, e3.trans h2⟩
  · have e := imV_E (M := M) (M' := M') (k := k) e1
    exact Or.inr ⟨e0.trans h1, q, e3.trans h2, h3, e4 q h4, (h5.ve h6.nb.2 (fun q hq => (h6.gm q hq).2) e).of (e2 q h2), (h6.ve e).of e5 e6⟩
theorem pIm.fr {cs : List Nat} {fs : List (Nat × Nat)} (h : pIm S M) (f : Fr cs fs M M') (g : okF cs fs [115, 116, 117, 118] [] = true) (h1 : (cs.all fun c => decide (c < 119)) = true) (h2 : (fs.all fun z => decide (z.1 < 119)) = true) (e5 : nP M ≤ nP M') (e6 : ∀ p, p < nP M → nm (M 77 p) ≤ nm (M' 77 p)) : pIm S M' := by
  obtain ⟨a, _⟩ := f.rw g
  have hi := f.hi h1 h2
  refine ⟨fun k hk => ?_, h.2⟩
  refine (h.1 k hk).keep hk (by rw [a 118 (by decide)]) ?_ (fun q hq c hc1 hc2 => ?_) rfl (fun _ => id) e5 e6
  · have z : k = 0 ∨ k = 1 ∨ k = 2 := by omega
    rcases z with rfl | rfl | rfl
    · exact a 115 (by decide)
    · exact a 116 (by decide)
    · exact a 117 (by decide)
  · rcases h.1 k hk with ⟨_, y⟩ | ⟨_, q', y, y2, _⟩
    · rw [y] at hq; cases hq
    · rw [y] at hq
      cases hq
      exact hi c (by omega)
end T91b
