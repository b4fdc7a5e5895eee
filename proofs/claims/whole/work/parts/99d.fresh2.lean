section T99d
theorem fr_rel (S : am_S) (M : am_M) (l : List (Nat × Nat)) (hE : am_env S) (h47 : ∀ k, k < 3 → S.2.2 47 k = none) (hz : Zex l M) (hl : l = [(70, 51), (70, 23), (70, 19), (70, 18), (48, 7), (39, 13), (39, 9), (39, 8), (31, 13), (31, 9), (31, 8)]) (v1 : M 31 8 = 20) (v2 : M 31 9 = 600) (v3 : M 31 13 = 200) (v4 : M 48 7 = 1) (v5 : M 70 18 = 20) (v6 : M 70 19 = 600) (v7 : M 70 23 = 200) (v8 : M 70 51 = 1) : Rel S M := by
  subst hl
  have z : ∀ c j, c ≠ 31 → c ≠ 39 → c ≠ 48 → c ≠ 70 → M c j = 0 := fun c j a b e f => hz c j (by simp; omega)
  have r : ∀ c, c ≠ 31 → c ≠ 39 → c ≠ 48 → c ≠ 70 → M c = fun _ => 0 := fun c a b e f => funext fun j => z c j a b e f
  have z70 : ∀ j, j ≠ 18 → j ≠ 19 → j ≠ 23 → j ≠ 51 → M 70 j = 0 := fun j a b e f => hz 70 j (by simp; omega)
  have z31 : ∀ j, j ≠ 8 → j ≠ 9 → j ≠ 13 → M 31 j = 0 := fun j a b e => hz 31 j (by simp; omega)
  have n8 : nS M = 0 := by unfold nS; rw [z70 8 (by omega) (by omega) (by omega) (by omega)]; rfl
  have n9 : nP M = 0 := by unfold nP; rw [z70 9 (by omega) (by omega) (by omega) (by omega)]; rfl
  have nb : nB M = 0 := by unfold nB; rw [z70 17 (by omega) (by omega) (by omega) (by omega)]; rfl
  have q : ∀ c d, c ≠ 31 → c ≠ 39 → c ≠ 48 → c ≠ 70 → d ≠ 31 → d ≠ 39 → d ≠ 48 → d ≠ 70 → M c = M d := fun c d a1 a2 a3 a4 b1 b2 b3 b4 => (r c a1 a2 a3 a4).trans (r d b1 b2 b3 b4).symm
  have hst : pSt M := by
    refine ⟨⟨?_, ?_, q _ _ (by omega) (by omega) (by omega) (by omega) (by omega) (by omega) (by omega) (by omega), q _ _ (by omega) (by omega) (by omega) (by omega) (by omega) (by omega) (by omega) (by omega), q _ _ (by omega) (by omega) (by omega) (by omega) (by omega) (by omega) (by omega) (by omega), q _ _ (by omega) (by omega) (by omega) (by omega) (by omega) (by omega) (by omega) (by omega), q _ _ (by omega) (by omega) (by omega) (by omega) (by omega) (by omega) (by omega) (by omega), q _ _ (by omega) (by omega) (by omega) (by omega) (by omega) (by omega) (by omega) (by omega), q _ _ (by omega) (by omega) (by omega) (by omega) (by omega) (by omega) (by omega) (by omega)⟩, ⟨?_, ?_, fun p hp => by omega, fun p t hp => by omega, fun s hs => by omega, fun s hs => by omega, fun s _ => ?_⟩⟩
    · rw [z 23 7 (by omega) (by omega) (by omega) (by omega), z70 8 (by omega) (by omega) (by omega) (by omega)]
    · rw [z 23 8 (by omega) (by omega) (by omega) (by omega), z70 9 (by omega) (by omega) (by omega) (by omega)]
    · rw [n8, z70 8 (by omega) (by omega) (by omega) (by omega)]; exact ⟨rfl, by omega⟩
    · rw [n9, z70 9 (by omega) (by omega) (by omega) (by omega)]; exact ⟨rfl, by omega⟩
    · rw [z 72 s (by omega) (by omega) (by omega) (by omega)]; decide
  have hlb : pLb M := by
    refine ⟨⟨?_, ?_, ?_, ?_, ?_, ?_, ?_, fun i hi => by omega, fun i hi => by omega, fun i hi => by omega, fun i hi => by omega, fun i hi => by omega, fun i hi => by omega, fun i j hi => by omega⟩, ⟨?_, fun b hb => by omega, fun b hb => by omega, fun b hb => by omega, fun b hb => by omega, fun b hb => by omega, fun b i hb => by omega, fun b t hb => by omega, ?_, ?_, ?_, ?_, ?_, ?_⟩⟩
    · rw [z31 7 (by omega) (by omega) (by omega), z70 17 (by omega) (by omega) (by omega) (by omega)]
    · rw [v1, v5]
    · rw [v2, v6]
    · rw [z31 10 (by omega) (by omega) (by omega), z70 20 (by omega) (by omega) (by omega) (by omega)]
    · rw [z31 11 (by omega) (by omega) (by omega), z70 21 (by omega) (by omega) (by omega) (by omega)]
    · rw [z31 12 (by omega) (by omega) (by omega), z70 22 (by omega) (by omega) (by omega) (by omega)]
    · rw [v3, v7]
    · rw [nb, z70 17 (by omega) (by omega) (by omega) (by omega)]; exact ⟨rfl, by omega⟩
    · rw [v5]; decide
    · rw [v6]; decide
    · rw [z70 20 (by omega) (by omega) (by omega) (by omega)]; decide
    · rw [z70 21 (by omega) (by omega) (by omega) (by omega)]; decide
    · rw [z70 22 (by omega) (by omega) (by omega) (by omega)]; decide
    · rw [v7]; decide
  have nl : nL M = 0 := by unfold nL; rw [z 97 0 (by omega) (by omega) (by omega) (by omega)]; rfl
  have no : nO M = 0 := by unfold nO; rw [z 98 0 (by omega) (by omega) (by omega) (by omega)]; rfl
  have ic : ∀ c, ¬ isC M c := fun c w => by unfold isC at w; omega
  have hpg : pPg M := by
    refine ⟨⟨?_, ?_, fun l hl => by omega, fun c hc => by omega, fun c k hc => absurd hc (ic c)⟩, ⟨?_, ?_, fun c hc => absurd hc (ic c)⟩⟩
    · rw [z 16 7 (by omega) (by omega) (by omega) (by omega), z 97 0 (by omega) (by omega) (by omega) (by omega)]
    · rw [z 16 8 (by omega) (by omega) (by omega) (by omega), z 98 0 (by omega) (by omega) (by omega) (by omega)]
    · rw [nl, z 97 0 (by omega) (by omega) (by omega) (by omega)]; exact ⟨rfl, by omega⟩
    · rw [no, z 98 0 (by omega) (by omega) (by omega) (by omega)]; exact ⟨rfl, by omega⟩
  have hsp : pSp M := by
    refine ⟨?_, ?_, ⟨?_, ?_⟩⟩
    · rw [hz 48 6 (by simp), z70 50 (by omega) (by omega) (by omega) (by omega)]
    · rw [v4, v8]
    · rw [z70 50 (by omega) (by omega) (by omega) (by omega)]; decide
    · rw [v8]; decide
  have b60 : M 70 60 = 0 := z70 60 (by omega) (by omega) (by omega) (by omega)
  have b40 : M 70 40 = 0 := z70 40 (by omega) (by omega) (by omega) (by omega)
  have n1 : ¬ M 70 60 = 1 := by rw [b60]; decide
  have hbk : BkR M M := ⟨by rw [b60, z 69 0 (by omega) (by omega) (by omega) (by omega)], by rw [b40, z 69 1 (by omega) (by omega) (by omega) (by omega)], fun w => absurd w n1, fun w => absurd w n1, fun w => absurd w n1, fun w => absurd w n1, fun w => absurd w n1, fun w => absurd w n1, Or.inl b60, Or.inl b40⟩
  have htx : pTx M := ⟨fun _ => 0, 0, ⟨z 2 5 (by omega) (by omega) (by omega) (by omega), fun i hi => by omega, by omega, fun _ => show 0 < 256 by decide⟩, ⟨z70 25 (by omega) (by omega) (by omega) (by omega), fun i hi => by omega, by omega, fun _ => show 0 < 256 by decide⟩⟩
  have him : pIm S M := ⟨fun k hk => Or.inl ⟨z 118 k (by omega) (by omega) (by omega) (by omega), h47 k hk⟩, fun k k' a b hk _ _ e _ => by rw [h47 k hk] at e; cases e⟩
  have hfn : FnR M M := ⟨fun s _ => (z 63 s (by omega) (by omega) (by omega) (by omega)).trans rfl, z 65 0 (by omega) (by omega) (by omega) (by omega), fun l _ => ⟨z 66 l (by omega) (by omega) (by omega) (by omega), z 67 l (by omega) (by omega) (by omega) (by omega)⟩, Or.inl (z 62 8 (by omega) (by omega) (by omega) (by omega))⟩
  exact ⟨hE, hst, hlb, hpg, ⟨fun i _ _ => z 49 i (by omega) (by omega) (by omega) (by omega), fun i _ => z 52 i (by omega) (by omega) (by omega) (by omega)⟩, hsp, hbk, htx, q _ _ (by omega) (by omega) (by omega) (by omega) (by omega) (by omega) (by omega) (by omega), him, hfn⟩
theorem law_holds (X : am_X) (hX : X.1 ≤ 3072) : am_WP X 1000 262 0 [some (.retAddr 0), none, none, none] [] am_S0 (fun _ _ => 0) (fun _ _ => 0) 300000 3000000 (fun r _ _ _ => r = some (.int 1)) := law_start (d := 939) fr_rel hX (fun _ _ _ => rfl)
end T99d
