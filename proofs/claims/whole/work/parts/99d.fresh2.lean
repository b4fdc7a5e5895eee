section T99d
theorem fr_rel (S : am_S) (M : am_M) (l : List (Nat × Nat)) (hE : am_env S) (h47 : ∀ k, k < 3 → S.2.2 47 k = none) (hz : Zex l M) (hl : l = [(70, 51), (70, 23), (70, 19), (70, 18), (48, 7), (39, 13), (39, 9), (39, 8), (31, 13), (31, 9), (31, 8)]) (v1 : M 31 8 = 20) (v2 : M 31 9 = 600) (v3 : M 31 13 = 200) (v4 : M 48 7 = 1) (v5 : M 70 18 = 20) (v6 : M 70 19 = 600) (v7 : M 70 23 = 200) (v8 : M 70 51 = 1) : Rel S M := by
  subst hl
  have z : ∀ c j, c ≠ 31 → c ≠ 39 → c ≠ 48 → c ≠ 70 → M c j = 0 := fun c j a b e f => hz c j (by simp; omega)
  have r : ∀ c, c ≠ 31 → c ≠ 39 → c ≠ 48 → c ≠ 70 → M c = fun _ => 0 := fun c a b e f => funext fun j => z c j a b e f
  have z70 : ∀ j, j ≠ 18 → j ≠ 19 → j ≠ 23 → j ≠ 51 → M 70 j = 0 := fun j a b e f => hz 70 j (by simp; omega)
  have z31 : ∀ j, j ≠ 8 → j ≠ 9 → j ≠ 13 → M 31 j = 0 := fun j a b e => hz 31 j (by simp; omega)
  have n8 : nS M = 0 := by unfold nS; rw [z70 8 (by omega) (by omega) (by omega) (by omega)]; rfl
  have n9 : nP M = 0 := by unfold nP; rw [z70 9 (by omega) (by omega) (by omega) (by omega)]; rfl
  have nb : nB M = 0 := by unfold nB; rw [z70 17 (by omega) (by omega) (by omega) (by omega)]; rfl
  have q : ∀ c d, c ≠ 31 → c ≠ 39 → c ≠ 48 → c ≠ 70 → d ≠ 31 → d ≠ 39 → d ≠ 48 → d ≠ 70 → M c = M d := fun c d a1 a2 a3 a4 b1 b2 b3 b4 => (r c a1 a2 a3 a4).trans (r d b1 b2 b3 b4).symm
  have hst : pSt M := by
    refine ⟨⟨?_, ?_, q _ _ (by omega) (by omega) (by omega) (by omega) (by omega) (by omega) (by omega) (by omega), q _ _ (by omega) (by omega) (by omega) (by omega) (by omega) (by omega) (by omega) (by omega), q _ _ (by omega) (by omega) (by omega) (by omega) (by omega) (by omega) (by omega) (by omega), q _ _ (by omega) (by omega) (by omega) (by omega) (by omega) (by omega) (by omega) (by omega), q _ _ (by omega) (by omega) (by omega) (by omega) (by omega) (by omega) (by omega) (by omega), q _ _ (by omega) (by omega) (by omega) (by omega) (by omega) (by omega) (by omega) (by omega), q _ _ (by omega) (by omega) (by omega) (by omega) (by omega) (by omega) (by omega) (by omega)⟩, ⟨?_, ?_, fun p hp => by omega, fun p t hp => by omega, fun s hs => by omega, fun s hs => by omega, fun s _ => ?_⟩⟩
    · rw [z 23 7 (by omega) (by omega) (by omega) (by omega), z70 8 (by omega) (by omega) (by omega) (by omega)]
    · rw [z 23 8 (by omega) (by omega) (by omega) (by omega), z70 9 (by omega) (by omega) (by omega) (by omega)]
    · rw [n8, z70 8 (by omega) (by omega) (by omega) (by omega)]; exact ⟨rfl, by omega⟩
    · rw [n9, z70 9 (by omega) (by omega) (by omega) (by omega)]; exact ⟨rfl, by omega⟩
    · rw [z 72 s (by omega) (by omega) (by omega) (by omega)]; decide
  have hlb : pLb M := by
    refine ⟨⟨?_, ?_, ?_, ?_, ?_, ?_, ?_, fun i hi => by omega, fun i hi => by omega, fun i hi => by omega, fun i hi => by omega, fun i hi => by omega, fun i hi => by omega, fun i j hi => by omega⟩, ⟨?_, fun b hb => by omega, fun b hb => by omega, fun b hb => by omega, fun b hb => by omega, fun b hb => by omega, fun b i hb => by omega, fun b t hb => by omega, ?_, ?_, ?_, ?_, ?_, ?_⟩⟩
    · rw [z31 7 (by omega) (by omega) (by omega), z70 17 (by omega) (by omega) (by omega) (by omega)]
    · rw [v1, v5]
    · rw [v2, v6]
    · rw [z31 10 (by omega) (by omega) (by omega), z70 20 (by omega) (by omega) (by omega) (by omega)]
    · rw [z31 11 (by omega) (by omega) (by omega), z70 21 (by omega) (by omega) (by omega) (by omega)]
    · rw [z31 12 (by omega) (by omega) (by omega), z70 22 (by omega) (by omega) (by omega) (by omega)]
    · rw [v3, v7]
    · rw [nb, z70 17 (by omega) (by omega) (by omega) (by omega)]; exact ⟨rfl, by omega⟩
    · rw [v5]; decide
    · rw [v6]; decide
    · rw [z70 20 (by omega) (by omega) (by omega) (by omega)]; decide
    · rw [z70 21 (by omega) (by omega) (by omega) (by omega)]; decide
    · rw [z70 22 (by omega) (by omega) (by omega) (by omega)]; decide
    · rw [v7]; decide
  sorry
end T99d
