abbrev am_sh0 : List (Nat × Nat × Nat) := [(0, 0, 11), (1, 1, 3), (2, 0, 10), (3, 1, 500), (4, 1, 501), (5, 1, 501), (6, 1, 501), (7, 0, 6), (8, 1, 6), (9, 0, 7), (10, 1, 500), (11, 1, 6), (12, 1, 6), (13, 1, 4), (14, 1, 4), (15, 1, 64), (16, 0, 7), (17, 1, 500), (18, 1, 6), (19, 1, 6), (20, 1, 4), (21, 1, 4), (22, 1, 64), (23, 0, 8), (24, 1, 5), (25, 1, 12), (26, 1, 12), (27, 1, 12), (28, 1, 12), (29, 1, 32), (30, 1, 4), (31, 0, 3), (32, 1, 16), (33, 1, 16), (34, 1, 16), (35, 1, 16), (36, 3, 16), (37, 1, 1024), (38, 1, 128), (39, 0, 3), (40, 1, 16), (41, 1, 16), (42, 1, 16), (43, 1, 16), (44, 3, 16), (45, 1, 1024), (46, 1, 128), (47, 7, 3), (48, 0, 9), (49, 1, 12), (50, 1, 8), (51, 0, 4), (52, 1, 12), (53, 1, 8), (54, 0, 5), (55, 1, 16), (56, 1, 16), (57, 1, 256), (58, 1, 256), (59, 1, 256), (60, 1, 16), (61, 0, 2), (62, 0, 1), (63, 3, 12), (64, 1, 4), (65, 1, 5), (66, 1, 30), (67, 1, 30), (68, 1, 4), (69, 0, 0), (70, 0, 12), (71, 1, 3), (72, 1, 5), (73, 1, 12), (74, 1, 12), (75, 1, 12), (76, 1, 12), (77, 1, 4), (78, 1, 32), (79, 1, 16), (80, 1, 16), (81, 1, 16), (82, 1, 16), (83, 1, 16), (84, 1, 128), (85, 1, 1024), (86, 2, 500), (87, 6, 2), (88, 1, 520), (89, 1, 520), (90, 6, 2), (91, 1, 10), (92, 1, 10), (93, 6, 2), (94, 1, 10), (95, 1, 10), (96, 4, 6), (97, 1, 2), (98, 1, 2), (99, 1, 2), (100, 1, 520), (101, 1, 12), (102, 5, 4), (103, 5, 12), (104, 1, 8), (105, 1, 8), (106, 1, 16), (107, 1, 16), (108, 1, 65536), (109, 1, 128), (110, 1, 1024), (111, 1, 6), (112, 1, 8), (113, 1, 6), (114, 6, 3), (115, 1, 1400), (116, 1, 1400), (117, 1, 1400), (118, 3, 3)]
abbrev am_p0 : List (Nat × Nat × Nat) := [(0, 0, 1), (0, 1, 2), (0, 2, 7), (0, 3, 16), (0, 4, 23), (0, 5, 31), (0, 6, 39), (0, 7, 47), (0, 8, 48), (0, 9, 51), (0, 10, 54), (0, 11, 61), (0, 12, 62), (0, 13, 69), (2, 0, 3), (2, 1, 4), (2, 2, 5), (2, 3, 6), (7, 0, 2), (7, 1, 8), (7, 3, 9), (9, 0, 10), (9, 1, 11), (9, 2, 12), (9, 3, 13), (9, 4, 14), (9, 5, 15), (16, 0, 17), (16, 1, 18), (16, 2, 19), (16, 3, 20), (16, 4, 21), (16, 5, 22), (23, 0, 24), (23, 1, 25), (23, 2, 26), (23, 3, 27), (23, 4, 28), (23, 5, 29), (23, 6, 30), (31, 0, 32), (31, 1, 33), (31, 2, 34), (31, 3, 35), (31, 4, 36), (31, 5, 37), (31, 6, 38), (39, 0, 40), (39, 1, 41), (39, 2, 42), (39, 3, 43), (39, 4, 44), (39, 5, 45), (39, 6, 46), (48, 0, 23), (48, 1, 31), (48, 2, 16), (48, 3, 49), (48, 5, 50), (51, 0, 23), (51, 1, 31), (51, 2, 16), (51, 3, 52), (51, 4, 53), (54, 0, 31), (54, 1, 51), (54, 2, 55), (54, 3, 56), (54, 4, 57), (54, 5, 58), (54, 6, 59), (54, 7, 60), (61, 0, 31), (61, 1, 54), (62, 0, 23), (62, 1, 16), (62, 2, 48), (62, 3, 63), (62, 4, 64), (62, 5, 65), (62, 6, 66), (62, 7, 67), (62, 12, 68), (70, 0, 71), (70, 1, 72), (70, 2, 73), (70, 3, 74), (70, 4, 75), (70, 5, 76), (70, 6, 77), (70, 7, 78), (70, 10, 79), (70, 11, 80), (70, 12, 81), (70, 13, 82), (70, 14, 83), (70, 15, 84), (70, 16, 85), (70, 24, 86), (70, 29, 87), (70, 30, 90), (70, 31, 93), (70, 32, 96), (70, 33, 97), (70, 34, 98), (70, 35, 99), (70, 36, 100), (70, 37, 101), (70, 38, 102), (70, 39, 103), (70, 41, 104), (70, 42, 105), (70, 44, 106), (70, 45, 107), (70, 46, 108), (70, 53, 109), (70, 54, 110), (70, 55, 111), (70, 56, 112), (70, 59, 113), (70, 61, 114), (70, 62, 118), (87, 0, 88), (87, 1, 89), (90, 0, 91), (90, 1, 92), (93, 0, 94), (93, 1, 95), (102, 0, 11), (102, 1, 12), (102, 2, 13), (102, 3, 14), (103, 0, 15), (103, 1, 16), (103, 2, 17), (103, 3, 18), (103, 4, 19), (103, 5, 20), (103, 6, 21), (103, 7, 22), (103, 8, 23), (103, 9, 24), (103, 10, 25), (103, 11, 26), (114, 0, 115), (114, 1, 116), (114, 2, 117)]
/-- what the constructors made stands -/
def am_env (S : am_S) : Prop := 119 ≤ S.1 ∧ (∀ z ∈ am_sh0, S.2.1 z.1 = z.2) ∧ ∀ z ∈ am_p0, S.2.2 z.1 z.2.1 = some z.2.2
theorem e_s_0 {S : am_S} (h : am_env S) : S.2.1 0 = (0, 11) := h.2.1 _ (List.mem_of_getElem? (i := 0) rfl)
theorem e_i_0 {S : am_S} (h : am_env S) : am_is S 0 0 11 = True := eq_true ⟨Nat.lt_of_lt_of_le (by decide) h.1, e_s_0 h⟩
theorem e_l_0 {S : am_S} (h : am_env S) : (0 < S.1) = True := eq_true (Nat.lt_of_lt_of_le (by decide) h.1)
theorem e_s_1 {S : am_S} (h : am_env S) : S.2.1 1 = (1, 3) := h.2.1 _ (List.mem_of_getElem? (i := 1) rfl)
theorem e_i_1 {S : am_S} (h : am_env S) : am_ia S 1 1 = True := eq_true ⟨Nat.lt_of_lt_of_le (by decide) h.1, by rw [e_s_1 h]⟩
theorem e_l_1 {S : am_S} (h : am_env S) : (1 < S.1) = True := eq_true (Nat.lt_of_lt_of_le (by decide) h.1)
theorem e_s_2 {S : am_S} (h : am_env S) : S.2.1 2 = (0, 10) := h.2.1 _ (List.mem_of_getElem? (i := 2) rfl)
theorem e_i_2 {S : am_S} (h : am_env S) : am_is S 2 0 10 = True := eq_true ⟨Nat.lt_of_lt_of_le (by decide) h.1, e_s_2 h⟩
theorem e_l_2 {S : am_S} (h : am_env S) : (2 < S.1) = True := eq_true (Nat.lt_of_lt_of_le (by decide) h.1)
theorem e_s_3 {S : am_S} (h : am_env S) : S.2.1 3 = (1, 500) := h.2.1 _ (List.mem_of_getElem? (i := 3) rfl)
theorem e_i_3 {S : am_S} (h : am_env S) : am_ia S 3 1 = True := eq_true ⟨Nat.lt_of_lt_of_le (by decide) h.1, by rw [e_s_3 h]⟩
theorem e_l_3 {S : am_S} (h : am_env S) : (3 < S.1) = True := eq_true (Nat.lt_of_lt_of_le (by decide) h.1)
theorem e_s_4 {S : am_S} (h : am_env S) : S.2.1 4 = (1, 501) := h.2.1 _ (List.mem_of_getElem? (i := 4) rfl)
theorem e_i_4 {S : am_S} (h : am_env S) : am_ia S 4 1 = True := eq_true ⟨Nat.lt_of_lt_of_le (by decide) h.1, by rw [e_s_4 h]⟩
theorem e_l_4 {S : am_S} (h : am_env S) : (4 < S.1) = True := eq_true (Nat.lt_of_lt_of_le (by decide) h.1)
theorem e_s_5 {S : am_S} (h : am_env S) : S.2.1 5 = (1, 501) := h.2.1 _ (List.mem_of_getElem? (i := 5) rfl)
theorem e_i_5 {S : am_S} (h : am_env S) : am_ia S 5 1 = True := eq_true ⟨Nat.lt_of_lt_of_le (by decide) h.1, by rw [e_s_5 h]⟩
theorem e_l_5 {S : am_S} (h : am_env S) : (5 < S.1) = True := eq_true (Nat.lt_of_lt_of_le (by decide) h.1)
theorem e_s_6 {S : am_S} (h : am_env S) : S.2.1 6 = (1, 501) := h.2.1 _ (List.mem_of_getElem? (i := 6) rfl)
theorem e_i_6 {S : am_S} (h : am_env S) : am_ia S 6 1 = True := eq_true ⟨Nat.lt_of_lt_of_le (by decide) h.1, by rw [e_s_6 h]⟩
theorem e_l_6 {S : am_S} (h : am_env S) : (6 < S.1) = True := eq_true (Nat.lt_of_lt_of_le (by decide) h.1)
theorem e_s_7 {S : am_S} (h : am_env S) : S.2.1 7 = (0, 6) := h.2.1 _ (List.mem_of_getElem? (i := 7) rfl)
theorem e_i_7 {S : am_S} (h : am_env S) : am_is S 7 0 6 = True := eq_true ⟨Nat.lt_of_lt_of_le (by decide) h.1, e_s_7 h⟩
theorem e_l_7 {S : am_S} (h : am_env S) : (7 < S.1) = True := eq_true (Nat.lt_of_lt_of_le (by decide) h.1)
theorem e_s_8 {S : am_S} (h : am_env S) : S.2.1 8 = (1, 6) := h.2.1 _ (List.mem_of_getElem? (i := 8) rfl)
theorem e_i_8 {S : am_S} (h : am_env S) : am_ia S 8 1 = True := eq_true ⟨Nat.lt_of_lt_of_le (by decide) h.1, by rw [e_s_8 h]⟩
theorem e_l_8 {S : am_S} (h : am_env S) : (8 < S.1) = True := eq_true (Nat.lt_of_lt_of_le (by decide) h.1)
theorem e_s_9 {S : am_S} (h : am_env S) : S.2.1 9 = (0, 7) := h.2.1 _ (List.mem_of_getElem? (i := 9) rfl)
theorem e_i_9 {S : am_S} (h : am_env S) : am_is S 9 0 7 = True := eq_true ⟨Nat.lt_of_lt_of_le (by decide) h.1, e_s_9 h⟩
theorem e_l_9 {S : am_S} (h : am_env S) : (9 < S.1) = True := eq_true (Nat.lt_of_lt_of_le (by decide) h.1)
theorem e_s_10 {S : am_S} (h : am_env S) : S.2.1 10 = (1, 500) := h.2.1 _ (List.mem_of_getElem? (i := 10) rfl)
theorem e_i_10 {S : am_S} (h : am_env S) : am_ia S 10 1 = True := eq_true ⟨Nat.lt_of_lt_of_le (by decide) h.1, by rw [e_s_10 h]⟩
theorem e_l_10 {S : am_S} (h : am_env S) : (10 < S.1) = True := eq_true (Nat.lt_of_lt_of_le (by decide) h.1)
theorem e_s_11 {S : am_S} (h : am_env S) : S.2.1 11 = (1, 6) := h.2.1 _ (List.mem_of_getElem? (i := 11) rfl)
theorem e_i_11 {S : am_S} (h : am_env S) : am_ia S 11 1 = True := eq_true ⟨Nat.lt_of_lt_of_le (by decide) h.1, by rw [e_s_11 h]⟩
theorem e_l_11 {S : am_S} (h : am_env S) : (11 < S.1) = True := eq_true (Nat.lt_of_lt_of_le (by decide) h.1)
theorem e_s_12 {S : am_S} (h : am_env S) : S.2.1 12 = (1, 6) := h.2.1 _ (List.mem_of_getElem? (i := 12) rfl)
theorem e_i_12 {S : am_S} (h : am_env S) : am_ia S 12 1 = True := eq_true ⟨Nat.lt_of_lt_of_le (by decide) h.1, by rw [e_s_12 h]⟩
theorem e_l_12 {S : am_S} (h : am_env S) : (12 < S.1) = True := eq_true (Nat.lt_of_lt_of_le (by decide) h.1)
theorem e_s_13 {S : am_S} (h : am_env S) : S.2.1 13 = (1, 4) := h.2.1 _ (List.mem_of_getElem? (i := 13) rfl)
theorem e_i_13 {S : am_S} (h : am_env S) : am_ia S 13 1 = True := eq_true ⟨Nat.lt_of_lt_of_le (by decide) h.1, by rw [e_s_13 h]⟩
theorem e_l_13 {S : am_S} (h : am_env S) : (13 < S.1) = True := eq_true (Nat.lt_of_lt_of_le (by decide) h.1)
theorem e_s_14 {S : am_S} (h : am_env S) : S.2.1 14 = (1, 4) := h.2.1 _ (List.mem_of_getElem? (i := 14) rfl)
theorem e_i_14 {S : am_S} (h : am_env S) : am_ia S 14 1 = True := eq_true ⟨Nat.lt_of_lt_of_le (by decide) h.1, by rw [e_s_14 h]⟩
theorem e_l_14 {S : am_S} (h : am_env S) : (14 < S.1) = True := eq_true (Nat.lt_of_lt_of_le (by decide) h.1)
theorem e_s_15 {S : am_S} (h : am_env S) : S.2.1 15 = (1, 64) := h.2.1 _ (List.mem_of_getElem? (i := 15) rfl)
theorem e_i_15 {S : am_S} (h : am_env S) : am_ia S 15 1 = True := eq_true ⟨Nat.lt_of_lt_of_le (by decide) h.1, by rw [e_s_15 h]⟩
theorem e_l_15 {S : am_S} (h : am_env S) : (15 < S.1) = True := eq_true (Nat.lt_of_lt_of_le (by decide) h.1)
theorem e_s_16 {S : am_S} (h : am_env S) : S.2.1 16 = (0, 7) := h.2.1 _ (List.mem_of_getElem? (i := 16) rfl)
theorem e_i_16 {S : am_S} (h : am_env S) : am_is S 16 0 7 = True := eq_true ⟨Nat.lt_of_lt_of_le (by decide) h.1, e_s_16 h⟩
theorem e_l_16 {S : am_S} (h : am_env S) : (16 < S.1) = True := eq_true (Nat.lt_of_lt_of_le (by decide) h.1)
theorem e_s_17 {S : am_S} (h : am_env S) : S.2.1 17 = (1, 500) := h.2.1 _ (List.mem_of_getElem? (i := 17) rfl)
theorem e_i_17 {S : am_S} (h : am_env S) : am_ia S 17 1 = True := eq_true ⟨Nat.lt_of_lt_of_le (by decide) h.1, by rw [e_s_17 h]⟩
theorem e_l_17 {S : am_S} (h : am_env S) : (17 < S.1) = True := eq_true (Nat.lt_of_lt_of_le (by decide) h.1)
theorem e_s_18 {S : am_S} (h : am_env S) : S.2.1 18 = (1, 6) := h.2.1 _ (List.mem_of_getElem? (i := 18) rfl)
theorem e_i_18 {S : am_S} (h : am_env S) : am_ia S 18 1 = True := eq_true ⟨Nat.lt_of_lt_of_le (by decide) h.1, by rw [e_s_18 h]⟩
theorem e_l_18 {S : am_S} (h : am_env S) : (18 < S.1) = True := eq_true (Nat.lt_of_lt_of_le (by decide) h.1)
theorem e_s_19 {S : am_S} (h : am_env S) : S.2.1 19 = (1, 6) := h.2.1 _ (List.mem_of_getElem? (i := 19) rfl)
theorem e_i_19 {S : am_S} (h : am_env S) : am_ia S 19 1 = True := eq_true ⟨Nat.lt_of_lt_of_le (by decide) h.1, by rw [e_s_19 h]⟩
theorem e_l_19 {S : am_S} (h : am_env S) : (19 < S.1) = True := eq_true (Nat.lt_of_lt_of_le (by decide) h.1)
theorem e_s_20 {S : am_S} (h : am_env S) : S.2.1 20 = (1, 4) := h.2.1 _ (List.mem_of_getElem? (i := 20) rfl)
theorem e_i_20 {S : am_S} (h : am_env S) : am_ia S 20 1 = True := eq_true ⟨Nat.lt_of_lt_of_le (by decide) h.1, by rw [e_s_20 h]⟩
theorem e_l_20 {S : am_S} (h : am_env S) : (20 < S.1) = True := eq_true (Nat.lt_of_lt_of_le (by decide) h.1)
theorem e_s_21 {S : am_S} (h : am_env S) : S.2.1 21 = (1, 4) := h.2.1 _ (List.mem_of_getElem? (i := 21) rfl)
theorem e_i_21 {S : am_S} (h : am_env S) : am_ia S 21 1 = True := eq_true ⟨Nat.lt_of_lt_of_le (by decide) h.1, by rw [e_s_21 h]⟩
theorem e_l_21 {S : am_S} (h : am_env S) : (21 < S.1) = True := eq_true (Nat.lt_of_lt_of_le (by decide) h.1)
theorem e_s_22 {S : am_S} (h : am_env S) : S.2.1 22 = (1, 64) := h.2.1 _ (List.mem_of_getElem? (i := 22) rfl)
theorem e_i_22 {S : am_S} (h : am_env S) : am_ia S 22 1 = True := eq_true ⟨Nat.lt_of_lt_of_le (by decide) h.1, by rw [e_s_22 h]⟩
theorem e_l_22 {S : am_S} (h : am_env S) : (22 < S.1) = True := eq_true (Nat.lt_of_lt_of_le (by decide) h.1)
theorem e_s_23 {S : am_S} (h : am_env S) : S.2.1 23 = (0, 8) := h.2.1 _ (List.mem_of_getElem? (i := 23) rfl)
theorem e_i_23 {S : am_S} (h : am_env S) : am_is S 23 0 8 = True := eq_true ⟨Nat.lt_of_lt_of_le (by decide) h.1, e_s_23 h⟩
theorem e_l_23 {S : am_S} (h : am_env S) : (23 < S.1) = True := eq_true (Nat.lt_of_lt_of_le (by decide) h.1)
theorem e_s_24 {S : am_S} (h : am_env S) : S.2.1 24 = (1, 5) := h.2.1 _ (List.mem_of_getElem? (i := 24) rfl)
theorem e_i_24 {S : am_S} (h : am_env S) : am_ia S 24 1 = True := eq_true ⟨Nat.lt_of_lt_of_le (by decide) h.1, by rw [e_s_24 h]⟩
theorem e_l_24 {S : am_S} (h : am_env S) : (24 < S.1) = True := eq_true (Nat.lt_of_lt_of_le (by decide) h.1)
theorem e_s_25 {S : am_S} (h : am_env S) : S.2.1 25 = (1, 12) := h.2.1 _ (List.mem_of_getElem? (i := 25) rfl)
theorem e_i_25 {S : am_S} (h : am_env S) : am_ia S 25 1 = True := eq_true ⟨Nat.lt_of_lt_of_le (by decide) h.1, by rw [e_s_25 h]⟩
theorem e_l_25 {S : am_S} (h : am_env S) : (25 < S.1) = True := eq_true (Nat.lt_of_lt_of_le (by decide) h.1)
theorem e_s_26 {S : am_S} (h : am_env S) : S.2.1 26 = (1, 12) := h.2.1 _ (List.mem_of_getElem? (i := 26) rfl)
theorem e_i_26 {S : am_S} (h : am_env S) : am_ia S 26 1 = True := eq_true ⟨Nat.lt_of_lt_of_le (by decide) h.1, by rw [e_s_26 h]⟩
theorem e_l_26 {S : am_S} (h : am_env S) : (26 < S.1) = True := eq_true (Nat.lt_of_lt_of_le (by decide) h.1)
theorem e_s_27 {S : am_S} (h : am_env S) : S.2.1 27 = (1, 12) := h.2.1 _ (List.mem_of_getElem? (i := 27) rfl)
theorem e_i_27 {S : am_S} (h : am_env S) : am_ia S 27 1 = True := eq_true ⟨Nat.lt_of_lt_of_le (by decide) h.1, by rw [e_s_27 h]⟩
theorem e_l_27 {S : am_S} (h : am_env S) : (27 < S.1) = True := eq_true (Nat.lt_of_lt_of_le (by decide) h.1)
theorem e_s_28 {S : am_S} (h : am_env S) : S.2.1 28 = (1, 12) := h.2.1 _ (List.mem_of_getElem? (i := 28) rfl)
theorem e_i_28 {S : am_S} (h : am_env S) : am_ia S 28 1 = True := eq_true ⟨Nat.lt_of_lt_of_le (by decide) h.1, by rw [e_s_28 h]⟩
theorem e_l_28 {S : am_S} (h : am_env S) : (28 < S.1) = True := eq_true (Nat.lt_of_lt_of_le (by decide) h.1)
theorem e_s_29 {S : am_S} (h : am_env S) : S.2.1 29 = (1, 32) := h.2.1 _ (List.mem_of_getElem? (i := 29) rfl)
theorem e_i_29 {S : am_S} (h : am_env S) : am_ia S 29 1 = True := eq_true ⟨Nat.lt_of_lt_of_le (by decide) h.1, by rw [e_s_29 h]⟩
theorem e_l_29 {S : am_S} (h : am_env S) : (29 < S.1) = True := eq_true (Nat.lt_of_lt_of_le (by decide) h.1)
theorem e_s_30 {S : am_S} (h : am_env S) : S.2.1 30 = (1, 4) := h.2.1 _ (List.mem_of_getElem? (i := 30) rfl)
theorem e_i_30 {S : am_S} (h : am_env S) : am_ia S 30 1 = True := eq_true ⟨Nat.lt_of_lt_of_le (by decide) h.1, by rw [e_s_30 h]⟩
theorem e_l_30 {S : am_S} (h : am_env S) : (30 < S.1) = True := eq_true (Nat.lt_of_lt_of_le (by decide) h.1)
theorem e_s_31 {S : am_S} (h : am_env S) : S.2.1 31 = (0, 3) := h.2.1 _ (List.mem_of_getElem? (i := 31) rfl)
theorem e_i_31 {S : am_S} (h : am_env S) : am_is S 31 0 3 = True := eq_true ⟨Nat.lt_of_lt_of_le (by decide) h.1, e_s_31 h⟩
theorem e_l_31 {S : am_S} (h : am_env S) : (31 < S.1) = True := eq_true (Nat.lt_of_lt_of_le (by decide) h.1)
theorem e_s_32 {S : am_S} (h : am_env S) : S.2.1 32 = (1, 16) := h.2.1 _ (List.mem_of_getElem? (i := 32) rfl)
theorem e_i_32 {S : am_S} (h : am_env S) : am_ia S 32 1 = True := eq_true ⟨Nat.lt_of_lt_of_le (by decide) h.1, by rw [e_s_32 h]⟩
theorem e_l_32 {S : am_S} (h : am_env S) : (32 < S.1) = True := eq_true (Nat.lt_of_lt_of_le (by decide) h.1)
theorem e_s_33 {S : am_S} (h : am_env S) : S.2.1 33 = (1, 16) := h.2.1 _ (List.mem_of_getElem? (i := 33) rfl)
theorem e_i_33 {S : am_S} (h : am_env S) : am_ia S 33 1 = True := eq_true ⟨Nat.lt_of_lt_of_le (by decide) h.1, by rw [e_s_33 h]⟩
theorem e_l_33 {S : am_S} (h : am_env S) : (33 < S.1) = True := eq_true (Nat.lt_of_lt_of_le (by decide) h.1)
theorem e_s_34 {S : am_S} (h : am_env S) : S.2.1 34 = (1, 16) := h.2.1 _ (List.mem_of_getElem? (i := 34) rfl)
theorem e_i_34 {S : am_S} (h : am_env S) : am_ia S 34 1 = True := eq_true ⟨Nat.lt_of_lt_of_le (by decide) h.1, by rw [e_s_34 h]⟩
theorem e_l_34 {S : am_S} (h : am_env S) : (34 < S.1) = True := eq_true (Nat.lt_of_lt_of_le (by decide) h.1)
theorem e_s_35 {S : am_S} (h : am_env S) : S.2.1 35 = (1, 16) := h.2.1 _ (List.mem_of_getElem? (i := 35) rfl)
theorem e_i_35 {S : am_S} (h : am_env S) : am_ia S 35 1 = True := eq_true ⟨Nat.lt_of_lt_of_le (by decide) h.1, by rw [e_s_35 h]⟩
theorem e_l_35 {S : am_S} (h : am_env S) : (35 < S.1) = True := eq_true (Nat.lt_of_lt_of_le (by decide) h.1)
theorem e_s_36 {S : am_S} (h : am_env S) : S.2.1 36 = (3, 16) := h.2.1 _ (List.mem_of_getElem? (i := 36) rfl)
theorem e_i_36 {S : am_S} (h : am_env S) : am_ia S 36 3 = True := eq_true ⟨Nat.lt_of_lt_of_le (by decide) h.1, by rw [e_s_36 h]⟩
theorem e_l_36 {S : am_S} (h : am_env S) : (36 < S.1) = True := eq_true (Nat.lt_of_lt_of_le (by decide) h.1)
theorem e_s_37 {S : am_S} (h : am_env S) : S.2.1 37 = (1, 1024) := h.2.1 _ (List.mem_of_getElem? (i := 37) rfl)
theorem e_i_37 {S : am_S} (h : am_env S) : am_ia S 37 1 = True := eq_true ⟨Nat.lt_of_lt_of_le (by decide) h.1, by rw [e_s_37 h]⟩
theorem e_l_37 {S : am_S} (h : am_env S) : (37 < S.1) = True := eq_true (Nat.lt_of_lt_of_le (by decide) h.1)
theorem e_s_38 {S : am_S} (h : am_env S) : S.2.1 38 = (1, 128) := h.2.1 _ (List.mem_of_getElem? (i := 38) rfl)
theorem e_i_38 {S : am_S} (h : am_env S) : am_ia S 38 1 = True := eq_true ⟨Nat.lt_of_lt_of_le (by decide) h.1, by rw [e_s_38 h]⟩
theorem e_l_38 {S : am_S} (h : am_env S) : (38 < S.1) = True := eq_true (Nat.lt_of_lt_of_le (by decide) h.1)
theorem e_s_39 {S : am_S} (h : am_env S) : S.2.1 39 = (0, 3) := h.2.1 _ (List.mem_of_getElem? (i := 39) rfl)
theorem e_i_39 {S : am_S} (h : am_env S) : am_is S 39 0 3 = True := eq_true ⟨Nat.lt_of_lt_of_le (by decide) h.1, e_s_39 h⟩
theorem e_l_39 {S : am_S} (h : am_env S) : (39 < S.1) = True := eq_true (Nat.lt_of_lt_of_le (by decide) h.1)
theorem e_s_40 {S : am_S} (h : am_env S) : S.2.1 40 = (1, 16) := h.2.1 _ (List.mem_of_getElem? (i := 40) rfl)
theorem e_i_40 {S : am_S} (h : am_env S) : am_ia S 40 1 = True := eq_true ⟨Nat.lt_of_lt_of_le (by decide) h.1, by rw [e_s_40 h]⟩
theorem e_l_40 {S : am_S} (h : am_env S) : (40 < S.1) = True := eq_true (Nat.lt_of_lt_of_le (by decide) h.1)
theorem e_s_41 {S : am_S} (h : am_env S) : S.2.1 41 = (1, 16) := h.2.1 _ (List.mem_of_getElem? (i := 41) rfl)
theorem e_i_41 {S : am_S} (h : am_env S) : am_ia S 41 1 = True := eq_true ⟨Nat.lt_of_lt_of_le (by decide) h.1, by rw [e_s_41 h]⟩
theorem e_l_41 {S : am_S} (h : am_env S) : (41 < S.1) = True := eq_true (Nat.lt_of_lt_of_le (by decide) h.1)
theorem e_s_42 {S : am_S} (h : am_env S) : S.2.1 42 = (1, 16) := h.2.1 _ (List.mem_of_getElem? (i := 42) rfl)
theorem e_i_42 {S : am_S} (h : am_env S) : am_ia S 42 1 = True := eq_true ⟨Nat.lt_of_lt_of_le (by decide) h.1, by rw [e_s_42 h]⟩
theorem e_l_42 {S : am_S} (h : am_env S) : (42 < S.1) = True := eq_true (Nat.lt_of_lt_of_le (by decide) h.1)
theorem e_s_43 {S : am_S} (h : am_env S) : S.2.1 43 = (1, 16) := h.2.1 _ (List.mem_of_getElem? (i := 43) rfl)
theorem e_i_43 {S : am_S} (h : am_env S) : am_ia S 43 1 = True := eq_true ⟨Nat.lt_of_lt_of_le (by decide) h.1, by rw [e_s_43 h]⟩
theorem e_l_43 {S : am_S} (h : am_env S) : (43 < S.1) = True := eq_true (Nat.lt_of_lt_of_le (by decide) h.1)
theorem e_s_44 {S : am_S} (h : am_env S) : S.2.1 44 = (3, 16) := h.2.1 _ (List.mem_of_getElem? (i := 44) rfl)
theorem e_i_44 {S : am_S} (h : am_env S) : am_ia S 44 3 = True := eq_true ⟨Nat.lt_of_lt_of_le (by decide) h.1, by rw [e_s_44 h]⟩
theorem e_l_44 {S : am_S} (h : am_env S) : (44 < S.1) = True := eq_true (Nat.lt_of_lt_of_le (by decide) h.1)
theorem e_s_45 {S : am_S} (h : am_env S) : S.2.1 45 = (1, 1024) := h.2.1 _ (List.mem_of_getElem? (i := 45) rfl)
theorem e_i_45 {S : am_S} (h : am_env S) : am_ia S 45 1 = True := eq_true ⟨Nat.lt_of_lt_of_le (by decide) h.1, by rw [e_s_45 h]⟩
theorem e_l_45 {S : am_S} (h : am_env S) : (45 < S.1) = True := eq_true (Nat.lt_of_lt_of_le (by decide) h.1)
theorem e_s_46 {S : am_S} (h : am_env S) : S.2.1 46 = (1, 128) := h.2.1 _ (List.mem_of_getElem? (i := 46) rfl)
theorem e_i_46 {S : am_S} (h : am_env S) : am_ia S 46 1 = True := eq_true ⟨Nat.lt_of_lt_of_le (by decide) h.1, by rw [e_s_46 h]⟩
theorem e_l_46 {S : am_S} (h : am_env S) : (46 < S.1) = True := eq_true (Nat.lt_of_lt_of_le (by decide) h.1)
theorem e_s_47 {S : am_S} (h : am_env S) : S.2.1 47 = (7, 3) := h.2.1 _ (List.mem_of_getElem? (i := 47) rfl)
theorem e_i_47 {S : am_S} (h : am_env S) : am_ia S 47 7 = True := eq_true ⟨Nat.lt_of_lt_of_le (by decide) h.1, by rw [e_s_47 h]⟩
theorem e_l_47 {S : am_S} (h : am_env S) : (47 < S.1) = True := eq_true (Nat.lt_of_lt_of_le (by decide) h.1)
theorem e_s_48 {S : am_S} (h : am_env S) : S.2.1 48 = (0, 9) := h.2.1 _ (List.mem_of_getElem? (i := 48) rfl)
theorem e_i_48 {S : am_S} (h : am_env S) : am_is S 48 0 9 = True := eq_true ⟨Nat.lt_of_lt_of_le (by decide) h.1, e_s_48 h⟩
theorem e_l_48 {S : am_S} (h : am_env S) : (48 < S.1) = True := eq_true (Nat.lt_of_lt_of_le (by decide) h.1)
theorem e_s_49 {S : am_S} (h : am_env S) : S.2.1 49 = (1, 12) := h.2.1 _ (List.mem_of_getElem? (i := 49) rfl)
theorem e_i_49 {S : am_S} (h : am_env S) : am_ia S 49 1 = True := eq_true ⟨Nat.lt_of_lt_of_le (by decide) h.1, by rw [e_s_49 h]⟩
theorem e_l_49 {S : am_S} (h : am_env S) : (49 < S.1) = True := eq_true (Nat.lt_of_lt_of_le (by decide) h.1)
theorem e_s_50 {S : am_S} (h : am_env S) : S.2.1 50 = (1, 8) := h.2.1 _ (List.mem_of_getElem? (i := 50) rfl)
theorem e_i_50 {S : am_S} (h : am_env S) : am_ia S 50 1 = True := eq_true ⟨Nat.lt_of_lt_of_le (by decide) h.1, by rw [e_s_50 h]⟩
theorem e_l_50 {S : am_S} (h : am_env S) : (50 < S.1) = True := eq_true (Nat.lt_of_lt_of_le (by decide) h.1)
theorem e_s_51 {S : am_S} (h : am_env S) : S.2.1 51 = (0, 4) := h.2.1 _ (List.mem_of_getElem? (i := 51) rfl)
theorem e_i_51 {S : am_S} (h : am_env S) : am_is S 51 0 4 = True := eq_true ⟨Nat.lt_of_lt_of_le (by decide) h.1, e_s_51 h⟩
theorem e_l_51 {S : am_S} (h : am_env S) : (51 < S.1) = True := eq_true (Nat.lt_of_lt_of_le (by decide) h.1)
theorem e_s_52 {S : am_S} (h : am_env S) : S.2.1 52 = (1, 12) := h.2.1 _ (List.mem_of_getElem? (i := 52) rfl)
theorem e_i_52 {S : am_S} (h : am_env S) : am_ia S 52 1 = True := eq_true ⟨Nat.lt_of_lt_of_le (by decide) h.1, by rw [e_s_52 h]⟩
theorem e_l_52 {S : am_S} (h : am_env S) : (52 < S.1) = True := eq_true (Nat.lt_of_lt_of_le (by decide) h.1)
theorem e_s_53 {S : am_S} (h : am_env S) : S.2.1 53 = (1, 8) := h.2.1 _ (List.mem_of_getElem? (i := 53) rfl)
theorem e_i_53 {S : am_S} (h : am_env S) : am_ia S 53 1 = True := eq_true ⟨Nat.lt_of_lt_of_le (by decide) h.1, by rw [e_s_53 h]⟩
theorem e_l_53 {S : am_S} (h : am_env S) : (53 < S.1) = True := eq_true (Nat.lt_of_lt_of_le (by decide) h.1)
theorem e_s_54 {S : am_S} (h : am_env S) : S.2.1 54 = (0, 5) := h.2.1 _ (List.mem_of_getElem? (i := 54) rfl)
theorem e_i_54 {S : am_S} (h : am_env S) : am_is S 54 0 5 = True := eq_true ⟨Nat.lt_of_lt_of_le (by decide) h.1, e_s_54 h⟩
theorem e_l_54 {S : am_S} (h : am_env S) : (54 < S.1) = True := eq_true (Nat.lt_of_lt_of_le (by decide) h.1)
theorem e_s_55 {S : am_S} (h : am_env S) : S.2.1 55 = (1, 16) := h.2.1 _ (List.mem_of_getElem? (i := 55) rfl)
theorem e_i_55 {S : am_S} (h : am_env S) : am_ia S 55 1 = True := eq_true ⟨Nat.lt_of_lt_of_le (by decide) h.1, by rw [e_s_55 h]⟩
theorem e_l_55 {S : am_S} (h : am_env S) : (55 < S.1) = True := eq_true (Nat.lt_of_lt_of_le (by decide) h.1)
theorem e_s_56 {S : am_S} (h : am_env S) : S.2.1 56 = (1, 16) := h.2.1 _ (List.mem_of_getElem? (i := 56) rfl)
theorem e_i_56 {S : am_S} (h : am_env S) : am_ia S 56 1 = True := eq_true ⟨Nat.lt_of_lt_of_le (by decide) h.1, by rw [e_s_56 h]⟩
theorem e_l_56 {S : am_S} (h : am_env S) : (56 < S.1) = True := eq_true (Nat.lt_of_lt_of_le (by decide) h.1)
theorem e_s_57 {S : am_S} (h : am_env S) : S.2.1 57 = (1, 256) := h.2.1 _ (List.mem_of_getElem? (i := 57) rfl)
theorem e_i_57 {S : am_S} (h : am_env S) : am_ia S 57 1 = True := eq_true ⟨Nat.lt_of_lt_of_le (by decide) h.1, by rw [e_s_57 h]⟩
theorem e_l_57 {S : am_S} (h : am_env S) : (57 < S.1) = True := eq_true (Nat.lt_of_lt_of_le (by decide) h.1)
theorem e_s_58 {S : am_S} (h : am_env S) : S.2.1 58 = (1, 256) := h.2.1 _ (List.mem_of_getElem? (i := 58) rfl)
theorem e_i_58 {S : am_S} (h : am_env S) : am_ia S 58 1 = True := eq_true ⟨Nat.lt_of_lt_of_le (by decide) h.1, by rw [e_s_58 h]⟩
theorem e_l_58 {S : am_S} (h : am_env S) : (58 < S.1) = True := eq_true (Nat.lt_of_lt_of_le (by decide) h.1)
theorem e_s_59 {S : am_S} (h : am_env S) : S.2.1 59 = (1, 256) := h.2.1 _ (List.mem_of_getElem? (i := 59) rfl)
theorem e_i_59 {S : am_S} (h : am_env S) : am_ia S 59 1 = True := eq_true ⟨Nat.lt_of_lt_of_le (by decide) h.1, by rw [e_s_59 h]⟩
theorem e_l_59 {S : am_S} (h : am_env S) : (59 < S.1) = True := eq_true (Nat.lt_of_lt_of_le (by decide) h.1)
theorem e_s_60 {S : am_S} (h : am_env S) : S.2.1 60 = (1, 16) := h.2.1 _ (List.mem_of_getElem? (i := 60) rfl)
theorem e_i_60 {S : am_S} (h : am_env S) : am_ia S 60 1 = True := eq_true ⟨Nat.lt_of_lt_of_le (by decide) h.1, by rw [e_s_60 h]⟩
theorem e_l_60 {S : am_S} (h : am_env S) : (60 < S.1) = True := eq_true (Nat.lt_of_lt_of_le (by decide) h.1)
theorem e_s_61 {S : am_S} (h : am_env S) : S.2.1 61 = (0, 2) := h.2.1 _ (List.mem_of_getElem? (i := 61) rfl)
theorem e_i_61 {S : am_S} (h : am_env S) : am_is S 61 0 2 = True := eq_true ⟨Nat.lt_of_lt_of_le (by decide) h.1, e_s_61 h⟩
theorem e_l_61 {S : am_S} (h : am_env S) : (61 < S.1) = True := eq_true (Nat.lt_of_lt_of_le (by decide) h.1)
theorem e_s_62 {S : am_S} (h : am_env S) : S.2.1 62 = (0, 1) := h.2.1 _ (List.mem_of_getElem? (i := 62) rfl)
theorem e_i_62 {S : am_S} (h : am_env S) : am_is S 62 0 1 = True := eq_true ⟨Nat.lt_of_lt_of_le (by decide) h.1, e_s_62 h⟩
theorem e_l_62 {S : am_S} (h : am_env S) : (62 < S.1) = True := eq_true (Nat.lt_of_lt_of_le (by decide) h.1)
theorem e_s_63 {S : am_S} (h : am_env S) : S.2.1 63 = (3, 12) := h.2.1 _ (List.mem_of_getElem? (i := 63) rfl)
theorem e_i_63 {S : am_S} (h : am_env S) : am_ia S 63 3 = True := eq_true ⟨Nat.lt_of_lt_of_le (by decide) h.1, by rw [e_s_63 h]⟩
theorem e_l_63 {S : am_S} (h : am_env S) : (63 < S.1) = True := eq_true (Nat.lt_of_lt_of_le (by decide) h.1)
theorem e_s_64 {S : am_S} (h : am_env S) : S.2.1 64 = (1, 4) := h.2.1 _ (List.mem_of_getElem? (i := 64) rfl)
theorem e_i_64 {S : am_S} (h : am_env S) : am_ia S 64 1 = True := eq_true ⟨Nat.lt_of_lt_of_le (by decide) h.1, by rw [e_s_64 h]⟩
theorem e_l_64 {S : am_S} (h : am_env S) : (64 < S.1) = True := eq_true (Nat.lt_of_lt_of_le (by decide) h.1)
theorem e_s_65 {S : am_S} (h : am_env S) : S.2.1 65 = (1, 5) := h.2.1 _ (List.mem_of_getElem? (i := 65) rfl)
theorem e_i_65 {S : am_S} (h : am_env S) : am_ia S 65 1 = True := eq_true ⟨Nat.lt_of_lt_of_le (by decide) h.1, by rw [e_s_65 h]⟩
theorem e_l_65 {S : am_S} (h : am_env S) : (65 < S.1) = True := eq_true (Nat.lt_of_lt_of_le (by decide) h.1)
theorem e_s_66 {S : am_S} (h : am_env S) : S.2.1 66 = (1, 30) := h.2.1 _ (List.mem_of_getElem? (i := 66) rfl)
theorem e_i_66 {S : am_S} (h : am_env S) : am_ia S 66 1 = True := eq_true ⟨Nat.lt_of_lt_of_le (by decide) h.1, by rw [e_s_66 h]⟩
theorem e_l_66 {S : am_S} (h : am_env S) : (66 < S.1) = True := eq_true (Nat.lt_of_lt_of_le (by decide) h.1)
theorem e_s_67 {S : am_S} (h : am_env S) : S.2.1 67 = (1, 30) := h.2.1 _ (List.mem_of_getElem? (i := 67) rfl)
theorem e_i_67 {S : am_S} (h : am_env S) : am_ia S 67 1 = True := eq_true ⟨Nat.lt_of_lt_of_le (by decide) h.1, by rw [e_s_67 h]⟩
theorem e_l_67 {S : am_S} (h : am_env S) : (67 < S.1) = True := eq_true (Nat.lt_of_lt_of_le (by decide) h.1)
theorem e_s_68 {S : am_S} (h : am_env S) : S.2.1 68 = (1, 4) := h.2.1 _ (List.mem_of_getElem? (i := 68) rfl)
theorem e_i_68 {S : am_S} (h : am_env S) : am_ia S 68 1 = True := eq_true ⟨Nat.lt_of_lt_of_le (by decide) h.1, by rw [e_s_68 h]⟩
theorem e_l_68 {S : am_S} (h : am_env S) : (68 < S.1) = True := eq_true (Nat.lt_of_lt_of_le (by decide) h.1)
theorem e_s_69 {S : am_S} (h : am_env S) : S.2.1 69 = (0, 0) := h.2.1 _ (List.mem_of_getElem? (i := 69) rfl)
theorem e_i_69 {S : am_S} (h : am_env S) : am_is S 69 0 0 = True := eq_true ⟨Nat.lt_of_lt_of_le (by decide) h.1, e_s_69 h⟩
theorem e_l_69 {S : am_S} (h : am_env S) : (69 < S.1) = True := eq_true (Nat.lt_of_lt_of_le (by decide) h.1)
theorem e_s_70 {S : am_S} (h : am_env S) : S.2.1 70 = (0, 12) := h.2.1 _ (List.mem_of_getElem? (i := 70) rfl)
theorem e_i_70 {S : am_S} (h : am_env S) : am_is S 70 0 12 = True := eq_true ⟨Nat.lt_of_lt_of_le (by decide) h.1, e_s_70 h⟩
theorem e_l_70 {S : am_S} (h : am_env S) : (70 < S.1) = True := eq_true (Nat.lt_of_lt_of_le (by decide) h.1)
theorem e_s_71 {S : am_S} (h : am_env S) : S.2.1 71 = (1, 3) := h.2.1 _ (List.mem_of_getElem? (i := 71) rfl)
theorem e_i_71 {S : am_S} (h : am_env S) : am_ia S 71 1 = True := eq_true ⟨Nat.lt_of_lt_of_le (by decide) h.1, by rw [e_s_71 h]⟩
theorem e_l_71 {S : am_S} (h : am_env S) : (71 < S.1) = True := eq_true (Nat.lt_of_lt_of_le (by decide) h.1)
theorem e_s_72 {S : am_S} (h : am_env S) : S.2.1 72 = (1, 5) := h.2.1 _ (List.mem_of_getElem? (i := 72) rfl)
theorem e_i_72 {S : am_S} (h : am_env S) : am_ia S 72 1 = True := eq_true ⟨Nat.lt_of_lt_of_le (by decide) h.1, by rw [e_s_72 h]⟩
theorem e_l_72 {S : am_S} (h : am_env S) : (72 < S.1) = True := eq_true (Nat.lt_of_lt_of_le (by decide) h.1)
theorem e_s_73 {S : am_S} (h : am_env S) : S.2.1 73 = (1, 12) := h.2.1 _ (List.mem_of_getElem? (i := 73) rfl)
theorem e_i_73 {S : am_S} (h : am_env S) : am_ia S 73 1 = True := eq_true ⟨Nat.lt_of_lt_of_le (by decide) h.1, by rw [e_s_73 h]⟩
theorem e_l_73 {S : am_S} (h : am_env S) : (73 < S.1) = True := eq_true (Nat.lt_of_lt_of_le (by decide) h.1)
theorem e_s_74 {S : am_S} (h : am_env S) : S.2.1 74 = (1, 12) := h.2.1 _ (List.mem_of_getElem? (i := 74) rfl)
theorem e_i_74 {S : am_S} (h : am_env S) : am_ia S 74 1 = True := eq_true ⟨Nat.lt_of_lt_of_le (by decide) h.1, by rw [e_s_74 h]⟩
theorem e_l_74 {S : am_S} (h : am_env S) : (74 < S.1) = True := eq_true (Nat.lt_of_lt_of_le (by decide) h.1)
theorem e_s_75 {S : am_S} (h : am_env S) : S.2.1 75 = (1, 12) := h.2.1 _ (List.mem_of_getElem? (i := 75) rfl)
theorem e_i_75 {S : am_S} (h : am_env S) : am_ia S 75 1 = True := eq_true ⟨Nat.lt_of_lt_of_le (by decide) h.1, by rw [e_s_75 h]⟩
theorem e_l_75 {S : am_S} (h : am_env S) : (75 < S.1) = True := eq_true (Nat.lt_of_lt_of_le (by decide) h.1)
theorem e_s_76 {S : am_S} (h : am_env S) : S.2.1 76 = (1, 12) := h.2.1 _ (List.mem_of_getElem? (i := 76) rfl)
theorem e_i_76 {S : am_S} (h : am_env S) : am_ia S 76 1 = True := eq_true ⟨Nat.lt_of_lt_of_le (by decide) h.1, by rw [e_s_76 h]⟩
theorem e_l_76 {S : am_S} (h : am_env S) : (76 < S.1) = True := eq_true (Nat.lt_of_lt_of_le (by decide) h.1)
theorem e_s_77 {S : am_S} (h : am_env S) : S.2.1 77 = (1, 4) := h.2.1 _ (List.mem_of_getElem? (i := 77) rfl)
theorem e_i_77 {S : am_S} (h : am_env S) : am_ia S 77 1 = True := eq_true ⟨Nat.lt_of_lt_of_le (by decide) h.1, by rw [e_s_77 h]⟩
theorem e_l_77 {S : am_S} (h : am_env S) : (77 < S.1) = True := eq_true (Nat.lt_of_lt_of_le (by decide) h.1)
theorem e_s_78 {S : am_S} (h : am_env S) : S.2.1 78 = (1, 32) := h.2.1 _ (List.mem_of_getElem? (i := 78) rfl)
theorem e_i_78 {S : am_S} (h : am_env S) : am_ia S 78 1 = True := eq_true ⟨Nat.lt_of_lt_of_le (by decide) h.1, by rw [e_s_78 h]⟩
theorem e_l_78 {S : am_S} (h : am_env S) : (78 < S.1) = True := eq_true (Nat.lt_of_lt_of_le (by decide) h.1)
theorem e_s_79 {S : am_S} (h : am_env S) : S.2.1 79 = (1, 16) := h.2.1 _ (List.mem_of_getElem? (i := 79) rfl)
theorem e_i_79 {S : am_S} (h : am_env S) : am_ia S 79 1 = True := eq_true ⟨Nat.lt_of_lt_of_le (by decide) h.1, by rw [e_s_79 h]⟩
theorem e_l_79 {S : am_S} (h : am_env S) : (79 < S.1) = True := eq_true (Nat.lt_of_lt_of_le (by decide) h.1)
theorem e_s_80 {S : am_S} (h : am_env S) : S.2.1 80 = (1, 16) := h.2.1 _ (List.mem_of_getElem? (i := 80) rfl)
theorem e_i_80 {S : am_S} (h : am_env S) : am_ia S 80 1 = True := eq_true ⟨Nat.lt_of_lt_of_le (by decide) h.1, by rw [e_s_80 h]⟩
theorem e_l_80 {S : am_S} (h : am_env S) : (80 < S.1) = True := eq_true (Nat.lt_of_lt_of_le (by decide) h.1)
theorem e_s_81 {S : am_S} (h : am_env S) : S.2.1 81 = (1, 16) := h.2.1 _ (List.mem_of_getElem? (i := 81) rfl)
theorem e_i_81 {S : am_S} (h : am_env S) : am_ia S 81 1 = True := eq_true ⟨Nat.lt_of_lt_of_le (by decide) h.1, by rw [e_s_81 h]⟩
theorem e_l_81 {S : am_S} (h : am_env S) : (81 < S.1) = True := eq_true (Nat.lt_of_lt_of_le (by decide) h.1)
theorem e_s_82 {S : am_S} (h : am_env S) : S.2.1 82 = (1, 16) := h.2.1 _ (List.mem_of_getElem? (i := 82) rfl)
theorem e_i_82 {S : am_S} (h : am_env S) : am_ia S 82 1 = True := eq_true ⟨Nat.lt_of_lt_of_le (by decide) h.1, by rw [e_s_82 h]⟩
theorem e_l_82 {S : am_S} (h : am_env S) : (82 < S.1) = True := eq_true (Nat.lt_of_lt_of_le (by decide) h.1)
theorem e_s_83 {S : am_S} (h : am_env S) : S.2.1 83 = (1, 16) := h.2.1 _ (List.mem_of_getElem? (i := 83) rfl)
theorem e_i_83 {S : am_S} (h : am_env S) : am_ia S 83 1 = True := eq_true ⟨Nat.lt_of_lt_of_le (by decide) h.1, by rw [e_s_83 h]⟩
theorem e_l_83 {S : am_S} (h : am_env S) : (83 < S.1) = True := eq_true (Nat.lt_of_lt_of_le (by decide) h.1)
theorem e_s_84 {S : am_S} (h : am_env S) : S.2.1 84 = (1, 128) := h.2.1 _ (List.mem_of_getElem? (i := 84) rfl)
theorem e_i_84 {S : am_S} (h : am_env S) : am_ia S 84 1 = True := eq_true ⟨Nat.lt_of_lt_of_le (by decide) h.1, by rw [e_s_84 h]⟩
theorem e_l_84 {S : am_S} (h : am_env S) : (84 < S.1) = True := eq_true (Nat.lt_of_lt_of_le (by decide) h.1)
theorem e_s_85 {S : am_S} (h : am_env S) : S.2.1 85 = (1, 1024) := h.2.1 _ (List.mem_of_getElem? (i := 85) rfl)
theorem e_i_85 {S : am_S} (h : am_env S) : am_ia S 85 1 = True := eq_true ⟨Nat.lt_of_lt_of_le (by decide) h.1, by rw [e_s_85 h]⟩
theorem e_l_85 {S : am_S} (h : am_env S) : (85 < S.1) = True := eq_true (Nat.lt_of_lt_of_le (by decide) h.1)
theorem e_s_86 {S : am_S} (h : am_env S) : S.2.1 86 = (2, 500) := h.2.1 _ (List.mem_of_getElem? (i := 86) rfl)
theorem e_i_86 {S : am_S} (h : am_env S) : am_ia S 86 2 = True := eq_true ⟨Nat.lt_of_lt_of_le (by decide) h.1, by rw [e_s_86 h]⟩
theorem e_l_86 {S : am_S} (h : am_env S) : (86 < S.1) = True := eq_true (Nat.lt_of_lt_of_le (by decide) h.1)
theorem e_s_87 {S : am_S} (h : am_env S) : S.2.1 87 = (6, 2) := h.2.1 _ (List.mem_of_getElem? (i := 87) rfl)
theorem e_i_87 {S : am_S} (h : am_env S) : am_ia S 87 6 = True := eq_true ⟨Nat.lt_of_lt_of_le (by decide) h.1, by rw [e_s_87 h]⟩
theorem e_l_87 {S : am_S} (h : am_env S) : (87 < S.1) = True := eq_true (Nat.lt_of_lt_of_le (by decide) h.1)
theorem e_s_88 {S : am_S} (h : am_env S) : S.2.1 88 = (1, 520) := h.2.1 _ (List.mem_of_getElem? (i := 88) rfl)
theorem e_i_88 {S : am_S} (h : am_env S) : am_ia S 88 1 = True := eq_true ⟨Nat.lt_of_lt_of_le (by decide) h.1, by rw [e_s_88 h]⟩
theorem e_l_88 {S : am_S} (h : am_env S) : (88 < S.1) = True := eq_true (Nat.lt_of_lt_of_le (by decide) h.1)
theorem e_s_89 {S : am_S} (h : am_env S) : S.2.1 89 = (1, 520) := h.2.1 _ (List.mem_of_getElem? (i := 89) rfl)
theorem e_i_89 {S : am_S} (h : am_env S) : am_ia S 89 1 = True := eq_true ⟨Nat.lt_of_lt_of_le (by decide) h.1, by rw [e_s_89 h]⟩
theorem e_l_89 {S : am_S} (h : am_env S) : (89 < S.1) = True := eq_true (Nat.lt_of_lt_of_le (by decide) h.1)
theorem e_s_90 {S : am_S} (h : am_env S) : S.2.1 90 = (6, 2) := h.2.1 _ (List.mem_of_getElem? (i := 90) rfl)
theorem e_i_90 {S : am_S} (h : am_env S) : am_ia S 90 6 = True := eq_true ⟨Nat.lt_of_lt_of_le (by decide) h.1, by rw [e_s_90 h]⟩
theorem e_l_90 {S : am_S} (h : am_env S) : (90 < S.1) = True := eq_true (Nat.lt_of_lt_of_le (by decide) h.1)
theorem e_s_91 {S : am_S} (h : am_env S) : S.2.1 91 = (1, 10) := h.2.1 _ (List.mem_of_getElem? (i := 91) rfl)
theorem e_i_91 {S : am_S} (h : am_env S) : am_ia S 91 1 = True := eq_true ⟨Nat.lt_of_lt_of_le (by decide) h.1, by rw [e_s_91 h]⟩
theorem e_l_91 {S : am_S} (h : am_env S) : (91 < S.1) = True := eq_true (Nat.lt_of_lt_of_le (by decide) h.1)
theorem e_s_92 {S : am_S} (h : am_env S) : S.2.1 92 = (1, 10) := h.2.1 _ (List.mem_of_getElem? (i := 92) rfl)
theorem e_i_92 {S : am_S} (h : am_env S) : am_ia S 92 1 = True := eq_true ⟨Nat.lt_of_lt_of_le (by decide) h.1, by rw [e_s_92 h]⟩
theorem e_l_92 {S : am_S} (h : am_env S) : (92 < S.1) = True := eq_true (Nat.lt_of_lt_of_le (by decide) h.1)
theorem e_s_93 {S : am_S} (h : am_env S) : S.2.1 93 = (6, 2) := h.2.1 _ (List.mem_of_getElem? (i := 93) rfl)
theorem e_i_93 {S : am_S} (h : am_env S) : am_ia S 93 6 = True := eq_true ⟨Nat.lt_of_lt_of_le (by decide) h.1, by rw [e_s_93 h]⟩
theorem e_l_93 {S : am_S} (h : am_env S) : (93 < S.1) = True := eq_true (Nat.lt_of_lt_of_le (by decide) h.1)
theorem e_s_94 {S : am_S} (h : am_env S) : S.2.1 94 = (1, 10) := h.2.1 _ (List.mem_of_getElem? (i := 94) rfl)
theorem e_i_94 {S : am_S} (h : am_env S) : am_ia S 94 1 = True := eq_true ⟨Nat.lt_of_lt_of_le (by decide) h.1, by rw [e_s_94 h]⟩
theorem e_l_94 {S : am_S} (h : am_env S) : (94 < S.1) = True := eq_true (Nat.lt_of_lt_of_le (by decide) h.1)
theorem e_s_95 {S : am_S} (h : am_env S) : S.2.1 95 = (1, 10) := h.2.1 _ (List.mem_of_getElem? (i := 95) rfl)
theorem e_i_95 {S : am_S} (h : am_env S) : am_ia S 95 1 = True := eq_true ⟨Nat.lt_of_lt_of_le (by decide) h.1, by rw [e_s_95 h]⟩
theorem e_l_95 {S : am_S} (h : am_env S) : (95 < S.1) = True := eq_true (Nat.lt_of_lt_of_le (by decide) h.1)
theorem e_s_96 {S : am_S} (h : am_env S) : S.2.1 96 = (4, 6) := h.2.1 _ (List.mem_of_getElem? (i := 96) rfl)
theorem e_i_96 {S : am_S} (h : am_env S) : am_ia S 96 4 = True := eq_true ⟨Nat.lt_of_lt_of_le (by decide) h.1, by rw [e_s_96 h]⟩
theorem e_l_96 {S : am_S} (h : am_env S) : (96 < S.1) = True := eq_true (Nat.lt_of_lt_of_le (by decide) h.1)
theorem e_s_97 {S : am_S} (h : am_env S) : S.2.1 97 = (1, 2) := h.2.1 _ (List.mem_of_getElem? (i := 97) rfl)
theorem e_i_97 {S : am_S} (h : am_env S) : am_ia S 97 1 = True := eq_true ⟨Nat.lt_of_lt_of_le (by decide) h.1, by rw [e_s_97 h]⟩
theorem e_l_97 {S : am_S} (h : am_env S) : (97 < S.1) = True := eq_true (Nat.lt_of_lt_of_le (by decide) h.1)
theorem e_s_98 {S : am_S} (h : am_env S) : S.2.1 98 = (1, 2) := h.2.1 _ (List.mem_of_getElem? (i := 98) rfl)
theorem e_i_98 {S : am_S} (h : am_env S) : am_ia S 98 1 = True := eq_true ⟨Nat.lt_of_lt_of_le (by decide) h.1, by rw [e_s_98 h]⟩
theorem e_l_98 {S : am_S} (h : am_env S) : (98 < S.1) = True := eq_true (Nat.lt_of_lt_of_le (by decide) h.1)
theorem e_s_99 {S : am_S} (h : am_env S) : S.2.1 99 = (1, 2) := h.2.1 _ (List.mem_of_getElem? (i := 99) rfl)
theorem e_i_99 {S : am_S} (h : am_env S) : am_ia S 99 1 = True := eq_true ⟨Nat.lt_of_lt_of_le (by decide) h.1, by rw [e_s_99 h]⟩
theorem e_l_99 {S : am_S} (h : am_env S) : (99 < S.1) = True := eq_true (Nat.lt_of_lt_of_le (by decide) h.1)
theorem e_s_100 {S : am_S} (h : am_env S) : S.2.1 100 = (1, 520) := h.2.1 _ (List.mem_of_getElem? (i := 100) rfl)
theorem e_i_100 {S : am_S} (h : am_env S) : am_ia S 100 1 = True := eq_true ⟨Nat.lt_of_lt_of_le (by decide) h.1, by rw [e_s_100 h]⟩
theorem e_l_100 {S : am_S} (h : am_env S) : (100 < S.1) = True := eq_true (Nat.lt_of_lt_of_le (by decide) h.1)
theorem e_s_101 {S : am_S} (h : am_env S) : S.2.1 101 = (1, 12) := h.2.1 _ (List.mem_of_getElem? (i := 101) rfl)
theorem e_i_101 {S : am_S} (h : am_env S) : am_ia S 101 1 = True := eq_true ⟨Nat.lt_of_lt_of_le (by decide) h.1, by rw [e_s_101 h]⟩
theorem e_l_101 {S : am_S} (h : am_env S) : (101 < S.1) = True := eq_true (Nat.lt_of_lt_of_le (by decide) h.1)
theorem e_s_102 {S : am_S} (h : am_env S) : S.2.1 102 = (5, 4) := h.2.1 _ (List.mem_of_getElem? (i := 102) rfl)
theorem e_i_102 {S : am_S} (h : am_env S) : am_ia S 102 5 = True := eq_true ⟨Nat.lt_of_lt_of_le (by decide) h.1, by rw [e_s_102 h]⟩
theorem e_l_102 {S : am_S} (h : am_env S) : (102 < S.1) = True := eq_true (Nat.lt_of_lt_of_le (by decide) h.1)
theorem e_s_103 {S : am_S} (h : am_env S) : S.2.1 103 = (5, 12) := h.2.1 _ (List.mem_of_getElem? (i := 103) rfl)
theorem e_i_103 {S : am_S} (h : am_env S) : am_ia S 103 5 = True := eq_true ⟨Nat.lt_of_lt_of_le (by decide) h.1, by rw [e_s_103 h]⟩
theorem e_l_103 {S : am_S} (h : am_env S) : (103 < S.1) = True := eq_true (Nat.lt_of_lt_of_le (by decide) h.1)
theorem e_s_104 {S : am_S} (h : am_env S) : S.2.1 104 = (1, 8) := h.2.1 _ (List.mem_of_getElem? (i := 104) rfl)
theorem e_i_104 {S : am_S} (h : am_env S) : am_ia S 104 1 = True := eq_true ⟨Nat.lt_of_lt_of_le (by decide) h.1, by rw [e_s_104 h]⟩
theorem e_l_104 {S : am_S} (h : am_env S) : (104 < S.1) = True := eq_true (Nat.lt_of_lt_of_le (by decide) h.1)
theorem e_s_105 {S : am_S} (h : am_env S) : S.2.1 105 = (1, 8) := h.2.1 _ (List.mem_of_getElem? (i := 105) rfl)
theorem e_i_105 {S : am_S} (h : am_env S) : am_ia S 105 1 = True := eq_true ⟨Nat.lt_of_lt_of_le (by decide) h.1, by rw [e_s_105 h]⟩
theorem e_l_105 {S : am_S} (h : am_env S) : (105 < S.1) = True := eq_true (Nat.lt_of_lt_of_le (by decide) h.1)
theorem e_s_106 {S : am_S} (h : am_env S) : S.2.1 106 = (1, 16) := h.2.1 _ (List.mem_of_getElem? (i := 106) rfl)
theorem e_i_106 {S : am_S} (h : am_env S) : am_ia S 106 1 = True := eq_true ⟨Nat.lt_of_lt_of_le (by decide) h.1, by rw [e_s_106 h]⟩
theorem e_l_106 {S : am_S} (h : am_env S) : (106 < S.1) = True := eq_true (Nat.lt_of_lt_of_le (by decide) h.1)
theorem e_s_107 {S : am_S} (h : am_env S) : S.2.1 107 = (1, 16) := h.2.1 _ (List.mem_of_getElem? (i := 107) rfl)
theorem e_i_107 {S : am_S} (h : am_env S) : am_ia S 107 1 = True := eq_true ⟨Nat.lt_of_lt_of_le (by decide) h.1, by rw [e_s_107 h]⟩
theorem e_l_107 {S : am_S} (h : am_env S) : (107 < S.1) = True := eq_true (Nat.lt_of_lt_of_le (by decide) h.1)
theorem e_s_108 {S : am_S} (h : am_env S) : S.2.1 108 = (1, 65536) := h.2.1 _ (List.mem_of_getElem? (i := 108) rfl)
theorem e_i_108 {S : am_S} (h : am_env S) : am_ia S 108 1 = True := eq_true ⟨Nat.lt_of_lt_of_le (by decide) h.1, by rw [e_s_108 h]⟩
theorem e_l_108 {S : am_S} (h : am_env S) : (108 < S.1) = True := eq_true (Nat.lt_of_lt_of_le (by decide) h.1)
theorem e_s_109 {S : am_S} (h : am_env S) : S.2.1 109 = (1, 128) := h.2.1 _ (List.mem_of_getElem? (i := 109) rfl)
theorem e_i_109 {S : am_S} (h : am_env S) : am_ia S 109 1 = True := eq_true ⟨Nat.lt_of_lt_of_le (by decide) h.1, by rw [e_s_109 h]⟩
theorem e_l_109 {S : am_S} (h : am_env S) : (109 < S.1) = True := eq_true (Nat.lt_of_lt_of_le (by decide) h.1)
theorem e_s_110 {S : am_S} (h : am_env S) : S.2.1 110 = (1, 1024) := h.2.1 _ (List.mem_of_getElem? (i := 110) rfl)
theorem e_i_110 {S : am_S} (h : am_env S) : am_ia S 110 1 = True := eq_true ⟨Nat.lt_of_lt_of_le (by decide) h.1, by rw [e_s_110 h]⟩
theorem e_l_110 {S : am_S} (h : am_env S) : (110 < S.1) = True := eq_true (Nat.lt_of_lt_of_le (by decide) h.1)
theorem e_s_111 {S : am_S} (h : am_env S) : S.2.1 111 = (1, 6) := h.2.1 _ (List.mem_of_getElem? (i := 111) rfl)
theorem e_i_111 {S : am_S} (h : am_env S) : am_ia S 111 1 = True := eq_true ⟨Nat.lt_of_lt_of_le (by decide) h.1, by rw [e_s_111 h]⟩
theorem e_l_111 {S : am_S} (h : am_env S) : (111 < S.1) = True := eq_true (Nat.lt_of_lt_of_le (by decide) h.1)
theorem e_s_112 {S : am_S} (h : am_env S) : S.2.1 112 = (1, 8) := h.2.1 _ (List.mem_of_getElem? (i := 112) rfl)
theorem e_i_112 {S : am_S} (h : am_env S) : am_ia S 112 1 = True := eq_true ⟨Nat.lt_of_lt_of_le (by decide) h.1, by rw [e_s_112 h]⟩
theorem e_l_112 {S : am_S} (h : am_env S) : (112 < S.1) = True := eq_true (Nat.lt_of_lt_of_le (by decide) h.1)
theorem e_s_113 {S : am_S} (h : am_env S) : S.2.1 113 = (1, 6) := h.2.1 _ (List.mem_of_getElem? (i := 113) rfl)
theorem e_i_113 {S : am_S} (h : am_env S) : am_ia S 113 1 = True := eq_true ⟨Nat.lt_of_lt_of_le (by decide) h.1, by rw [e_s_113 h]⟩
theorem e_l_113 {S : am_S} (h : am_env S) : (113 < S.1) = True := eq_true (Nat.lt_of_lt_of_le (by decide) h.1)
theorem e_s_114 {S : am_S} (h : am_env S) : S.2.1 114 = (6, 3) := h.2.1 _ (List.mem_of_getElem? (i := 114) rfl)
theorem e_i_114 {S : am_S} (h : am_env S) : am_ia S 114 6 = True := eq_true ⟨Nat.lt_of_lt_of_le (by decide) h.1, by rw [e_s_114 h]⟩
theorem e_l_114 {S : am_S} (h : am_env S) : (114 < S.1) = True := eq_true (Nat.lt_of_lt_of_le (by decide) h.1)
theorem e_s_115 {S : am_S} (h : am_env S) : S.2.1 115 = (1, 1400) := h.2.1 _ (List.mem_of_getElem? (i := 115) rfl)
theorem e_i_115 {S : am_S} (h : am_env S) : am_ia S 115 1 = True := eq_true ⟨Nat.lt_of_lt_of_le (by decide) h.1, by rw [e_s_115 h]⟩
theorem e_l_115 {S : am_S} (h : am_env S) : (115 < S.1) = True := eq_true (Nat.lt_of_lt_of_le (by decide) h.1)
theorem e_s_116 {S : am_S} (h : am_env S) : S.2.1 116 = (1, 1400) := h.2.1 _ (List.mem_of_getElem? (i := 116) rfl)
theorem e_i_116 {S : am_S} (h : am_env S) : am_ia S 116 1 = True := eq_true ⟨Nat.lt_of_lt_of_le (by decide) h.1, by rw [e_s_116 h]⟩
theorem e_l_116 {S : am_S} (h : am_env S) : (116 < S.1) = True := eq_true (Nat.lt_of_lt_of_le (by decide) h.1)
theorem e_s_117 {S : am_S} (h : am_env S) : S.2.1 117 = (1, 1400) := h.2.1 _ (List.mem_of_getElem? (i := 117) rfl)
theorem e_i_117 {S : am_S} (h : am_env S) : am_ia S 117 1 = True := eq_true ⟨Nat.lt_of_lt_of_le (by decide) h.1, by rw [e_s_117 h]⟩
theorem e_l_117 {S : am_S} (h : am_env S) : (117 < S.1) = True := eq_true (Nat.lt_of_lt_of_le (by decide) h.1)
theorem e_s_118 {S : am_S} (h : am_env S) : S.2.1 118 = (3, 3) := h.2.1 _ (List.mem_of_getElem? (i := 118) rfl)
theorem e_i_118 {S : am_S} (h : am_env S) : am_ia S 118 3 = True := eq_true ⟨Nat.lt_of_lt_of_le (by decide) h.1, by rw [e_s_118 h]⟩
theorem e_l_118 {S : am_S} (h : am_env S) : (118 < S.1) = True := eq_true (Nat.lt_of_lt_of_le (by decide) h.1)
theorem e_p_0_0 {S : am_S} (h : am_env S) : S.2.2 0 0 = some 1 := h.2.2 _ (List.mem_of_getElem? (i := 0) rfl)
theorem e_p_0_1 {S : am_S} (h : am_env S) : S.2.2 0 1 = some 2 := h.2.2 _ (List.mem_of_getElem? (i := 1) rfl)
theorem e_p_0_2 {S : am_S} (h : am_env S) : S.2.2 0 2 = some 7 := h.2.2 _ (List.mem_of_getElem? (i := 2) rfl)
theorem e_p_0_3 {S : am_S} (h : am_env S) : S.2.2 0 3 = some 16 := h.2.2 _ (List.mem_of_getElem? (i := 3) rfl)
theorem e_p_0_4 {S : am_S} (h : am_env S) : S.2.2 0 4 = some 23 := h.2.2 _ (List.mem_of_getElem? (i := 4) rfl)
theorem e_p_0_5 {S : am_S} (h : am_env S) : S.2.2 0 5 = some 31 := h.2.2 _ (List.mem_of_getElem? (i := 5) rfl)
theorem e_p_0_6 {S : am_S} (h : am_env S) : S.2.2 0 6 = some 39 := h.2.2 _ (List.mem_of_getElem? (i := 6) rfl)
theorem e_p_0_7 {S : am_S} (h : am_env S) : S.2.2 0 7 = some 47 := h.2.2 _ (List.mem_of_getElem? (i := 7) rfl)
theorem e_p_0_8 {S : am_S} (h : am_env S) : S.2.2 0 8 = some 48 := h.2.2 _ (List.mem_of_getElem? (i := 8) rfl)
theorem e_p_0_9 {S : am_S} (h : am_env S) : S.2.2 0 9 = some 51 := h.2.2 _ (List.mem_of_getElem? (i := 9) rfl)
theorem e_p_0_10 {S : am_S} (h : am_env S) : S.2.2 0 10 = some 54 := h.2.2 _ (List.mem_of_getElem? (i := 10) rfl)
theorem e_p_0_11 {S : am_S} (h : am_env S) : S.2.2 0 11 = some 61 := h.2.2 _ (List.mem_of_getElem? (i := 11) rfl)
theorem e_p_0_12 {S : am_S} (h : am_env S) : S.2.2 0 12 = some 62 := h.2.2 _ (List.mem_of_getElem? (i := 12) rfl)
theorem e_p_0_13 {S : am_S} (h : am_env S) : S.2.2 0 13 = some 69 := h.2.2 _ (List.mem_of_getElem? (i := 13) rfl)
theorem e_p_2_0 {S : am_S} (h : am_env S) : S.2.2 2 0 = some 3 := h.2.2 _ (List.mem_of_getElem? (i := 14) rfl)
theorem e_p_2_1 {S : am_S} (h : am_env S) : S.2.2 2 1 = some 4 := h.2.2 _ (List.mem_of_getElem? (i := 15) rfl)
theorem e_p_2_2 {S : am_S} (h : am_env S) : S.2.2 2 2 = some 5 := h.2.2 _ (List.mem_of_getElem? (i := 16) rfl)
theorem e_p_2_3 {S : am_S} (h : am_env S) : S.2.2 2 3 = some 6 := h.2.2 _ (List.mem_of_getElem? (i := 17) rfl)
theorem e_p_7_0 {S : am_S} (h : am_env S) : S.2.2 7 0 = some 2 := h.2.2 _ (List.mem_of_getElem? (i := 18) rfl)
theorem e_p_7_1 {S : am_S} (h : am_env S) : S.2.2 7 1 = some 8 := h.2.2 _ (List.mem_of_getElem? (i := 19) rfl)
theorem e_p_7_3 {S : am_S} (h : am_env S) : S.2.2 7 3 = some 9 := h.2.2 _ (List.mem_of_getElem? (i := 20) rfl)
theorem e_p_9_0 {S : am_S} (h : am_env S) : S.2.2 9 0 = some 10 := h.2.2 _ (List.mem_of_getElem? (i := 21) rfl)
theorem e_p_9_1 {S : am_S} (h : am_env S) : S.2.2 9 1 = some 11 := h.2.2 _ (List.mem_of_getElem? (i := 22) rfl)
theorem e_p_9_2 {S : am_S} (h : am_env S) : S.2.2 9 2 = some 12 := h.2.2 _ (List.mem_of_getElem? (i := 23) rfl)
theorem e_p_9_3 {S : am_S} (h : am_env S) : S.2.2 9 3 = some 13 := h.2.2 _ (List.mem_of_getElem? (i := 24) rfl)
theorem e_p_9_4 {S : am_S} (h : am_env S) : S.2.2 9 4 = some 14 := h.2.2 _ (List.mem_of_getElem? (i := 25) rfl)
theorem e_p_9_5 {S : am_S} (h : am_env S) : S.2.2 9 5 = some 15 := h.2.2 _ (List.mem_of_getElem? (i := 26) rfl)
theorem e_p_16_0 {S : am_S} (h : am_env S) : S.2.2 16 0 = some 17 := h.2.2 _ (List.mem_of_getElem? (i := 27) rfl)
theorem e_p_16_1 {S : am_S} (h : am_env S) : S.2.2 16 1 = some 18 := h.2.2 _ (List.mem_of_getElem? (i := 28) rfl)
theorem e_p_16_2 {S : am_S} (h : am_env S) : S.2.2 16 2 = some 19 := h.2.2 _ (List.mem_of_getElem? (i := 29) rfl)
theorem e_p_16_3 {S : am_S} (h : am_env S) : S.2.2 16 3 = some 20 := h.2.2 _ (List.mem_of_getElem? (i := 30) rfl)
theorem e_p_16_4 {S : am_S} (h : am_env S) : S.2.2 16 4 = some 21 := h.2.2 _ (List.mem_of_getElem? (i := 31) rfl)
theorem e_p_16_5 {S : am_S} (h : am_env S) : S.2.2 16 5 = some 22 := h.2.2 _ (List.mem_of_getElem? (i := 32) rfl)
theorem e_p_23_0 {S : am_S} (h : am_env S) : S.2.2 23 0 = some 24 := h.2.2 _ (List.mem_of_getElem? (i := 33) rfl)
theorem e_p_23_1 {S : am_S} (h : am_env S) : S.2.2 23 1 = some 25 := h.2.2 _ (List.mem_of_getElem? (i := 34) rfl)
theorem e_p_23_2 {S : am_S} (h : am_env S) : S.2.2 23 2 = some 26 := h.2.2 _ (List.mem_of_getElem? (i := 35) rfl)
theorem e_p_23_3 {S : am_S} (h : am_env S) : S.2.2 23 3 = some 27 := h.2.2 _ (List.mem_of_getElem? (i := 36) rfl)
theorem e_p_23_4 {S : am_S} (h : am_env S) : S.2.2 23 4 = some 28 := h.2.2 _ (List.mem_of_getElem? (i := 37) rfl)
theorem e_p_23_5 {S : am_S} (h : am_env S) : S.2.2 23 5 = some 29 := h.2.2 _ (List.mem_of_getElem? (i := 38) rfl)
theorem e_p_23_6 {S : am_S} (h : am_env S) : S.2.2 23 6 = some 30 := h.2.2 _ (List.mem_of_getElem? (i := 39) rfl)
theorem e_p_31_0 {S : am_S} (h : am_env S) : S.2.2 31 0 = some 32 := h.2.2 _ (List.mem_of_getElem? (i := 40) rfl)
theorem e_p_31_1 {S : am_S} (h : am_env S) : S.2.2 31 1 = some 33 := h.2.2 _ (List.mem_of_getElem? (i := 41) rfl)
theorem e_p_31_2 {S : am_S} (h : am_env S) : S.2.2 31 2 = some 34 := h.2.2 _ (List.mem_of_getElem? (i := 42) rfl)
theorem e_p_31_3 {S : am_S} (h : am_env S) : S.2.2 31 3 = some 35 := h.2.2 _ (List.mem_of_getElem? (i := 43) rfl)
theorem e_p_31_4 {S : am_S} (h : am_env S) : S.2.2 31 4 = some 36 := h.2.2 _ (List.mem_of_getElem? (i := 44) rfl)
theorem e_p_31_5 {S : am_S} (h : am_env S) : S.2.2 31 5 = some 37 := h.2.2 _ (List.mem_of_getElem? (i := 45) rfl)
theorem e_p_31_6 {S : am_S} (h : am_env S) : S.2.2 31 6 = some 38 := h.2.2 _ (List.mem_of_getElem? (i := 46) rfl)
theorem e_p_39_0 {S : am_S} (h : am_env S) : S.2.2 39 0 = some 40 := h.2.2 _ (List.mem_of_getElem? (i := 47) rfl)
theorem e_p_39_1 {S : am_S} (h : am_env S) : S.2.2 39 1 = some 41 := h.2.2 _ (List.mem_of_getElem? (i := 48) rfl)
theorem e_p_39_2 {S : am_S} (h : am_env S) : S.2.2 39 2 = some 42 := h.2.2 _ (List.mem_of_getElem? (i := 49) rfl)
theorem e_p_39_3 {S : am_S} (h : am_env S) : S.2.2 39 3 = some 43 := h.2.2 _ (List.mem_of_getElem? (i := 50) rfl)
theorem e_p_39_4 {S : am_S} (h : am_env S) : S.2.2 39 4 = some 44 := h.2.2 _ (List.mem_of_getElem? (i := 51) rfl)
theorem e_p_39_5 {S : am_S} (h : am_env S) : S.2.2 39 5 = some 45 := h.2.2 _ (List.mem_of_getElem? (i := 52) rfl)
theorem e_p_39_6 {S : am_S} (h : am_env S) : S.2.2 39 6 = some 46 := h.2.2 _ (List.mem_of_getElem? (i := 53) rfl)
theorem e_p_48_0 {S : am_S} (h : am_env S) : S.2.2 48 0 = some 23 := h.2.2 _ (List.mem_of_getElem? (i := 54) rfl)
theorem e_p_48_1 {S : am_S} (h : am_env S) : S.2.2 48 1 = some 31 := h.2.2 _ (List.mem_of_getElem? (i := 55) rfl)
theorem e_p_48_2 {S : am_S} (h : am_env S) : S.2.2 48 2 = some 16 := h.2.2 _ (List.mem_of_getElem? (i := 56) rfl)
theorem e_p_48_3 {S : am_S} (h : am_env S) : S.2.2 48 3 = some 49 := h.2.2 _ (List.mem_of_getElem? (i := 57) rfl)
theorem e_p_48_5 {S : am_S} (h : am_env S) : S.2.2 48 5 = some 50 := h.2.2 _ (List.mem_of_getElem? (i := 58) rfl)
theorem e_p_51_0 {S : am_S} (h : am_env S) : S.2.2 51 0 = some 23 := h.2.2 _ (List.mem_of_getElem? (i := 59) rfl)
theorem e_p_51_1 {S : am_S} (h : am_env S) : S.2.2 51 1 = some 31 := h.2.2 _ (List.mem_of_getElem? (i := 60) rfl)
theorem e_p_51_2 {S : am_S} (h : am_env S) : S.2.2 51 2 = some 16 := h.2.2 _ (List.mem_of_getElem? (i := 61) rfl)
theorem e_p_51_3 {S : am_S} (h : am_env S) : S.2.2 51 3 = some 52 := h.2.2 _ (List.mem_of_getElem? (i := 62) rfl)
theorem e_p_51_4 {S : am_S} (h : am_env S) : S.2.2 51 4 = some 53 := h.2.2 _ (List.mem_of_getElem? (i := 63) rfl)
theorem e_p_54_0 {S : am_S} (h : am_env S) : S.2.2 54 0 = some 31 := h.2.2 _ (List.mem_of_getElem? (i := 64) rfl)
theorem e_p_54_1 {S : am_S} (h : am_env S) : S.2.2 54 1 = some 51 := h.2.2 _ (List.mem_of_getElem? (i := 65) rfl)
theorem e_p_54_2 {S : am_S} (h : am_env S) : S.2.2 54 2 = some 55 := h.2.2 _ (List.mem_of_getElem? (i := 66) rfl)
theorem e_p_54_3 {S : am_S} (h : am_env S) : S.2.2 54 3 = some 56 := h.2.2 _ (List.mem_of_getElem? (i := 67) rfl)
theorem e_p_54_4 {S : am_S} (h : am_env S) : S.2.2 54 4 = some 57 := h.2.2 _ (List.mem_of_getElem? (i := 68) rfl)
theorem e_p_54_5 {S : am_S} (h : am_env S) : S.2.2 54 5 = some 58 := h.2.2 _ (List.mem_of_getElem? (i := 69) rfl)
theorem e_p_54_6 {S : am_S} (h : am_env S) : S.2.2 54 6 = some 59 := h.2.2 _ (List.mem_of_getElem? (i := 70) rfl)
theorem e_p_54_7 {S : am_S} (h : am_env S) : S.2.2 54 7 = some 60 := h.2.2 _ (List.mem_of_getElem? (i := 71) rfl)
theorem e_p_61_0 {S : am_S} (h : am_env S) : S.2.2 61 0 = some 31 := h.2.2 _ (List.mem_of_getElem? (i := 72) rfl)
theorem e_p_61_1 {S : am_S} (h : am_env S) : S.2.2 61 1 = some 54 := h.2.2 _ (List.mem_of_getElem? (i := 73) rfl)
theorem e_p_62_0 {S : am_S} (h : am_env S) : S.2.2 62 0 = some 23 := h.2.2 _ (List.mem_of_getElem? (i := 74) rfl)
theorem e_p_62_1 {S : am_S} (h : am_env S) : S.2.2 62 1 = some 16 := h.2.2 _ (List.mem_of_getElem? (i := 75) rfl)
theorem e_p_62_2 {S : am_S} (h : am_env S) : S.2.2 62 2 = some 48 := h.2.2 _ (List.mem_of_getElem? (i := 76) rfl)
theorem e_p_62_3 {S : am_S} (h : am_env S) : S.2.2 62 3 = some 63 := h.2.2 _ (List.mem_of_getElem? (i := 77) rfl)
theorem e_p_62_4 {S : am_S} (h : am_env S) : S.2.2 62 4 = some 64 := h.2.2 _ (List.mem_of_getElem? (i := 78) rfl)
theorem e_p_62_5 {S : am_S} (h : am_env S) : S.2.2 62 5 = some 65 := h.2.2 _ (List.mem_of_getElem? (i := 79) rfl)
theorem e_p_62_6 {S : am_S} (h : am_env S) : S.2.2 62 6 = some 66 := h.2.2 _ (List.mem_of_getElem? (i := 80) rfl)
theorem e_p_62_7 {S : am_S} (h : am_env S) : S.2.2 62 7 = some 67 := h.2.2 _ (List.mem_of_getElem? (i := 81) rfl)
theorem e_p_62_12 {S : am_S} (h : am_env S) : S.2.2 62 12 = some 68 := h.2.2 _ (List.mem_of_getElem? (i := 82) rfl)
theorem e_p_70_0 {S : am_S} (h : am_env S) : S.2.2 70 0 = some 71 := h.2.2 _ (List.mem_of_getElem? (i := 83) rfl)
theorem e_p_70_1 {S : am_S} (h : am_env S) : S.2.2 70 1 = some 72 := h.2.2 _ (List.mem_of_getElem? (i := 84) rfl)
theorem e_p_70_2 {S : am_S} (h : am_env S) : S.2.2 70 2 = some 73 := h.2.2 _ (List.mem_of_getElem? (i := 85) rfl)
theorem e_p_70_3 {S : am_S} (h : am_env S) : S.2.2 70 3 = some 74 := h.2.2 _ (List.mem_of_getElem? (i := 86) rfl)
theorem e_p_70_4 {S : am_S} (h : am_env S) : S.2.2 70 4 = some 75 := h.2.2 _ (List.mem_of_getElem? (i := 87) rfl)
theorem e_p_70_5 {S : am_S} (h : am_env S) : S.2.2 70 5 = some 76 := h.2.2 _ (List.mem_of_getElem? (i := 88) rfl)
theorem e_p_70_6 {S : am_S} (h : am_env S) : S.2.2 70 6 = some 77 := h.2.2 _ (List.mem_of_getElem? (i := 89) rfl)
theorem e_p_70_7 {S : am_S} (h : am_env S) : S.2.2 70 7 = some 78 := h.2.2 _ (List.mem_of_getElem? (i := 90) rfl)
theorem e_p_70_10 {S : am_S} (h : am_env S) : S.2.2 70 10 = some 79 := h.2.2 _ (List.mem_of_getElem? (i := 91) rfl)
theorem e_p_70_11 {S : am_S} (h : am_env S) : S.2.2 70 11 = some 80 := h.2.2 _ (List.mem_of_getElem? (i := 92) rfl)
theorem e_p_70_12 {S : am_S} (h : am_env S) : S.2.2 70 12 = some 81 := h.2.2 _ (List.mem_of_getElem? (i := 93) rfl)
theorem e_p_70_13 {S : am_S} (h : am_env S) : S.2.2 70 13 = some 82 := h.2.2 _ (List.mem_of_getElem? (i := 94) rfl)
theorem e_p_70_14 {S : am_S} (h : am_env S) : S.2.2 70 14 = some 83 := h.2.2 _ (List.mem_of_getElem? (i := 95) rfl)
theorem e_p_70_15 {S : am_S} (h : am_env S) : S.2.2 70 15 = some 84 := h.2.2 _ (List.mem_of_getElem? (i := 96) rfl)
theorem e_p_70_16 {S : am_S} (h : am_env S) : S.2.2 70 16 = some 85 := h.2.2 _ (List.mem_of_getElem? (i := 97) rfl)
theorem e_p_70_24 {S : am_S} (h : am_env S) : S.2.2 70 24 = some 86 := h.2.2 _ (List.mem_of_getElem? (i := 98) rfl)
theorem e_p_70_29 {S : am_S} (h : am_env S) : S.2.2 70 29 = some 87 := h.2.2 _ (List.mem_of_getElem? (i := 99) rfl)
theorem e_p_70_30 {S : am_S} (h : am_env S) : S.2.2 70 30 = some 90 := h.2.2 _ (List.mem_of_getElem? (i := 100) rfl)
theorem e_p_70_31 {S : am_S} (h : am_env S) : S.2.2 70 31 = some 93 := h.2.2 _ (List.mem_of_getElem? (i := 101) rfl)
theorem e_p_70_32 {S : am_S} (h : am_env S) : S.2.2 70 32 = some 96 := h.2.2 _ (List.mem_of_getElem? (i := 102) rfl)
theorem e_p_70_33 {S : am_S} (h : am_env S) : S.2.2 70 33 = some 97 := h.2.2 _ (List.mem_of_getElem? (i := 103) rfl)
theorem e_p_70_34 {S : am_S} (h : am_env S) : S.2.2 70 34 = some 98 := h.2.2 _ (List.mem_of_getElem? (i := 104) rfl)
theorem e_p_70_35 {S : am_S} (h : am_env S) : S.2.2 70 35 = some 99 := h.2.2 _ (List.mem_of_getElem? (i := 105) rfl)
theorem e_p_70_36 {S : am_S} (h : am_env S) : S.2.2 70 36 = some 100 := h.2.2 _ (List.mem_of_getElem? (i := 106) rfl)
theorem e_p_70_37 {S : am_S} (h : am_env S) : S.2.2 70 37 = some 101 := h.2.2 _ (List.mem_of_getElem? (i := 107) rfl)
theorem e_p_70_38 {S : am_S} (h : am_env S) : S.2.2 70 38 = some 102 := h.2.2 _ (List.mem_of_getElem? (i := 108) rfl)
theorem e_p_70_39 {S : am_S} (h : am_env S) : S.2.2 70 39 = some 103 := h.2.2 _ (List.mem_of_getElem? (i := 109) rfl)
theorem e_p_70_41 {S : am_S} (h : am_env S) : S.2.2 70 41 = some 104 := h.2.2 _ (List.mem_of_getElem? (i := 110) rfl)
theorem e_p_70_42 {S : am_S} (h : am_env S) : S.2.2 70 42 = some 105 := h.2.2 _ (List.mem_of_getElem? (i := 111) rfl)
theorem e_p_70_44 {S : am_S} (h : am_env S) : S.2.2 70 44 = some 106 := h.2.2 _ (List.mem_of_getElem? (i := 112) rfl)
theorem e_p_70_45 {S : am_S} (h : am_env S) : S.2.2 70 45 = some 107 := h.2.2 _ (List.mem_of_getElem? (i := 113) rfl)
theorem e_p_70_46 {S : am_S} (h : am_env S) : S.2.2 70 46 = some 108 := h.2.2 _ (List.mem_of_getElem? (i := 114) rfl)
theorem e_p_70_53 {S : am_S} (h : am_env S) : S.2.2 70 53 = some 109 := h.2.2 _ (List.mem_of_getElem? (i := 115) rfl)
theorem e_p_70_54 {S : am_S} (h : am_env S) : S.2.2 70 54 = some 110 := h.2.2 _ (List.mem_of_getElem? (i := 116) rfl)
theorem e_p_70_55 {S : am_S} (h : am_env S) : S.2.2 70 55 = some 111 := h.2.2 _ (List.mem_of_getElem? (i := 117) rfl)
theorem e_p_70_56 {S : am_S} (h : am_env S) : S.2.2 70 56 = some 112 := h.2.2 _ (List.mem_of_getElem? (i := 118) rfl)
theorem e_p_70_59 {S : am_S} (h : am_env S) : S.2.2 70 59 = some 113 := h.2.2 _ (List.mem_of_getElem? (i := 119) rfl)
theorem e_p_70_61 {S : am_S} (h : am_env S) : S.2.2 70 61 = some 114 := h.2.2 _ (List.mem_of_getElem? (i := 120) rfl)
theorem e_p_70_62 {S : am_S} (h : am_env S) : S.2.2 70 62 = some 118 := h.2.2 _ (List.mem_of_getElem? (i := 121) rfl)
theorem e_p_87_0 {S : am_S} (h : am_env S) : S.2.2 87 0 = some 88 := h.2.2 _ (List.mem_of_getElem? (i := 122) rfl)
theorem e_p_87_1 {S : am_S} (h : am_env S) : S.2.2 87 1 = some 89 := h.2.2 _ (List.mem_of_getElem? (i := 123) rfl)
theorem e_p_90_0 {S : am_S} (h : am_env S) : S.2.2 90 0 = some 91 := h.2.2 _ (List.mem_of_getElem? (i := 124) rfl)
theorem e_p_90_1 {S : am_S} (h : am_env S) : S.2.2 90 1 = some 92 := h.2.2 _ (List.mem_of_getElem? (i := 125) rfl)
theorem e_p_93_0 {S : am_S} (h : am_env S) : S.2.2 93 0 = some 94 := h.2.2 _ (List.mem_of_getElem? (i := 126) rfl)
theorem e_p_93_1 {S : am_S} (h : am_env S) : S.2.2 93 1 = some 95 := h.2.2 _ (List.mem_of_getElem? (i := 127) rfl)
theorem e_p_102_0 {S : am_S} (h : am_env S) : S.2.2 102 0 = some 11 := h.2.2 _ (List.mem_of_getElem? (i := 128) rfl)
theorem e_p_102_1 {S : am_S} (h : am_env S) : S.2.2 102 1 = some 12 := h.2.2 _ (List.mem_of_getElem? (i := 129) rfl)
theorem e_p_102_2 {S : am_S} (h : am_env S) : S.2.2 102 2 = some 13 := h.2.2 _ (List.mem_of_getElem? (i := 130) rfl)
theorem e_p_102_3 {S : am_S} (h : am_env S) : S.2.2 102 3 = some 14 := h.2.2 _ (List.mem_of_getElem? (i := 131) rfl)
theorem e_p_103_0 {S : am_S} (h : am_env S) : S.2.2 103 0 = some 15 := h.2.2 _ (List.mem_of_getElem? (i := 132) rfl)
theorem e_p_103_1 {S : am_S} (h : am_env S) : S.2.2 103 1 = some 16 := h.2.2 _ (List.mem_of_getElem? (i := 133) rfl)
theorem e_p_103_2 {S : am_S} (h : am_env S) : S.2.2 103 2 = some 17 := h.2.2 _ (List.mem_of_getElem? (i := 134) rfl)
theorem e_p_103_3 {S : am_S} (h : am_env S) : S.2.2 103 3 = some 18 := h.2.2 _ (List.mem_of_getElem? (i := 135) rfl)
theorem e_p_103_4 {S : am_S} (h : am_env S) : S.2.2 103 4 = some 19 := h.2.2 _ (List.mem_of_getElem? (i := 136) rfl)
theorem e_p_103_5 {S : am_S} (h : am_env S) : S.2.2 103 5 = some 20 := h.2.2 _ (List.mem_of_getElem? (i := 137) rfl)
theorem e_p_103_6 {S : am_S} (h : am_env S) : S.2.2 103 6 = some 21 := h.2.2 _ (List.mem_of_getElem? (i := 138) rfl)
theorem e_p_103_7 {S : am_S} (h : am_env S) : S.2.2 103 7 = some 22 := h.2.2 _ (List.mem_of_getElem? (i := 139) rfl)
theorem e_p_103_8 {S : am_S} (h : am_env S) : S.2.2 103 8 = some 23 := h.2.2 _ (List.mem_of_getElem? (i := 140) rfl)
theorem e_p_103_9 {S : am_S} (h : am_env S) : S.2.2 103 9 = some 24 := h.2.2 _ (List.mem_of_getElem? (i := 141) rfl)
theorem e_p_103_10 {S : am_S} (h : am_env S) : S.2.2 103 10 = some 25 := h.2.2 _ (List.mem_of_getElem? (i := 142) rfl)
theorem e_p_103_11 {S : am_S} (h : am_env S) : S.2.2 103 11 = some 26 := h.2.2 _ (List.mem_of_getElem? (i := 143) rfl)
theorem e_p_114_0 {S : am_S} (h : am_env S) : S.2.2 114 0 = some 115 := h.2.2 _ (List.mem_of_getElem? (i := 144) rfl)
theorem e_p_114_1 {S : am_S} (h : am_env S) : S.2.2 114 1 = some 116 := h.2.2 _ (List.mem_of_getElem? (i := 145) rfl)
theorem e_p_114_2 {S : am_S} (h : am_env S) : S.2.2 114 2 = some 117 := h.2.2 _ (List.mem_of_getElem? (i := 146) rfl)
