/-! THE CLAIM OUT OF ONE WALK OF THE LAW'S BODY. Your part is whole_start (and what it stands on); all else here is the same for every law, but numbers. -/
def R_law : String := "LookTimesLaw"
def lw_P (b : Addr) (xs : List Int32) (args : Array Value) (s : State) : Prop := args = #[.ref b] ∧ s.IntsAt b xs ∧ xs.length ≤ 3072 ∧ (Jvm.Cond.and given_1 narrow_1).before args s = true
def lw_Q (_ : Array Value) (s : State) (o : Outcome) (t : State) : Prop := o = .returned (some (.int 1)) ∧ Framed s o t [] room_1.cells room_1.slots
def lw_Z (below : List Frame) (a : Array Value) (s : State) : State → Prop := fun t => ∃ o, t.status = .running ∧ Ended t below o ∧ lw_Q a s o t
/-- the law's own end, with 1 on the stack, nothing written that was there before, its room as the claim has it -/
theorem lw_ret {p : Program} {l : Launch} {e : Env} {s : State} {m : MethodId} {below : List Frame} {meth : Method} {c : Code} {b : Nat} (hx : p.tables.exec = Jvm.exec) (hb : c.code = code) (hr : meth.sig.returnType = ret) (hlocks : meth.locks = false) {pc : Nat} {H : Heap} {ls : Array Slot} (hdg : decode code pc = .ok (.ireturn, 1)) : W p l e room_1 s m #[Value.ref b] below meth c H [] room_1.cells room_1.slots (lw_Z below #[Value.ref b] s) (F0 m pc ls [.int 1]) := by
  intro T hT X
  obtain ⟨fs, hret, hrun, hended, hW, hframe⟩ := X.leave (v := some (.int 1)) (hlocks := hlocks) (fun h => by rw [hr] at h; cases h)
  have hmeth' : T.vm.method? m = some meth := X.method'
  refine ⟨T.setFrames fs, ?_, .returned (some (.int 1)), hrun, hended, rfl, ⟨_, rfl⟩, hW, hframe⟩
  jvm_step X.here [X.here.top, hx, hb, hdg, hmeth', hr, ret, narrow_b1]
  (try refine ⟨rfl, ?_⟩); (try refine ⟨rfl, ?_⟩)
  first | (intro acts; rw [hret _ acts rfl rfl rfl]) | rw [hret _ _ rfl rfl rfl]
  exact Steps.refl _
/-- what holds at the law's entry: the machine, the code, the tables' words (any of lw_tbl by 'hts w (by decide +kernel)'), the script of L ints xs at the cell b, what the Statement gives of the start (any of its parts by flat_of_before) -/
def lw_At (p : Program) (s : State) (m : MethodId) (meth : Method) (c : Code) (b L : Nat) (xs : Nat → Int32) : Prop :=
  p.tables.exec = Jvm.exec ∧ c.code = code ∧ meth.sig.returnType = ret ∧ c.maxLocals = 4 ∧ s.vm.findClass R_law = some m.cls ∧ (∀ w ∈ lw_tbl, w.before #[Value.ref b] s = true) ∧ va_X b L xs s s.heap ∧ b < s.heap.size ∧ meth.locks = false ∧ (Jvm.Cond.and given_1 narrow_1).before #[Value.ref b] s = true
def am_fla : List Cond := flatC (Jvm.Cond.and given_1 narrow_1)
def am_stm (i : Nat) : Term := match am_strs[i]? with
  | some q => .string q.1 q.2.1
  | none => .null
set_option maxRecDepth 100000 in
theorem fl_exa : ∀ i, i < 17 → Cond.exactly (am_stm i) "java/lang/String" ∈ am_fla := by decide +kernel
set_option maxRecDepth 100000 in
theorem fl_cod : ∀ i, i < 17 → Cond.eq (.field (am_stm i) "java/lang/String" "coder" "B") (.int 0) ∈ am_fla := by decide +kernel
set_option maxRecDepth 100000 in
theorem fl_arr : ∀ i, i < 17 → Cond.arrayOf (.field (am_stm i) "java/lang/String" "value" "[B") .byte ∈ am_fla := by decide +kernel
set_option maxRecDepth 100000 in
theorem fl_len : ∀ i, i < 17 → Cond.eq (.length (.field (am_stm i) "java/lang/String" "value" "[B")) (.int (Int32.ofNat (am_lens.getD i 0))) ∈ am_fla := by decide +kernel
set_option maxRecDepth 100000 in
theorem fl_sta : ∀ z ∈ ([("AFTER_W", 4, 1), ("AFTER_MOST", 3, 2)] : List (String × Nat × Nat)), Cond.arrayOf (.static "LookTimes" z.1 "[I") .int ∈ am_fla ∧ Cond.eq (.length (.static "LookTimes" z.1 "[I")) (.int (Int32.ofNat z.2.1)) ∈ am_fla ∧ ∀ j, j < z.2.1 → Cond.eq (.elem (.static "LookTimes" z.1 "[I") (.int (Int32.ofNat j))) (.int ((am_sta z.2.2).getD j 0)) ∈ am_fla := by decide +kernel
set_option maxRecDepth 100000 in
theorem fl_cmp : Cond.eq (.static "java/lang/String" "COMPACT_STRINGS" "Z") (.int 1) ∈ am_fla := by decide +kernel
set_option maxRecDepth 100000 in
theorem fl_fmt : Cond.isRef (.static "jdk/internal/util/Preconditions" "SIOOBE_FORMATTER" "Ljava/util/function/BiFunction;") ∈ am_fla := by decide +kernel
set_option maxRecDepth 100000 in
theorem tb_lay : ∀ z ∈ ([("LookTimes", "AFTER_W", "[I"), ("LookTimes", "AFTER_MOST", "[I"), ("java/lang/String", "COMPACT_STRINGS", "Z"), ("jdk/internal/util/Preconditions", "SIOOBE_FORMATTER", "Ljava/util/function/BiFunction;")] : List (String × String × String)), Cond.laysStatic z.1 z.2.1 z.2.2 ∈ tables_1 ∧ Cond.initialized z.1 ∈ tables_1 := by decide +kernel
set_option maxRecDepth 100000 in
theorem tb_str : ∀ z ∈ am_strs, Cond.stringRef z.1 z.2.1 z.2.2.1 ∈ tables_1 := by decide +kernel
set_option maxRecDepth 100000 in
theorem tb_nest : ∀ w ∈ am_nest, w ∈ tables_1 ∧ w.onTables = true := by decide +kernel
set_option maxRecDepth 100000 in
theorem tb_ovs : ∀ ty ∈ am_ovs, Cond.arrayOver ty ∈ tables_1 := by decide +kernel
theorem am_gt_sub {w : Cond} (h : w ∈ am_gt) : w ∈ lw_tbl := (List.mem_filter.mp h).1
theorem fl_r (ws : List Cond) (ps : List Nat) (hp : ws = ps.filterMap (fun i => am_fla[i]?)) : ∀ w ∈ ws, w ∈ am_fla := by
  intro w hw
  rw [hp] at hw
  obtain ⟨i, -, hi⟩ := List.mem_filterMap.mp hw
  exact List.mem_of_getElem? hi
def am_elm (i j : Nat) : Cond := Cond.eq (.elem (.field (am_stm i) "java/lang/String" "value" "[B") (.int (Int32.ofNat j))) (.int ((am_byts.getD i []).getD j 0))
set_option maxRecDepth 100000 in
theorem fl_e_0_0 : ∀ w ∈ (List.range 32).map (fun j => am_elm 0 (0 + j)), w ∈ am_fla := fl_r _ [26, 27, 28, 29, 30, 31, 32, 33, 34, 35, 36, 37, 38, 39, 40, 41, 42, 43, 44, 45, 46, 47, 48, 49, 50, 51, 52, 53, 54, 55, 56, 57] (by decide +kernel)
set_option maxRecDepth 100000 in
theorem fl_e_0_32 : ∀ w ∈ (List.range 32).map (fun j => am_elm 0 (32 + j)), w ∈ am_fla := fl_r _ [58, 59, 60, 61, 62, 63, 64, 65, 66, 67, 68, 69, 70, 71, 72, 73, 74, 75, 76, 77, 78, 79, 80, 81, 82, 83, 84, 85, 86, 87, 88, 89] (by decide +kernel)
set_option maxRecDepth 100000 in
theorem fl_e_0_64 : ∀ w ∈ (List.range 32).map (fun j => am_elm 0 (64 + j)), w ∈ am_fla := fl_r _ [90, 91, 92, 93, 94, 95, 96, 97, 98, 99, 100, 101, 102, 103, 104, 105, 106, 107, 108, 109, 110, 111, 112, 113, 114, 115, 116, 117, 118, 119, 120, 121] (by decide +kernel)
set_option maxRecDepth 100000 in
theorem fl_e_0_96 : ∀ w ∈ (List.range 32).map (fun j => am_elm 0 (96 + j)), w ∈ am_fla := fl_r _ [122, 123, 124, 125, 126, 127, 128, 129, 130, 131, 132, 133, 134, 135, 136, 137, 138, 139, 140, 141, 142, 143, 144, 145, 146, 147, 148, 149, 150, 151, 152, 153] (by decide +kernel)
theorem fl_e_0 : ∀ j, j < 128 → am_elm 0 j ∈ am_fla := by
  intro j hj
  by_cases h32 : j < 32
  · have := fl_e_0_0 (am_elm 0 (0 + (j - 0))) (List.mem_map.mpr ⟨j - 0, List.mem_range.mpr (by omega), rfl⟩)
    rw [show 0 + (j - 0) = j by omega] at this
    exact this
  by_cases h64 : j < 64
  · have := fl_e_0_32 (am_elm 0 (32 + (j - 32))) (List.mem_map.mpr ⟨j - 32, List.mem_range.mpr (by omega), rfl⟩)
    rw [show 32 + (j - 32) = j by omega] at this
    exact this
  by_cases h96 : j < 96
  · have := fl_e_0_64 (am_elm 0 (64 + (j - 64))) (List.mem_map.mpr ⟨j - 64, List.mem_range.mpr (by omega), rfl⟩)
    rw [show 64 + (j - 64) = j by omega] at this
    exact this
  have := fl_e_0_96 (am_elm 0 (96 + (j - 96))) (List.mem_map.mpr ⟨j - 96, List.mem_range.mpr (by omega), rfl⟩)
  rw [show 96 + (j - 96) = j by omega] at this
  exact this
set_option maxRecDepth 100000 in
theorem fl_e_1_0 : ∀ w ∈ (List.range 3).map (fun j => am_elm 1 (0 + j)), w ∈ am_fla := fl_r _ [158, 159, 160] (by decide +kernel)
theorem fl_e_1 : ∀ j, j < 3 → am_elm 1 j ∈ am_fla := by
  intro j hj
  have := fl_e_1_0 (am_elm 1 (0 + (j - 0))) (List.mem_map.mpr ⟨j - 0, List.mem_range.mpr (by omega), rfl⟩)
  rw [show 0 + (j - 0) = j by omega] at this
  exact this
set_option maxRecDepth 100000 in
theorem fl_e_2_0 : ∀ w ∈ (List.range 2).map (fun j => am_elm 2 (0 + j)), w ∈ am_fla := fl_r _ [166, 167] (by decide +kernel)
theorem fl_e_2 : ∀ j, j < 2 → am_elm 2 j ∈ am_fla := by
  intro j hj
  have := fl_e_2_0 (am_elm 2 (0 + (j - 0))) (List.mem_map.mpr ⟨j - 0, List.mem_range.mpr (by omega), rfl⟩)
  rw [show 0 + (j - 0) = j by omega] at this
  exact this
set_option maxRecDepth 100000 in
theorem fl_e_3_0 : ∀ w ∈ (List.range 3).map (fun j => am_elm 3 (0 + j)), w ∈ am_fla := fl_r _ [174, 175, 176] (by decide +kernel)
theorem fl_e_3 : ∀ j, j < 3 → am_elm 3 j ∈ am_fla := by
  intro j hj
  have := fl_e_3_0 (am_elm 3 (0 + (j - 0))) (List.mem_map.mpr ⟨j - 0, List.mem_range.mpr (by omega), rfl⟩)
  rw [show 0 + (j - 0) = j by omega] at this
  exact this
set_option maxRecDepth 100000 in
theorem fl_e_4_0 : ∀ w ∈ (List.range 2).map (fun j => am_elm 4 (0 + j)), w ∈ am_fla := fl_r _ [184, 185] (by decide +kernel)
theorem fl_e_4 : ∀ j, j < 2 → am_elm 4 j ∈ am_fla := by
  intro j hj
  have := fl_e_4_0 (am_elm 4 (0 + (j - 0))) (List.mem_map.mpr ⟨j - 0, List.mem_range.mpr (by omega), rfl⟩)
  rw [show 0 + (j - 0) = j by omega] at this
  exact this
set_option maxRecDepth 100000 in
theorem fl_e_5_0 : ∀ w ∈ (List.range 3).map (fun j => am_elm 5 (0 + j)), w ∈ am_fla := fl_r _ [194, 195, 196] (by decide +kernel)
theorem fl_e_5 : ∀ j, j < 3 → am_elm 5 j ∈ am_fla := by
  intro j hj
  have := fl_e_5_0 (am_elm 5 (0 + (j - 0))) (List.mem_map.mpr ⟨j - 0, List.mem_range.mpr (by omega), rfl⟩)
  rw [show 0 + (j - 0) = j by omega] at this
  exact this
set_option maxRecDepth 100000 in
theorem fl_e_6_0 : ∀ w ∈ (List.range 5).map (fun j => am_elm 6 (0 + j)), w ∈ am_fla := fl_r _ [206, 207, 208, 209, 210] (by decide +kernel)
theorem fl_e_6 : ∀ j, j < 5 → am_elm 6 j ∈ am_fla := by
  intro j hj
  have := fl_e_6_0 (am_elm 6 (0 + (j - 0))) (List.mem_map.mpr ⟨j - 0, List.mem_range.mpr (by omega), rfl⟩)
  rw [show 0 + (j - 0) = j by omega] at this
  exact this
set_option maxRecDepth 100000 in
theorem fl_e_7_0 : ∀ w ∈ (List.range 4).map (fun j => am_elm 7 (0 + j)), w ∈ am_fla := fl_r _ [221, 222, 223, 224] (by decide +kernel)
theorem fl_e_7 : ∀ j, j < 4 → am_elm 7 j ∈ am_fla := by
  intro j hj
  have := fl_e_7_0 (am_elm 7 (0 + (j - 0))) (List.mem_map.mpr ⟨j - 0, List.mem_range.mpr (by omega), rfl⟩)
  rw [show 0 + (j - 0) = j by omega] at this
  exact this
set_option maxRecDepth 100000 in
theorem fl_e_8_0 : ∀ w ∈ (List.range 4).map (fun j => am_elm 8 (0 + j)), w ∈ am_fla := fl_r _ [236, 237, 238, 239] (by decide +kernel)
theorem fl_e_8 : ∀ j, j < 4 → am_elm 8 j ∈ am_fla := by
  intro j hj
  have := fl_e_8_0 (am_elm 8 (0 + (j - 0))) (List.mem_map.mpr ⟨j - 0, List.mem_range.mpr (by omega), rfl⟩)
  rw [show 0 + (j - 0) = j by omega] at this
  exact this
set_option maxRecDepth 100000 in
theorem fl_e_9_0 : ∀ w ∈ (List.range 5).map (fun j => am_elm 9 (0 + j)), w ∈ am_fla := fl_r _ [252, 253, 254, 255, 256] (by decide +kernel)
theorem fl_e_9 : ∀ j, j < 5 → am_elm 9 j ∈ am_fla := by
  intro j hj
  have := fl_e_9_0 (am_elm 9 (0 + (j - 0))) (List.mem_map.mpr ⟨j - 0, List.mem_range.mpr (by omega), rfl⟩)
  rw [show 0 + (j - 0) = j by omega] at this
  exact this
set_option maxRecDepth 100000 in
theorem fl_e_10_0 : ∀ w ∈ (List.range 5).map (fun j => am_elm 10 (0 + j)), w ∈ am_fla := fl_r _ [270, 271, 272, 273, 274] (by decide +kernel)
theorem fl_e_10 : ∀ j, j < 5 → am_elm 10 j ∈ am_fla := by
  intro j hj
  have := fl_e_10_0 (am_elm 10 (0 + (j - 0))) (List.mem_map.mpr ⟨j - 0, List.mem_range.mpr (by omega), rfl⟩)
  rw [show 0 + (j - 0) = j by omega] at this
  exact this
set_option maxRecDepth 100000 in
theorem fl_e_11_0 : ∀ w ∈ (List.range 5).map (fun j => am_elm 11 (0 + j)), w ∈ am_fla := fl_r _ [289, 290, 291, 292, 293] (by decide +kernel)
theorem fl_e_11 : ∀ j, j < 5 → am_elm 11 j ∈ am_fla := by
  intro j hj
  have := fl_e_11_0 (am_elm 11 (0 + (j - 0))) (List.mem_map.mpr ⟨j - 0, List.mem_range.mpr (by omega), rfl⟩)
  rw [show 0 + (j - 0) = j by omega] at this
  exact this
set_option maxRecDepth 100000 in
theorem fl_e_12_0 : ∀ w ∈ (List.range 3).map (fun j => am_elm 12 (0 + j)), w ∈ am_fla := fl_r _ [309, 310, 311] (by decide +kernel)
theorem fl_e_12 : ∀ j, j < 3 → am_elm 12 j ∈ am_fla := by
  intro j hj
  have := fl_e_12_0 (am_elm 12 (0 + (j - 0))) (List.mem_map.mpr ⟨j - 0, List.mem_range.mpr (by omega), rfl⟩)
  rw [show 0 + (j - 0) = j by omega] at this
  exact this
set_option maxRecDepth 100000 in
theorem fl_e_13_0 : ∀ w ∈ (List.range 5).map (fun j => am_elm 13 (0 + j)), w ∈ am_fla := fl_r _ [328, 329, 330, 331, 332] (by decide +kernel)
theorem fl_e_13 : ∀ j, j < 5 → am_elm 13 j ∈ am_fla := by
  intro j hj
  have := fl_e_13_0 (am_elm 13 (0 + (j - 0))) (List.mem_map.mpr ⟨j - 0, List.mem_range.mpr (by omega), rfl⟩)
  rw [show 0 + (j - 0) = j by omega] at this
  exact this
set_option maxRecDepth 100000 in
theorem fl_e_14_0 : ∀ w ∈ (List.range 5).map (fun j => am_elm 14 (0 + j)), w ∈ am_fla := fl_r _ [350, 351, 352, 353, 354] (by decide +kernel)
theorem fl_e_14 : ∀ j, j < 5 → am_elm 14 j ∈ am_fla := by
  intro j hj
  have := fl_e_14_0 (am_elm 14 (0 + (j - 0))) (List.mem_map.mpr ⟨j - 0, List.mem_range.mpr (by omega), rfl⟩)
  rw [show 0 + (j - 0) = j by omega] at this
  exact this
set_option maxRecDepth 100000 in
theorem fl_e_15_0 : ∀ w ∈ (List.range 7).map (fun j => am_elm 15 (0 + j)), w ∈ am_fla := fl_r _ [373, 374, 375, 376, 377, 378, 379] (by decide +kernel)
theorem fl_e_15 : ∀ j, j < 7 → am_elm 15 j ∈ am_fla := by
  intro j hj
  have := fl_e_15_0 (am_elm 15 (0 + (j - 0))) (List.mem_map.mpr ⟨j - 0, List.mem_range.mpr (by omega), rfl⟩)
  rw [show 0 + (j - 0) = j by omega] at this
  exact this
set_option maxRecDepth 100000 in
theorem fl_e_16_0 : ∀ w ∈ (List.range 6).map (fun j => am_elm 16 (0 + j)), w ∈ am_fla := fl_r _ [399, 400, 401, 402, 403, 404] (by decide +kernel)
theorem fl_e_16 : ∀ j, j < 6 → am_elm 16 j ∈ am_fla := by
  intro j hj
  have := fl_e_16_0 (am_elm 16 (0 + (j - 0))) (List.mem_map.mpr ⟨j - 0, List.mem_range.mpr (by omega), rfl⟩)
  rw [show 0 + (j - 0) = j by omega] at this
  exact this
theorem fl_elm : ∀ i, i < 17 → ∀ j, j < am_lens.getD i 0 → am_elm i j ∈ am_fla
  | 0, _ => fl_e_0
  | 1, _ => fl_e_1
  | 2, _ => fl_e_2
  | 3, _ => fl_e_3
  | 4, _ => fl_e_4
  | 5, _ => fl_e_5
  | 6, _ => fl_e_6
  | 7, _ => fl_e_7
  | 8, _ => fl_e_8
  | 9, _ => fl_e_9
  | 10, _ => fl_e_10
  | 11, _ => fl_e_11
  | 12, _ => fl_e_12
  | 13, _ => fl_e_13
  | 14, _ => fl_e_14
  | 15, _ => fl_e_15
  | 16, _ => fl_e_16
  | n + 17, h => absurd h (by omega)
def am_prs : List (Nat × Nat) := [(0, 1), (0, 2), (0, 3), (0, 4), (0, 5), (0, 6), (0, 7), (0, 8), (0, 9), (0, 10), (0, 11), (0, 12), (0, 13), (0, 14), (0, 15), (0, 16), (1, 2), (1, 3), (1, 4), (1, 5), (1, 6), (1, 7), (1, 8), (1, 9), (1, 10), (1, 11), (1, 12), (1, 13), (1, 14), (1, 15), (1, 16), (2, 3), (2, 4), (2, 5), (2, 6), (2, 7), (2, 8), (2, 9), (2, 10), (2, 11), (2, 12), (2, 13), (2, 14), (2, 15), (2, 16), (3, 4), (3, 5), (3, 6), (3, 7), (3, 8), (3, 9), (3, 10), (3, 11), (3, 12), (3, 13), (3, 14), (3, 15), (3, 16), (4, 5), (4, 6), (4, 7), (4, 8), (4, 9), (4, 10), (4, 11), (4, 12), (4, 13), (4, 14), (4, 15), (4, 16), (5, 6), (5, 7), (5, 8), (5, 9), (5, 10), (5, 11), (5, 12), (5, 13), (5, 14), (5, 15), (5, 16), (6, 7), (6, 8), (6, 9), (6, 10), (6, 11), (6, 12), (6, 13), (6, 14), (6, 15), (6, 16), (7, 8), (7, 9), (7, 10), (7, 11), (7, 12), (7, 13), (7, 14), (7, 15), (7, 16), (8, 9), (8, 10), (8, 11), (8, 12), (8, 13), (8, 14), (8, 15), (8, 16), (9, 10), (9, 11), (9, 12), (9, 13), (9, 14), (9, 15), (9, 16), (10, 11), (10, 12), (10, 13), (10, 14), (10, 15), (10, 16), (11, 12), (11, 13), (11, 14), (11, 15), (11, 16), (12, 13), (12, 14), (12, 15), (12, 16), (13, 14), (13, 15), (13, 16), (14, 15), (14, 16), (15, 16)]
set_option maxRecDepth 100000 in
theorem fl_n_0 : ∀ w ∈ ([(0, 1), (0, 2), (0, 3), (0, 4), (0, 5), (0, 6), (0, 7), (0, 8), (0, 9), (0, 10), (0, 11), (0, 12), (0, 13), (0, 14), (0, 15), (0, 16), (1, 2), (1, 3), (1, 4), (1, 5), (1, 6), (1, 7), (1, 8), (1, 9), (1, 10), (1, 11), (1, 12), (1, 13), (1, 14), (1, 15), (1, 16), (2, 3), (2, 4), (2, 5)] : List (Nat × Nat)).map (fun z => Cond.not (Cond.eq (am_stm z.1) (am_stm z.2))), w ∈ am_fla := fl_r _ [161, 168, 177, 186, 197, 211, 225, 240, 257, 275, 294, 312, 333, 355, 380, 405, 169, 178, 187, 198, 212, 226, 241, 258, 276, 295, 313, 334, 356, 381, 406, 179, 188, 199] (by decide +kernel)
set_option maxRecDepth 100000 in
theorem fl_n_1 : ∀ w ∈ ([(2, 6), (2, 7), (2, 8), (2, 9), (2, 10), (2, 11), (2, 12), (2, 13), (2, 14), (2, 15), (2, 16), (3, 4), (3, 5), (3, 6), (3, 7), (3, 8), (3, 9), (3, 10), (3, 11), (3, 12), (3, 13), (3, 14), (3, 15), (3, 16), (4, 5), (4, 6), (4, 7), (4, 8), (4, 9), (4, 10), (4, 11), (4, 12), (4, 13), (4, 14)] : List (Nat × Nat)).map (fun z => Cond.not (Cond.eq (am_stm z.1) (am_stm z.2))), w ∈ am_fla := fl_r _ [213, 227, 242, 259, 277, 296, 314, 335, 357, 382, 407, 189, 200, 214, 228, 243, 260, 278, 297, 315, 336, 358, 383, 408, 201, 215, 229, 244, 261, 279, 298, 316, 337, 359] (by decide +kernel)
set_option maxRecDepth 100000 in
theorem fl_n_2 : ∀ w ∈ ([(4, 15), (4, 16), (5, 6), (5, 7), (5, 8), (5, 9), (5, 10), (5, 11), (5, 12), (5, 13), (5, 14), (5, 15), (5, 16), (6, 7), (6, 8), (6, 9), (6, 10), (6, 11), (6, 12), (6, 13), (6, 14), (6, 15), (6, 16), (7, 8), (7, 9), (7, 10), (7, 11), (7, 12), (7, 13), (7, 14), (7, 15), (7, 16), (8, 9), (8, 10)] : List (Nat × Nat)).map (fun z => Cond.not (Cond.eq (am_stm z.1) (am_stm z.2))), w ∈ am_fla := fl_r _ [384, 409, 216, 230, 245, 262, 280, 299, 317, 338, 360, 385, 410, 231, 246, 263, 281, 300, 318, 339, 361, 386, 411, 247, 264, 282, 301, 319, 340, 362, 387, 412, 265, 283] (by decide +kernel)
set_option maxRecDepth 100000 in
theorem fl_n_3 : ∀ w ∈ ([(8, 11), (8, 12), (8, 13), (8, 14), (8, 15), (8, 16), (9, 10), (9, 11), (9, 12), (9, 13), (9, 14), (9, 15), (9, 16), (10, 11), (10, 12), (10, 13), (10, 14), (10, 15), (10, 16), (11, 12), (11, 13), (11, 14), (11, 15), (11, 16), (12, 13), (12, 14), (12, 15), (12, 16), (13, 14), (13, 15), (13, 16), (14, 15), (14, 16), (15, 16)] : List (Nat × Nat)).map (fun z => Cond.not (Cond.eq (am_stm z.1) (am_stm z.2))), w ∈ am_fla := fl_r _ [302, 320, 341, 363, 388, 413, 284, 303, 321, 342, 364, 389, 414, 304, 322, 343, 365, 390, 415, 323, 344, 366, 391, 416, 345, 367, 392, 417, 368, 393, 418, 394, 419, 420] (by decide +kernel)
theorem fl_nz : ∀ z ∈ am_prs, Cond.not (Cond.eq (am_stm z.1) (am_stm z.2)) ∈ am_fla := by
  intro z hz
  have hz : z ∈ ([(0, 1), (0, 2), (0, 3), (0, 4), (0, 5), (0, 6), (0, 7), (0, 8), (0, 9), (0, 10), (0, 11), (0, 12), (0, 13), (0, 14), (0, 15), (0, 16), (1, 2), (1, 3), (1, 4), (1, 5), (1, 6), (1, 7), (1, 8), (1, 9), (1, 10), (1, 11), (1, 12), (1, 13), (1, 14), (1, 15), (1, 16), (2, 3), (2, 4), (2, 5)] : List (Nat × Nat)) ++ ([(2, 6), (2, 7), (2, 8), (2, 9), (2, 10), (2, 11), (2, 12), (2, 13), (2, 14), (2, 15), (2, 16), (3, 4), (3, 5), (3, 6), (3, 7), (3, 8), (3, 9), (3, 10), (3, 11), (3, 12), (3, 13), (3, 14), (3, 15), (3, 16), (4, 5), (4, 6), (4, 7), (4, 8), (4, 9), (4, 10), (4, 11), (4, 12), (4, 13), (4, 14)] : List (Nat × Nat)) ++ ([(4, 15), (4, 16), (5, 6), (5, 7), (5, 8), (5, 9), (5, 10), (5, 11), (5, 12), (5, 13), (5, 14), (5, 15), (5, 16), (6, 7), (6, 8), (6, 9), (6, 10), (6, 11), (6, 12), (6, 13), (6, 14), (6, 15), (6, 16), (7, 8), (7, 9), (7, 10), (7, 11), (7, 12), (7, 13), (7, 14), (7, 15), (7, 16), (8, 9), (8, 10)] : List (Nat × Nat)) ++ ([(8, 11), (8, 12), (8, 13), (8, 14), (8, 15), (8, 16), (9, 10), (9, 11), (9, 12), (9, 13), (9, 14), (9, 15), (9, 16), (10, 11), (10, 12), (10, 13), (10, 14), (10, 15), (10, 16), (11, 12), (11, 13), (11, 14), (11, 15), (11, 16), (12, 13), (12, 14), (12, 15), (12, 16), (13, 14), (13, 15), (13, 16), (14, 15), (14, 16), (15, 16)] : List (Nat × Nat)) := hz
  simp only [List.mem_append] at hz
  rcases hz with ((hz | hz) | hz) | hz
  · exact fl_n_0 _ (List.mem_map.mpr ⟨z, hz, rfl⟩)
  · exact fl_n_1 _ (List.mem_map.mpr ⟨z, hz, rfl⟩)
  · exact fl_n_2 _ (List.mem_map.mpr ⟨z, hz, rfl⟩)
  · exact fl_n_3 _ (List.mem_map.mpr ⟨z, hz, rfl⟩)
set_option maxRecDepth 100000 in
theorem fl_prb : (List.range 17).all (fun i => (List.range 17).all (fun j => (i == j || am_prs.contains (i, j)) || am_prs.contains (j, i))) = true := by decide +kernel
theorem fl_prs (i : Nat) (hi : i < 17) (j : Nat) (hj : j < 17) (h : i ≠ j) : (i, j) ∈ am_prs ∨ (j, i) ∈ am_prs := by
  have := List.all_eq_true.mp (List.all_eq_true.mp fl_prb i (List.mem_range.mpr hi)) j (List.mem_range.mpr hj)
  rw [Bool.or_eq_true, Bool.or_eq_true] at this
  rcases this with (e | e) | e
  · exact absurd (beq_iff_eq.mp e) h
  · exact Or.inl (List.contains_iff_mem.mp e)
  · exact Or.inr (List.contains_iff_mem.mp e)
theorem fl_neq : ∀ i, i < 17 → ∀ j, j < 17 → i ≠ j → Cond.not (Cond.eq (am_stm i) (am_stm j)) ∈ am_fla ∨ Cond.not (Cond.eq (am_stm j) (am_stm i)) ∈ am_fla := fun i hi j hj h => (fl_prs i hi j hj h).imp (fl_nz _) (fl_nz _)
theorem fl_stm : ∀ q ∈ am_strs, q.2.2.2 < 17 ∧ am_stm q.2.2.2 = .string q.1 q.2.1 := by decide
