/-! the field: leaf functions by running them on all hexagons -/
def kx_nbT : List (List Int32) := [[1, (-1), (-1), (-1), 4, 5], [2, (-1), (-1), 0, 5, 6], [3, (-1), (-1), 1, 6, 7], [(-1), (-1), (-1), 2, 7, 8], [5, 0, (-1), (-1), 9, 10], [6, 1, 0, 4, 10, 11], [7, 2, 1, 5, 11, 12], [8, 3, 2, 6, 12, 13], [(-1), (-1), 3, 7, 13, 14], [10, 4, (-1), (-1), 15, 16], [11, 5, 4, 9, 16, 17], [12, 6, 5, 10, 17, 18], [13, 7, 6, 11, 18, 19], [14, 8, 7, 12, 19, 20], [(-1), (-1), 8, 13, 20, 21], [16, 9, (-1), (-1), (-1), 22], [17, 10, 9, 15, 22, 23], [18, 11, 10, 16, 23, 24], [19, 12, 11, 17, 24, 25], [20, 13, 12, 18, 25, 26], [21, 14, 13, 19, 26, 27], [(-1), (-1), 14, 20, 27, (-1)], [23, 16, 15, (-1), (-1), 28], [24, 17, 16, 22, 28, 29], [25, 18, 17, 23, 29, 30], [26, 19, 18, 24, 30, 31], [27, 20, 19, 25, 31, 32], [(-1), 21, 20, 26, 32, (-1)], [29, 23, 22, (-1), (-1), 33], [30, 24, 23, 28, 33, 34], [31, 25, 24, 29, 34, 35], [32, 26, 25, 30, 35, 36], [(-1), 27, 26, 31, 36, (-1)], [34, 29, 28, (-1), (-1), (-1)], [35, 30, 29, 33, (-1), (-1)], [36, 31, 30, 34, (-1), (-1)], [(-1), 32, 31, 35, (-1), (-1)]]
def kx_rowT : List Int32 := [0, 0, 0, 0, 1, 1, 1, 1, 1, 2, 2, 2, 2, 2, 2, 3, 3, 3, 3, 3, 3, 3, 4, 4, 4, 4, 4, 4, 5, 5, 5, 5, 5, 6, 6, 6, 6]
def kx_slT : List Int32 := [0, 1, 2, 3, 0, 1, 2, 3, 4, 0, 1, 2, 3, 4, 5, 0, 1, 2, 3, 4, 5, 6, 1, 2, 3, 4, 5, 6, 2, 3, 4, 5, 6, 3, 4, 5, 6]
/-- the hexagon beside h in the direction d, -1: none -/
def kx_nb (h d : Nat) : Int32 := (kx_nbT.getD h []).getD d (-1)
/-- n steps on -/
def kx_wk (h d : Nat) : Nat → Int32
  | 0 => Int32.ofNat h
  | n + 1 => if kx_wk h d n < 0 then -1 else kx_nb (kx_wk h d n).toNatClampNeg d
theorem kx_c_119 {x : Int32} (M : kx_M) : kx_call 119 [.int x] M = some (some (.int (if x < 4 then 4 + x else 10 - x)), M) := by
  rw [kx_o119]
  by_cases h : x < 4
  · simp only [kx_e119_0, kx_e119_1, kx_e119_2, kx_e119_5, kx_e119_6, kx_e119_7, kx_e119_8, kx_e119_11, kx_e119_13, kx_e119_14, kx_e119_15, ↓reduceIte, Option.bind_some, Option.bind_none, Option.toList_some, Option.toList_none, List.cons_append, List.nil_append, kx_nat_s, not_true_eq_false, not_false_eq_true, Int32.reduceAdd, Int32.reduceSub, Int32.reduceLT, Int32.reduceLE, Int32.reduceMul, Int32.reduceDiv, Int32.reduceMod, Nat.reduceLT, Nat.reduceLeDiff, Nat.reduceEqDiff, Nat.reduceAdd, true_and, and_true, Int32.not_le, Int32.not_lt, h, Int32.not_le.mpr h]
  · simp only [kx_e119_0, kx_e119_1, kx_e119_2, kx_e119_5, kx_e119_6, kx_e119_7, kx_e119_8, kx_e119_11, kx_e119_13, kx_e119_14, kx_e119_15, ↓reduceIte, Option.bind_some, Option.bind_none, Option.toList_some, Option.toList_none, List.cons_append, List.nil_append, kx_nat_s, not_true_eq_false, not_false_eq_true, Int32.reduceAdd, Int32.reduceSub, Int32.reduceLT, Int32.reduceLE, Int32.reduceMul, Int32.reduceDiv, Int32.reduceMod, Nat.reduceLT, Nat.reduceLeDiff, Nat.reduceEqDiff, Nat.reduceAdd, true_and, and_true, Int32.not_le, Int32.not_lt, h, Int32.not_lt.mp h]
set_option maxRecDepth 20000 in
theorem kx_c_118_0 (M : kx_M) : kx_call 118 [.int 0] M = some (some (.int 0), M) := by
  rw [kx_o118]
  simp only [kx_e118_0, kx_e118_1, kx_e118_2, kx_e118_3, kx_e118_4, kx_e118_5, kx_e118_6, kx_e118_9, kx_e118_10, kx_e118_11, kx_e118_14, kx_e118_15, kx_e118_16, kx_e118_19, kx_e118_22, kx_e118_23, kx_c_119, ↓reduceIte, Option.bind_some, Option.bind_none, Option.toList_some, Option.toList_none, List.cons_append, List.nil_append, kx_nat_s, not_true_eq_false, not_false_eq_true, Int32.reduceAdd, Int32.reduceSub, Int32.reduceLT, Int32.reduceLE, Int32.reduceMul, Int32.reduceDiv, Int32.reduceMod, Nat.reduceLT, Nat.reduceLeDiff, Nat.reduceEqDiff, Nat.reduceAdd, true_and, and_true, Int32.not_le, Int32.not_lt]
set_option maxRecDepth 20000 in
theorem kx_c_118_1 (M : kx_M) : kx_call 118 [.int 1] M = some (some (.int 4), M) := by
  rw [kx_o118]
  simp only [kx_e118_0, kx_e118_1, kx_e118_2, kx_e118_3, kx_e118_4, kx_e118_5, kx_e118_6, kx_e118_9, kx_e118_10, kx_e118_11, kx_e118_14, kx_e118_15, kx_e118_16, kx_e118_19, kx_e118_22, kx_e118_23, kx_c_119, ↓reduceIte, Option.bind_some, Option.bind_none, Option.toList_some, Option.toList_none, List.cons_append, List.nil_append, kx_nat_s, not_true_eq_false, not_false_eq_true, Int32.reduceAdd, Int32.reduceSub, Int32.reduceLT, Int32.reduceLE, Int32.reduceMul, Int32.reduceDiv, Int32.reduceMod, Nat.reduceLT, Nat.reduceLeDiff, Nat.reduceEqDiff, Nat.reduceAdd, true_and, and_true, Int32.not_le, Int32.not_lt]
set_option maxRecDepth 20000 in
theorem kx_c_118_2 (M : kx_M) : kx_call 118 [.int 2] M = some (some (.int 9), M) := by
  rw [kx_o118]
  simp only [kx_e118_0, kx_e118_1, kx_e118_2, kx_e118_3, kx_e118_4, kx_e118_5, kx_e118_6, kx_e118_9, kx_e118_10, kx_e118_11, kx_e118_14, kx_e118_15, kx_e118_16, kx_e118_19, kx_e118_22, kx_e118_23, kx_c_119, ↓reduceIte, Option.bind_some, Option.bind_none, Option.toList_some, Option.toList_none, List.cons_append, List.nil_append, kx_nat_s, not_true_eq_false, not_false_eq_true, Int32.reduceAdd, Int32.reduceSub, Int32.reduceLT, Int32.reduceLE, Int32.reduceMul, Int32.reduceDiv, Int32.reduceMod, Nat.reduceLT, Nat.reduceLeDiff, Nat.reduceEqDiff, Nat.reduceAdd, true_and, and_true, Int32.not_le, Int32.not_lt]
set_option maxRecDepth 20000 in
theorem kx_c_118_3 (M : kx_M) : kx_call 118 [.int 3] M = some (some (.int 15), M) := by
  rw [kx_o118]
  simp only [kx_e118_0, kx_e118_1, kx_e118_2, kx_e118_3, kx_e118_4, kx_e118_5, kx_e118_6, kx_e118_9, kx_e118_10, kx_e118_11, kx_e118_14, kx_e118_15, kx_e118_16, kx_e118_19, kx_e118_22, kx_e118_23, kx_c_119, ↓reduceIte, Option.bind_some, Option.bind_none, Option.toList_some, Option.toList_none, List.cons_append, List.nil_append, kx_nat_s, not_true_eq_false, not_false_eq_true, Int32.reduceAdd, Int32.reduceSub, Int32.reduceLT, Int32.reduceLE, Int32.reduceMul, Int32.reduceDiv, Int32.reduceMod, Nat.reduceLT, Nat.reduceLeDiff, Nat.reduceEqDiff, Nat.reduceAdd, true_and, and_true, Int32.not_le, Int32.not_lt]
set_option maxRecDepth 20000 in
theorem kx_c_118_4 (M : kx_M) : kx_call 118 [.int 4] M = some (some (.int 22), M) := by
  rw [kx_o118]
  simp only [kx_e118_0, kx_e118_1, kx_e118_2, kx_e118_3, kx_e118_4, kx_e118_5, kx_e118_6, kx_e118_9, kx_e118_10, kx_e118_11, kx_e118_14, kx_e118_15, kx_e118_16, kx_e118_19, kx_e118_22, kx_e118_23, kx_c_119, ↓reduceIte, Option.bind_some, Option.bind_none, Option.toList_some, Option.toList_none, List.cons_append, List.nil_append, kx_nat_s, not_true_eq_false, not_false_eq_true, Int32.reduceAdd, Int32.reduceSub, Int32.reduceLT, Int32.reduceLE, Int32.reduceMul, Int32.reduceDiv, Int32.reduceMod, Nat.reduceLT, Nat.reduceLeDiff, Nat.reduceEqDiff, Nat.reduceAdd, true_and, and_true, Int32.not_le, Int32.not_lt]
set_option maxRecDepth 20000 in
theorem kx_c_118_5 (M : kx_M) : kx_call 118 [.int 5] M = some (some (.int 28), M) := by
  rw [kx_o118]
  simp only [kx_e118_0, kx_e118_1, kx_e118_2, kx_e118_3, kx_e118_4, kx_e118_5, kx_e118_6, kx_e118_9, kx_e118_10, kx_e118_11, kx_e118_14, kx_e118_15, kx_e118_16, kx_e118_19, kx_e118_22, kx_e118_23, kx_c_119, ↓reduceIte, Option.bind_some, Option.bind_none, Option.toList_some, Option.toList_none, List.cons_append, List.nil_append, kx_nat_s, not_true_eq_false, not_false_eq_true, Int32.reduceAdd, Int32.reduceSub, Int32.reduceLT, Int32.reduceLE, Int32.reduceMul, Int32.reduceDiv, Int32.reduceMod, Nat.reduceLT, Nat.reduceLeDiff, Nat.reduceEqDiff, Nat.reduceAdd, true_and, and_true, Int32.not_le, Int32.not_lt]
set_option maxRecDepth 20000 in
theorem kx_c_118_6 (M : kx_M) : kx_call 118 [.int 6] M = some (some (.int 33), M) := by
  rw [kx_o118]
  simp only [kx_e118_0, kx_e118_1, kx_e118_2, kx_e118_3, kx_e118_4, kx_e118_5, kx_e118_6, kx_e118_9, kx_e118_10, kx_e118_11, kx_e118_14, kx_e118_15, kx_e118_16, kx_e118_19, kx_e118_22, kx_e118_23, kx_c_119, ↓reduceIte, Option.bind_some, Option.bind_none, Option.toList_some, Option.toList_none, List.cons_append, List.nil_append, kx_nat_s, not_true_eq_false, not_false_eq_true, Int32.reduceAdd, Int32.reduceSub, Int32.reduceLT, Int32.reduceLE, Int32.reduceMul, Int32.reduceDiv, Int32.reduceMod, Nat.reduceLT, Nat.reduceLeDiff, Nat.reduceEqDiff, Nat.reduceAdd, true_and, and_true, Int32.not_le, Int32.not_lt]
set_option maxRecDepth 20000 in
theorem kx_c_117_0 (M : kx_M) : kx_call 117 [.int 0] M = some (some (.int 0), M) := by
  rw [kx_o117]
  simp only [kx_e117_0, kx_e117_1, kx_e117_2, kx_e117_3, kx_e117_6, kx_e117_7, kx_e117_10, kx_e117_11, kx_e117_12, kx_e117_15, kx_e117_18, kx_e117_21, kx_e117_22, kx_c_119, kx_c_118_0, kx_c_118_1, kx_c_118_2, kx_c_118_3, kx_c_118_4, kx_c_118_5, kx_c_118_6, ↓reduceIte, Option.bind_some, Option.bind_none, Option.toList_some, Option.toList_none, List.cons_append, List.nil_append, kx_nat_s, not_true_eq_false, not_false_eq_true, Int32.reduceAdd, Int32.reduceSub, Int32.reduceLT, Int32.reduceLE, Int32.reduceMul, Int32.reduceDiv, Int32.reduceMod, Nat.reduceLT, Nat.reduceLeDiff, Nat.reduceEqDiff, Nat.reduceAdd, true_and, and_true, Int32.not_le, Int32.not_lt]
set_option maxRecDepth 20000 in
theorem kx_c_117_1 (M : kx_M) : kx_call 117 [.int 1] M = some (some (.int 0), M) := by
  rw [kx_o117]
  simp only [kx_e117_0, kx_e117_1, kx_e117_2, kx_e117_3, kx_e117_6, kx_e117_7, kx_e117_10, kx_e117_11, kx_e117_12, kx_e117_15, kx_e117_18, kx_e117_21, kx_e117_22, kx_c_119, kx_c_118_0, kx_c_118_1, kx_c_118_2, kx_c_118_3, kx_c_118_4, kx_c_118_5, kx_c_118_6, ↓reduceIte, Option.bind_some, Option.bind_none, Option.toList_some, Option.toList_none, List.cons_append, List.nil_append, kx_nat_s, not_true_eq_false, not_false_eq_true, Int32.reduceAdd, Int32.reduceSub, Int32.reduceLT, Int32.reduceLE, Int32.reduceMul, Int32.reduceDiv, Int32.reduceMod, Nat.reduceLT, Nat.reduceLeDiff, Nat.reduceEqDiff, Nat.reduceAdd, true_and, and_true, Int32.not_le, Int32.not_lt]
set_option maxRecDepth 20000 in
theorem kx_c_117_2 (M : kx_M) : kx_call 117 [.int 2] M = some (some (.int 0), M) := by
  rw [kx_o117]
  simp only [kx_e117_0, kx_e117_1, kx_e117_2, kx_e117_3, kx_e117_6, kx_e117_7, kx_e117_10, kx_e117_11, kx_e117_12, kx_e117_15, kx_e117_18, kx_e117_21, kx_e117_22, kx_c_119, kx_c_118_0, kx_c_118_1, kx_c_118_2, kx_c_118_3, kx_c_118_4, kx_c_118_5, kx_c_118_6, ↓reduceIte, Option.bind_some, Option.bind_none, Option.toList_some, Option.toList_none, List.cons_append, List.nil_append, kx_nat_s, not_true_eq_false, not_false_eq_true, Int32.reduceAdd, Int32.reduceSub, Int32.reduceLT, Int32.reduceLE, Int32.reduceMul, Int32.reduceDiv, Int32.reduceMod, Nat.reduceLT, Nat.reduceLeDiff, Nat.reduceEqDiff, Nat.reduceAdd, true_and, and_true, Int32.not_le, Int32.not_lt]
set_option maxRecDepth 20000 in
theorem kx_c_117_3 (M : kx_M) : kx_call 117 [.int 3] M = some (some (.int 0), M) := by
  rw [kx_o117]
  simp only [kx_e117_0, kx_e117_1, kx_e117_2, kx_e117_3, kx_e117_6, kx_e117_7, kx_e117_10, kx_e117_11, kx_e117_12, kx_e117_15, kx_e117_18, kx_e117_21, kx_e117_22, kx_c_119, kx_c_118_0, kx_c_118_1, kx_c_118_2, kx_c_118_3, kx_c_118_4, kx_c_118_5, kx_c_118_6, ↓reduceIte, Option.bind_some, Option.bind_none, Option.toList_some, Option.toList_none, List.cons_append, List.nil_append, kx_nat_s, not_true_eq_false, not_false_eq_true, Int32.reduceAdd, Int32.reduceSub, Int32.reduceLT, Int32.reduceLE, Int32.reduceMul, Int32.reduceDiv, Int32.reduceMod, Nat.reduceLT, Nat.reduceLeDiff, Nat.reduceEqDiff, Nat.reduceAdd, true_and, and_true, Int32.not_le, Int32.not_lt]
set_option maxRecDepth 20000 in
theorem kx_c_117_4 (M : kx_M) : kx_call 117 [.int 4] M = some (some (.int 1), M) := by
  rw [kx_o117]
  simp only [kx_e117_0, kx_e117_1, kx_e117_2, kx_e117_3, kx_e117_6, kx_e117_7, kx_e117_10, kx_e117_11, kx_e117_12, kx_e117_15, kx_e117_18, kx_e117_21, kx_e117_22, kx_c_119, kx_c_118_0, kx_c_118_1, kx_c_118_2, kx_c_118_3, kx_c_118_4, kx_c_118_5, kx_c_118_6, ↓reduceIte, Option.bind_some, Option.bind_none, Option.toList_some, Option.toList_none, List.cons_append, List.nil_append, kx_nat_s, not_true_eq_false, not_false_eq_true, Int32.reduceAdd, Int32.reduceSub, Int32.reduceLT, Int32.reduceLE, Int32.reduceMul, Int32.reduceDiv, Int32.reduceMod, Nat.reduceLT, Nat.reduceLeDiff, Nat.reduceEqDiff, Nat.reduceAdd, true_and, and_true, Int32.not_le, Int32.not_lt]
set_option maxRecDepth 20000 in
theorem kx_c_117_5 (M : kx_M) : kx_call 117 [.int 5] M = some (some (.int 1), M) := by
  rw [kx_o117]
  simp only [kx_e117_0, kx_e117_1, kx_e117_2, kx_e117_3, kx_e117_6, kx_e117_7, kx_e117_10, kx_e117_11, kx_e117_12, kx_e117_15, kx_e117_18, kx_e117_21, kx_e117_22, kx_c_119, kx_c_118_0, kx_c_118_1, kx_c_118_2, kx_c_118_3, kx_c_118_4, kx_c_118_5, kx_c_118_6, ↓reduceIte, Option.bind_some, Option.bind_none, Option.toList_some, Option.toList_none, List.cons_append, List.nil_append, kx_nat_s, not_true_eq_false, not_false_eq_true, Int32.reduceAdd, Int32.reduceSub, Int32.reduceLT, Int32.reduceLE, Int32.reduceMul, Int32.reduceDiv, Int32.reduceMod, Nat.reduceLT, Nat.reduceLeDiff, Nat.reduceEqDiff, Nat.reduceAdd, true_and, and_true, Int32.not_le, Int32.not_lt]
set_option maxRecDepth 20000 in
theorem kx_c_117_6 (M : kx_M) : kx_call 117 [.int 6] M = some (some (.int 1), M) := by
  rw [kx_o117]
  simp only [kx_e117_0, kx_e117_1, kx_e117_2, kx_e117_3, kx_e117_6, kx_e117_7, kx_e117_10, kx_e117_11, kx_e117_12, kx_e117_15, kx_e117_18, kx_e117_21, kx_e117_22, kx_c_119, kx_c_118_0, kx_c_118_1, kx_c_118_2, kx_c_118_3, kx_c_118_4, kx_c_118_5, kx_c_118_6, ↓reduceIte, Option.bind_some, Option.bind_none, Option.toList_some, Option.toList_none, List.cons_append, List.nil_append, kx_nat_s, not_true_eq_false, not_false_eq_true, Int32.reduceAdd, Int32.reduceSub, Int32.reduceLT, Int32.reduceLE, Int32.reduceMul, Int32.reduceDiv, Int32.reduceMod, Nat.reduceLT, Nat.reduceLeDiff, Nat.reduceEqDiff, Nat.reduceAdd, true_and, and_true, Int32.not_le, Int32.not_lt]
set_option maxRecDepth 20000 in
theorem kx_c_117_7 (M : kx_M) : kx_call 117 [.int 7] M = some (some (.int 1), M) := by
  rw [kx_o117]
  simp only [kx_e117_0, kx_e117_1, kx_e117_2, kx_e117_3, kx_e117_6, kx_e117_7, kx_e117_10, kx_e117_11, kx_e117_12, kx_e117_15, kx_e117_18, kx_e117_21, kx_e117_22, kx_c_119, kx_c_118_0, kx_c_118_1, kx_c_118_2, kx_c_118_3, kx_c_118_4, kx_c_118_5, kx_c_118_6, ↓reduceIte, Option.bind_some, Option.bind_none, Option.toList_some, Option.toList_none, List.cons_append, List.nil_append, kx_nat_s, not_true_eq_false, not_false_eq_true, Int32.reduceAdd, Int32.reduceSub, Int32.reduceLT, Int32.reduceLE, Int32.reduceMul, Int32.reduceDiv, Int32.reduceMod, Nat.reduceLT, Nat.reduceLeDiff, Nat.reduceEqDiff, Nat.reduceAdd, true_and, and_true, Int32.not_le, Int32.not_lt]
set_option maxRecDepth 20000 in
theorem kx_c_117_8 (M : kx_M) : kx_call 117 [.int 8] M = some (some (.int 1), M) := by
  rw [kx_o117]
  simp only [kx_e117_0, kx_e117_1, kx_e117_2, kx_e117_3, kx_e117_6, kx_e117_7, kx_e117_10, kx_e117_11, kx_e117_12, kx_e117_15, kx_e117_18, kx_e117_21, kx_e117_22, kx_c_119, kx_c_118_0, kx_c_118_1, kx_c_118_2, kx_c_118_3, kx_c_118_4, kx_c_118_5, kx_c_118_6, ↓reduceIte, Option.bind_some, Option.bind_none, Option.toList_some, Option.toList_none, List.cons_append, List.nil_append, kx_nat_s, not_true_eq_false, not_false_eq_true, Int32.reduceAdd, Int32.reduceSub, Int32.reduceLT, Int32.reduceLE, Int32.reduceMul, Int32.reduceDiv, Int32.reduceMod, Nat.reduceLT, Nat.reduceLeDiff, Nat.reduceEqDiff, Nat.reduceAdd, true_and, and_true, Int32.not_le, Int32.not_lt]
set_option maxRecDepth 20000 in
theorem kx_c_117_9 (M : kx_M) : kx_call 117 [.int 9] M = some (some (.int 2), M) := by
  rw [kx_o117]
  simp only [kx_e117_0, kx_e117_1, kx_e117_2, kx_e117_3, kx_e117_6, kx_e117_7, kx_e117_10, kx_e117_11, kx_e117_12, kx_e117_15, kx_e117_18, kx_e117_21, kx_e117_22, kx_c_119, kx_c_118_0, kx_c_118_1, kx_c_118_2, kx_c_118_3, kx_c_118_4, kx_c_118_5, kx_c_118_6, ↓reduceIte, Option.bind_some, Option.bind_none, Option.toList_some, Option.toList_none, List.cons_append, List.nil_append, kx_nat_s, not_true_eq_false, not_false_eq_true, Int32.reduceAdd, Int32.reduceSub, Int32.reduceLT, Int32.reduceLE, Int32.reduceMul, Int32.reduceDiv, Int32.reduceMod, Nat.reduceLT, Nat.reduceLeDiff, Nat.reduceEqDiff, Nat.reduceAdd, true_and, and_true, Int32.not_le, Int32.not_lt]
set_option maxRecDepth 20000 in
theorem kx_c_117_10 (M : kx_M) : kx_call 117 [.int 10] M = some (some (.int 2), M) := by
  rw [kx_o117]
  simp only [kx_e117_0, kx_e117_1, kx_e117_2, kx_e117_3, kx_e117_6, kx_e117_7, kx_e117_10, kx_e117_11, kx_e117_12, kx_e117_15, kx_e117_18, kx_e117_21, kx_e117_22, kx_c_119, kx_c_118_0, kx_c_118_1, kx_c_118_2, kx_c_118_3, kx_c_118_4, kx_c_118_5, kx_c_118_6, ↓reduceIte, Option.bind_some, Option.bind_none, Option.toList_some, Option.toList_none, List.cons_append, List.nil_append, kx_nat_s, not_true_eq_false, not_false_eq_true, Int32.reduceAdd, Int32.reduceSub, Int32.reduceLT, Int32.reduceLE, Int32.reduceMul, Int32.reduceDiv, Int32.reduceMod, Nat.reduceLT, Nat.reduceLeDiff, Nat.reduceEqDiff, Nat.reduceAdd, true_and, and_true, Int32.not_le, Int32.not_lt]
set_option maxRecDepth 20000 in
theorem kx_c_117_11 (M : kx_M) : kx_call 117 [.int 11] M = some (some (.int 2), M) := by
  rw [kx_o117]
  simp only [kx_e117_0, kx_e117_1, kx_e117_2, kx_e117_3, kx_e117_6, kx_e117_7, kx_e117_10, kx_e117_11, kx_e117_12, kx_e117_15, kx_e117_18, kx_e117_21, kx_e117_22, kx_c_119, kx_c_118_0, kx_c_118_1, kx_c_118_2, kx_c_118_3, kx_c_118_4, kx_c_118_5, kx_c_118_6, ↓reduceIte, Option.bind_some, Option.bind_none, Option.toList_some, Option.toList_none, List.cons_append, List.nil_append, kx_nat_s, not_true_eq_false, not_false_eq_true, Int32.reduceAdd, Int32.reduceSub, Int32.reduceLT, Int32.reduceLE, Int32.reduceMul, Int32.reduceDiv, Int32.reduceMod, Nat.reduceLT, Nat.reduceLeDiff, Nat.reduceEqDiff, Nat.reduceAdd, true_and, and_true, Int32.not_le, Int32.not_lt]
set_option maxRecDepth 20000 in
theorem kx_c_117_12 (M : kx_M) : kx_call 117 [.int 12] M = some (some (.int 2), M) := by
  rw [kx_o117]
  simp only [kx_e117_0, kx_e117_1, kx_e117_2, kx_e117_3, kx_e117_6, kx_e117_7, kx_e117_10, kx_e117_11, kx_e117_12, kx_e117_15, kx_e117_18, kx_e117_21, kx_e117_22, kx_c_119, kx_c_118_0, kx_c_118_1, kx_c_118_2, kx_c_118_3, kx_c_118_4, kx_c_118_5, kx_c_118_6, ↓reduceIte, Option.bind_some, Option.bind_none, Option.toList_some, Option.toList_none, List.cons_append, List.nil_append, kx_nat_s, not_true_eq_false, not_false_eq_true, Int32.reduceAdd, Int32.reduceSub, Int32.reduceLT, Int32.reduceLE, Int32.reduceMul, Int32.reduceDiv, Int32.reduceMod, Nat.reduceLT, Nat.reduceLeDiff, Nat.reduceEqDiff, Nat.reduceAdd, true_and, and_true, Int32.not_le, Int32.not_lt]
set_option maxRecDepth 20000 in
theorem kx_c_117_13 (M : kx_M) : kx_call 117 [.int 13] M = some (some (.int 2), M) := by
  rw [kx_o117]
  simp only [kx_e117_0, kx_e117_1, kx_e117_2, kx_e117_3, kx_e117_6, kx_e117_7, kx_e117_10, kx_e117_11, kx_e117_12, kx_e117_15, kx_e117_18, kx_e117_21, kx_e117_22, kx_c_119, kx_c_118_0, kx_c_118_1, kx_c_118_2, kx_c_118_3, kx_c_118_4, kx_c_118_5, kx_c_118_6, ↓reduceIte, Option.bind_some, Option.bind_none, Option.toList_some, Option.toList_none, List.cons_append, List.nil_append, kx_nat_s, not_true_eq_false, not_false_eq_true, Int32.reduceAdd, Int32.reduceSub, Int32.reduceLT, Int32.reduceLE, Int32.reduceMul, Int32.reduceDiv, Int32.reduceMod, Nat.reduceLT, Nat.reduceLeDiff, Nat.reduceEqDiff, Nat.reduceAdd, true_and, and_true, Int32.not_le, Int32.not_lt]
set_option maxRecDepth 20000 in
theorem kx_c_117_14 (M : kx_M) : kx_call 117 [.int 14] M = some (some (.int 2), M) := by
  rw [kx_o117]
  simp only [kx_e117_0, kx_e117_1, kx_e117_2, kx_e117_3, kx_e117_6, kx_e117_7, kx_e117_10, kx_e117_11, kx_e117_12, kx_e117_15, kx_e117_18, kx_e117_21, kx_e117_22, kx_c_119, kx_c_118_0, kx_c_118_1, kx_c_118_2, kx_c_118_3, kx_c_118_4, kx_c_118_5, kx_c_118_6, ↓reduceIte, Option.bind_some, Option.bind_none, Option.toList_some, Option.toList_none, List.cons_append, List.nil_append, kx_nat_s, not_true_eq_false, not_false_eq_true, Int32.reduceAdd, Int32.reduceSub, Int32.reduceLT, Int32.reduceLE, Int32.reduceMul, Int32.reduceDiv, Int32.reduceMod, Nat.reduceLT, Nat.reduceLeDiff, Nat.reduceEqDiff, Nat.reduceAdd, true_and, and_true, Int32.not_le, Int32.not_lt]
set_option maxRecDepth 20000 in
theorem kx_c_117_15 (M : kx_M) : kx_call 117 [.int 15] M = some (some (.int 3), M) := by
  rw [kx_o117]
  simp only [kx_e117_0, kx_e117_1, kx_e117_2, kx_e117_3, kx_e117_6, kx_e117_7, kx_e117_10, kx_e117_11, kx_e117_12, kx_e117_15, kx_e117_18, kx_e117_21, kx_e117_22, kx_c_119, kx_c_118_0, kx_c_118_1, kx_c_118_2, kx_c_118_3, kx_c_118_4, kx_c_118_5, kx_c_118_6, ↓reduceIte, Option.bind_some, Option.bind_none, Option.toList_some, Option.toList_none, List.cons_append, List.nil_append, kx_nat_s, not_true_eq_false, not_false_eq_true, Int32.reduceAdd, Int32.reduceSub, Int32.reduceLT, Int32.reduceLE, Int32.reduceMul, Int32.reduceDiv, Int32.reduceMod, Nat.reduceLT, Nat.reduceLeDiff, Nat.reduceEqDiff, Nat.reduceAdd, true_and, and_true, Int32.not_le, Int32.not_lt]
set_option maxRecDepth 20000 in
theorem kx_c_117_16 (M : kx_M) : kx_call 117 [.int 16] M = some (some (.int 3), M) := by
  rw [kx_o117]
  simp only [kx_e117_0, kx_e117_1, kx_e117_2, kx_e117_3, kx_e117_6, kx_e117_7, kx_e117_10, kx_e117_11, kx_e117_12, kx_e117_15, kx_e117_18, kx_e117_21, kx_e117_22, kx_c_119, kx_c_118_0, kx_c_118_1, kx_c_118_2, kx_c_118_3, kx_c_118_4, kx_c_118_5, kx_c_118_6, ↓reduceIte, Option.bind_some, Option.bind_none, Option.toList_some, Option.toList_none, List.cons_append, List.nil_append, kx_nat_s, not_true_eq_false, not_false_eq_true, Int32.reduceAdd, Int32.reduceSub, Int32.reduceLT, Int32.reduceLE, Int32.reduceMul, Int32.reduceDiv, Int32.reduceMod, Nat.reduceLT, Nat.reduceLeDiff, Nat.reduceEqDiff, Nat.reduceAdd, true_and, and_true, Int32.not_le, Int32.not_lt]
set_option maxRecDepth 20000 in
theorem kx_c_117_17 (M : kx_M) : kx_call 117 [.int 17] M = some (some (.int 3), M) := by
  rw [kx_o117]
  simp only [kx_e117_0, kx_e117_1, kx_e117_2, kx_e117_3, kx_e117_6, kx_e117_7, kx_e117_10, kx_e117_11, kx_e117_12, kx_e117_15, kx_e117_18, kx_e117_21, kx_e117_22, kx_c_119, kx_c_118_0, kx_c_118_1, kx_c_118_2, kx_c_118_3, kx_c_118_4, kx_c_118_5, kx_c_118_6, ↓reduceIte, Option.bind_some, Option.bind_none, Option.toList_some, Option.toList_none, List.cons_append, List.nil_append, kx_nat_s, not_true_eq_false, not_false_eq_true, Int32.reduceAdd, Int32.reduceSub, Int32.reduceLT, Int32.reduceLE, Int32.reduceMul, Int32.reduceDiv, Int32.reduceMod, Nat.reduceLT, Nat.reduceLeDiff, Nat.reduceEqDiff, Nat.reduceAdd, true_and, and_true, Int32.not_le, Int32.not_lt]
set_option maxRecDepth 20000 in
theorem kx_c_117_18 (M : kx_M) : kx_call 117 [.int 18] M = some (some (.int 3), M) := by
  rw [kx_o117]
  simp only [kx_e117_0, kx_e117_1, kx_e117_2, kx_e117_3, kx_e117_6, kx_e117_7, kx_e117_10, kx_e117_11, kx_e117_12, kx_e117_15, kx_e117_18, kx_e117_21, kx_e117_22, kx_c_119, kx_c_118_0, kx_c_118_1, kx_c_118_2, kx_c_118_3, kx_c_118_4, kx_c_118_5, kx_c_118_6, ↓reduceIte, Option.bind_some, Option.bind_none, Option.toList_some, Option.toList_none, List.cons_append, List.nil_append, kx_nat_s, not_true_eq_false, not_false_eq_true, Int32.reduceAdd, Int32.reduceSub, Int32.reduceLT, Int32.reduceLE, Int32.reduceMul, Int32.reduceDiv, Int32.reduceMod, Nat.reduceLT, Nat.reduceLeDiff, Nat.reduceEqDiff, Nat.reduceAdd, true_and, and_true, Int32.not_le, Int32.not_lt]
set_option maxRecDepth 20000 in
theorem kx_c_117_19 (M : kx_M) : kx_call 117 [.int 19] M = some (some (.int 3), M) := by
  rw [kx_o117]
  simp only [kx_e117_0, kx_e117_1, kx_e117_2, kx_e117_3, kx_e117_6, kx_e117_7, kx_e117_10, kx_e117_11, kx_e117_12, kx_e117_15, kx_e117_18, kx_e117_21, kx_e117_22, kx_c_119, kx_c_118_0, kx_c_118_1, kx_c_118_2, kx_c_118_3, kx_c_118_4, kx_c_118_5, kx_c_118_6, ↓reduceIte, Option.bind_some, Option.bind_none, Option.toList_some, Option.toList_none, List.cons_append, List.nil_append, kx_nat_s, not_true_eq_false, not_false_eq_true, Int32.reduceAdd, Int32.reduceSub, Int32.reduceLT, Int32.reduceLE, Int32.reduceMul, Int32.reduceDiv, Int32.reduceMod, Nat.reduceLT, Nat.reduceLeDiff, Nat.reduceEqDiff, Nat.reduceAdd, true_and, and_true, Int32.not_le, Int32.not_lt]
set_option maxRecDepth 20000 in
theorem kx_c_117_20 (M : kx_M) : kx_call 117 [.int 20] M = some (some (.int 3), M) := by
  rw [kx_o117]
  simp only [kx_e117_0, kx_e117_1, kx_e117_2, kx_e117_3, kx_e117_6, kx_e117_7, kx_e117_10, kx_e117_11, kx_e117_12, kx_e117_15, kx_e117_18, kx_e117_21, kx_e117_22, kx_c_119, kx_c_118_0, kx_c_118_1, kx_c_118_2, kx_c_118_3, kx_c_118_4, kx_c_118_5, kx_c_118_6, ↓reduceIte, Option.bind_some, Option.bind_none, Option.toList_some, Option.toList_none, List.cons_append, List.nil_append, kx_nat_s, not_true_eq_false, not_false_eq_true, Int32.reduceAdd, Int32.reduceSub, Int32.reduceLT, Int32.reduceLE, Int32.reduceMul, Int32.reduceDiv, Int32.reduceMod, Nat.reduceLT, Nat.reduceLeDiff, Nat.reduceEqDiff, Nat.reduceAdd, true_and, and_true, Int32.not_le, Int32.not_lt]
set_option maxRecDepth 20000 in
theorem kx_c_117_21 (M : kx_M) : kx_call 117 [.int 21] M = some (some (.int 3), M) := by
  rw [kx_o117]
  simp only [kx_e117_0, kx_e117_1, kx_e117_2, kx_e117_3, kx_e117_6, kx_e117_7, kx_e117_10, kx_e117_11, kx_e117_12, kx_e117_15, kx_e117_18, kx_e117_21, kx_e117_22, kx_c_119, kx_c_118_0, kx_c_118_1, kx_c_118_2, kx_c_118_3, kx_c_118_4, kx_c_118_5, kx_c_118_6, ↓reduceIte, Option.bind_some, Option.bind_none, Option.toList_some, Option.toList_none, List.cons_append, List.nil_append, kx_nat_s, not_true_eq_false, not_false_eq_true, Int32.reduceAdd, Int32.reduceSub, Int32.reduceLT, Int32.reduceLE, Int32.reduceMul, Int32.reduceDiv, Int32.reduceMod, Nat.reduceLT, Nat.reduceLeDiff, Nat.reduceEqDiff, Nat.reduceAdd, true_and, and_true, Int32.not_le, Int32.not_lt]
set_option maxRecDepth 20000 in
theorem kx_c_117_22 (M : kx_M) : kx_call 117 [.int 22] M = some (some (.int 4), M) := by
  rw [kx_o117]
  simp only [kx_e117_0, kx_e117_1, kx_e117_2, kx_e117_3, kx_e117_6, kx_e117_7, kx_e117_10, kx_e117_11, kx_e117_12, kx_e117_15, kx_e117_18, kx_e117_21, kx_e117_22, kx_c_119, kx_c_118_0, kx_c_118_1, kx_c_118_2, kx_c_118_3, kx_c_118_4, kx_c_118_5, kx_c_118_6, ↓reduceIte, Option.bind_some, Option.bind_none, Option.toList_some, Option.toList_none, List.cons_append, List.nil_append, kx_nat_s, not_true_eq_false, not_false_eq_true, Int32.reduceAdd, Int32.reduceSub, Int32.reduceLT, Int32.reduceLE, Int32.reduceMul, Int32.reduceDiv, Int32.reduceMod, Nat.reduceLT, Nat.reduceLeDiff, Nat.reduceEqDiff, Nat.reduceAdd, true_and, and_true, Int32.not_le, Int32.not_lt]
set_option maxRecDepth 20000 in
theorem kx_c_117_23 (M : kx_M) : kx_call 117 [.int 23] M = some (some (.int 4), M) := by
  rw [kx_o117]
  simp only [kx_e117_0, kx_e117_1, kx_e117_2, kx_e117_3, kx_e117_6, kx_e117_7, kx_e117_10, kx_e117_11, kx_e117_12, kx_e117_15, kx_e117_18, kx_e117_21, kx_e117_22, kx_c_119, kx_c_118_0, kx_c_118_1, kx_c_118_2, kx_c_118_3, kx_c_118_4, kx_c_118_5, kx_c_118_6, ↓reduceIte, Option.bind_some, Option.bind_none, Option.toList_some, Option.toList_none, List.cons_append, List.nil_append, kx_nat_s, not_true_eq_false, not_false_eq_true, Int32.reduceAdd, Int32.reduceSub, Int32.reduceLT, Int32.reduceLE, Int32.reduceMul, Int32.reduceDiv, Int32.reduceMod, Nat.reduceLT, Nat.reduceLeDiff, Nat.reduceEqDiff, Nat.reduceAdd, true_and, and_true, Int32.not_le, Int32.not_lt]
set_option maxRecDepth 20000 in
theorem kx_c_117_24 (M : kx_M) : kx_call 117 [.int 24] M = some (some (.int 4), M) := by
  rw [kx_o117]
  simp only [kx_e117_0, kx_e117_1, kx_e117_2, kx_e117_3, kx_e117_6, kx_e117_7, kx_e117_10, kx_e117_11, kx_e117_12, kx_e117_15, kx_e117_18, kx_e117_21, kx_e117_22, kx_c_119, kx_c_118_0, kx_c_118_1, kx_c_118_2, kx_c_118_3, kx_c_118_4, kx_c_118_5, kx_c_118_6, ↓reduceIte, Option.bind_some, Option.bind_none, Option.toList_some, Option.toList_none, List.cons_append, List.nil_append, kx_nat_s, not_true_eq_false, not_false_eq_true, Int32.reduceAdd, Int32.reduceSub, Int32.reduceLT, Int32.reduceLE, Int32.reduceMul, Int32.reduceDiv, Int32.reduceMod, Nat.reduceLT, Nat.reduceLeDiff, Nat.reduceEqDiff, Nat.reduceAdd, true_and, and_true, Int32.not_le, Int32.not_lt]
set_option maxRecDepth 20000 in
theorem kx_c_117_25 (M : kx_M) : kx_call 117 [.int 25] M = some (some (.int 4), M) := by
  rw [kx_o117]
  simp only [kx_e117_0, kx_e117_1, kx_e117_2, kx_e117_3, kx_e117_6, kx_e117_7, kx_e117_10, kx_e117_11, kx_e117_12, kx_e117_15, kx_e117_18, kx_e117_21, kx_e117_22, kx_c_119, kx_c_118_0, kx_c_118_1, kx_c_118_2, kx_c_118_3, kx_c_118_4, kx_c_118_5, kx_c_118_6, ↓reduceIte, Option.bind_some, Option.bind_none, Option.toList_some, Option.toList_none, List.cons_append, List.nil_append, kx_nat_s, not_true_eq_false, not_false_eq_true, Int32.reduceAdd, Int32.reduceSub, Int32.reduceLT, Int32.reduceLE, Int32.reduceMul, Int32.reduceDiv, Int32.reduceMod, Nat.reduceLT, Nat.reduceLeDiff, Nat.reduceEqDiff, Nat.reduceAdd, true_and, and_true, Int32.not_le, Int32.not_lt]
set_option maxRecDepth 20000 in
theorem kx_c_117_26 (M : kx_M) : kx_call 117 [.int 26] M = some (some (.int 4), M) := by
  rw [kx_o117]
  simp only [kx_e117_0, kx_e117_1, kx_e117_2, kx_e117_3, kx_e117_6, kx_e117_7, kx_e117_10, kx_e117_11, kx_e117_12, kx_e117_15, kx_e117_18, kx_e117_21, kx_e117_22, kx_c_119, kx_c_118_0, kx_c_118_1, kx_c_118_2, kx_c_118_3, kx_c_118_4, kx_c_118_5, kx_c_118_6, ↓reduceIte, Option.bind_some, Option.bind_none, Option.toList_some, Option.toList_none, List.cons_append, List.nil_append, kx_nat_s, not_true_eq_false, not_false_eq_true, Int32.reduceAdd, Int32.reduceSub, Int32.reduceLT, Int32.reduceLE, Int32.reduceMul, Int32.reduceDiv, Int32.reduceMod, Nat.reduceLT, Nat.reduceLeDiff, Nat.reduceEqDiff, Nat.reduceAdd, true_and, and_true, Int32.not_le, Int32.not_lt]
set_option maxRecDepth 20000 in
theorem kx_c_117_27 (M : kx_M) : kx_call 117 [.int 27] M = some (some (.int 4), M) := by
  rw [kx_o117]
  simp only [kx_e117_0, kx_e117_1, kx_e117_2, kx_e117_3, kx_e117_6, kx_e117_7, kx_e117_10, kx_e117_11, kx_e117_12, kx_e117_15, kx_e117_18, kx_e117_21, kx_e117_22, kx_c_119, kx_c_118_0, kx_c_118_1, kx_c_118_2, kx_c_118_3, kx_c_118_4, kx_c_118_5, kx_c_118_6, ↓reduceIte, Option.bind_some, Option.bind_none, Option.toList_some, Option.toList_none, List.cons_append, List.nil_append, kx_nat_s, not_true_eq_false, not_false_eq_true, Int32.reduceAdd, Int32.reduceSub, Int32.reduceLT, Int32.reduceLE, Int32.reduceMul, Int32.reduceDiv, Int32.reduceMod, Nat.reduceLT, Nat.reduceLeDiff, Nat.reduceEqDiff, Nat.reduceAdd, true_and, and_true, Int32.not_le, Int32.not_lt]
set_option maxRecDepth 20000 in
theorem kx_c_117_28 (M : kx_M) : kx_call 117 [.int 28] M = some (some (.int 5), M) := by
  rw [kx_o117]
  simp only [kx_e117_0, kx_e117_1, kx_e117_2, kx_e117_3, kx_e117_6, kx_e117_7, kx_e117_10, kx_e117_11, kx_e117_12, kx_e117_15, kx_e117_18, kx_e117_21, kx_e117_22, kx_c_119, kx_c_118_0, kx_c_118_1, kx_c_118_2, kx_c_118_3, kx_c_118_4, kx_c_118_5, kx_c_118_6, ↓reduceIte, Option.bind_some, Option.bind_none, Option.toList_some, Option.toList_none, List.cons_append, List.nil_append, kx_nat_s, not_true_eq_false, not_false_eq_true, Int32.reduceAdd, Int32.reduceSub, Int32.reduceLT, Int32.reduceLE, Int32.reduceMul, Int32.reduceDiv, Int32.reduceMod, Nat.reduceLT, Nat.reduceLeDiff, Nat.reduceEqDiff, Nat.reduceAdd, true_and, and_true, Int32.not_le, Int32.not_lt]
set_option maxRecDepth 20000 in
theorem kx_c_117_29 (M : kx_M) : kx_call 117 [.int 29] M = some (some (.int 5), M) := by
  rw [kx_o117]
  simp only [kx_e117_0, kx_e117_1, kx_e117_2, kx_e117_3, kx_e117_6, kx_e117_7, kx_e117_10, kx_e117_11, kx_e117_12, kx_e117_15, kx_e117_18, kx_e117_21, kx_e117_22, kx_c_119, kx_c_118_0, kx_c_118_1, kx_c_118_2, kx_c_118_3, kx_c_118_4, kx_c_118_5, kx_c_118_6, ↓reduceIte, Option.bind_some, Option.bind_none, Option.toList_some, Option.toList_none, List.cons_append, List.nil_append, kx_nat_s, not_true_eq_false, not_false_eq_true, Int32.reduceAdd, Int32.reduceSub, Int32.reduceLT, Int32.reduceLE, Int32.reduceMul, Int32.reduceDiv, Int32.reduceMod, Nat.reduceLT, Nat.reduceLeDiff, Nat.reduceEqDiff, Nat.reduceAdd, true_and, and_true, Int32.not_le, Int32.not_lt]
set_option maxRecDepth 20000 in
theorem kx_c_117_30 (M : kx_M) : kx_call 117 [.int 30] M = some (some (.int 5), M) := by
  rw [kx_o117]
  simp only [kx_e117_0, kx_e117_1, kx_e117_2, kx_e117_3, kx_e117_6, kx_e117_7, kx_e117_10, kx_e117_11, kx_e117_12, kx_e117_15, kx_e117_18, kx_e117_21, kx_e117_22, kx_c_119, kx_c_118_0, kx_c_118_1, kx_c_118_2, kx_c_118_3, kx_c_118_4, kx_c_118_5, kx_c_118_6, ↓reduceIte, Option.bind_some, Option.bind_none, Option.toList_some, Option.toList_none, List.cons_append, List.nil_append, kx_nat_s, not_true_eq_false, not_false_eq_true, Int32.reduceAdd, Int32.reduceSub, Int32.reduceLT, Int32.reduceLE, Int32.reduceMul, Int32.reduceDiv, Int32.reduceMod, Nat.reduceLT, Nat.reduceLeDiff, Nat.reduceEqDiff, Nat.reduceAdd, true_and, and_true, Int32.not_le, Int32.not_lt]
set_option maxRecDepth 20000 in
theorem kx_c_117_31 (M : kx_M) : kx_call 117 [.int 31] M = some (some (.int 5), M) := by
  rw [kx_o117]
  simp only [kx_e117_0, kx_e117_1, kx_e117_2, kx_e117_3, kx_e117_6, kx_e117_7, kx_e117_10, kx_e117_11, kx_e117_12, kx_e117_15, kx_e117_18, kx_e117_21, kx_e117_22, kx_c_119, kx_c_118_0, kx_c_118_1, kx_c_118_2, kx_c_118_3, kx_c_118_4, kx_c_118_5, kx_c_118_6, ↓reduceIte, Option.bind_some, Option.bind_none, Option.toList_some, Option.toList_none, List.cons_append, List.nil_append, kx_nat_s, not_true_eq_false, not_false_eq_true, Int32.reduceAdd, Int32.reduceSub, Int32.reduceLT, Int32.reduceLE, Int32.reduceMul, Int32.reduceDiv, Int32.reduceMod, Nat.reduceLT, Nat.reduceLeDiff, Nat.reduceEqDiff, Nat.reduceAdd, true_and, and_true, Int32.not_le, Int32.not_lt]
set_option maxRecDepth 20000 in
theorem kx_c_117_32 (M : kx_M) : kx_call 117 [.int 32] M = some (some (.int 5), M) := by
  rw [kx_o117]
  simp only [kx_e117_0, kx_e117_1, kx_e117_2, kx_e117_3, kx_e117_6, kx_e117_7, kx_e117_10, kx_e117_11, kx_e117_12, kx_e117_15, kx_e117_18, kx_e117_21, kx_e117_22, kx_c_119, kx_c_118_0, kx_c_118_1, kx_c_118_2, kx_c_118_3, kx_c_118_4, kx_c_118_5, kx_c_118_6, ↓reduceIte, Option.bind_some, Option.bind_none, Option.toList_some, Option.toList_none, List.cons_append, List.nil_append, kx_nat_s, not_true_eq_false, not_false_eq_true, Int32.reduceAdd, Int32.reduceSub, Int32.reduceLT, Int32.reduceLE, Int32.reduceMul, Int32.reduceDiv, Int32.reduceMod, Nat.reduceLT, Nat.reduceLeDiff, Nat.reduceEqDiff, Nat.reduceAdd, true_and, and_true, Int32.not_le, Int32.not_lt]
set_option maxRecDepth 20000 in
theorem kx_c_117_33 (M : kx_M) : kx_call 117 [.int 33] M = some (some (.int 6), M) := by
  rw [kx_o117]
  simp only [kx_e117_0, kx_e117_1, kx_e117_2, kx_e117_3, kx_e117_6, kx_e117_7, kx_e117_10, kx_e117_11, kx_e117_12, kx_e117_15, kx_e117_18, kx_e117_21, kx_e117_22, kx_c_119, kx_c_118_0, kx_c_118_1, kx_c_118_2, kx_c_118_3, kx_c_118_4, kx_c_118_5, kx_c_118_6, ↓reduceIte, Option.bind_some, Option.bind_none, Option.toList_some, Option.toList_none, List.cons_append, List.nil_append, kx_nat_s, not_true_eq_false, not_false_eq_true, Int32.reduceAdd, Int32.reduceSub, Int32.reduceLT, Int32.reduceLE, Int32.reduceMul, Int32.reduceDiv, Int32.reduceMod, Nat.reduceLT, Nat.reduceLeDiff, Nat.reduceEqDiff, Nat.reduceAdd, true_and, and_true, Int32.not_le, Int32.not_lt]
set_option maxRecDepth 20000 in
theorem kx_c_117_34 (M : kx_M) : kx_call 117 [.int 34] M = some (some (.int 6), M) := by
  rw [kx_o117]
  simp only [kx_e117_0, kx_e117_1, kx_e117_2, kx_e117_3, kx_e117_6, kx_e117_7, kx_e117_10, kx_e117_11, kx_e117_12, kx_e117_15, kx_e117_18, kx_e117_21, kx_e117_22, kx_c_119, kx_c_118_0, kx_c_118_1, kx_c_118_2, kx_c_118_3, kx_c_118_4, kx_c_118_5, kx_c_118_6, ↓reduceIte, Option.bind_some, Option.bind_none, Option.toList_some, Option.toList_none, List.cons_append, List.nil_append, kx_nat_s, not_true_eq_false, not_false_eq_true, Int32.reduceAdd, Int32.reduceSub, Int32.reduceLT, Int32.reduceLE, Int32.reduceMul, Int32.reduceDiv, Int32.reduceMod, Nat.reduceLT, Nat.reduceLeDiff, Nat.reduceEqDiff, Nat.reduceAdd, true_and, and_true, Int32.not_le, Int32.not_lt]
set_option maxRecDepth 20000 in
theorem kx_c_117_35 (M : kx_M) : kx_call 117 [.int 35] M = some (some (.int 6), M) := by
  rw [kx_o117]
  simp only [kx_e117_0, kx_e117_1, kx_e117_2, kx_e117_3, kx_e117_6, kx_e117_7, kx_e117_10, kx_e117_11, kx_e117_12, kx_e117_15, kx_e117_18, kx_e117_21, kx_e117_22, kx_c_119, kx_c_118_0, kx_c_118_1, kx_c_118_2, kx_c_118_3, kx_c_118_4, kx_c_118_5, kx_c_118_6, ↓reduceIte, Option.bind_some, Option.bind_none, Option.toList_some, Option.toList_none, List.cons_append, List.nil_append, kx_nat_s, not_true_eq_false, not_false_eq_true, Int32.reduceAdd, Int32.reduceSub, Int32.reduceLT, Int32.reduceLE, Int32.reduceMul, Int32.reduceDiv, Int32.reduceMod, Nat.reduceLT, Nat.reduceLeDiff, Nat.reduceEqDiff, Nat.reduceAdd, true_and, and_true, Int32.not_le, Int32.not_lt]
set_option maxRecDepth 20000 in
theorem kx_c_117_36 (M : kx_M) : kx_call 117 [.int 36] M = some (some (.int 6), M) := by
  rw [kx_o117]
  simp only [kx_e117_0, kx_e117_1, kx_e117_2, kx_e117_3, kx_e117_6, kx_e117_7, kx_e117_10, kx_e117_11, kx_e117_12, kx_e117_15, kx_e117_18, kx_e117_21, kx_e117_22, kx_c_119, kx_c_118_0, kx_c_118_1, kx_c_118_2, kx_c_118_3, kx_c_118_4, kx_c_118_5, kx_c_118_6, ↓reduceIte, Option.bind_some, Option.bind_none, Option.toList_some, Option.toList_none, List.cons_append, List.nil_append, kx_nat_s, not_true_eq_false, not_false_eq_true, Int32.reduceAdd, Int32.reduceSub, Int32.reduceLT, Int32.reduceLE, Int32.reduceMul, Int32.reduceDiv, Int32.reduceMod, Nat.reduceLT, Nat.reduceLeDiff, Nat.reduceEqDiff, Nat.reduceAdd, true_and, and_true, Int32.not_le, Int32.not_lt]
theorem kx_c_117 (h : Nat) (hh : h < 37) (M : kx_M) : kx_call 117 [.int (Int32.ofNat h)] M = some (some (.int (kx_rowT.getD h 0)), M) := by
  match h, hh with
  | 0, _ => exact kx_c_117_0 M
  | 1, _ => exact kx_c_117_1 M
  | 2, _ => exact kx_c_117_2 M
  | 3, _ => exact kx_c_117_3 M
  | 4, _ => exact kx_c_117_4 M
  | 5, _ => exact kx_c_117_5 M
  | 6, _ => exact kx_c_117_6 M
  | 7, _ => exact kx_c_117_7 M
  | 8, _ => exact kx_c_117_8 M
  | 9, _ => exact kx_c_117_9 M
  | 10, _ => exact kx_c_117_10 M
  | 11, _ => exact kx_c_117_11 M
  | 12, _ => exact kx_c_117_12 M
  | 13, _ => exact kx_c_117_13 M
  | 14, _ => exact kx_c_117_14 M
  | 15, _ => exact kx_c_117_15 M
  | 16, _ => exact kx_c_117_16 M
  | 17, _ => exact kx_c_117_17 M
  | 18, _ => exact kx_c_117_18 M
  | 19, _ => exact kx_c_117_19 M
  | 20, _ => exact kx_c_117_20 M
  | 21, _ => exact kx_c_117_21 M
  | 22, _ => exact kx_c_117_22 M
  | 23, _ => exact kx_c_117_23 M
  | 24, _ => exact kx_c_117_24 M
  | 25, _ => exact kx_c_117_25 M
  | 26, _ => exact kx_c_117_26 M
  | 27, _ => exact kx_c_117_27 M
  | 28, _ => exact kx_c_117_28 M
  | 29, _ => exact kx_c_117_29 M
  | 30, _ => exact kx_c_117_30 M
  | 31, _ => exact kx_c_117_31 M
  | 32, _ => exact kx_c_117_32 M
  | 33, _ => exact kx_c_117_33 M
  | 34, _ => exact kx_c_117_34 M
  | 35, _ => exact kx_c_117_35 M
  | 36, _ => exact kx_c_117_36 M
  | h + 37, hh => omega
