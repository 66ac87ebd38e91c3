/-! the field: leaf functions by running them on all hexagons -/
def kx_nbT : List (List Int32) := [[1, (-1), (-1), (-1), 4, 5], [2, (-1), (-1), 0, 5, 6], [3, (-1), (-1), 1, 6, 7], [(-1), (-1), (-1), 2, 7, 8], [5, 0, (-1), (-1), 9, 10], [6, 1, 0, 4, 10, 11], [7, 2, 1, 5, 11, 12], [8, 3, 2, 6, 12, 13], [(-1), (-1), 3, 7, 13, 14], [10, 4, (-1), (-1), 15, 16], [11, 5, 4, 9, 16, 17], [12, 6, 5, 10, 17, 18], [13, 7, 6, 11, 18, 19], [14, 8, 7, 12, 19, 20], [(-1), (-1), 8, 13, 20, 21], [16, 9, (-1), (-1), (-1), 22], [17, 10, 9, 15, 22, 23], [18, 11, 10, 16, 23, 24], [19, 12, 11, 17, 24, 25], [20, 13, 12, 18, 25, 26], [21, 14, 13, 19, 26, 27], [(-1), (-1), 14, 20, 27, (-1)], [23, 16, 15, (-1), (-1), 28], [24, 17, 16, 22, 28, 29], [25, 18, 17, 23, 29, 30], [26, 19, 18, 24, 30, 31], [27, 20, 19, 25, 31, 32], [(-1), 21, 20, 26, 32, (-1)], [29, 23, 22, (-1), (-1), 33], [30, 24, 23, 28, 33, 34], [31, 25, 24, 29, 34, 35], [32, 26, 25, 30, 35, 36], [(-1), 27, 26, 31, 36, (-1)], [34, 29, 28, (-1), (-1), (-1)], [35, 30, 29, 33, (-1), (-1)], [36, 31, 30, 34, (-1), (-1)], [(-1), 32, 31, 35, (-1), (-1)]]
def kx_rowT : List Int32 := [0, 0, 0, 0, 1, 1, 1, 1, 1, 2, 2, 2, 2, 2, 2, 3, 3, 3, 3, 3, 3, 3, 4, 4, 4, 4, 4, 4, 5, 5, 5, 5, 5, 6, 6, 6, 6]
def kx_slT : List Int32 := [0, 1, 2, 3, 0, 1, 2, 3, 4, 0, 1, 2, 3, 4, 5, 0, 1, 2, 3, 4, 5, 6, 1, 2, 3, 4, 5, 6, 2, 3, 4, 5, 6, 3, 4, 5, 6]
/-- the hexagon beside h in the direction d, -1: none -/
def kx_nb (h d : Nat) : Int32 := (kx_nbT.getD h []).getD d (-1)
/-- n steps on -/
def kx_wk (h d : Nat) : Nat → Int32
  | 0 => Int32.ofNat h
  | n + 1 => if kx_wk h d n < 0 then -1 else kx_nb (kx_wk h d n).toNatClampNeg d
theorem kx_c_119 {x : Int32} (M : kx_M) : kx_call 119 [.int x] M = some (some (.int (if x < 4 then 4 + x else 10 - x)), M) := by
  rw [kx_o119]
  by_cases h : x < 4
  · simp only [kx_e119_0, kx_e119_1, kx_e119_2, kx_e119_5, kx_e119_6, kx_e119_7, kx_e119_8, kx_e119_11, kx_e119_13, kx_e119_14, kx_e119_15, ↓reduceIte, Option.bind_some, Option.bind_none, Option.toList_some, Option.toList_none, List.cons_append, List.nil_append, kx_nat_s, not_true_eq_false, not_false_eq_true, h, Int32.not_le.mpr h]
  · simp only [kx_e119_0, kx_e119_1, kx_e119_2, kx_e119_5, kx_e119_6, kx_e119_7, kx_e119_8, kx_e119_11, kx_e119_13, kx_e119_14, kx_e119_15, ↓reduceIte, Option.bind_some, Option.bind_none, Option.toList_some, Option.toList_none, List.cons_append, List.nil_append, kx_nat_s, not_true_eq_false, not_false_eq_true, h, Int32.not_lt.mp h]
set_option maxRecDepth 20000 in
theorem kx_c_118_6 (M : kx_M) : kx_call 118 [.int 6] M = some (some (.int 33), M) := by
  rw [kx_o118]
  simp only [kx_e118_0, kx_e118_1, kx_e118_2, kx_e118_3, kx_e118_4, kx_e118_5, kx_e118_6, kx_e118_9, kx_e118_10, kx_e118_11, kx_e118_14, kx_e118_15, kx_e118_16, kx_e118_19, kx_e118_22, kx_e118_23, kx_c_119, ↓reduceIte, Option.bind_some, Option.bind_none, Option.toList_some, Option.toList_none, List.cons_append, List.nil_append, kx_nat_s, not_true_eq_false, not_false_eq_true, Int32.reduceAdd, Int32.reduceSub, Int32.reduceLT, Int32.reduceLE, Int32.reduceMul]
  try trace_state
set_option maxRecDepth 20000 in
theorem kx_c_118_5 (M : kx_M) : kx_call 118 [.int 5] M = some (some (.int 28), M) := by
  rw [kx_o118]
  simp (config := {ground := true}) only [kx_e118_0, kx_e118_1, kx_e118_2, kx_e118_3, kx_e118_4, kx_e118_5, kx_e118_6, kx_e118_9, kx_e118_10, kx_e118_11, kx_e118_14, kx_e118_15, kx_e118_16, kx_e118_19, kx_e118_22, kx_e118_23, kx_c_119, ↓reduceIte, Option.bind_some, Option.bind_none, Option.toList_some, Option.toList_none, List.cons_append, List.nil_append, kx_nat_s, not_true_eq_false, not_false_eq_true]
  try trace_state
