/-! written words: their lengths and letters -/
def ky_Sl (i : Nat) : List Int32 := kx_cs.getD i []
def ky_S (i k : Nat) : Nat := ((ky_Sl i).getD k 0).toNatClampNeg
theorem ky_S_ok {i k : Nat} (hi : i < 25) (hk : k < (ky_Sl i).length) : (ky_Sl i).getD k 0 = Int32.ofNat (ky_S i k) ∧ ky_S i k < 127 ∧ (ky_Sl i).length < 9 := by
  have h8 : ∀ i, i < 25 → (ky_Sl i).length < 9 := by decide
  have : ∀ i, i < 25 → ∀ k, k < 8 → (ky_Sl i).getD k 0 = Int32.ofNat (ky_S i k) ∧ ky_S i k < 127 := by decide +kernel
  have h := h8 i hi
  obtain ⟨h1, h2⟩ := this i hi k (by omega)
  exact ⟨h1, h2, h⟩
theorem ky_csh_s {i : Nat} (hi : i < 25) : kx_csh (10 + 2 * i) = (12, 2) ∧ kx_csh (10 + 2 * i + 1) = (103, (ky_Sl i).length) := by
  have : ∀ i, i < 25 → kx_csh (10 + 2 * i) = (12, 2) ∧ kx_csh (10 + 2 * i + 1) = (103, (ky_Sl i).length) := by decide +kernel
  exact this i hi
section KyStr
variable {M : kx_M} {i : Nat}
theorem kx_rs_s (hi : i < 25) : kx_rs M (.retAddr (10 + 2 * i)) = some (12, 2) := by
  show (if 10 + 2 * i = 0 then none else if 10 + 2 * i = 1 then some (101, kx_scL M) else some (kx_csh (10 + 2 * i))) = _
  rw [if_neg (by omega), if_neg (by omega), (ky_csh_s hi).1]
theorem kx_rs_sb (hi : i < 25) : kx_rs M (.retAddr (10 + 2 * i + 1)) = some (103, (ky_Sl i).length) := by
  show (if 10 + 2 * i + 1 = 0 then none else if 10 + 2 * i + 1 = 1 then some (101, kx_scL M) else some (kx_csh (10 + 2 * i + 1))) = _
  rw [if_neg (by omega), if_neg (by omega), (ky_csh_s hi).2]
theorem kx_rd_s0 : kx_rd M (.retAddr (10 + 2 * i)) 0 = .retAddr (10 + 2 * i + 1) := by
  show (if 10 + 2 * i = 1 then Value.int (kx_scX M 0) else kx_cdt (10 + 2 * i) 0) = _
  rw [if_neg (by omega)]
  unfold kx_cdt
  rw [if_neg (by omega), if_pos (by omega), if_pos rfl]
theorem kx_rd_s1 : kx_rd M (.retAddr (10 + 2 * i)) 1 = .int 0 := by
  show (if 10 + 2 * i = 1 then Value.int (kx_scX M 1) else kx_cdt (10 + 2 * i) 1) = _
  rw [if_neg (by omega)]
  unfold kx_cdt
  rw [if_neg (by omega), if_pos (by omega), if_neg (by decide)]
theorem kx_rd_sb {k : Nat} : kx_rd M (.retAddr (10 + 2 * i + 1)) k = .int ((ky_Sl i).getD k 0) := by
  show (if 10 + 2 * i + 1 = 1 then Value.int (kx_scX M k) else kx_cdt (10 + 2 * i + 1) k) = _
  rw [if_neg (by omega)]
  unfold kx_cdt
  rw [if_neg (by omega), if_neg (by omega), show (10 + 2 * i + 1 - 11) / 2 = i by omega]
  rfl
theorem kx_al_s {α : Type} {t n : Nat} {f : Nat → Option α} (h : 100 < t) : kx_al (some (t, n)) f = f n := by
  unfold kx_al
  exact if_pos h
theorem kx_nwc {c : Nat} (h : c < 128) : (narrow FieldType.char (Value.int (Int32.ofNat c)) = Value.int (Int32.ofNat c)) = True := by
  have : ∀ c, c < 128 → (Int32.ofNat c).toUInt32.toUInt16.toUInt32.toInt32 = Int32.ofNat c := by decide +kernel
  exact eq_true (congrArg Value.int (this c h))
theorem kx_and255 {c : Nat} (h : c < 128) : Int32.ofNat c &&& 255 = Int32.ofNat c := by
  have : ∀ c, c < 128 → Int32.ofNat c &&& 255 = Int32.ofNat c := by decide +kernel
  exact this c h
theorem kx_nwy0 : (narrow FieldType.byte (Value.int 0) = Value.int 0) = True := eq_true rfl
theorem kx_c_214 (hi : i < 25) : kx_call 214 [.retAddr (10 + 2 * i)] M = some (some (.int 0), M) := by
  have h := fun M => kx_rs_s (M := M) hi
  rw [kx_o214]
  simp only [kx_e214_0, kx_e214_3, kx_e214_6, kx_e214_7, kx_e214_10, kx_e214_13, kx_e214_14, ↓reduceIte, Bool.true_eq_false, Bool.false_eq_true, reduceCtorEq, Option.bind_some, Option.bind_none, Option.toList_some, Option.toList_none, List.cons_append, List.nil_append, kx_nat_s, not_true_eq_false, not_false_eq_true, Int32.reduceAdd, Int32.reduceSub, Int32.reduceLT, Int32.reduceMul, Int32.reduceDiv, Int32.reduceMod, Nat.reduceLT, Nat.reduceLeDiff, Nat.reduceEqDiff, Nat.reduceAdd, true_and, and_true, kx_le_lt, ite_not, Classical.not_not, kx_ib, ne_eq, gt_iff_lt, ge_iff_le, kx_nw0, kx_nw1, kx_nwb, kx_b0, kx_b1, Nat.lt_irrefl, h, kx_rd_s1, Option.map_some, show ¬ (1 : Int32) = 0 by decide, kx_nwy0]
theorem kx_c_216 (hi : i < 25) : kx_call 216 [.retAddr (10 + 2 * i)] M = some (some (.int 1), M) := by
  have h := fun M => kx_rs_s (M := M) hi
  rw [kx_o216]
  simp only [kx_e216_0, kx_e216_3, kx_e216_6, kx_e216_7, kx_e216_10, kx_e216_13, kx_e216_14, kx_e216_17, kx_e216_18, ↓reduceIte, Bool.true_eq_false, Bool.false_eq_true, reduceCtorEq, Option.bind_some, Option.bind_none, Option.toList_some, Option.toList_none, List.cons_append, List.nil_append, kx_nat_s, not_true_eq_false, not_false_eq_true, Int32.reduceAdd, Int32.reduceSub, Int32.reduceLT, Int32.reduceMul, Int32.reduceDiv, Int32.reduceMod, Nat.reduceLT, Nat.reduceLeDiff, Nat.reduceEqDiff, Nat.reduceAdd, true_and, and_true, kx_le_lt, ite_not, Classical.not_not, kx_ib, ne_eq, gt_iff_lt, ge_iff_le, kx_nw0, kx_nw1, kx_nwb, kx_b0, kx_b1, Nat.lt_irrefl, h, kx_rd_s1, Option.map_some, show ¬ (1 : Int32) = 0 by decide]
theorem kx_c_213 (hi : i < 25) : kx_call 213 [.retAddr (10 + 2 * i)] M = some (some (.int (Int32.ofNat (ky_Sl i).length)), M) := by
  have h := fun M => kx_rs_s (M := M) hi
  have h2 := fun M => kx_rs_sb (M := M) hi
  have c := fun M => kx_c_214 (M := M) hi
  rw [kx_o213]
  simp only [kx_e213_0, kx_e213_1, kx_e213_4, kx_e213_5, kx_e213_6, kx_e213_9, kx_e213_10, ↓reduceIte, Bool.true_eq_false, Bool.false_eq_true, reduceCtorEq, Option.bind_some, Option.bind_none, Option.toList_some, Option.toList_none, List.cons_append, List.nil_append, kx_nat_s, not_true_eq_false, not_false_eq_true, Int32.reduceAdd, Int32.reduceSub, Int32.reduceLT, Int32.reduceMul, Int32.reduceDiv, Int32.reduceMod, Nat.reduceLT, Nat.reduceLeDiff, Nat.reduceEqDiff, Nat.reduceAdd, true_and, and_true, kx_le_lt, ite_not, Classical.not_not, kx_ib, ne_eq, gt_iff_lt, ge_iff_le, kx_nw0, kx_nw1, kx_nwb, kx_b0, kx_b1, Nat.lt_irrefl, h, h2, kx_rd_s0, kx_al_s (show 100 < 103 by decide), Option.map_some, c, kx_shr0]
theorem kx_c_212 {k n : Nat} (h : k < n) (hn : n < 1000000) : kx_call 212 [.int (Int32.ofNat k), .int (Int32.ofNat n)] M = some (none, M) := by
  rw [kx_o212]
  simp (disch := omega) only [kx_e212_0, kx_e212_1, kx_e212_2, kx_e212_5, kx_e212_8, kx_e212_9, kx_e229_0, kx_e229_1, kx_e229_4, kx_e229_5, kx_e229_6, kx_e229_9, kx_e229_10, kx_e229_11, kx_e229_16, kx_e229_17, kx_o229, ↓reduceIte, Bool.true_eq_false, Bool.false_eq_true, reduceCtorEq, Option.bind_some, Option.bind_none, Option.toList_some, Option.toList_none, List.cons_append, List.nil_append, kx_nat_s, not_true_eq_false, not_false_eq_true, Int32.reduceAdd, Int32.reduceSub, Int32.reduceLT, Int32.reduceMul, Int32.reduceDiv, Int32.reduceMod, Nat.reduceLT, Nat.reduceLeDiff, Nat.reduceEqDiff, Nat.reduceAdd, true_and, and_true, kx_le_lt, ite_not, Classical.not_not, kx_ib, ne_eq, gt_iff_lt, ge_iff_le, kx_nw0, kx_nw1, kx_nwb, kx_b0, kx_b1, Nat.lt_irrefl, kx_tn_0, ky_tl_0, Nat.not_lt_zero, kx_nat_lt, h]
theorem kx_c_215 {k : Nat} (hi : i < 25) (hk : k < (ky_Sl i).length) : kx_call 215 [.retAddr (10 + 2 * i), .int (Int32.ofNat k)] M = some (some (.int (Int32.ofNat (ky_S i k))), M) := by
  have h := fun M => kx_rs_s (M := M) hi
  have h2 := fun M => kx_rs_sb (M := M) hi
  have c := fun M => kx_c_216 (M := M) hi
  obtain ⟨h3, h4, h5⟩ := ky_S_ok hi hk
  have c2 := fun M => kx_c_212 (M := M) hk (by omega)
  rw [kx_o215]
  simp (disch := omega) only [kx_e215_0, kx_e215_1, kx_e215_4, kx_e215_7, kx_e215_8, kx_e215_11, kx_e215_12, kx_e215_15, kx_e215_16, kx_e215_17, kx_e215_20, kx_e226_0, kx_e226_1, kx_e226_2, kx_e226_3, kx_e226_6, kx_e226_7, kx_e226_8, kx_e226_9, kx_e226_12, kx_e226_13, kx_e226_14, kx_o226, ↓reduceIte, Bool.true_eq_false, Bool.false_eq_true, reduceCtorEq, Option.bind_some, Option.bind_none, Option.toList_some, Option.toList_none, List.cons_append, List.nil_append, kx_nat_s, not_true_eq_false, not_false_eq_true, Int32.reduceAdd, Int32.reduceSub, Int32.reduceLT, Int32.reduceMul, Int32.reduceDiv, Int32.reduceMod, Nat.reduceLT, Nat.reduceLeDiff, Nat.reduceEqDiff, Nat.reduceAdd, true_and, and_true, kx_le_lt, ite_not, Classical.not_not, kx_ib, ne_eq, gt_iff_lt, ge_iff_le, kx_nw0, kx_nw1, kx_nwb, kx_b0, kx_b1, Nat.lt_irrefl, h, h2, kx_rd_s0, kx_rd_sb, kx_al_s (show 100 < 103 by decide), Option.map_some, c, c2, kx_arr_n, kx_nat_i, Bool.true_or, h3, kx_and255, kx_c16, kx_nwc, show ¬ (1 : Int32) = 0 by decide]
end KyStr
