/-! the other constructors -/
section KyCons
variable {n s m a : Nat} {S : Nat → Nat → Bool} {sc : Nat × (Nat → Int32)} {sg : kx_G2}
theorem kz_ad_z {a0 k0 : Nat} (h : ∀ a, m ≤ a → ∀ k, S a k = false) (ha : a0 < m) : ∀ a, m ≤ a → ∀ k, ky_ad S a0 k0 a k = false := fun a h1 k => by
  unfold ky_ad
  rw [if_neg (by omega)]
  exact h a h1 k
theorem kz_np {k t sz : Nat} {z : Nat → Value} (hn : kx_SH n = (t, sz)) (ha : a < n) (h1 : kx_isn (kx_SH a).1 k = false) (h2 : (kx_SH a).1 ≠ 102) (hr : kx_PR 0 a k = some n) (hS : ∀ k, S n k = false) (hg : ∀ k, sg n k = 0) (hz : ∀ k, z k = kx_cv t k 0 none 0) : kx_put (kx_new (ky_cm n S s sc sg) t sz z) a k (.ref n) = ky_cm (n + 1) (ky_ad S a k) (s + sz) sc sg := by
  rw [ky_cm_new hn hS hg hz]
  exact ky_cm_put (by omega) h1 h2 hr
theorem kx_c_57 (M : kx_M) {a : Nat} : kx_call 57 [.ref a] M = some (none, M) := by
  rw [kx_o57]
  simp only [kx_e57_0, kx_e57_1, kx_e57_4]
theorem kx_c_78 (M : kx_M) {a : Nat} : kx_call 78 [.ref a] M = some (none, M) := by
  rw [kx_o78]
  simp only [kx_e78_0, kx_e78_1, kx_e78_4]
theorem kx_c_69_267 (hS : ∀ a, 267 ≤ a → ∀ k, S a k = false) (hg : ∀ a, 267 ≤ a → ∀ k, sg a k = 0) : kx_call 69 [.ref 267] (ky_cm 268 S s sc sg) = some (none, ky_cm 271 (ky_ad (ky_ad (ky_ad S 267 0) 267 1) 267 2) (s + 12 + 3 + 12) sc sg) := by
  have n1 : kx_put (kx_new (ky_cm 268 S s sc sg) 102 12 (fun _ => .long 0)) 267 0 (.ref 268) = ky_cm 269 (ky_ad S 267 0) (s + 12) sc sg := kz_np rfl (by decide) rfl (by decide) rfl (hS _ (by decide)) (hg _ (by decide)) ky_z_l
  have n2 : kx_new (ky_cm 269 (ky_ad S 267 0) (s + 12) sc sg) 0 3 (kx_fd 0) = ky_cm 270 (ky_ad S 267 0) (s + 12 + 3) sc sg := ky_cm_new rfl (kz_ad_z (m := 268) (fun a h => hS a (by omega)) (by decide) _ (by decide)) (hg _ (by decide)) (ky_fd_cv (by decide))
  have p2 : kx_put (ky_cm 270 (ky_ad S 267 0) (s + 12 + 3) sc sg) 267 1 (.ref 269) = ky_cm 270 (ky_ad (ky_ad S 267 0) 267 1) (s + 12 + 3) sc sg := ky_cm_put (by decide) rfl (by decide) rfl
  have n3 : kx_put (kx_new (ky_cm 270 (ky_ad (ky_ad S 267 0) 267 1) (s + 12 + 3) sc sg) 101 12 (fun _ => .int 0)) 267 2 (.ref 270) = ky_cm 271 (ky_ad (ky_ad (ky_ad S 267 0) 267 1) 267 2) (s + 12 + 3 + 12) sc sg := kz_np rfl (by decide) rfl (by decide) rfl (kz_ad_z (m := 268) (kz_ad_z (fun a h => hS a (by omega)) (by decide)) (by decide) _ (by decide)) (hg _ (by decide)) ky_z_i
  have hh : ∀ m S' s', 267 < m → kx_sh (ky_cm m S' s' sc sg) 267 = (3, 3) := fun m S' s' h => ky_cm_sh h
  rw [kx_o69]
  simp (disch := first | omega | decide) only [kx_e69_0, kx_e69_1, kx_e69_4, kx_e69_5, kx_e69_7, kx_e69_9, kx_e69_12, kx_e69_13, kx_e69_16, kx_e69_17, kx_e69_20, kx_e69_23, kx_e69_24, kx_e69_26, kx_e69_28, kx_e69_31, ↓reduceIte, Bool.true_eq_false, Bool.false_eq_true, reduceCtorEq, Option.bind_some, Option.bind_none, Option.toList_some, Option.toList_none, List.cons_append, List.nil_append, kx_nat_s, not_true_eq_false, not_false_eq_true, Int32.reduceAdd, Int32.reduceSub, Int32.reduceLT, Int32.reduceMul, Int32.reduceDiv, Int32.reduceMod, Nat.reduceLT, Nat.reduceLeDiff, Nat.reduceEqDiff, Nat.reduceAdd, true_and, and_true, kx_le_lt, ite_not, Classical.not_not, kx_ib, ne_eq, gt_iff_lt, ge_iff_le, kx_nw0, kx_nw1, kx_nwb, kx_b0, kx_b1, Nat.lt_irrefl, ky_cm_nx, kx_new_sh, Nat.reduceEqDiff, kx_tn_12, hh, n1, n2, p2, n3, kx_c_57]
theorem kx_c_69_272 (hS : ∀ a, 272 ≤ a → ∀ k, S a k = false) (hg : ∀ a, 272 ≤ a → ∀ k, sg a k = 0) : kx_call 69 [.ref 272] (ky_cm 273 S s sc sg) = some (none, ky_cm 276 (ky_ad (ky_ad (ky_ad S 272 0) 272 1) 272 2) (s + 12 + 3 + 12) sc sg) := by
  have n1 : kx_put (kx_new (ky_cm 273 S s sc sg) 102 12 (fun _ => .long 0)) 272 0 (.ref 273) = ky_cm 274 (ky_ad S 272 0) (s + 12) sc sg := kz_np rfl (by decide) rfl (by decide) rfl (hS _ (by decide)) (hg _ (by decide)) ky_z_l
  have n2 : kx_new (ky_cm 274 (ky_ad S 272 0) (s + 12) sc sg) 0 3 (kx_fd 0) = ky_cm 275 (ky_ad S 272 0) (s + 12 + 3) sc sg := ky_cm_new rfl (kz_ad_z (m := 273) (fun a h => hS a (by omega)) (by decide) _ (by decide)) (hg _ (by decide)) (ky_fd_cv (by decide))
  have p2 : kx_put (ky_cm 275 (ky_ad S 272 0) (s + 12 + 3) sc sg) 272 1 (.ref 274) = ky_cm 275 (ky_ad (ky_ad S 272 0) 272 1) (s + 12 + 3) sc sg := ky_cm_put (by decide) rfl (by decide) rfl
  have n3 : kx_put (kx_new (ky_cm 275 (ky_ad (ky_ad S 272 0) 272 1) (s + 12 + 3) sc sg) 101 12 (fun _ => .int 0)) 272 2 (.ref 275) = ky_cm 276 (ky_ad (ky_ad (ky_ad S 272 0) 272 1) 272 2) (s + 12 + 3 + 12) sc sg := kz_np rfl (by decide) rfl (by decide) rfl (kz_ad_z (m := 273) (kz_ad_z (fun a h => hS a (by omega)) (by decide)) (by decide) _ (by decide)) (hg _ (by decide)) ky_z_i
  have hh : ∀ m S' s', 272 < m → kx_sh (ky_cm m S' s' sc sg) 272 = (3, 3) := fun m S' s' h => ky_cm_sh h
  rw [kx_o69]
  simp (disch := first | omega | decide) only [kx_e69_0, kx_e69_1, kx_e69_4, kx_e69_5, kx_e69_7, kx_e69_9, kx_e69_12, kx_e69_13, kx_e69_16, kx_e69_17, kx_e69_20, kx_e69_23, kx_e69_24, kx_e69_26, kx_e69_28, kx_e69_31, ↓reduceIte, Bool.true_eq_false, Bool.false_eq_true, reduceCtorEq, Option.bind_some, Option.bind_none, Option.toList_some, Option.toList_none, List.cons_append, List.nil_append, kx_nat_s, not_true_eq_false, not_false_eq_true, Int32.reduceAdd, Int32.reduceSub, Int32.reduceLT, Int32.reduceMul, Int32.reduceDiv, Int32.reduceMod, Nat.reduceLT, Nat.reduceLeDiff, Nat.reduceEqDiff, Nat.reduceAdd, true_and, and_true, kx_le_lt, ite_not, Classical.not_not, kx_ib, ne_eq, gt_iff_lt, ge_iff_le, kx_nw0, kx_nw1, kx_nwb, kx_b0, kx_b1, Nat.lt_irrefl, ky_cm_nx, kx_new_sh, Nat.reduceEqDiff, kx_tn_12, hh, n1, n2, p2, n3, kx_c_57]
theorem kx_c_218_280 (hS : ∀ k, S 281 k = false) (hg : ∀ k, sg 281 k = 0) (hg2 : sg 280 1 = 0) : kx_call 218 [.ref 280] (ky_cm 281 S s sc sg) = some (none, ky_cm 282 (ky_ad S 280 0) (s + 16) sc sg) := by
  have n1 : kx_put (kx_new (ky_cm 281 S s sc sg) 103 16 (fun _ => .int 0)) 280 0 (.ref 281) = ky_cm 282 (ky_ad S 280 0) (s + 16) sc sg := kz_np rfl (by decide) rfl (by decide) rfl hS hg ky_z_b
  have p1 : kx_put (ky_cm 282 (ky_ad S 280 0) (s + 16) sc sg) 280 1 (.int 0) = ky_cm 282 (ky_ad S 280 0) (s + 16) sc sg := by
    rw [ky_cm_puti (by decide) rfl]
    congr 1
    funext a k
    unfold kx_up
    split
    · next h => rw [h.1, h.2, hg2]
    · rfl
  have hh : ∀ m S' s', 280 < m → kx_sh (ky_cm m S' s' sc sg) 280 = (11, 4) := fun m S' s' h => ky_cm_sh h
  rw [kx_o218]
  simp (disch := first | omega | decide) only [kx_e218_0, kx_e218_1, kx_e218_3, kx_e218_6, kx_e198_0, kx_e198_1, kx_e198_4, kx_e198_7, kx_e198_10, kx_e198_11, kx_e198_12, kx_e198_14, kx_e198_17, kx_e198_18, kx_e198_19, kx_e198_22, kx_e198_25, kx_e198_26, kx_e198_38, kx_o198, ↓reduceIte, Bool.true_eq_false, Bool.false_eq_true, reduceCtorEq, Option.bind_some, Option.bind_none, Option.toList_some, Option.toList_none, List.cons_append, List.nil_append, kx_nat_s, not_true_eq_false, not_false_eq_true, Int32.reduceAdd, Int32.reduceSub, Int32.reduceLT, Int32.reduceMul, Int32.reduceDiv, Int32.reduceMod, Nat.reduceLT, Nat.reduceLeDiff, Nat.reduceEqDiff, Nat.reduceAdd, true_and, and_true, kx_le_lt, ite_not, Classical.not_not, kx_ib, ne_eq, gt_iff_lt, ge_iff_le, kx_nw0, kx_nw1, kx_nwb, kx_b0, kx_b1, Nat.lt_irrefl, ky_cm_nx, kx_new_sh, Nat.reduceEqDiff, show (Int32.toNatClampNeg 16) = 16 by decide, hh, n1, p1, show ¬ (1 : Int32) = 0 by decide, show ((0 : Int32) = (0 : Int32).toInt8.toInt32) = True from eq_true (by decide)]
theorem kx_c_218_296 (hS : ∀ k, S 297 k = false) (hg : ∀ k, sg 297 k = 0) (hg2 : sg 296 1 = 0) : kx_call 218 [.ref 296] (ky_cm 297 S s sc sg) = some (none, ky_cm 298 (ky_ad S 296 0) (s + 16) sc sg) := by
  have n1 : kx_put (kx_new (ky_cm 297 S s sc sg) 103 16 (fun _ => .int 0)) 296 0 (.ref 297) = ky_cm 298 (ky_ad S 296 0) (s + 16) sc sg := kz_np rfl (by decide) rfl (by decide) rfl hS hg ky_z_b
  have p1 : kx_put (ky_cm 298 (ky_ad S 296 0) (s + 16) sc sg) 296 1 (.int 0) = ky_cm 298 (ky_ad S 296 0) (s + 16) sc sg := by
    rw [ky_cm_puti (by decide) rfl]
    congr 1
    funext a k
    unfold kx_up
    split
    · next h => rw [h.1, h.2, hg2]
    · rfl
  have hh : ∀ m S' s', 296 < m → kx_sh (ky_cm m S' s' sc sg) 296 = (11, 4) := fun m S' s' h => ky_cm_sh h
  rw [kx_o218]
  simp (disch := first | omega | decide) only [kx_e218_0, kx_e218_1, kx_e218_3, kx_e218_6, kx_e198_0, kx_e198_1, kx_e198_4, kx_e198_7, kx_e198_10, kx_e198_11, kx_e198_12, kx_e198_14, kx_e198_17, kx_e198_18, kx_e198_19, kx_e198_22, kx_e198_25, kx_e198_26, kx_e198_38, kx_o198, ↓reduceIte, Bool.true_eq_false, Bool.false_eq_true, reduceCtorEq, Option.bind_some, Option.bind_none, Option.toList_some, Option.toList_none, List.cons_append, List.nil_append, kx_nat_s, not_true_eq_false, not_false_eq_true, Int32.reduceAdd, Int32.reduceSub, Int32.reduceLT, Int32.reduceMul, Int32.reduceDiv, Int32.reduceMod, Nat.reduceLT, Nat.reduceLeDiff, Nat.reduceEqDiff, Nat.reduceAdd, true_and, and_true, kx_le_lt, ite_not, Classical.not_not, kx_ib, ne_eq, gt_iff_lt, ge_iff_le, kx_nw0, kx_nw1, kx_nwb, kx_b0, kx_b1, Nat.lt_irrefl, ky_cm_nx, kx_new_sh, Nat.reduceEqDiff, show (Int32.toNatClampNeg 16) = 16 by decide, hh, n1, p1, show ¬ (1 : Int32) = 0 by decide, show ((0 : Int32) = (0 : Int32).toInt8.toInt32) = True from eq_true (by decide)]
theorem kx_c_103 (hS : ∀ a, 271 ≤ a → ∀ k, S a k = false) (hg : ∀ a, 271 ≤ a → ∀ k, sg a k = 0) : kx_call 103 [.ref 271] (ky_cm 272 S s sc sg) = some (none, ky_cm 279 (ky_ad (ky_ad (ky_ad (ky_ad (ky_ad (ky_ad (ky_ad S 272 0) 272 1) 272 2) 271 0) 271 1) 271 2) 271 3) (s + 3 + 12 + 3 + 12 + 3 + 12 + 12) sc sg) := by
  have n0 : kx_new (ky_cm 272 S s sc sg) 3 3 (kx_fd 3) = ky_cm 273 S (s + 3) sc sg := ky_cm_new rfl (hS _ (by decide)) (hg _ (by decide)) (ky_fd_cv (by decide))
  have c1 := kx_c_69_272 (s := s + 3) (sc := sc) (S := S) (fun a h => hS a (by omega)) (fun a h => hg a (by omega))
  have z1 : ∀ a, 273 ≤ a → ∀ k, (ky_ad (ky_ad (ky_ad S 272 0) 272 1) 272 2) a k = false := kz_ad_z (kz_ad_z (kz_ad_z (fun a h => hS a (by omega)) (by decide)) (by decide)) (by decide)
  generalize hT : ky_ad (ky_ad (ky_ad S 272 0) 272 1) 272 2 = T at *
  have p0 : kx_put (ky_cm 276 T (s + 3 + 12 + 3 + 12) sc sg) 271 0 (.ref 272) = ky_cm 276 (ky_ad T 271 0) (s + 3 + 12 + 3 + 12) sc sg := ky_cm_put (by decide) rfl (by decide) rfl
  have n1 : kx_new (ky_cm 276 (ky_ad T 271 0) (s + 3 + 12 + 3 + 12) sc sg) 0 3 (kx_fd 0) = ky_cm 277 (ky_ad T 271 0) (s + 3 + 12 + 3 + 12 + 3) sc sg := ky_cm_new rfl (kz_ad_z z1 (by decide) _ (by decide)) (hg _ (by decide)) (ky_fd_cv (by decide))
  have p1 : kx_put (ky_cm 277 (ky_ad T 271 0) (s + 3 + 12 + 3 + 12 + 3) sc sg) 271 1 (.ref 276) = ky_cm 277 (ky_ad (ky_ad T 271 0) 271 1) (s + 3 + 12 + 3 + 12 + 3) sc sg := ky_cm_put (by decide) rfl (by decide) rfl
  have n2 : kx_put (kx_new (ky_cm 277 (ky_ad (ky_ad T 271 0) 271 1) (s + 3 + 12 + 3 + 12 + 3) sc sg) 105 12 (fun _ => .int 0)) 271 2 (.ref 277) = ky_cm 278 (ky_ad (ky_ad (ky_ad T 271 0) 271 1) 271 2) (s + 3 + 12 + 3 + 12 + 3 + 12) sc sg := kz_np rfl (by decide) rfl (by decide) rfl (kz_ad_z (kz_ad_z z1 (by decide)) (by decide) _ (by decide)) (hg _ (by decide)) ky_z_z
  have n3 : kx_put (kx_new (ky_cm 278 (ky_ad (ky_ad (ky_ad T 271 0) 271 1) 271 2) (s + 3 + 12 + 3 + 12 + 3 + 12) sc sg) 101 12 (fun _ => .int 0)) 271 3 (.ref 278) = ky_cm 279 (ky_ad (ky_ad (ky_ad (ky_ad T 271 0) 271 1) 271 2) 271 3) (s + 3 + 12 + 3 + 12 + 3 + 12 + 12) sc sg := kz_np rfl (by decide) rfl (by decide) rfl (kz_ad_z (kz_ad_z (kz_ad_z z1 (by decide)) (by decide)) (by decide) _ (by decide)) (hg _ (by decide)) ky_z_i
  have hh : ∀ m S' s', 271 < m → kx_sh (ky_cm m S' s' sc sg) 271 = (8, 4) := fun m S' s' h => ky_cm_sh h
  rw [kx_o103]
  simp (disch := first | omega | decide) only [kx_e103_0, kx_e103_1, kx_e103_4, kx_e103_5, kx_e103_8, kx_e103_9, kx_e103_12, kx_e103_15, kx_e103_16, kx_e103_19, kx_e103_20, kx_e103_23, kx_e103_26, kx_e103_27, kx_e103_29, kx_e103_31, kx_e103_34, kx_e103_35, kx_e103_37, kx_e103_39, kx_e103_42, ↓reduceIte, Bool.true_eq_false, Bool.false_eq_true, reduceCtorEq, Option.bind_some, Option.bind_none, Option.toList_some, Option.toList_none, List.cons_append, List.nil_append, kx_nat_s, not_true_eq_false, not_false_eq_true, Int32.reduceAdd, Int32.reduceSub, Int32.reduceLT, Int32.reduceMul, Int32.reduceDiv, Int32.reduceMod, Nat.reduceLT, Nat.reduceLeDiff, Nat.reduceEqDiff, Nat.reduceAdd, true_and, and_true, kx_le_lt, ite_not, Classical.not_not, kx_ib, ne_eq, gt_iff_lt, ge_iff_le, kx_nw0, kx_nw1, kx_nwb, kx_b0, kx_b1, Nat.lt_irrefl, ky_cm_nx, kx_new_sh, Nat.reduceEqDiff, kx_tn_12, hh, n0, c1, p0, n1, p1, n2, n3, kx_c_57]
end KyCons
