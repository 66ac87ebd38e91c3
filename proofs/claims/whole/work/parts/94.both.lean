/-! the constructors of both -/
section KyBoth
variable {s : Nat} {S : Nat → Nat → Bool} {sc : Nat × (Nat → Int32)} {sg : kx_G2}
theorem kx_c_112 (hS : ∀ a, 298 ≤ a → ∀ k, S a k = false) (hg : ∀ a, 298 ≤ a → ∀ k, sg a k = 0) : kx_call 112 [.ref 298] (ky_cm 299 S s sc sg) = some (none, ky_cm 311 (ky_ad (ky_ad (ky_ad (ky_ad (ky_ad (ky_ad (ky_ad (ky_ad (ky_ad (ky_ad (ky_ad (ky_ad S 298 0) 298 1) 298 2) 298 3) 298 4) 298 10) 298 12) 298 14) 298 15) 298 16) 298 17) 298 19) (s + 167 + 1336 + 167 + 167 + 167 + 60 + 40 + 37 + 12 + 12 + 144 + 96) sc sg) := by
  have z0 : ∀ a, 299 ≤ a → ∀ k, S a k = false := fun a h => hS a (by omega)
  have z1 : ∀ a, 299 ≤ a → ∀ k, (ky_ad S 298 0) a k = false := kz_ad_z z0 (by decide)
  have z2 : ∀ a, 299 ≤ a → ∀ k, (ky_ad (ky_ad S 298 0) 298 1) a k = false := kz_ad_z z1 (by decide)
  have z3 : ∀ a, 299 ≤ a → ∀ k, (ky_ad (ky_ad (ky_ad S 298 0) 298 1) 298 2) a k = false := kz_ad_z z2 (by decide)
  have z4 : ∀ a, 299 ≤ a → ∀ k, (ky_ad (ky_ad (ky_ad (ky_ad S 298 0) 298 1) 298 2) 298 3) a k = false := kz_ad_z z3 (by decide)
  have z5 : ∀ a, 299 ≤ a → ∀ k, (ky_ad (ky_ad (ky_ad (ky_ad (ky_ad S 298 0) 298 1) 298 2) 298 3) 298 4) a k = false := kz_ad_z z4 (by decide)
  have z6 : ∀ a, 299 ≤ a → ∀ k, (ky_ad (ky_ad (ky_ad (ky_ad (ky_ad (ky_ad S 298 0) 298 1) 298 2) 298 3) 298 4) 298 10) a k = false := kz_ad_z z5 (by decide)
  have z7 : ∀ a, 299 ≤ a → ∀ k, (ky_ad (ky_ad (ky_ad (ky_ad (ky_ad (ky_ad (ky_ad S 298 0) 298 1) 298 2) 298 3) 298 4) 298 10) 298 12) a k = false := kz_ad_z z6 (by decide)
  have z8 : ∀ a, 299 ≤ a → ∀ k, (ky_ad (ky_ad (ky_ad (ky_ad (ky_ad (ky_ad (ky_ad (ky_ad S 298 0) 298 1) 298 2) 298 3) 298 4) 298 10) 298 12) 298 14) a k = false := kz_ad_z z7 (by decide)
  have z9 : ∀ a, 299 ≤ a → ∀ k, (ky_ad (ky_ad (ky_ad (ky_ad (ky_ad (ky_ad (ky_ad (ky_ad (ky_ad S 298 0) 298 1) 298 2) 298 3) 298 4) 298 10) 298 12) 298 14) 298 15) a k = false := kz_ad_z z8 (by decide)
  have z10 : ∀ a, 299 ≤ a → ∀ k, (ky_ad (ky_ad (ky_ad (ky_ad (ky_ad (ky_ad (ky_ad (ky_ad (ky_ad (ky_ad S 298 0) 298 1) 298 2) 298 3) 298 4) 298 10) 298 12) 298 14) 298 15) 298 16) a k = false := kz_ad_z z9 (by decide)
  have z11 : ∀ a, 299 ≤ a → ∀ k, (ky_ad (ky_ad (ky_ad (ky_ad (ky_ad (ky_ad (ky_ad (ky_ad (ky_ad (ky_ad (ky_ad S 298 0) 298 1) 298 2) 298 3) 298 4) 298 10) 298 12) 298 14) 298 15) 298 16) 298 17) a k = false := kz_ad_z z10 (by decide)
  have z12 : ∀ a, 299 ≤ a → ∀ k, (ky_ad (ky_ad (ky_ad (ky_ad (ky_ad (ky_ad (ky_ad (ky_ad (ky_ad (ky_ad (ky_ad (ky_ad S 298 0) 298 1) 298 2) 298 3) 298 4) 298 10) 298 12) 298 14) 298 15) 298 16) 298 17) 298 19) a k = false := kz_ad_z z11 (by decide)
  have n0 : kx_put (kx_new (ky_cm 299 S (s) sc sg) 101 167 (fun _ => .int 0)) 298 0 (.ref 299) = ky_cm 300 (ky_ad S 298 0) (s + 167) sc sg := kz_np rfl (by decide) rfl (by decide) rfl (z0 _ (by decide)) (hg _ (by decide)) ky_z_i
  have n1 : kx_put (kx_new (ky_cm 300 (ky_ad S 298 0) (s + 167) sc sg) 101 1336 (fun _ => .int 0)) 298 1 (.ref 300) = ky_cm 301 (ky_ad (ky_ad S 298 0) 298 1) (s + 167 + 1336) sc sg := kz_np rfl (by decide) rfl (by decide) rfl (z1 _ (by decide)) (hg _ (by decide)) ky_z_i
  have n2 : kx_put (kx_new (ky_cm 301 (ky_ad (ky_ad S 298 0) 298 1) (s + 167 + 1336) sc sg) 101 167 (fun _ => .int 0)) 298 2 (.ref 301) = ky_cm 302 (ky_ad (ky_ad (ky_ad S 298 0) 298 1) 298 2) (s + 167 + 1336 + 167) sc sg := kz_np rfl (by decide) rfl (by decide) rfl (z2 _ (by decide)) (hg _ (by decide)) ky_z_i
  have n3 : kx_put (kx_new (ky_cm 302 (ky_ad (ky_ad (ky_ad S 298 0) 298 1) 298 2) (s + 167 + 1336 + 167) sc sg) 101 167 (fun _ => .int 0)) 298 3 (.ref 302) = ky_cm 303 (ky_ad (ky_ad (ky_ad (ky_ad S 298 0) 298 1) 298 2) 298 3) (s + 167 + 1336 + 167 + 167) sc sg := kz_np rfl (by decide) rfl (by decide) rfl (z3 _ (by decide)) (hg _ (by decide)) ky_z_i
  have n4 : kx_put (kx_new (ky_cm 303 (ky_ad (ky_ad (ky_ad (ky_ad S 298 0) 298 1) 298 2) 298 3) (s + 167 + 1336 + 167 + 167) sc sg) 101 167 (fun _ => .int 0)) 298 4 (.ref 303) = ky_cm 304 (ky_ad (ky_ad (ky_ad (ky_ad (ky_ad S 298 0) 298 1) 298 2) 298 3) 298 4) (s + 167 + 1336 + 167 + 167 + 167) sc sg := kz_np rfl (by decide) rfl (by decide) rfl (z4 _ (by decide)) (hg _ (by decide)) ky_z_i
  have n5 : kx_put (kx_new (ky_cm 304 (ky_ad (ky_ad (ky_ad (ky_ad (ky_ad S 298 0) 298 1) 298 2) 298 3) 298 4) (s + 167 + 1336 + 167 + 167 + 167) sc sg) 101 60 (fun _ => .int 0)) 298 10 (.ref 304) = ky_cm 305 (ky_ad (ky_ad (ky_ad (ky_ad (ky_ad (ky_ad S 298 0) 298 1) 298 2) 298 3) 298 4) 298 10) (s + 167 + 1336 + 167 + 167 + 167 + 60) sc sg := kz_np rfl (by decide) rfl (by decide) rfl (z5 _ (by decide)) (hg _ (by decide)) ky_z_i
  have n6 : kx_put (kx_new (ky_cm 305 (ky_ad (ky_ad (ky_ad (ky_ad (ky_ad (ky_ad S 298 0) 298 1) 298 2) 298 3) 298 4) 298 10) (s + 167 + 1336 + 167 + 167 + 167 + 60) sc sg) 104 40 (fun _ => .int 0)) 298 12 (.ref 305) = ky_cm 306 (ky_ad (ky_ad (ky_ad (ky_ad (ky_ad (ky_ad (ky_ad S 298 0) 298 1) 298 2) 298 3) 298 4) 298 10) 298 12) (s + 167 + 1336 + 167 + 167 + 167 + 60 + 40) sc sg := kz_np rfl (by decide) rfl (by decide) rfl (z6 _ (by decide)) (hg _ (by decide)) ky_z_c
  have n7 : kx_put (kx_new (ky_cm 306 (ky_ad (ky_ad (ky_ad (ky_ad (ky_ad (ky_ad (ky_ad S 298 0) 298 1) 298 2) 298 3) 298 4) 298 10) 298 12) (s + 167 + 1336 + 167 + 167 + 167 + 60 + 40) sc sg) 101 37 (fun _ => .int 0)) 298 14 (.ref 306) = ky_cm 307 (ky_ad (ky_ad (ky_ad (ky_ad (ky_ad (ky_ad (ky_ad (ky_ad S 298 0) 298 1) 298 2) 298 3) 298 4) 298 10) 298 12) 298 14) (s + 167 + 1336 + 167 + 167 + 167 + 60 + 40 + 37) sc sg := kz_np rfl (by decide) rfl (by decide) rfl (z7 _ (by decide)) (hg _ (by decide)) ky_z_i
  have n8 : kx_put (kx_new (ky_cm 307 (ky_ad (ky_ad (ky_ad (ky_ad (ky_ad (ky_ad (ky_ad (ky_ad S 298 0) 298 1) 298 2) 298 3) 298 4) 298 10) 298 12) 298 14) (s + 167 + 1336 + 167 + 167 + 167 + 60 + 40 + 37) sc sg) 101 12 (fun _ => .int 0)) 298 15 (.ref 307) = ky_cm 308 (ky_ad (ky_ad (ky_ad (ky_ad (ky_ad (ky_ad (ky_ad (ky_ad (ky_ad S 298 0) 298 1) 298 2) 298 3) 298 4) 298 10) 298 12) 298 14) 298 15) (s + 167 + 1336 + 167 + 167 + 167 + 60 + 40 + 37 + 12) sc sg := kz_np rfl (by decide) rfl (by decide) rfl (z8 _ (by decide)) (hg _ (by decide)) ky_z_i
  have n9 : kx_put (kx_new (ky_cm 308 (ky_ad (ky_ad (ky_ad (ky_ad (ky_ad (ky_ad (ky_ad (ky_ad (ky_ad S 298 0) 298 1) 298 2) 298 3) 298 4) 298 10) 298 12) 298 14) 298 15) (s + 167 + 1336 + 167 + 167 + 167 + 60 + 40 + 37 + 12) sc sg) 101 12 (fun _ => .int 0)) 298 16 (.ref 308) = ky_cm 309 (ky_ad (ky_ad (ky_ad (ky_ad (ky_ad (ky_ad (ky_ad (ky_ad (ky_ad (ky_ad S 298 0) 298 1) 298 2) 298 3) 298 4) 298 10) 298 12) 298 14) 298 15) 298 16) (s + 167 + 1336 + 167 + 167 + 167 + 60 + 40 + 37 + 12 + 12) sc sg := kz_np rfl (by decide) rfl (by decide) rfl (z9 _ (by decide)) (hg _ (by decide)) ky_z_i
  have n10 : kx_put (kx_new (ky_cm 309 (ky_ad (ky_ad (ky_ad (ky_ad (ky_ad (ky_ad (ky_ad (ky_ad (ky_ad (ky_ad S 298 0) 298 1) 298 2) 298 3) 298 4) 298 10) 298 12) 298 14) 298 15) 298 16) (s + 167 + 1336 + 167 + 167 + 167 + 60 + 40 + 37 + 12 + 12) sc sg) 101 144 (fun _ => .int 0)) 298 17 (.ref 309) = ky_cm 310 (ky_ad (ky_ad (ky_ad (ky_ad (ky_ad (ky_ad (ky_ad (ky_ad (ky_ad (ky_ad (ky_ad S 298 0) 298 1) 298 2) 298 3) 298 4) 298 10) 298 12) 298 14) 298 15) 298 16) 298 17) (s + 167 + 1336 + 167 + 167 + 167 + 60 + 40 + 37 + 12 + 12 + 144) sc sg := kz_np rfl (by decide) rfl (by decide) rfl (z10 _ (by decide)) (hg _ (by decide)) ky_z_i
  have n11 : kx_put (kx_new (ky_cm 310 (ky_ad (ky_ad (ky_ad (ky_ad (ky_ad (ky_ad (ky_ad (ky_ad (ky_ad (ky_ad (ky_ad S 298 0) 298 1) 298 2) 298 3) 298 4) 298 10) 298 12) 298 14) 298 15) 298 16) 298 17) (s + 167 + 1336 + 167 + 167 + 167 + 60 + 40 + 37 + 12 + 12 + 144) sc sg) 101 96 (fun _ => .int 0)) 298 19 (.ref 310) = ky_cm 311 (ky_ad (ky_ad (ky_ad (ky_ad (ky_ad (ky_ad (ky_ad (ky_ad (ky_ad (ky_ad (ky_ad (ky_ad S 298 0) 298 1) 298 2) 298 3) 298 4) 298 10) 298 12) 298 14) 298 15) 298 16) 298 17) 298 19) (s + 167 + 1336 + 167 + 167 + 167 + 60 + 40 + 37 + 12 + 12 + 144 + 96) sc sg := kz_np rfl (by decide) rfl (by decide) rfl (z11 _ (by decide)) (hg _ (by decide)) ky_z_i
  have hh : ∀ m S' s', 298 < m → kx_sh (ky_cm m S' s' sc sg) 298 = (10, 21) := fun m S' s' h => ky_cm_sh h
  rw [kx_o112]
  simp (disch := first | omega | decide) only [kx_e112_0, kx_e112_1, kx_e112_4, kx_e112_5, kx_e112_8, kx_e112_10, kx_e112_13, kx_e112_14, kx_e112_17, kx_e112_19, kx_e112_22, kx_e112_23, kx_e112_26, kx_e112_28, kx_e112_31, kx_e112_32, kx_e112_35, kx_e112_37, kx_e112_40, kx_e112_41, kx_e112_44, kx_e112_46, kx_e112_49, kx_e112_50, kx_e112_52, kx_e112_54, kx_e112_57, kx_e112_58, kx_e112_60, kx_e112_62, kx_e112_65, kx_e112_66, kx_e112_68, kx_e112_70, kx_e112_73, kx_e112_74, kx_e112_76, kx_e112_78, kx_e112_81, kx_e112_82, kx_e112_84, kx_e112_86, kx_e112_89, kx_e112_90, kx_e112_93, kx_e112_95, kx_e112_98, kx_e112_99, kx_e112_101, kx_e112_103, kx_e112_106, ↓reduceIte, Bool.true_eq_false, Bool.false_eq_true, reduceCtorEq, Option.bind_some, Option.bind_none, Option.toList_some, Option.toList_none, List.cons_append, List.nil_append, kx_nat_s, not_true_eq_false, not_false_eq_true, Int32.reduceAdd, Int32.reduceSub, Int32.reduceLT, Int32.reduceMul, Int32.reduceDiv, Int32.reduceMod, Nat.reduceLT, Nat.reduceLeDiff, Nat.reduceEqDiff, Nat.reduceAdd, true_and, and_true, kx_le_lt, ite_not, Classical.not_not, kx_ib, ne_eq, gt_iff_lt, ge_iff_le, kx_nw0, kx_nw1, kx_nwb, kx_b0, kx_b1, Nat.lt_irrefl, ky_cm_nx, kx_new_sh, Nat.reduceEqDiff, kx_tn_12, show (Int32.toNatClampNeg 167) = 167 by decide, show (Int32.toNatClampNeg 1336) = 1336 by decide, show (Int32.toNatClampNeg 60) = 60 by decide, show (Int32.toNatClampNeg 40) = 40 by decide, show (Int32.toNatClampNeg 37) = 37 by decide, show (Int32.toNatClampNeg 144) = 144 by decide, show (Int32.toNatClampNeg 96) = 96 by decide, hh, n0, n1, n2, n3, n4, n5, n6, n7, n8, n9, n10, n11]
def kz_S1 : Nat → Nat → Bool := ky_ad (kz_E (fun _ _ => false) 1) 0 0
def kz_S2 : Nat → Nat → Bool := ky_ad (kz_E kz_S1 25) 0 1
def kz_S3 : Nat → Nat → Bool := ky_ad (kz_E kz_S2 49) 0 2
def kz_S4 : Nat → Nat → Bool := ky_ad (kz_H kz_S3 8) 0 4
def kz_S5 : Nat → Nat → Bool := ky_ad (ky_ad (ky_ad (ky_ad kz_S4 267 0) 267 1) 267 2) 0 6
def kz_S6 : Nat → Nat → Bool := ky_ad (ky_ad (ky_ad (ky_ad (ky_ad (ky_ad (ky_ad (ky_ad kz_S5 272 0) 272 1) 272 2) 271 0) 271 1) 271 2) 271 3) 0 5
def kz_S7 : Nat → Nat → Bool := ky_ad (kz_O kz_S6 13) 0 7
def kz_S8 : Nat → Nat → Bool := ky_ad (ky_ad kz_S7 296 0) 0 8
theorem kz_E_z {b : Nat} {S : Nat → Nat → Bool} (h : ∀ a, b ≤ a → ∀ k, S a k = false) : ∀ a, b + 24 ≤ a → ∀ k, kz_E S b a k = false := fun a ha k => by
  unfold kz_E
  rw [if_neg (by omega)]
  exact h _ (by omega) k
theorem kz_z1 : ∀ a, 25 ≤ a → ∀ k, kz_S1 a k = false := kz_ad_z (kz_E_z (b := 1) (fun _ _ _ => rfl)) (by decide)
theorem kz_z2 : ∀ a, 49 ≤ a → ∀ k, kz_S2 a k = false := kz_ad_z (kz_E_z (b := 25) kz_z1) (by decide)
theorem kz_z3 : ∀ a, 73 ≤ a → ∀ k, kz_S3 a k = false := kz_ad_z (kz_E_z (b := 49) kz_z2) (by decide)
theorem kz_z4 : ∀ a, 267 ≤ a → ∀ k, kz_S4 a k = false := kz_ad_z (fun a h k => by
  unfold kz_H
  rw [if_neg (by omega), if_neg (by omega), if_neg (by omega)]
  exact kz_z3 a (by omega) k) (by decide)
theorem kz_z5 : ∀ a, 271 ≤ a → ∀ k, kz_S5 a k = false := kz_ad_z (kz_ad_z (kz_ad_z (kz_ad_z (fun a h => kz_z4 a (by omega)) (by decide)) (by decide)) (by decide)) (by decide)
theorem kz_z6 : ∀ a, 279 ≤ a → ∀ k, kz_S6 a k = false := kz_ad_z (kz_ad_z (kz_ad_z (kz_ad_z (kz_ad_z (kz_ad_z (kz_ad_z (kz_ad_z (fun a h => kz_z5 a (by omega)) (by decide)) (by decide)) (by decide)) (by decide)) (by decide)) (by decide)) (by decide)) (by decide)
theorem kz_z7 : ∀ a, 296 ≤ a → ∀ k, kz_S7 a k = false := kz_ad_z (fun a h k => by
  unfold kz_O
  rw [if_neg (by omega), if_neg (by omega), if_neg (by omega)]
  exact kz_z6 a (by omega) k) (by decide)
theorem kz_z8 : ∀ a, 298 ≤ a → ∀ k, kz_S8 a k = false := kz_ad_z (kz_ad_z (fun a h => kz_z7 a (by omega)) (by decide)) (by decide)
def kz_g0 : kx_G2 := fun _ _ => 0
def kz_g : kx_G2 := kx_up (kx_up kz_g0 0 9 (-15)) 0 10 (-15)
theorem kx_c_1 : kx_call 1 [.ref 0] (ky_cm 1 (fun _ _ => false) 11 sc kz_g0) = some (none, ky_cm 298 kz_S8 2696 sc kz_g) := by
  have hg : ∀ a k, kz_g0 a k = 0 := fun _ _ => rfl
  have n1 : kx_new (ky_cm 1 (fun _ _ => false) 11 sc kz_g0) 6 14 (kx_fd 6) = ky_cm 2 (fun _ _ => false) 25 sc kz_g0 := ky_cm_new rfl (fun _ => rfl) (hg _) (ky_fd_cv (by decide))
  have c1 : kx_call 87 [.ref 1] (ky_cm 2 (fun _ _ => false) 25 sc kz_g0) = some (none, ky_cm 25 (kz_E (fun _ _ => false) 1) 237 sc kz_g0) := kx_c_87 (ky_bb_lo (i := 0) (by decide)) (fun _ _ _ => rfl) (fun a _ => hg a)
  have p1 : kx_put (ky_cm 25 (kz_E (fun _ _ => false) 1) 237 sc kz_g0) 0 0 (.ref 1) = ky_cm 25 kz_S1 237 sc kz_g0 := ky_cm_put (by decide) rfl (by decide) rfl
  have n2 : kx_new (ky_cm 25 kz_S1 237 sc kz_g0) 6 14 (kx_fd 6) = ky_cm 26 kz_S1 251 sc kz_g0 := ky_cm_new rfl (kz_z1 _ (by decide)) (hg _) (ky_fd_cv (by decide))
  have c2 : kx_call 87 [.ref 25] (ky_cm 26 kz_S1 251 sc kz_g0) = some (none, ky_cm 49 (kz_E kz_S1 25) 463 sc kz_g0) := kx_c_87 (ky_bb_lo (i := 1) (by decide)) kz_z1 (fun a _ => hg a)
  have p2 : kx_put (ky_cm 49 (kz_E kz_S1 25) 463 sc kz_g0) 0 1 (.ref 25) = ky_cm 49 kz_S2 463 sc kz_g0 := ky_cm_put (by decide) rfl (by decide) rfl
  have n3 : kx_new (ky_cm 49 kz_S2 463 sc kz_g0) 6 14 (kx_fd 6) = ky_cm 50 kz_S2 477 sc kz_g0 := ky_cm_new rfl (kz_z2 _ (by decide)) (hg _) (ky_fd_cv (by decide))
  have c3 : kx_call 87 [.ref 49] (ky_cm 50 kz_S2 477 sc kz_g0) = some (none, ky_cm 73 (kz_E kz_S2 49) 689 sc kz_g0) := kx_c_87 (ky_bb_lo (i := 2) (by decide)) kz_z2 (fun a _ => hg a)
  have p3 : kx_put (ky_cm 73 (kz_E kz_S2 49) 689 sc kz_g0) 0 2 (.ref 49) = ky_cm 73 kz_S3 689 sc kz_g0 := ky_cm_put (by decide) rfl (by decide) rfl
  have p3b : kx_put (ky_cm 73 kz_S3 689 sc kz_g0) 0 3 (.int 0) = ky_cm 73 kz_S3 689 sc kz_g0 := by
    rw [ky_cm_puti (by decide) rfl]
    congr 1
    funext a k
    unfold kx_up kz_g0
    split <;> rfl
  have n4 : kx_new (ky_cm 73 kz_S3 689 sc kz_g0) 1 3 (kx_fd 1) = ky_cm 74 kz_S3 692 sc kz_g0 := ky_cm_new rfl (kz_z3 _ (by decide)) (hg _) (ky_fd_cv (by decide))
  have c4 : kx_call 60 [.ref 73] (ky_cm 74 kz_S3 692 sc kz_g0) = some (none, ky_cm 267 (kz_H kz_S3 8) 2508 sc kz_g0) := kx_c_60 kz_z3 (fun a _ => hg a)
  have p4 : kx_put (ky_cm 267 (kz_H kz_S3 8) 2508 sc kz_g0) 0 4 (.ref 73) = ky_cm 267 kz_S4 2508 sc kz_g0 := ky_cm_put (by decide) rfl (by decide) rfl
  have n5 : kx_new (ky_cm 267 kz_S4 2508 sc kz_g0) 3 3 (kx_fd 3) = ky_cm 268 kz_S4 2511 sc kz_g0 := ky_cm_new rfl (kz_z4 _ (by decide)) (hg _) (ky_fd_cv (by decide))
  have c5 : kx_call 69 [.ref 267] (ky_cm 268 kz_S4 2511 sc kz_g0) = some (none, ky_cm 271 (ky_ad (ky_ad (ky_ad kz_S4 267 0) 267 1) 267 2) 2538 sc kz_g0) := kx_c_69_267 kz_z4 (fun a _ => hg a)
  have p5 : kx_put (ky_cm 271 (ky_ad (ky_ad (ky_ad kz_S4 267 0) 267 1) 267 2) 2538 sc kz_g0) 0 6 (.ref 267) = ky_cm 271 kz_S5 2538 sc kz_g0 := ky_cm_put (by decide) rfl (by decide) rfl
  have n6 : kx_new (ky_cm 271 kz_S5 2538 sc kz_g0) 8 4 (kx_fd 8) = ky_cm 272 kz_S5 2542 sc kz_g0 := ky_cm_new rfl (kz_z5 _ (by decide)) (hg _) (ky_fd_cv (by decide))
  have c6 : kx_call 103 [.ref 271] (ky_cm 272 kz_S5 2542 sc kz_g0) = some (none, ky_cm 279 (ky_ad (ky_ad (ky_ad (ky_ad (ky_ad (ky_ad (ky_ad kz_S5 272 0) 272 1) 272 2) 271 0) 271 1) 271 2) 271 3) 2599 sc kz_g0) := kx_c_103 kz_z5 (fun a _ => hg a)
  have p6 : kx_put (ky_cm 279 (ky_ad (ky_ad (ky_ad (ky_ad (ky_ad (ky_ad (ky_ad kz_S5 272 0) 272 1) 272 2) 271 0) 271 1) 271 2) 271 3) 2599 sc kz_g0) 0 5 (.ref 271) = ky_cm 279 kz_S6 2599 sc kz_g0 := ky_cm_put (by decide) rfl (by decide) rfl
  have n7 : kx_new (ky_cm 279 kz_S6 2599 sc kz_g0) 5 5 (kx_fd 5) = ky_cm 280 kz_S6 2604 sc kz_g0 := ky_cm_new rfl (kz_z6 _ (by decide)) (hg _) (ky_fd_cv (by decide))
  have c7 : kx_call 79 [.ref 279] (ky_cm 280 kz_S6 2604 sc kz_g0) = some (none, ky_cm 296 (kz_O kz_S6 13) 2676 sc kz_g0) := kx_c_79 kz_z6 (fun a _ => hg a)
  have p7 : kx_put (ky_cm 296 (kz_O kz_S6 13) 2676 sc kz_g0) 0 7 (.ref 279) = ky_cm 296 kz_S7 2676 sc kz_g0 := ky_cm_put (by decide) rfl (by decide) rfl
  have n8 : kx_new (ky_cm 296 kz_S7 2676 sc kz_g0) 11 4 (kx_fd 11) = ky_cm 297 kz_S7 2680 sc kz_g0 := ky_cm_new rfl (kz_z7 _ (by decide)) (hg _) (ky_fd_cv (by decide))
  have c8 : kx_call 218 [.ref 296] (ky_cm 297 kz_S7 2680 sc kz_g0) = some (none, ky_cm 298 (ky_ad kz_S7 296 0) 2696 sc kz_g0) := kx_c_218_296 (kz_z7 _ (by decide)) (hg _) rfl
  have p8 : kx_put (ky_cm 298 (ky_ad kz_S7 296 0) 2696 sc kz_g0) 0 8 (.ref 296) = ky_cm 298 kz_S8 2696 sc kz_g0 := ky_cm_put (by decide) rfl (by decide) rfl
  have p9 : kx_put (ky_cm 298 kz_S8 2696 sc kz_g0) 0 9 (.int (-15)) = ky_cm 298 kz_S8 2696 sc (kx_up kz_g0 0 9 (-15)) := ky_cm_puti (by decide) rfl
  have p10 : kx_put (ky_cm 298 kz_S8 2696 sc (kx_up kz_g0 0 9 (-15))) 0 10 (.int (-15)) = ky_cm 298 kz_S8 2696 sc kz_g := ky_cm_puti (by decide) rfl
  have hh : ∀ m S' s' sg, 0 < m → kx_sh (ky_cm m S' s' sc sg) 0 = (9, 11) := fun m S' s' sg h => ky_cm_sh h
  rw [kx_o1]
  simp (disch := decide) only [kx_e1_0, kx_e1_1, kx_e1_4, kx_e1_5, kx_e1_8, kx_e1_9, kx_e1_12, kx_e1_15, kx_e1_16, kx_e1_19, kx_e1_20, kx_e1_23, kx_e1_26, kx_e1_27, kx_e1_30, kx_e1_31, kx_e1_34, kx_e1_37, kx_e1_38, kx_e1_39, kx_e1_42, kx_e1_43, kx_e1_46, kx_e1_47, kx_e1_50, kx_e1_53, kx_e1_54, kx_e1_57, kx_e1_58, kx_e1_61, kx_e1_64, kx_e1_65, kx_e1_68, kx_e1_69, kx_e1_72, kx_e1_75, kx_e1_76, kx_e1_79, kx_e1_80, kx_e1_83, kx_e1_86, kx_e1_87, kx_e1_90, kx_e1_91, kx_e1_94, kx_e1_97, kx_e1_98, kx_e1_100, kx_e1_103, kx_e1_104, kx_e1_106, kx_e1_109, ↓reduceIte, Bool.true_eq_false, Bool.false_eq_true, reduceCtorEq, Option.bind_some, Option.bind_none, Option.toList_some, Option.toList_none, List.cons_append, List.nil_append, kx_nat_s, not_true_eq_false, not_false_eq_true, Int32.reduceAdd, Int32.reduceSub, Int32.reduceLT, Int32.reduceMul, Int32.reduceDiv, Int32.reduceMod, Nat.reduceLT, Nat.reduceLeDiff, Nat.reduceEqDiff, Nat.reduceAdd, true_and, and_true, kx_le_lt, ite_not, Classical.not_not, kx_ib, ne_eq, gt_iff_lt, ge_iff_le, kx_nw0, kx_nw1, kx_nwb, kx_b0, kx_b1, Nat.lt_irrefl, ky_cm_nx, true_or, hh, n1, c1, p1, n2, c2, p2, n3, c3, p3, p3b, n4, c4, p4, n5, c5, p5, n6, c6, p6, n7, c7, p7, n8, c8, p8, p9, p10]
def kz_S9 : Nat → Nat → Bool := (ky_ad (ky_ad (ky_ad (ky_ad (ky_ad (ky_ad (ky_ad (ky_ad (ky_ad (ky_ad (ky_ad (ky_ad kz_S8 298 0) 298 1) 298 2) 298 3) 298 4) 298 10) 298 12) 298 14) 298 15) 298 16) 298 17) 298 19)
theorem kz_gd {l : List (Option Nat)} {k : Nat} (h : l.length ≤ k) : l.getD k none = none := by
  rw [List.getD_eq_getElem?_getD, List.getElem?_eq_none h]
  rfl
theorem kz_RB_n {b j k : Nat} (h : 21 ≤ k) : kx_RB b j k = none := by
  unfold kx_RB
  by_cases h0 : j = 0
  · rw [if_pos h0, if_neg (by omega), if_neg (by omega), if_neg (by omega), if_neg (by omega), if_neg (by omega)]
  · rw [if_neg h0, if_neg (by omega), if_neg (by omega)]
theorem kz_PR_n {a k : Nat} (h : ¬ (a < 311 ∧ k < 21)) : kx_PR 0 a k = none := by
  have hl : ∀ i, i < 13 → (kx_RC.getD i []).length ≤ 20 := by decide
  unfold kx_PR
  by_cases h0 : a = 0
  · rw [if_pos h0]
    exact kz_gd (by have : kx_R0.length = 9 := rfl; omega)
  · rw [if_neg h0]
    by_cases h1 : a < 73
    · rw [if_pos h1]
      exact kz_RB_n (by omega)
    · rw [if_neg h1]
      by_cases h2 : a = 73
      · rw [if_pos h2, if_neg (by omega)]
      · rw [if_neg h2]
        by_cases h3 : a = 74
        · rw [if_pos h3, if_neg (by omega)]
        · rw [if_neg h3]
          by_cases h4 : a < 267
          · rw [if_pos h4]
            exact kz_RB_n (by omega)
          · rw [if_neg h4]
            by_cases h5 : a = 280
            · rw [if_pos h5, if_neg (by omega)]
            · rw [if_neg h5]
              by_cases h6 : a = 282
              · rw [if_pos h6, if_neg (by omega)]
              · rw [if_neg h6]
                by_cases h7 : a = 296
                · rw [if_pos h7, if_neg (by omega)]
                · rw [if_neg h7]
                  by_cases h8 : a = 298
                  · rw [if_pos h8]
                    exact kz_gd (by have : kx_RM.length = 20 := rfl; omega)
                  · rw [if_neg h8]
                    by_cases h9 : a - 267 < 13
                    · exact kz_gd (by have := hl _ h9; omega)
                    · rw [show kx_RC.getD (a - 267) [] = [] by
                        rw [List.getD_eq_getElem?_getD, List.getElem?_eq_none (by have : kx_RC.length = 13 := rfl; omega)]
                        rfl]
                      rfl
theorem kz_S9_ok (a k : Nat) : kz_S9 a k = true ∨ kx_PR 0 a k = none := by
  by_cases h : a < 311 ∧ k < 21
  · have : ∀ a, a < 311 → ∀ k, k < 21 → kz_S9 a k = true ∨ kx_PR 0 a k = none := by decide +kernel
    exact this a h.1 k h.2
  · exact Or.inr (kz_PR_n h)
theorem kz_start {L : Nat} {xs : Nat → Int32} : kx_call 0 [.retAddr 1] (kx_M0 L xs) = kx_D 0 18 [some (.retAddr 1), some (.ref 0), some (.ref 298), some (.int 0), none, none, none, none] [] (kx_pm 0 (L, xs) kz_g (fun _ _ => 0)) := by
  have n0 : kx_new (kx_M0 L xs) 9 11 (kx_fd 9) = ky_cm 1 (fun _ _ => false) 11 (L, xs) kz_g0 := by
    rw [ky_cm_0]
    exact ky_cm_new rfl (fun _ => rfl) (fun _ => rfl) (ky_fd_cv (by decide))
  have c1 := kx_c_1 (sc := (L, xs))
  have n1 : kx_new (ky_cm 298 kz_S8 2696 (L, xs) kz_g) 10 21 (kx_fd 10) = ky_cm 299 kz_S8 2717 (L, xs) kz_g := ky_cm_new rfl (kz_z8 _ (by decide)) (fun k => by unfold kz_g; rw [kx_up_ne (by omega), kx_up_ne (by omega)]; rfl) (ky_fd_cv (by decide))
  have c2 : kx_call 112 [.ref 298] (ky_cm 299 kz_S8 2717 (L, xs) kz_g) = some (none, ky_cm 311 kz_S9 5122 (L, xs) kz_g) := kx_c_112 kz_z8 (fun a h k => by unfold kz_g; rw [kx_up_ne (by omega), kx_up_ne (by omega)]; rfl)
  have e := ky_cm_end (sc := (L, xs)) (sg := kz_g) kz_S9_ok
  have x0 : kx_nx (kx_M0 L xs) = 0 := rfl
  rw [kx_o0]
  simp (disch := decide) only [kx_e0_0, kx_e0_3, kx_e0_4, kx_e0_7, kx_e0_8, kx_e0_11, kx_e0_12, kx_e0_15, kx_e0_16, kx_e0_17, ↓reduceIte, Bool.true_eq_false, Bool.false_eq_true, reduceCtorEq, Option.bind_some, Option.bind_none, Option.toList_some, Option.toList_none, List.cons_append, List.nil_append, kx_nat_s, not_true_eq_false, not_false_eq_true, Int32.reduceAdd, Int32.reduceSub, Int32.reduceLT, Int32.reduceMul, Int32.reduceDiv, Int32.reduceMod, Nat.reduceLT, Nat.reduceLeDiff, Nat.reduceEqDiff, Nat.reduceAdd, true_and, and_true, kx_le_lt, ite_not, Classical.not_not, kx_ib, ne_eq, gt_iff_lt, ge_iff_le, kx_nw0, kx_nw1, kx_nwb, kx_b0, kx_b1, Nat.lt_irrefl, ky_cm_nx, x0, n0, c1, n1, c2, e]
end KyBoth
