/-! the constructor of a State -/
def ky_bb (b : Nat) : Prop := b + 24 ≤ 297 ∧ (∀ j, j < 24 → kx_SH (b + j) = kx_SB j) ∧ ∀ j, j < 24 → ∀ k, kx_PR 0 (b + j) k = kx_RB b j k
theorem ky_bb_lo {i : Nat} (h : i < 3) : ky_bb (1 + 24 * i) := by
  refine ⟨by omega, fun j hj => ?_, fun j hj k => ?_⟩
  · unfold kx_SH
    rw [if_neg (by omega), if_pos (by omega), show (1 + 24 * i + j - 1) % 24 = j by omega]
  · unfold kx_PR
    rw [if_neg (by omega), if_pos (by omega), show (1 + 24 * i + j - 1) % 24 = j by omega, show (1 + 24 * i + j - 1) / 24 = i by omega]
theorem ky_bb_hi {i : Nat} (h : i < 8) : ky_bb (75 + 24 * i) := by
  refine ⟨by omega, fun j hj => ?_, fun j hj k => ?_⟩
  · unfold kx_SH
    rw [if_neg (by omega), if_neg (by omega), if_neg (by omega), if_neg (by omega), if_pos (by omega), show (75 + 24 * i + j - 75) % 24 = j by omega]
  · unfold kx_PR
    rw [if_neg (by omega), if_neg (by omega), if_neg (by omega), if_neg (by omega), if_pos (by omega), show (75 + 24 * i + j - 75) % 24 = j by omega, show (75 + 24 * i + j - 75) / 24 = i by omega]
section KyState
variable {s b : Nat} {S : Nat → Nat → Bool} {sc : Nat × (Nat → Int32)} {sg : kx_G2}
def kz_A (S : Nat → Nat → Bool) (b k : Nat) : Nat → Nat → Bool := fun a j => if a = b then decide (j = 1) else if a = b + 1 then decide (j < k) else S a j
def kz_B (S : Nat → Nat → Bool) (b k : Nat) : Nat → Nat → Bool := fun a j => if a = b then decide (j = 1) || decide (j = 3) else if a = b + 1 then decide (j < 6) else if a = b + 8 then decide (j < k) else S a j
def kz_E (S : Nat → Nat → Bool) (b : Nat) : Nat → Nat → Bool := fun a j => if b ≤ a ∧ a < b + 24 then true else S a j
theorem kx_c_101 (M : kx_M) {a : Nat} : kx_call 101 [.ref a] M = some (none, M) := by
  rw [kx_o101]
  simp only [kx_e101_0, kx_e101_1, kx_e101_4]
theorem kx_c_64 (M : kx_M) {a : Nat} : kx_call 64 [.ref a] M = some (none, M) := by
  rw [kx_o64]
  simp only [kx_e64_0, kx_e64_1, kx_e64_4]
theorem kx_c_87 (hb : ky_bb b) (hS : ∀ a, b ≤ a → ∀ k, S a k = false) (hg : ∀ a, b ≤ a → ∀ k, sg a k = 0) : kx_call 87 [.ref b] (ky_cm (b + 1) S s sc sg) = some (none, ky_cm (b + 24) (kz_E S b) (s + 212) sc sg) := by
  obtain ⟨b1, b2, b3⟩ := hb
  have s0 : kx_SH b = (6, 14) := b2 0 (by decide)
  have s1 : kx_SH (b + 1) = (110, 6) := b2 1 (by decide)
  have r01 : kx_PR 0 b 1 = some (b + 1) := b3 0 (by decide) 1
  have new1 : kx_new (ky_cm (b + 1) S s sc sg) 110 6 (fun _ => .null) = ky_cm (b + 2) S (s + 6) sc sg := ky_cm_new s1 (hS _ (by omega)) (hg _ (by omega)) ky_z_110
  have put1 : kx_put (ky_cm (b + 2) S (s + 6) sc sg) b 1 (.ref (b + 1)) = ky_cm (b + 2) (kz_A S b 0) (s + 6) sc sg := by
    rw [ky_cm_put (by omega) (by rw [s0]; rfl) (by rw [s0]; decide) r01]
    refine ky_cm_congr (fun a j => Or.inl ?_)
    unfold ky_ad kz_A
    by_cases ha : a = b
    · subst ha
      by_cases hj : j = 1
      · subst hj
        rw [if_pos ⟨rfl, rfl⟩, if_pos rfl]
        rfl
      · rw [if_neg (fun z => hj z.2), if_pos rfl, hS _ (Nat.le_refl _), decide_eq_false hj]
    · rw [if_neg (fun z => ha z.1), if_neg ha]
      by_cases ha1 : a = b + 1
      · rw [if_pos ha1, ha1, hS _ (by omega)]
        rfl
      · rw [if_neg ha1]
  have LA := kx_iter (n := 6) (fun k => kx_D 87 15 [some (.ref b), some (.int (Int32.ofNat k))] [] (ky_cm (b + 2 + k) (kz_A S b k) (s + 6 + 4 * k) sc sg)) (fun k hk => by
    have st : kx_SH (b + 2 + k) = (7, 4) := by
      rw [show b + 2 + k = b + (2 + k) by omega, b2 (2 + k) (by omega)]
      unfold kx_SB
      rw [if_neg (by omega), if_neg (by omega), if_pos (by omega)]
    have g1 : kx_dt (ky_cm (b + 2 + k) (kz_A S b k) (s + 6 + 4 * k) sc sg) b 1 = .ref (b + 1) := ky_cm_ref (by omega) (by rw [s0]; rfl) (by rw [s0]; decide) (by unfold kz_A; rw [if_pos rfl]; rfl) r01
    have n1 : kx_new (ky_cm (b + 2 + k) (kz_A S b k) (s + 6 + 4 * k) sc sg) 7 4 (kx_fd 7) = ky_cm (b + 2 + k + 1) (kz_A S b k) (s + 6 + 4 * k + 4) sc sg := ky_cm_new st (fun j => by unfold kz_A; rw [if_neg (by omega), if_neg (by omega)]; exact hS _ (by omega) j) (hg _ (by omega)) (ky_fd_cv (by decide))
    have rk : kx_PR 0 (b + 1) k = some (b + 2 + k) := by
      rw [b3 1 (by decide) k]
      unfold kx_RB
      rw [if_neg (by decide), if_pos ⟨rfl, hk⟩]
    have p1 : kx_put (ky_cm (b + 2 + k + 1) (kz_A S b k) (s + 6 + 4 * k + 4) sc sg) (b + 1) k (.ref (b + 2 + k)) = ky_cm (b + 2 + (k + 1)) (kz_A S b (k + 1)) (s + 6 + 4 * (k + 1)) sc sg := by
      rw [ky_cm_put (by omega) (by rw [s1]; rfl) (by rw [s1]; decide) rk, show s + 6 + 4 * k + 4 = s + 6 + 4 * (k + 1) by omega]
      refine ky_cm_congr (fun a j => Or.inl ?_)
      unfold ky_ad kz_A
      by_cases ha : a = b + 1
      · subst ha
        rw [if_neg (show ¬ b + 1 = b by omega), if_pos rfl, if_neg (show ¬ b + 1 = b by omega), if_pos rfl]
        by_cases hj : j = k
        · rw [if_pos ⟨rfl, hj⟩, hj, decide_eq_true (show k < k + 1 by omega)]
        · rw [if_neg (fun z => hj z.2)]
          by_cases hl : j < k
          · rw [decide_eq_true hl, decide_eq_true (show j < k + 1 by omega)]
          · rw [decide_eq_false hl, decide_eq_false (show ¬ j < k + 1 by omega)]
      · rw [if_neg (fun z => ha z.1), if_neg ha, if_neg ha]
    have h0 : kx_sh (ky_cm (b + 2 + k) (kz_A S b k) (s + 6 + 4 * k) sc sg) b = (6, 14) := (ky_cm_sh (by omega)).trans s0
    have h1 : kx_sh (ky_cm (b + 2 + k + 1) (kz_A S b k) (s + 6 + 4 * k + 4) sc sg) (b + 1) = (110, 6) := (ky_cm_sh (by omega)).trans s1
    have h2 : kx_sh (ky_cm (b + 2 + k + 1) (kz_A S b k) (s + 6 + 4 * k + 4) sc sg) (b + 2 + k) = (7, 4) := (ky_cm_sh (by omega)).trans st
    rw [kx_e87_15]
    simp (disch := omega) only [kx_e87_16, kx_e87_18, kx_e87_21, kx_e87_22, kx_e87_25, kx_e87_26, kx_e87_29, kx_e87_30, kx_e87_33, kx_e87_34, kx_e87_37, ↓reduceIte, Bool.true_eq_false, Bool.false_eq_true, reduceCtorEq, Option.bind_some, Option.bind_none, Option.toList_some, Option.toList_none, List.cons_append, List.nil_append, kx_nat_s, not_true_eq_false, not_false_eq_true, Int32.reduceAdd, Int32.reduceSub, Int32.reduceLT, Int32.reduceMul, Int32.reduceDiv, Int32.reduceMod, Nat.reduceLT, Nat.reduceLeDiff, Nat.reduceEqDiff, Nat.reduceAdd, true_and, and_true, kx_le_lt, ite_not, Classical.not_not, kx_ib, ne_eq, gt_iff_lt, ge_iff_le, kx_nw0, kx_nw1, kx_nwb, kx_b0, kx_b1, Nat.lt_irrefl, ky_i4z, ky_i10z, ky_pl_0, ky_pl_2, ky_pl_3, ky_pl_4, ky_pl_5, ky_pl_6, ky_pl_7, ky_pl_8, ky_pl_9, eq_self, Nat.not_lt_zero, ky_q_0_1, ky_q_0_2, ky_q_0_3, ky_q_0_4, ky_q_0_5, ky_q_0_6, ky_q_0_7, ky_q_0_8, ky_q_1_0, ky_q_1_2, ky_q_1_3, ky_q_1_4, ky_q_1_5, ky_q_1_6, ky_q_1_7, ky_q_1_8, ky_q_2_0, ky_q_2_1, ky_q_2_3, ky_q_2_4, ky_q_2_5, ky_q_2_6, ky_q_2_7, ky_q_2_8, ky_q_3_0, ky_q_3_1, ky_q_3_2, ky_q_3_4, ky_q_3_5, ky_q_3_6, ky_q_3_7, ky_q_3_8, ky_q_4_0, ky_q_4_1, ky_q_4_2, ky_q_4_3, ky_q_4_5, ky_q_4_6, ky_q_4_7, ky_q_4_8, ky_q_5_0, ky_q_5_1, ky_q_5_2, ky_q_5_3, ky_q_5_4, ky_q_5_6, ky_q_5_7, ky_q_5_8, ky_q_6_0, ky_q_6_1, ky_q_6_2, ky_q_6_3, ky_q_6_4, ky_q_6_5, ky_q_6_7, ky_q_6_8, ky_q_7_0, ky_q_7_1, ky_q_7_2, ky_q_7_3, ky_q_7_4, ky_q_7_5, ky_q_7_6, ky_q_7_8, ky_q_8_0, ky_q_8_1, ky_q_8_2, ky_q_8_3, ky_q_8_4, ky_q_8_5, ky_q_8_6, ky_q_8_7, ky_tl_0, ky_tl_1, ky_tl_2, ky_tl_3, ky_tl_4, ky_tl_5, ky_tl_6, ky_tl_7, ky_tl_8, ky_tl_9, ky_tl_10, ky_tl_11, ky_tl_12, ky_tl_13, ky_tl_32, ky_tl_36, ky_tl_37, ky_tl_40, ky_tl_48, ky_tl_57, ky_tl_60, ky_tl_126, ky_tl_160, ky_tg_0, ky_tg_1, ky_tg_2, ky_tg_3, ky_tg_4, ky_tg_5, ky_tg_6, ky_tg_7, ky_tg_8, ky_tg_9, ky_tg_10, ky_tg_11, ky_tg_12, ky_tg_13, ky_tg_32, ky_tg_36, ky_tg_37, ky_tg_40, ky_tg_48, ky_tg_57, ky_tg_60, ky_tg_126, ky_tg_160, ky_te_0, ky_te_1, ky_te_2, ky_te_3, ky_te_4, ky_te_5, ky_te_6, ky_te_7, ky_te_8, ky_te_9, ky_te_10, ky_te_11, ky_te_12, ky_te_13, ky_te_32, ky_te_36, ky_te_37, ky_te_40, ky_te_48, ky_te_57, ky_te_60, ky_te_126, ky_te_160, h0, hk, g1, ky_cm_nx, n1, kx_c_101, h1, h2, kx_arr_n, kx_nat_i, true_or, p1])
  have s8 : kx_SH (b + 8) = (111, 12) := b2 8 (by decide)
  have r03 : kx_PR 0 b 3 = some (b + 8) := b3 0 (by decide) 3
  have new2 : kx_new (ky_cm (b + 2 + 6) (kz_A S b 6) (s + 6 + 4 * 6) sc sg) 111 12 (fun _ => .null) = ky_cm (b + 9) (kz_A S b 6) (s + 42) sc sg := ky_cm_new s8 (fun j => by unfold kz_A; rw [if_neg (by omega), if_neg (by omega)]; exact hS _ (by omega) j) (hg _ (by omega)) ky_z_111
  have put2 : kx_put (ky_cm (b + 9) (kz_A S b 6) (s + 42) sc sg) b 3 (.ref (b + 2 + 6)) = ky_cm (b + 9) (kz_B S b 0) (s + 42) sc sg := by
    rw [ky_cm_put (by omega) (by rw [s0]; rfl) (by rw [s0]; decide) r03]
    refine ky_cm_congr (fun a j => Or.inl ?_)
    unfold ky_ad kz_A kz_B
    by_cases ha : a = b
    · subst ha
      rw [if_pos rfl, if_pos rfl]
      by_cases hj : j = 3
      · subst hj
        rw [if_pos ⟨rfl, rfl⟩]
        rfl
      · rw [if_neg (fun z => hj z.2), decide_eq_false hj, Bool.or_false]
    · rw [if_neg (fun z => ha z.1), if_neg ha, if_neg ha]
      by_cases ha1 : a = b + 1
      · rw [if_pos ha1, if_pos ha1]
      · rw [if_neg ha1, if_neg ha1]
        by_cases ha8 : a = b + 8
        · rw [if_pos ha8, ha8, hS _ (by omega)]
          rfl
        · rw [if_neg ha8]
  have LB := kx_iter (n := 12) (fun k => kx_D 87 51 [some (.ref b), some (.int (Int32.ofNat k))] [] (ky_cm (b + 9 + k) (kz_B S b k) (s + 42 + 13 * k) sc sg)) (fun k hk => by
    have st : kx_SH (b + 9 + k) = (2, 13) := by
      rw [show b + 9 + k = b + (9 + k) by omega, b2 (9 + k) (by omega)]
      unfold kx_SB
      rw [if_neg (by omega), if_neg (by omega), if_neg (by omega), if_neg (by omega), if_pos (by omega)]
    have g1 : kx_dt (ky_cm (b + 9 + k) (kz_B S b k) (s + 42 + 13 * k) sc sg) b 3 = .ref (b + 8) := ky_cm_ref (by omega) (by rw [s0]; rfl) (by rw [s0]; decide) (by unfold kz_B; rw [if_pos rfl]; rfl) r03
    have n1 : kx_new (ky_cm (b + 9 + k) (kz_B S b k) (s + 42 + 13 * k) sc sg) 2 13 (kx_fd 2) = ky_cm (b + 9 + k + 1) (kz_B S b k) (s + 42 + 13 * k + 13) sc sg := ky_cm_new st (fun j => by unfold kz_B; rw [if_neg (by omega), if_neg (by omega), if_neg (by omega)]; exact hS _ (by omega) j) (hg _ (by omega)) (ky_fd_cv (by decide))
    have rk : kx_PR 0 (b + 8) k = some (b + 9 + k) := by
      rw [b3 8 (by decide) k]
      unfold kx_RB
      rw [if_neg (by decide), if_neg (by omega), if_pos ⟨rfl, hk⟩]
    have p1 : kx_put (ky_cm (b + 9 + k + 1) (kz_B S b k) (s + 42 + 13 * k + 13) sc sg) (b + 8) k (.ref (b + 9 + k)) = ky_cm (b + 9 + (k + 1)) (kz_B S b (k + 1)) (s + 42 + 13 * (k + 1)) sc sg := by
      rw [ky_cm_put (by omega) (by rw [s8]; rfl) (by rw [s8]; decide) rk, show s + 42 + 13 * k + 13 = s + 42 + 13 * (k + 1) by omega]
      refine ky_cm_congr (fun a j => Or.inl ?_)
      unfold ky_ad kz_B
      by_cases ha : a = b + 8
      · subst ha
        rw [if_neg (show ¬ b + 8 = b by omega), if_neg (show ¬ b + 8 = b + 1 by omega), if_pos rfl, if_neg (show ¬ b + 8 = b by omega), if_neg (show ¬ b + 8 = b + 1 by omega), if_pos rfl]
        by_cases hj : j = k
        · rw [if_pos ⟨rfl, hj⟩, hj, decide_eq_true (show k < k + 1 by omega)]
        · rw [if_neg (fun z => hj z.2)]
          by_cases hl : j < k
          · rw [decide_eq_true hl, decide_eq_true (show j < k + 1 by omega)]
          · rw [decide_eq_false hl, decide_eq_false (show ¬ j < k + 1 by omega)]
      · rw [if_neg (fun z => ha z.1), if_neg ha, if_neg ha]
    have h0 : kx_sh (ky_cm (b + 9 + k) (kz_B S b k) (s + 42 + 13 * k) sc sg) b = (6, 14) := (ky_cm_sh (by omega)).trans s0
    have h1 : kx_sh (ky_cm (b + 9 + k + 1) (kz_B S b k) (s + 42 + 13 * k + 13) sc sg) (b + 8) = (111, 12) := (ky_cm_sh (by omega)).trans s8
    have h2 : kx_sh (ky_cm (b + 9 + k + 1) (kz_B S b k) (s + 42 + 13 * k + 13) sc sg) (b + 9 + k) = (2, 13) := (ky_cm_sh (by omega)).trans st
    have l12 : (Int32.ofNat k < 12) = (k < 12) := ky_tl_12 (by omega)
    rw [kx_e87_51]
    simp (disch := omega) only [kx_e87_52, kx_e87_54, kx_e87_57, kx_e87_58, kx_e87_61, kx_e87_62, kx_e87_65, kx_e87_66, kx_e87_69, kx_e87_70, kx_e87_73, ↓reduceIte, Bool.true_eq_false, Bool.false_eq_true, reduceCtorEq, Option.bind_some, Option.bind_none, Option.toList_some, Option.toList_none, List.cons_append, List.nil_append, kx_nat_s, not_true_eq_false, not_false_eq_true, Int32.reduceAdd, Int32.reduceSub, Int32.reduceLT, Int32.reduceMul, Int32.reduceDiv, Int32.reduceMod, Nat.reduceLT, Nat.reduceLeDiff, Nat.reduceEqDiff, Nat.reduceAdd, true_and, and_true, kx_le_lt, ite_not, Classical.not_not, kx_ib, ne_eq, gt_iff_lt, ge_iff_le, kx_nw0, kx_nw1, kx_nwb, kx_b0, kx_b1, Nat.lt_irrefl, ky_i4z, ky_i10z, ky_pl_0, ky_pl_2, ky_pl_3, ky_pl_4, ky_pl_5, ky_pl_6, ky_pl_7, ky_pl_8, ky_pl_9, eq_self, Nat.not_lt_zero, ky_q_0_1, ky_q_0_2, ky_q_0_3, ky_q_0_4, ky_q_0_5, ky_q_0_6, ky_q_0_7, ky_q_0_8, ky_q_1_0, ky_q_1_2, ky_q_1_3, ky_q_1_4, ky_q_1_5, ky_q_1_6, ky_q_1_7, ky_q_1_8, ky_q_2_0, ky_q_2_1, ky_q_2_3, ky_q_2_4, ky_q_2_5, ky_q_2_6, ky_q_2_7, ky_q_2_8, ky_q_3_0, ky_q_3_1, ky_q_3_2, ky_q_3_4, ky_q_3_5, ky_q_3_6, ky_q_3_7, ky_q_3_8, ky_q_4_0, ky_q_4_1, ky_q_4_2, ky_q_4_3, ky_q_4_5, ky_q_4_6, ky_q_4_7, ky_q_4_8, ky_q_5_0, ky_q_5_1, ky_q_5_2, ky_q_5_3, ky_q_5_4, ky_q_5_6, ky_q_5_7, ky_q_5_8, ky_q_6_0, ky_q_6_1, ky_q_6_2, ky_q_6_3, ky_q_6_4, ky_q_6_5, ky_q_6_7, ky_q_6_8, ky_q_7_0, ky_q_7_1, ky_q_7_2, ky_q_7_3, ky_q_7_4, ky_q_7_5, ky_q_7_6, ky_q_7_8, ky_q_8_0, ky_q_8_1, ky_q_8_2, ky_q_8_3, ky_q_8_4, ky_q_8_5, ky_q_8_6, ky_q_8_7, ky_tl_0, ky_tl_1, ky_tl_2, ky_tl_3, ky_tl_4, ky_tl_5, ky_tl_6, ky_tl_7, ky_tl_8, ky_tl_9, ky_tl_10, ky_tl_11, ky_tl_12, ky_tl_13, ky_tl_32, ky_tl_36, ky_tl_37, ky_tl_40, ky_tl_48, ky_tl_57, ky_tl_60, ky_tl_126, ky_tl_160, ky_tg_0, ky_tg_1, ky_tg_2, ky_tg_3, ky_tg_4, ky_tg_5, ky_tg_6, ky_tg_7, ky_tg_8, ky_tg_9, ky_tg_10, ky_tg_11, ky_tg_12, ky_tg_13, ky_tg_32, ky_tg_36, ky_tg_37, ky_tg_40, ky_tg_48, ky_tg_57, ky_tg_60, ky_tg_126, ky_tg_160, ky_te_0, ky_te_1, ky_te_2, ky_te_3, ky_te_4, ky_te_5, ky_te_6, ky_te_7, ky_te_8, ky_te_9, ky_te_10, ky_te_11, ky_te_12, ky_te_13, ky_te_32, ky_te_36, ky_te_37, ky_te_40, ky_te_48, ky_te_57, ky_te_60, ky_te_126, ky_te_160, h0, hk, g1, ky_cm_nx, n1, kx_c_64, h1, h2, kx_arr_n, kx_nat_i, true_or, or_true, p1])
  have s21 : kx_SH (b + 21) = (101, 6) := b2 21 (by decide)
  have s22 : kx_SH (b + 22) = (101, 6) := b2 22 (by decide)
  have s23 : kx_SH (b + 23) = (101, 2) := b2 23 (by decide)
  have r05 : kx_PR 0 b 5 = some (b + 21) := b3 0 (by decide) 5
  have r06 : kx_PR 0 b 6 = some (b + 22) := b3 0 (by decide) 6
  have r08 : kx_PR 0 b 8 = some (b + 23) := b3 0 (by decide) 8
  have zB : ∀ a, b + 21 ≤ a → ∀ j, kz_B S b 12 a j = false := fun a ha j => by
    unfold kz_B
    rw [if_neg (by omega), if_neg (by omega), if_neg (by omega)]
    exact hS _ (by omega) j
  have zad : ∀ (S : Nat → Nat → Bool) (k : Nat) (m : Nat), (∀ a, m ≤ a → ∀ j, S a j = false) → b < m → ∀ a, m ≤ a → ∀ j, ky_ad S b k a j = false := fun S k m h hm a ha j => by
    unfold ky_ad
    rw [if_neg (by omega)]
    exact h a ha j
  have new3 : kx_new (ky_cm (b + 9 + 12) (kz_B S b 12) (s + 42 + 13 * 12) sc sg) 101 6 (fun _ => .int 0) = ky_cm (b + 22) (kz_B S b 12) (s + 204) sc sg := ky_cm_new s21 (zB _ (by omega)) (hg _ (by omega)) ky_z_i
  have put3 : kx_put (ky_cm (b + 22) (kz_B S b 12) (s + 204) sc sg) b 5 (.ref (b + 9 + 12)) = ky_cm (b + 22) (ky_ad (kz_B S b 12) b 5) (s + 204) sc sg := ky_cm_put (by omega) (by rw [s0]; rfl) (by rw [s0]; decide) r05
  have new4 : kx_new (ky_cm (b + 22) (ky_ad (kz_B S b 12) b 5) (s + 204) sc sg) 101 6 (fun _ => .int 0) = ky_cm (b + 23) (ky_ad (kz_B S b 12) b 5) (s + 210) sc sg := ky_cm_new s22 (zad _ _ _ zB (by omega) _ (by omega)) (hg _ (by omega)) ky_z_i
  have put4 : kx_put (ky_cm (b + 23) (ky_ad (kz_B S b 12) b 5) (s + 210) sc sg) b 6 (.ref (b + 22)) = ky_cm (b + 23) (ky_ad (ky_ad (kz_B S b 12) b 5) b 6) (s + 210) sc sg := ky_cm_put (by omega) (by rw [s0]; rfl) (by rw [s0]; decide) r06
  have new5 : kx_new (ky_cm (b + 23) (ky_ad (ky_ad (kz_B S b 12) b 5) b 6) (s + 210) sc sg) 101 2 (fun _ => .int 0) = ky_cm (b + 24) (ky_ad (ky_ad (kz_B S b 12) b 5) b 6) (s + 212) sc sg := ky_cm_new s23 (zad _ _ _ (zad _ _ _ zB (by omega)) (by omega) _ (by omega)) (hg _ (by omega)) ky_z_i
  have put5 : kx_put (ky_cm (b + 24) (ky_ad (ky_ad (kz_B S b 12) b 5) b 6) (s + 212) sc sg) b 8 (.ref (b + 23)) = ky_cm (b + 24) (kz_E S b) (s + 212) sc sg := by
    rw [ky_cm_put (by omega) (by rw [s0]; rfl) (by rw [s0]; decide) r08]
    refine ky_cm_congr (fun a j => ?_)
    by_cases hin : b ≤ a ∧ a < b + 24
    · obtain ⟨i, rfl⟩ : ∃ i, a = b + i := ⟨a - b, by omega⟩
      have hi : i < 24 := by omega
      rw [b3 i hi j]
      unfold ky_ad kz_B kz_E kx_RB
      rw [if_pos (show b ≤ b + i ∧ b + i < b + 24 from hin)]
      by_cases h0 : i = 0
      · subst h0
        simp only [Nat.add_zero, true_and, ↓reduceIte]
        by_cases q8 : j = 8
        · exact Or.inl (by rw [if_pos q8])
        · by_cases q6 : j = 6
          · exact Or.inl (by rw [if_neg q8, if_pos q6])
          · by_cases q5 : j = 5
            · exact Or.inl (by rw [if_neg q8, if_neg q6, if_pos q5])
            · by_cases q3 : j = 3
              · exact Or.inl (by rw [if_neg q8, if_neg q6, if_neg q5, decide_eq_true q3, Bool.or_true])
              · by_cases q1 : j = 1
                · exact Or.inl (by rw [if_neg q8, if_neg q6, if_neg q5, decide_eq_true q1, Bool.true_or])
                · exact Or.inr (by rw [if_neg q1, if_neg q3, if_neg q5, if_neg q6, if_neg q8])
      · rw [if_neg (show ¬ (b + i = b ∧ j = 8) by omega), if_neg (show ¬ (b + i = b ∧ j = 6) by omega), if_neg (show ¬ (b + i = b ∧ j = 5) by omega), if_neg (show ¬ b + i = b by omega), if_neg h0]
        by_cases h1 : i = 1
        · subst h1
          rw [if_pos rfl]
          by_cases q : j < 6
          · exact Or.inl (decide_eq_true q)
          · exact Or.inr (by rw [if_neg (fun z => q z.2), if_neg (by omega)])
        · rw [if_neg (show ¬ b + i = b + 1 by omega), if_neg (show ¬ (i = 1 ∧ j < 6) from fun z => h1 z.1)]
          by_cases h8 : i = 8
          · subst h8
            rw [if_pos rfl]
            by_cases q : j < 12
            · exact Or.inl (decide_eq_true q)
            · exact Or.inr (if_neg (fun z => q z.2))
          · exact Or.inr (if_neg (fun z => h8 z.1))
    · refine Or.inl ?_
      unfold ky_ad kz_B kz_E
      rw [if_neg hin, if_neg (by omega), if_neg (by omega), if_neg (by omega), if_neg (by omega), if_neg (by omega), if_neg (by omega)]
  have hh : ∀ m S' s', b < m → kx_sh (ky_cm m S' s' sc sg) b = (6, 14) := fun m S' s' h => (ky_cm_sh h).trans s0
  have LA' : kx_D 87 15 [some (.ref b), some (.int 0)] [] (ky_cm (b + 2) (kz_A S b 0) (s + 6) sc sg) = kx_D 87 15 [some (.ref b), some (.int 6)] [] (ky_cm (b + 2 + 6) (kz_A S b 6) (s + 6 + 4 * 6) sc sg) := LA
  have LB' : kx_D 87 51 [some (.ref b), some (.int 0)] [] (ky_cm (b + 9) (kz_B S b 0) (s + 42) sc sg) = kx_D 87 51 [some (.ref b), some (.int 12)] [] (ky_cm (b + 9 + 12) (kz_B S b 12) (s + 42 + 13 * 12) sc sg) := LB
  rw [kx_o87]
  simp (disch := omega) only [kx_e87_0, kx_e87_1, kx_e87_4, kx_e87_5, kx_e87_7, kx_e87_10, kx_e87_13, kx_e87_14, ↓reduceIte, Bool.true_eq_false, Bool.false_eq_true, reduceCtorEq, Option.bind_some, Option.bind_none, Option.toList_some, Option.toList_none, List.cons_append, List.nil_append, kx_nat_s, not_true_eq_false, not_false_eq_true, Int32.reduceAdd, Int32.reduceSub, Int32.reduceLT, Int32.reduceMul, Int32.reduceDiv, Int32.reduceMod, Nat.reduceLT, Nat.reduceLeDiff, Nat.reduceEqDiff, Nat.reduceAdd, true_and, and_true, kx_le_lt, ite_not, Classical.not_not, kx_ib, ne_eq, gt_iff_lt, ge_iff_le, kx_nw0, kx_nw1, kx_nwb, kx_b0, kx_b1, Nat.lt_irrefl, ky_cm_nx, kx_tn_6, new1, hh, put1]
  rw [LA']
  simp (disch := omega) only [kx_e87_15, kx_e87_16, kx_e87_18, kx_e87_40, kx_e87_41, kx_e87_43, kx_e87_46, kx_e87_49, kx_e87_50, ↓reduceIte, Bool.true_eq_false, Bool.false_eq_true, reduceCtorEq, Option.bind_some, Option.bind_none, Option.toList_some, Option.toList_none, List.cons_append, List.nil_append, kx_nat_s, not_true_eq_false, not_false_eq_true, Int32.reduceAdd, Int32.reduceSub, Int32.reduceLT, Int32.reduceMul, Int32.reduceDiv, Int32.reduceMod, Nat.reduceLT, Nat.reduceLeDiff, Nat.reduceEqDiff, Nat.reduceAdd, true_and, and_true, kx_le_lt, ite_not, Classical.not_not, kx_ib, ne_eq, gt_iff_lt, ge_iff_le, kx_nw0, kx_nw1, kx_nwb, kx_b0, kx_b1, Nat.lt_irrefl, ky_cm_nx, kx_tn_12, new2, hh, put2]
  rw [LB']
  simp (disch := omega) only [kx_e87_51, kx_e87_52, kx_e87_54, kx_e87_76, kx_e87_77, kx_e87_79, kx_e87_81, kx_e87_84, kx_e87_85, kx_e87_87, kx_e87_89, kx_e87_92, kx_e87_93, kx_e87_94, kx_e87_96, kx_e87_99, ↓reduceIte, Bool.true_eq_false, Bool.false_eq_true, reduceCtorEq, Option.bind_some, Option.bind_none, Option.toList_some, Option.toList_none, List.cons_append, List.nil_append, kx_nat_s, not_true_eq_false, not_false_eq_true, Int32.reduceAdd, Int32.reduceSub, Int32.reduceLT, Int32.reduceMul, Int32.reduceDiv, Int32.reduceMod, Nat.reduceLT, Nat.reduceLeDiff, Nat.reduceEqDiff, Nat.reduceAdd, true_and, and_true, kx_le_lt, ite_not, Classical.not_not, kx_ib, ne_eq, gt_iff_lt, ge_iff_le, kx_nw0, kx_nw1, kx_nwb, kx_b0, kx_b1, Nat.lt_irrefl, ky_cm_nx, kx_tn_6, kx_tn_2, new3, put3, new4, put4, new5, put5, hh]
end KyState
