/-! the constructors of History and Orders -/
section KyCons2
variable {n s m a : Nat} {S : Nat → Nat → Bool} {sc : Nat × (Nat → Int32)} {sg : kx_G2}
def kz_H (S : Nat → Nat → Bool) (i : Nat) : Nat → Nat → Bool := fun a j => if 75 ≤ a ∧ a < 75 + 24 * i then true else if a = 74 then decide (j < i) else if a = 73 then decide (j = 0) else S a j
def kz_O (S : Nat → Nat → Bool) (i : Nat) : Nat → Nat → Bool := fun a j => if a = 282 then decide (j < i) else if a = 279 then decide (j < 2) else if a = 280 then decide (j = 0) else S a j
theorem kx_c_60 (hS : ∀ a, 73 ≤ a → ∀ k, S a k = false) (hg : ∀ a, 73 ≤ a → ∀ k, sg a k = 0) : kx_call 60 [.ref 73] (ky_cm 74 S s sc sg) = some (none, ky_cm 267 (kz_H S 8) (s + 8 + 226 * 8) sc sg) := by
  have n1 : kx_put (kx_new (ky_cm 74 S s sc sg) 112 8 (fun _ => .null)) 73 0 (.ref 74) = ky_cm 75 (kz_H S 0) (s + 8) sc sg := by
    rw [kz_np (a := 73) (n := 74) rfl (by decide) rfl (by decide) rfl (hS _ (by decide)) (hg _ (by decide)) ky_z_112]
    refine ky_cm_congr (fun a j => Or.inl ?_)
    unfold ky_ad kz_H
    rw [if_neg (show ¬ (75 ≤ a ∧ a < 75 + 24 * 0) by omega)]
    by_cases h4 : a = 74
    · subst h4
      rw [if_neg (by omega), if_pos rfl, hS _ (by decide)]
      rfl
    · rw [if_neg h4]
      by_cases h3 : a = 73
      · subst h3
        rw [if_pos rfl]
        by_cases hj : j = 0
        · rw [if_pos ⟨rfl, hj⟩, decide_eq_true hj]
        · rw [if_neg (fun z => hj z.2), decide_eq_false hj, hS _ (by decide)]
      · rw [if_neg (fun z => h3 z.1), if_neg h3]
  have LA := kx_iter (n := 8) (fun i => kx_D 60 15 [some (.ref 73), some (.int (Int32.ofNat i))] [] (ky_cm (75 + 24 * i) (kz_H S i) (s + 8 + 226 * i) sc sg)) (fun i hi => by
    have bb := ky_bb_hi hi
    have s6 : kx_SH (75 + 24 * i) = (6, 14) := bb.2.1 0 (by decide)
    have zH : ∀ a, 75 + 24 * i ≤ a → ∀ k, kz_H S i a k = false := fun a ha k => by
      unfold kz_H
      rw [if_neg (by omega), if_neg (by omega), if_neg (by omega)]
      exact hS _ (by omega) k
    have n2 : kx_new (ky_cm (75 + 24 * i) (kz_H S i) (s + 8 + 226 * i) sc sg) 6 14 (kx_fd 6) = ky_cm (75 + 24 * i + 1) (kz_H S i) (s + 8 + 226 * i + 14) sc sg := ky_cm_new s6 (zH _ (Nat.le_refl _)) (hg _ (by omega)) (ky_fd_cv (by decide))
    have c1 := kx_c_87 (s := s + 8 + 226 * i + 14) (sc := sc) (sg := sg) bb zH (fun a h => hg a (by omega))
    have ri : kx_PR 0 74 i = some (75 + 24 * i) := by
      unfold kx_PR
      rw [if_neg (by decide), if_neg (by decide), if_neg (by decide), if_pos rfl, if_pos hi]
    have p1 : kx_put (ky_cm (75 + 24 * i + 24) (kz_E (kz_H S i) (75 + 24 * i)) (s + 8 + 226 * i + 14 + 212) sc sg) 74 i (.ref (75 + 24 * i)) = ky_cm (75 + 24 * (i + 1)) (kz_H S (i + 1)) (s + 8 + 226 * (i + 1)) sc sg := by
      rw [ky_cm_put (by omega) rfl (by decide) ri, show 75 + 24 * i + 24 = 75 + 24 * (i + 1) by omega, show s + 8 + 226 * i + 14 + 212 = s + 8 + 226 * (i + 1) by omega]
      refine ky_cm_congr (fun a j => Or.inl ?_)
      unfold ky_ad kz_E kz_H
      by_cases h1 : 75 ≤ a ∧ a < 75 + 24 * (i + 1)
      · rw [if_neg (show ¬ (a = 74 ∧ j = i) by omega), if_pos h1]
        by_cases h2 : 75 + 24 * i ≤ a ∧ a < 75 + 24 * i + 24
        · rw [if_pos h2]
        · rw [if_neg h2, if_pos (by omega)]
      · rw [if_neg h1, if_neg (show ¬ (75 + 24 * i ≤ a ∧ a < 75 + 24 * i + 24) by omega), if_neg (show ¬ (75 ≤ a ∧ a < 75 + 24 * i) by omega)]
        by_cases h4 : a = 74
        · subst h4
          rw [if_pos rfl, if_pos rfl]
          by_cases hj : j = i
          · rw [if_pos ⟨rfl, hj⟩, hj, decide_eq_true (show i < i + 1 by omega)]
          · rw [if_neg (fun z => hj z.2)]
            by_cases hl : j < i
            · rw [decide_eq_true hl, decide_eq_true (show j < i + 1 by omega)]
            · rw [decide_eq_false hl, decide_eq_false (show ¬ j < i + 1 by omega)]
        · rw [if_neg (fun z => h4 z.1), if_neg h4, if_neg h4]
    have hh : ∀ m S' s', 74 < m → kx_sh (ky_cm m S' s' sc sg) 73 = (1, 3) := fun m S' s' h => ky_cm_sh (by omega)
    have h4 : ∀ m S' s', 74 < m → kx_sh (ky_cm m S' s' sc sg) 74 = (112, 8) := fun m S' s' h => ky_cm_sh h
    have h6 : ∀ S' s', kx_sh (ky_cm (75 + 24 * i + 24) S' s' sc sg) (75 + 24 * i) = (6, 14) := fun S' s' => (ky_cm_sh (by omega)).trans s6
    have g1 : kx_dt (ky_cm (75 + 24 * i) (kz_H S i) (s + 8 + 226 * i) sc sg) 73 0 = .ref 74 := ky_cm_ref (by omega) rfl (by decide) (by unfold kz_H; rw [if_neg (by omega), if_neg (by omega), if_pos rfl]; rfl) rfl
    have l8 : (Int32.ofNat i < 8) = (i < 8) := ky_tl_8 (by omega)
    rw [kx_e60_15]
    simp (disch := omega) only [kx_e60_16, kx_e60_18, kx_e60_21, kx_e60_22, kx_e60_25, kx_e60_26, kx_e60_29, kx_e60_30, kx_e60_33, kx_e60_34, kx_e60_37, ↓reduceIte, Bool.true_eq_false, Bool.false_eq_true, reduceCtorEq, Option.bind_some, Option.bind_none, Option.toList_some, Option.toList_none, List.cons_append, List.nil_append, kx_nat_s, not_true_eq_false, not_false_eq_true, Int32.reduceAdd, Int32.reduceSub, Int32.reduceLT, Int32.reduceMul, Int32.reduceDiv, Int32.reduceMod, Nat.reduceLT, Nat.reduceLeDiff, Nat.reduceEqDiff, Nat.reduceAdd, true_and, and_true, kx_le_lt, ite_not, Classical.not_not, kx_ib, ne_eq, gt_iff_lt, ge_iff_le, kx_nw0, kx_nw1, kx_nwb, kx_b0, kx_b1, Nat.lt_irrefl, ky_i4z, ky_i10z, ky_pl_0, ky_pl_2, ky_pl_3, ky_pl_4, ky_pl_5, ky_pl_6, ky_pl_7, ky_pl_8, ky_pl_9, eq_self, Nat.not_lt_zero, ky_q_0_1, ky_q_0_2, ky_q_0_3, ky_q_0_4, ky_q_0_5, ky_q_0_6, ky_q_0_7, ky_q_0_8, ky_q_1_0, ky_q_1_2, ky_q_1_3, ky_q_1_4, ky_q_1_5, ky_q_1_6, ky_q_1_7, ky_q_1_8, ky_q_2_0, ky_q_2_1, ky_q_2_3, ky_q_2_4, ky_q_2_5, ky_q_2_6, ky_q_2_7, ky_q_2_8, ky_q_3_0, ky_q_3_1, ky_q_3_2, ky_q_3_4, ky_q_3_5, ky_q_3_6, ky_q_3_7, ky_q_3_8, ky_q_4_0, ky_q_4_1, ky_q_4_2, ky_q_4_3, ky_q_4_5, ky_q_4_6, ky_q_4_7, ky_q_4_8, ky_q_5_0, ky_q_5_1, ky_q_5_2, ky_q_5_3, ky_q_5_4, ky_q_5_6, ky_q_5_7, ky_q_5_8, ky_q_6_0, ky_q_6_1, ky_q_6_2, ky_q_6_3, ky_q_6_4, ky_q_6_5, ky_q_6_7, ky_q_6_8, ky_q_7_0, ky_q_7_1, ky_q_7_2, ky_q_7_3, ky_q_7_4, ky_q_7_5, ky_q_7_6, ky_q_7_8, ky_q_8_0, ky_q_8_1, ky_q_8_2, ky_q_8_3, ky_q_8_4, ky_q_8_5, ky_q_8_6, ky_q_8_7, ky_tl_0, ky_tl_1, ky_tl_2, ky_tl_3, ky_tl_4, ky_tl_5, ky_tl_6, ky_tl_7, ky_tl_8, ky_tl_9, ky_tl_10, ky_tl_11, ky_tl_12, ky_tl_13, ky_tl_32, ky_tl_36, ky_tl_37, ky_tl_40, ky_tl_48, ky_tl_57, ky_tl_60, ky_tl_126, ky_tl_160, ky_tg_0, ky_tg_1, ky_tg_2, ky_tg_3, ky_tg_4, ky_tg_5, ky_tg_6, ky_tg_7, ky_tg_8, ky_tg_9, ky_tg_10, ky_tg_11, ky_tg_12, ky_tg_13, ky_tg_32, ky_tg_36, ky_tg_37, ky_tg_40, ky_tg_48, ky_tg_57, ky_tg_60, ky_tg_126, ky_tg_160, ky_te_0, ky_te_1, ky_te_2, ky_te_3, ky_te_4, ky_te_5, ky_te_6, ky_te_7, ky_te_8, ky_te_9, ky_te_10, ky_te_11, ky_te_12, ky_te_13, ky_te_32, ky_te_36, ky_te_37, ky_te_40, ky_te_48, ky_te_57, ky_te_60, ky_te_126, ky_te_160, hh, h4, h6, hi, g1, ky_cm_nx, n2, c1, kx_arr_n, kx_nat_i, true_or, or_true, p1])
  have hh : ∀ m S' s', 73 < m → kx_sh (ky_cm m S' s' sc sg) 73 = (1, 3) := fun m S' s' h => ky_cm_sh h
  have LA' : kx_D 60 15 [some (.ref 73), some (.int 0)] [] (ky_cm 75 (kz_H S 0) (s + 8) sc sg) = kx_D 60 15 [some (.ref 73), some (.int 8)] [] (ky_cm 267 (kz_H S 8) (s + 8 + 226 * 8) sc sg) := LA
  rw [kx_o60]
  simp (disch := first | omega | decide) only [kx_e60_0, kx_e60_1, kx_e60_4, kx_e60_5, kx_e60_7, kx_e60_10, kx_e60_13, kx_e60_14, ↓reduceIte, Bool.true_eq_false, Bool.false_eq_true, reduceCtorEq, Option.bind_some, Option.bind_none, Option.toList_some, Option.toList_none, List.cons_append, List.nil_append, kx_nat_s, not_true_eq_false, not_false_eq_true, Int32.reduceAdd, Int32.reduceSub, Int32.reduceLT, Int32.reduceMul, Int32.reduceDiv, Int32.reduceMod, Nat.reduceLT, Nat.reduceLeDiff, Nat.reduceEqDiff, Nat.reduceAdd, true_and, and_true, kx_le_lt, ite_not, Classical.not_not, kx_ib, ne_eq, gt_iff_lt, ge_iff_le, kx_nw0, kx_nw1, kx_nwb, kx_b0, kx_b1, Nat.lt_irrefl, ky_cm_nx, kx_new_sh, Nat.reduceEqDiff, kx_tn_8, n1, hh]
  rw [LA']
  simp (disch := omega) only [kx_e60_15, kx_e60_16, kx_e60_18, kx_e60_40, ↓reduceIte, Bool.true_eq_false, Bool.false_eq_true, reduceCtorEq, Option.bind_some, Option.bind_none, Option.toList_some, Option.toList_none, List.cons_append, List.nil_append, kx_nat_s, not_true_eq_false, not_false_eq_true, Int32.reduceAdd, Int32.reduceSub, Int32.reduceLT, Int32.reduceMul, Int32.reduceDiv, Int32.reduceMod, Nat.reduceLT, Nat.reduceLeDiff, Nat.reduceEqDiff, Nat.reduceAdd, true_and, and_true, kx_le_lt, ite_not, Classical.not_not, kx_ib, ne_eq, gt_iff_lt, ge_iff_le, kx_nw0, kx_nw1, kx_nwb, kx_b0, kx_b1, Nat.lt_irrefl]
theorem kx_c_79 (hS : ∀ a, 279 ≤ a → ∀ k, S a k = false) (hg : ∀ a, 279 ≤ a → ∀ k, sg a k = 0) : kx_call 79 [.ref 279] (ky_cm 280 S s sc sg) = some (none, ky_cm 296 (kz_O S 13) (s + 33 + 3 * 13) sc sg) := by
  have n0 : kx_new (ky_cm 280 S s sc sg) 11 4 (kx_fd 11) = ky_cm 281 S (s + 4) sc sg := ky_cm_new rfl (hS _ (by decide)) (hg _ (by decide)) (ky_fd_cv (by decide))
  have c1 := kx_c_218_280 (s := s + 4) (sc := sc) (S := S) (sg := sg) (hS _ (by decide)) (hg _ (by decide)) (hg _ (by decide) _)
  have p0 : kx_put (ky_cm 282 (ky_ad S 280 0) (s + 4 + 16) sc sg) 279 0 (.ref 280) = ky_cm 282 (ky_ad (ky_ad S 280 0) 279 0) (s + 4 + 16) sc sg := ky_cm_put (by decide) rfl (by decide) rfl
  have n1 : kx_put (kx_new (ky_cm 282 (ky_ad (ky_ad S 280 0) 279 0) (s + 4 + 16) sc sg) 113 13 (fun _ => .null)) 279 1 (.ref 282) = ky_cm 283 (kz_O S 0) (s + 33) sc sg := by
    rw [kz_np (a := 279) (n := 282) rfl (by decide) rfl (by decide) rfl (kz_ad_z (m := 281) (kz_ad_z (fun a h => hS a (by omega)) (by decide)) (by decide) _ (by decide)) (hg _ (by decide)) ky_z_113]
    refine ky_cm_congr (fun a j => Or.inl ?_)
    unfold ky_ad kz_O
    by_cases h2 : a = 282
    · subst h2
      rw [if_neg (by omega), if_neg (by omega), if_neg (by omega), if_pos rfl, hS _ (by decide)]
      rfl
    · rw [if_neg h2]
      by_cases h9 : a = 279
      · subst h9
        rw [if_pos rfl]
        by_cases j1 : j = 1
        · rw [if_pos ⟨rfl, j1⟩, decide_eq_true (by omega)]
        · rw [if_neg (fun z => j1 z.2)]
          by_cases j0 : j = 0
          · rw [if_pos ⟨rfl, j0⟩, decide_eq_true (by omega)]
          · rw [if_neg (fun z => j0 z.2), if_neg (by omega), hS _ (by decide), decide_eq_false (by omega)]
      · rw [if_neg (fun z => h9 z.1), if_neg (fun z => h9 z.1), if_neg h9]
        by_cases h0 : a = 280
        · subst h0
          rw [if_pos rfl]
          by_cases j0 : j = 0
          · rw [if_pos ⟨rfl, j0⟩, decide_eq_true j0]
          · rw [if_neg (fun z => j0 z.2), hS _ (by decide), decide_eq_false j0]
        · rw [if_neg (fun z => h0 z.1), if_neg h0]
  have LA := kx_iter (n := 13) (fun i => kx_D 79 26 [some (.ref 279), some (.int (Int32.ofNat i))] [] (ky_cm (283 + i) (kz_O S i) (s + 33 + 3 * i) sc sg)) (fun i hi => by
    have st : kx_SH (283 + i) = (4, 3) := by
      have : ∀ i, i < 13 → kx_SH (283 + i) = (4, 3) := by decide
      exact this i hi
    have n2 : kx_new (ky_cm (283 + i) (kz_O S i) (s + 33 + 3 * i) sc sg) 4 3 (kx_fd 4) = ky_cm (283 + i + 1) (kz_O S i) (s + 33 + 3 * i + 3) sc sg := ky_cm_new st (fun k => by unfold kz_O; rw [if_neg (by omega), if_neg (by omega), if_neg (by omega)]; exact hS _ (by omega) k) (hg _ (by omega)) (ky_fd_cv (by decide))
    have ri : kx_PR 0 282 i = some (283 + i) := kx_fr_282 i hi
    have p1 : kx_put (ky_cm (283 + i + 1) (kz_O S i) (s + 33 + 3 * i + 3) sc sg) 282 i (.ref (283 + i)) = ky_cm (283 + (i + 1)) (kz_O S (i + 1)) (s + 33 + 3 * (i + 1)) sc sg := by
      rw [ky_cm_put (by omega) rfl (by decide) ri, show s + 33 + 3 * i + 3 = s + 33 + 3 * (i + 1) by omega]
      refine ky_cm_congr (fun a j => Or.inl ?_)
      unfold ky_ad kz_O
      by_cases h2 : a = 282
      · subst h2
        rw [if_pos rfl, if_pos rfl]
        by_cases hj : j = i
        · rw [if_pos ⟨rfl, hj⟩, hj, decide_eq_true (show i < i + 1 by omega)]
        · rw [if_neg (fun z => hj z.2)]
          by_cases hl : j < i
          · rw [decide_eq_true hl, decide_eq_true (show j < i + 1 by omega)]
          · rw [decide_eq_false hl, decide_eq_false (show ¬ j < i + 1 by omega)]
      · rw [if_neg (fun z => h2 z.1), if_neg h2, if_neg h2]
    have hh : ∀ m S' s', 282 < m → kx_sh (ky_cm m S' s' sc sg) 279 = (5, 5) := fun m S' s' h => ky_cm_sh (by omega)
    have h4 : ∀ m S' s', 282 < m → kx_sh (ky_cm m S' s' sc sg) 282 = (113, 13) := fun m S' s' h => ky_cm_sh h
    have h6 : ∀ S' s', kx_sh (ky_cm (283 + i + 1) S' s' sc sg) (283 + i) = (4, 3) := fun S' s' => (ky_cm_sh (by omega)).trans st
    have g1 : kx_dt (ky_cm (283 + i) (kz_O S i) (s + 33 + 3 * i) sc sg) 279 1 = .ref 282 := ky_cm_ref (by omega) rfl (by decide) (by unfold kz_O; rw [if_neg (by omega), if_pos rfl]; rfl) rfl
    have l13 : (Int32.ofNat i < 13) = (i < 13) := ky_tl_13 (by omega)
    rw [kx_e79_26]
    simp (disch := omega) only [kx_e79_27, kx_e79_29, kx_e79_32, kx_e79_33, kx_e79_36, kx_e79_37, kx_e79_40, kx_e79_41, kx_e79_44, kx_e79_45, kx_e79_48, ↓reduceIte, Bool.true_eq_false, Bool.false_eq_true, reduceCtorEq, Option.bind_some, Option.bind_none, Option.toList_some, Option.toList_none, List.cons_append, List.nil_append, kx_nat_s, not_true_eq_false, not_false_eq_true, Int32.reduceAdd, Int32.reduceSub, Int32.reduceLT, Int32.reduceMul, Int32.reduceDiv, Int32.reduceMod, Nat.reduceLT, Nat.reduceLeDiff, Nat.reduceEqDiff, Nat.reduceAdd, true_and, and_true, kx_le_lt, ite_not, Classical.not_not, kx_ib, ne_eq, gt_iff_lt, ge_iff_le, kx_nw0, kx_nw1, kx_nwb, kx_b0, kx_b1, Nat.lt_irrefl, ky_i4z, ky_i10z, ky_pl_0, ky_pl_2, ky_pl_3, ky_pl_4, ky_pl_5, ky_pl_6, ky_pl_7, ky_pl_8, ky_pl_9, eq_self, Nat.not_lt_zero, ky_q_0_1, ky_q_0_2, ky_q_0_3, ky_q_0_4, ky_q_0_5, ky_q_0_6, ky_q_0_7, ky_q_0_8, ky_q_1_0, ky_q_1_2, ky_q_1_3, ky_q_1_4, ky_q_1_5, ky_q_1_6, ky_q_1_7, ky_q_1_8, ky_q_2_0, ky_q_2_1, ky_q_2_3, ky_q_2_4, ky_q_2_5, ky_q_2_6, ky_q_2_7, ky_q_2_8, ky_q_3_0, ky_q_3_1, ky_q_3_2, ky_q_3_4, ky_q_3_5, ky_q_3_6, ky_q_3_7, ky_q_3_8, ky_q_4_0, ky_q_4_1, ky_q_4_2, ky_q_4_3, ky_q_4_5, ky_q_4_6, ky_q_4_7, ky_q_4_8, ky_q_5_0, ky_q_5_1, ky_q_5_2, ky_q_5_3, ky_q_5_4, ky_q_5_6, ky_q_5_7, ky_q_5_8, ky_q_6_0, ky_q_6_1, ky_q_6_2, ky_q_6_3, ky_q_6_4, ky_q_6_5, ky_q_6_7, ky_q_6_8, ky_q_7_0, ky_q_7_1, ky_q_7_2, ky_q_7_3, ky_q_7_4, ky_q_7_5, ky_q_7_6, ky_q_7_8, ky_q_8_0, ky_q_8_1, ky_q_8_2, ky_q_8_3, ky_q_8_4, ky_q_8_5, ky_q_8_6, ky_q_8_7, ky_tl_0, ky_tl_1, ky_tl_2, ky_tl_3, ky_tl_4, ky_tl_5, ky_tl_6, ky_tl_7, ky_tl_8, ky_tl_9, ky_tl_10, ky_tl_11, ky_tl_12, ky_tl_13, ky_tl_32, ky_tl_36, ky_tl_37, ky_tl_40, ky_tl_48, ky_tl_57, ky_tl_60, ky_tl_126, ky_tl_160, ky_tg_0, ky_tg_1, ky_tg_2, ky_tg_3, ky_tg_4, ky_tg_5, ky_tg_6, ky_tg_7, ky_tg_8, ky_tg_9, ky_tg_10, ky_tg_11, ky_tg_12, ky_tg_13, ky_tg_32, ky_tg_36, ky_tg_37, ky_tg_40, ky_tg_48, ky_tg_57, ky_tg_60, ky_tg_126, ky_tg_160, ky_te_0, ky_te_1, ky_te_2, ky_te_3, ky_te_4, ky_te_5, ky_te_6, ky_te_7, ky_te_8, ky_te_9, ky_te_10, ky_te_11, ky_te_12, ky_te_13, ky_te_32, ky_te_36, ky_te_37, ky_te_40, ky_te_48, ky_te_57, ky_te_60, ky_te_126, ky_te_160, hh, h4, h6, hi, g1, ky_cm_nx, n2, kx_c_78, kx_arr_n, kx_nat_i, true_or, or_true, p1])
  have hh : ∀ m S' s', 279 < m → kx_sh (ky_cm m S' s' sc sg) 279 = (5, 5) := fun m S' s' h => ky_cm_sh h
  have LA' : kx_D 79 26 [some (.ref 279), some (.int 0)] [] (ky_cm 283 (kz_O S 0) (s + 33) sc sg) = kx_D 79 26 [some (.ref 279), some (.int 13)] [] (ky_cm 296 (kz_O S 13) (s + 33 + 3 * 13) sc sg) := LA
  rw [kx_o79]
  simp (disch := first | omega | decide) only [kx_e79_0, kx_e79_1, kx_e79_4, kx_e79_5, kx_e79_8, kx_e79_9, kx_e79_12, kx_e79_15, kx_e79_16, kx_e79_18, kx_e79_21, kx_e79_24, kx_e79_25, ↓reduceIte, Bool.true_eq_false, Bool.false_eq_true, reduceCtorEq, Option.bind_some, Option.bind_none, Option.toList_some, Option.toList_none, List.cons_append, List.nil_append, kx_nat_s, not_true_eq_false, not_false_eq_true, Int32.reduceAdd, Int32.reduceSub, Int32.reduceLT, Int32.reduceMul, Int32.reduceDiv, Int32.reduceMod, Nat.reduceLT, Nat.reduceLeDiff, Nat.reduceEqDiff, Nat.reduceAdd, true_and, and_true, kx_le_lt, ite_not, Classical.not_not, kx_ib, ne_eq, gt_iff_lt, ge_iff_le, kx_nw0, kx_nw1, kx_nwb, kx_b0, kx_b1, Nat.lt_irrefl, ky_cm_nx, kx_new_sh, Nat.reduceEqDiff, show (Int32.toNatClampNeg 13) = 13 by decide, n0, c1, p0, n1, hh]
  rw [LA']
  simp (disch := omega) only [kx_e79_26, kx_e79_27, kx_e79_29, kx_e79_51, ↓reduceIte, Bool.true_eq_false, Bool.false_eq_true, reduceCtorEq, Option.bind_some, Option.bind_none, Option.toList_some, Option.toList_none, List.cons_append, List.nil_append, kx_nat_s, not_true_eq_false, not_false_eq_true, Int32.reduceAdd, Int32.reduceSub, Int32.reduceLT, Int32.reduceMul, Int32.reduceDiv, Int32.reduceMod, Nat.reduceLT, Nat.reduceLeDiff, Nat.reduceEqDiff, Nat.reduceAdd, true_and, and_true, kx_le_lt, ite_not, Classical.not_not, kx_ib, ne_eq, gt_iff_lt, ge_iff_le, kx_nw0, kx_nw1, kx_nwb, kx_b0, kx_b1, Nat.lt_irrefl]
end KyCons2
