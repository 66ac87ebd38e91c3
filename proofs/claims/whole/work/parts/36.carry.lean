/-! the class: slips are carried out -/
theorem kx_wk_neg {h d n : Nat} (hh : h < 37) (hd : d < 6) : (kx_wk h d n < 0) = (kx_wk h d n = -1) := by
  apply propext
  rcases kx_wk_ok hh hd n with h1 | ⟨x, hx, h1⟩
  · rw [h1]; exact ⟨fun _ => rfl, fun _ => kx_neg1⟩
  · rw [h1]
    constructor
    · intro z; exact absurd z (kx_nat_nn (by omega))
    · intro z
      have : Int32.ofNat x < 0 := by rw [z]; exact kx_neg1
      exact absurd this (kx_nat_nn (by omega))
theorem ky_xd_md {g : kx_Rw} {k : Nat} : ky_xd (ky_n g (35 + 10 * k + 8)) (ky_n g (35 + 10 * k + 2)) (ky_n g (35 + 10 * k + 9)) = ky_md g k := by
  unfold ky_xd ky_md
  rfl
theorem ky_xl_ml {g : kx_Rw} {k : Nat} (h0 : ky_n g (35 + 10 * k + 8) ≠ 0) (h7 : ky_n g (35 + 10 * k + 8) < 7) : ky_xl (ky_n g (35 + 10 * k + 8)) (ky_n g (35 + 10 * k + 3)) = ky_ml g k := by
  unfold ky_xl ky_ml
  (repeat' split) <;> omega
theorem ky_xc_can {g : kx_Rw} {k d l : Nat} (hh : kx_hm g k < 37) (hd : d < 6) : ky_xc (kx_hm g k) (kx_rc g k) d l = ky_can g k d l := by
  unfold ky_xc ky_can
  by_cases hl : l = 0
  · subst hl
    have : ¬ kx_wk (kx_hm g k) d 0 = -1 := by
      intro z
      have h1 : Int32.ofNat (kx_hm g k) < 0 := by
        have : kx_wk (kx_hm g k) d 0 = Int32.ofNat (kx_hm g k) := rfl
        rw [← this, z]; exact kx_neg1
      exact absurd h1 (kx_nat_nn (by omega))
    simp [this]
  · have e := kx_wk_neg (n := l) hh hd
    by_cases h1 : kx_wk (kx_hm g k) d l = -1 <;> by_cases h2 : l ≤ kx_rc g k <;> simp [e, h1, h2, hl]
section KxCarry
variable {ph : Nat} {sc : Nat × (Nat → Int32)} {sg : kx_G2} {lm : Nat → Nat → Int64} {g : kx_Rw} {nt nk nw tn : Nat}
theorem kx_105_step (I : ky_I nt nk nw tn g) (R : ky_RS nk sg g) {k : Nat} (hk : k < nk) (l3 : Option Value) : ∃ sg', kx_D 105 2 [some (.ref 271), some (.ref 1), some (.int (Int32.ofNat k)), l3] [] (kx_pm ph sc sg lm) = kx_D 105 2 [some (.ref 271), some (.ref 1), some (.int (Int32.ofNat (k + 1))), some (.ref (10 + k))] [] (kx_pm ph sc sg' lm) ∧ ky_RS nk sg' (ky_slip k g) ∧ ky_FR sg sg' := by
  obtain ⟨k12, KI, O, T⟩ := ky_I_kite I hk
  have hb := I.2.2.1.2
  have KC := ky_KC_of I R hk
  have hnk : sg 1 4 = Int32.ofNat nk := R.1.2.2.1.trans I.2.2.1.1
  have O6 : ∀ k, k < nk → ky_n g (35 + 10 * k) < 6 := fun k hk => (ky_I_kite I hk).2.2.1.2
  obtain ⟨a0, a1, a2, a3, a5, a8, a9, b0, b1, b2, b3⟩ := KI
  have RK := R.2.2.1 k k12
  have RT := R.2.1
  have RC := R.1
  obtain ⟨q1, q4, q5, q6, q8, q9, q10, q11, q12, q7⟩ := RK
  rw [kx_e105_2]
  by_cases hm : ky_n g (35 + 10 * k + 8) = 0
  · have e8 : sg (10 + k) 11 = 0 := q11.trans (a8.1.trans (by rw [hm]; rfl))
    refine ⟨sg, ?_, by rw [show ky_slip k g = g from if_pos hm]; exact R, ky_FR.refl⟩
    simp (disch := omega) only [kx_e105_0, kx_e105_1, kx_e105_3, kx_e105_4, kx_e105_7, kx_e105_10, kx_e105_11, kx_e105_14, kx_e105_15, kx_e105_16, kx_e105_17, kx_e105_18, kx_e105_21, kx_e105_24, kx_e105_25, kx_e105_28, kx_e105_29, kx_e105_32, kx_e105_33, kx_e105_34, kx_e105_37, kx_e105_38, kx_e105_41, kx_e105_44, kx_e105_47, kx_e105_48, kx_e105_51, kx_e105_52, kx_e105_53, kx_e105_56, kx_e105_57, kx_e105_58, kx_e105_61, kx_e105_64, kx_e105_65, kx_e105_68, kx_e105_71, kx_e105_74, kx_e105_75, kx_e105_78, kx_e105_81, kx_e105_84, kx_s_0, kx_s_1, kx_s_2, kx_s_tw, kx_s_9, kx_s_kt, kx_s_22, kx_s_23, kx_s_24, kx_s_73, kx_s_74, kx_s_267, kx_s_268, kx_s_269, kx_s_270, kx_s_271, kx_s_272, kx_s_273, kx_s_274, kx_s_275, kx_s_276, kx_s_277, kx_s_278, kx_s_279, kx_s_280, kx_s_281, kx_s_282, kx_s_or, kx_s_296, kx_s_297, kx_s_298, kx_s_299, kx_s_300, kx_s_301, kx_s_302, kx_s_303, kx_s_304, kx_s_305, kx_s_306, kx_s_307, kx_s_308, kx_s_309, kx_s_310, kx_g_0_0, kx_g_0_1, kx_g_0_2, kx_g_0_3, kx_g_0_4, kx_g_0_5, kx_g_0_6, kx_g_0_7, kx_g_0_8, kx_g_0_9, kx_g_0_10, kx_g_1_0, kx_g_1_1, kx_g_1_2, kx_g_1_3, kx_g_1_4, kx_g_1_5, kx_g_1_6, kx_g_1_7, kx_g_1_8, kx_g_1_9, kx_g_1_10, kx_g_1_11, kx_g_1_12, kx_g_1_13, kx_g_2, kx_g_tw, kx_g_9, kx_g_kt, kx_g_22, kx_g_23, kx_g_24, kx_g_73_0, kx_g_73_1, kx_g_73_2, kx_g_74, kx_g_267_0, kx_g_267_1, kx_g_267_2, kx_g_268, kx_g_269_0, kx_g_269_1, kx_g_269_2, kx_g_270, kx_g_271_0, kx_g_271_1, kx_g_271_2, kx_g_271_3, kx_g_272_0, kx_g_272_1, kx_g_272_2, kx_g_273, kx_g_274_0, kx_g_274_1, kx_g_274_2, kx_g_275, kx_g_276_0, kx_g_276_1, kx_g_276_2, kx_g_277, kx_g_278, kx_g_279_0, kx_g_279_1, kx_g_279_2, kx_g_279_3, kx_g_279_4, kx_g_280_0, kx_g_280_1, kx_g_280_2, kx_g_280_3, kx_g_281, kx_g_282, kx_g_or, kx_g_296_0, kx_g_296_1, kx_g_296_2, kx_g_296_3, kx_g_297, kx_g_298_0, kx_g_298_1, kx_g_298_2, kx_g_298_3, kx_g_298_4, kx_g_298_5, kx_g_298_6, kx_g_298_7, kx_g_298_8, kx_g_298_9, kx_g_298_10, kx_g_298_11, kx_g_298_12, kx_g_298_13, kx_g_298_14, kx_g_298_15, kx_g_298_16, kx_g_298_17, kx_g_298_18, kx_g_298_19, kx_g_298_20, kx_g_299, kx_g_300, kx_g_301, kx_g_302, kx_g_303, kx_g_304, kx_g_305, kx_g_306, kx_g_307, kx_g_308, kx_g_309, kx_g_310, kx_p_0_3, kx_p_0_9, kx_p_0_10, kx_p_1_0, kx_p_1_2, kx_p_1_4, kx_p_1_7, kx_p_1_9, kx_p_1_10, kx_p_1_11, kx_p_1_12, kx_p_1_13, kx_p_tw, kx_p_kt, kx_p_22, kx_p_23, kx_p_24, kx_p_73_1, kx_p_73_2, kx_p_268, kx_p_269_0, kx_p_269_1, kx_p_269_2, kx_p_270, kx_p_273, kx_p_274_0, kx_p_274_1, kx_p_274_2, kx_p_275, kx_p_276_0, kx_p_276_1, kx_p_276_2, kx_p_277, kx_p_278, kx_p_279_2, kx_p_279_3, kx_p_279_4, kx_p_280_1, kx_p_280_2, kx_p_280_3, kx_p_281, kx_p_or, kx_p_296_1, kx_p_296_2, kx_p_296_3, kx_p_297, kx_p_298_5, kx_p_298_6, kx_p_298_7, kx_p_298_8, kx_p_298_9, kx_p_298_11, kx_p_298_13, kx_p_298_18, kx_p_298_20, kx_p_299, kx_p_300, kx_p_301, kx_p_302, kx_p_303, kx_p_304, kx_p_305, kx_p_306, kx_p_307, kx_p_308, kx_p_309, kx_p_310, ↓reduceIte, Bool.true_eq_false, Bool.false_eq_true, reduceCtorEq, Option.bind_some, Option.bind_none, Option.toList_some, Option.toList_none, List.cons_append, List.nil_append, kx_nat_s, not_true_eq_false, not_false_eq_true, Int32.reduceAdd, Int32.reduceSub, Int32.reduceLT, Int32.reduceMul, Int32.reduceDiv, Int32.reduceMod, Nat.reduceLT, Nat.reduceLeDiff, Nat.reduceEqDiff, Nat.reduceAdd, true_and, and_true, kx_le_lt, ite_not, Classical.not_not, kx_ib, ne_eq, gt_iff_lt, ge_iff_le, kx_nw0, kx_nw1, kx_nwb, kx_b0, kx_b1, Nat.lt_irrefl, kx_up_eq, kx_ul_eq, kx_up_ne, kx_ul_ne, kx_arr_n, kx_nat_i, kx_nat_lt, kx_sr_rd, kx_sr_ne, kx_sr_up, kx_sr_upn, kx_u1_eq, kx_u1_ne, kx_tn_0, kx_tn_1, kx_tn_2, kx_tn_3, kx_tn_4, kx_tn_5, kx_tn_6, kx_tn_7, kx_tn_8, kx_tn_9, kx_tn_10, kx_tn_11, kx_tn_12, kx_la_0, kx_la_1, kx_la_2, kx_la_3, kx_la_4, kx_la_5, kx_la_6, kx_la_7, kx_la_8, kx_la_9, kx_la_10, kx_la_11, kx_la_12, kx_j10_0, kx_j10_1, kx_j10_2, kx_j10_3, kx_j10_4, kx_j10_5, kx_j10_6, kx_j10_7, kx_j10_8, kx_j10_9, kx_j4_0, kx_j4_1, kx_j4_2, kx_j4_3, kx_rfr, hnk, hk, e8]
  · have e8 : ¬ sg (10 + k) 11 = 0 := by
      rw [q11, a8.1, kx_nat_z (by have := a8.2; omega)]; exact hm
    have m3 : ky_n g (35 + 10 * k + 8) = 3 → 1 ≤ ky_n g (35 + 10 * k + 3) := by
      intro h3
      have h4 := a1.2
      have h0 : ky_n g (35 + 10 * k + 1) = 0 ∨ ky_n g (35 + 10 * k + 1) = 1 ∨ ky_n g (35 + 10 * k + 1) = 2 ∨ ky_n g (35 + 10 * k + 1) = 3 := by omega
      rcases h0 with h0 | h0 | h0 | h0
      · have := (b0 h0).2.2.2; omega
      · exact (b1 h0).1
      · have := (b2 h0).2.2.2; omega
      · have := (b3 h0).2.2; omega
    obtain ⟨s1, c, f0, f1, f2, fo⟩ := kx_c_58_276 (ph := ph) (sc := sc) (lm := lm) k12 KC m3
    have hmd : ky_md g k < 6 := by have := a2.2; have := a9.2; unfold ky_md; (repeat' split) <;> omega
    rw [ky_xd_md, ky_xl_ml hm a8.2, ky_xc_can T.2.1.2 hmd] at f0 f1 f2
    have gk2 : s1 (10 + k) 2 = Int32.ofNat (kx_hm g k) := by rw [fo _ (by omega)]; exact KC.1
    have e14 : s1 1 4 = Int32.ofNat nk := by rw [fo _ (by omega)]; exact hnk
    have h113 : s1 1 13 = g 10 := by rw [fo _ (by omega)]; exact RC.2.2.2.2.2.2.2.2.2.2
    have ha2 := a2.2
    have ha3 := a3.2
    by_cases hc : ky_can g k (ky_md g k) (ky_ml g k) = true
    · rw [if_pos hc] at f0 f1
      rw [hc] at f2
      have f2' : s1 276 2 = 1 := f2
      have ml5 : ky_ml g k < 5 := by
        have h1 := hc
        unfold ky_can at h1
        simp only [Bool.or_eq_true, Bool.and_eq_true, decide_eq_true_eq] at h1
        have := T.2.2.1.2
        rcases h1 with h1 | h1
        · omega
        · have := h1.2; unfold kx_rc at this; omega
      have ch := fun (s : kx_G2) (hs : s (10 + k) 2 = Int32.ofNat (kx_hm g k)) => kx_c_67 (ph := ph) (sc := sc) (lm := lm) (sg := s) k12 hs T.2.1.2 hmd ml5
      have ch1 := ch (kx_up s1 1 13 (g 10 + 0)) (by rw [kx_up_ne (by omega)]; exact gk2)
      refine ⟨_, by
        simp (disch := omega) only [kx_e105_0, kx_e105_1, kx_e105_3, kx_e105_4, kx_e105_7, kx_e105_10, kx_e105_11, kx_e105_14, kx_e105_15, kx_e105_16, kx_e105_17, kx_e105_18, kx_e105_21, kx_e105_24, kx_e105_25, kx_e105_28, kx_e105_29, kx_e105_32, kx_e105_33, kx_e105_34, kx_e105_37, kx_e105_38, kx_e105_41, kx_e105_44, kx_e105_47, kx_e105_48, kx_e105_51, kx_e105_52, kx_e105_53, kx_e105_56, kx_e105_57, kx_e105_58, kx_e105_61, kx_e105_64, kx_e105_65, kx_e105_68, kx_e105_71, kx_e105_74, kx_e105_75, kx_e105_78, kx_e105_81, kx_e105_84, kx_e66_0, kx_e66_1, kx_e66_2, kx_e66_5, kx_e66_6, kx_e66_7, kx_e66_10, kx_o66, kx_s_0, kx_s_1, kx_s_2, kx_s_tw, kx_s_9, kx_s_kt, kx_s_22, kx_s_23, kx_s_24, kx_s_73, kx_s_74, kx_s_267, kx_s_268, kx_s_269, kx_s_270, kx_s_271, kx_s_272, kx_s_273, kx_s_274, kx_s_275, kx_s_276, kx_s_277, kx_s_278, kx_s_279, kx_s_280, kx_s_281, kx_s_282, kx_s_or, kx_s_296, kx_s_297, kx_s_298, kx_s_299, kx_s_300, kx_s_301, kx_s_302, kx_s_303, kx_s_304, kx_s_305, kx_s_306, kx_s_307, kx_s_308, kx_s_309, kx_s_310, kx_g_0_0, kx_g_0_1, kx_g_0_2, kx_g_0_3, kx_g_0_4, kx_g_0_5, kx_g_0_6, kx_g_0_7, kx_g_0_8, kx_g_0_9, kx_g_0_10, kx_g_1_0, kx_g_1_1, kx_g_1_2, kx_g_1_3, kx_g_1_4, kx_g_1_5, kx_g_1_6, kx_g_1_7, kx_g_1_8, kx_g_1_9, kx_g_1_10, kx_g_1_11, kx_g_1_12, kx_g_1_13, kx_g_2, kx_g_tw, kx_g_9, kx_g_kt, kx_g_22, kx_g_23, kx_g_24, kx_g_73_0, kx_g_73_1, kx_g_73_2, kx_g_74, kx_g_267_0, kx_g_267_1, kx_g_267_2, kx_g_268, kx_g_269_0, kx_g_269_1, kx_g_269_2, kx_g_270, kx_g_271_0, kx_g_271_1, kx_g_271_2, kx_g_271_3, kx_g_272_0, kx_g_272_1, kx_g_272_2, kx_g_273, kx_g_274_0, kx_g_274_1, kx_g_274_2, kx_g_275, kx_g_276_0, kx_g_276_1, kx_g_276_2, kx_g_277, kx_g_278, kx_g_279_0, kx_g_279_1, kx_g_279_2, kx_g_279_3, kx_g_279_4, kx_g_280_0, kx_g_280_1, kx_g_280_2, kx_g_280_3, kx_g_281, kx_g_282, kx_g_or, kx_g_296_0, kx_g_296_1, kx_g_296_2, kx_g_296_3, kx_g_297, kx_g_298_0, kx_g_298_1, kx_g_298_2, kx_g_298_3, kx_g_298_4, kx_g_298_5, kx_g_298_6, kx_g_298_7, kx_g_298_8, kx_g_298_9, kx_g_298_10, kx_g_298_11, kx_g_298_12, kx_g_298_13, kx_g_298_14, kx_g_298_15, kx_g_298_16, kx_g_298_17, kx_g_298_18, kx_g_298_19, kx_g_298_20, kx_g_299, kx_g_300, kx_g_301, kx_g_302, kx_g_303, kx_g_304, kx_g_305, kx_g_306, kx_g_307, kx_g_308, kx_g_309, kx_g_310, kx_p_0_3, kx_p_0_9, kx_p_0_10, kx_p_1_0, kx_p_1_2, kx_p_1_4, kx_p_1_7, kx_p_1_9, kx_p_1_10, kx_p_1_11, kx_p_1_12, kx_p_1_13, kx_p_tw, kx_p_kt, kx_p_22, kx_p_23, kx_p_24, kx_p_73_1, kx_p_73_2, kx_p_268, kx_p_269_0, kx_p_269_1, kx_p_269_2, kx_p_270, kx_p_273, kx_p_274_0, kx_p_274_1, kx_p_274_2, kx_p_275, kx_p_276_0, kx_p_276_1, kx_p_276_2, kx_p_277, kx_p_278, kx_p_279_2, kx_p_279_3, kx_p_279_4, kx_p_280_1, kx_p_280_2, kx_p_280_3, kx_p_281, kx_p_or, kx_p_296_1, kx_p_296_2, kx_p_296_3, kx_p_297, kx_p_298_5, kx_p_298_6, kx_p_298_7, kx_p_298_8, kx_p_298_9, kx_p_298_11, kx_p_298_13, kx_p_298_18, kx_p_298_20, kx_p_299, kx_p_300, kx_p_301, kx_p_302, kx_p_303, kx_p_304, kx_p_305, kx_p_306, kx_p_307, kx_p_308, kx_p_309, kx_p_310, ↓reduceIte, Bool.true_eq_false, Bool.false_eq_true, reduceCtorEq, Option.bind_some, Option.bind_none, Option.toList_some, Option.toList_none, List.cons_append, List.nil_append, kx_nat_s, not_true_eq_false, not_false_eq_true, Int32.reduceAdd, Int32.reduceSub, Int32.reduceLT, Int32.reduceMul, Int32.reduceDiv, Int32.reduceMod, Nat.reduceLT, Nat.reduceLeDiff, Nat.reduceEqDiff, Nat.reduceAdd, true_and, and_true, kx_le_lt, ite_not, Classical.not_not, kx_ib, ne_eq, gt_iff_lt, ge_iff_le, kx_nw0, kx_nw1, kx_nwb, kx_b0, kx_b1, Nat.lt_irrefl, kx_up_eq, kx_ul_eq, kx_up_ne, kx_ul_ne, kx_arr_n, kx_nat_i, kx_nat_lt, kx_sr_rd, kx_sr_ne, kx_sr_up, kx_sr_upn, kx_u1_eq, kx_u1_ne, kx_tn_0, kx_tn_1, kx_tn_2, kx_tn_3, kx_tn_4, kx_tn_5, kx_tn_6, kx_tn_7, kx_tn_8, kx_tn_9, kx_tn_10, kx_tn_11, kx_tn_12, kx_la_0, kx_la_1, kx_la_2, kx_la_3, kx_la_4, kx_la_5, kx_la_6, kx_la_7, kx_la_8, kx_la_9, kx_la_10, kx_la_11, kx_la_12, kx_j10_0, kx_j10_1, kx_j10_2, kx_j10_3, kx_j10_4, kx_j10_5, kx_j10_6, kx_j10_7, kx_j10_8, kx_j10_9, kx_j4_0, kx_j4_1, kx_j4_2, kx_j4_3, kx_rfr, hnk, hk, e8, c, f0, f1, f2', h113, ch1, show ((1 : Int32) = 0) = False from eq_false (by decide)]
        rfl, ?_, ?_⟩
      · have es : ky_slip k g = kx_u1 (kx_u1 (ky_flies g k (ky_md g k) (ky_ml g k)) (35 + 10 * k + 8) 0) (35 + 10 * k + 9) 0 := by
          unfold ky_slip; rw [if_neg hm, if_pos hc]
        have et : ∀ j, (∀ w, w < 10 → j ≠ 35 + 10 * k + w) → j ≠ 10 → ky_slip k g j = g j := fun j h1 h2 => ky_slip_ne h2 h1
        refine ky_RS_upd R hk hb (O6 k hk) ?_ (fun t ht => ?_) (fun a h1 h2 h3 h4 j => ?_) (fun t ht j hj => ?_) (fun j h1 h2 h3 => ?_) ?_ ?_ O6
        · obtain ⟨c0, c1, c2, c3, c4, c5, c6, c7, c8, c9, c10⟩ := RC
          have e10 : ky_slip k g 10 = g 10 := by
            rw [es]; unfold ky_flies; (repeat' split) <;> simp (disch := omega) only [kx_rests, ky_fly, kx_u1_ne]
          unfold ky_Cn
          rw [et 0 (fun w hw => by omega) (by omega), et 1 (fun w hw => by omega) (by omega), et 2 (fun w hw => by omega) (by omega), et 3 (fun w hw => by omega) (by omega), et 4 (fun w hw => by omega) (by omega), et 5 (fun w hw => by omega) (by omega), et 6 (fun w hw => by omega) (by omega), et 7 (fun w hw => by omega) (by omega), et 8 (fun w hw => by omega) (by omega), et 9 (fun w hw => by omega) (by omega), e10]
          simp (disch := omega) only [kx_up_ne, kx_up_eq, fo]
          exact ⟨c0, c1, c2, c3, c4, c5, c6, c7, c8, c9, Int32.add_zero _⟩
        · rw [et _ (fun w hw => by omega) (by omega)]
          simp (disch := omega) only [kx_up_ne, fo]
          exact (RT t ht).2.2.2
        · have : a ≠ 1 := by omega
          simp (disch := omega) only [kx_up_ne, fo]
        · simp (disch := omega) only [kx_up_ne, fo]
        · exact et j h2 (by omega)
        · unfold ky_K
          rw [es]
          unfold ky_flies
          by_cases hn : ky_ml g k = 0
          · refine ⟨?_, ?_, ?_, ?_, ?_, ?_, ?_, ?_, ?_, fun _ => ?_⟩ <;> simp (disch := omega) only [kx_up_eq, kx_up_ne, fo, kx_rests, kx_u1_eq, kx_u1_ne, if_pos hn, ↓reduceIte] <;> first | assumption | exact T.2.1.1.symm | (rw [hn]; first | rfl | exact T.2.1.1.symm)
          · refine ⟨?_, ?_, ?_, ?_, ?_, ?_, ?_, ?_, ?_, fun _ => ?_⟩ <;> simp (disch := omega) only [kx_up_eq, kx_up_ne, fo, ky_fly, kx_u1_eq, kx_u1_ne, if_neg hn, if_pos hc, ↓reduceIte] <;> assumption
        · refine ⟨?_, ?_, ?_, ?_⟩
          · simp (disch := omega) only [kx_up_ne, fo]
          · simp (disch := omega) only [kx_up_ne, fo]
          · simp (disch := omega) only [kx_up_ne, fo]
          · rw [es]; unfold ky_flies; (repeat' split) <;> simp (disch := omega) only [kx_rests, ky_fly, kx_u1_ne]
      · intro a h1 h2 j
        have : a ≠ 1 := by omega
        simp (disch := omega) only [kx_up_ne, fo]
    · rw [if_neg hc] at f0 f1
      have hc' : ky_can g k (ky_md g k) (ky_ml g k) = false := by simpa using hc
      rw [hc'] at f2
      have f2' : s1 276 2 = 0 := f2
      have ch1 := kx_c_67 (ph := ph) (sc := sc) (lm := lm) (sg := kx_up s1 1 13 (g 10 + 1)) k12 (by rw [kx_up_ne (by omega)]; exact gk2) T.2.1.2 a2.2 a3.2
      refine ⟨_, by
        simp (disch := omega) only [kx_e105_0, kx_e105_1, kx_e105_3, kx_e105_4, kx_e105_7, kx_e105_10, kx_e105_11, kx_e105_14, kx_e105_15, kx_e105_16, kx_e105_17, kx_e105_18, kx_e105_21, kx_e105_24, kx_e105_25, kx_e105_28, kx_e105_29, kx_e105_32, kx_e105_33, kx_e105_34, kx_e105_37, kx_e105_38, kx_e105_41, kx_e105_44, kx_e105_47, kx_e105_48, kx_e105_51, kx_e105_52, kx_e105_53, kx_e105_56, kx_e105_57, kx_e105_58, kx_e105_61, kx_e105_64, kx_e105_65, kx_e105_68, kx_e105_71, kx_e105_74, kx_e105_75, kx_e105_78, kx_e105_81, kx_e105_84, kx_e66_0, kx_e66_1, kx_e66_2, kx_e66_5, kx_e66_6, kx_e66_7, kx_e66_10, kx_o66, kx_s_0, kx_s_1, kx_s_2, kx_s_tw, kx_s_9, kx_s_kt, kx_s_22, kx_s_23, kx_s_24, kx_s_73, kx_s_74, kx_s_267, kx_s_268, kx_s_269, kx_s_270, kx_s_271, kx_s_272, kx_s_273, kx_s_274, kx_s_275, kx_s_276, kx_s_277, kx_s_278, kx_s_279, kx_s_280, kx_s_281, kx_s_282, kx_s_or, kx_s_296, kx_s_297, kx_s_298, kx_s_299, kx_s_300, kx_s_301, kx_s_302, kx_s_303, kx_s_304, kx_s_305, kx_s_306, kx_s_307, kx_s_308, kx_s_309, kx_s_310, kx_g_0_0, kx_g_0_1, kx_g_0_2, kx_g_0_3, kx_g_0_4, kx_g_0_5, kx_g_0_6, kx_g_0_7, kx_g_0_8, kx_g_0_9, kx_g_0_10, kx_g_1_0, kx_g_1_1, kx_g_1_2, kx_g_1_3, kx_g_1_4, kx_g_1_5, kx_g_1_6, kx_g_1_7, kx_g_1_8, kx_g_1_9, kx_g_1_10, kx_g_1_11, kx_g_1_12, kx_g_1_13, kx_g_2, kx_g_tw, kx_g_9, kx_g_kt, kx_g_22, kx_g_23, kx_g_24, kx_g_73_0, kx_g_73_1, kx_g_73_2, kx_g_74, kx_g_267_0, kx_g_267_1, kx_g_267_2, kx_g_268, kx_g_269_0, kx_g_269_1, kx_g_269_2, kx_g_270, kx_g_271_0, kx_g_271_1, kx_g_271_2, kx_g_271_3, kx_g_272_0, kx_g_272_1, kx_g_272_2, kx_g_273, kx_g_274_0, kx_g_274_1, kx_g_274_2, kx_g_275, kx_g_276_0, kx_g_276_1, kx_g_276_2, kx_g_277, kx_g_278, kx_g_279_0, kx_g_279_1, kx_g_279_2, kx_g_279_3, kx_g_279_4, kx_g_280_0, kx_g_280_1, kx_g_280_2, kx_g_280_3, kx_g_281, kx_g_282, kx_g_or, kx_g_296_0, kx_g_296_1, kx_g_296_2, kx_g_296_3, kx_g_297, kx_g_298_0, kx_g_298_1, kx_g_298_2, kx_g_298_3, kx_g_298_4, kx_g_298_5, kx_g_298_6, kx_g_298_7, kx_g_298_8, kx_g_298_9, kx_g_298_10, kx_g_298_11, kx_g_298_12, kx_g_298_13, kx_g_298_14, kx_g_298_15, kx_g_298_16, kx_g_298_17, kx_g_298_18, kx_g_298_19, kx_g_298_20, kx_g_299, kx_g_300, kx_g_301, kx_g_302, kx_g_303, kx_g_304, kx_g_305, kx_g_306, kx_g_307, kx_g_308, kx_g_309, kx_g_310, kx_p_0_3, kx_p_0_9, kx_p_0_10, kx_p_1_0, kx_p_1_2, kx_p_1_4, kx_p_1_7, kx_p_1_9, kx_p_1_10, kx_p_1_11, kx_p_1_12, kx_p_1_13, kx_p_tw, kx_p_kt, kx_p_22, kx_p_23, kx_p_24, kx_p_73_1, kx_p_73_2, kx_p_268, kx_p_269_0, kx_p_269_1, kx_p_269_2, kx_p_270, kx_p_273, kx_p_274_0, kx_p_274_1, kx_p_274_2, kx_p_275, kx_p_276_0, kx_p_276_1, kx_p_276_2, kx_p_277, kx_p_278, kx_p_279_2, kx_p_279_3, kx_p_279_4, kx_p_280_1, kx_p_280_2, kx_p_280_3, kx_p_281, kx_p_or, kx_p_296_1, kx_p_296_2, kx_p_296_3, kx_p_297, kx_p_298_5, kx_p_298_6, kx_p_298_7, kx_p_298_8, kx_p_298_9, kx_p_298_11, kx_p_298_13, kx_p_298_18, kx_p_298_20, kx_p_299, kx_p_300, kx_p_301, kx_p_302, kx_p_303, kx_p_304, kx_p_305, kx_p_306, kx_p_307, kx_p_308, kx_p_309, kx_p_310, ↓reduceIte, Bool.true_eq_false, Bool.false_eq_true, reduceCtorEq, Option.bind_some, Option.bind_none, Option.toList_some, Option.toList_none, List.cons_append, List.nil_append, kx_nat_s, not_true_eq_false, not_false_eq_true, Int32.reduceAdd, Int32.reduceSub, Int32.reduceLT, Int32.reduceMul, Int32.reduceDiv, Int32.reduceMod, Nat.reduceLT, Nat.reduceLeDiff, Nat.reduceEqDiff, Nat.reduceAdd, true_and, and_true, kx_le_lt, ite_not, Classical.not_not, kx_ib, ne_eq, gt_iff_lt, ge_iff_le, kx_nw0, kx_nw1, kx_nwb, kx_b0, kx_b1, Nat.lt_irrefl, kx_up_eq, kx_ul_eq, kx_up_ne, kx_ul_ne, kx_arr_n, kx_nat_i, kx_nat_lt, kx_sr_rd, kx_sr_ne, kx_sr_up, kx_sr_upn, kx_u1_eq, kx_u1_ne, kx_tn_0, kx_tn_1, kx_tn_2, kx_tn_3, kx_tn_4, kx_tn_5, kx_tn_6, kx_tn_7, kx_tn_8, kx_tn_9, kx_tn_10, kx_tn_11, kx_tn_12, kx_la_0, kx_la_1, kx_la_2, kx_la_3, kx_la_4, kx_la_5, kx_la_6, kx_la_7, kx_la_8, kx_la_9, kx_la_10, kx_la_11, kx_la_12, kx_j10_0, kx_j10_1, kx_j10_2, kx_j10_3, kx_j10_4, kx_j10_5, kx_j10_6, kx_j10_7, kx_j10_8, kx_j10_9, kx_j4_0, kx_j4_1, kx_j4_2, kx_j4_3, kx_rfr, hnk, hk, e8, c, f0, f1, f2', h113, ch1]
        rfl, ?_, ?_⟩
      · have es : ky_slip k g = kx_u1 (kx_u1 (kx_u1 g 10 (g 10 + 1)) (35 + 10 * k + 8) 0) (35 + 10 * k + 9) 0 := by
          unfold ky_slip; rw [if_neg hm, if_neg hc]
        have et : ∀ j, (∀ w, w < 10 → j ≠ 35 + 10 * k + w) → j ≠ 10 → ky_slip k g j = g j := fun j h1 h2 => ky_slip_ne h2 h1
        refine ky_RS_upd R hk hb (O6 k hk) ?_ (fun t ht => ?_) (fun a h1 h2 h3 h4 j => ?_) (fun t ht j hj => ?_) (fun j h1 h2 h3 => ?_) ?_ ?_ O6
        · obtain ⟨c0, c1, c2, c3, c4, c5, c6, c7, c8, c9, c10⟩ := RC
          have e10 : ky_slip k g 10 = g 10 + 1 := by
            rw [es]; simp (disch := omega) only [kx_u1_ne, kx_u1_eq]
          unfold ky_Cn
          rw [et 0 (fun w hw => by omega) (by omega), et 1 (fun w hw => by omega) (by omega), et 2 (fun w hw => by omega) (by omega), et 3 (fun w hw => by omega) (by omega), et 4 (fun w hw => by omega) (by omega), et 5 (fun w hw => by omega) (by omega), et 6 (fun w hw => by omega) (by omega), et 7 (fun w hw => by omega) (by omega), et 8 (fun w hw => by omega) (by omega), et 9 (fun w hw => by omega) (by omega), e10]
          simp (disch := omega) only [kx_up_ne, kx_up_eq, fo]
          exact ⟨c0, c1, c2, c3, c4, c5, c6, c7, c8, c9, trivial⟩
        · rw [et _ (fun w hw => by omega) (by omega)]
          simp (disch := omega) only [kx_up_ne, fo]
          exact (RT t ht).2.2.2
        · have : a ≠ 1 := by omega
          simp (disch := omega) only [kx_up_ne, fo]
        · simp (disch := omega) only [kx_up_ne, fo]
        · exact et j h2 (by omega)
        · unfold ky_K
          rw [es]
          have h4 := a1.2
          have h0 : ky_n g (35 + 10 * k + 1) = 0 ∨ ky_n g (35 + 10 * k + 1) = 1 ∨ ky_n g (35 + 10 * k + 1) = 2 ∨ ky_n g (35 + 10 * k + 1) = 3 := by omega
          rcases h0 with h0 | h0 | h0 | h0
          · obtain ⟨z1, z2, z3, z4⟩ := b0 h0
            have y1 : g (35 + 10 * k + 1) = 0 := a1.1.trans (by rw [h0]; rfl)
            have y2 : g (35 + 10 * k + 2) = 0 := a2.1.trans (by rw [z1]; rfl)
            have y3 : g (35 + 10 * k + 3) = 0 := a3.1.trans (by rw [z2]; rfl)
            simp (disch := omega) only [kx_up_eq, kx_up_ne, fo, kx_u1_eq, kx_u1_ne, if_pos z2]
            refine ⟨q1, y1.symm, y2.symm, a3.1.symm, q8, q9, q10, trivial, trivial, fun _ => ?_⟩
            rw [z3, z2]
            rfl
          · obtain ⟨z1, z2, z3, z4, z5⟩ := b1 h0
            have zn : ¬ ky_n g (35 + 10 * k + 3) = 0 := by omega
            have y1 : g (35 + 10 * k + 1) = 1 := a1.1.trans (by rw [h0]; rfl)
            simp (disch := omega) only [kx_up_eq, kx_up_ne, fo, kx_u1_eq, kx_u1_ne, if_neg zn]
            exact ⟨q1, y1.symm, a2.1.symm, a3.1.symm, q8, q9, q10, trivial, trivial, fun _ => z3.symm⟩
          · have := (b2 h0).2.2.2; omega
          · have := (b3 h0).2.2; omega
        · refine ⟨?_, ?_, ?_, ?_⟩
          · simp (disch := omega) only [kx_up_ne, fo]
          · simp (disch := omega) only [kx_up_ne, fo]
          · simp (disch := omega) only [kx_up_ne, fo]
          · rw [es]; simp (disch := omega) only [kx_u1_ne]
      · intro a h1 h2 j
        have : a ≠ 1 := by omega
        simp (disch := omega) only [kx_up_ne, fo]
end KxCarry
