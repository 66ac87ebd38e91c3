/-! lines as they are behind the slips; crossings of both -/
theorem ky_RS_eq {nk : Nat} {s s' : kx_G2} {g : kx_Rw} (hn : nk ≤ 12) (h : ∀ a, 1 ≤ a → a < 25 → ∀ j, s' a j = s a j) (R : ky_RS nk s g) : ky_RS nk s' g := by
  refine ky_RS_SA hn ?_ R
  unfold ky_SA
  refine ⟨⟨h 1 (by omega) (by omega) _, h 1 (by omega) (by omega) _, h 1 (by omega) (by omega) _, h 1 (by omega) (by omega) _, h 1 (by omega) (by omega) _, h 1 (by omega) (by omega) _, h 1 (by omega) (by omega) _, h 1 (by omega) (by omega) _, h 1 (by omega) (by omega) _⟩, ⟨h 24 (by omega) (by omega) _, h 24 (by omega) (by omega) _⟩, fun t ht j hj => h _ (by omega) (by omega) _, fun k hk j hj => h _ (by omega) (by omega) _, fun w hw => ⟨h 22 (by omega) (by omega) _, h 23 (by omega) (by omega) _⟩⟩
def ky_pd (g : kx_Rw) (k : Nat) : Nat := if ky_n g (35 + 10 * k + 8) = 0 then ky_n g (35 + 10 * k + 2) else if ky_can g k (ky_md g k) (ky_ml g k) = true then ky_md g k else ky_n g (35 + 10 * k + 2)
def ky_pl (g : kx_Rw) (k : Nat) : Nat := if ky_n g (35 + 10 * k + 8) = 0 then ky_n g (35 + 10 * k + 3) else if ky_can g k (ky_md g k) (ky_ml g k) = true then ky_ml g k else ky_n g (35 + 10 * k + 3)
section KyCross
variable {g : kx_Rw} {nt nk nw tn : Nat}
theorem ky_hx_0 {h d : Nat} : ky_hx h d 0 = 0 := rfl
theorem ky_slips_out {j : Nat} (h10 : j ≠ 10) : ∀ n, (∀ k, k < n → ∀ w, w < 10 → j ≠ 35 + 10 * k + w) → ky_slips g n j = g j
  | 0, _ => rfl
  | n + 1, h => (ky_slip_ne h10 (h n (by omega))).trans (ky_slips_out h10 n (fun k hk => h k (by omega)))
theorem ky_slips_at {k : Nat} (hk : k < nk) {j : Nat} (hw : ∃ w, w < 10 ∧ j = 35 + 10 * k + w) : ky_slips g nk j = ky_slip k (ky_slips g k) j := by
  obtain ⟨w, hw, rfl⟩ := hw
  have H : ∀ m, ky_slips g (k + 1 + m) (35 + 10 * k + w) = ky_slip k (ky_slips g k) (35 + 10 * k + w) := by
    intro m
    induction m with
    | zero => rfl
    | succ m ih =>
      show ky_slip (k + 1 + m) (ky_slips g (k + 1 + m)) (35 + 10 * k + w) = _
      exact (ky_slip_ne (by omega) (fun w' hw' => by omega)).trans ih
  have := H (nk - (k + 1))
  rwa [show k + 1 + (nk - (k + 1)) = nk by omega] at this
theorem ky_cv_slips (I : ky_I nt nk nw tn g) {k : Nat} (hk : k < nk) : ky_cv (ky_slips g nk) k = ky_hx (kx_hm g k) (ky_pd g k) (ky_pl g k) := by
  obtain ⟨k12, KI, O, T⟩ := ky_I_kite I hk
  have o2 := O.2
  have hb := I.2.2.1.2
  have c0 : ∀ n, n ≤ nk → ky_slips g n (35 + 10 * k) = g (35 + 10 * k) := fun n hn => ky_f_slips k12 n (by omega)
  have ct : ∀ n j, n ≤ nk → 11 ≤ j → j < 35 → ky_slips g n j = g j := fun n j hn h1 h2 => ky_slips_out (by omega) n (fun k' hk' w hw => by omega)
  have cw : ∀ w, w < 10 → ky_slips g k (35 + 10 * k + w) = g (35 + 10 * k + w) := fun w hw => ky_slips_out (by omega) k (fun k' hk' w' hw' => by omega)
  have n0 : ∀ n, n ≤ nk → ky_n (ky_slips g n) (35 + 10 * k) = ky_n g (35 + 10 * k) := fun n hn => by unfold ky_n; rw [c0 n hn]
  have nw : ∀ w, w < 10 → ky_n (ky_slips g k) (35 + 10 * k + w) = ky_n g (35 + 10 * k + w) := fun w hw => by unfold ky_n; rw [cw w hw]
  have hm : ∀ n, n ≤ nk → kx_hm (ky_slips g n) k = kx_hm g k := fun n hn => by
    unfold kx_hm
    rw [n0 n hn]
    unfold ky_n
    rw [ct n _ hn (by unfold ky_n at o2; omega) (by unfold ky_n at o2; omega)]
  have hr : kx_rc (ky_slips g k) k = kx_rc g k := by
    unfold kx_rc
    rw [n0 k (by omega)]
    unfold ky_n
    rw [ct k _ (by omega) (by unfold ky_n at o2; omega) (by unfold ky_n at o2; omega)]
  have emd : ky_md (ky_slips g k) k = ky_md g k := by
    unfold ky_md
    rw [nw 8 (by omega), nw 9 (by omega), nw 2 (by omega)]
  have eml : ky_ml (ky_slips g k) k = ky_ml g k := by
    unfold ky_ml
    rw [nw 8 (by omega), nw 3 (by omega)]
  have eca : ∀ d n, ky_can (ky_slips g k) k d n = ky_can g k d n := fun d n => by
    unfold ky_can
    rw [hm k (by omega), hr]
  have e2 : ky_n (ky_slips g nk) (35 + 10 * k + 2) = ky_n (ky_slip k (ky_slips g k)) (35 + 10 * k + 2) := by
    unfold ky_n; rw [ky_slips_at hk ⟨2, by omega, rfl⟩]
  have e3 : ky_n (ky_slips g nk) (35 + 10 * k + 3) = ky_n (ky_slip k (ky_slips g k)) (35 + 10 * k + 3) := by
    unfold ky_n; rw [ky_slips_at hk ⟨3, by omega, rfl⟩]
  have mdl : ky_md g k < 2147483648 := by
    obtain ⟨a0, a1, a2, a3, a5, a8, a9, -⟩ := KI
    have := a2.2
    have := a9.2
    unfold ky_md; (repeat' split) <;> omega
  have mll : ky_ml g k < 2147483648 := by
    obtain ⟨a0, a1, a2, a3, a5, a8, a9, -⟩ := KI
    have := a3.2
    unfold ky_ml; (repeat' split) <;> omega
  unfold ky_cv
  rw [hm nk (Nat.le_refl _), e2, e3]
  unfold ky_pd ky_pl ky_slip
  rw [nw 8 (by omega), emd, eml, eca]
  by_cases h0 : ky_n g (35 + 10 * k + 8) = 0
  · rw [if_pos h0, if_pos h0, if_pos h0, nw 2 (by omega), nw 3 (by omega)]
  · rw [if_neg h0, if_neg h0, if_neg h0]
    by_cases hc : ky_can g k (ky_md g k) (ky_ml g k) = true
    · rw [if_pos hc, if_pos hc, if_pos hc]
      unfold ky_flies
      by_cases hz : ky_ml g k = 0
      · rw [if_pos hz, hz]
        unfold kx_rests
        simp (disch := omega) only [ky_n_ne, ky_n_u0]
        rfl
      · rw [if_neg hz, eca, if_pos hc]
        unfold ky_fly
        simp (disch := omega) only [ky_n_ne, ky_n_u1]
    · rw [if_neg hc, if_neg hc, if_neg hc]
      simp (disch := omega) only [ky_n_ne]
      rw [nw 2 (by omega), nw 3 (by omega)]
theorem ky_pl_lt (I : ky_I nt nk nw tn g) {k : Nat} (hk : k < nk) : ky_pd g k < 6 ∧ ky_pl g k < 5 := by
  obtain ⟨k12, KI, O, T⟩ := ky_I_kite I hk
  obtain ⟨a0, a1, a2, a3, a5, a8, a9, -⟩ := KI
  have h2 := a2.2
  have h3 := a3.2
  have h9 := a9.2
  have hr := T.2.2.1.2
  constructor
  · unfold ky_pd ky_md
    (repeat' split) <;> omega
  · unfold ky_pl
    split
    · exact h3
    · split
      · next hc =>
        unfold ky_can at hc
        simp only [Bool.or_eq_true, Bool.and_eq_true, decide_eq_true_eq, Bool.not_eq_true', decide_eq_false_iff_not] at hc
        unfold kx_rc at hc
        rcases hc with h | ⟨-, h⟩ <;> omega
      · exact h3
end KyCross
section KyCross2
variable {ph : Nat} {sc : Nat × (Nat → Int32)} {sg : kx_G2} {lm : Nat → Nat → Int64} {g : kx_Rw} {nt nk nw tn : Nat}
theorem kx_c_58p (I : ky_I nt nk nw tn g) (R : ky_RS nk sg g) {k : Nat} (hk : k < nk) : ∃ sg', kx_call 58 [.ref 269, .ref (10 + k)] (kx_pm ph sc sg lm) = some (none, kx_pm ph sc sg' lm) ∧ sg' 269 0 = Int32.ofNat (ky_pd g k) ∧ sg' 269 1 = Int32.ofNat (ky_pl g k) ∧ ∀ a, a ≠ 269 → ∀ j, sg' a j = sg a j := by
  obtain ⟨k12, KI, O, T⟩ := ky_I_kite I hk
  have KC := ky_KC_of I R hk
  obtain ⟨a0, a1, a2, a3, a5, a8, a9, b0, b1, b2, b3⟩ := KI
  have h4 := a1.2
  have h3 : ky_n g (35 + 10 * k + 8) = 3 → 1 ≤ ky_n g (35 + 10 * k + 3) := fun z => by
    have h0 : ky_n g (35 + 10 * k + 1) = 0 ∨ ky_n g (35 + 10 * k + 1) = 1 ∨ ky_n g (35 + 10 * k + 1) = 2 ∨ ky_n g (35 + 10 * k + 1) = 3 := by omega
    rcases h0 with h0 | h0 | h0 | h0
    · have := (b0 h0).2.2.2; omega
    · exact (b1 h0).1
    · have := (b2 h0).2.2.2; omega
    · have := (b3 h0).2.2; omega
  obtain ⟨s', e, f0, f1, f2, fo⟩ := kx_c_58_269 (ph := ph) (sc := sc) (lm := lm) k12 KC h3
  have hmd : ky_md g k < 6 := by have := a2.2; have := a9.2; unfold ky_md; (repeat' split) <;> omega
  refine ⟨s', e, f0.trans (congrArg Int32.ofNat ?_), f1.trans (congrArg Int32.ofNat ?_), fo⟩
  · unfold ky_pd
    by_cases h0 : ky_n g (35 + 10 * k + 8) = 0
    · rw [if_pos h0, h0]
      have : ∀ d w, ky_xd 0 d w = d := fun d w => rfl
      rw [this]
      split <;> rfl
    · rw [if_neg h0, ky_xd_md, ky_xl_ml h0 a8.2, ky_xc_can T.2.1.2 hmd]
  · unfold ky_pl
    by_cases h0 : ky_n g (35 + 10 * k + 8) = 0
    · rw [if_pos h0, h0]
      have : ∀ n, ky_xl 0 n = n := fun n => rfl
      rw [this]
      split <;> rfl
    · rw [if_neg h0, ky_xd_md, ky_xl_ml h0 a8.2, ky_xc_can T.2.1.2 hmd]
theorem kx_c_73 (I : ky_I nt nk nw tn g) (R : ky_RS nk sg g) : ∃ sg' lm', kx_call 73 [.ref 267, .ref 1] (kx_pm ph sc sg lm) = some (none, kx_pm ph sc sg' lm') ∧ (∀ k, k < nk → lm' 268 k = ky_cv (ky_slips g nk) k) ∧ ∀ a, a ≠ 269 → ∀ j, sg' a j = sg a j := by
  have hb := I.2.2.1.2
  have H : ∀ m k, k + m = nk → ∀ l s lm, (∀ i, i < k → lm 268 i = ky_cv (ky_slips g nk) i) → (∀ a, a ≠ 269 → ∀ j, s a j = sg a j) → ∃ sg' lm', kx_D 73 2 [some (.ref 267), some (.ref 1), some (.int (Int32.ofNat k)), l] [] (kx_pm ph sc s lm) = some (none, kx_pm ph sc sg' lm') ∧ (∀ k, k < nk → lm' 268 k = ky_cv (ky_slips g nk) k) ∧ ∀ a, a ≠ 269 → ∀ j, sg' a j = sg a j := by
    intro m
    induction m with
    | zero =>
      intro k hk l s lm h hs
      have : k = nk := by omega
      subst this
      have hnk : s 1 4 = Int32.ofNat k := (hs 1 (by decide) 4).trans (R.1.2.2.1.trans I.2.2.1.1)
      refine ⟨s, lm, ?_, h, hs⟩
      rw [kx_e73_2]
      simp (disch := omega) only [kx_e73_0, kx_e73_1, kx_e73_3, kx_e73_4, kx_e73_7, kx_e73_10, kx_e73_11, kx_e73_14, kx_e73_15, kx_e73_16, kx_e73_17, kx_e73_18, kx_e73_21, kx_e73_22, kx_e73_25, kx_e73_26, kx_e73_29, kx_e73_30, kx_e73_31, kx_e73_34, kx_e73_35, kx_e73_38, kx_e73_41, kx_e73_42, kx_e73_45, kx_e73_48, kx_e73_51, kx_e73_52, kx_e73_55, kx_e73_58, kx_s_0, kx_s_1, kx_s_2, kx_s_tw, kx_s_9, kx_s_kt, kx_s_22, kx_s_23, kx_s_24, kx_s_73, kx_s_74, kx_s_267, kx_s_268, kx_s_269, kx_s_270, kx_s_271, kx_s_272, kx_s_273, kx_s_274, kx_s_275, kx_s_276, kx_s_277, kx_s_278, kx_s_279, kx_s_280, kx_s_281, kx_s_282, kx_s_or, kx_s_296, kx_s_297, kx_s_298, kx_s_299, kx_s_300, kx_s_301, kx_s_302, kx_s_303, kx_s_304, kx_s_305, kx_s_306, kx_s_307, kx_s_308, kx_s_309, kx_s_310, kx_g_0_0, kx_g_0_1, kx_g_0_2, kx_g_0_3, kx_g_0_4, kx_g_0_5, kx_g_0_6, kx_g_0_7, kx_g_0_8, kx_g_0_9, kx_g_0_10, kx_g_1_0, kx_g_1_1, kx_g_1_2, kx_g_1_3, kx_g_1_4, kx_g_1_5, kx_g_1_6, kx_g_1_7, kx_g_1_8, kx_g_1_9, kx_g_1_10, kx_g_1_11, kx_g_1_12, kx_g_1_13, kx_g_2, kx_g_tw, kx_g_9, kx_g_kt, kx_g_22, kx_g_23, kx_g_24, kx_g_73_0, kx_g_73_1, kx_g_73_2, kx_g_74, kx_g_267_0, kx_g_267_1, kx_g_267_2, kx_g_268, kx_g_269_0, kx_g_269_1, kx_g_269_2, kx_g_270, kx_g_271_0, kx_g_271_1, kx_g_271_2, kx_g_271_3, kx_g_272_0, kx_g_272_1, kx_g_272_2, kx_g_273, kx_g_274_0, kx_g_274_1, kx_g_274_2, kx_g_275, kx_g_276_0, kx_g_276_1, kx_g_276_2, kx_g_277, kx_g_278, kx_g_279_0, kx_g_279_1, kx_g_279_2, kx_g_279_3, kx_g_279_4, kx_g_280_0, kx_g_280_1, kx_g_280_2, kx_g_280_3, kx_g_281, kx_g_282, kx_g_or, kx_g_296_0, kx_g_296_1, kx_g_296_2, kx_g_296_3, kx_g_297, kx_g_298_0, kx_g_298_1, kx_g_298_2, kx_g_298_3, kx_g_298_4, kx_g_298_5, kx_g_298_6, kx_g_298_7, kx_g_298_8, kx_g_298_9, kx_g_298_10, kx_g_298_11, kx_g_298_12, kx_g_298_13, kx_g_298_14, kx_g_298_15, kx_g_298_16, kx_g_298_17, kx_g_298_18, kx_g_298_19, kx_g_298_20, kx_g_299, kx_g_300, kx_g_301, kx_g_302, kx_g_303, kx_g_304, kx_g_305, kx_g_306, kx_g_307, kx_g_308, kx_g_309, kx_g_310, kx_p_0_3, kx_p_0_9, kx_p_0_10, kx_p_1_0, kx_p_1_2, kx_p_1_4, kx_p_1_7, kx_p_1_9, kx_p_1_10, kx_p_1_11, kx_p_1_12, kx_p_1_13, kx_p_tw, kx_p_kt, kx_p_22, kx_p_23, kx_p_24, kx_p_73_1, kx_p_73_2, kx_p_268, kx_p_269_0, kx_p_269_1, kx_p_269_2, kx_p_270, kx_p_273, kx_p_274_0, kx_p_274_1, kx_p_274_2, kx_p_275, kx_p_276_0, kx_p_276_1, kx_p_276_2, kx_p_277, kx_p_278, kx_p_279_2, kx_p_279_3, kx_p_279_4, kx_p_280_1, kx_p_280_2, kx_p_280_3, kx_p_281, kx_p_or, kx_p_296_1, kx_p_296_2, kx_p_296_3, kx_p_297, kx_p_298_5, kx_p_298_6, kx_p_298_7, kx_p_298_8, kx_p_298_9, kx_p_298_11, kx_p_298_13, kx_p_298_18, kx_p_298_20, kx_p_299, kx_p_300, kx_p_301, kx_p_302, kx_p_303, kx_p_304, kx_p_305, kx_p_306, kx_p_307, kx_p_308, kx_p_309, kx_p_310, ↓reduceIte, Bool.true_eq_false, Bool.false_eq_true, reduceCtorEq, Option.bind_some, Option.bind_none, Option.toList_some, Option.toList_none, List.cons_append, List.nil_append, kx_nat_s, not_true_eq_false, not_false_eq_true, Int32.reduceAdd, Int32.reduceSub, Int32.reduceLT, Int32.reduceMul, Int32.reduceDiv, Int32.reduceMod, Nat.reduceLT, Nat.reduceLeDiff, Nat.reduceEqDiff, Nat.reduceAdd, true_and, and_true, kx_le_lt, ite_not, Classical.not_not, kx_ib, ne_eq, gt_iff_lt, ge_iff_le, kx_nw0, kx_nw1, kx_nwb, kx_b0, kx_b1, Nat.lt_irrefl, kx_up_eq, kx_ul_eq, kx_up_ne, kx_ul_ne, kx_arr_n, kx_nat_i, kx_nat_lt, kx_sr_rd, kx_sr_ne, kx_sr_up, kx_sr_upn, kx_u1_eq, kx_u1_ne, kx_tn_0, kx_tn_1, kx_tn_2, kx_tn_3, kx_tn_4, kx_tn_5, kx_tn_6, kx_tn_7, kx_tn_8, kx_tn_9, kx_tn_10, kx_tn_11, kx_tn_12, kx_la_0, kx_la_1, kx_la_2, kx_la_3, kx_la_4, kx_la_5, kx_la_6, kx_la_7, kx_la_8, kx_la_9, kx_la_10, kx_la_11, kx_la_12, kx_j10_0, kx_j10_1, kx_j10_2, kx_j10_3, kx_j10_4, kx_j10_5, kx_j10_6, kx_j10_7, kx_j10_8, kx_j10_9, kx_j4_0, kx_j4_1, kx_j4_2, kx_j4_3, kx_rfr, hnk]
    | succ m ih =>
      intro k hk l s lm h hs
      have hkn : k < nk := by omega
      obtain ⟨k12, KI, O, T⟩ := ky_I_kite I hkn
      have Rs : ky_RS nk s g := ky_RS_eq hb (fun a h1 h2 j => hs a (by omega) j) R
      have hnk : s 1 4 = Int32.ofNat nk := Rs.1.2.2.1.trans I.2.2.1.1
      obtain ⟨s1, e1, f0, f1, fo⟩ := kx_c_58p (ph := ph) (sc := sc) (lm := lm) I Rs hkn
      have hl := ky_pl_lt I hkn
      have hh : s1 (10 + k) 2 = Int32.ofNat (kx_hm g k) := (fo _ (by omega) 2).trans ((Rs.2.2.2.2 k hkn).2.1.trans T.2.1.1)
      have c := fun M => kx_c_71 (h := kx_hm g k) (d := ky_pd g k) (n := ky_pl g k) T.2.1.2 hl.1 hl.2 M
      obtain ⟨sg', lm', e, p, q⟩ := ih (k + 1) (by omega) (some (.ref (10 + k))) s1 (kx_ul lm 268 k (ky_hx (kx_hm g k) (ky_pd g k) (ky_pl g k))) (fun i hi => by
        by_cases hik : i = k
        · subst hik; rw [kx_ul_eq]; exact (ky_cv_slips I hkn).symm
        · rw [kx_ul_ne (Or.inr hik)]; exact h i (by omega)) (fun a ha j => (fo a ha j).trans (hs a ha j))
      refine ⟨sg', lm', ?_, p, q⟩
      rw [kx_e73_2]
      simp (disch := omega) only [kx_e73_0, kx_e73_1, kx_e73_3, kx_e73_4, kx_e73_7, kx_e73_10, kx_e73_11, kx_e73_14, kx_e73_15, kx_e73_16, kx_e73_17, kx_e73_18, kx_e73_21, kx_e73_22, kx_e73_25, kx_e73_26, kx_e73_29, kx_e73_30, kx_e73_31, kx_e73_34, kx_e73_35, kx_e73_38, kx_e73_41, kx_e73_42, kx_e73_45, kx_e73_48, kx_e73_51, kx_e73_52, kx_e73_55, kx_e73_58, kx_s_0, kx_s_1, kx_s_2, kx_s_tw, kx_s_9, kx_s_kt, kx_s_22, kx_s_23, kx_s_24, kx_s_73, kx_s_74, kx_s_267, kx_s_268, kx_s_269, kx_s_270, kx_s_271, kx_s_272, kx_s_273, kx_s_274, kx_s_275, kx_s_276, kx_s_277, kx_s_278, kx_s_279, kx_s_280, kx_s_281, kx_s_282, kx_s_or, kx_s_296, kx_s_297, kx_s_298, kx_s_299, kx_s_300, kx_s_301, kx_s_302, kx_s_303, kx_s_304, kx_s_305, kx_s_306, kx_s_307, kx_s_308, kx_s_309, kx_s_310, kx_g_0_0, kx_g_0_1, kx_g_0_2, kx_g_0_3, kx_g_0_4, kx_g_0_5, kx_g_0_6, kx_g_0_7, kx_g_0_8, kx_g_0_9, kx_g_0_10, kx_g_1_0, kx_g_1_1, kx_g_1_2, kx_g_1_3, kx_g_1_4, kx_g_1_5, kx_g_1_6, kx_g_1_7, kx_g_1_8, kx_g_1_9, kx_g_1_10, kx_g_1_11, kx_g_1_12, kx_g_1_13, kx_g_2, kx_g_tw, kx_g_9, kx_g_kt, kx_g_22, kx_g_23, kx_g_24, kx_g_73_0, kx_g_73_1, kx_g_73_2, kx_g_74, kx_g_267_0, kx_g_267_1, kx_g_267_2, kx_g_268, kx_g_269_0, kx_g_269_1, kx_g_269_2, kx_g_270, kx_g_271_0, kx_g_271_1, kx_g_271_2, kx_g_271_3, kx_g_272_0, kx_g_272_1, kx_g_272_2, kx_g_273, kx_g_274_0, kx_g_274_1, kx_g_274_2, kx_g_275, kx_g_276_0, kx_g_276_1, kx_g_276_2, kx_g_277, kx_g_278, kx_g_279_0, kx_g_279_1, kx_g_279_2, kx_g_279_3, kx_g_279_4, kx_g_280_0, kx_g_280_1, kx_g_280_2, kx_g_280_3, kx_g_281, kx_g_282, kx_g_or, kx_g_296_0, kx_g_296_1, kx_g_296_2, kx_g_296_3, kx_g_297, kx_g_298_0, kx_g_298_1, kx_g_298_2, kx_g_298_3, kx_g_298_4, kx_g_298_5, kx_g_298_6, kx_g_298_7, kx_g_298_8, kx_g_298_9, kx_g_298_10, kx_g_298_11, kx_g_298_12, kx_g_298_13, kx_g_298_14, kx_g_298_15, kx_g_298_16, kx_g_298_17, kx_g_298_18, kx_g_298_19, kx_g_298_20, kx_g_299, kx_g_300, kx_g_301, kx_g_302, kx_g_303, kx_g_304, kx_g_305, kx_g_306, kx_g_307, kx_g_308, kx_g_309, kx_g_310, kx_p_0_3, kx_p_0_9, kx_p_0_10, kx_p_1_0, kx_p_1_2, kx_p_1_4, kx_p_1_7, kx_p_1_9, kx_p_1_10, kx_p_1_11, kx_p_1_12, kx_p_1_13, kx_p_tw, kx_p_kt, kx_p_22, kx_p_23, kx_p_24, kx_p_73_1, kx_p_73_2, kx_p_268, kx_p_269_0, kx_p_269_1, kx_p_269_2, kx_p_270, kx_p_273, kx_p_274_0, kx_p_274_1, kx_p_274_2, kx_p_275, kx_p_276_0, kx_p_276_1, kx_p_276_2, kx_p_277, kx_p_278, kx_p_279_2, kx_p_279_3, kx_p_279_4, kx_p_280_1, kx_p_280_2, kx_p_280_3, kx_p_281, kx_p_or, kx_p_296_1, kx_p_296_2, kx_p_296_3, kx_p_297, kx_p_298_5, kx_p_298_6, kx_p_298_7, kx_p_298_8, kx_p_298_9, kx_p_298_11, kx_p_298_13, kx_p_298_18, kx_p_298_20, kx_p_299, kx_p_300, kx_p_301, kx_p_302, kx_p_303, kx_p_304, kx_p_305, kx_p_306, kx_p_307, kx_p_308, kx_p_309, kx_p_310, ↓reduceIte, Bool.true_eq_false, Bool.false_eq_true, reduceCtorEq, Option.bind_some, Option.bind_none, Option.toList_some, Option.toList_none, List.cons_append, List.nil_append, kx_nat_s, not_true_eq_false, not_false_eq_true, Int32.reduceAdd, Int32.reduceSub, Int32.reduceLT, Int32.reduceMul, Int32.reduceDiv, Int32.reduceMod, Nat.reduceLT, Nat.reduceLeDiff, Nat.reduceEqDiff, Nat.reduceAdd, true_and, and_true, kx_le_lt, ite_not, Classical.not_not, kx_ib, ne_eq, gt_iff_lt, ge_iff_le, kx_nw0, kx_nw1, kx_nwb, kx_b0, kx_b1, Nat.lt_irrefl, kx_up_eq, kx_ul_eq, kx_up_ne, kx_ul_ne, kx_arr_n, kx_nat_i, kx_nat_lt, kx_sr_rd, kx_sr_ne, kx_sr_up, kx_sr_upn, kx_u1_eq, kx_u1_ne, kx_tn_0, kx_tn_1, kx_tn_2, kx_tn_3, kx_tn_4, kx_tn_5, kx_tn_6, kx_tn_7, kx_tn_8, kx_tn_9, kx_tn_10, kx_tn_11, kx_tn_12, kx_la_0, kx_la_1, kx_la_2, kx_la_3, kx_la_4, kx_la_5, kx_la_6, kx_la_7, kx_la_8, kx_la_9, kx_la_10, kx_la_11, kx_la_12, kx_j10_0, kx_j10_1, kx_j10_2, kx_j10_3, kx_j10_4, kx_j10_5, kx_j10_6, kx_j10_7, kx_j10_8, kx_j10_9, kx_j4_0, kx_j4_1, kx_j4_2, kx_j4_3, kx_rfr, hnk, hkn, e1, f0, f1, hh, c]
      exact e
  rw [kx_o73]
  simp only [kx_e73_0, kx_e73_1]
  exact H nk 0 (by omega) none sg lm (fun i hi => absurd hi (Nat.not_lt_zero i)) (fun _ _ _ => rfl)
/-- crossed lines after the slips, over the class's numbers -/
theorem kx_c_72p (I : ky_I nt nk nw tn g) (R : ky_RS nk sg g) (hl : ∀ k, k < nk → lm 268 k = ky_cv (ky_slips g nk) k) {a b : Nat} (ha : a < nk) (hb : b < nk) : kx_call 72 [.ref 267, .ref 1, .int (Int32.ofNat a), .int (Int32.ofNat b)] (kx_pm ph sc sg lm) = some (some (.int (kx_b (ky_cross (ky_slips g nk) a b))), kx_pm ph sc sg lm) := by
  have I1 := ky_I_slips I nk (Nat.le_refl _)
  obtain ⟨a12, KA, OA, TA⟩ := ky_I_kite I ha
  obtain ⟨b12, KB, OB, TB⟩ := ky_I_kite I hb
  have da := (R.2.2.2.2 a ha).1.trans TA.1.1
  have db := (R.2.2.2.2 b hb).1.trans TB.1.1
  have es : ∀ a, a < nk → kx_sd (ky_slips g nk) a = ky_n g (11 + 4 * ky_n g (35 + 10 * a)) := fun a ha => by
    obtain ⟨a12, -, OA, -⟩ := ky_I_kite I ha
    have o2 := OA.2
    unfold kx_sd
    have e0 : ky_n (ky_slips g nk) (35 + 10 * a) = ky_n g (35 + 10 * a) := by unfold ky_n; rw [ky_f_slips a12 nk I.2.2.1.2]
    rw [e0]
    unfold ky_n
    rw [ky_slips_out (by unfold ky_n at o2; omega) nk (fun k' hk' w hw => by unfold ky_n at o2; omega)]
  rw [kx_c_72_267 a12 b12 da db TA.1.2 TB.1.2 (by rw [hl a ha]; exact ky_cv_low I1 ha)]
  unfold ky_cross
  rw [es a ha, es b hb, kx_ax_congr 37 0 (fun i _ hi => by rw [hl a ha, hl b hb, ky_cv_bit I1 ha (by omega), ky_cv_bit I1 hb (by omega)])]
theorem kx_c_76p (I : ky_I nt nk nw tn g) (hl : ∀ k, k < nk → lm 268 k = ky_cv (ky_slips g nk) k) {a h : Nat} (ha : a < nk) (hh : h < 37) : kx_call 76 [.ref 267, .int (Int32.ofNat a), .int (Int32.ofNat h)] (kx_pm ph sc sg lm) = some (some (.int (kx_b (kx_cv2 (ky_slips g nk) a (Int32.ofNat h)))), kx_pm ph sc sg lm) := by
  have hb := I.2.2.1.2
  rw [kx_c_76_267 (by omega) hh, hl a ha, ky_cv_bit (ky_I_slips I nk (Nat.le_refl _)) ha hh]
/-- the reference thinks: the row put aside, the slips carried out -/
theorem kx_c_164 (I : ky_I nt nk nw tn g) : kx_call 164 [.ref 298] (kx_pm ph sc (kx_sr sg g) lm) = some (none, kx_pm ph sc (kx_sr (ky_cpy (kx_sr sg g) 299 0 303 0 167) (ky_slips g nk)) lm) := by
  have c1 := kx_c_132 (ph := ph) (sc := sc) (lm := lm) (sg := kx_sr sg g) (A := 299) (B := 303) (p := 0) (q := 0) (nA := 167) (nB := 167) (fun _ => kx_s_299) (fun _ => kx_s_303) (fun _ _ => kx_g_299) (fun _ _ _ => kx_p_303) (by decide) (by decide) (by decide) (by decide) (by decide)
  rw [show Int32.ofNat 0 = 0 from rfl] at c1
  have e : ky_cpy (kx_sr sg g) 299 0 303 0 167 = kx_sr (ky_cpy (kx_sr sg g) 299 0 303 0 167) g := by
    have : ky_cpy (kx_sr sg g) 299 0 303 0 167 299 = g := by rw [ky_cpy_ne (by decide)]; rfl
    conv => rhs; rw [← this]
    exact kx_sr_self.symm
  have c2 := kx_c_153 (ph := ph) (sc := sc) (sg := ky_cpy (kx_sr sg g) 299 0 303 0 167) (lm := lm) I
  rw [← e] at c2
  rw [kx_o164]
  simp (disch := omega) only [kx_e164_0, kx_e164_1, kx_e164_4, kx_e164_5, kx_e164_6, kx_e164_9, kx_e164_10, kx_e164_13, kx_e164_14, kx_e164_17, kx_s_0, kx_s_1, kx_s_2, kx_s_tw, kx_s_9, kx_s_kt, kx_s_22, kx_s_23, kx_s_24, kx_s_73, kx_s_74, kx_s_267, kx_s_268, kx_s_269, kx_s_270, kx_s_271, kx_s_272, kx_s_273, kx_s_274, kx_s_275, kx_s_276, kx_s_277, kx_s_278, kx_s_279, kx_s_280, kx_s_281, kx_s_282, kx_s_or, kx_s_296, kx_s_297, kx_s_298, kx_s_299, kx_s_300, kx_s_301, kx_s_302, kx_s_303, kx_s_304, kx_s_305, kx_s_306, kx_s_307, kx_s_308, kx_s_309, kx_s_310, kx_g_0_0, kx_g_0_1, kx_g_0_2, kx_g_0_3, kx_g_0_4, kx_g_0_5, kx_g_0_6, kx_g_0_7, kx_g_0_8, kx_g_0_9, kx_g_0_10, kx_g_1_0, kx_g_1_1, kx_g_1_2, kx_g_1_3, kx_g_1_4, kx_g_1_5, kx_g_1_6, kx_g_1_7, kx_g_1_8, kx_g_1_9, kx_g_1_10, kx_g_1_11, kx_g_1_12, kx_g_1_13, kx_g_2, kx_g_tw, kx_g_9, kx_g_kt, kx_g_22, kx_g_23, kx_g_24, kx_g_73_0, kx_g_73_1, kx_g_73_2, kx_g_74, kx_g_267_0, kx_g_267_1, kx_g_267_2, kx_g_268, kx_g_269_0, kx_g_269_1, kx_g_269_2, kx_g_270, kx_g_271_0, kx_g_271_1, kx_g_271_2, kx_g_271_3, kx_g_272_0, kx_g_272_1, kx_g_272_2, kx_g_273, kx_g_274_0, kx_g_274_1, kx_g_274_2, kx_g_275, kx_g_276_0, kx_g_276_1, kx_g_276_2, kx_g_277, kx_g_278, kx_g_279_0, kx_g_279_1, kx_g_279_2, kx_g_279_3, kx_g_279_4, kx_g_280_0, kx_g_280_1, kx_g_280_2, kx_g_280_3, kx_g_281, kx_g_282, kx_g_or, kx_g_296_0, kx_g_296_1, kx_g_296_2, kx_g_296_3, kx_g_297, kx_g_298_0, kx_g_298_1, kx_g_298_2, kx_g_298_3, kx_g_298_4, kx_g_298_5, kx_g_298_6, kx_g_298_7, kx_g_298_8, kx_g_298_9, kx_g_298_10, kx_g_298_11, kx_g_298_12, kx_g_298_13, kx_g_298_14, kx_g_298_15, kx_g_298_16, kx_g_298_17, kx_g_298_18, kx_g_298_19, kx_g_298_20, kx_g_299, kx_g_300, kx_g_301, kx_g_302, kx_g_303, kx_g_304, kx_g_305, kx_g_306, kx_g_307, kx_g_308, kx_g_309, kx_g_310, kx_p_0_3, kx_p_0_9, kx_p_0_10, kx_p_1_0, kx_p_1_2, kx_p_1_4, kx_p_1_7, kx_p_1_9, kx_p_1_10, kx_p_1_11, kx_p_1_12, kx_p_1_13, kx_p_tw, kx_p_kt, kx_p_22, kx_p_23, kx_p_24, kx_p_73_1, kx_p_73_2, kx_p_268, kx_p_269_0, kx_p_269_1, kx_p_269_2, kx_p_270, kx_p_273, kx_p_274_0, kx_p_274_1, kx_p_274_2, kx_p_275, kx_p_276_0, kx_p_276_1, kx_p_276_2, kx_p_277, kx_p_278, kx_p_279_2, kx_p_279_3, kx_p_279_4, kx_p_280_1, kx_p_280_2, kx_p_280_3, kx_p_281, kx_p_or, kx_p_296_1, kx_p_296_2, kx_p_296_3, kx_p_297, kx_p_298_5, kx_p_298_6, kx_p_298_7, kx_p_298_8, kx_p_298_9, kx_p_298_11, kx_p_298_13, kx_p_298_18, kx_p_298_20, kx_p_299, kx_p_300, kx_p_301, kx_p_302, kx_p_303, kx_p_304, kx_p_305, kx_p_306, kx_p_307, kx_p_308, kx_p_309, kx_p_310, ↓reduceIte, Bool.true_eq_false, Bool.false_eq_true, reduceCtorEq, Option.bind_some, Option.bind_none, Option.toList_some, Option.toList_none, List.cons_append, List.nil_append, kx_nat_s, not_true_eq_false, not_false_eq_true, Int32.reduceAdd, Int32.reduceSub, Int32.reduceLT, Int32.reduceMul, Int32.reduceDiv, Int32.reduceMod, Nat.reduceLT, Nat.reduceLeDiff, Nat.reduceEqDiff, Nat.reduceAdd, true_and, and_true, kx_le_lt, ite_not, Classical.not_not, kx_ib, ne_eq, gt_iff_lt, ge_iff_le, kx_nw0, kx_nw1, kx_nwb, kx_b0, kx_b1, Nat.lt_irrefl, kx_up_eq, kx_ul_eq, kx_up_ne, kx_ul_ne, kx_arr_n, kx_nat_i, kx_nat_lt, kx_sr_rd, kx_sr_ne, kx_sr_up, kx_sr_upn, kx_u1_eq, kx_u1_ne, kx_tn_0, kx_tn_1, kx_tn_2, kx_tn_3, kx_tn_4, kx_tn_5, kx_tn_6, kx_tn_7, kx_tn_8, kx_tn_9, kx_tn_10, kx_tn_11, kx_tn_12, kx_la_0, kx_la_1, kx_la_2, kx_la_3, kx_la_4, kx_la_5, kx_la_6, kx_la_7, kx_la_8, kx_la_9, kx_la_10, kx_la_11, kx_la_12, kx_j10_0, kx_j10_1, kx_j10_2, kx_j10_3, kx_j10_4, kx_j10_5, kx_j10_6, kx_j10_7, kx_j10_8, kx_j10_9, kx_j4_0, kx_j4_1, kx_j4_2, kx_j4_3, kx_rfr, c1, c2]
/-- and takes it back -/
theorem kx_back {s : kx_G2} {g1 : kx_Rw} (hs : ∀ j, j < 167 → s 303 j = g j) : kx_call 132 [.ref 303, .int 0, .ref 299, .int 0] (kx_pm ph sc (kx_sr s g1) lm) = some (none, kx_pm ph sc (kx_sr s (fun j => if j < 167 then g j else g1 j)) lm) := by
  have c1 := kx_c_132 (ph := ph) (sc := sc) (lm := lm) (sg := kx_sr s g1) (A := 303) (B := 299) (p := 0) (q := 0) (nA := 167) (nB := 167) (fun _ => kx_s_303) (fun _ => kx_s_299) (fun _ _ => kx_g_303) (fun _ _ _ => kx_p_299) (by decide) (by decide) (by decide) (by decide) (by decide)
  rw [show Int32.ofNat 0 = 0 from rfl] at c1
  rw [c1]
  have e : ky_cpy (kx_sr s g1) 303 0 299 0 167 = kx_sr s (fun j => if j < 167 then g j else g1 j) := by
    funext a j
    by_cases ha : a = 299
    · subst ha
      unfold ky_cpy
      show _ = if j < 167 then g j else g1 j
      by_cases hj : j < 167
      · rw [if_pos ⟨rfl, by omega, by omega⟩, if_pos hj, kx_sr_ne (by decide), show 0 + (j - 0) = j by omega, hs j hj]
      · rw [if_neg (fun z => hj (by omega)), if_neg hj]
        rfl
    · rw [ky_cpy_ne ha, kx_sr_ne ha, kx_sr_ne ha]
  rw [e]
end KyCross2
/-- sums -/
def kx_sum (f : Nat → Nat) : Nat → Nat
  | 0 => 0
  | n + 1 => kx_sum f n + f n
theorem kx_sum_add {f h : Nat → Nat} : ∀ n, kx_sum (fun i => f i + h i) n = kx_sum f n + kx_sum h n
  | 0 => rfl
  | n + 1 => by rw [kx_sum, kx_sum, kx_sum, kx_sum_add n]; omega
theorem kx_sum_congr {f h : Nat → Nat} : ∀ n, (∀ i, i < n → f i = h i) → kx_sum f n = kx_sum h n
  | 0, _ => rfl
  | n + 1, e => by rw [kx_sum, kx_sum, kx_sum_congr n (fun i hi => e i (by omega)), e n (by omega)]
theorem kx_sum_cN {p : Nat → Bool} : ∀ n, kx_sum (fun i => if p i = true then 1 else 0) n = kx_cN p n
  | 0 => rfl
  | n + 1 => by rw [kx_sum, kx_cN, kx_sum_cN n]
/-- the pairs above and below the diagonal -/
theorem kx_tri {f : Nat → Nat → Bool} (hs : ∀ a b, f a b = f b a) : ∀ n, kx_sum (fun o => kx_cN (fun i => f o (o + 1 + i)) (n - 1 - o)) n = kx_sum (fun a => kx_cN (f a) a) n
  | 0 => rfl
  | n + 1 => by
    rw [kx_sum, kx_sum, ← kx_tri hs n]
    have e : kx_sum (fun o => kx_cN (fun i => f o (o + 1 + i)) (n + 1 - 1 - o)) n = kx_sum (fun o => kx_cN (fun i => f o (o + 1 + i)) (n - 1 - o) + (if f n o = true then 1 else 0)) n := by
      refine kx_sum_congr n (fun o ho => ?_)
      rw [show n + 1 - 1 - o = (n - 1 - o) + 1 by omega, kx_cN, show o + 1 + (n - 1 - o) = n by omega, hs o n]
    rw [e, kx_sum_add, kx_sum_cN, show n + 1 - 1 - n = 0 by omega]
    rfl
theorem kx_sum_le {f : Nat → Nat} {c : Nat} : ∀ n, (∀ i, i < n → f i ≤ c) → kx_sum f n ≤ n * c
  | 0, _ => Nat.zero_le _
  | n + 1, h => by
    have := kx_sum_le n (fun i hi => h i (by omega))
    have := h n (by omega)
    rw [kx_sum, Nat.add_mul]
    omega
