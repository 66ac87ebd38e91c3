/-! what holds between two calls, whole -/
def ky_scr (a j : Nat) : Prop := (25 ≤ a ∧ a < 49) ∨ (267 ≤ a ∧ a < 280) ∨ (283 ≤ a ∧ a < 296) ∨ (302 ≤ a ∧ a < 304) ∨ (306 ≤ a ∧ a < 311) ∨ (a = 298 ∧ (j = 18 ∨ j = 20))
def ky_HI (N c nx : Nat) (sg : kx_G2) : Prop := (sg 73 1 = Int32.ofNat nx ∧ nx < 8) ∧ (sg 73 2 = Int32.ofNat c ∧ c ≤ 8) ∧ sg 298 6 = Int32.ofNat c ∧ ∀ i, i < c → ky_G N (fun j => sg 300 (167 * i + j)) ∧ ky_R (74 + 24 * ((nx + 8 - c + i) % 8)) sg (fun j => sg 300 (167 * i + j))
def ky_cap (ph : Nat) : Nat := if ph = 0 then 16 else if ph = 1 then 34 else 70
def ky_TX (ph tl : Nat) (sg : kx_G2) : Prop := (sg 280 1 = 0 ∧ sg 280 3 = Int32.ofNat tl ∧ sg 298 11 = Int32.ofNat tl) ∧ (tl ≤ 60 ∧ tl ≤ ky_cap ph ∧ ph ≤ 2) ∧ ∀ i, i < tl → sg (kx_tb0 ph) i = sg 304 i ∧ ∃ c, 32 ≤ c ∧ c ≤ 126 ∧ sg 304 i = Int32.ofNat c
def ky_LN (ll : Nat) (sg : kx_G2) : Prop := (sg 296 1 = 0 ∧ sg 296 3 = Int32.ofNat ll ∧ sg 298 13 = Int32.ofNat ll) ∧ ll ≤ 16 ∧ ∀ i, i < ll → sg 297 i = sg 305 i ∧ ∃ c, c ≤ 127 ∧ sg 305 i = Int32.ofNat c
def ky_RE (sg : kx_G2) : Prop := (sg 298 8 = 0 ∧ sg 0 9 = -15 ∧ sg 0 10 = -15) ∨ (¬ sg 298 8 = 0 ∧ sg 0 9 = sg 298 8 ∧ sg 0 10 = sg 298 9)
def ky_SV (N : Nat) (sg : kx_G2) : Prop := sg 0 3 = sg 298 5 ∧ (sg 0 3 = 0 ∨ sg 0 3 = 1 ∧ ky_G N (sg 301) ∧ ky_R 48 sg (sg 301))
def ky_INV (N ph : Nat) (sg : kx_G2) : Prop := (ky_G N (sg 299) ∧ ky_R 0 sg (sg 299)) ∧ ky_SV N sg ∧ (∃ c nx, ky_HI N c nx sg) ∧ ky_RE sg ∧ (∃ tl, ky_TX ph tl sg) ∧ (∃ ll, ky_LN ll sg) ∧ sg 298 7 = 0
section KyInv
variable {N N' ph c nx : Nat} {sg sg' : kx_G2}
theorem ky_HI.le (h : N ≤ N') (H : ky_HI N c nx sg) : ky_HI N' c nx sg := ⟨H.1, H.2.1, H.2.2.1, fun i hi => ⟨(H.2.2.2 i hi).1.le h, (H.2.2.2 i hi).2⟩⟩
theorem ky_SV.le (h : N ≤ N') (H : ky_SV N sg) : ky_SV N' sg := ⟨H.1, H.2.imp id (fun z => ⟨z.1, z.2.1.le h, z.2.2⟩)⟩
theorem ky_INV.le (h : N ≤ N') (V : ky_INV N ph sg) : ky_INV N' ph sg := by
  obtain ⟨⟨v1, v2⟩, v3, ⟨c, nx, v4⟩, v5, v6, v7, v8⟩ := V
  exact ⟨⟨v1.le h, v2⟩, v3.le h, ⟨c, nx, v4.le h⟩, v5, v6, v7, v8⟩
theorem ky_HI_fr (hs : ∀ a, 75 ≤ a → a < 267 → ∀ j, sg' a j = sg a j) (h1 : sg' 73 1 = sg 73 1) (h2 : sg' 73 2 = sg 73 2) (h3 : sg' 298 6 = sg 298 6) (h4 : ∀ j, sg' 300 j = sg 300 j) (H : ky_HI N c nx sg) : ky_HI N c nx sg' := by
  refine ⟨⟨h1.trans H.1.1, H.1.2⟩, ⟨h2.trans H.2.1.1, H.2.1.2⟩, h3.trans H.2.2.1, fun i hi => ?_⟩
  obtain ⟨G, R⟩ := H.2.2.2 i hi
  have e : (fun j => sg' 300 (167 * i + j)) = fun j => sg 300 (167 * i + j) := by funext j; exact h4 _
  rw [e]
  have := Nat.mod_lt (nx + 8 - c + i) (show 0 < 8 by omega)
  exact ⟨G, ky_R_fr G (fun a h1 h2 j => hs _ (by omega) (by omega) j) R⟩
theorem ky_SV_fr (hs : ∀ a, 49 ≤ a → a < 73 → ∀ j, sg' a j = sg a j) (h1 : sg' 0 3 = sg 0 3) (h2 : sg' 298 5 = sg 298 5) (h4 : ∀ j, sg' 301 j = sg 301 j) (H : ky_SV N sg) : ky_SV N sg' := by
  have e : sg' 301 = sg 301 := by funext j; exact h4 _
  refine ⟨h1.trans (H.1.trans h2.symm), ?_⟩
  rw [e, h1]
  exact H.2.imp id (fun z => ⟨z.1, z.2.1, ky_R_fr z.2.1 (fun a h1 h2 j => hs _ (by omega) (by omega) j) z.2.2⟩)
theorem ky_tb_c (ph : Nat) : kx_tb0 ph = 281 ∨ kx_tb0 ph = 311 ∨ kx_tb0 ph = 312 := by
  unfold kx_tb0
  split
  · exact Or.inl rfl
  · split
    · exact Or.inr (Or.inl rfl)
    · exact Or.inr (Or.inr rfl)
theorem ky_TX_fr {tl : Nat} (h1 : sg' 280 1 = sg 280 1) (h2 : sg' 280 3 = sg 280 3) (h3 : sg' 298 11 = sg 298 11) (h4 : ∀ j, sg' (kx_tb0 ph) j = sg (kx_tb0 ph) j) (h5 : ∀ j, sg' 304 j = sg 304 j) (H : ky_TX ph tl sg) : ky_TX ph tl sg' := by
  refine ⟨⟨h1.trans H.1.1, h2.trans H.1.2.1, h3.trans H.1.2.2⟩, H.2.1, fun i hi => ?_⟩
  rw [h4, h5]
  exact H.2.2 i hi
theorem ky_LN_fr {ll : Nat} (h1 : sg' 296 1 = sg 296 1) (h2 : sg' 296 3 = sg 296 3) (h3 : sg' 298 13 = sg 298 13) (h4 : ∀ j, sg' 297 j = sg 297 j) (h5 : ∀ j, sg' 305 j = sg 305 j) (H : ky_LN ll sg) : ky_LN ll sg' := by
  refine ⟨⟨h1.trans H.1.1, h2.trans H.1.2.1, h3.trans H.1.2.2⟩, H.2.1, fun i hi => ?_⟩
  rw [h4, h5]
  exact H.2.2 i hi
theorem ky_RE_fr (h1 : sg' 298 8 = sg 298 8) (h2 : sg' 298 9 = sg 298 9) (h3 : sg' 0 9 = sg 0 9) (h4 : sg' 0 10 = sg 0 10) (H : ky_RE sg) : ky_RE sg' := by
  unfold ky_RE at H ⊢
  rw [h1, h2, h3, h4]
  exact H
theorem ky_INV_fr (h : ∀ a j, ¬ ky_scr a j → sg' a j = sg a j) (V : ky_INV N ph sg) : ky_INV N ph sg' := by
  obtain ⟨⟨v1, v2⟩, v3, ⟨c, nx, v4⟩, v5, ⟨tl, v6⟩, ⟨ll, v7⟩, v8⟩ := V
  have e9 : sg' 299 = sg 299 := by funext j; exact h _ _ (fun z => by unfold ky_scr at z; omega)
  have htb := ky_tb_c ph
  refine ⟨⟨?_, ?_⟩, ky_SV_fr ?_ ?_ ?_ ?_ v3, ⟨c, nx, ky_HI_fr ?_ ?_ ?_ ?_ ?_ v4⟩, ky_RE_fr ?_ ?_ ?_ ?_ v5, ⟨tl, ky_TX_fr ?_ ?_ ?_ ?_ ?_ v6⟩, ⟨ll, ky_LN_fr ?_ ?_ ?_ ?_ ?_ v7⟩, ?_⟩
  · rw [e9]; exact v1
  · rw [e9]; exact ky_R_fr v1 (fun a h1 h2 j => h _ _ (fun z => by unfold ky_scr at z; omega)) v2
  · exact fun a h1 h2 j => h _ _ (fun z => by unfold ky_scr at z; omega)
  · exact h _ _ (fun z => by unfold ky_scr at z; omega)
  · exact h _ _ (fun z => by unfold ky_scr at z; omega)
  · exact fun j => h _ _ (fun z => by unfold ky_scr at z; omega)
  · exact fun a h1 h2 j => h _ _ (fun z => by unfold ky_scr at z; omega)
  · exact h _ _ (fun z => by unfold ky_scr at z; omega)
  · exact h _ _ (fun z => by unfold ky_scr at z; omega)
  · exact h _ _ (fun z => by unfold ky_scr at z; omega)
  · exact fun j => h _ _ (fun z => by unfold ky_scr at z; omega)
  · exact h _ _ (fun z => by unfold ky_scr at z; omega)
  · exact h _ _ (fun z => by unfold ky_scr at z; omega)
  · exact h _ _ (fun z => by unfold ky_scr at z; omega)
  · exact h _ _ (fun z => by unfold ky_scr at z; omega)
  · exact h _ _ (fun z => by unfold ky_scr at z; omega)
  · exact h _ _ (fun z => by unfold ky_scr at z; omega)
  · exact h _ _ (fun z => by unfold ky_scr at z; omega)
  · exact fun j => h _ _ (fun z => by unfold ky_scr at z; omega)
  · exact fun j => h _ _ (fun z => by unfold ky_scr at z; omega)
  · exact h _ _ (fun z => by unfold ky_scr at z; omega)
  · exact h _ _ (fun z => by unfold ky_scr at z; omega)
  · exact h _ _ (fun z => by unfold ky_scr at z; omega)
  · exact fun j => h _ _ (fun z => by unfold ky_scr at z; omega)
  · exact fun j => h _ _ (fun z => by unfold ky_scr at z; omega)
  · exact (h _ _ (fun z => by unfold ky_scr at z; omega)).trans v8
end KyInv
/-- one call of both: the same answer, and all holds as before -/
def ky_Q2 (P : Value → Prop) (N N' ci mi : Nat) (as : List Value) : Prop := ∀ (ph : Nat) (sc : Nat × (Nat → Int32)) (sg : kx_G2) (lm : Nat → Nat → Int64), ky_INV N ph sg → ∃ v ph' sg' lm' sg'' lm'', kx_call ci (.ref 0 :: as) (kx_pm ph sc sg lm) = some (some v, kx_pm ph' sc sg' lm') ∧ kx_call mi (.ref 298 :: as) (kx_pm ph' sc sg' lm') = some (some v, kx_pm ph' sc sg'' lm'') ∧ ky_INV N' ph' sg'' ∧ P v
def ky_int (v : Value) : Prop := ∃ x, v = .int x
section KxHist
variable {ph : Nat} {sc : Nat × (Nat → Int32)} {sg : kx_G2} {lm : Nat → Nat → Int64} {c nx : Nat}
theorem ky_blk_h {i : Nat} (h : i < 8) : ky_blk (75 + 24 * i) := ⟨i + 3, by omega, by unfold ky_bs; rw [if_neg (by omega)]; omega⟩
theorem ky_blk_1 : ky_blk 1 := ⟨0, by omega, rfl⟩
theorem ky_blk_25 : ky_blk 25 := ⟨1, by omega, rfl⟩
theorem ky_blk_49 : ky_blk 49 := ⟨2, by omega, rfl⟩
theorem kx_c_61 (h1 : sg 73 1 = Int32.ofNat nx) (hx : nx < 8) (h2 : sg 73 2 = Int32.ofNat c) (hc : c ≤ 8) : ∃ s', kx_call 61 [.ref 73, .ref 25] (kx_pm ph sc sg lm) = some (none, kx_pm ph sc s' lm) ∧ s' 73 1 = Int32.ofNat ((nx + 1) % 8) ∧ s' 73 2 = Int32.ofNat (min 8 (c + 1)) ∧ (∃ s1, ky_CP sg s1 (74 + 24 * nx + 1) (24 + 1) ∧ ∀ a, a ≠ 73 → ∀ j, s' a j = s1 a j) ∧ ∀ a j, (a < 75 + 24 * nx ∨ 75 + 24 * nx + 24 ≤ a) → (a = 73 → j ≠ 1 ∧ j ≠ 2) → s' a j = sg a j := by
  obtain ⟨s1, e1, C⟩ := kx_c_88 (ph := ph) (sc := sc) (sg := sg) (lm := lm) (b := 75 + 24 * nx) (c := 25) (ky_blk_h hx) ky_blk_25 (by omega)
  have F := C.2.2.2.2.2
  have f1 : s1 73 1 = Int32.ofNat nx := (F 73 (by omega) 1).trans h1
  have f2 : s1 73 2 = Int32.ofNat c := (F 73 (by omega) 2).trans h2
  refine ⟨kx_up (kx_up s1 73 1 (Int32.ofNat ((nx + 1) % 8))) 73 2 (Int32.ofNat (min 8 (c + 1))), ?_, ?_, kx_up_eq, ⟨s1, ?_, fun a ha j => ?_⟩, fun a j h3 h4 => ?_⟩
  · rw [kx_o61]
    have hsh := fun s => ky_s_b (ph := ph) (sc := sc) (sg := s) (lm := lm) (ky_blk_h hx)
    have hm : (if c + 1 < 8 then Int32.ofNat (c + 1) else 8) = Int32.ofNat (min 8 (c + 1)) := by
      by_cases h8 : c + 1 < 8
      · rw [if_pos h8, show min 8 (c + 1) = c + 1 by omega]
      · rw [if_neg h8, show min 8 (c + 1) = 8 by omega]
        rfl
    by_cases h7 : nx = 7
    · subst h7
      simp (disch := omega) only [kx_e61_0, kx_e61_1, kx_e61_4, kx_e61_5, kx_e61_8, kx_e61_9, kx_e61_10, kx_e61_13, kx_e61_14, kx_e61_15, kx_e61_18, kx_e61_20, kx_e61_23, kx_e61_24, kx_e61_27, kx_e61_28, kx_e61_31, kx_e61_32, kx_e61_33, kx_e61_36, kx_e61_37, kx_e61_39, kx_e61_40, kx_e61_43, kx_e61_44, kx_e61_45, kx_e61_48, kx_e61_51, kx_s_0, kx_s_1, kx_s_2, kx_s_tw, kx_s_9, kx_s_kt, kx_s_22, kx_s_23, kx_s_24, kx_s_73, kx_s_74, kx_s_267, kx_s_268, kx_s_269, kx_s_270, kx_s_271, kx_s_272, kx_s_273, kx_s_274, kx_s_275, kx_s_276, kx_s_277, kx_s_278, kx_s_279, kx_s_280, kx_s_281, kx_s_282, kx_s_or, kx_s_296, kx_s_297, kx_s_298, kx_s_299, kx_s_300, kx_s_301, kx_s_302, kx_s_303, kx_s_304, kx_s_305, kx_s_306, kx_s_307, kx_s_308, kx_s_309, kx_s_310, kx_g_0_0, kx_g_0_1, kx_g_0_2, kx_g_0_3, kx_g_0_4, kx_g_0_5, kx_g_0_6, kx_g_0_7, kx_g_0_8, kx_g_0_9, kx_g_0_10, kx_g_1_0, kx_g_1_1, kx_g_1_2, kx_g_1_3, kx_g_1_4, kx_g_1_5, kx_g_1_6, kx_g_1_7, kx_g_1_8, kx_g_1_9, kx_g_1_10, kx_g_1_11, kx_g_1_12, kx_g_1_13, kx_g_2, kx_g_tw, kx_g_9, kx_g_kt, kx_g_22, kx_g_23, kx_g_24, kx_g_73_0, kx_g_73_1, kx_g_73_2, kx_g_74, kx_g_267_0, kx_g_267_1, kx_g_267_2, kx_g_268, kx_g_269_0, kx_g_269_1, kx_g_269_2, kx_g_270, kx_g_271_0, kx_g_271_1, kx_g_271_2, kx_g_271_3, kx_g_272_0, kx_g_272_1, kx_g_272_2, kx_g_273, kx_g_274_0, kx_g_274_1, kx_g_274_2, kx_g_275, kx_g_276_0, kx_g_276_1, kx_g_276_2, kx_g_277, kx_g_278, kx_g_279_0, kx_g_279_1, kx_g_279_2, kx_g_279_3, kx_g_279_4, kx_g_280_0, kx_g_280_1, kx_g_280_2, kx_g_280_3, kx_g_281, kx_g_282, kx_g_or, kx_g_296_0, kx_g_296_1, kx_g_296_2, kx_g_296_3, kx_g_297, kx_g_298_0, kx_g_298_1, kx_g_298_2, kx_g_298_3, kx_g_298_4, kx_g_298_5, kx_g_298_6, kx_g_298_7, kx_g_298_8, kx_g_298_9, kx_g_298_10, kx_g_298_11, kx_g_298_12, kx_g_298_13, kx_g_298_14, kx_g_298_15, kx_g_298_16, kx_g_298_17, kx_g_298_18, kx_g_298_19, kx_g_298_20, kx_g_299, kx_g_300, kx_g_301, kx_g_302, kx_g_303, kx_g_304, kx_g_305, kx_g_306, kx_g_307, kx_g_308, kx_g_309, kx_g_310, kx_p_0_3, kx_p_0_9, kx_p_0_10, kx_p_1_0, kx_p_1_2, kx_p_1_4, kx_p_1_7, kx_p_1_9, kx_p_1_10, kx_p_1_11, kx_p_1_12, kx_p_1_13, kx_p_tw, kx_p_kt, kx_p_22, kx_p_23, kx_p_24, kx_p_73_1, kx_p_73_2, kx_p_268, kx_p_269_0, kx_p_269_1, kx_p_269_2, kx_p_270, kx_p_273, kx_p_274_0, kx_p_274_1, kx_p_274_2, kx_p_275, kx_p_276_0, kx_p_276_1, kx_p_276_2, kx_p_277, kx_p_278, kx_p_279_2, kx_p_279_3, kx_p_279_4, kx_p_280_1, kx_p_280_2, kx_p_280_3, kx_p_281, kx_p_or, kx_p_296_1, kx_p_296_2, kx_p_296_3, kx_p_297, kx_p_298_5, kx_p_298_6, kx_p_298_7, kx_p_298_8, kx_p_298_9, kx_p_298_11, kx_p_298_13, kx_p_298_18, kx_p_298_20, kx_p_299, kx_p_300, kx_p_301, kx_p_302, kx_p_303, kx_p_304, kx_p_305, kx_p_306, kx_p_307, kx_p_308, kx_p_309, kx_p_310, ↓reduceIte, Bool.true_eq_false, Bool.false_eq_true, reduceCtorEq, Option.bind_some, Option.bind_none, Option.toList_some, Option.toList_none, List.cons_append, List.nil_append, kx_nat_s, not_true_eq_false, not_false_eq_true, Int32.reduceAdd, Int32.reduceSub, Int32.reduceLT, Int32.reduceMul, Int32.reduceDiv, Int32.reduceMod, Nat.reduceLT, Nat.reduceLeDiff, Nat.reduceEqDiff, Nat.reduceAdd, true_and, and_true, kx_le_lt, ite_not, Classical.not_not, kx_ib, ne_eq, gt_iff_lt, ge_iff_le, kx_nw0, kx_nw1, kx_nwb, kx_b0, kx_b1, Nat.lt_irrefl, kx_up_eq, kx_ul_eq, kx_up_ne, kx_ul_ne, kx_arr_n, kx_nat_i, kx_nat_lt, kx_sr_rd, kx_sr_ne, kx_sr_up, kx_sr_upn, kx_u1_eq, kx_u1_ne, kx_tn_0, kx_tn_1, kx_tn_2, kx_tn_3, kx_tn_4, kx_tn_5, kx_tn_6, kx_tn_7, kx_tn_8, kx_tn_9, kx_tn_10, kx_tn_11, kx_tn_12, kx_la_0, kx_la_1, kx_la_2, kx_la_3, kx_la_4, kx_la_5, kx_la_6, kx_la_7, kx_la_8, kx_la_9, kx_la_10, kx_la_11, kx_la_12, kx_j10_0, kx_j10_1, kx_j10_2, kx_j10_3, kx_j10_4, kx_j10_5, kx_j10_6, kx_j10_7, kx_j10_8, kx_j10_9, kx_j4_0, kx_j4_1, kx_j4_2, kx_j4_3, kx_rfr, ky_i4z, ky_i10z, ky_pl_0, ky_pl_2, ky_pl_3, ky_pl_4, ky_pl_5, ky_pl_6, ky_pl_7, ky_pl_8, ky_pl_9, eq_self, Nat.not_lt_zero, ky_q_0_1, ky_q_0_2, ky_q_0_3, ky_q_0_4, ky_q_0_5, ky_q_0_6, ky_q_0_7, ky_q_0_8, ky_q_1_0, ky_q_1_2, ky_q_1_3, ky_q_1_4, ky_q_1_5, ky_q_1_6, ky_q_1_7, ky_q_1_8, ky_q_2_0, ky_q_2_1, ky_q_2_3, ky_q_2_4, ky_q_2_5, ky_q_2_6, ky_q_2_7, ky_q_2_8, ky_q_3_0, ky_q_3_1, ky_q_3_2, ky_q_3_4, ky_q_3_5, ky_q_3_6, ky_q_3_7, ky_q_3_8, ky_q_4_0, ky_q_4_1, ky_q_4_2, ky_q_4_3, ky_q_4_5, ky_q_4_6, ky_q_4_7, ky_q_4_8, ky_q_5_0, ky_q_5_1, ky_q_5_2, ky_q_5_3, ky_q_5_4, ky_q_5_6, ky_q_5_7, ky_q_5_8, ky_q_6_0, ky_q_6_1, ky_q_6_2, ky_q_6_3, ky_q_6_4, ky_q_6_5, ky_q_6_7, ky_q_6_8, ky_q_7_0, ky_q_7_1, ky_q_7_2, ky_q_7_3, ky_q_7_4, ky_q_7_5, ky_q_7_6, ky_q_7_8, ky_q_8_0, ky_q_8_1, ky_q_8_2, ky_q_8_3, ky_q_8_4, ky_q_8_5, ky_q_8_6, ky_q_8_7, ky_tl_0, ky_tl_1, ky_tl_2, ky_tl_3, ky_tl_4, ky_tl_5, ky_tl_6, ky_tl_7, ky_tl_8, ky_tl_9, ky_tl_10, ky_tl_11, ky_tl_12, ky_tl_13, ky_tl_32, ky_tl_36, ky_tl_37, ky_tl_40, ky_tl_48, ky_tl_57, ky_tl_60, ky_tl_126, ky_tl_160, ky_tg_0, ky_tg_1, ky_tg_2, ky_tg_3, ky_tg_4, ky_tg_5, ky_tg_6, ky_tg_7, ky_tg_8, ky_tg_9, ky_tg_10, ky_tg_11, ky_tg_12, ky_tg_13, ky_tg_32, ky_tg_36, ky_tg_37, ky_tg_40, ky_tg_48, ky_tg_57, ky_tg_60, ky_tg_126, ky_tg_160, ky_te_0, ky_te_1, ky_te_2, ky_te_3, ky_te_4, ky_te_5, ky_te_6, ky_te_7, ky_te_8, ky_te_9, ky_te_10, ky_te_11, ky_te_12, ky_te_13, ky_te_32, ky_te_36, ky_te_37, ky_te_40, ky_te_48, ky_te_57, ky_te_60, ky_te_126, ky_te_160, h1, e1, f1, f2, hsh, hm]
      rfl
    · simp (disch := omega) only [kx_e61_0, kx_e61_1, kx_e61_4, kx_e61_5, kx_e61_8, kx_e61_9, kx_e61_10, kx_e61_13, kx_e61_14, kx_e61_15, kx_e61_18, kx_e61_20, kx_e61_23, kx_e61_24, kx_e61_27, kx_e61_28, kx_e61_31, kx_e61_32, kx_e61_33, kx_e61_36, kx_e61_37, kx_e61_39, kx_e61_40, kx_e61_43, kx_e61_44, kx_e61_45, kx_e61_48, kx_e61_51, kx_s_0, kx_s_1, kx_s_2, kx_s_tw, kx_s_9, kx_s_kt, kx_s_22, kx_s_23, kx_s_24, kx_s_73, kx_s_74, kx_s_267, kx_s_268, kx_s_269, kx_s_270, kx_s_271, kx_s_272, kx_s_273, kx_s_274, kx_s_275, kx_s_276, kx_s_277, kx_s_278, kx_s_279, kx_s_280, kx_s_281, kx_s_282, kx_s_or, kx_s_296, kx_s_297, kx_s_298, kx_s_299, kx_s_300, kx_s_301, kx_s_302, kx_s_303, kx_s_304, kx_s_305, kx_s_306, kx_s_307, kx_s_308, kx_s_309, kx_s_310, kx_g_0_0, kx_g_0_1, kx_g_0_2, kx_g_0_3, kx_g_0_4, kx_g_0_5, kx_g_0_6, kx_g_0_7, kx_g_0_8, kx_g_0_9, kx_g_0_10, kx_g_1_0, kx_g_1_1, kx_g_1_2, kx_g_1_3, kx_g_1_4, kx_g_1_5, kx_g_1_6, kx_g_1_7, kx_g_1_8, kx_g_1_9, kx_g_1_10, kx_g_1_11, kx_g_1_12, kx_g_1_13, kx_g_2, kx_g_tw, kx_g_9, kx_g_kt, kx_g_22, kx_g_23, kx_g_24, kx_g_73_0, kx_g_73_1, kx_g_73_2, kx_g_74, kx_g_267_0, kx_g_267_1, kx_g_267_2, kx_g_268, kx_g_269_0, kx_g_269_1, kx_g_269_2, kx_g_270, kx_g_271_0, kx_g_271_1, kx_g_271_2, kx_g_271_3, kx_g_272_0, kx_g_272_1, kx_g_272_2, kx_g_273, kx_g_274_0, kx_g_274_1, kx_g_274_2, kx_g_275, kx_g_276_0, kx_g_276_1, kx_g_276_2, kx_g_277, kx_g_278, kx_g_279_0, kx_g_279_1, kx_g_279_2, kx_g_279_3, kx_g_279_4, kx_g_280_0, kx_g_280_1, kx_g_280_2, kx_g_280_3, kx_g_281, kx_g_282, kx_g_or, kx_g_296_0, kx_g_296_1, kx_g_296_2, kx_g_296_3, kx_g_297, kx_g_298_0, kx_g_298_1, kx_g_298_2, kx_g_298_3, kx_g_298_4, kx_g_298_5, kx_g_298_6, kx_g_298_7, kx_g_298_8, kx_g_298_9, kx_g_298_10, kx_g_298_11, kx_g_298_12, kx_g_298_13, kx_g_298_14, kx_g_298_15, kx_g_298_16, kx_g_298_17, kx_g_298_18, kx_g_298_19, kx_g_298_20, kx_g_299, kx_g_300, kx_g_301, kx_g_302, kx_g_303, kx_g_304, kx_g_305, kx_g_306, kx_g_307, kx_g_308, kx_g_309, kx_g_310, kx_p_0_3, kx_p_0_9, kx_p_0_10, kx_p_1_0, kx_p_1_2, kx_p_1_4, kx_p_1_7, kx_p_1_9, kx_p_1_10, kx_p_1_11, kx_p_1_12, kx_p_1_13, kx_p_tw, kx_p_kt, kx_p_22, kx_p_23, kx_p_24, kx_p_73_1, kx_p_73_2, kx_p_268, kx_p_269_0, kx_p_269_1, kx_p_269_2, kx_p_270, kx_p_273, kx_p_274_0, kx_p_274_1, kx_p_274_2, kx_p_275, kx_p_276_0, kx_p_276_1, kx_p_276_2, kx_p_277, kx_p_278, kx_p_279_2, kx_p_279_3, kx_p_279_4, kx_p_280_1, kx_p_280_2, kx_p_280_3, kx_p_281, kx_p_or, kx_p_296_1, kx_p_296_2, kx_p_296_3, kx_p_297, kx_p_298_5, kx_p_298_6, kx_p_298_7, kx_p_298_8, kx_p_298_9, kx_p_298_11, kx_p_298_13, kx_p_298_18, kx_p_298_20, kx_p_299, kx_p_300, kx_p_301, kx_p_302, kx_p_303, kx_p_304, kx_p_305, kx_p_306, kx_p_307, kx_p_308, kx_p_309, kx_p_310, ↓reduceIte, Bool.true_eq_false, Bool.false_eq_true, reduceCtorEq, Option.bind_some, Option.bind_none, Option.toList_some, Option.toList_none, List.cons_append, List.nil_append, kx_nat_s, not_true_eq_false, not_false_eq_true, Int32.reduceAdd, Int32.reduceSub, Int32.reduceLT, Int32.reduceMul, Int32.reduceDiv, Int32.reduceMod, Nat.reduceLT, Nat.reduceLeDiff, Nat.reduceEqDiff, Nat.reduceAdd, true_and, and_true, kx_le_lt, ite_not, Classical.not_not, kx_ib, ne_eq, gt_iff_lt, ge_iff_le, kx_nw0, kx_nw1, kx_nwb, kx_b0, kx_b1, Nat.lt_irrefl, kx_up_eq, kx_ul_eq, kx_up_ne, kx_ul_ne, kx_arr_n, kx_nat_i, kx_nat_lt, kx_sr_rd, kx_sr_ne, kx_sr_up, kx_sr_upn, kx_u1_eq, kx_u1_ne, kx_tn_0, kx_tn_1, kx_tn_2, kx_tn_3, kx_tn_4, kx_tn_5, kx_tn_6, kx_tn_7, kx_tn_8, kx_tn_9, kx_tn_10, kx_tn_11, kx_tn_12, kx_la_0, kx_la_1, kx_la_2, kx_la_3, kx_la_4, kx_la_5, kx_la_6, kx_la_7, kx_la_8, kx_la_9, kx_la_10, kx_la_11, kx_la_12, kx_j10_0, kx_j10_1, kx_j10_2, kx_j10_3, kx_j10_4, kx_j10_5, kx_j10_6, kx_j10_7, kx_j10_8, kx_j10_9, kx_j4_0, kx_j4_1, kx_j4_2, kx_j4_3, kx_rfr, ky_i4z, ky_i10z, ky_pl_0, ky_pl_2, ky_pl_3, ky_pl_4, ky_pl_5, ky_pl_6, ky_pl_7, ky_pl_8, ky_pl_9, eq_self, Nat.not_lt_zero, ky_q_0_1, ky_q_0_2, ky_q_0_3, ky_q_0_4, ky_q_0_5, ky_q_0_6, ky_q_0_7, ky_q_0_8, ky_q_1_0, ky_q_1_2, ky_q_1_3, ky_q_1_4, ky_q_1_5, ky_q_1_6, ky_q_1_7, ky_q_1_8, ky_q_2_0, ky_q_2_1, ky_q_2_3, ky_q_2_4, ky_q_2_5, ky_q_2_6, ky_q_2_7, ky_q_2_8, ky_q_3_0, ky_q_3_1, ky_q_3_2, ky_q_3_4, ky_q_3_5, ky_q_3_6, ky_q_3_7, ky_q_3_8, ky_q_4_0, ky_q_4_1, ky_q_4_2, ky_q_4_3, ky_q_4_5, ky_q_4_6, ky_q_4_7, ky_q_4_8, ky_q_5_0, ky_q_5_1, ky_q_5_2, ky_q_5_3, ky_q_5_4, ky_q_5_6, ky_q_5_7, ky_q_5_8, ky_q_6_0, ky_q_6_1, ky_q_6_2, ky_q_6_3, ky_q_6_4, ky_q_6_5, ky_q_6_7, ky_q_6_8, ky_q_7_0, ky_q_7_1, ky_q_7_2, ky_q_7_3, ky_q_7_4, ky_q_7_5, ky_q_7_6, ky_q_7_8, ky_q_8_0, ky_q_8_1, ky_q_8_2, ky_q_8_3, ky_q_8_4, ky_q_8_5, ky_q_8_6, ky_q_8_7, ky_tl_0, ky_tl_1, ky_tl_2, ky_tl_3, ky_tl_4, ky_tl_5, ky_tl_6, ky_tl_7, ky_tl_8, ky_tl_9, ky_tl_10, ky_tl_11, ky_tl_12, ky_tl_13, ky_tl_32, ky_tl_36, ky_tl_37, ky_tl_40, ky_tl_48, ky_tl_57, ky_tl_60, ky_tl_126, ky_tl_160, ky_tg_0, ky_tg_1, ky_tg_2, ky_tg_3, ky_tg_4, ky_tg_5, ky_tg_6, ky_tg_7, ky_tg_8, ky_tg_9, ky_tg_10, ky_tg_11, ky_tg_12, ky_tg_13, ky_tg_32, ky_tg_36, ky_tg_37, ky_tg_40, ky_tg_48, ky_tg_57, ky_tg_60, ky_tg_126, ky_tg_160, ky_te_0, ky_te_1, ky_te_2, ky_te_3, ky_te_4, ky_te_5, ky_te_6, ky_te_7, ky_te_8, ky_te_9, ky_te_10, ky_te_11, ky_te_12, ky_te_13, ky_te_32, ky_te_36, ky_te_37, ky_te_40, ky_te_48, ky_te_57, ky_te_60, ky_te_126, ky_te_160, h1, e1, f1, f2, h7, hsh, hm]
      rw [show (nx + 1) % 8 = nx + 1 by omega]
  · rw [kx_up_ne (by omega), kx_up_eq]
  · rw [show 74 + 24 * nx + 1 = 75 + 24 * nx by omega]
    exact C
  · rw [kx_up_ne (by omega), kx_up_ne (by omega)]
  · rw [kx_up_ne (by omega), kx_up_ne (by omega)]
    exact F a h3 j
end KxHist
