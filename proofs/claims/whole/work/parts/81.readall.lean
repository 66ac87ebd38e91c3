/-! reading orders: all of them, the class -/
section KyRa
variable {T : Nat → Nat} {n : Nat} {p : ky_ps}
theorem ky_ex_f {c : Nat} (h : p.2 = false) : ky_ex T n c p = p := by
  unfold ky_ex
  rw [if_neg (by rw [h]; exact fun z => Bool.false_ne_true z.1), ← h]
theorem ky_exw_f : ∀ {W : List Nat} {p : ky_ps}, p.2 = false → ky_exw T n W p = p
  | [], p, _ => rfl
  | c :: W, p, h => by
    show ky_exw T n W (ky_ex T n c p) = p
    rw [ky_ex_f h]
    exact ky_exw_f h
theorem ky_dg1_f (h : p.2 = false) : ky_dg1 T n p = p := by
  unfold ky_dg1 ky_dok
  rw [h, Bool.false_and, Bool.false_and, Bool.false_and, if_neg Bool.false_ne_true, ← h]
theorem ky_mv_f (h : p.2 = false) : (ky_mv T n p).1 = p := by
  unfold ky_mv
  rw [ky_ex_f h, ky_exw_f h, ky_exw_f h, ky_exw_f h, ky_exw_f h, ky_exw_f h, ky_exw_f h, ky_dg1_f h]
  (repeat' split) <;> first | rfl | (show (p.1, false) = p; rw [← h])
theorem ky_po_f (h : p.2 = false) : (ky_po T n p).1 = p := by
  unfold ky_po
  rw [ky_exw_f h, ky_exw_f h, ky_dg1_f h, ky_ex_f h, ky_ex_f h, ky_dg1_f h, ky_mv_f h]
  (repeat' split) <;> rfl
theorem ky_ex_ok {c : Nat} (h : (ky_ex T n c p).2 = true) : p.2 = true ∧ (ky_ex T n c p).1 = p.1 + 1 := by
  unfold ky_ex at h ⊢
  split
  · next z => exact ⟨z.1, rfl⟩
  · next z => rw [if_neg z] at h; cases h
theorem ky_exw_ok : ∀ {W : List Nat} {p : ky_ps}, (ky_exw T n W p).2 = true → p.2 = true ∧ (ky_exw T n W p).1 = p.1 + W.length
  | [], p, h => ⟨h, rfl⟩
  | c :: W, p, h => by
    obtain ⟨h1, h2⟩ := ky_exw_ok (W := W) (p := ky_ex T n c p) h
    obtain ⟨h3, h4⟩ := ky_ex_ok h1
    refine ⟨h3, ?_⟩
    show (ky_exw T n W (ky_ex T n c p)).1 = _
    rw [h2, h4, List.length_cons]
    omega
theorem ky_dg1_ok (h : (ky_dg1 T n p).2 = true) : p.2 = true ∧ (ky_dg1 T n p).1 = p.1 + 1 := by
  unfold ky_dg1 at h ⊢
  split
  · next z => exact ⟨(ky_dok_iff.mp z).1, rfl⟩
  · next z => rw [if_neg z] at h; cases h
theorem ky_mv_ok (h : (ky_mv T n p).1.2 = true) : p.2 = true ∧ p.1 + 2 ≤ (ky_mv T n p).1.1 := by
  unfold ky_mv at h ⊢
  by_cases v1 : ky_cc T n p = 102
  · rw [if_pos v1] at h ⊢
    obtain ⟨h1, h2⟩ := ky_dg1_ok h
    obtain ⟨h3, h4⟩ := ky_exw_ok h1
    refine ⟨h3, ?_⟩
    rw [show (ky_SL 2).length = 4 from rfl] at h4
    dsimp only
    omega
  · rw [if_neg v1] at h ⊢
    by_cases v2 : ky_cc T n p = 111
    · rw [if_pos v2] at h ⊢
      obtain ⟨h3, h4⟩ := ky_exw_ok h
      refine ⟨h3, ?_⟩
      rw [show (ky_SL 3).length = 3 from rfl] at h4
      dsimp only
      omega
    · rw [if_neg v2] at h ⊢
      by_cases v3 : ky_cc T n p = 105
      · rw [if_pos v3] at h ⊢
        obtain ⟨h3, h4⟩ := ky_exw_ok h
        refine ⟨h3, ?_⟩
        rw [show (ky_SL 4).length = 2 from rfl] at h4
        dsimp only
        omega
      · rw [if_neg v3] at h ⊢
        by_cases v4 : ky_cc T n p = 114
        · rw [if_pos v4] at h ⊢
          obtain ⟨h3, h4⟩ := ky_exw_ok h
          refine ⟨h3, ?_⟩
          rw [show (ky_SL 5).length = 5 from rfl] at h4
          dsimp only
          omega
        · rw [if_neg v4] at h ⊢
          by_cases v5 : ky_cc T n p = 108
          · rw [if_pos v5] at h ⊢
            by_cases v6 : ky_cc T n (ky_ex T n 108 p) = 101
            · rw [if_pos v6] at h ⊢
              obtain ⟨h1, h2⟩ := ky_exw_ok h
              obtain ⟨h3, h4⟩ := ky_ex_ok h1
              refine ⟨h3, ?_⟩
              rw [show (ky_SL 6).length = 3 from rfl] at h2
              dsimp only
              omega
            · rw [if_neg v6] at h ⊢
              obtain ⟨h1, h2⟩ := ky_exw_ok h
              obtain ⟨h3, h4⟩ := ky_ex_ok h1
              refine ⟨h3, ?_⟩
              rw [show (ky_SL 7).length = 3 from rfl] at h2
              dsimp only
              omega
          · rw [if_neg v5] at h
            cases h
theorem ky_po_ok (h : (ky_po T n p).1.2 = true) : p.2 = true ∧ p.1 + 4 ≤ (ky_po T n p).1.1 := by
  unfold ky_po at h ⊢
  by_cases v1 : ky_cc T n p = 119
  · rw [if_pos v1] at h ⊢
    obtain ⟨h1, h2⟩ := ky_dg1_ok h
    obtain ⟨h3, h4⟩ := ky_ex_ok h1
    obtain ⟨h5, h6⟩ := ky_dg1_ok h3
    obtain ⟨h7, h8⟩ := ky_exw_ok h5
    refine ⟨h7, ?_⟩
    rw [show (ky_SL 0).length = 5 from rfl] at h8
    dsimp only
    omega
  · rw [if_neg v1] at h ⊢
    by_cases v2 : ky_cc T n p = 116
    · rw [if_pos v2] at h ⊢
      obtain ⟨h1, h2⟩ := ky_dg1_ok h
      obtain ⟨h7, h8⟩ := ky_exw_ok h1
      refine ⟨h7, ?_⟩
      rw [show (ky_SL 1).length = 5 from rfl] at h8
      dsimp only
      omega
    · rw [if_neg v2] at h ⊢
      obtain ⟨h1, h2⟩ := ky_mv_ok h
      obtain ⟨h3, h4⟩ := ky_ex_ok h1
      obtain ⟨h5, h6⟩ := ky_dg1_ok h3
      refine ⟨h5, ?_⟩
      dsimp only
      omega
theorem ky_mv_le (h : p.1 ≤ n) : (ky_mv T n p).1.1 ≤ n := by
  unfold ky_mv
  (repeat' split) <;> first
    | exact (ky_dg1_le (ky_exw_le h).2).2
    | exact (ky_exw_le h).2
    | exact (ky_exw_le (ky_ex_le h).2).2
    | exact h
theorem ky_po_le (h : p.1 ≤ n) : (ky_po T n p).1.1 ≤ n := by
  unfold ky_po
  (repeat' split) <;> first
    | exact (ky_dg1_le (ky_ex_le (ky_dg1_le (ky_exw_le h).2).2).2).2
    | exact (ky_dg1_le (ky_exw_le h).2).2
    | exact ky_mv_le (ky_ex_le (ky_dg1_le h).2).2
/-- where the order i begins -/
def ky_ae (T : Nat → Nat) (n : Nat) : Nat → Nat
  | 0 => 0
  | i + 1 => (ky_po T n (ky_ae T n i, true)).1.1 + 1
def ky_oq (T : Nat → Nat) (n i : Nat) : ky_ps := (ky_po T n (ky_ae T n i, true)).1
def ky_od (T : Nat → Nat) (n i : Nat) : Nat × Nat × Nat := (ky_po T n (ky_ae T n i, true)).2
/-- all read: whether all was right, where the reading ended, how many orders -/
def ky_pa (T : Nat → Nat) (n : Nat) : Nat → Nat → Bool × Nat × Nat
  | 0, k => (false, 0, k)
  | m + 1, k => if (ky_oq T n k).2 = false then (false, (ky_oq T n k).1, k) else if (ky_oq T n k).1 = n then (true, n, k + 1) else if T (ky_oq T n k).1 = 59 then ky_pa T n m (k + 1) else (false, (ky_oq T n k).1, k + 1)
def ky_oc (T : Nat → Nat) (n i : Nat) (s : kx_G2) : Prop := s (283 + i) 0 = Int32.ofNat (ky_od T n i).1 ∧ s (283 + i) 1 = Int32.ofNat (ky_od T n i).2.1 ∧ s (283 + i) 2 = Int32.ofNat (ky_od T n i).2.2
def ky_rf (s0 s : kx_G2) : Prop := ∀ a j, a ≠ 279 → (a < 283 ∨ 296 ≤ a) → s a j = s0 a j
def ky_rd (T : Nat → Nat) (n : Nat) (s0 : kx_G2) (r : Bool × Nat × Nat) (s : kx_G2) : Prop := (s 279 3 = Int32.ofNat r.2.1 ∧ s 279 4 = (if r.1 = true then 0 else 1)) ∧ ky_rf s0 s ∧ (r.1 = true → s 279 2 = Int32.ofNat r.2.2 ∧ ∀ i, i < r.2.2 → ky_oc T n i s)
end KyRa
section KyRb
variable {T : Nat → Nat} {n : Nat} {ph : Nat} {sc : Nat × (Nat → Int32)} {s0 : kx_G2} {lm : Nat → Nat → Int64}
theorem kx_80_loop (H : ky_TT T n ph s0) : ∀ m k, k + m = 13 → 0 < m → ∀ s : kx_G2, 5 * k ≤ ky_ae T n k → ky_ae T n k ≤ n → (s 279 3 = Int32.ofNat (ky_ae T n k) ∧ s 279 4 = 0 ∧ s 279 2 = Int32.ofNat k) → ky_rf s0 s → (∀ i, i < k → ky_oc T n i s) → ∃ s', kx_D 80 15 [some (.ref 279)] [] (kx_pm ph sc s lm) = some (none, kx_pm ph sc s' lm) ∧ ky_rd T n s0 (ky_pa T n m k) s' := by
  intro m
  induction m with
  | zero => intro k hk h0; omega
  | succ m ih =>
    intro k hk _ s h5 hae ⟨q1, q2, q3⟩ hf ho
    have hk13 : k < 13 := by omega
    have htb := ky_tb_c ph
    have Hs : ky_TT T n ph s := ky_TT_fr (fun a j h => hf a j (by omega) (by omega)) H
    have P : ky_PS s (ky_ae T n k, true) s := ⟨⟨q1, q2⟩, fun _ _ _ => rfl⟩
    obtain ⟨s1, c1, s2, Q, F, G⟩ := kx_c_81 (sc := sc) (lm := lm) hk13 Hs P hae
    change ky_PS s2 (ky_oq T n k) s1 at Q
    change (ky_oq T n k).2 = true → _ at G
    have hle : (ky_oq T n k).1 ≤ n := ky_po_le (p := (ky_ae T n k, true)) hae
    have hF : ∀ a j, a ≠ 283 + k → (a = 279 → j ≠ 3 ∧ j ≠ 4) → s1 a j = s a j := fun a j h1 h2 => (Q.2 a j h2).trans (F a j h1)
    have p2 : s1 279 2 = Int32.ofNat k := (hF 279 2 (by omega) (by omega)).trans q3
    have hn := H.2.1.1
    rw [ky_pa]
    cases hq : (ky_oq T n k).2
    · rw [if_pos rfl]
      have p4 : ¬ s1 279 4 = 0 := by rw [Q.1.2, hq]; decide
      refine ⟨kx_up s1 279 2 (Int32.ofNat (k + 1)), ?_, ⟨?_, ?_⟩, fun a j h1 h2 => ?_, fun z => by cases z⟩
      · rw [kx_e80_15]
        simp (disch := omega) only [kx_e80_0, kx_e80_1, kx_e80_2, kx_e80_5, kx_e80_6, kx_e80_7, kx_e80_10, kx_e80_11, kx_e80_12, kx_e80_16, kx_e80_19, kx_e80_21, kx_e80_24, kx_e80_25, kx_e80_26, kx_e80_29, kx_e80_30, kx_e80_33, kx_e80_34, kx_e80_37, kx_e80_38, kx_e80_39, kx_e80_42, kx_e80_43, kx_e80_44, kx_e80_47, kx_e80_48, kx_e80_51, kx_e80_54, kx_e80_55, kx_e80_58, kx_e80_59, kx_e80_62, kx_e80_65, kx_e80_68, kx_e80_69, kx_e80_70, kx_e80_72, kx_e80_75, kx_e80_78, kx_e80_79, kx_e80_80, kx_e80_83, kx_s_0, kx_s_1, kx_s_2, kx_s_tw, kx_s_9, kx_s_kt, kx_s_22, kx_s_23, kx_s_24, kx_s_73, kx_s_74, kx_s_267, kx_s_268, kx_s_269, kx_s_270, kx_s_271, kx_s_272, kx_s_273, kx_s_274, kx_s_275, kx_s_276, kx_s_277, kx_s_278, kx_s_279, kx_s_280, kx_s_281, kx_s_282, kx_s_or, kx_s_296, kx_s_297, kx_s_298, kx_s_299, kx_s_300, kx_s_301, kx_s_302, kx_s_303, kx_s_304, kx_s_305, kx_s_306, kx_s_307, kx_s_308, kx_s_309, kx_s_310, kx_g_0_0, kx_g_0_1, kx_g_0_2, kx_g_0_3, kx_g_0_4, kx_g_0_5, kx_g_0_6, kx_g_0_7, kx_g_0_8, kx_g_0_9, kx_g_0_10, kx_g_1_0, kx_g_1_1, kx_g_1_2, kx_g_1_3, kx_g_1_4, kx_g_1_5, kx_g_1_6, kx_g_1_7, kx_g_1_8, kx_g_1_9, kx_g_1_10, kx_g_1_11, kx_g_1_12, kx_g_1_13, kx_g_2, kx_g_tw, kx_g_9, kx_g_kt, kx_g_22, kx_g_23, kx_g_24, kx_g_73_0, kx_g_73_1, kx_g_73_2, kx_g_74, kx_g_267_0, kx_g_267_1, kx_g_267_2, kx_g_268, kx_g_269_0, kx_g_269_1, kx_g_269_2, kx_g_270, kx_g_271_0, kx_g_271_1, kx_g_271_2, kx_g_271_3, kx_g_272_0, kx_g_272_1, kx_g_272_2, kx_g_273, kx_g_274_0, kx_g_274_1, kx_g_274_2, kx_g_275, kx_g_276_0, kx_g_276_1, kx_g_276_2, kx_g_277, kx_g_278, kx_g_279_0, kx_g_279_1, kx_g_279_2, kx_g_279_3, kx_g_279_4, kx_g_280_0, kx_g_280_1, kx_g_280_2, kx_g_280_3, kx_g_281, kx_g_282, kx_g_or, kx_g_296_0, kx_g_296_1, kx_g_296_2, kx_g_296_3, kx_g_297, kx_g_298_0, kx_g_298_1, kx_g_298_2, kx_g_298_3, kx_g_298_4, kx_g_298_5, kx_g_298_6, kx_g_298_7, kx_g_298_8, kx_g_298_9, kx_g_298_10, kx_g_298_11, kx_g_298_12, kx_g_298_13, kx_g_298_14, kx_g_298_15, kx_g_298_16, kx_g_298_17, kx_g_298_18, kx_g_298_19, kx_g_298_20, kx_g_299, kx_g_300, kx_g_301, kx_g_302, kx_g_303, kx_g_304, kx_g_305, kx_g_306, kx_g_307, kx_g_308, kx_g_309, kx_g_310, kx_p_0_3, kx_p_0_9, kx_p_0_10, kx_p_1_0, kx_p_1_2, kx_p_1_4, kx_p_1_7, kx_p_1_9, kx_p_1_10, kx_p_1_11, kx_p_1_12, kx_p_1_13, kx_p_tw, kx_p_kt, kx_p_22, kx_p_23, kx_p_24, kx_p_73_1, kx_p_73_2, kx_p_268, kx_p_269_0, kx_p_269_1, kx_p_269_2, kx_p_270, kx_p_273, kx_p_274_0, kx_p_274_1, kx_p_274_2, kx_p_275, kx_p_276_0, kx_p_276_1, kx_p_276_2, kx_p_277, kx_p_278, kx_p_279_2, kx_p_279_3, kx_p_279_4, kx_p_280_1, kx_p_280_2, kx_p_280_3, kx_p_281, kx_p_or, kx_p_296_1, kx_p_296_2, kx_p_296_3, kx_p_297, kx_p_298_5, kx_p_298_6, kx_p_298_7, kx_p_298_8, kx_p_298_9, kx_p_298_11, kx_p_298_13, kx_p_298_18, kx_p_298_20, kx_p_299, kx_p_300, kx_p_301, kx_p_302, kx_p_303, kx_p_304, kx_p_305, kx_p_306, kx_p_307, kx_p_308, kx_p_309, kx_p_310, ↓reduceIte, Bool.true_eq_false, Bool.false_eq_true, reduceCtorEq, Option.bind_some, Option.bind_none, Option.toList_some, Option.toList_none, List.cons_append, List.nil_append, kx_nat_s, not_true_eq_false, not_false_eq_true, Int32.reduceAdd, Int32.reduceSub, Int32.reduceLT, Int32.reduceMul, Int32.reduceDiv, Int32.reduceMod, Nat.reduceLT, Nat.reduceLeDiff, Nat.reduceEqDiff, Nat.reduceAdd, true_and, and_true, kx_le_lt, ite_not, Classical.not_not, kx_ib, ne_eq, gt_iff_lt, ge_iff_le, kx_nw0, kx_nw1, kx_nwb, kx_b0, kx_b1, Nat.lt_irrefl, kx_up_eq, kx_ul_eq, kx_up_ne, kx_ul_ne, kx_arr_n, kx_nat_i, kx_nat_lt, kx_sr_rd, kx_sr_ne, kx_sr_up, kx_sr_upn, kx_u1_eq, kx_u1_ne, kx_tn_0, kx_tn_1, kx_tn_2, kx_tn_3, kx_tn_4, kx_tn_5, kx_tn_6, kx_tn_7, kx_tn_8, kx_tn_9, kx_tn_10, kx_tn_11, kx_tn_12, kx_la_0, kx_la_1, kx_la_2, kx_la_3, kx_la_4, kx_la_5, kx_la_6, kx_la_7, kx_la_8, kx_la_9, kx_la_10, kx_la_11, kx_la_12, kx_j10_0, kx_j10_1, kx_j10_2, kx_j10_3, kx_j10_4, kx_j10_5, kx_j10_6, kx_j10_7, kx_j10_8, kx_j10_9, kx_j4_0, kx_j4_1, kx_j4_2, kx_j4_3, kx_rfr, ky_i4z, ky_i10z, ky_pl_0, ky_pl_2, ky_pl_3, ky_pl_4, ky_pl_5, ky_pl_6, ky_pl_7, ky_pl_8, ky_pl_9, eq_self, Nat.not_lt_zero, ky_q_0_1, ky_q_0_2, ky_q_0_3, ky_q_0_4, ky_q_0_5, ky_q_0_6, ky_q_0_7, ky_q_0_8, ky_q_1_0, ky_q_1_2, ky_q_1_3, ky_q_1_4, ky_q_1_5, ky_q_1_6, ky_q_1_7, ky_q_1_8, ky_q_2_0, ky_q_2_1, ky_q_2_3, ky_q_2_4, ky_q_2_5, ky_q_2_6, ky_q_2_7, ky_q_2_8, ky_q_3_0, ky_q_3_1, ky_q_3_2, ky_q_3_4, ky_q_3_5, ky_q_3_6, ky_q_3_7, ky_q_3_8, ky_q_4_0, ky_q_4_1, ky_q_4_2, ky_q_4_3, ky_q_4_5, ky_q_4_6, ky_q_4_7, ky_q_4_8, ky_q_5_0, ky_q_5_1, ky_q_5_2, ky_q_5_3, ky_q_5_4, ky_q_5_6, ky_q_5_7, ky_q_5_8, ky_q_6_0, ky_q_6_1, ky_q_6_2, ky_q_6_3, ky_q_6_4, ky_q_6_5, ky_q_6_7, ky_q_6_8, ky_q_7_0, ky_q_7_1, ky_q_7_2, ky_q_7_3, ky_q_7_4, ky_q_7_5, ky_q_7_6, ky_q_7_8, ky_q_8_0, ky_q_8_1, ky_q_8_2, ky_q_8_3, ky_q_8_4, ky_q_8_5, ky_q_8_6, ky_q_8_7, ky_tl_0, ky_tl_1, ky_tl_2, ky_tl_3, ky_tl_4, ky_tl_5, ky_tl_6, ky_tl_7, ky_tl_8, ky_tl_9, ky_tl_10, ky_tl_11, ky_tl_12, ky_tl_13, ky_tl_32, ky_tl_36, ky_tl_37, ky_tl_40, ky_tl_48, ky_tl_57, ky_tl_60, ky_tl_126, ky_tl_160, ky_tg_0, ky_tg_1, ky_tg_2, ky_tg_3, ky_tg_4, ky_tg_5, ky_tg_6, ky_tg_7, ky_tg_8, ky_tg_9, ky_tg_10, ky_tg_11, ky_tg_12, ky_tg_13, ky_tg_32, ky_tg_36, ky_tg_37, ky_tg_40, ky_tg_48, ky_tg_57, ky_tg_60, ky_tg_126, ky_tg_160, ky_te_0, ky_te_1, ky_te_2, ky_te_3, ky_te_4, ky_te_5, ky_te_6, ky_te_7, ky_te_8, ky_te_9, ky_te_10, ky_te_11, ky_te_12, ky_te_13, ky_te_32, ky_te_36, ky_te_37, ky_te_40, ky_te_48, ky_te_57, ky_te_60, ky_te_126, ky_te_160, q3, hk13, c1, p2, p4]
      · rw [kx_up_ne (by omega)]; exact Q.1.1
      · rw [kx_up_ne (by omega), Q.1.2, hq]
      · rw [kx_up_ne (by omega), hF a j (by omega) (by omega)]
        exact hf a j h1 h2
    · rw [if_neg (by decide)]
      have p4 : s1 279 4 = 0 := by rw [Q.1.2, hq]; rfl
      have p3 := Q.1.1
      have H1 : ky_TT T n ph s1 := ky_TT_fr (fun a j h => hF a j (by omega) (by omega)) Hs
      obtain ⟨g1, g2, g3⟩ := G hq
      have hok := ky_po_ok (T := T) (n := n) (p := (ky_ae T n k, true)) hq
      have h4 : ky_ae T n k + 4 ≤ (ky_oq T n k).1 := hok.2
      have hk12 : k < 12 := by omega
      have hoc : ∀ s' : kx_G2, (∀ a j, 283 ≤ a → a ≤ 283 + k → s' a j = s1 a j) → ∀ i, i < k + 1 → ky_oc T n i s' := by
        intro s' hs i hi
        unfold ky_oc
        rw [hs _ _ (by omega) (by omega), hs _ _ (by omega) (by omega), hs _ _ (by omega) (by omega)]
        by_cases hik : i = k
        · subst hik
          rw [Q.2 _ _ (by omega), Q.2 _ _ (by omega), Q.2 _ _ (by omega)]
          exact ⟨g1, g2, g3⟩
        · rw [hF _ _ (by omega) (by omega), hF _ _ (by omega) (by omega), hF _ _ (by omega) (by omega)]
          exact ho i (by omega)
      by_cases he : (ky_oq T n k).1 = n
      · rw [if_pos he]
        have p3' : s1 279 3 = Int32.ofNat n := by rw [p3, he]
        refine ⟨kx_up s1 279 2 (Int32.ofNat (k + 1)), ?_, ⟨?_, ?_⟩, fun a j h1 h2 => ?_, fun _ => ⟨kx_up_eq, hoc _ (fun a j h1 h2 => kx_up_ne (by omega))⟩⟩
        · rw [kx_e80_15]
          simp (disch := omega) only [kx_e80_0, kx_e80_1, kx_e80_2, kx_e80_5, kx_e80_6, kx_e80_7, kx_e80_10, kx_e80_11, kx_e80_12, kx_e80_16, kx_e80_19, kx_e80_21, kx_e80_24, kx_e80_25, kx_e80_26, kx_e80_29, kx_e80_30, kx_e80_33, kx_e80_34, kx_e80_37, kx_e80_38, kx_e80_39, kx_e80_42, kx_e80_43, kx_e80_44, kx_e80_47, kx_e80_48, kx_e80_51, kx_e80_54, kx_e80_55, kx_e80_58, kx_e80_59, kx_e80_62, kx_e80_65, kx_e80_68, kx_e80_69, kx_e80_70, kx_e80_72, kx_e80_75, kx_e80_78, kx_e80_79, kx_e80_80, kx_e80_83, kx_s_0, kx_s_1, kx_s_2, kx_s_tw, kx_s_9, kx_s_kt, kx_s_22, kx_s_23, kx_s_24, kx_s_73, kx_s_74, kx_s_267, kx_s_268, kx_s_269, kx_s_270, kx_s_271, kx_s_272, kx_s_273, kx_s_274, kx_s_275, kx_s_276, kx_s_277, kx_s_278, kx_s_279, kx_s_280, kx_s_281, kx_s_282, kx_s_or, kx_s_296, kx_s_297, kx_s_298, kx_s_299, kx_s_300, kx_s_301, kx_s_302, kx_s_303, kx_s_304, kx_s_305, kx_s_306, kx_s_307, kx_s_308, kx_s_309, kx_s_310, kx_g_0_0, kx_g_0_1, kx_g_0_2, kx_g_0_3, kx_g_0_4, kx_g_0_5, kx_g_0_6, kx_g_0_7, kx_g_0_8, kx_g_0_9, kx_g_0_10, kx_g_1_0, kx_g_1_1, kx_g_1_2, kx_g_1_3, kx_g_1_4, kx_g_1_5, kx_g_1_6, kx_g_1_7, kx_g_1_8, kx_g_1_9, kx_g_1_10, kx_g_1_11, kx_g_1_12, kx_g_1_13, kx_g_2, kx_g_tw, kx_g_9, kx_g_kt, kx_g_22, kx_g_23, kx_g_24, kx_g_73_0, kx_g_73_1, kx_g_73_2, kx_g_74, kx_g_267_0, kx_g_267_1, kx_g_267_2, kx_g_268, kx_g_269_0, kx_g_269_1, kx_g_269_2, kx_g_270, kx_g_271_0, kx_g_271_1, kx_g_271_2, kx_g_271_3, kx_g_272_0, kx_g_272_1, kx_g_272_2, kx_g_273, kx_g_274_0, kx_g_274_1, kx_g_274_2, kx_g_275, kx_g_276_0, kx_g_276_1, kx_g_276_2, kx_g_277, kx_g_278, kx_g_279_0, kx_g_279_1, kx_g_279_2, kx_g_279_3, kx_g_279_4, kx_g_280_0, kx_g_280_1, kx_g_280_2, kx_g_280_3, kx_g_281, kx_g_282, kx_g_or, kx_g_296_0, kx_g_296_1, kx_g_296_2, kx_g_296_3, kx_g_297, kx_g_298_0, kx_g_298_1, kx_g_298_2, kx_g_298_3, kx_g_298_4, kx_g_298_5, kx_g_298_6, kx_g_298_7, kx_g_298_8, kx_g_298_9, kx_g_298_10, kx_g_298_11, kx_g_298_12, kx_g_298_13, kx_g_298_14, kx_g_298_15, kx_g_298_16, kx_g_298_17, kx_g_298_18, kx_g_298_19, kx_g_298_20, kx_g_299, kx_g_300, kx_g_301, kx_g_302, kx_g_303, kx_g_304, kx_g_305, kx_g_306, kx_g_307, kx_g_308, kx_g_309, kx_g_310, kx_p_0_3, kx_p_0_9, kx_p_0_10, kx_p_1_0, kx_p_1_2, kx_p_1_4, kx_p_1_7, kx_p_1_9, kx_p_1_10, kx_p_1_11, kx_p_1_12, kx_p_1_13, kx_p_tw, kx_p_kt, kx_p_22, kx_p_23, kx_p_24, kx_p_73_1, kx_p_73_2, kx_p_268, kx_p_269_0, kx_p_269_1, kx_p_269_2, kx_p_270, kx_p_273, kx_p_274_0, kx_p_274_1, kx_p_274_2, kx_p_275, kx_p_276_0, kx_p_276_1, kx_p_276_2, kx_p_277, kx_p_278, kx_p_279_2, kx_p_279_3, kx_p_279_4, kx_p_280_1, kx_p_280_2, kx_p_280_3, kx_p_281, kx_p_or, kx_p_296_1, kx_p_296_2, kx_p_296_3, kx_p_297, kx_p_298_5, kx_p_298_6, kx_p_298_7, kx_p_298_8, kx_p_298_9, kx_p_298_11, kx_p_298_13, kx_p_298_18, kx_p_298_20, kx_p_299, kx_p_300, kx_p_301, kx_p_302, kx_p_303, kx_p_304, kx_p_305, kx_p_306, kx_p_307, kx_p_308, kx_p_309, kx_p_310, ↓reduceIte, Bool.true_eq_false, Bool.false_eq_true, reduceCtorEq, Option.bind_some, Option.bind_none, Option.toList_some, Option.toList_none, List.cons_append, List.nil_append, kx_nat_s, not_true_eq_false, not_false_eq_true, Int32.reduceAdd, Int32.reduceSub, Int32.reduceLT, Int32.reduceMul, Int32.reduceDiv, Int32.reduceMod, Nat.reduceLT, Nat.reduceLeDiff, Nat.reduceEqDiff, Nat.reduceAdd, true_and, and_true, kx_le_lt, ite_not, Classical.not_not, kx_ib, ne_eq, gt_iff_lt, ge_iff_le, kx_nw0, kx_nw1, kx_nwb, kx_b0, kx_b1, Nat.lt_irrefl, kx_up_eq, kx_ul_eq, kx_up_ne, kx_ul_ne, kx_arr_n, kx_nat_i, kx_nat_lt, kx_sr_rd, kx_sr_ne, kx_sr_up, kx_sr_upn, kx_u1_eq, kx_u1_ne, kx_tn_0, kx_tn_1, kx_tn_2, kx_tn_3, kx_tn_4, kx_tn_5, kx_tn_6, kx_tn_7, kx_tn_8, kx_tn_9, kx_tn_10, kx_tn_11, kx_tn_12, kx_la_0, kx_la_1, kx_la_2, kx_la_3, kx_la_4, kx_la_5, kx_la_6, kx_la_7, kx_la_8, kx_la_9, kx_la_10, kx_la_11, kx_la_12, kx_j10_0, kx_j10_1, kx_j10_2, kx_j10_3, kx_j10_4, kx_j10_5, kx_j10_6, kx_j10_7, kx_j10_8, kx_j10_9, kx_j4_0, kx_j4_1, kx_j4_2, kx_j4_3, kx_rfr, ky_i4z, ky_i10z, ky_pl_0, ky_pl_2, ky_pl_3, ky_pl_4, ky_pl_5, ky_pl_6, ky_pl_7, ky_pl_8, ky_pl_9, eq_self, Nat.not_lt_zero, ky_q_0_1, ky_q_0_2, ky_q_0_3, ky_q_0_4, ky_q_0_5, ky_q_0_6, ky_q_0_7, ky_q_0_8, ky_q_1_0, ky_q_1_2, ky_q_1_3, ky_q_1_4, ky_q_1_5, ky_q_1_6, ky_q_1_7, ky_q_1_8, ky_q_2_0, ky_q_2_1, ky_q_2_3, ky_q_2_4, ky_q_2_5, ky_q_2_6, ky_q_2_7, ky_q_2_8, ky_q_3_0, ky_q_3_1, ky_q_3_2, ky_q_3_4, ky_q_3_5, ky_q_3_6, ky_q_3_7, ky_q_3_8, ky_q_4_0, ky_q_4_1, ky_q_4_2, ky_q_4_3, ky_q_4_5, ky_q_4_6, ky_q_4_7, ky_q_4_8, ky_q_5_0, ky_q_5_1, ky_q_5_2, ky_q_5_3, ky_q_5_4, ky_q_5_6, ky_q_5_7, ky_q_5_8, ky_q_6_0, ky_q_6_1, ky_q_6_2, ky_q_6_3, ky_q_6_4, ky_q_6_5, ky_q_6_7, ky_q_6_8, ky_q_7_0, ky_q_7_1, ky_q_7_2, ky_q_7_3, ky_q_7_4, ky_q_7_5, ky_q_7_6, ky_q_7_8, ky_q_8_0, ky_q_8_1, ky_q_8_2, ky_q_8_3, ky_q_8_4, ky_q_8_5, ky_q_8_6, ky_q_8_7, ky_tl_0, ky_tl_1, ky_tl_2, ky_tl_3, ky_tl_4, ky_tl_5, ky_tl_6, ky_tl_7, ky_tl_8, ky_tl_9, ky_tl_10, ky_tl_11, ky_tl_12, ky_tl_13, ky_tl_32, ky_tl_36, ky_tl_37, ky_tl_40, ky_tl_48, ky_tl_57, ky_tl_60, ky_tl_126, ky_tl_160, ky_tg_0, ky_tg_1, ky_tg_2, ky_tg_3, ky_tg_4, ky_tg_5, ky_tg_6, ky_tg_7, ky_tg_8, ky_tg_9, ky_tg_10, ky_tg_11, ky_tg_12, ky_tg_13, ky_tg_32, ky_tg_36, ky_tg_37, ky_tg_40, ky_tg_48, ky_tg_57, ky_tg_60, ky_tg_126, ky_tg_160, ky_te_0, ky_te_1, ky_te_2, ky_te_3, ky_te_4, ky_te_5, ky_te_6, ky_te_7, ky_te_8, ky_te_9, ky_te_10, ky_te_11, ky_te_12, ky_te_13, ky_te_32, ky_te_36, ky_te_37, ky_te_40, ky_te_48, ky_te_57, ky_te_60, ky_te_126, ky_te_160, q3, hk13, c1, p2, p4, p3', kx_c_219, H1.1.2]
        · rw [kx_up_ne (by omega)]; exact p3'
        · rw [kx_up_ne (by omega), p4]; rfl
        · rw [kx_up_ne (by omega), hF a j (by omega) (by omega)]
          exact hf a j h1 h2
      · rw [if_neg he]
        have p3' : ¬ s1 279 3 = Int32.ofNat n := by
          rw [p3, kx_nat_eq (by omega) (by omega)]
          exact he
        have Q' : ky_PS (kx_up s2 279 2 (Int32.ofNat (k + 1))) (ky_oq T n k) (kx_up s1 279 2 (Int32.ofNat (k + 1))) := by
          refine ⟨⟨?_, ?_⟩, fun a j h => ?_⟩
          · rw [kx_up_ne (by omega)]; exact Q.1.1
          · rw [kx_up_ne (by omega)]; exact Q.1.2
          · by_cases hc : a = 279 ∧ j = 2
            · obtain ⟨rfl, rfl⟩ := hc
              rw [kx_up_eq, kx_up_eq]
            · rw [kx_up_ne (by omega), kx_up_ne (by omega)]
              exact Q.2 a j h
        have H2 : ky_TT T n ph (kx_up s2 279 2 (Int32.ofNat (k + 1))) := ky_TT_fr (fun a j h => by rw [kx_up_ne (by omega)]; exact F a j (by omega)) Hs
        obtain ⟨s3, c3, R⟩ := kx_c_84 (sc := sc) (lm := lm) (c := 59) H2 Q' hle (by decide)
        rw [show Int32.ofNat 59 = 59 from rfl] at c3
        have hl : (ky_oq T n k).1 < n := by omega
        have hF3 : ∀ a j, a ≠ 279 → a ≠ 283 + k → s3 a j = s a j := fun a j h1 h2 => by
          rw [R.2 a j (by omega), kx_up_ne (by omega)]
          exact F a j h2
        have r2 : s3 279 2 = Int32.ofNat (k + 1) := (R.2 279 2 (by omega)).trans kx_up_eq
        have hoc3 : ∀ a j, 283 ≤ a → a ≤ 283 + k → s3 a j = s1 a j := fun a j h1 h2 => by
          rw [R.2 a j (by omega), kx_up_ne (by omega), Q.2 a j (by omega)]
        by_cases h59 : T (ky_oq T n k).1 = 59
        · rw [if_pos h59]
          have ee : ky_ex T n 59 (ky_oq T n k) = ((ky_oq T n k).1 + 1, true) := if_pos ⟨hq, hl, h59⟩
          rw [ee] at R
          obtain ⟨s4, c4, D⟩ := ih (k + 1) (by omega) (by omega) s3 (by show 5 * (k + 1) ≤ (ky_oq T n k).1 + 1; omega) (by show (ky_oq T n k).1 + 1 ≤ n; omega) ⟨R.1.1, R.1.2, r2⟩ (fun a j h1 h2 => by rw [hF3 a j h1 (by omega)]; exact hf a j h1 h2) (hoc s3 hoc3)
          refine ⟨s4, ?_, D⟩
          rw [← c4]
          rw [kx_e80_15]
          simp (disch := omega) only [kx_e80_0, kx_e80_1, kx_e80_2, kx_e80_5, kx_e80_6, kx_e80_7, kx_e80_10, kx_e80_11, kx_e80_12, kx_e80_16, kx_e80_19, kx_e80_21, kx_e80_24, kx_e80_25, kx_e80_26, kx_e80_29, kx_e80_30, kx_e80_33, kx_e80_34, kx_e80_37, kx_e80_38, kx_e80_39, kx_e80_42, kx_e80_43, kx_e80_44, kx_e80_47, kx_e80_48, kx_e80_51, kx_e80_54, kx_e80_55, kx_e80_58, kx_e80_59, kx_e80_62, kx_e80_65, kx_e80_68, kx_e80_69, kx_e80_70, kx_e80_72, kx_e80_75, kx_e80_78, kx_e80_79, kx_e80_80, kx_e80_83, kx_s_0, kx_s_1, kx_s_2, kx_s_tw, kx_s_9, kx_s_kt, kx_s_22, kx_s_23, kx_s_24, kx_s_73, kx_s_74, kx_s_267, kx_s_268, kx_s_269, kx_s_270, kx_s_271, kx_s_272, kx_s_273, kx_s_274, kx_s_275, kx_s_276, kx_s_277, kx_s_278, kx_s_279, kx_s_280, kx_s_281, kx_s_282, kx_s_or, kx_s_296, kx_s_297, kx_s_298, kx_s_299, kx_s_300, kx_s_301, kx_s_302, kx_s_303, kx_s_304, kx_s_305, kx_s_306, kx_s_307, kx_s_308, kx_s_309, kx_s_310, kx_g_0_0, kx_g_0_1, kx_g_0_2, kx_g_0_3, kx_g_0_4, kx_g_0_5, kx_g_0_6, kx_g_0_7, kx_g_0_8, kx_g_0_9, kx_g_0_10, kx_g_1_0, kx_g_1_1, kx_g_1_2, kx_g_1_3, kx_g_1_4, kx_g_1_5, kx_g_1_6, kx_g_1_7, kx_g_1_8, kx_g_1_9, kx_g_1_10, kx_g_1_11, kx_g_1_12, kx_g_1_13, kx_g_2, kx_g_tw, kx_g_9, kx_g_kt, kx_g_22, kx_g_23, kx_g_24, kx_g_73_0, kx_g_73_1, kx_g_73_2, kx_g_74, kx_g_267_0, kx_g_267_1, kx_g_267_2, kx_g_268, kx_g_269_0, kx_g_269_1, kx_g_269_2, kx_g_270, kx_g_271_0, kx_g_271_1, kx_g_271_2, kx_g_271_3, kx_g_272_0, kx_g_272_1, kx_g_272_2, kx_g_273, kx_g_274_0, kx_g_274_1, kx_g_274_2, kx_g_275, kx_g_276_0, kx_g_276_1, kx_g_276_2, kx_g_277, kx_g_278, kx_g_279_0, kx_g_279_1, kx_g_279_2, kx_g_279_3, kx_g_279_4, kx_g_280_0, kx_g_280_1, kx_g_280_2, kx_g_280_3, kx_g_281, kx_g_282, kx_g_or, kx_g_296_0, kx_g_296_1, kx_g_296_2, kx_g_296_3, kx_g_297, kx_g_298_0, kx_g_298_1, kx_g_298_2, kx_g_298_3, kx_g_298_4, kx_g_298_5, kx_g_298_6, kx_g_298_7, kx_g_298_8, kx_g_298_9, kx_g_298_10, kx_g_298_11, kx_g_298_12, kx_g_298_13, kx_g_298_14, kx_g_298_15, kx_g_298_16, kx_g_298_17, kx_g_298_18, kx_g_298_19, kx_g_298_20, kx_g_299, kx_g_300, kx_g_301, kx_g_302, kx_g_303, kx_g_304, kx_g_305, kx_g_306, kx_g_307, kx_g_308, kx_g_309, kx_g_310, kx_p_0_3, kx_p_0_9, kx_p_0_10, kx_p_1_0, kx_p_1_2, kx_p_1_4, kx_p_1_7, kx_p_1_9, kx_p_1_10, kx_p_1_11, kx_p_1_12, kx_p_1_13, kx_p_tw, kx_p_kt, kx_p_22, kx_p_23, kx_p_24, kx_p_73_1, kx_p_73_2, kx_p_268, kx_p_269_0, kx_p_269_1, kx_p_269_2, kx_p_270, kx_p_273, kx_p_274_0, kx_p_274_1, kx_p_274_2, kx_p_275, kx_p_276_0, kx_p_276_1, kx_p_276_2, kx_p_277, kx_p_278, kx_p_279_2, kx_p_279_3, kx_p_279_4, kx_p_280_1, kx_p_280_2, kx_p_280_3, kx_p_281, kx_p_or, kx_p_296_1, kx_p_296_2, kx_p_296_3, kx_p_297, kx_p_298_5, kx_p_298_6, kx_p_298_7, kx_p_298_8, kx_p_298_9, kx_p_298_11, kx_p_298_13, kx_p_298_18, kx_p_298_20, kx_p_299, kx_p_300, kx_p_301, kx_p_302, kx_p_303, kx_p_304, kx_p_305, kx_p_306, kx_p_307, kx_p_308, kx_p_309, kx_p_310, ↓reduceIte, Bool.true_eq_false, Bool.false_eq_true, reduceCtorEq, Option.bind_some, Option.bind_none, Option.toList_some, Option.toList_none, List.cons_append, List.nil_append, kx_nat_s, not_true_eq_false, not_false_eq_true, Int32.reduceAdd, Int32.reduceSub, Int32.reduceLT, Int32.reduceMul, Int32.reduceDiv, Int32.reduceMod, Nat.reduceLT, Nat.reduceLeDiff, Nat.reduceEqDiff, Nat.reduceAdd, true_and, and_true, kx_le_lt, ite_not, Classical.not_not, kx_ib, ne_eq, gt_iff_lt, ge_iff_le, kx_nw0, kx_nw1, kx_nwb, kx_b0, kx_b1, Nat.lt_irrefl, kx_up_eq, kx_ul_eq, kx_up_ne, kx_ul_ne, kx_arr_n, kx_nat_i, kx_nat_lt, kx_sr_rd, kx_sr_ne, kx_sr_up, kx_sr_upn, kx_u1_eq, kx_u1_ne, kx_tn_0, kx_tn_1, kx_tn_2, kx_tn_3, kx_tn_4, kx_tn_5, kx_tn_6, kx_tn_7, kx_tn_8, kx_tn_9, kx_tn_10, kx_tn_11, kx_tn_12, kx_la_0, kx_la_1, kx_la_2, kx_la_3, kx_la_4, kx_la_5, kx_la_6, kx_la_7, kx_la_8, kx_la_9, kx_la_10, kx_la_11, kx_la_12, kx_j10_0, kx_j10_1, kx_j10_2, kx_j10_3, kx_j10_4, kx_j10_5, kx_j10_6, kx_j10_7, kx_j10_8, kx_j10_9, kx_j4_0, kx_j4_1, kx_j4_2, kx_j4_3, kx_rfr, ky_i4z, ky_i10z, ky_pl_0, ky_pl_2, ky_pl_3, ky_pl_4, ky_pl_5, ky_pl_6, ky_pl_7, ky_pl_8, ky_pl_9, eq_self, Nat.not_lt_zero, ky_q_0_1, ky_q_0_2, ky_q_0_3, ky_q_0_4, ky_q_0_5, ky_q_0_6, ky_q_0_7, ky_q_0_8, ky_q_1_0, ky_q_1_2, ky_q_1_3, ky_q_1_4, ky_q_1_5, ky_q_1_6, ky_q_1_7, ky_q_1_8, ky_q_2_0, ky_q_2_1, ky_q_2_3, ky_q_2_4, ky_q_2_5, ky_q_2_6, ky_q_2_7, ky_q_2_8, ky_q_3_0, ky_q_3_1, ky_q_3_2, ky_q_3_4, ky_q_3_5, ky_q_3_6, ky_q_3_7, ky_q_3_8, ky_q_4_0, ky_q_4_1, ky_q_4_2, ky_q_4_3, ky_q_4_5, ky_q_4_6, ky_q_4_7, ky_q_4_8, ky_q_5_0, ky_q_5_1, ky_q_5_2, ky_q_5_3, ky_q_5_4, ky_q_5_6, ky_q_5_7, ky_q_5_8, ky_q_6_0, ky_q_6_1, ky_q_6_2, ky_q_6_3, ky_q_6_4, ky_q_6_5, ky_q_6_7, ky_q_6_8, ky_q_7_0, ky_q_7_1, ky_q_7_2, ky_q_7_3, ky_q_7_4, ky_q_7_5, ky_q_7_6, ky_q_7_8, ky_q_8_0, ky_q_8_1, ky_q_8_2, ky_q_8_3, ky_q_8_4, ky_q_8_5, ky_q_8_6, ky_q_8_7, ky_tl_0, ky_tl_1, ky_tl_2, ky_tl_3, ky_tl_4, ky_tl_5, ky_tl_6, ky_tl_7, ky_tl_8, ky_tl_9, ky_tl_10, ky_tl_11, ky_tl_12, ky_tl_13, ky_tl_32, ky_tl_36, ky_tl_37, ky_tl_40, ky_tl_48, ky_tl_57, ky_tl_60, ky_tl_126, ky_tl_160, ky_tg_0, ky_tg_1, ky_tg_2, ky_tg_3, ky_tg_4, ky_tg_5, ky_tg_6, ky_tg_7, ky_tg_8, ky_tg_9, ky_tg_10, ky_tg_11, ky_tg_12, ky_tg_13, ky_tg_32, ky_tg_36, ky_tg_37, ky_tg_40, ky_tg_48, ky_tg_57, ky_tg_60, ky_tg_126, ky_tg_160, ky_te_0, ky_te_1, ky_te_2, ky_te_3, ky_te_4, ky_te_5, ky_te_6, ky_te_7, ky_te_8, ky_te_9, ky_te_10, ky_te_11, ky_te_12, ky_te_13, ky_te_32, ky_te_36, ky_te_37, ky_te_40, ky_te_48, ky_te_57, ky_te_60, ky_te_126, ky_te_160, q3, hk13, c1, p2, p4, p3', kx_c_219, H1.1.2, c3]
        · rw [if_neg h59]
          have ee : ky_ex T n 59 (ky_oq T n k) = ((ky_oq T n k).1, false) := if_neg (fun z => h59 z.2.2)
          rw [ee] at R
          have H3 : ky_TT T n ph s3 := ky_TT_fr (fun a j h => hF3 a j (by omega) (by omega)) Hs
          have P3 : ky_PS s3 ((ky_oq T n k).1, false) s3 := ⟨R.1, fun _ _ _ => rfl⟩
          obtain ⟨s5, c5, s6, Q5, F5, -⟩ := kx_c_81 (sc := sc) (lm := lm) (k := k + 1) (by omega) H3 P3 hle
          rw [ky_po_f rfl] at Q5
          have p54 : ¬ s5 279 4 = 0 := by
            rw [Q5.1.2, if_neg Bool.false_ne_true]
            decide
          have p52 : s5 279 2 = Int32.ofNat (k + 1) := by rw [Q5.2 279 2 (by omega), F5 279 2 (by omega)]; exact r2
          have g13 : k + 1 < 13 := by omega
          refine ⟨kx_up s5 279 2 (Int32.ofNat (k + 1 + 1)), ?_, ⟨?_, ?_⟩, fun a j h1 h2 => ?_, fun z => by cases z⟩
          · rw [kx_e80_15]
            simp (disch := omega) only [kx_e80_0, kx_e80_1, kx_e80_2, kx_e80_5, kx_e80_6, kx_e80_7, kx_e80_10, kx_e80_11, kx_e80_12, kx_e80_16, kx_e80_19, kx_e80_21, kx_e80_24, kx_e80_25, kx_e80_26, kx_e80_29, kx_e80_30, kx_e80_33, kx_e80_34, kx_e80_37, kx_e80_38, kx_e80_39, kx_e80_42, kx_e80_43, kx_e80_44, kx_e80_47, kx_e80_48, kx_e80_51, kx_e80_54, kx_e80_55, kx_e80_58, kx_e80_59, kx_e80_62, kx_e80_65, kx_e80_68, kx_e80_69, kx_e80_70, kx_e80_72, kx_e80_75, kx_e80_78, kx_e80_79, kx_e80_80, kx_e80_83, kx_s_0, kx_s_1, kx_s_2, kx_s_tw, kx_s_9, kx_s_kt, kx_s_22, kx_s_23, kx_s_24, kx_s_73, kx_s_74, kx_s_267, kx_s_268, kx_s_269, kx_s_270, kx_s_271, kx_s_272, kx_s_273, kx_s_274, kx_s_275, kx_s_276, kx_s_277, kx_s_278, kx_s_279, kx_s_280, kx_s_281, kx_s_282, kx_s_or, kx_s_296, kx_s_297, kx_s_298, kx_s_299, kx_s_300, kx_s_301, kx_s_302, kx_s_303, kx_s_304, kx_s_305, kx_s_306, kx_s_307, kx_s_308, kx_s_309, kx_s_310, kx_g_0_0, kx_g_0_1, kx_g_0_2, kx_g_0_3, kx_g_0_4, kx_g_0_5, kx_g_0_6, kx_g_0_7, kx_g_0_8, kx_g_0_9, kx_g_0_10, kx_g_1_0, kx_g_1_1, kx_g_1_2, kx_g_1_3, kx_g_1_4, kx_g_1_5, kx_g_1_6, kx_g_1_7, kx_g_1_8, kx_g_1_9, kx_g_1_10, kx_g_1_11, kx_g_1_12, kx_g_1_13, kx_g_2, kx_g_tw, kx_g_9, kx_g_kt, kx_g_22, kx_g_23, kx_g_24, kx_g_73_0, kx_g_73_1, kx_g_73_2, kx_g_74, kx_g_267_0, kx_g_267_1, kx_g_267_2, kx_g_268, kx_g_269_0, kx_g_269_1, kx_g_269_2, kx_g_270, kx_g_271_0, kx_g_271_1, kx_g_271_2, kx_g_271_3, kx_g_272_0, kx_g_272_1, kx_g_272_2, kx_g_273, kx_g_274_0, kx_g_274_1, kx_g_274_2, kx_g_275, kx_g_276_0, kx_g_276_1, kx_g_276_2, kx_g_277, kx_g_278, kx_g_279_0, kx_g_279_1, kx_g_279_2, kx_g_279_3, kx_g_279_4, kx_g_280_0, kx_g_280_1, kx_g_280_2, kx_g_280_3, kx_g_281, kx_g_282, kx_g_or, kx_g_296_0, kx_g_296_1, kx_g_296_2, kx_g_296_3, kx_g_297, kx_g_298_0, kx_g_298_1, kx_g_298_2, kx_g_298_3, kx_g_298_4, kx_g_298_5, kx_g_298_6, kx_g_298_7, kx_g_298_8, kx_g_298_9, kx_g_298_10, kx_g_298_11, kx_g_298_12, kx_g_298_13, kx_g_298_14, kx_g_298_15, kx_g_298_16, kx_g_298_17, kx_g_298_18, kx_g_298_19, kx_g_298_20, kx_g_299, kx_g_300, kx_g_301, kx_g_302, kx_g_303, kx_g_304, kx_g_305, kx_g_306, kx_g_307, kx_g_308, kx_g_309, kx_g_310, kx_p_0_3, kx_p_0_9, kx_p_0_10, kx_p_1_0, kx_p_1_2, kx_p_1_4, kx_p_1_7, kx_p_1_9, kx_p_1_10, kx_p_1_11, kx_p_1_12, kx_p_1_13, kx_p_tw, kx_p_kt, kx_p_22, kx_p_23, kx_p_24, kx_p_73_1, kx_p_73_2, kx_p_268, kx_p_269_0, kx_p_269_1, kx_p_269_2, kx_p_270, kx_p_273, kx_p_274_0, kx_p_274_1, kx_p_274_2, kx_p_275, kx_p_276_0, kx_p_276_1, kx_p_276_2, kx_p_277, kx_p_278, kx_p_279_2, kx_p_279_3, kx_p_279_4, kx_p_280_1, kx_p_280_2, kx_p_280_3, kx_p_281, kx_p_or, kx_p_296_1, kx_p_296_2, kx_p_296_3, kx_p_297, kx_p_298_5, kx_p_298_6, kx_p_298_7, kx_p_298_8, kx_p_298_9, kx_p_298_11, kx_p_298_13, kx_p_298_18, kx_p_298_20, kx_p_299, kx_p_300, kx_p_301, kx_p_302, kx_p_303, kx_p_304, kx_p_305, kx_p_306, kx_p_307, kx_p_308, kx_p_309, kx_p_310, ↓reduceIte, Bool.true_eq_false, Bool.false_eq_true, reduceCtorEq, Option.bind_some, Option.bind_none, Option.toList_some, Option.toList_none, List.cons_append, List.nil_append, kx_nat_s, not_true_eq_false, not_false_eq_true, Int32.reduceAdd, Int32.reduceSub, Int32.reduceLT, Int32.reduceMul, Int32.reduceDiv, Int32.reduceMod, Nat.reduceLT, Nat.reduceLeDiff, Nat.reduceEqDiff, Nat.reduceAdd, true_and, and_true, kx_le_lt, ite_not, Classical.not_not, kx_ib, ne_eq, gt_iff_lt, ge_iff_le, kx_nw0, kx_nw1, kx_nwb, kx_b0, kx_b1, Nat.lt_irrefl, kx_up_eq, kx_ul_eq, kx_up_ne, kx_ul_ne, kx_arr_n, kx_nat_i, kx_nat_lt, kx_sr_rd, kx_sr_ne, kx_sr_up, kx_sr_upn, kx_u1_eq, kx_u1_ne, kx_tn_0, kx_tn_1, kx_tn_2, kx_tn_3, kx_tn_4, kx_tn_5, kx_tn_6, kx_tn_7, kx_tn_8, kx_tn_9, kx_tn_10, kx_tn_11, kx_tn_12, kx_la_0, kx_la_1, kx_la_2, kx_la_3, kx_la_4, kx_la_5, kx_la_6, kx_la_7, kx_la_8, kx_la_9, kx_la_10, kx_la_11, kx_la_12, kx_j10_0, kx_j10_1, kx_j10_2, kx_j10_3, kx_j10_4, kx_j10_5, kx_j10_6, kx_j10_7, kx_j10_8, kx_j10_9, kx_j4_0, kx_j4_1, kx_j4_2, kx_j4_3, kx_rfr, ky_i4z, ky_i10z, ky_pl_0, ky_pl_2, ky_pl_3, ky_pl_4, ky_pl_5, ky_pl_6, ky_pl_7, ky_pl_8, ky_pl_9, eq_self, Nat.not_lt_zero, ky_q_0_1, ky_q_0_2, ky_q_0_3, ky_q_0_4, ky_q_0_5, ky_q_0_6, ky_q_0_7, ky_q_0_8, ky_q_1_0, ky_q_1_2, ky_q_1_3, ky_q_1_4, ky_q_1_5, ky_q_1_6, ky_q_1_7, ky_q_1_8, ky_q_2_0, ky_q_2_1, ky_q_2_3, ky_q_2_4, ky_q_2_5, ky_q_2_6, ky_q_2_7, ky_q_2_8, ky_q_3_0, ky_q_3_1, ky_q_3_2, ky_q_3_4, ky_q_3_5, ky_q_3_6, ky_q_3_7, ky_q_3_8, ky_q_4_0, ky_q_4_1, ky_q_4_2, ky_q_4_3, ky_q_4_5, ky_q_4_6, ky_q_4_7, ky_q_4_8, ky_q_5_0, ky_q_5_1, ky_q_5_2, ky_q_5_3, ky_q_5_4, ky_q_5_6, ky_q_5_7, ky_q_5_8, ky_q_6_0, ky_q_6_1, ky_q_6_2, ky_q_6_3, ky_q_6_4, ky_q_6_5, ky_q_6_7, ky_q_6_8, ky_q_7_0, ky_q_7_1, ky_q_7_2, ky_q_7_3, ky_q_7_4, ky_q_7_5, ky_q_7_6, ky_q_7_8, ky_q_8_0, ky_q_8_1, ky_q_8_2, ky_q_8_3, ky_q_8_4, ky_q_8_5, ky_q_8_6, ky_q_8_7, ky_tl_0, ky_tl_1, ky_tl_2, ky_tl_3, ky_tl_4, ky_tl_5, ky_tl_6, ky_tl_7, ky_tl_8, ky_tl_9, ky_tl_10, ky_tl_11, ky_tl_12, ky_tl_13, ky_tl_32, ky_tl_36, ky_tl_37, ky_tl_40, ky_tl_48, ky_tl_57, ky_tl_60, ky_tl_126, ky_tl_160, ky_tg_0, ky_tg_1, ky_tg_2, ky_tg_3, ky_tg_4, ky_tg_5, ky_tg_6, ky_tg_7, ky_tg_8, ky_tg_9, ky_tg_10, ky_tg_11, ky_tg_12, ky_tg_13, ky_tg_32, ky_tg_36, ky_tg_37, ky_tg_40, ky_tg_48, ky_tg_57, ky_tg_60, ky_tg_126, ky_tg_160, ky_te_0, ky_te_1, ky_te_2, ky_te_3, ky_te_4, ky_te_5, ky_te_6, ky_te_7, ky_te_8, ky_te_9, ky_te_10, ky_te_11, ky_te_12, ky_te_13, ky_te_32, ky_te_36, ky_te_37, ky_te_40, ky_te_48, ky_te_57, ky_te_60, ky_te_126, ky_te_160, q3, hk13, c1, p2, p4, p3', kx_c_219, H1.1.2, c3]
            rw [kx_e80_15]
            simp (disch := omega) only [kx_e80_0, kx_e80_1, kx_e80_2, kx_e80_5, kx_e80_6, kx_e80_7, kx_e80_10, kx_e80_11, kx_e80_12, kx_e80_16, kx_e80_19, kx_e80_21, kx_e80_24, kx_e80_25, kx_e80_26, kx_e80_29, kx_e80_30, kx_e80_33, kx_e80_34, kx_e80_37, kx_e80_38, kx_e80_39, kx_e80_42, kx_e80_43, kx_e80_44, kx_e80_47, kx_e80_48, kx_e80_51, kx_e80_54, kx_e80_55, kx_e80_58, kx_e80_59, kx_e80_62, kx_e80_65, kx_e80_68, kx_e80_69, kx_e80_70, kx_e80_72, kx_e80_75, kx_e80_78, kx_e80_79, kx_e80_80, kx_e80_83, kx_s_0, kx_s_1, kx_s_2, kx_s_tw, kx_s_9, kx_s_kt, kx_s_22, kx_s_23, kx_s_24, kx_s_73, kx_s_74, kx_s_267, kx_s_268, kx_s_269, kx_s_270, kx_s_271, kx_s_272, kx_s_273, kx_s_274, kx_s_275, kx_s_276, kx_s_277, kx_s_278, kx_s_279, kx_s_280, kx_s_281, kx_s_282, kx_s_or, kx_s_296, kx_s_297, kx_s_298, kx_s_299, kx_s_300, kx_s_301, kx_s_302, kx_s_303, kx_s_304, kx_s_305, kx_s_306, kx_s_307, kx_s_308, kx_s_309, kx_s_310, kx_g_0_0, kx_g_0_1, kx_g_0_2, kx_g_0_3, kx_g_0_4, kx_g_0_5, kx_g_0_6, kx_g_0_7, kx_g_0_8, kx_g_0_9, kx_g_0_10, kx_g_1_0, kx_g_1_1, kx_g_1_2, kx_g_1_3, kx_g_1_4, kx_g_1_5, kx_g_1_6, kx_g_1_7, kx_g_1_8, kx_g_1_9, kx_g_1_10, kx_g_1_11, kx_g_1_12, kx_g_1_13, kx_g_2, kx_g_tw, kx_g_9, kx_g_kt, kx_g_22, kx_g_23, kx_g_24, kx_g_73_0, kx_g_73_1, kx_g_73_2, kx_g_74, kx_g_267_0, kx_g_267_1, kx_g_267_2, kx_g_268, kx_g_269_0, kx_g_269_1, kx_g_269_2, kx_g_270, kx_g_271_0, kx_g_271_1, kx_g_271_2, kx_g_271_3, kx_g_272_0, kx_g_272_1, kx_g_272_2, kx_g_273, kx_g_274_0, kx_g_274_1, kx_g_274_2, kx_g_275, kx_g_276_0, kx_g_276_1, kx_g_276_2, kx_g_277, kx_g_278, kx_g_279_0, kx_g_279_1, kx_g_279_2, kx_g_279_3, kx_g_279_4, kx_g_280_0, kx_g_280_1, kx_g_280_2, kx_g_280_3, kx_g_281, kx_g_282, kx_g_or, kx_g_296_0, kx_g_296_1, kx_g_296_2, kx_g_296_3, kx_g_297, kx_g_298_0, kx_g_298_1, kx_g_298_2, kx_g_298_3, kx_g_298_4, kx_g_298_5, kx_g_298_6, kx_g_298_7, kx_g_298_8, kx_g_298_9, kx_g_298_10, kx_g_298_11, kx_g_298_12, kx_g_298_13, kx_g_298_14, kx_g_298_15, kx_g_298_16, kx_g_298_17, kx_g_298_18, kx_g_298_19, kx_g_298_20, kx_g_299, kx_g_300, kx_g_301, kx_g_302, kx_g_303, kx_g_304, kx_g_305, kx_g_306, kx_g_307, kx_g_308, kx_g_309, kx_g_310, kx_p_0_3, kx_p_0_9, kx_p_0_10, kx_p_1_0, kx_p_1_2, kx_p_1_4, kx_p_1_7, kx_p_1_9, kx_p_1_10, kx_p_1_11, kx_p_1_12, kx_p_1_13, kx_p_tw, kx_p_kt, kx_p_22, kx_p_23, kx_p_24, kx_p_73_1, kx_p_73_2, kx_p_268, kx_p_269_0, kx_p_269_1, kx_p_269_2, kx_p_270, kx_p_273, kx_p_274_0, kx_p_274_1, kx_p_274_2, kx_p_275, kx_p_276_0, kx_p_276_1, kx_p_276_2, kx_p_277, kx_p_278, kx_p_279_2, kx_p_279_3, kx_p_279_4, kx_p_280_1, kx_p_280_2, kx_p_280_3, kx_p_281, kx_p_or, kx_p_296_1, kx_p_296_2, kx_p_296_3, kx_p_297, kx_p_298_5, kx_p_298_6, kx_p_298_7, kx_p_298_8, kx_p_298_9, kx_p_298_11, kx_p_298_13, kx_p_298_18, kx_p_298_20, kx_p_299, kx_p_300, kx_p_301, kx_p_302, kx_p_303, kx_p_304, kx_p_305, kx_p_306, kx_p_307, kx_p_308, kx_p_309, kx_p_310, ↓reduceIte, Bool.true_eq_false, Bool.false_eq_true, reduceCtorEq, Option.bind_some, Option.bind_none, Option.toList_some, Option.toList_none, List.cons_append, List.nil_append, kx_nat_s, not_true_eq_false, not_false_eq_true, Int32.reduceAdd, Int32.reduceSub, Int32.reduceLT, Int32.reduceMul, Int32.reduceDiv, Int32.reduceMod, Nat.reduceLT, Nat.reduceLeDiff, Nat.reduceEqDiff, Nat.reduceAdd, true_and, and_true, kx_le_lt, ite_not, Classical.not_not, kx_ib, ne_eq, gt_iff_lt, ge_iff_le, kx_nw0, kx_nw1, kx_nwb, kx_b0, kx_b1, Nat.lt_irrefl, kx_up_eq, kx_ul_eq, kx_up_ne, kx_ul_ne, kx_arr_n, kx_nat_i, kx_nat_lt, kx_sr_rd, kx_sr_ne, kx_sr_up, kx_sr_upn, kx_u1_eq, kx_u1_ne, kx_tn_0, kx_tn_1, kx_tn_2, kx_tn_3, kx_tn_4, kx_tn_5, kx_tn_6, kx_tn_7, kx_tn_8, kx_tn_9, kx_tn_10, kx_tn_11, kx_tn_12, kx_la_0, kx_la_1, kx_la_2, kx_la_3, kx_la_4, kx_la_5, kx_la_6, kx_la_7, kx_la_8, kx_la_9, kx_la_10, kx_la_11, kx_la_12, kx_j10_0, kx_j10_1, kx_j10_2, kx_j10_3, kx_j10_4, kx_j10_5, kx_j10_6, kx_j10_7, kx_j10_8, kx_j10_9, kx_j4_0, kx_j4_1, kx_j4_2, kx_j4_3, kx_rfr, ky_i4z, ky_i10z, ky_pl_0, ky_pl_2, ky_pl_3, ky_pl_4, ky_pl_5, ky_pl_6, ky_pl_7, ky_pl_8, ky_pl_9, eq_self, Nat.not_lt_zero, ky_q_0_1, ky_q_0_2, ky_q_0_3, ky_q_0_4, ky_q_0_5, ky_q_0_6, ky_q_0_7, ky_q_0_8, ky_q_1_0, ky_q_1_2, ky_q_1_3, ky_q_1_4, ky_q_1_5, ky_q_1_6, ky_q_1_7, ky_q_1_8, ky_q_2_0, ky_q_2_1, ky_q_2_3, ky_q_2_4, ky_q_2_5, ky_q_2_6, ky_q_2_7, ky_q_2_8, ky_q_3_0, ky_q_3_1, ky_q_3_2, ky_q_3_4, ky_q_3_5, ky_q_3_6, ky_q_3_7, ky_q_3_8, ky_q_4_0, ky_q_4_1, ky_q_4_2, ky_q_4_3, ky_q_4_5, ky_q_4_6, ky_q_4_7, ky_q_4_8, ky_q_5_0, ky_q_5_1, ky_q_5_2, ky_q_5_3, ky_q_5_4, ky_q_5_6, ky_q_5_7, ky_q_5_8, ky_q_6_0, ky_q_6_1, ky_q_6_2, ky_q_6_3, ky_q_6_4, ky_q_6_5, ky_q_6_7, ky_q_6_8, ky_q_7_0, ky_q_7_1, ky_q_7_2, ky_q_7_3, ky_q_7_4, ky_q_7_5, ky_q_7_6, ky_q_7_8, ky_q_8_0, ky_q_8_1, ky_q_8_2, ky_q_8_3, ky_q_8_4, ky_q_8_5, ky_q_8_6, ky_q_8_7, ky_tl_0, ky_tl_1, ky_tl_2, ky_tl_3, ky_tl_4, ky_tl_5, ky_tl_6, ky_tl_7, ky_tl_8, ky_tl_9, ky_tl_10, ky_tl_11, ky_tl_12, ky_tl_13, ky_tl_32, ky_tl_36, ky_tl_37, ky_tl_40, ky_tl_48, ky_tl_57, ky_tl_60, ky_tl_126, ky_tl_160, ky_tg_0, ky_tg_1, ky_tg_2, ky_tg_3, ky_tg_4, ky_tg_5, ky_tg_6, ky_tg_7, ky_tg_8, ky_tg_9, ky_tg_10, ky_tg_11, ky_tg_12, ky_tg_13, ky_tg_32, ky_tg_36, ky_tg_37, ky_tg_40, ky_tg_48, ky_tg_57, ky_tg_60, ky_tg_126, ky_tg_160, ky_te_0, ky_te_1, ky_te_2, ky_te_3, ky_te_4, ky_te_5, ky_te_6, ky_te_7, ky_te_8, ky_te_9, ky_te_10, ky_te_11, ky_te_12, ky_te_13, ky_te_32, ky_te_36, ky_te_37, ky_te_40, ky_te_48, ky_te_57, ky_te_60, ky_te_126, ky_te_160, r2, g13, c5, p52, p54]
          · rw [kx_up_ne (by omega)]; exact Q5.1.1
          · rw [kx_up_ne (by omega)]; exact Q5.1.2
          · rw [kx_up_ne (by omega), Q5.2 a j (by omega), F5 a j (by omega), hF3 a j h1 (by omega)]
            exact hf a j h1 h2
theorem kx_c_80 (H : ky_TT T n ph s0) : ∃ s', kx_call 80 [.ref 279] (kx_pm ph sc s0 lm) = some (none, kx_pm ph sc s' lm) ∧ ky_rd T n s0 (ky_pa T n 13 0) s' := by
  obtain ⟨s', e, D⟩ := kx_80_loop (sc := sc) (lm := lm) H 13 0 rfl (by decide) (kx_up (kx_up (kx_up s0 279 3 0) 279 4 0) 279 2 0) (Nat.zero_le _) (Nat.zero_le _) ⟨by rw [kx_up_ne (by omega), kx_up_ne (by omega)]; exact kx_up_eq, by rw [kx_up_ne (by omega)]; exact kx_up_eq, kx_up_eq⟩ (fun a j h1 h2 => by rw [kx_up_ne (by omega), kx_up_ne (by omega), kx_up_ne (by omega)]) (fun i hi => by omega)
  refine ⟨s', ?_, D⟩
  rw [kx_o80]
  simp (disch := omega) only [kx_e80_0, kx_e80_1, kx_e80_2, kx_e80_5, kx_e80_6, kx_e80_7, kx_e80_10, kx_e80_11, kx_e80_12, kx_s_0, kx_s_1, kx_s_2, kx_s_tw, kx_s_9, kx_s_kt, kx_s_22, kx_s_23, kx_s_24, kx_s_73, kx_s_74, kx_s_267, kx_s_268, kx_s_269, kx_s_270, kx_s_271, kx_s_272, kx_s_273, kx_s_274, kx_s_275, kx_s_276, kx_s_277, kx_s_278, kx_s_279, kx_s_280, kx_s_281, kx_s_282, kx_s_or, kx_s_296, kx_s_297, kx_s_298, kx_s_299, kx_s_300, kx_s_301, kx_s_302, kx_s_303, kx_s_304, kx_s_305, kx_s_306, kx_s_307, kx_s_308, kx_s_309, kx_s_310, kx_g_0_0, kx_g_0_1, kx_g_0_2, kx_g_0_3, kx_g_0_4, kx_g_0_5, kx_g_0_6, kx_g_0_7, kx_g_0_8, kx_g_0_9, kx_g_0_10, kx_g_1_0, kx_g_1_1, kx_g_1_2, kx_g_1_3, kx_g_1_4, kx_g_1_5, kx_g_1_6, kx_g_1_7, kx_g_1_8, kx_g_1_9, kx_g_1_10, kx_g_1_11, kx_g_1_12, kx_g_1_13, kx_g_2, kx_g_tw, kx_g_9, kx_g_kt, kx_g_22, kx_g_23, kx_g_24, kx_g_73_0, kx_g_73_1, kx_g_73_2, kx_g_74, kx_g_267_0, kx_g_267_1, kx_g_267_2, kx_g_268, kx_g_269_0, kx_g_269_1, kx_g_269_2, kx_g_270, kx_g_271_0, kx_g_271_1, kx_g_271_2, kx_g_271_3, kx_g_272_0, kx_g_272_1, kx_g_272_2, kx_g_273, kx_g_274_0, kx_g_274_1, kx_g_274_2, kx_g_275, kx_g_276_0, kx_g_276_1, kx_g_276_2, kx_g_277, kx_g_278, kx_g_279_0, kx_g_279_1, kx_g_279_2, kx_g_279_3, kx_g_279_4, kx_g_280_0, kx_g_280_1, kx_g_280_2, kx_g_280_3, kx_g_281, kx_g_282, kx_g_or, kx_g_296_0, kx_g_296_1, kx_g_296_2, kx_g_296_3, kx_g_297, kx_g_298_0, kx_g_298_1, kx_g_298_2, kx_g_298_3, kx_g_298_4, kx_g_298_5, kx_g_298_6, kx_g_298_7, kx_g_298_8, kx_g_298_9, kx_g_298_10, kx_g_298_11, kx_g_298_12, kx_g_298_13, kx_g_298_14, kx_g_298_15, kx_g_298_16, kx_g_298_17, kx_g_298_18, kx_g_298_19, kx_g_298_20, kx_g_299, kx_g_300, kx_g_301, kx_g_302, kx_g_303, kx_g_304, kx_g_305, kx_g_306, kx_g_307, kx_g_308, kx_g_309, kx_g_310, kx_p_0_3, kx_p_0_9, kx_p_0_10, kx_p_1_0, kx_p_1_2, kx_p_1_4, kx_p_1_7, kx_p_1_9, kx_p_1_10, kx_p_1_11, kx_p_1_12, kx_p_1_13, kx_p_tw, kx_p_kt, kx_p_22, kx_p_23, kx_p_24, kx_p_73_1, kx_p_73_2, kx_p_268, kx_p_269_0, kx_p_269_1, kx_p_269_2, kx_p_270, kx_p_273, kx_p_274_0, kx_p_274_1, kx_p_274_2, kx_p_275, kx_p_276_0, kx_p_276_1, kx_p_276_2, kx_p_277, kx_p_278, kx_p_279_2, kx_p_279_3, kx_p_279_4, kx_p_280_1, kx_p_280_2, kx_p_280_3, kx_p_281, kx_p_or, kx_p_296_1, kx_p_296_2, kx_p_296_3, kx_p_297, kx_p_298_5, kx_p_298_6, kx_p_298_7, kx_p_298_8, kx_p_298_9, kx_p_298_11, kx_p_298_13, kx_p_298_18, kx_p_298_20, kx_p_299, kx_p_300, kx_p_301, kx_p_302, kx_p_303, kx_p_304, kx_p_305, kx_p_306, kx_p_307, kx_p_308, kx_p_309, kx_p_310, ↓reduceIte, Bool.true_eq_false, Bool.false_eq_true, reduceCtorEq, Option.bind_some, Option.bind_none, Option.toList_some, Option.toList_none, List.cons_append, List.nil_append, kx_nat_s, not_true_eq_false, not_false_eq_true, Int32.reduceAdd, Int32.reduceSub, Int32.reduceLT, Int32.reduceMul, Int32.reduceDiv, Int32.reduceMod, Nat.reduceLT, Nat.reduceLeDiff, Nat.reduceEqDiff, Nat.reduceAdd, true_and, and_true, kx_le_lt, ite_not, Classical.not_not, kx_ib, ne_eq, gt_iff_lt, ge_iff_le, kx_nw0, kx_nw1, kx_nwb, kx_b0, kx_b1, Nat.lt_irrefl, kx_up_eq, kx_ul_eq, kx_up_ne, kx_ul_ne, kx_arr_n, kx_nat_i, kx_nat_lt, kx_sr_rd, kx_sr_ne, kx_sr_up, kx_sr_upn, kx_u1_eq, kx_u1_ne, kx_tn_0, kx_tn_1, kx_tn_2, kx_tn_3, kx_tn_4, kx_tn_5, kx_tn_6, kx_tn_7, kx_tn_8, kx_tn_9, kx_tn_10, kx_tn_11, kx_tn_12, kx_la_0, kx_la_1, kx_la_2, kx_la_3, kx_la_4, kx_la_5, kx_la_6, kx_la_7, kx_la_8, kx_la_9, kx_la_10, kx_la_11, kx_la_12, kx_j10_0, kx_j10_1, kx_j10_2, kx_j10_3, kx_j10_4, kx_j10_5, kx_j10_6, kx_j10_7, kx_j10_8, kx_j10_9, kx_j4_0, kx_j4_1, kx_j4_2, kx_j4_3, kx_rfr, ky_i4z, ky_i10z, ky_pl_0, ky_pl_2, ky_pl_3, ky_pl_4, ky_pl_5, ky_pl_6, ky_pl_7, ky_pl_8, ky_pl_9, eq_self, Nat.not_lt_zero, ky_q_0_1, ky_q_0_2, ky_q_0_3, ky_q_0_4, ky_q_0_5, ky_q_0_6, ky_q_0_7, ky_q_0_8, ky_q_1_0, ky_q_1_2, ky_q_1_3, ky_q_1_4, ky_q_1_5, ky_q_1_6, ky_q_1_7, ky_q_1_8, ky_q_2_0, ky_q_2_1, ky_q_2_3, ky_q_2_4, ky_q_2_5, ky_q_2_6, ky_q_2_7, ky_q_2_8, ky_q_3_0, ky_q_3_1, ky_q_3_2, ky_q_3_4, ky_q_3_5, ky_q_3_6, ky_q_3_7, ky_q_3_8, ky_q_4_0, ky_q_4_1, ky_q_4_2, ky_q_4_3, ky_q_4_5, ky_q_4_6, ky_q_4_7, ky_q_4_8, ky_q_5_0, ky_q_5_1, ky_q_5_2, ky_q_5_3, ky_q_5_4, ky_q_5_6, ky_q_5_7, ky_q_5_8, ky_q_6_0, ky_q_6_1, ky_q_6_2, ky_q_6_3, ky_q_6_4, ky_q_6_5, ky_q_6_7, ky_q_6_8, ky_q_7_0, ky_q_7_1, ky_q_7_2, ky_q_7_3, ky_q_7_4, ky_q_7_5, ky_q_7_6, ky_q_7_8, ky_q_8_0, ky_q_8_1, ky_q_8_2, ky_q_8_3, ky_q_8_4, ky_q_8_5, ky_q_8_6, ky_q_8_7, ky_tl_0, ky_tl_1, ky_tl_2, ky_tl_3, ky_tl_4, ky_tl_5, ky_tl_6, ky_tl_7, ky_tl_8, ky_tl_9, ky_tl_10, ky_tl_11, ky_tl_12, ky_tl_13, ky_tl_32, ky_tl_36, ky_tl_37, ky_tl_40, ky_tl_48, ky_tl_57, ky_tl_60, ky_tl_126, ky_tl_160, ky_tg_0, ky_tg_1, ky_tg_2, ky_tg_3, ky_tg_4, ky_tg_5, ky_tg_6, ky_tg_7, ky_tg_8, ky_tg_9, ky_tg_10, ky_tg_11, ky_tg_12, ky_tg_13, ky_tg_32, ky_tg_36, ky_tg_37, ky_tg_40, ky_tg_48, ky_tg_57, ky_tg_60, ky_tg_126, ky_tg_160, ky_te_0, ky_te_1, ky_te_2, ky_te_3, ky_te_4, ky_te_5, ky_te_6, ky_te_7, ky_te_8, ky_te_9, ky_te_10, ky_te_11, ky_te_12, ky_te_13, ky_te_32, ky_te_36, ky_te_37, ky_te_40, ky_te_48, ky_te_57, ky_te_60, ky_te_126, ky_te_160, true_or]
  exact e
end KyRb
