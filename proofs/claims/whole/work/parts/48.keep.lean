/-! what holds between two calls; the reference's copies and keeps -/
def ky_at (d : Nat) (s : kx_G2) : kx_G2 := fun a => s (d + a)
theorem ky_at0 {s : kx_G2} : ky_at 0 s = s := by
  funext a
  unfold ky_at
  rw [Nat.zero_add]
/-- what lies behind the last tower, the last kite is 0 -/
def ky_Z (nt nk : Nat) (g : kx_Rw) : Prop := (∀ t, nt ≤ t → t < 6 → ∀ w, w < 4 → g (11 + 4 * t + w) = 0) ∧ ∀ k, nk ≤ k → k < 12 → ∀ w, w < 10 → g (35 + 10 * k + w) = 0
/-- no side has more than three towers, no tower more than two kites -/
def ky_Q (nt nk : Nat) (g : kx_Rw) : Prop := (∀ x, kx_cN (fun t => decide (g (11 + 4 * t) = x)) nt ≤ 3) ∧ ∀ x, kx_cN (fun k => decide (g (35 + 10 * k) = x)) nk ≤ 2
theorem kx_cN_congr {p q : Nat → Bool} : ∀ n, (∀ i, i < n → p i = q i) → kx_cN p n = kx_cN q n
  | 0, _ => rfl
  | n + 1, h => by rw [kx_cN, kx_cN, kx_cN_congr n (fun i hi => h i (by omega)), h n (by omega)]
theorem ky_Q_congr {nt nk : Nat} {g g' : kx_Rw} (h1 : ∀ t, t < nt → g' (11 + 4 * t) = g (11 + 4 * t)) (h2 : ∀ k, k < nk → g' (35 + 10 * k) = g (35 + 10 * k)) (Q : ky_Q nt nk g) : ky_Q nt nk g' :=
  ⟨fun x => by rw [kx_cN_congr nt (fun i hi => by rw [h1 i hi])]; exact Q.1 x, fun x => by rw [kx_cN_congr nk (fun i hi => by rw [h2 i hi])]; exact Q.2 x⟩
def ky_G (N : Nat) (g : kx_Rw) : Prop := ∃ nt nk nw tn, ky_I nt nk nw tn g ∧ ky_Z nt nk g ∧ ky_Q nt nk g ∧ tn ≤ N
def ky_R (d : Nat) (s : kx_G2) (g : kx_Rw) : Prop := ky_RS (ky_n g 2) (ky_at d s) g
theorem ky_I_nk {nt nk nw tn : Nat} {g : kx_Rw} (I : ky_I nt nk nw tn g) : ky_n g 2 = nk := by
  have := I.2.2.1.2
  unfold ky_n
  rw [I.2.2.1.1, kx_nat_i (by omega)]
theorem ky_G.le {N N' : Nat} {g : kx_Rw} (h : N ≤ N') (G : ky_G N g) : ky_G N' g := by
  obtain ⟨nt, nk, nw, tn, I, Z, Q, hn⟩ := G
  exact ⟨nt, nk, nw, tn, I, Z, Q, by omega⟩
def ky_SA (s s' : kx_G2) : Prop := (s' 1 0 = s 1 0 ∧ s' 1 2 = s 1 2 ∧ s' 1 4 = s 1 4 ∧ s' 1 7 = s 1 7 ∧ s' 1 9 = s 1 9 ∧ s' 1 10 = s 1 10 ∧ s' 1 11 = s 1 11 ∧ s' 1 12 = s 1 12 ∧ s' 1 13 = s 1 13) ∧ (s' 24 0 = s 24 0 ∧ s' 24 1 = s 24 1) ∧ (∀ t, t < 6 → ∀ j, j < 4 → s' (3 + t) j = s (3 + t) j) ∧ (∀ k, k < 12 → ∀ j, j < 13 → s' (10 + k) j = s (10 + k) j) ∧ ∀ w, w < 6 → s' 22 w = s 22 w ∧ s' 23 w = s 23 w
theorem ky_RS_SA {nk : Nat} {s s' : kx_G2} {g : kx_Rw} (hn : nk ≤ 12) (h : ky_SA s s') (R : ky_RS nk s g) : ky_RS nk s' g := by
  obtain ⟨⟨h0, h2, h4, h7, h9, h10, h11, h12, h13⟩, ⟨p0, p1⟩, ht, hk, hw⟩ := h
  obtain ⟨r1, r2, r3, r4, r5⟩ := R
  refine ⟨?_, fun t ht6 => ?_, fun k hk12 => ?_, fun w hw6 => ?_, fun k hkn => ?_⟩
  · unfold ky_Cn at r1 ⊢
    rw [h0, h2, h4, h7, h9, h10, h11, h12, h13, p0, p1]
    exact r1
  · have e := ht t ht6
    rw [e 0 (by omega), e 1 (by omega), e 2 (by omega), e 3 (by omega)]
    exact r2 t ht6
  · have e := hk k hk12
    have q := r3 k hk12
    unfold ky_K at q ⊢
    rw [e 1 (by omega), e 4 (by omega), e 5 (by omega), e 6 (by omega), e 7 (by omega), e 8 (by omega), e 9 (by omega), e 10 (by omega), e 11 (by omega), e 12 (by omega)]
    exact q
  · rw [(hw w hw6).1, (hw w hw6).2]
    exact r4 w hw6
  · have e := hk k (by omega)
    have q := r5 k hkn
    unfold ky_Dv at q ⊢
    rw [e 0 (by omega), e 2 (by omega), e 3 (by omega)]
    exact q
theorem ky_SA_cp {d d' : Nat} {s s' : kx_G2} (h : ky_CP s s' (d' + 1) (d + 1)) : ky_SA (ky_at d s) (ky_at d' s') := by
  obtain ⟨h1, h2, h3, h4, h5, -⟩ := h
  unfold ky_SA ky_at
  refine ⟨h1, h5, fun t ht j hj => ?_, fun k hk j hj => ?_, fun w hw => ?_⟩
  · have := h2 t ht j hj
    rw [show d' + 1 + 2 + t = d' + (3 + t) by omega, show d + 1 + 2 + t = d + (3 + t) by omega] at this
    exact this
  · have := h3 k hk j hj
    rw [show d' + 1 + 9 + k = d' + (10 + k) by omega, show d + 1 + 9 + k = d + (10 + k) by omega] at this
    exact this
  · exact h4 w hw
theorem ky_R_cp {N d d' : Nat} {s s' : kx_G2} {g : kx_Rw} (G : ky_G N g) (h : ky_CP s s' (d' + 1) (d + 1)) (R : ky_R d s g) : ky_R d' s' g := by
  obtain ⟨nt, nk, nw, tn, I, -⟩ := G
  have := I.2.2.1.2
  unfold ky_R at R ⊢
  rw [ky_I_nk I] at R ⊢
  exact ky_RS_SA this (ky_SA_cp h) R
theorem ky_R_fr {N d : Nat} {s s' : kx_G2} {g : kx_Rw} (G : ky_G N g) (h : ∀ a, 1 ≤ a → a < 25 → ∀ j, s' (d + a) j = s (d + a) j) (R : ky_R d s g) : ky_R d s' g := by
  obtain ⟨nt, nk, nw, tn, I, -⟩ := G
  have := I.2.2.1.2
  unfold ky_R at R ⊢
  rw [ky_I_nk I] at R ⊢
  refine ky_RS_SA this ?_ R
  unfold ky_SA ky_at
  refine ⟨⟨h 1 (by omega) (by omega) _, h 1 (by omega) (by omega) _, h 1 (by omega) (by omega) _, h 1 (by omega) (by omega) _, h 1 (by omega) (by omega) _, h 1 (by omega) (by omega) _, h 1 (by omega) (by omega) _, h 1 (by omega) (by omega) _, h 1 (by omega) (by omega) _⟩, ⟨h 24 (by omega) (by omega) _, h 24 (by omega) (by omega) _⟩, fun t ht j hj => h _ (by omega) (by omega) _, fun k hk j hj => h _ (by omega) (by omega) _, fun w hw => ⟨h 22 (by omega) (by omega) _, h 23 (by omega) (by omega) _⟩⟩
/-- rows that agree below 167 -/
theorem ky_I_congr {g g' : kx_Rw} {nt nk nw tn : Nat} (h : ∀ j, j < 167 → g' j = g j) (I : ky_I nt nk nw tn g) : ky_I nt nk nw tn g' := by
  obtain ⟨i0, i1, i2, i3, IT, IK, IW⟩ := I
  have := i1.2
  have := i2.2
  have := i3.2
  refine ⟨⟨(h 0 (by omega)).trans i0.1, i0.2⟩, ⟨(h 1 (by omega)).trans i1.1, i1.2⟩, ⟨(h 2 (by omega)).trans i2.1, i2.2⟩, ⟨(h 3 (by omega)).trans i3.1, i3.2⟩, fun t ht => kx_TI_congr (IT t ht) (fun w hw => h _ (by omega)), fun k hk => kx_KI_congr (IK k hk) (fun w hw => h _ (by omega)) (fun t ht w hw => h _ (by omega)), fun w hw => ?_⟩
  have e1 := h (155 + 2 * w) (by omega)
  have e2 := h (155 + 2 * w + 1) (by omega)
  have q := IW w hw
  unfold kx_B ky_n at q ⊢
  rw [e1, e2]
  exact q
theorem ky_G_congr {N : Nat} {g g' : kx_Rw} (h : ∀ j, j < 167 → g' j = g j) (G : ky_G N g) : ky_G N g' := by
  obtain ⟨nt, nk, nw, tn, I, Z, Q, hn⟩ := G
  have := I.2.1.2
  have := I.2.2.1.2
  exact ⟨nt, nk, nw, tn, ky_I_congr h I, ⟨fun t h1 h2 w hw => (h _ (by omega)).trans (Z.1 t h1 h2 w hw), fun k h1 h2 w hw => (h _ (by omega)).trans (Z.2 k h1 h2 w hw)⟩, ky_Q_congr (fun t ht => h _ (by omega)) (fun k hk => h _ (by omega)) Q, hn⟩
theorem ky_R_congr {N d : Nat} {s : kx_G2} {g g' : kx_Rw} (G : ky_G N g) (h : ∀ j, j < 167 → g' j = g j) (R : ky_R d s g) : ky_R d s g' := by
  obtain ⟨nt, nk, nw, tn, I, -⟩ := G
  have hk := I.2.2.1.2
  have ht := I.2.1.2
  have e2 : ky_n g' 2 = ky_n g 2 := by unfold ky_n; rw [h 2 (by omega)]
  unfold ky_R at R ⊢
  rw [e2]
  rw [ky_I_nk I] at R ⊢
  generalize ky_at d s = s at R ⊢
  obtain ⟨r1, r2, r3, r4, r5⟩ := R
  refine ⟨?_, fun t ht6 => ?_, fun k hk12 => ?_, fun w hw6 => ?_, fun k hkn => ?_⟩
  · unfold ky_Cn at r1 ⊢
    rw [h 0 (by omega), h 1 (by omega), h 2 (by omega), h 3 (by omega), h 4 (by omega), h 5 (by omega), h 6 (by omega), h 7 (by omega), h 8 (by omega), h 9 (by omega), h 10 (by omega)]
    exact r1
  · rw [h _ (by omega), h _ (by omega), h _ (by omega), h _ (by omega)]
    exact r2 t ht6
  · have q := r3 k hk12
    unfold ky_K at q ⊢
    rw [h (35 + 10 * k) (by omega), h (35 + 10 * k + 1) (by omega), h (35 + 10 * k + 2) (by omega), h (35 + 10 * k + 3) (by omega), h (35 + 10 * k + 4) (by omega), h (35 + 10 * k + 5) (by omega), h (35 + 10 * k + 6) (by omega), h (35 + 10 * k + 7) (by omega), h (35 + 10 * k + 8) (by omega), h (35 + 10 * k + 9) (by omega)]
    exact q
  · rw [h _ (by omega), h _ (by omega)]
    exact r4 w hw6
  · have q := r5 k hkn
    have h6 := (ky_I_kite I hkn).2.2.1.2
    have e0 : ky_n g' (35 + 10 * k) = ky_n g (35 + 10 * k) := by unfold ky_n; rw [h _ (by omega)]
    unfold ky_Dv at q ⊢
    rw [e0, h (11 + 4 * ky_n g (35 + 10 * k)) (by omega), h (11 + 4 * ky_n g (35 + 10 * k) + 1) (by omega), h (11 + 4 * ky_n g (35 + 10 * k) + 2) (by omega)]
    exact q
/-- n numbers of a row to another -/
def ky_cpy (sg : kx_G2) (A p B q n : Nat) : kx_G2 := fun a j => if a = B ∧ q ≤ j ∧ j < q + n then sg A (p + (j - q)) else sg a j
theorem ky_cpy_s {sg : kx_G2} {A p B q n : Nat} (h : A ≠ B) : kx_up (ky_cpy sg A p B q n) B (q + n) (sg A (p + n)) = ky_cpy sg A p B q (n + 1) := by
  funext a j
  unfold kx_up ky_cpy
  by_cases ha : a = B
  · by_cases hj : j = q + n
    · rw [if_pos ⟨ha, hj⟩, if_pos ⟨ha, by omega, by omega⟩, hj, show q + n - q = n by omega]
    · rw [if_neg (fun z => hj z.2)]
      by_cases hq : q ≤ j ∧ j < q + n
      · rw [if_pos ⟨ha, hq⟩, if_pos ⟨ha, hq.1, by omega⟩]
      · rw [if_neg (fun z => hq z.2), if_neg (fun z => hq ⟨z.2.1, by omega⟩)]
  · rw [if_neg (fun z => ha z.1), if_neg (fun z => ha z.1), if_neg (fun z => ha z.1)]
theorem ky_cpy_A {sg : kx_G2} {A p B q n : Nat} (h : A ≠ B) : ky_cpy sg A p B q n A = sg A := by
  funext j
  exact if_neg (fun z => h z.1)
theorem ky_cpy_ne {sg : kx_G2} {A p B q n a : Nat} (h : a ≠ B) : ky_cpy sg A p B q n a = sg a := by
  funext j
  exact if_neg (fun z => h z.1)
theorem ky_cpy_0 {sg : kx_G2} {A p B q : Nat} : ky_cpy sg A p B q 0 = sg := by
  funext a j
  exact if_neg (fun z => by omega)
theorem kx_nat_a {a b : Nat} : Int32.ofNat a + Int32.ofNat b = Int32.ofNat (a + b) := (Int32.ofNat_add a b).symm
theorem kx_nat_167 {c : Nat} : (167 : Int32) * Int32.ofNat c = Int32.ofNat (167 * c) := (Int32.ofNat_mul 167 c).symm
theorem ky_l167 {k : Nat} (h : k < 100000) : (Int32.ofNat k < 167) = (k < 167) := kx_nat_lt (b := 167) (by omega) (by decide)
theorem ky_l1169 {k : Nat} (h : k < 100000) : (Int32.ofNat k < 1169) = (k < 1169) := kx_nat_lt (b := 1169) (by omega) (by decide)
theorem ky_e8 {k : Nat} (h : k < 100000) : (Int32.ofNat k = 8) = (k = 8) := kx_nat_eq (b := 8) (by omega) (by decide)
section KxKeep
variable {ph : Nat} {sc : Nat × (Nat → Int32)} {sg : kx_G2} {lm : Nat → Nat → Int64}
theorem kx_c_132 {A B p q nA nB : Nat} (sA : ∀ sg, kx_sh (kx_pm ph sc sg lm) A = (101, nA)) (sB : ∀ sg, kx_sh (kx_pm ph sc sg lm) B = (101, nB)) (gA : ∀ sg k, kx_dt (kx_pm ph sc sg lm) A k = .int (sg A k)) (pB : ∀ sg k x, kx_put (kx_pm ph sc sg lm) B k (.int x) = kx_pm ph sc (kx_up sg B k x) lm) (hAB : A ≠ B) (hp : p + 167 ≤ nA) (hq : q + 167 ≤ nB) (hA : nA < 10000) (hB : nB < 10000) :
    kx_call 132 [.ref A, .int (Int32.ofNat p), .ref B, .int (Int32.ofNat q)] (kx_pm ph sc sg lm) = some (none, kx_pm ph sc (ky_cpy sg A p B q 167) lm) := by
  have H := kx_iter (n := 167) (fun k => kx_D 132 3 [some (.ref A), some (.int (Int32.ofNat p)), some (.ref B), some (.int (Int32.ofNat q)), some (.int (Int32.ofNat k))] [] (kx_pm ph sc (ky_cpy sg A p B q k) lm)) (fun k hk => by
    rw [kx_e132_3]
    simp (disch := omega) only [kx_e132_0, kx_e132_1, kx_e132_5, kx_e132_8, kx_e132_11, kx_e132_12, kx_e132_13, kx_e132_15, kx_e132_16, kx_e132_17, kx_e132_18, kx_e132_20, kx_e132_21, kx_e132_22, kx_e132_23, kx_e132_26, kx_e132_29, ↓reduceIte, Bool.true_eq_false, Bool.false_eq_true, reduceCtorEq, Option.bind_some, Option.bind_none, Option.toList_some, Option.toList_none, List.cons_append, List.nil_append, kx_nat_s, not_true_eq_false, not_false_eq_true, Int32.reduceAdd, Int32.reduceSub, Int32.reduceLT, Int32.reduceMul, Int32.reduceDiv, Int32.reduceMod, Nat.reduceLT, Nat.reduceLeDiff, Nat.reduceEqDiff, Nat.reduceAdd, true_and, and_true, kx_le_lt, ite_not, Classical.not_not, kx_ib, ne_eq, gt_iff_lt, ge_iff_le, kx_nw0, kx_nw1, kx_nwb, kx_b0, kx_b1, Nat.lt_irrefl, kx_nat_a, ky_l167, hk, sA, sB, gA, pB, kx_arr_n, kx_nat_i, ky_cpy_A hAB, ky_cpy_s hAB])
  rw [kx_o132]
  simp only [kx_e132_0, kx_e132_1]
  rw [show (0 : Int32) = Int32.ofNat 0 from rfl]
  try dsimp only at H
  rw [ky_cpy_0] at H
  refine H.trans ?_
  rw [kx_e132_3]
  simp (disch := omega) only [kx_e132_0, kx_e132_1, kx_e132_5, kx_e132_8, kx_e132_11, kx_e132_12, kx_e132_13, kx_e132_15, kx_e132_16, kx_e132_17, kx_e132_18, kx_e132_20, kx_e132_21, kx_e132_22, kx_e132_23, kx_e132_26, kx_e132_29, ↓reduceIte, Bool.true_eq_false, Bool.false_eq_true, reduceCtorEq, Option.bind_some, Option.bind_none, Option.toList_some, Option.toList_none, List.cons_append, List.nil_append, kx_nat_s, not_true_eq_false, not_false_eq_true, Int32.reduceAdd, Int32.reduceSub, Int32.reduceLT, Int32.reduceMul, Int32.reduceDiv, Int32.reduceMod, Nat.reduceLT, Nat.reduceLeDiff, Nat.reduceEqDiff, Nat.reduceAdd, true_and, and_true, kx_le_lt, ite_not, Classical.not_not, kx_ib, ne_eq, gt_iff_lt, ge_iff_le, kx_nw0, kx_nw1, kx_nwb, kx_b0, kx_b1, Nat.lt_irrefl, ky_l167]
/-- the rows kept: all one place on -/
def ky_shf (sg : kx_G2) (n : Nat) : kx_G2 := fun a j => if a = 300 ∧ j < n then sg 300 (j + 167) else sg a j
theorem ky_shf_s {n : Nat} : kx_up (ky_shf sg n) 300 n (sg 300 (n + 167)) = ky_shf sg (n + 1) := by
  funext a j
  unfold kx_up ky_shf
  by_cases ha : a = 300
  · by_cases hj : j = n
    · rw [if_pos ⟨ha, hj⟩, if_pos ⟨ha, by omega⟩, hj]
    · rw [if_neg (fun z => hj z.2)]
      by_cases hq : j < n
      · rw [if_pos ⟨ha, hq⟩, if_pos ⟨ha, by omega⟩]
      · rw [if_neg (fun z => hq z.2), if_neg (fun z => hq (by omega))]
  · rw [if_neg (fun z => ha z.1), if_neg (fun z => ha z.1), if_neg (fun z => ha z.1)]
theorem ky_shf_hi {n j : Nat} (h : n ≤ j) : ky_shf sg n 300 j = sg 300 j := if_neg (fun z => by omega)
theorem ky_shf_ne {n a j : Nat} (h : a ≠ 300) : ky_shf sg n a j = sg a j := if_neg (fun z => h z.1)
theorem ky_shf_0 : ky_shf sg 0 = sg := by
  funext a j
  exact if_neg (fun z => by omega)
end KxKeep
def ky_kept (c : Nat) (row : kx_Rw) (sg sg' : kx_G2) : Prop := sg' 298 6 = Int32.ofNat (min 8 (c + 1)) ∧ (∀ a j, a ≠ 300 → (a ≠ 298 ∨ j ≠ 6) → sg' a j = sg a j) ∧ (∀ j, j < 167 → sg' 300 (167 * min 7 c + j) = row j) ∧ ∀ i, i < min 7 c → ∀ j, j < 167 → sg' 300 (167 * i + j) = sg 300 (167 * (if c = 8 then i + 1 else i) + j)
theorem kx_nat_m1 {n : Nat} (h : 1 ≤ n) (h2 : n < 2147483648) : Int32.ofNat n - 1 = Int32.ofNat (n - 1) := kx_nat_d h h2
section KxKeep2
variable {ph : Nat} {sc : Nat × (Nat → Int32)} {sg : kx_G2} {lm : Nat → Nat → Int64}
theorem kx_c_132_299 {sg : kx_G2} {q : Nat} (hq : q + 167 ≤ 1336) : kx_call 132 [.ref 299, .int 0, .ref 300, .int (Int32.ofNat q)] (kx_pm ph sc sg lm) = some (none, kx_pm ph sc (ky_cpy sg 299 0 300 q 167) lm) :=
  kx_c_132 (p := 0) (nA := 167) (nB := 1336) (fun _ => kx_s_299) (fun _ => kx_s_300) (fun _ _ => kx_g_299) (fun _ _ _ => kx_p_300) (by decide) (by decide) hq (by decide) (by decide)
theorem kx_c_131_299 {c : Nat} (h7 : sg 298 7 = 0) (h6 : sg 298 6 = Int32.ofNat c) (hc : c ≤ 8) : ∃ sg', kx_call 131 [.ref 298, .ref 299] (kx_pm ph sc sg lm) = some (none, kx_pm ph sc sg' lm) ∧ ky_kept c (sg 299) sg sg' := by
  by_cases h8 : c = 8
  · subst h8
    have H := kx_iter (n := 1169) (fun k => kx_D 131 19 [some (.ref 298), some (.ref 299), some (.int (Int32.ofNat k))] [] (kx_pm ph sc (ky_shf sg k) lm)) (fun k hk => by
      rw [kx_e131_19]
      simp (disch := omega) only [kx_e131_0, kx_e131_1, kx_e131_4, kx_e131_7, kx_e131_8, kx_e131_9, kx_e131_12, kx_e131_14, kx_e131_17, kx_e131_18, kx_e131_20, kx_e131_23, kx_e131_26, kx_e131_27, kx_e131_30, kx_e131_31, kx_e131_32, kx_e131_35, kx_e131_36, kx_e131_39, kx_e131_40, kx_e131_41, kx_e131_42, kx_e131_45, kx_e131_48, kx_e131_49, kx_e131_50, kx_e131_53, kx_e131_54, kx_e131_55, kx_e131_58, kx_e131_59, kx_e131_60, kx_e131_61, kx_e131_64, kx_e131_67, kx_e131_68, kx_e131_71, kx_e131_72, kx_e131_75, kx_e131_76, kx_e131_77, kx_e131_80, kx_e131_81, kx_e131_82, kx_e131_85, kx_s_0, kx_s_1, kx_s_2, kx_s_tw, kx_s_9, kx_s_kt, kx_s_22, kx_s_23, kx_s_24, kx_s_73, kx_s_74, kx_s_267, kx_s_268, kx_s_269, kx_s_270, kx_s_271, kx_s_272, kx_s_273, kx_s_274, kx_s_275, kx_s_276, kx_s_277, kx_s_278, kx_s_279, kx_s_280, kx_s_281, kx_s_282, kx_s_or, kx_s_296, kx_s_297, kx_s_298, kx_s_299, kx_s_300, kx_s_301, kx_s_302, kx_s_303, kx_s_304, kx_s_305, kx_s_306, kx_s_307, kx_s_308, kx_s_309, kx_s_310, kx_g_0_0, kx_g_0_1, kx_g_0_2, kx_g_0_3, kx_g_0_4, kx_g_0_5, kx_g_0_6, kx_g_0_7, kx_g_0_8, kx_g_0_9, kx_g_0_10, kx_g_1_0, kx_g_1_1, kx_g_1_2, kx_g_1_3, kx_g_1_4, kx_g_1_5, kx_g_1_6, kx_g_1_7, kx_g_1_8, kx_g_1_9, kx_g_1_10, kx_g_1_11, kx_g_1_12, kx_g_1_13, kx_g_2, kx_g_tw, kx_g_9, kx_g_kt, kx_g_22, kx_g_23, kx_g_24, kx_g_73_0, kx_g_73_1, kx_g_73_2, kx_g_74, kx_g_267_0, kx_g_267_1, kx_g_267_2, kx_g_268, kx_g_269_0, kx_g_269_1, kx_g_269_2, kx_g_270, kx_g_271_0, kx_g_271_1, kx_g_271_2, kx_g_271_3, kx_g_272_0, kx_g_272_1, kx_g_272_2, kx_g_273, kx_g_274_0, kx_g_274_1, kx_g_274_2, kx_g_275, kx_g_276_0, kx_g_276_1, kx_g_276_2, kx_g_277, kx_g_278, kx_g_279_0, kx_g_279_1, kx_g_279_2, kx_g_279_3, kx_g_279_4, kx_g_280_0, kx_g_280_1, kx_g_280_2, kx_g_280_3, kx_g_281, kx_g_282, kx_g_or, kx_g_296_0, kx_g_296_1, kx_g_296_2, kx_g_296_3, kx_g_297, kx_g_298_0, kx_g_298_1, kx_g_298_2, kx_g_298_3, kx_g_298_4, kx_g_298_5, kx_g_298_6, kx_g_298_7, kx_g_298_8, kx_g_298_9, kx_g_298_10, kx_g_298_11, kx_g_298_12, kx_g_298_13, kx_g_298_14, kx_g_298_15, kx_g_298_16, kx_g_298_17, kx_g_298_18, kx_g_298_19, kx_g_298_20, kx_g_299, kx_g_300, kx_g_301, kx_g_302, kx_g_303, kx_g_304, kx_g_305, kx_g_306, kx_g_307, kx_g_308, kx_g_309, kx_g_310, kx_p_0_3, kx_p_0_9, kx_p_0_10, kx_p_1_0, kx_p_1_2, kx_p_1_4, kx_p_1_7, kx_p_1_9, kx_p_1_10, kx_p_1_11, kx_p_1_12, kx_p_1_13, kx_p_tw, kx_p_kt, kx_p_22, kx_p_23, kx_p_24, kx_p_73_1, kx_p_73_2, kx_p_268, kx_p_269_0, kx_p_269_1, kx_p_269_2, kx_p_270, kx_p_273, kx_p_274_0, kx_p_274_1, kx_p_274_2, kx_p_275, kx_p_276_0, kx_p_276_1, kx_p_276_2, kx_p_277, kx_p_278, kx_p_279_2, kx_p_279_3, kx_p_279_4, kx_p_280_1, kx_p_280_2, kx_p_280_3, kx_p_281, kx_p_or, kx_p_296_1, kx_p_296_2, kx_p_296_3, kx_p_297, kx_p_298_5, kx_p_298_6, kx_p_298_7, kx_p_298_8, kx_p_298_9, kx_p_298_11, kx_p_298_13, kx_p_298_18, kx_p_298_20, kx_p_299, kx_p_300, kx_p_301, kx_p_302, kx_p_303, kx_p_304, kx_p_305, kx_p_306, kx_p_307, kx_p_308, kx_p_309, kx_p_310, ↓reduceIte, Bool.true_eq_false, Bool.false_eq_true, reduceCtorEq, Option.bind_some, Option.bind_none, Option.toList_some, Option.toList_none, List.cons_append, List.nil_append, kx_nat_s, not_true_eq_false, not_false_eq_true, Int32.reduceAdd, Int32.reduceSub, Int32.reduceLT, Int32.reduceMul, Int32.reduceDiv, Int32.reduceMod, Nat.reduceLT, Nat.reduceLeDiff, Nat.reduceEqDiff, Nat.reduceAdd, true_and, and_true, kx_le_lt, ite_not, Classical.not_not, kx_ib, ne_eq, gt_iff_lt, ge_iff_le, kx_nw0, kx_nw1, kx_nwb, kx_b0, kx_b1, Nat.lt_irrefl, kx_up_eq, kx_ul_eq, kx_up_ne, kx_ul_ne, kx_arr_n, kx_nat_i, kx_nat_lt, kx_sr_rd, kx_sr_ne, kx_sr_up, kx_sr_upn, kx_u1_eq, kx_u1_ne, kx_tn_0, kx_tn_1, kx_tn_2, kx_tn_3, kx_tn_4, kx_tn_5, kx_tn_6, kx_tn_7, kx_tn_8, kx_tn_9, kx_tn_10, kx_tn_11, kx_tn_12, kx_la_0, kx_la_1, kx_la_2, kx_la_3, kx_la_4, kx_la_5, kx_la_6, kx_la_7, kx_la_8, kx_la_9, kx_la_10, kx_la_11, kx_la_12, kx_j10_0, kx_j10_1, kx_j10_2, kx_j10_3, kx_j10_4, kx_j10_5, kx_j10_6, kx_j10_7, kx_j10_8, kx_j10_9, kx_j4_0, kx_j4_1, kx_j4_2, kx_j4_3, kx_rfr, ky_l1169, hk, kx_nat_a, show ((167 : Int32) = Int32.ofNat 167) from rfl]
      rw [← ky_shf_s (sg := sg) (n := k)]
      simp (disch := omega) only [ky_shf_hi])
    try dsimp only at H
    rw [ky_shf_0, show Int32.ofNat 0 = 0 from rfl] at H
    have c1 := fun s => kx_c_132_299 (ph := ph) (sc := sc) (lm := lm) (sg := s) (q := 1169) (by decide)
    refine ⟨_, by
      rw [kx_o131]
      simp (disch := omega) only [kx_e131_0, kx_e131_1, kx_e131_4, kx_e131_8, kx_e131_9, kx_e131_12, kx_e131_14, kx_e131_17, kx_e131_18, kx_s_0, kx_s_1, kx_s_2, kx_s_tw, kx_s_9, kx_s_kt, kx_s_22, kx_s_23, kx_s_24, kx_s_73, kx_s_74, kx_s_267, kx_s_268, kx_s_269, kx_s_270, kx_s_271, kx_s_272, kx_s_273, kx_s_274, kx_s_275, kx_s_276, kx_s_277, kx_s_278, kx_s_279, kx_s_280, kx_s_281, kx_s_282, kx_s_or, kx_s_296, kx_s_297, kx_s_298, kx_s_299, kx_s_300, kx_s_301, kx_s_302, kx_s_303, kx_s_304, kx_s_305, kx_s_306, kx_s_307, kx_s_308, kx_s_309, kx_s_310, kx_g_0_0, kx_g_0_1, kx_g_0_2, kx_g_0_3, kx_g_0_4, kx_g_0_5, kx_g_0_6, kx_g_0_7, kx_g_0_8, kx_g_0_9, kx_g_0_10, kx_g_1_0, kx_g_1_1, kx_g_1_2, kx_g_1_3, kx_g_1_4, kx_g_1_5, kx_g_1_6, kx_g_1_7, kx_g_1_8, kx_g_1_9, kx_g_1_10, kx_g_1_11, kx_g_1_12, kx_g_1_13, kx_g_2, kx_g_tw, kx_g_9, kx_g_kt, kx_g_22, kx_g_23, kx_g_24, kx_g_73_0, kx_g_73_1, kx_g_73_2, kx_g_74, kx_g_267_0, kx_g_267_1, kx_g_267_2, kx_g_268, kx_g_269_0, kx_g_269_1, kx_g_269_2, kx_g_270, kx_g_271_0, kx_g_271_1, kx_g_271_2, kx_g_271_3, kx_g_272_0, kx_g_272_1, kx_g_272_2, kx_g_273, kx_g_274_0, kx_g_274_1, kx_g_274_2, kx_g_275, kx_g_276_0, kx_g_276_1, kx_g_276_2, kx_g_277, kx_g_278, kx_g_279_0, kx_g_279_1, kx_g_279_2, kx_g_279_3, kx_g_279_4, kx_g_280_0, kx_g_280_1, kx_g_280_2, kx_g_280_3, kx_g_281, kx_g_282, kx_g_or, kx_g_296_0, kx_g_296_1, kx_g_296_2, kx_g_296_3, kx_g_297, kx_g_298_0, kx_g_298_1, kx_g_298_2, kx_g_298_3, kx_g_298_4, kx_g_298_5, kx_g_298_6, kx_g_298_7, kx_g_298_8, kx_g_298_9, kx_g_298_10, kx_g_298_11, kx_g_298_12, kx_g_298_13, kx_g_298_14, kx_g_298_15, kx_g_298_16, kx_g_298_17, kx_g_298_18, kx_g_298_19, kx_g_298_20, kx_g_299, kx_g_300, kx_g_301, kx_g_302, kx_g_303, kx_g_304, kx_g_305, kx_g_306, kx_g_307, kx_g_308, kx_g_309, kx_g_310, kx_p_0_3, kx_p_0_9, kx_p_0_10, kx_p_1_0, kx_p_1_2, kx_p_1_4, kx_p_1_7, kx_p_1_9, kx_p_1_10, kx_p_1_11, kx_p_1_12, kx_p_1_13, kx_p_tw, kx_p_kt, kx_p_22, kx_p_23, kx_p_24, kx_p_73_1, kx_p_73_2, kx_p_268, kx_p_269_0, kx_p_269_1, kx_p_269_2, kx_p_270, kx_p_273, kx_p_274_0, kx_p_274_1, kx_p_274_2, kx_p_275, kx_p_276_0, kx_p_276_1, kx_p_276_2, kx_p_277, kx_p_278, kx_p_279_2, kx_p_279_3, kx_p_279_4, kx_p_280_1, kx_p_280_2, kx_p_280_3, kx_p_281, kx_p_or, kx_p_296_1, kx_p_296_2, kx_p_296_3, kx_p_297, kx_p_298_5, kx_p_298_6, kx_p_298_7, kx_p_298_8, kx_p_298_9, kx_p_298_11, kx_p_298_13, kx_p_298_18, kx_p_298_20, kx_p_299, kx_p_300, kx_p_301, kx_p_302, kx_p_303, kx_p_304, kx_p_305, kx_p_306, kx_p_307, kx_p_308, kx_p_309, kx_p_310, ↓reduceIte, Bool.true_eq_false, Bool.false_eq_true, reduceCtorEq, Option.bind_some, Option.bind_none, Option.toList_some, Option.toList_none, List.cons_append, List.nil_append, kx_nat_s, not_true_eq_false, not_false_eq_true, Int32.reduceAdd, Int32.reduceSub, Int32.reduceLT, Int32.reduceMul, Int32.reduceDiv, Int32.reduceMod, Nat.reduceLT, Nat.reduceLeDiff, Nat.reduceEqDiff, Nat.reduceAdd, true_and, and_true, kx_le_lt, ite_not, Classical.not_not, kx_ib, ne_eq, gt_iff_lt, ge_iff_le, kx_nw0, kx_nw1, kx_nwb, kx_b0, kx_b1, Nat.lt_irrefl, kx_up_eq, kx_ul_eq, kx_up_ne, kx_ul_ne, kx_arr_n, kx_nat_i, kx_nat_lt, kx_sr_rd, kx_sr_ne, kx_sr_up, kx_sr_upn, kx_u1_eq, kx_u1_ne, kx_tn_0, kx_tn_1, kx_tn_2, kx_tn_3, kx_tn_4, kx_tn_5, kx_tn_6, kx_tn_7, kx_tn_8, kx_tn_9, kx_tn_10, kx_tn_11, kx_tn_12, kx_la_0, kx_la_1, kx_la_2, kx_la_3, kx_la_4, kx_la_5, kx_la_6, kx_la_7, kx_la_8, kx_la_9, kx_la_10, kx_la_11, kx_la_12, kx_j10_0, kx_j10_1, kx_j10_2, kx_j10_3, kx_j10_4, kx_j10_5, kx_j10_6, kx_j10_7, kx_j10_8, kx_j10_9, kx_j4_0, kx_j4_1, kx_j4_2, kx_j4_3, kx_rfr, h7, h6, show ((Int32.ofNat 8 : Int32) = 8) = True from eq_true rfl]
      refine H.trans ?_
      rw [kx_e131_19]
      simp (disch := omega) only [kx_e131_0, kx_e131_1, kx_e131_4, kx_e131_7, kx_e131_8, kx_e131_9, kx_e131_12, kx_e131_14, kx_e131_17, kx_e131_18, kx_e131_20, kx_e131_23, kx_e131_26, kx_e131_27, kx_e131_30, kx_e131_31, kx_e131_32, kx_e131_35, kx_e131_36, kx_e131_39, kx_e131_40, kx_e131_41, kx_e131_42, kx_e131_45, kx_e131_48, kx_e131_49, kx_e131_50, kx_e131_53, kx_e131_54, kx_e131_55, kx_e131_58, kx_e131_59, kx_e131_60, kx_e131_61, kx_e131_64, kx_e131_67, kx_e131_68, kx_e131_71, kx_e131_72, kx_e131_75, kx_e131_76, kx_e131_77, kx_e131_80, kx_e131_81, kx_e131_82, kx_e131_85, kx_s_0, kx_s_1, kx_s_2, kx_s_tw, kx_s_9, kx_s_kt, kx_s_22, kx_s_23, kx_s_24, kx_s_73, kx_s_74, kx_s_267, kx_s_268, kx_s_269, kx_s_270, kx_s_271, kx_s_272, kx_s_273, kx_s_274, kx_s_275, kx_s_276, kx_s_277, kx_s_278, kx_s_279, kx_s_280, kx_s_281, kx_s_282, kx_s_or, kx_s_296, kx_s_297, kx_s_298, kx_s_299, kx_s_300, kx_s_301, kx_s_302, kx_s_303, kx_s_304, kx_s_305, kx_s_306, kx_s_307, kx_s_308, kx_s_309, kx_s_310, kx_g_0_0, kx_g_0_1, kx_g_0_2, kx_g_0_3, kx_g_0_4, kx_g_0_5, kx_g_0_6, kx_g_0_7, kx_g_0_8, kx_g_0_9, kx_g_0_10, kx_g_1_0, kx_g_1_1, kx_g_1_2, kx_g_1_3, kx_g_1_4, kx_g_1_5, kx_g_1_6, kx_g_1_7, kx_g_1_8, kx_g_1_9, kx_g_1_10, kx_g_1_11, kx_g_1_12, kx_g_1_13, kx_g_2, kx_g_tw, kx_g_9, kx_g_kt, kx_g_22, kx_g_23, kx_g_24, kx_g_73_0, kx_g_73_1, kx_g_73_2, kx_g_74, kx_g_267_0, kx_g_267_1, kx_g_267_2, kx_g_268, kx_g_269_0, kx_g_269_1, kx_g_269_2, kx_g_270, kx_g_271_0, kx_g_271_1, kx_g_271_2, kx_g_271_3, kx_g_272_0, kx_g_272_1, kx_g_272_2, kx_g_273, kx_g_274_0, kx_g_274_1, kx_g_274_2, kx_g_275, kx_g_276_0, kx_g_276_1, kx_g_276_2, kx_g_277, kx_g_278, kx_g_279_0, kx_g_279_1, kx_g_279_2, kx_g_279_3, kx_g_279_4, kx_g_280_0, kx_g_280_1, kx_g_280_2, kx_g_280_3, kx_g_281, kx_g_282, kx_g_or, kx_g_296_0, kx_g_296_1, kx_g_296_2, kx_g_296_3, kx_g_297, kx_g_298_0, kx_g_298_1, kx_g_298_2, kx_g_298_3, kx_g_298_4, kx_g_298_5, kx_g_298_6, kx_g_298_7, kx_g_298_8, kx_g_298_9, kx_g_298_10, kx_g_298_11, kx_g_298_12, kx_g_298_13, kx_g_298_14, kx_g_298_15, kx_g_298_16, kx_g_298_17, kx_g_298_18, kx_g_298_19, kx_g_298_20, kx_g_299, kx_g_300, kx_g_301, kx_g_302, kx_g_303, kx_g_304, kx_g_305, kx_g_306, kx_g_307, kx_g_308, kx_g_309, kx_g_310, kx_p_0_3, kx_p_0_9, kx_p_0_10, kx_p_1_0, kx_p_1_2, kx_p_1_4, kx_p_1_7, kx_p_1_9, kx_p_1_10, kx_p_1_11, kx_p_1_12, kx_p_1_13, kx_p_tw, kx_p_kt, kx_p_22, kx_p_23, kx_p_24, kx_p_73_1, kx_p_73_2, kx_p_268, kx_p_269_0, kx_p_269_1, kx_p_269_2, kx_p_270, kx_p_273, kx_p_274_0, kx_p_274_1, kx_p_274_2, kx_p_275, kx_p_276_0, kx_p_276_1, kx_p_276_2, kx_p_277, kx_p_278, kx_p_279_2, kx_p_279_3, kx_p_279_4, kx_p_280_1, kx_p_280_2, kx_p_280_3, kx_p_281, kx_p_or, kx_p_296_1, kx_p_296_2, kx_p_296_3, kx_p_297, kx_p_298_5, kx_p_298_6, kx_p_298_7, kx_p_298_8, kx_p_298_9, kx_p_298_11, kx_p_298_13, kx_p_298_18, kx_p_298_20, kx_p_299, kx_p_300, kx_p_301, kx_p_302, kx_p_303, kx_p_304, kx_p_305, kx_p_306, kx_p_307, kx_p_308, kx_p_309, kx_p_310, ↓reduceIte, Bool.true_eq_false, Bool.false_eq_true, reduceCtorEq, Option.bind_some, Option.bind_none, Option.toList_some, Option.toList_none, List.cons_append, List.nil_append, kx_nat_s, not_true_eq_false, not_false_eq_true, Int32.reduceAdd, Int32.reduceSub, Int32.reduceLT, Int32.reduceMul, Int32.reduceDiv, Int32.reduceMod, Nat.reduceLT, Nat.reduceLeDiff, Nat.reduceEqDiff, Nat.reduceAdd, true_and, and_true, kx_le_lt, ite_not, Classical.not_not, kx_ib, ne_eq, gt_iff_lt, ge_iff_le, kx_nw0, kx_nw1, kx_nwb, kx_b0, kx_b1, Nat.lt_irrefl, kx_up_eq, kx_ul_eq, kx_up_ne, kx_ul_ne, kx_arr_n, kx_nat_i, kx_nat_lt, kx_sr_rd, kx_sr_ne, kx_sr_up, kx_sr_upn, kx_u1_eq, kx_u1_ne, kx_tn_0, kx_tn_1, kx_tn_2, kx_tn_3, kx_tn_4, kx_tn_5, kx_tn_6, kx_tn_7, kx_tn_8, kx_tn_9, kx_tn_10, kx_tn_11, kx_tn_12, kx_la_0, kx_la_1, kx_la_2, kx_la_3, kx_la_4, kx_la_5, kx_la_6, kx_la_7, kx_la_8, kx_la_9, kx_la_10, kx_la_11, kx_la_12, kx_j10_0, kx_j10_1, kx_j10_2, kx_j10_3, kx_j10_4, kx_j10_5, kx_j10_6, kx_j10_7, kx_j10_8, kx_j10_9, kx_j4_0, kx_j4_1, kx_j4_2, kx_j4_3, kx_rfr, ky_l1169, ky_shf_ne, h6, kx_nat_d, kx_nat_167, c1, ky_cpy_ne]
      rfl, ?_⟩
    refine ⟨?_, fun a j h1 h2 => ?_, fun j hj => ?_, fun i hi j hj => ?_⟩
    · exact kx_up_eq
    · rw [kx_up_ne (by omega), ky_cpy_ne h1, kx_up_ne (by omega), ky_shf_ne h1]
    · rw [kx_up_ne (by omega)]
      unfold ky_cpy
      rw [if_pos ⟨rfl, by omega, by omega⟩, kx_up_ne (by omega), ky_shf_ne (by omega), show 0 + (167 * min 7 8 + j - 1169) = j by omega]
    · rw [kx_up_ne (by omega)]
      unfold ky_cpy
      rw [if_neg (fun z => by omega), kx_up_ne (by omega)]
      unfold ky_shf
      rw [if_pos ⟨rfl, by omega⟩, if_pos rfl, show 167 * i + j + 167 = 167 * (i + 1) + j by omega]
  · have c1 := fun s => kx_c_132_299 (ph := ph) (sc := sc) (lm := lm) (sg := s) (q := 167 * c) (by omega)
    refine ⟨_, by
      rw [kx_o131]
      simp (disch := omega) only [kx_e131_0, kx_e131_1, kx_e131_4, kx_e131_7, kx_e131_8, kx_e131_9, kx_e131_12, kx_e131_14, kx_e131_17, kx_e131_18, kx_e131_19, kx_e131_20, kx_e131_23, kx_e131_26, kx_e131_27, kx_e131_30, kx_e131_31, kx_e131_32, kx_e131_35, kx_e131_36, kx_e131_39, kx_e131_40, kx_e131_41, kx_e131_42, kx_e131_45, kx_e131_48, kx_e131_49, kx_e131_50, kx_e131_53, kx_e131_54, kx_e131_55, kx_e131_58, kx_e131_59, kx_e131_60, kx_e131_61, kx_e131_64, kx_e131_67, kx_e131_68, kx_e131_71, kx_e131_72, kx_e131_75, kx_e131_76, kx_e131_77, kx_e131_80, kx_e131_81, kx_e131_82, kx_e131_85, kx_s_0, kx_s_1, kx_s_2, kx_s_tw, kx_s_9, kx_s_kt, kx_s_22, kx_s_23, kx_s_24, kx_s_73, kx_s_74, kx_s_267, kx_s_268, kx_s_269, kx_s_270, kx_s_271, kx_s_272, kx_s_273, kx_s_274, kx_s_275, kx_s_276, kx_s_277, kx_s_278, kx_s_279, kx_s_280, kx_s_281, kx_s_282, kx_s_or, kx_s_296, kx_s_297, kx_s_298, kx_s_299, kx_s_300, kx_s_301, kx_s_302, kx_s_303, kx_s_304, kx_s_305, kx_s_306, kx_s_307, kx_s_308, kx_s_309, kx_s_310, kx_g_0_0, kx_g_0_1, kx_g_0_2, kx_g_0_3, kx_g_0_4, kx_g_0_5, kx_g_0_6, kx_g_0_7, kx_g_0_8, kx_g_0_9, kx_g_0_10, kx_g_1_0, kx_g_1_1, kx_g_1_2, kx_g_1_3, kx_g_1_4, kx_g_1_5, kx_g_1_6, kx_g_1_7, kx_g_1_8, kx_g_1_9, kx_g_1_10, kx_g_1_11, kx_g_1_12, kx_g_1_13, kx_g_2, kx_g_tw, kx_g_9, kx_g_kt, kx_g_22, kx_g_23, kx_g_24, kx_g_73_0, kx_g_73_1, kx_g_73_2, kx_g_74, kx_g_267_0, kx_g_267_1, kx_g_267_2, kx_g_268, kx_g_269_0, kx_g_269_1, kx_g_269_2, kx_g_270, kx_g_271_0, kx_g_271_1, kx_g_271_2, kx_g_271_3, kx_g_272_0, kx_g_272_1, kx_g_272_2, kx_g_273, kx_g_274_0, kx_g_274_1, kx_g_274_2, kx_g_275, kx_g_276_0, kx_g_276_1, kx_g_276_2, kx_g_277, kx_g_278, kx_g_279_0, kx_g_279_1, kx_g_279_2, kx_g_279_3, kx_g_279_4, kx_g_280_0, kx_g_280_1, kx_g_280_2, kx_g_280_3, kx_g_281, kx_g_282, kx_g_or, kx_g_296_0, kx_g_296_1, kx_g_296_2, kx_g_296_3, kx_g_297, kx_g_298_0, kx_g_298_1, kx_g_298_2, kx_g_298_3, kx_g_298_4, kx_g_298_5, kx_g_298_6, kx_g_298_7, kx_g_298_8, kx_g_298_9, kx_g_298_10, kx_g_298_11, kx_g_298_12, kx_g_298_13, kx_g_298_14, kx_g_298_15, kx_g_298_16, kx_g_298_17, kx_g_298_18, kx_g_298_19, kx_g_298_20, kx_g_299, kx_g_300, kx_g_301, kx_g_302, kx_g_303, kx_g_304, kx_g_305, kx_g_306, kx_g_307, kx_g_308, kx_g_309, kx_g_310, kx_p_0_3, kx_p_0_9, kx_p_0_10, kx_p_1_0, kx_p_1_2, kx_p_1_4, kx_p_1_7, kx_p_1_9, kx_p_1_10, kx_p_1_11, kx_p_1_12, kx_p_1_13, kx_p_tw, kx_p_kt, kx_p_22, kx_p_23, kx_p_24, kx_p_73_1, kx_p_73_2, kx_p_268, kx_p_269_0, kx_p_269_1, kx_p_269_2, kx_p_270, kx_p_273, kx_p_274_0, kx_p_274_1, kx_p_274_2, kx_p_275, kx_p_276_0, kx_p_276_1, kx_p_276_2, kx_p_277, kx_p_278, kx_p_279_2, kx_p_279_3, kx_p_279_4, kx_p_280_1, kx_p_280_2, kx_p_280_3, kx_p_281, kx_p_or, kx_p_296_1, kx_p_296_2, kx_p_296_3, kx_p_297, kx_p_298_5, kx_p_298_6, kx_p_298_7, kx_p_298_8, kx_p_298_9, kx_p_298_11, kx_p_298_13, kx_p_298_18, kx_p_298_20, kx_p_299, kx_p_300, kx_p_301, kx_p_302, kx_p_303, kx_p_304, kx_p_305, kx_p_306, kx_p_307, kx_p_308, kx_p_309, kx_p_310, ↓reduceIte, Bool.true_eq_false, Bool.false_eq_true, reduceCtorEq, Option.bind_some, Option.bind_none, Option.toList_some, Option.toList_none, List.cons_append, List.nil_append, kx_nat_s, not_true_eq_false, not_false_eq_true, Int32.reduceAdd, Int32.reduceSub, Int32.reduceLT, Int32.reduceMul, Int32.reduceDiv, Int32.reduceMod, Nat.reduceLT, Nat.reduceLeDiff, Nat.reduceEqDiff, Nat.reduceAdd, true_and, and_true, kx_le_lt, ite_not, Classical.not_not, kx_ib, ne_eq, gt_iff_lt, ge_iff_le, kx_nw0, kx_nw1, kx_nwb, kx_b0, kx_b1, Nat.lt_irrefl, kx_up_eq, kx_ul_eq, kx_up_ne, kx_ul_ne, kx_arr_n, kx_nat_i, kx_nat_lt, kx_sr_rd, kx_sr_ne, kx_sr_up, kx_sr_upn, kx_u1_eq, kx_u1_ne, kx_tn_0, kx_tn_1, kx_tn_2, kx_tn_3, kx_tn_4, kx_tn_5, kx_tn_6, kx_tn_7, kx_tn_8, kx_tn_9, kx_tn_10, kx_tn_11, kx_tn_12, kx_la_0, kx_la_1, kx_la_2, kx_la_3, kx_la_4, kx_la_5, kx_la_6, kx_la_7, kx_la_8, kx_la_9, kx_la_10, kx_la_11, kx_la_12, kx_j10_0, kx_j10_1, kx_j10_2, kx_j10_3, kx_j10_4, kx_j10_5, kx_j10_6, kx_j10_7, kx_j10_8, kx_j10_9, kx_j4_0, kx_j4_1, kx_j4_2, kx_j4_3, kx_rfr, h7, h6, ky_e8, h8, kx_nat_167, c1, ky_cpy_ne]
      rfl, ?_⟩
    refine ⟨?_, fun a j h1 h2 => ?_, fun j hj => ?_, fun i hi j hj => ?_⟩
    · rw [kx_up_eq, show min 8 (c + 1) = c + 1 by omega]
    · rw [kx_up_ne (by omega), ky_cpy_ne h1]
    · rw [kx_up_ne (by omega), show min 7 c = c by omega]
      unfold ky_cpy
      rw [if_pos ⟨rfl, by omega, by omega⟩]
      congr 1
      omega
    · rw [kx_up_ne (by omega)]
      unfold ky_cpy
      rw [if_neg (fun z => by omega), if_neg h8]
theorem kx_c_132_302 {sg : kx_G2} {q : Nat} (hq : q + 167 ≤ 1336) : kx_call 132 [.ref 302, .int 0, .ref 300, .int (Int32.ofNat q)] (kx_pm ph sc sg lm) = some (none, kx_pm ph sc (ky_cpy sg 302 0 300 q 167) lm) :=
  kx_c_132 (p := 0) (nA := 167) (nB := 1336) (fun _ => kx_s_302) (fun _ => kx_s_300) (fun _ _ => kx_g_302) (fun _ _ _ => kx_p_300) (by decide) (by decide) hq (by decide) (by decide)
theorem kx_c_131_302 {c : Nat} (h7 : sg 298 7 = 0) (h6 : sg 298 6 = Int32.ofNat c) (hc : c ≤ 8) : ∃ sg', kx_call 131 [.ref 298, .ref 302] (kx_pm ph sc sg lm) = some (none, kx_pm ph sc sg' lm) ∧ ky_kept c (sg 302) sg sg' := by
  by_cases h8 : c = 8
  · subst h8
    have H := kx_iter (n := 1169) (fun k => kx_D 131 19 [some (.ref 298), some (.ref 302), some (.int (Int32.ofNat k))] [] (kx_pm ph sc (ky_shf sg k) lm)) (fun k hk => by
      rw [kx_e131_19]
      simp (disch := omega) only [kx_e131_0, kx_e131_1, kx_e131_4, kx_e131_7, kx_e131_8, kx_e131_9, kx_e131_12, kx_e131_14, kx_e131_17, kx_e131_18, kx_e131_20, kx_e131_23, kx_e131_26, kx_e131_27, kx_e131_30, kx_e131_31, kx_e131_32, kx_e131_35, kx_e131_36, kx_e131_39, kx_e131_40, kx_e131_41, kx_e131_42, kx_e131_45, kx_e131_48, kx_e131_49, kx_e131_50, kx_e131_53, kx_e131_54, kx_e131_55, kx_e131_58, kx_e131_59, kx_e131_60, kx_e131_61, kx_e131_64, kx_e131_67, kx_e131_68, kx_e131_71, kx_e131_72, kx_e131_75, kx_e131_76, kx_e131_77, kx_e131_80, kx_e131_81, kx_e131_82, kx_e131_85, kx_s_0, kx_s_1, kx_s_2, kx_s_tw, kx_s_9, kx_s_kt, kx_s_22, kx_s_23, kx_s_24, kx_s_73, kx_s_74, kx_s_267, kx_s_268, kx_s_269, kx_s_270, kx_s_271, kx_s_272, kx_s_273, kx_s_274, kx_s_275, kx_s_276, kx_s_277, kx_s_278, kx_s_279, kx_s_280, kx_s_281, kx_s_282, kx_s_or, kx_s_296, kx_s_297, kx_s_298, kx_s_299, kx_s_300, kx_s_301, kx_s_302, kx_s_303, kx_s_304, kx_s_305, kx_s_306, kx_s_307, kx_s_308, kx_s_309, kx_s_310, kx_g_0_0, kx_g_0_1, kx_g_0_2, kx_g_0_3, kx_g_0_4, kx_g_0_5, kx_g_0_6, kx_g_0_7, kx_g_0_8, kx_g_0_9, kx_g_0_10, kx_g_1_0, kx_g_1_1, kx_g_1_2, kx_g_1_3, kx_g_1_4, kx_g_1_5, kx_g_1_6, kx_g_1_7, kx_g_1_8, kx_g_1_9, kx_g_1_10, kx_g_1_11, kx_g_1_12, kx_g_1_13, kx_g_2, kx_g_tw, kx_g_9, kx_g_kt, kx_g_22, kx_g_23, kx_g_24, kx_g_73_0, kx_g_73_1, kx_g_73_2, kx_g_74, kx_g_267_0, kx_g_267_1, kx_g_267_2, kx_g_268, kx_g_269_0, kx_g_269_1, kx_g_269_2, kx_g_270, kx_g_271_0, kx_g_271_1, kx_g_271_2, kx_g_271_3, kx_g_272_0, kx_g_272_1, kx_g_272_2, kx_g_273, kx_g_274_0, kx_g_274_1, kx_g_274_2, kx_g_275, kx_g_276_0, kx_g_276_1, kx_g_276_2, kx_g_277, kx_g_278, kx_g_279_0, kx_g_279_1, kx_g_279_2, kx_g_279_3, kx_g_279_4, kx_g_280_0, kx_g_280_1, kx_g_280_2, kx_g_280_3, kx_g_281, kx_g_282, kx_g_or, kx_g_296_0, kx_g_296_1, kx_g_296_2, kx_g_296_3, kx_g_297, kx_g_298_0, kx_g_298_1, kx_g_298_2, kx_g_298_3, kx_g_298_4, kx_g_298_5, kx_g_298_6, kx_g_298_7, kx_g_298_8, kx_g_298_9, kx_g_298_10, kx_g_298_11, kx_g_298_12, kx_g_298_13, kx_g_298_14, kx_g_298_15, kx_g_298_16, kx_g_298_17, kx_g_298_18, kx_g_298_19, kx_g_298_20, kx_g_299, kx_g_300, kx_g_301, kx_g_302, kx_g_303, kx_g_304, kx_g_305, kx_g_306, kx_g_307, kx_g_308, kx_g_309, kx_g_310, kx_p_0_3, kx_p_0_9, kx_p_0_10, kx_p_1_0, kx_p_1_2, kx_p_1_4, kx_p_1_7, kx_p_1_9, kx_p_1_10, kx_p_1_11, kx_p_1_12, kx_p_1_13, kx_p_tw, kx_p_kt, kx_p_22, kx_p_23, kx_p_24, kx_p_73_1, kx_p_73_2, kx_p_268, kx_p_269_0, kx_p_269_1, kx_p_269_2, kx_p_270, kx_p_273, kx_p_274_0, kx_p_274_1, kx_p_274_2, kx_p_275, kx_p_276_0, kx_p_276_1, kx_p_276_2, kx_p_277, kx_p_278, kx_p_279_2, kx_p_279_3, kx_p_279_4, kx_p_280_1, kx_p_280_2, kx_p_280_3, kx_p_281, kx_p_or, kx_p_296_1, kx_p_296_2, kx_p_296_3, kx_p_297, kx_p_298_5, kx_p_298_6, kx_p_298_7, kx_p_298_8, kx_p_298_9, kx_p_298_11, kx_p_298_13, kx_p_298_18, kx_p_298_20, kx_p_299, kx_p_300, kx_p_301, kx_p_302, kx_p_303, kx_p_304, kx_p_305, kx_p_306, kx_p_307, kx_p_308, kx_p_309, kx_p_310, ↓reduceIte, Bool.true_eq_false, Bool.false_eq_true, reduceCtorEq, Option.bind_some, Option.bind_none, Option.toList_some, Option.toList_none, List.cons_append, List.nil_append, kx_nat_s, not_true_eq_false, not_false_eq_true, Int32.reduceAdd, Int32.reduceSub, Int32.reduceLT, Int32.reduceMul, Int32.reduceDiv, Int32.reduceMod, Nat.reduceLT, Nat.reduceLeDiff, Nat.reduceEqDiff, Nat.reduceAdd, true_and, and_true, kx_le_lt, ite_not, Classical.not_not, kx_ib, ne_eq, gt_iff_lt, ge_iff_le, kx_nw0, kx_nw1, kx_nwb, kx_b0, kx_b1, Nat.lt_irrefl, kx_up_eq, kx_ul_eq, kx_up_ne, kx_ul_ne, kx_arr_n, kx_nat_i, kx_nat_lt, kx_sr_rd, kx_sr_ne, kx_sr_up, kx_sr_upn, kx_u1_eq, kx_u1_ne, kx_tn_0, kx_tn_1, kx_tn_2, kx_tn_3, kx_tn_4, kx_tn_5, kx_tn_6, kx_tn_7, kx_tn_8, kx_tn_9, kx_tn_10, kx_tn_11, kx_tn_12, kx_la_0, kx_la_1, kx_la_2, kx_la_3, kx_la_4, kx_la_5, kx_la_6, kx_la_7, kx_la_8, kx_la_9, kx_la_10, kx_la_11, kx_la_12, kx_j10_0, kx_j10_1, kx_j10_2, kx_j10_3, kx_j10_4, kx_j10_5, kx_j10_6, kx_j10_7, kx_j10_8, kx_j10_9, kx_j4_0, kx_j4_1, kx_j4_2, kx_j4_3, kx_rfr, ky_l1169, hk, kx_nat_a, show ((167 : Int32) = Int32.ofNat 167) from rfl]
      rw [← ky_shf_s (sg := sg) (n := k)]
      simp (disch := omega) only [ky_shf_hi])
    try dsimp only at H
    rw [ky_shf_0, show Int32.ofNat 0 = 0 from rfl] at H
    have c1 := fun s => kx_c_132_302 (ph := ph) (sc := sc) (lm := lm) (sg := s) (q := 1169) (by decide)
    refine ⟨_, by
      rw [kx_o131]
      simp (disch := omega) only [kx_e131_0, kx_e131_1, kx_e131_4, kx_e131_8, kx_e131_9, kx_e131_12, kx_e131_14, kx_e131_17, kx_e131_18, kx_s_0, kx_s_1, kx_s_2, kx_s_tw, kx_s_9, kx_s_kt, kx_s_22, kx_s_23, kx_s_24, kx_s_73, kx_s_74, kx_s_267, kx_s_268, kx_s_269, kx_s_270, kx_s_271, kx_s_272, kx_s_273, kx_s_274, kx_s_275, kx_s_276, kx_s_277, kx_s_278, kx_s_279, kx_s_280, kx_s_281, kx_s_282, kx_s_or, kx_s_296, kx_s_297, kx_s_298, kx_s_299, kx_s_300, kx_s_301, kx_s_302, kx_s_303, kx_s_304, kx_s_305, kx_s_306, kx_s_307, kx_s_308, kx_s_309, kx_s_310, kx_g_0_0, kx_g_0_1, kx_g_0_2, kx_g_0_3, kx_g_0_4, kx_g_0_5, kx_g_0_6, kx_g_0_7, kx_g_0_8, kx_g_0_9, kx_g_0_10, kx_g_1_0, kx_g_1_1, kx_g_1_2, kx_g_1_3, kx_g_1_4, kx_g_1_5, kx_g_1_6, kx_g_1_7, kx_g_1_8, kx_g_1_9, kx_g_1_10, kx_g_1_11, kx_g_1_12, kx_g_1_13, kx_g_2, kx_g_tw, kx_g_9, kx_g_kt, kx_g_22, kx_g_23, kx_g_24, kx_g_73_0, kx_g_73_1, kx_g_73_2, kx_g_74, kx_g_267_0, kx_g_267_1, kx_g_267_2, kx_g_268, kx_g_269_0, kx_g_269_1, kx_g_269_2, kx_g_270, kx_g_271_0, kx_g_271_1, kx_g_271_2, kx_g_271_3, kx_g_272_0, kx_g_272_1, kx_g_272_2, kx_g_273, kx_g_274_0, kx_g_274_1, kx_g_274_2, kx_g_275, kx_g_276_0, kx_g_276_1, kx_g_276_2, kx_g_277, kx_g_278, kx_g_279_0, kx_g_279_1, kx_g_279_2, kx_g_279_3, kx_g_279_4, kx_g_280_0, kx_g_280_1, kx_g_280_2, kx_g_280_3, kx_g_281, kx_g_282, kx_g_or, kx_g_296_0, kx_g_296_1, kx_g_296_2, kx_g_296_3, kx_g_297, kx_g_298_0, kx_g_298_1, kx_g_298_2, kx_g_298_3, kx_g_298_4, kx_g_298_5, kx_g_298_6, kx_g_298_7, kx_g_298_8, kx_g_298_9, kx_g_298_10, kx_g_298_11, kx_g_298_12, kx_g_298_13, kx_g_298_14, kx_g_298_15, kx_g_298_16, kx_g_298_17, kx_g_298_18, kx_g_298_19, kx_g_298_20, kx_g_299, kx_g_300, kx_g_301, kx_g_302, kx_g_303, kx_g_304, kx_g_305, kx_g_306, kx_g_307, kx_g_308, kx_g_309, kx_g_310, kx_p_0_3, kx_p_0_9, kx_p_0_10, kx_p_1_0, kx_p_1_2, kx_p_1_4, kx_p_1_7, kx_p_1_9, kx_p_1_10, kx_p_1_11, kx_p_1_12, kx_p_1_13, kx_p_tw, kx_p_kt, kx_p_22, kx_p_23, kx_p_24, kx_p_73_1, kx_p_73_2, kx_p_268, kx_p_269_0, kx_p_269_1, kx_p_269_2, kx_p_270, kx_p_273, kx_p_274_0, kx_p_274_1, kx_p_274_2, kx_p_275, kx_p_276_0, kx_p_276_1, kx_p_276_2, kx_p_277, kx_p_278, kx_p_279_2, kx_p_279_3, kx_p_279_4, kx_p_280_1, kx_p_280_2, kx_p_280_3, kx_p_281, kx_p_or, kx_p_296_1, kx_p_296_2, kx_p_296_3, kx_p_297, kx_p_298_5, kx_p_298_6, kx_p_298_7, kx_p_298_8, kx_p_298_9, kx_p_298_11, kx_p_298_13, kx_p_298_18, kx_p_298_20, kx_p_299, kx_p_300, kx_p_301, kx_p_302, kx_p_303, kx_p_304, kx_p_305, kx_p_306, kx_p_307, kx_p_308, kx_p_309, kx_p_310, ↓reduceIte, Bool.true_eq_false, Bool.false_eq_true, reduceCtorEq, Option.bind_some, Option.bind_none, Option.toList_some, Option.toList_none, List.cons_append, List.nil_append, kx_nat_s, not_true_eq_false, not_false_eq_true, Int32.reduceAdd, Int32.reduceSub, Int32.reduceLT, Int32.reduceMul, Int32.reduceDiv, Int32.reduceMod, Nat.reduceLT, Nat.reduceLeDiff, Nat.reduceEqDiff, Nat.reduceAdd, true_and, and_true, kx_le_lt, ite_not, Classical.not_not, kx_ib, ne_eq, gt_iff_lt, ge_iff_le, kx_nw0, kx_nw1, kx_nwb, kx_b0, kx_b1, Nat.lt_irrefl, kx_up_eq, kx_ul_eq, kx_up_ne, kx_ul_ne, kx_arr_n, kx_nat_i, kx_nat_lt, kx_sr_rd, kx_sr_ne, kx_sr_up, kx_sr_upn, kx_u1_eq, kx_u1_ne, kx_tn_0, kx_tn_1, kx_tn_2, kx_tn_3, kx_tn_4, kx_tn_5, kx_tn_6, kx_tn_7, kx_tn_8, kx_tn_9, kx_tn_10, kx_tn_11, kx_tn_12, kx_la_0, kx_la_1, kx_la_2, kx_la_3, kx_la_4, kx_la_5, kx_la_6, kx_la_7, kx_la_8, kx_la_9, kx_la_10, kx_la_11, kx_la_12, kx_j10_0, kx_j10_1, kx_j10_2, kx_j10_3, kx_j10_4, kx_j10_5, kx_j10_6, kx_j10_7, kx_j10_8, kx_j10_9, kx_j4_0, kx_j4_1, kx_j4_2, kx_j4_3, kx_rfr, h7, h6, show ((Int32.ofNat 8 : Int32) = 8) = True from eq_true rfl]
      refine H.trans ?_
      rw [kx_e131_19]
      simp (disch := omega) only [kx_e131_0, kx_e131_1, kx_e131_4, kx_e131_7, kx_e131_8, kx_e131_9, kx_e131_12, kx_e131_14, kx_e131_17, kx_e131_18, kx_e131_20, kx_e131_23, kx_e131_26, kx_e131_27, kx_e131_30, kx_e131_31, kx_e131_32, kx_e131_35, kx_e131_36, kx_e131_39, kx_e131_40, kx_e131_41, kx_e131_42, kx_e131_45, kx_e131_48, kx_e131_49, kx_e131_50, kx_e131_53, kx_e131_54, kx_e131_55, kx_e131_58, kx_e131_59, kx_e131_60, kx_e131_61, kx_e131_64, kx_e131_67, kx_e131_68, kx_e131_71, kx_e131_72, kx_e131_75, kx_e131_76, kx_e131_77, kx_e131_80, kx_e131_81, kx_e131_82, kx_e131_85, kx_s_0, kx_s_1, kx_s_2, kx_s_tw, kx_s_9, kx_s_kt, kx_s_22, kx_s_23, kx_s_24, kx_s_73, kx_s_74, kx_s_267, kx_s_268, kx_s_269, kx_s_270, kx_s_271, kx_s_272, kx_s_273, kx_s_274, kx_s_275, kx_s_276, kx_s_277, kx_s_278, kx_s_279, kx_s_280, kx_s_281, kx_s_282, kx_s_or, kx_s_296, kx_s_297, kx_s_298, kx_s_299, kx_s_300, kx_s_301, kx_s_302, kx_s_303, kx_s_304, kx_s_305, kx_s_306, kx_s_307, kx_s_308, kx_s_309, kx_s_310, kx_g_0_0, kx_g_0_1, kx_g_0_2, kx_g_0_3, kx_g_0_4, kx_g_0_5, kx_g_0_6, kx_g_0_7, kx_g_0_8, kx_g_0_9, kx_g_0_10, kx_g_1_0, kx_g_1_1, kx_g_1_2, kx_g_1_3, kx_g_1_4, kx_g_1_5, kx_g_1_6, kx_g_1_7, kx_g_1_8, kx_g_1_9, kx_g_1_10, kx_g_1_11, kx_g_1_12, kx_g_1_13, kx_g_2, kx_g_tw, kx_g_9, kx_g_kt, kx_g_22, kx_g_23, kx_g_24, kx_g_73_0, kx_g_73_1, kx_g_73_2, kx_g_74, kx_g_267_0, kx_g_267_1, kx_g_267_2, kx_g_268, kx_g_269_0, kx_g_269_1, kx_g_269_2, kx_g_270, kx_g_271_0, kx_g_271_1, kx_g_271_2, kx_g_271_3, kx_g_272_0, kx_g_272_1, kx_g_272_2, kx_g_273, kx_g_274_0, kx_g_274_1, kx_g_274_2, kx_g_275, kx_g_276_0, kx_g_276_1, kx_g_276_2, kx_g_277, kx_g_278, kx_g_279_0, kx_g_279_1, kx_g_279_2, kx_g_279_3, kx_g_279_4, kx_g_280_0, kx_g_280_1, kx_g_280_2, kx_g_280_3, kx_g_281, kx_g_282, kx_g_or, kx_g_296_0, kx_g_296_1, kx_g_296_2, kx_g_296_3, kx_g_297, kx_g_298_0, kx_g_298_1, kx_g_298_2, kx_g_298_3, kx_g_298_4, kx_g_298_5, kx_g_298_6, kx_g_298_7, kx_g_298_8, kx_g_298_9, kx_g_298_10, kx_g_298_11, kx_g_298_12, kx_g_298_13, kx_g_298_14, kx_g_298_15, kx_g_298_16, kx_g_298_17, kx_g_298_18, kx_g_298_19, kx_g_298_20, kx_g_299, kx_g_300, kx_g_301, kx_g_302, kx_g_303, kx_g_304, kx_g_305, kx_g_306, kx_g_307, kx_g_308, kx_g_309, kx_g_310, kx_p_0_3, kx_p_0_9, kx_p_0_10, kx_p_1_0, kx_p_1_2, kx_p_1_4, kx_p_1_7, kx_p_1_9, kx_p_1_10, kx_p_1_11, kx_p_1_12, kx_p_1_13, kx_p_tw, kx_p_kt, kx_p_22, kx_p_23, kx_p_24, kx_p_73_1, kx_p_73_2, kx_p_268, kx_p_269_0, kx_p_269_1, kx_p_269_2, kx_p_270, kx_p_273, kx_p_274_0, kx_p_274_1, kx_p_274_2, kx_p_275, kx_p_276_0, kx_p_276_1, kx_p_276_2, kx_p_277, kx_p_278, kx_p_279_2, kx_p_279_3, kx_p_279_4, kx_p_280_1, kx_p_280_2, kx_p_280_3, kx_p_281, kx_p_or, kx_p_296_1, kx_p_296_2, kx_p_296_3, kx_p_297, kx_p_298_5, kx_p_298_6, kx_p_298_7, kx_p_298_8, kx_p_298_9, kx_p_298_11, kx_p_298_13, kx_p_298_18, kx_p_298_20, kx_p_299, kx_p_300, kx_p_301, kx_p_302, kx_p_303, kx_p_304, kx_p_305, kx_p_306, kx_p_307, kx_p_308, kx_p_309, kx_p_310, ↓reduceIte, Bool.true_eq_false, Bool.false_eq_true, reduceCtorEq, Option.bind_some, Option.bind_none, Option.toList_some, Option.toList_none, List.cons_append, List.nil_append, kx_nat_s, not_true_eq_false, not_false_eq_true, Int32.reduceAdd, Int32.reduceSub, Int32.reduceLT, Int32.reduceMul, Int32.reduceDiv, Int32.reduceMod, Nat.reduceLT, Nat.reduceLeDiff, Nat.reduceEqDiff, Nat.reduceAdd, true_and, and_true, kx_le_lt, ite_not, Classical.not_not, kx_ib, ne_eq, gt_iff_lt, ge_iff_le, kx_nw0, kx_nw1, kx_nwb, kx_b0, kx_b1, Nat.lt_irrefl, kx_up_eq, kx_ul_eq, kx_up_ne, kx_ul_ne, kx_arr_n, kx_nat_i, kx_nat_lt, kx_sr_rd, kx_sr_ne, kx_sr_up, kx_sr_upn, kx_u1_eq, kx_u1_ne, kx_tn_0, kx_tn_1, kx_tn_2, kx_tn_3, kx_tn_4, kx_tn_5, kx_tn_6, kx_tn_7, kx_tn_8, kx_tn_9, kx_tn_10, kx_tn_11, kx_tn_12, kx_la_0, kx_la_1, kx_la_2, kx_la_3, kx_la_4, kx_la_5, kx_la_6, kx_la_7, kx_la_8, kx_la_9, kx_la_10, kx_la_11, kx_la_12, kx_j10_0, kx_j10_1, kx_j10_2, kx_j10_3, kx_j10_4, kx_j10_5, kx_j10_6, kx_j10_7, kx_j10_8, kx_j10_9, kx_j4_0, kx_j4_1, kx_j4_2, kx_j4_3, kx_rfr, ky_l1169, ky_shf_ne, h6, kx_nat_d, kx_nat_167, c1, ky_cpy_ne]
      rfl, ?_⟩
    refine ⟨?_, fun a j h1 h2 => ?_, fun j hj => ?_, fun i hi j hj => ?_⟩
    · exact kx_up_eq
    · rw [kx_up_ne (by omega), ky_cpy_ne h1, kx_up_ne (by omega), ky_shf_ne h1]
    · rw [kx_up_ne (by omega)]
      unfold ky_cpy
      rw [if_pos ⟨rfl, by omega, by omega⟩, kx_up_ne (by omega), ky_shf_ne (by omega), show 0 + (167 * min 7 8 + j - 1169) = j by omega]
    · rw [kx_up_ne (by omega)]
      unfold ky_cpy
      rw [if_neg (fun z => by omega), kx_up_ne (by omega)]
      unfold ky_shf
      rw [if_pos ⟨rfl, by omega⟩, if_pos rfl, show 167 * i + j + 167 = 167 * (i + 1) + j by omega]
  · have c1 := fun s => kx_c_132_302 (ph := ph) (sc := sc) (lm := lm) (sg := s) (q := 167 * c) (by omega)
    refine ⟨_, by
      rw [kx_o131]
      simp (disch := omega) only [kx_e131_0, kx_e131_1, kx_e131_4, kx_e131_7, kx_e131_8, kx_e131_9, kx_e131_12, kx_e131_14, kx_e131_17, kx_e131_18, kx_e131_19, kx_e131_20, kx_e131_23, kx_e131_26, kx_e131_27, kx_e131_30, kx_e131_31, kx_e131_32, kx_e131_35, kx_e131_36, kx_e131_39, kx_e131_40, kx_e131_41, kx_e131_42, kx_e131_45, kx_e131_48, kx_e131_49, kx_e131_50, kx_e131_53, kx_e131_54, kx_e131_55, kx_e131_58, kx_e131_59, kx_e131_60, kx_e131_61, kx_e131_64, kx_e131_67, kx_e131_68, kx_e131_71, kx_e131_72, kx_e131_75, kx_e131_76, kx_e131_77, kx_e131_80, kx_e131_81, kx_e131_82, kx_e131_85, kx_s_0, kx_s_1, kx_s_2, kx_s_tw, kx_s_9, kx_s_kt, kx_s_22, kx_s_23, kx_s_24, kx_s_73, kx_s_74, kx_s_267, kx_s_268, kx_s_269, kx_s_270, kx_s_271, kx_s_272, kx_s_273, kx_s_274, kx_s_275, kx_s_276, kx_s_277, kx_s_278, kx_s_279, kx_s_280, kx_s_281, kx_s_282, kx_s_or, kx_s_296, kx_s_297, kx_s_298, kx_s_299, kx_s_300, kx_s_301, kx_s_302, kx_s_303, kx_s_304, kx_s_305, kx_s_306, kx_s_307, kx_s_308, kx_s_309, kx_s_310, kx_g_0_0, kx_g_0_1, kx_g_0_2, kx_g_0_3, kx_g_0_4, kx_g_0_5, kx_g_0_6, kx_g_0_7, kx_g_0_8, kx_g_0_9, kx_g_0_10, kx_g_1_0, kx_g_1_1, kx_g_1_2, kx_g_1_3, kx_g_1_4, kx_g_1_5, kx_g_1_6, kx_g_1_7, kx_g_1_8, kx_g_1_9, kx_g_1_10, kx_g_1_11, kx_g_1_12, kx_g_1_13, kx_g_2, kx_g_tw, kx_g_9, kx_g_kt, kx_g_22, kx_g_23, kx_g_24, kx_g_73_0, kx_g_73_1, kx_g_73_2, kx_g_74, kx_g_267_0, kx_g_267_1, kx_g_267_2, kx_g_268, kx_g_269_0, kx_g_269_1, kx_g_269_2, kx_g_270, kx_g_271_0, kx_g_271_1, kx_g_271_2, kx_g_271_3, kx_g_272_0, kx_g_272_1, kx_g_272_2, kx_g_273, kx_g_274_0, kx_g_274_1, kx_g_274_2, kx_g_275, kx_g_276_0, kx_g_276_1, kx_g_276_2, kx_g_277, kx_g_278, kx_g_279_0, kx_g_279_1, kx_g_279_2, kx_g_279_3, kx_g_279_4, kx_g_280_0, kx_g_280_1, kx_g_280_2, kx_g_280_3, kx_g_281, kx_g_282, kx_g_or, kx_g_296_0, kx_g_296_1, kx_g_296_2, kx_g_296_3, kx_g_297, kx_g_298_0, kx_g_298_1, kx_g_298_2, kx_g_298_3, kx_g_298_4, kx_g_298_5, kx_g_298_6, kx_g_298_7, kx_g_298_8, kx_g_298_9, kx_g_298_10, kx_g_298_11, kx_g_298_12, kx_g_298_13, kx_g_298_14, kx_g_298_15, kx_g_298_16, kx_g_298_17, kx_g_298_18, kx_g_298_19, kx_g_298_20, kx_g_299, kx_g_300, kx_g_301, kx_g_302, kx_g_303, kx_g_304, kx_g_305, kx_g_306, kx_g_307, kx_g_308, kx_g_309, kx_g_310, kx_p_0_3, kx_p_0_9, kx_p_0_10, kx_p_1_0, kx_p_1_2, kx_p_1_4, kx_p_1_7, kx_p_1_9, kx_p_1_10, kx_p_1_11, kx_p_1_12, kx_p_1_13, kx_p_tw, kx_p_kt, kx_p_22, kx_p_23, kx_p_24, kx_p_73_1, kx_p_73_2, kx_p_268, kx_p_269_0, kx_p_269_1, kx_p_269_2, kx_p_270, kx_p_273, kx_p_274_0, kx_p_274_1, kx_p_274_2, kx_p_275, kx_p_276_0, kx_p_276_1, kx_p_276_2, kx_p_277, kx_p_278, kx_p_279_2, kx_p_279_3, kx_p_279_4, kx_p_280_1, kx_p_280_2, kx_p_280_3, kx_p_281, kx_p_or, kx_p_296_1, kx_p_296_2, kx_p_296_3, kx_p_297, kx_p_298_5, kx_p_298_6, kx_p_298_7, kx_p_298_8, kx_p_298_9, kx_p_298_11, kx_p_298_13, kx_p_298_18, kx_p_298_20, kx_p_299, kx_p_300, kx_p_301, kx_p_302, kx_p_303, kx_p_304, kx_p_305, kx_p_306, kx_p_307, kx_p_308, kx_p_309, kx_p_310, ↓reduceIte, Bool.true_eq_false, Bool.false_eq_true, reduceCtorEq, Option.bind_some, Option.bind_none, Option.toList_some, Option.toList_none, List.cons_append, List.nil_append, kx_nat_s, not_true_eq_false, not_false_eq_true, Int32.reduceAdd, Int32.reduceSub, Int32.reduceLT, Int32.reduceMul, Int32.reduceDiv, Int32.reduceMod, Nat.reduceLT, Nat.reduceLeDiff, Nat.reduceEqDiff, Nat.reduceAdd, true_and, and_true, kx_le_lt, ite_not, Classical.not_not, kx_ib, ne_eq, gt_iff_lt, ge_iff_le, kx_nw0, kx_nw1, kx_nwb, kx_b0, kx_b1, Nat.lt_irrefl, kx_up_eq, kx_ul_eq, kx_up_ne, kx_ul_ne, kx_arr_n, kx_nat_i, kx_nat_lt, kx_sr_rd, kx_sr_ne, kx_sr_up, kx_sr_upn, kx_u1_eq, kx_u1_ne, kx_tn_0, kx_tn_1, kx_tn_2, kx_tn_3, kx_tn_4, kx_tn_5, kx_tn_6, kx_tn_7, kx_tn_8, kx_tn_9, kx_tn_10, kx_tn_11, kx_tn_12, kx_la_0, kx_la_1, kx_la_2, kx_la_3, kx_la_4, kx_la_5, kx_la_6, kx_la_7, kx_la_8, kx_la_9, kx_la_10, kx_la_11, kx_la_12, kx_j10_0, kx_j10_1, kx_j10_2, kx_j10_3, kx_j10_4, kx_j10_5, kx_j10_6, kx_j10_7, kx_j10_8, kx_j10_9, kx_j4_0, kx_j4_1, kx_j4_2, kx_j4_3, kx_rfr, h7, h6, ky_e8, h8, kx_nat_167, c1, ky_cpy_ne]
      rfl, ?_⟩
    refine ⟨?_, fun a j h1 h2 => ?_, fun j hj => ?_, fun i hi j hj => ?_⟩
    · rw [kx_up_eq, show min 8 (c + 1) = c + 1 by omega]
    · rw [kx_up_ne (by omega), ky_cpy_ne h1]
    · rw [kx_up_ne (by omega), show min 7 c = c by omega]
      unfold ky_cpy
      rw [if_pos ⟨rfl, by omega, by omega⟩]
      congr 1
      omega
    · rw [kx_up_ne (by omega)]
      unfold ky_cpy
      rw [if_neg (fun z => by omega), if_neg h8]
end KxKeep2
