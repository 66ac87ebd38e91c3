/-! turns of both: what one call of a change does -/
theorem ky_tel {a b c : Int32} : a - c + (b - a) = b - c := by
  rw [Int32.add_comm, Int32.sub_eq_add_neg b a, Int32.sub_eq_add_neg a c, Int32.sub_eq_add_neg b c, Int32.add_assoc, ← Int32.add_assoc (-a), Int32.add_left_neg, Int32.zero_add]
theorem ky_su {a b : Int32} : a + b - a = b := by rw [Int32.add_comm, Int32.add_sub_cancel]
section KyTn
variable {g : kx_Rw} {nt nk nw tn d f : Nat}
def ky_out (nt nk j : Nat) : Prop := 11 ≤ j ∧ (∀ k, k < nk → ∀ w, w < 10 → j ≠ 35 + 10 * k + w) ∧ ∀ t, t < nt → j ≠ 11 + 4 * t + 3
theorem ky_o_slips {j : Nat} (h : ky_out nt nk j) : ∀ n, n ≤ nk → ky_slips g n j = g j
  | 0, _ => rfl
  | n + 1, hn => (ky_slip_ne (by have := h.1; omega) (h.2.1 n (by omega))).trans (ky_o_slips h n (by omega))
theorem ky_o_blows {j : Nat} (h : ky_out nt nk j) : ∀ n, n ≤ nk → ky_blows d f g n j = g j
  | 0, _ => rfl
  | n + 1, hn => (ky_blow_ne (h.2.1 n (by omega))).trans (ky_o_blows h n (by omega))
theorem ky_o_strains {j : Nat} (h : ky_out nt nk j) : ∀ n, n ≤ nk → ky_strains g n j = g j
  | 0, _ => rfl
  | n + 1, hn => (ky_strain_ne (by have := h.1; omega) (h.2.1 n (by omega))).trans (ky_o_strains h n (by omega))
theorem ky_o_crss (I : ky_I nt nk nw tn g) {j : Nat} (h : ky_out nt nk j) : ∀ n, n ≤ nk → ky_crss g nk n j = g j
  | 0, _ => rfl
  | n + 1, hn => (ky_crs_ne (kx_sd_lt I (by omega)) (by have := h.1; omega) (h.2.1 n (by omega))).trans (ky_o_crss I h n (by omega))
theorem ky_o_drifts (J : ky_J nt nk nw tn g) (hd : d < 6) {j : Nat} (h : ky_out nt nk j) : ∀ n, n ≤ nk → ky_drifts nt d f g n j = g j
  | 0, _ => rfl
  | n + 1, hn => (ky_drift_ne (ky_J_drifts J hd n (by omega)) (by have := h.1; omega) (h.2.1 n (by omega)) h.2.2).trans (ky_o_drifts J hd h n (by omega))
theorem ky_o_turn (I : ky_I nt nk nw tn g) {j : Nat} (h : ky_out nt nk j) : ky_turn nt nk nw tn g j = g j := by
  have hd := ky_wd_lt I tn
  unfold ky_turn
  rw [kx_u1_ne (by have := h.1; omega)]
  exact (ky_o_drifts (ky_J4 I) hd h nk (Nat.le_refl _)).trans ((ky_o_crss (ky_J3 I).1 h nk (Nat.le_refl _)).trans ((ky_o_strains h nk (Nat.le_refl _)).trans ((ky_o_blows h nk (Nat.le_refl _)).trans (ky_o_slips h nk (Nat.le_refl _)))))
theorem ky_Z_turn (I : ky_I nt nk nw tn g) (Z : ky_Z nt nk g) : ky_Z nt nk (ky_turn nt nk nw tn g) := by
  have h1 := I.2.1.2
  have h2 := I.2.2.1.2
  refine ⟨fun t a b w hw => ?_, fun k a b w hw => ?_⟩
  · rw [ky_o_turn I ⟨by omega, fun k hk w' hw' => by omega, fun t' ht' => by omega⟩]
    exact Z.1 t a b w hw
  · rw [ky_o_turn I ⟨by omega, fun k' hk' w' hw' => by omega, fun t' ht' => by omega⟩]
    exact Z.2 k a b w hw
/-- whose kite it is stays -/
theorem ky_f_slip {k : Nat} : ky_slip k g (35 + 10 * k) = g (35 + 10 * k) := by
  unfold ky_slip ky_flies
  (repeat' split) <;> simp (disch := omega) only [kx_rests, ky_fly, kx_u1_ne]
theorem ky_f_blow {k : Nat} : ky_blow d f k g (35 + 10 * k) = g (35 + 10 * k) := by
  unfold ky_blow ky_flies
  (repeat' split) <;> simp (disch := omega) only [kx_rests, ky_fly, kx_u1_ne]
theorem ky_f_strain {k : Nat} : ky_strain k g (35 + 10 * k) = g (35 + 10 * k) := by
  unfold ky_strain
  split <;> simp (disch := omega) only [ky_cut, kx_u1_ne]
theorem ky_f_crs {g0 : kx_Rw} {k : Nat} (hs : kx_sd g0 k < 2) : ky_crs g0 nk k g (35 + 10 * k) = g (35 + 10 * k) := by
  unfold ky_crs
  try dsimp only
  (repeat' split) <;> simp (disch := omega) only [ky_cut, kx_u1_ne]
theorem ky_f_drift {k : Nat} (J : ky_J nt nk nw tn g) (hk : k < nk) : ky_drift nt d f k g (35 + 10 * k) = g (35 + 10 * k) := by
  have hb := J.1.2.1.2
  unfold ky_drift
  split
  · rfl
  · dsimp only
    split
    · exact kx_u1_ne (by omega)
    · split
      · exact kx_u1_ne (by omega)
      · next hn =>
        rcases ky_ta_ok (g := g) (nt := nt) (x := kx_wk (ky_n g (35 + 10 * k + 4)) d f) with h1 | ⟨t, htt, hte⟩
        · rw [h1] at hn; exact absurd kx_neg1 hn
        have s2 : ky_n g (11 + 4 * t) < 2 := (J.1.2.2.2.2.1 t htt).1.2
        rw [hte, kx_nat_i (by omega)]
        split
        · unfold kx_rests
          simp (disch := omega) only [kx_u1_ne]
        · simp (disch := omega) only [kx_u1_ne]
theorem ky_f_slips {k : Nat} (hk : k < 12) : ∀ n, n ≤ 12 → ky_slips g n (35 + 10 * k) = g (35 + 10 * k)
  | 0, _ => rfl
  | n + 1, hn => by
    refine Eq.trans ?_ (ky_f_slips hk n (by omega))
    show ky_slip n _ _ = _
    by_cases h : n = k
    · subst h; exact ky_f_slip
    · exact ky_slip_ne (by omega) (fun w hw => by omega)
theorem ky_f_blows {k : Nat} (hk : k < 12) : ∀ n, n ≤ 12 → ky_blows d f g n (35 + 10 * k) = g (35 + 10 * k)
  | 0, _ => rfl
  | n + 1, hn => by
    refine Eq.trans ?_ (ky_f_blows hk n (by omega))
    show ky_blow d f n _ _ = _
    by_cases h : n = k
    · subst h; exact ky_f_blow
    · exact ky_blow_ne (fun w hw => by omega)
theorem ky_f_strains {k : Nat} (hk : k < 12) : ∀ n, n ≤ 12 → ky_strains g n (35 + 10 * k) = g (35 + 10 * k)
  | 0, _ => rfl
  | n + 1, hn => by
    refine Eq.trans ?_ (ky_f_strains hk n (by omega))
    show ky_strain n _ _ = _
    by_cases h : n = k
    · subst h; exact ky_f_strain
    · exact ky_strain_ne (by omega) (fun w hw => by omega)
theorem ky_f_crss (I : ky_I nt nk nw tn g) {k : Nat} (hk : k < 12) : ∀ n, n ≤ nk → ky_crss g nk n (35 + 10 * k) = g (35 + 10 * k)
  | 0, _ => rfl
  | n + 1, hn => by
    have hb := I.2.2.1.2
    refine Eq.trans ?_ (ky_f_crss I hk n (by omega))
    show ky_crs g nk n _ _ = _
    by_cases h : n = k
    · subst h; exact ky_f_crs (kx_sd_lt I (by omega))
    · exact ky_crs_ne (kx_sd_lt I (by omega)) (by omega) (fun w hw => by omega)
theorem ky_f_drifts (J : ky_J nt nk nw tn g) (hd : d < 6) {k : Nat} (hk : k < 12) : ∀ n, n ≤ nk → ky_drifts nt d f g n (35 + 10 * k) = g (35 + 10 * k)
  | 0, _ => rfl
  | n + 1, hn => by
    have hb := J.1.2.2.1.2
    have ht := J.1.2.1.2
    have hJ := ky_J_drifts (f := f) J hd n (by omega)
    refine Eq.trans ?_ (ky_f_drifts J hd hk n (by omega))
    show ky_drift nt d f n _ _ = _
    by_cases h : n = k
    · subst h; exact ky_f_drift hJ (by omega)
    · exact ky_drift_ne hJ (by omega) (fun w hw => by omega) (fun t ht => by omega)
theorem ky_Q_turn (I : ky_I nt nk nw tn g) (Q : ky_Q nt nk g) : ky_Q nt nk (ky_turn nt nk nw tn g) := by
  have h1 := I.2.1.2
  have h2 := I.2.2.1.2
  have hd := ky_wd_lt I tn
  refine ky_Q_congr (fun t ht => ?_) (fun k hk => ?_) Q
  · exact ky_o_turn I ⟨by omega, fun k hk w' hw' => by omega, fun t' ht' => by omega⟩
  · unfold ky_turn
    rw [kx_u1_ne (by omega)]
    exact (ky_f_drifts (ky_J4 I) hd (by omega) nk (Nat.le_refl _)).trans ((ky_f_crss (ky_J3 I).1 (by omega) nk (Nat.le_refl _)).trans ((ky_f_strains (by omega) nk h2).trans ((ky_f_blows (by omega) nk h2).trans (ky_f_slips (by omega) nk h2))))
/-- how many lines are cut -/
def ky_more (n : Nat) (g g' : kx_Rw) : Prop := ∃ m, m ≤ n ∧ g' 6 = g 6 + Int32.ofNat m
theorem ky_more.refl (n : Nat) : ky_more n g g := ⟨0, Nat.zero_le _, (Int32.add_zero _).symm⟩
theorem ky_more.trans {g1 g2 : kx_Rw} {n m : Nat} (h1 : ky_more n g g1) (h2 : ky_more m g1 g2) : ky_more (n + m) g g2 := by
  obtain ⟨a, ha, ea⟩ := h1
  obtain ⟨b, hb, eb⟩ := h2
  exact ⟨a + b, by omega, by rw [eb, ea, Int32.add_assoc, kx_nat_a]⟩
theorem ky_more.eq {g1 : kx_Rw} {n : Nat} (h : g1 6 = g 6) : ky_more n g g1 := ⟨0, Nat.zero_le _, by rw [h]; exact (Int32.add_zero _).symm⟩
theorem ky_more.one {g1 : kx_Rw} (h : g1 6 = g 6 + 1) : ky_more 1 g g1 := ⟨1, Nat.le_refl _, h⟩
theorem ky_6_slips : ∀ n, n ≤ 12 → ky_slips g n 6 = g 6
  | 0, _ => rfl
  | n + 1, hn => (ky_slip_ne (by omega) (fun w hw => by omega)).trans (ky_6_slips n (by omega))
theorem ky_6_blows : ∀ n, n ≤ 12 → ky_blows d f g n 6 = g 6
  | 0, _ => rfl
  | n + 1, hn => (ky_blow_ne (fun w hw => by omega)).trans (ky_6_blows n (by omega))
theorem ky_6_strains : ∀ n, n ≤ 12 → ky_more n g (ky_strains g n)
  | 0, _ => ky_more.refl 0
  | n + 1, hn => by
    refine (ky_6_strains n (by omega)).trans ?_
    show ky_more 1 _ (ky_strain n (ky_strains g n))
    unfold ky_strain
    split
    · refine ky_more.one ?_
      simp (disch := omega) only [ky_cut, kx_u1_eq, kx_u1_ne]
    · exact ky_more.refl 1
theorem ky_6_crss (I : ky_I nt nk nw tn g) : ∀ n, n ≤ nk → ky_more n g (ky_crss g nk n)
  | 0, _ => ky_more.refl 0
  | n + 1, hn => by
    have hs := kx_sd_lt I (show n < nk by omega)
    refine (ky_6_crss I n (by omega)).trans ?_
    show ky_more 1 _ (ky_crs g nk n (ky_crss g nk n))
    unfold ky_crs
    try dsimp only
    split
    · refine ky_more.one ?_
      simp (disch := omega) only [ky_cut, kx_u1_eq, kx_u1_ne]
    · split
      · refine ky_more.eq ?_
        simp (disch := omega) only [kx_u1_ne]
      · refine ky_more.eq ?_
        simp (disch := omega) only [kx_u1_ne]
theorem ky_6_drifts (J : ky_J nt nk nw tn g) (hd : d < 6) : ∀ n, n ≤ nk → ky_drifts nt d f g n 6 = g 6
  | 0, _ => rfl
  | n + 1, hn => by
    have hJ := ky_J_drifts (f := f) J hd n (by omega)
    refine Eq.trans ?_ (ky_6_drifts J hd n (by omega))
    show ky_drift nt d f n (ky_drifts nt d f g n) 6 = _
    generalize ky_drifts nt d f g n = g1 at hJ ⊢
    have hb := J.1.2.1.2
    unfold ky_drift
    split
    · rfl
    · dsimp only
      split
      · exact kx_u1_ne (by omega)
      · split
        · exact kx_u1_ne (by omega)
        · next hn =>
          rcases ky_ta_ok (g := g1) (nt := nt) (x := kx_wk (ky_n g1 (35 + 10 * n + 4)) d f) with h1 | ⟨t, htt, hte⟩
          · rw [h1] at hn; exact absurd kx_neg1 hn
          have s2 : ky_n g1 (11 + 4 * t) < 2 := (hJ.1.2.2.2.2.1 t htt).1.2
          rw [hte, kx_nat_i (by omega)]
          split
          · rw [kx_u1_ne (by omega), kx_u1_ne (by omega), ky_rests_ne (fun w hw => by omega), kx_u1_ne (by omega), kx_u1_ne (by omega)]
          · rw [kx_u1_ne (by omega), kx_u1_ne (by omega), kx_u1_ne (by omega), kx_u1_ne (by omega), kx_u1_ne (by omega)]
theorem ky_6_turn (I : ky_I nt nk nw tn g) : ky_more 24 g (ky_turn nt nk nw tn g) := by
  have hd := ky_wd_lt I tn
  have hb := I.2.2.1.2
  have e1 : ky_t2 nk (ky_wd g nw tn) (ky_wf g nw tn) g 6 = g 6 := (ky_6_blows nk hb).trans (ky_6_slips nk hb)
  have e2 := (ky_more.eq (n := 0) e1).trans (ky_6_strains (g := ky_t2 nk (ky_wd g nw tn) (ky_wf g nw tn) g) nk hb)
  have e3 := e2.trans (ky_6_crss (ky_J3 (d := ky_wd g nw tn) (f := ky_wf g nw tn) I).1 nk (Nat.le_refl _))
  obtain ⟨m, hm, em⟩ := e3
  refine ⟨m, by omega, ?_⟩
  unfold ky_turn
  rw [kx_u1_ne (by omega)]
  exact (ky_6_drifts (ky_J4 I) hd nk (Nat.le_refl _)).trans em
def ky_tns (nt nk nw tn : Nat) (g : kx_Rw) (n : Nat) : kx_Rw := kx_fold (fun i g => ky_turn nt nk nw (tn + i) g) g n
theorem ky_I_tns (I : ky_I nt nk nw tn g) : ∀ n, tn + n < 1000000 → ky_I nt nk nw (tn + n) (ky_tns nt nk nw tn g n)
  | 0, _ => I
  | n + 1, h => (ky_I_turn (ky_I_tns I n (by omega)) (by omega)).1
theorem ky_Z_tns (I : ky_I nt nk nw tn g) (Z : ky_Z nt nk g) : ∀ n, tn + n < 1000000 → ky_Z nt nk (ky_tns nt nk nw tn g n)
  | 0, _ => Z
  | n + 1, h => ky_Z_turn (ky_I_tns I n (by omega)) (ky_Z_tns I Z n (by omega))
theorem ky_Q_tns (I : ky_I nt nk nw tn g) (Q : ky_Q nt nk g) : ∀ n, tn + n < 1000000 → ky_Q nt nk (ky_tns nt nk nw tn g n)
  | 0, _ => Q
  | n + 1, h => ky_Q_turn (ky_I_tns I n (by omega)) (ky_Q_tns I Q n (by omega))
theorem ky_6_tns (I : ky_I nt nk nw tn g) : ∀ n, tn + n < 1000000 → ky_more (24 * n) g (ky_tns nt nk nw tn g n)
  | 0, _ => ky_more.refl 0
  | n + 1, h => (ky_6_tns I n (by omega)).trans (ky_6_turn (ky_I_tns I n (by omega)))
end KyTn
/-- the class's frame: reason, the block of now, what umpire and lines use -/
def ky_FC (s s' : kx_G2) : Prop := ∀ a j, (a = 0 → j ≠ 9 ∧ j ≠ 10) → (a = 0 ∨ 25 ≤ a) → (a < 267 ∨ 279 ≤ a) → s' a j = s a j
theorem ky_FC.refl {s : kx_G2} : ky_FC s s := fun _ _ _ _ _ => rfl
theorem ky_FC.trans {s s1 s2 : kx_G2} (h1 : ky_FC s s1) (h2 : ky_FC s1 s2) : ky_FC s s2 := fun a j p q r => (h2 a j p q r).trans (h1 a j p q r)
theorem ky_FR.toC {s s' : kx_G2} (h : ky_FR s s') : ky_FC s s' := fun a j _ q r => h a q r j
abbrev ky_O : Type := Option (Int32 × Int32)
def ky_CD (N' j : Nat) (as : List Value) (g g' : kx_Rw) (c : Int32) (rs : ky_O) : Prop := ky_G N' g' ∧ ∀ (ph : Nat) (sc : Nat × (Nat → Int32)) (sg : kx_G2) (lm : Nat → Nat → Int64), ky_R 0 sg g → ∃ sg' lm', kx_call j (.ref 0 :: as) (kx_pm ph sc sg lm) = some (some (.int c), kx_pm ph sc sg' lm') ∧ ky_R 0 sg' g' ∧ (sg' 0 9, sg' 0 10) = rs.getD (sg 0 9, sg 0 10) ∧ ky_FC sg sg'
/-- what keeps does to the rows kept and their number -/
def ky_KP (w : Bool) (n : Nat) (g : kx_Rw) (sg sg' : kx_G2) : Prop := (w = true → sg' 298 6 = sg 298 6 ∧ sg' 300 = sg 300) ∧ (w = false → sg' 298 6 = Int32.ofNat (min 8 (n + 1)) ∧ (∀ j, j < 167 → sg' 300 (167 * min 7 n + j) = g j) ∧ ∀ i, i < min 7 n → ∀ j, j < 167 → sg' 300 (167 * i + j) = sg 300 (167 * (if n = 8 then i + 1 else i) + j))
/-- the reference's frame -/
def ky_FM (s s' : kx_G2) : Prop := ∀ a j, a ≠ 299 → a ≠ 300 → a ≠ 307 → a ≠ 308 → (a = 298 → j ≠ 6 ∧ j ≠ 8 ∧ j ≠ 9) → s' a j = s a j
theorem ky_FM.refl {s : kx_G2} : ky_FM s s := fun _ _ _ _ _ _ _ => rfl
theorem ky_FM.trans {s s1 s2 : kx_G2} (h1 : ky_FM s s1) (h2 : ky_FM s1 s2) : ky_FM s s2 := fun a j p q r t u => (h2 a j p q r t u).trans (h1 a j p q r t u)
def ky_MD (j : Nat) (as : List Value) (g g' : kx_Rw) (c : Int32) (rs : ky_O) : Prop := (∀ p, rs = some p → ¬ p.1 = 0) ∧ ∀ (ph : Nat) (sc : Nat × (Nat → Int32)) (sg : kx_G2) (lm : Nat → Nat → Int64) (w : Bool) (n : Nat), sg 298 7 = kx_b w → sg 298 6 = Int32.ofNat n → n ≤ 8 → ∃ sg', kx_call j (.ref 298 :: as) (kx_pm ph sc (kx_sr sg g) lm) = some (some (.int c), kx_pm ph sc (kx_sr sg' g') lm) ∧ (sg' 298 8, sg' 298 9) = rs.getD (sg 298 8, sg 298 9) ∧ (c < 0 → sg' 298 6 = sg 298 6 ∧ sg' 300 = sg 300) ∧ (¬ c < 0 → ky_KP w n g sg sg') ∧ ky_FM sg sg'
section KxTurns
variable {ph : Nat} {sc : Nat × (Nat → Int32)} {sg : kx_G2} {lm : Nat → Nat → Int64} {g : kx_Rw} {nt nk nw tn : Nat}
theorem kx_c_131g {w : Bool} {n : Nat} (h7 : sg 298 7 = kx_b w) (h6 : sg 298 6 = Int32.ofNat n) (hn : n ≤ 8) : ∃ sg', kx_call 131 [.ref 298, .ref 299] (kx_pm ph sc (kx_sr sg g) lm) = some (none, kx_pm ph sc (kx_sr sg' g) lm) ∧ ky_KP w n g sg sg' ∧ (∀ a j, a ≠ 299 → a ≠ 300 → (a ≠ 298 ∨ j ≠ 6) → sg' a j = sg a j) := by
  cases w
  · obtain ⟨s', e, k1, k2, k3, k4⟩ := kx_c_131_299 (ph := ph) (sc := sc) (lm := lm) (sg := kx_sr sg g) (c := n) (by rw [kx_sr_ne (by decide)]; exact h7) (by rw [kx_sr_ne (by decide)]; exact h6) hn
    have e2 : s' = kx_sr s' g := by
      have : s' 299 = g := by
        funext j
        rw [k2 299 j (by decide) (Or.inl (by decide))]
        rfl
      conv => rhs; rw [← this]
      exact kx_sr_self.symm
    refine ⟨s', by rw [e, ← e2], ⟨fun h => absurd h (by decide), fun _ => ⟨k1, fun j hj => k3 j hj, fun i hi j hj => ?_⟩⟩, fun a j h1 h2 h3 => ?_⟩
    · rw [k4 i hi j hj, kx_sr_ne (by decide)]
    · rw [k2 a j h2 h3, kx_sr_ne h1]
  · refine ⟨sg, ?_, ⟨fun _ => ⟨rfl, rfl⟩, fun h => absurd h (by decide)⟩, fun _ _ _ _ _ => rfl⟩
    have h71 : sg 298 7 = 1 := h7
    rw [kx_o131]
    simp (disch := omega) only [kx_e131_0, kx_e131_1, kx_e131_4, kx_e131_7, kx_e131_8, kx_e131_9, kx_e131_12, kx_e131_14, kx_e131_17, kx_e131_18, kx_e131_19, kx_e131_20, kx_e131_23, kx_e131_26, kx_e131_27, kx_e131_30, kx_e131_31, kx_e131_32, kx_e131_35, kx_e131_36, kx_e131_39, kx_e131_40, kx_e131_41, kx_e131_42, kx_e131_45, kx_e131_48, kx_e131_49, kx_e131_50, kx_e131_53, kx_e131_54, kx_e131_55, kx_e131_58, kx_e131_59, kx_e131_60, kx_e131_61, kx_e131_64, kx_e131_67, kx_e131_68, kx_e131_71, kx_e131_72, kx_e131_75, kx_e131_76, kx_e131_77, kx_e131_80, kx_e131_81, kx_e131_82, kx_e131_85, kx_s_0, kx_s_1, kx_s_2, kx_s_tw, kx_s_9, kx_s_kt, kx_s_22, kx_s_23, kx_s_24, kx_s_73, kx_s_74, kx_s_267, kx_s_268, kx_s_269, kx_s_270, kx_s_271, kx_s_272, kx_s_273, kx_s_274, kx_s_275, kx_s_276, kx_s_277, kx_s_278, kx_s_279, kx_s_280, kx_s_281, kx_s_282, kx_s_or, kx_s_296, kx_s_297, kx_s_298, kx_s_299, kx_s_300, kx_s_301, kx_s_302, kx_s_303, kx_s_304, kx_s_305, kx_s_306, kx_s_307, kx_s_308, kx_s_309, kx_s_310, kx_g_0_0, kx_g_0_1, kx_g_0_2, kx_g_0_3, kx_g_0_4, kx_g_0_5, kx_g_0_6, kx_g_0_7, kx_g_0_8, kx_g_0_9, kx_g_0_10, kx_g_1_0, kx_g_1_1, kx_g_1_2, kx_g_1_3, kx_g_1_4, kx_g_1_5, kx_g_1_6, kx_g_1_7, kx_g_1_8, kx_g_1_9, kx_g_1_10, kx_g_1_11, kx_g_1_12, kx_g_1_13, kx_g_2, kx_g_tw, kx_g_9, kx_g_kt, kx_g_22, kx_g_23, kx_g_24, kx_g_73_0, kx_g_73_1, kx_g_73_2, kx_g_74, kx_g_267_0, kx_g_267_1, kx_g_267_2, kx_g_268, kx_g_269_0, kx_g_269_1, kx_g_269_2, kx_g_270, kx_g_271_0, kx_g_271_1, kx_g_271_2, kx_g_271_3, kx_g_272_0, kx_g_272_1, kx_g_272_2, kx_g_273, kx_g_274_0, kx_g_274_1, kx_g_274_2, kx_g_275, kx_g_276_0, kx_g_276_1, kx_g_276_2, kx_g_277, kx_g_278, kx_g_279_0, kx_g_279_1, kx_g_279_2, kx_g_279_3, kx_g_279_4, kx_g_280_0, kx_g_280_1, kx_g_280_2, kx_g_280_3, kx_g_281, kx_g_282, kx_g_or, kx_g_296_0, kx_g_296_1, kx_g_296_2, kx_g_296_3, kx_g_297, kx_g_298_0, kx_g_298_1, kx_g_298_2, kx_g_298_3, kx_g_298_4, kx_g_298_5, kx_g_298_6, kx_g_298_7, kx_g_298_8, kx_g_298_9, kx_g_298_10, kx_g_298_11, kx_g_298_12, kx_g_298_13, kx_g_298_14, kx_g_298_15, kx_g_298_16, kx_g_298_17, kx_g_298_18, kx_g_298_19, kx_g_298_20, kx_g_299, kx_g_300, kx_g_301, kx_g_302, kx_g_303, kx_g_304, kx_g_305, kx_g_306, kx_g_307, kx_g_308, kx_g_309, kx_g_310, kx_p_0_3, kx_p_0_9, kx_p_0_10, kx_p_1_0, kx_p_1_2, kx_p_1_4, kx_p_1_7, kx_p_1_9, kx_p_1_10, kx_p_1_11, kx_p_1_12, kx_p_1_13, kx_p_tw, kx_p_kt, kx_p_22, kx_p_23, kx_p_24, kx_p_73_1, kx_p_73_2, kx_p_268, kx_p_269_0, kx_p_269_1, kx_p_269_2, kx_p_270, kx_p_273, kx_p_274_0, kx_p_274_1, kx_p_274_2, kx_p_275, kx_p_276_0, kx_p_276_1, kx_p_276_2, kx_p_277, kx_p_278, kx_p_279_2, kx_p_279_3, kx_p_279_4, kx_p_280_1, kx_p_280_2, kx_p_280_3, kx_p_281, kx_p_or, kx_p_296_1, kx_p_296_2, kx_p_296_3, kx_p_297, kx_p_298_5, kx_p_298_6, kx_p_298_7, kx_p_298_8, kx_p_298_9, kx_p_298_11, kx_p_298_13, kx_p_298_18, kx_p_298_20, kx_p_299, kx_p_300, kx_p_301, kx_p_302, kx_p_303, kx_p_304, kx_p_305, kx_p_306, kx_p_307, kx_p_308, kx_p_309, kx_p_310, ↓reduceIte, Bool.true_eq_false, Bool.false_eq_true, reduceCtorEq, Option.bind_some, Option.bind_none, Option.toList_some, Option.toList_none, List.cons_append, List.nil_append, kx_nat_s, not_true_eq_false, not_false_eq_true, Int32.reduceAdd, Int32.reduceSub, Int32.reduceLT, Int32.reduceMul, Int32.reduceDiv, Int32.reduceMod, Nat.reduceLT, Nat.reduceLeDiff, Nat.reduceEqDiff, Nat.reduceAdd, true_and, and_true, kx_le_lt, ite_not, Classical.not_not, kx_ib, ne_eq, gt_iff_lt, ge_iff_le, kx_nw0, kx_nw1, kx_nwb, kx_b0, kx_b1, Nat.lt_irrefl, kx_up_eq, kx_ul_eq, kx_up_ne, kx_ul_ne, kx_arr_n, kx_nat_i, kx_nat_lt, kx_sr_rd, kx_sr_ne, kx_sr_up, kx_sr_upn, kx_u1_eq, kx_u1_ne, kx_tn_0, kx_tn_1, kx_tn_2, kx_tn_3, kx_tn_4, kx_tn_5, kx_tn_6, kx_tn_7, kx_tn_8, kx_tn_9, kx_tn_10, kx_tn_11, kx_tn_12, kx_la_0, kx_la_1, kx_la_2, kx_la_3, kx_la_4, kx_la_5, kx_la_6, kx_la_7, kx_la_8, kx_la_9, kx_la_10, kx_la_11, kx_la_12, kx_j10_0, kx_j10_1, kx_j10_2, kx_j10_3, kx_j10_4, kx_j10_5, kx_j10_6, kx_j10_7, kx_j10_8, kx_j10_9, kx_j4_0, kx_j4_1, kx_j4_2, kx_j4_3, kx_rfr, h71, show ((1 : Int32) = 0) = False from eq_false (by decide)]
theorem ky_oor {x : Int32} (h : ¬ x < 1) (h2 : ¬ 9 < x) : ∃ n, 1 ≤ n ∧ n ≤ 9 ∧ x = Int32.ofNat n := by
  have h0 : (0 : Int32) ≤ x := by
    rw [Int32.le_iff_toInt_le]
    have : ¬ x.toInt < (1 : Int32).toInt := fun z => h (Int32.lt_iff_toInt_lt.mpr z)
    have e1 : (1 : Int32).toInt = 1 := by decide
    have e0 : (0 : Int32).toInt = 0 := by decide
    omega
  have h3 : x < Int32.ofNat 10 := by
    rw [Int32.lt_iff_toInt_lt]
    have : ¬ (9 : Int32).toInt < x.toInt := fun z => h2 (Int32.lt_iff_toInt_lt.mpr z)
    have e1 : (9 : Int32).toInt = 9 := by decide
    have e0 : (Int32.ofNat 10).toInt = 10 := by decide
    omega
  obtain ⟨k, hk, e⟩ := kx_nat_of h0 h3 (by decide)
  refine ⟨k, ?_, by omega, e⟩
  rw [e] at h
  have := (kx_nat_lt (a := k) (b := 1) (by omega) (by decide))
  have h4 : ¬ k < 1 := fun z => h (this.mpr z)
  omega
theorem ky_nn {m : Nat} (h : m < 2147483648) : ¬ Int32.ofNat m < 0 := kx_nat_nn h
theorem ky_op_turn {N : Nat} (G : ky_G N g) (hN : N + 9 < 1000000) (x : Int32) : ∃ g' c rs, ky_CD (N + 9) 27 [.int x] g g' c rs ∧ ky_MD 151 [.int x] g g' c rs ∧ (c < 0 → g' = g) := by
  obtain ⟨nt, nk, nw, tn, I, Z, Q, htn⟩ := G
  have hnk := ky_I_nk I
  by_cases h1 : x < 1 ∨ 9 < x
  · refine ⟨g, -12, none, ⟨⟨nt, nk, nw, tn, I, Z, Q, by omega⟩, fun ph sc sg lm R => ⟨sg, lm, ?_, R, rfl, ky_FC.refl⟩⟩, ⟨fun p h => by (cases h), fun ph sc sg lm w n h7 h6 hn => ⟨sg, ?_, rfl, fun _ => ⟨rfl, rfl⟩, fun z => absurd (by decide) z, ky_FM.refl⟩⟩, fun _ => rfl⟩
    · rw [kx_o27]
      by_cases ha : x < 1
      · simp (disch := omega) only [kx_e27_0, kx_e27_1, kx_e27_2, kx_e27_5, kx_e27_6, kx_e27_8, kx_e27_11, kx_e27_13, kx_e27_14, kx_e27_15, kx_e27_16, kx_e27_17, kx_e27_18, kx_e27_19, kx_e27_20, kx_e27_23, kx_e27_24, kx_e27_25, kx_e27_28, kx_e27_29, kx_e27_32, kx_e27_35, kx_e27_36, kx_e27_37, kx_e27_40, kx_e27_43, kx_e27_44, kx_s_0, kx_s_1, kx_s_2, kx_s_tw, kx_s_9, kx_s_kt, kx_s_22, kx_s_23, kx_s_24, kx_s_73, kx_s_74, kx_s_267, kx_s_268, kx_s_269, kx_s_270, kx_s_271, kx_s_272, kx_s_273, kx_s_274, kx_s_275, kx_s_276, kx_s_277, kx_s_278, kx_s_279, kx_s_280, kx_s_281, kx_s_282, kx_s_or, kx_s_296, kx_s_297, kx_s_298, kx_s_299, kx_s_300, kx_s_301, kx_s_302, kx_s_303, kx_s_304, kx_s_305, kx_s_306, kx_s_307, kx_s_308, kx_s_309, kx_s_310, kx_g_0_0, kx_g_0_1, kx_g_0_2, kx_g_0_3, kx_g_0_4, kx_g_0_5, kx_g_0_6, kx_g_0_7, kx_g_0_8, kx_g_0_9, kx_g_0_10, kx_g_1_0, kx_g_1_1, kx_g_1_2, kx_g_1_3, kx_g_1_4, kx_g_1_5, kx_g_1_6, kx_g_1_7, kx_g_1_8, kx_g_1_9, kx_g_1_10, kx_g_1_11, kx_g_1_12, kx_g_1_13, kx_g_2, kx_g_tw, kx_g_9, kx_g_kt, kx_g_22, kx_g_23, kx_g_24, kx_g_73_0, kx_g_73_1, kx_g_73_2, kx_g_74, kx_g_267_0, kx_g_267_1, kx_g_267_2, kx_g_268, kx_g_269_0, kx_g_269_1, kx_g_269_2, kx_g_270, kx_g_271_0, kx_g_271_1, kx_g_271_2, kx_g_271_3, kx_g_272_0, kx_g_272_1, kx_g_272_2, kx_g_273, kx_g_274_0, kx_g_274_1, kx_g_274_2, kx_g_275, kx_g_276_0, kx_g_276_1, kx_g_276_2, kx_g_277, kx_g_278, kx_g_279_0, kx_g_279_1, kx_g_279_2, kx_g_279_3, kx_g_279_4, kx_g_280_0, kx_g_280_1, kx_g_280_2, kx_g_280_3, kx_g_281, kx_g_282, kx_g_or, kx_g_296_0, kx_g_296_1, kx_g_296_2, kx_g_296_3, kx_g_297, kx_g_298_0, kx_g_298_1, kx_g_298_2, kx_g_298_3, kx_g_298_4, kx_g_298_5, kx_g_298_6, kx_g_298_7, kx_g_298_8, kx_g_298_9, kx_g_298_10, kx_g_298_11, kx_g_298_12, kx_g_298_13, kx_g_298_14, kx_g_298_15, kx_g_298_16, kx_g_298_17, kx_g_298_18, kx_g_298_19, kx_g_298_20, kx_g_299, kx_g_300, kx_g_301, kx_g_302, kx_g_303, kx_g_304, kx_g_305, kx_g_306, kx_g_307, kx_g_308, kx_g_309, kx_g_310, kx_p_0_3, kx_p_0_9, kx_p_0_10, kx_p_1_0, kx_p_1_2, kx_p_1_4, kx_p_1_7, kx_p_1_9, kx_p_1_10, kx_p_1_11, kx_p_1_12, kx_p_1_13, kx_p_tw, kx_p_kt, kx_p_22, kx_p_23, kx_p_24, kx_p_73_1, kx_p_73_2, kx_p_268, kx_p_269_0, kx_p_269_1, kx_p_269_2, kx_p_270, kx_p_273, kx_p_274_0, kx_p_274_1, kx_p_274_2, kx_p_275, kx_p_276_0, kx_p_276_1, kx_p_276_2, kx_p_277, kx_p_278, kx_p_279_2, kx_p_279_3, kx_p_279_4, kx_p_280_1, kx_p_280_2, kx_p_280_3, kx_p_281, kx_p_or, kx_p_296_1, kx_p_296_2, kx_p_296_3, kx_p_297, kx_p_298_5, kx_p_298_6, kx_p_298_7, kx_p_298_8, kx_p_298_9, kx_p_298_11, kx_p_298_13, kx_p_298_18, kx_p_298_20, kx_p_299, kx_p_300, kx_p_301, kx_p_302, kx_p_303, kx_p_304, kx_p_305, kx_p_306, kx_p_307, kx_p_308, kx_p_309, kx_p_310, ↓reduceIte, Bool.true_eq_false, Bool.false_eq_true, reduceCtorEq, Option.bind_some, Option.bind_none, Option.toList_some, Option.toList_none, List.cons_append, List.nil_append, kx_nat_s, not_true_eq_false, not_false_eq_true, Int32.reduceAdd, Int32.reduceSub, Int32.reduceLT, Int32.reduceMul, Int32.reduceDiv, Int32.reduceMod, Nat.reduceLT, Nat.reduceLeDiff, Nat.reduceEqDiff, Nat.reduceAdd, true_and, and_true, kx_le_lt, ite_not, Classical.not_not, kx_ib, ne_eq, gt_iff_lt, ge_iff_le, kx_nw0, kx_nw1, kx_nwb, kx_b0, kx_b1, Nat.lt_irrefl, kx_up_eq, kx_ul_eq, kx_up_ne, kx_ul_ne, kx_arr_n, kx_nat_i, kx_nat_lt, kx_sr_rd, kx_sr_ne, kx_sr_up, kx_sr_upn, kx_u1_eq, kx_u1_ne, kx_tn_0, kx_tn_1, kx_tn_2, kx_tn_3, kx_tn_4, kx_tn_5, kx_tn_6, kx_tn_7, kx_tn_8, kx_tn_9, kx_tn_10, kx_tn_11, kx_tn_12, kx_la_0, kx_la_1, kx_la_2, kx_la_3, kx_la_4, kx_la_5, kx_la_6, kx_la_7, kx_la_8, kx_la_9, kx_la_10, kx_la_11, kx_la_12, kx_j10_0, kx_j10_1, kx_j10_2, kx_j10_3, kx_j10_4, kx_j10_5, kx_j10_6, kx_j10_7, kx_j10_8, kx_j10_9, kx_j4_0, kx_j4_1, kx_j4_2, kx_j4_3, kx_rfr, ha]
      · have hb := h1.resolve_left ha
        simp (disch := omega) only [kx_e27_0, kx_e27_1, kx_e27_2, kx_e27_5, kx_e27_6, kx_e27_8, kx_e27_11, kx_e27_13, kx_e27_14, kx_e27_15, kx_e27_16, kx_e27_17, kx_e27_18, kx_e27_19, kx_e27_20, kx_e27_23, kx_e27_24, kx_e27_25, kx_e27_28, kx_e27_29, kx_e27_32, kx_e27_35, kx_e27_36, kx_e27_37, kx_e27_40, kx_e27_43, kx_e27_44, kx_s_0, kx_s_1, kx_s_2, kx_s_tw, kx_s_9, kx_s_kt, kx_s_22, kx_s_23, kx_s_24, kx_s_73, kx_s_74, kx_s_267, kx_s_268, kx_s_269, kx_s_270, kx_s_271, kx_s_272, kx_s_273, kx_s_274, kx_s_275, kx_s_276, kx_s_277, kx_s_278, kx_s_279, kx_s_280, kx_s_281, kx_s_282, kx_s_or, kx_s_296, kx_s_297, kx_s_298, kx_s_299, kx_s_300, kx_s_301, kx_s_302, kx_s_303, kx_s_304, kx_s_305, kx_s_306, kx_s_307, kx_s_308, kx_s_309, kx_s_310, kx_g_0_0, kx_g_0_1, kx_g_0_2, kx_g_0_3, kx_g_0_4, kx_g_0_5, kx_g_0_6, kx_g_0_7, kx_g_0_8, kx_g_0_9, kx_g_0_10, kx_g_1_0, kx_g_1_1, kx_g_1_2, kx_g_1_3, kx_g_1_4, kx_g_1_5, kx_g_1_6, kx_g_1_7, kx_g_1_8, kx_g_1_9, kx_g_1_10, kx_g_1_11, kx_g_1_12, kx_g_1_13, kx_g_2, kx_g_tw, kx_g_9, kx_g_kt, kx_g_22, kx_g_23, kx_g_24, kx_g_73_0, kx_g_73_1, kx_g_73_2, kx_g_74, kx_g_267_0, kx_g_267_1, kx_g_267_2, kx_g_268, kx_g_269_0, kx_g_269_1, kx_g_269_2, kx_g_270, kx_g_271_0, kx_g_271_1, kx_g_271_2, kx_g_271_3, kx_g_272_0, kx_g_272_1, kx_g_272_2, kx_g_273, kx_g_274_0, kx_g_274_1, kx_g_274_2, kx_g_275, kx_g_276_0, kx_g_276_1, kx_g_276_2, kx_g_277, kx_g_278, kx_g_279_0, kx_g_279_1, kx_g_279_2, kx_g_279_3, kx_g_279_4, kx_g_280_0, kx_g_280_1, kx_g_280_2, kx_g_280_3, kx_g_281, kx_g_282, kx_g_or, kx_g_296_0, kx_g_296_1, kx_g_296_2, kx_g_296_3, kx_g_297, kx_g_298_0, kx_g_298_1, kx_g_298_2, kx_g_298_3, kx_g_298_4, kx_g_298_5, kx_g_298_6, kx_g_298_7, kx_g_298_8, kx_g_298_9, kx_g_298_10, kx_g_298_11, kx_g_298_12, kx_g_298_13, kx_g_298_14, kx_g_298_15, kx_g_298_16, kx_g_298_17, kx_g_298_18, kx_g_298_19, kx_g_298_20, kx_g_299, kx_g_300, kx_g_301, kx_g_302, kx_g_303, kx_g_304, kx_g_305, kx_g_306, kx_g_307, kx_g_308, kx_g_309, kx_g_310, kx_p_0_3, kx_p_0_9, kx_p_0_10, kx_p_1_0, kx_p_1_2, kx_p_1_4, kx_p_1_7, kx_p_1_9, kx_p_1_10, kx_p_1_11, kx_p_1_12, kx_p_1_13, kx_p_tw, kx_p_kt, kx_p_22, kx_p_23, kx_p_24, kx_p_73_1, kx_p_73_2, kx_p_268, kx_p_269_0, kx_p_269_1, kx_p_269_2, kx_p_270, kx_p_273, kx_p_274_0, kx_p_274_1, kx_p_274_2, kx_p_275, kx_p_276_0, kx_p_276_1, kx_p_276_2, kx_p_277, kx_p_278, kx_p_279_2, kx_p_279_3, kx_p_279_4, kx_p_280_1, kx_p_280_2, kx_p_280_3, kx_p_281, kx_p_or, kx_p_296_1, kx_p_296_2, kx_p_296_3, kx_p_297, kx_p_298_5, kx_p_298_6, kx_p_298_7, kx_p_298_8, kx_p_298_9, kx_p_298_11, kx_p_298_13, kx_p_298_18, kx_p_298_20, kx_p_299, kx_p_300, kx_p_301, kx_p_302, kx_p_303, kx_p_304, kx_p_305, kx_p_306, kx_p_307, kx_p_308, kx_p_309, kx_p_310, ↓reduceIte, Bool.true_eq_false, Bool.false_eq_true, reduceCtorEq, Option.bind_some, Option.bind_none, Option.toList_some, Option.toList_none, List.cons_append, List.nil_append, kx_nat_s, not_true_eq_false, not_false_eq_true, Int32.reduceAdd, Int32.reduceSub, Int32.reduceLT, Int32.reduceMul, Int32.reduceDiv, Int32.reduceMod, Nat.reduceLT, Nat.reduceLeDiff, Nat.reduceEqDiff, Nat.reduceAdd, true_and, and_true, kx_le_lt, ite_not, Classical.not_not, kx_ib, ne_eq, gt_iff_lt, ge_iff_le, kx_nw0, kx_nw1, kx_nwb, kx_b0, kx_b1, Nat.lt_irrefl, kx_up_eq, kx_ul_eq, kx_up_ne, kx_ul_ne, kx_arr_n, kx_nat_i, kx_nat_lt, kx_sr_rd, kx_sr_ne, kx_sr_up, kx_sr_upn, kx_u1_eq, kx_u1_ne, kx_tn_0, kx_tn_1, kx_tn_2, kx_tn_3, kx_tn_4, kx_tn_5, kx_tn_6, kx_tn_7, kx_tn_8, kx_tn_9, kx_tn_10, kx_tn_11, kx_tn_12, kx_la_0, kx_la_1, kx_la_2, kx_la_3, kx_la_4, kx_la_5, kx_la_6, kx_la_7, kx_la_8, kx_la_9, kx_la_10, kx_la_11, kx_la_12, kx_j10_0, kx_j10_1, kx_j10_2, kx_j10_3, kx_j10_4, kx_j10_5, kx_j10_6, kx_j10_7, kx_j10_8, kx_j10_9, kx_j4_0, kx_j4_1, kx_j4_2, kx_j4_3, kx_rfr, ha, hb]
    · rw [kx_o151]
      by_cases ha : x < 1
      · simp (disch := omega) only [kx_e151_0, kx_e151_1, kx_e151_2, kx_e151_4, kx_e151_7, kx_e151_10, kx_e151_12, kx_e151_13, kx_e151_14, kx_e151_15, kx_e151_18, kx_e151_21, kx_e151_22, kx_e151_25, kx_e151_27, kx_e151_28, kx_e151_29, kx_e151_30, kx_e151_31, kx_e151_32, kx_e151_33, kx_e151_36, kx_e151_37, kx_e151_40, kx_e151_43, kx_e151_46, kx_e151_47, kx_e151_50, kx_e151_52, kx_e151_53, kx_e151_54, kx_e151_55, kx_e128_0, kx_e128_1, kx_e128_4, kx_e128_6, kx_e128_7, kx_e128_8, kx_e128_9, kx_e128_10, kx_e128_11, kx_e128_12, kx_e128_13, kx_e136_0, kx_e136_1, kx_e136_4, kx_e136_6, kx_e136_8, kx_e136_9, kx_e136_10, kx_e136_11, kx_e136_12, kx_e136_13, kx_e136_14, kx_e146_0, kx_e146_1, kx_e146_2, kx_e146_3, kx_e146_4, kx_e146_7, kx_e146_8, kx_e146_11, kx_e115_0, kx_e115_1, kx_e115_2, kx_e115_5, kx_e115_6, kx_e115_7, kx_e115_10, kx_e115_11, kx_e115_14, kx_e115_15, kx_e137_0, kx_e137_1, kx_e137_4, kx_e137_6, kx_e137_8, kx_e137_9, kx_e137_10, kx_e137_11, kx_e137_12, kx_e137_13, kx_e137_14, kx_e137_15, kx_e145_0, kx_e145_1, kx_e145_2, kx_e145_3, kx_e145_6, kx_e145_7, kx_e145_8, kx_e145_9, kx_e145_10, kx_e145_13, kx_e134_0, kx_e134_1, kx_e134_2, kx_e134_3, kx_e134_6, kx_e134_7, kx_e134_8, kx_e134_9, kx_e134_10, kx_e134_13, kx_o128, kx_o136, kx_o146, kx_o115, kx_o137, kx_o145, kx_o134, kx_s_0, kx_s_1, kx_s_2, kx_s_tw, kx_s_9, kx_s_kt, kx_s_22, kx_s_23, kx_s_24, kx_s_73, kx_s_74, kx_s_267, kx_s_268, kx_s_269, kx_s_270, kx_s_271, kx_s_272, kx_s_273, kx_s_274, kx_s_275, kx_s_276, kx_s_277, kx_s_278, kx_s_279, kx_s_280, kx_s_281, kx_s_282, kx_s_or, kx_s_296, kx_s_297, kx_s_298, kx_s_299, kx_s_300, kx_s_301, kx_s_302, kx_s_303, kx_s_304, kx_s_305, kx_s_306, kx_s_307, kx_s_308, kx_s_309, kx_s_310, kx_g_0_0, kx_g_0_1, kx_g_0_2, kx_g_0_3, kx_g_0_4, kx_g_0_5, kx_g_0_6, kx_g_0_7, kx_g_0_8, kx_g_0_9, kx_g_0_10, kx_g_1_0, kx_g_1_1, kx_g_1_2, kx_g_1_3, kx_g_1_4, kx_g_1_5, kx_g_1_6, kx_g_1_7, kx_g_1_8, kx_g_1_9, kx_g_1_10, kx_g_1_11, kx_g_1_12, kx_g_1_13, kx_g_2, kx_g_tw, kx_g_9, kx_g_kt, kx_g_22, kx_g_23, kx_g_24, kx_g_73_0, kx_g_73_1, kx_g_73_2, kx_g_74, kx_g_267_0, kx_g_267_1, kx_g_267_2, kx_g_268, kx_g_269_0, kx_g_269_1, kx_g_269_2, kx_g_270, kx_g_271_0, kx_g_271_1, kx_g_271_2, kx_g_271_3, kx_g_272_0, kx_g_272_1, kx_g_272_2, kx_g_273, kx_g_274_0, kx_g_274_1, kx_g_274_2, kx_g_275, kx_g_276_0, kx_g_276_1, kx_g_276_2, kx_g_277, kx_g_278, kx_g_279_0, kx_g_279_1, kx_g_279_2, kx_g_279_3, kx_g_279_4, kx_g_280_0, kx_g_280_1, kx_g_280_2, kx_g_280_3, kx_g_281, kx_g_282, kx_g_or, kx_g_296_0, kx_g_296_1, kx_g_296_2, kx_g_296_3, kx_g_297, kx_g_298_0, kx_g_298_1, kx_g_298_2, kx_g_298_3, kx_g_298_4, kx_g_298_5, kx_g_298_6, kx_g_298_7, kx_g_298_8, kx_g_298_9, kx_g_298_10, kx_g_298_11, kx_g_298_12, kx_g_298_13, kx_g_298_14, kx_g_298_15, kx_g_298_16, kx_g_298_17, kx_g_298_18, kx_g_298_19, kx_g_298_20, kx_g_299, kx_g_300, kx_g_301, kx_g_302, kx_g_303, kx_g_304, kx_g_305, kx_g_306, kx_g_307, kx_g_308, kx_g_309, kx_g_310, kx_p_0_3, kx_p_0_9, kx_p_0_10, kx_p_1_0, kx_p_1_2, kx_p_1_4, kx_p_1_7, kx_p_1_9, kx_p_1_10, kx_p_1_11, kx_p_1_12, kx_p_1_13, kx_p_tw, kx_p_kt, kx_p_22, kx_p_23, kx_p_24, kx_p_73_1, kx_p_73_2, kx_p_268, kx_p_269_0, kx_p_269_1, kx_p_269_2, kx_p_270, kx_p_273, kx_p_274_0, kx_p_274_1, kx_p_274_2, kx_p_275, kx_p_276_0, kx_p_276_1, kx_p_276_2, kx_p_277, kx_p_278, kx_p_279_2, kx_p_279_3, kx_p_279_4, kx_p_280_1, kx_p_280_2, kx_p_280_3, kx_p_281, kx_p_or, kx_p_296_1, kx_p_296_2, kx_p_296_3, kx_p_297, kx_p_298_5, kx_p_298_6, kx_p_298_7, kx_p_298_8, kx_p_298_9, kx_p_298_11, kx_p_298_13, kx_p_298_18, kx_p_298_20, kx_p_299, kx_p_300, kx_p_301, kx_p_302, kx_p_303, kx_p_304, kx_p_305, kx_p_306, kx_p_307, kx_p_308, kx_p_309, kx_p_310, ↓reduceIte, Bool.true_eq_false, Bool.false_eq_true, reduceCtorEq, Option.bind_some, Option.bind_none, Option.toList_some, Option.toList_none, List.cons_append, List.nil_append, kx_nat_s, not_true_eq_false, not_false_eq_true, Int32.reduceAdd, Int32.reduceSub, Int32.reduceLT, Int32.reduceMul, Int32.reduceDiv, Int32.reduceMod, Nat.reduceLT, Nat.reduceLeDiff, Nat.reduceEqDiff, Nat.reduceAdd, true_and, and_true, kx_le_lt, ite_not, Classical.not_not, kx_ib, ne_eq, gt_iff_lt, ge_iff_le, kx_nw0, kx_nw1, kx_nwb, kx_b0, kx_b1, Nat.lt_irrefl, kx_up_eq, kx_ul_eq, kx_up_ne, kx_ul_ne, kx_arr_n, kx_nat_i, kx_nat_lt, kx_sr_rd, kx_sr_ne, kx_sr_up, kx_sr_upn, kx_u1_eq, kx_u1_ne, kx_tn_0, kx_tn_1, kx_tn_2, kx_tn_3, kx_tn_4, kx_tn_5, kx_tn_6, kx_tn_7, kx_tn_8, kx_tn_9, kx_tn_10, kx_tn_11, kx_tn_12, kx_la_0, kx_la_1, kx_la_2, kx_la_3, kx_la_4, kx_la_5, kx_la_6, kx_la_7, kx_la_8, kx_la_9, kx_la_10, kx_la_11, kx_la_12, kx_j10_0, kx_j10_1, kx_j10_2, kx_j10_3, kx_j10_4, kx_j10_5, kx_j10_6, kx_j10_7, kx_j10_8, kx_j10_9, kx_j4_0, kx_j4_1, kx_j4_2, kx_j4_3, kx_rfr, ha]
      · have hb := h1.resolve_left ha
        simp (disch := omega) only [kx_e151_0, kx_e151_1, kx_e151_2, kx_e151_4, kx_e151_7, kx_e151_10, kx_e151_12, kx_e151_13, kx_e151_14, kx_e151_15, kx_e151_18, kx_e151_21, kx_e151_22, kx_e151_25, kx_e151_27, kx_e151_28, kx_e151_29, kx_e151_30, kx_e151_31, kx_e151_32, kx_e151_33, kx_e151_36, kx_e151_37, kx_e151_40, kx_e151_43, kx_e151_46, kx_e151_47, kx_e151_50, kx_e151_52, kx_e151_53, kx_e151_54, kx_e151_55, kx_e128_0, kx_e128_1, kx_e128_4, kx_e128_6, kx_e128_7, kx_e128_8, kx_e128_9, kx_e128_10, kx_e128_11, kx_e128_12, kx_e128_13, kx_e136_0, kx_e136_1, kx_e136_4, kx_e136_6, kx_e136_8, kx_e136_9, kx_e136_10, kx_e136_11, kx_e136_12, kx_e136_13, kx_e136_14, kx_e146_0, kx_e146_1, kx_e146_2, kx_e146_3, kx_e146_4, kx_e146_7, kx_e146_8, kx_e146_11, kx_e115_0, kx_e115_1, kx_e115_2, kx_e115_5, kx_e115_6, kx_e115_7, kx_e115_10, kx_e115_11, kx_e115_14, kx_e115_15, kx_e137_0, kx_e137_1, kx_e137_4, kx_e137_6, kx_e137_8, kx_e137_9, kx_e137_10, kx_e137_11, kx_e137_12, kx_e137_13, kx_e137_14, kx_e137_15, kx_e145_0, kx_e145_1, kx_e145_2, kx_e145_3, kx_e145_6, kx_e145_7, kx_e145_8, kx_e145_9, kx_e145_10, kx_e145_13, kx_e134_0, kx_e134_1, kx_e134_2, kx_e134_3, kx_e134_6, kx_e134_7, kx_e134_8, kx_e134_9, kx_e134_10, kx_e134_13, kx_o128, kx_o136, kx_o146, kx_o115, kx_o137, kx_o145, kx_o134, kx_s_0, kx_s_1, kx_s_2, kx_s_tw, kx_s_9, kx_s_kt, kx_s_22, kx_s_23, kx_s_24, kx_s_73, kx_s_74, kx_s_267, kx_s_268, kx_s_269, kx_s_270, kx_s_271, kx_s_272, kx_s_273, kx_s_274, kx_s_275, kx_s_276, kx_s_277, kx_s_278, kx_s_279, kx_s_280, kx_s_281, kx_s_282, kx_s_or, kx_s_296, kx_s_297, kx_s_298, kx_s_299, kx_s_300, kx_s_301, kx_s_302, kx_s_303, kx_s_304, kx_s_305, kx_s_306, kx_s_307, kx_s_308, kx_s_309, kx_s_310, kx_g_0_0, kx_g_0_1, kx_g_0_2, kx_g_0_3, kx_g_0_4, kx_g_0_5, kx_g_0_6, kx_g_0_7, kx_g_0_8, kx_g_0_9, kx_g_0_10, kx_g_1_0, kx_g_1_1, kx_g_1_2, kx_g_1_3, kx_g_1_4, kx_g_1_5, kx_g_1_6, kx_g_1_7, kx_g_1_8, kx_g_1_9, kx_g_1_10, kx_g_1_11, kx_g_1_12, kx_g_1_13, kx_g_2, kx_g_tw, kx_g_9, kx_g_kt, kx_g_22, kx_g_23, kx_g_24, kx_g_73_0, kx_g_73_1, kx_g_73_2, kx_g_74, kx_g_267_0, kx_g_267_1, kx_g_267_2, kx_g_268, kx_g_269_0, kx_g_269_1, kx_g_269_2, kx_g_270, kx_g_271_0, kx_g_271_1, kx_g_271_2, kx_g_271_3, kx_g_272_0, kx_g_272_1, kx_g_272_2, kx_g_273, kx_g_274_0, kx_g_274_1, kx_g_274_2, kx_g_275, kx_g_276_0, kx_g_276_1, kx_g_276_2, kx_g_277, kx_g_278, kx_g_279_0, kx_g_279_1, kx_g_279_2, kx_g_279_3, kx_g_279_4, kx_g_280_0, kx_g_280_1, kx_g_280_2, kx_g_280_3, kx_g_281, kx_g_282, kx_g_or, kx_g_296_0, kx_g_296_1, kx_g_296_2, kx_g_296_3, kx_g_297, kx_g_298_0, kx_g_298_1, kx_g_298_2, kx_g_298_3, kx_g_298_4, kx_g_298_5, kx_g_298_6, kx_g_298_7, kx_g_298_8, kx_g_298_9, kx_g_298_10, kx_g_298_11, kx_g_298_12, kx_g_298_13, kx_g_298_14, kx_g_298_15, kx_g_298_16, kx_g_298_17, kx_g_298_18, kx_g_298_19, kx_g_298_20, kx_g_299, kx_g_300, kx_g_301, kx_g_302, kx_g_303, kx_g_304, kx_g_305, kx_g_306, kx_g_307, kx_g_308, kx_g_309, kx_g_310, kx_p_0_3, kx_p_0_9, kx_p_0_10, kx_p_1_0, kx_p_1_2, kx_p_1_4, kx_p_1_7, kx_p_1_9, kx_p_1_10, kx_p_1_11, kx_p_1_12, kx_p_1_13, kx_p_tw, kx_p_kt, kx_p_22, kx_p_23, kx_p_24, kx_p_73_1, kx_p_73_2, kx_p_268, kx_p_269_0, kx_p_269_1, kx_p_269_2, kx_p_270, kx_p_273, kx_p_274_0, kx_p_274_1, kx_p_274_2, kx_p_275, kx_p_276_0, kx_p_276_1, kx_p_276_2, kx_p_277, kx_p_278, kx_p_279_2, kx_p_279_3, kx_p_279_4, kx_p_280_1, kx_p_280_2, kx_p_280_3, kx_p_281, kx_p_or, kx_p_296_1, kx_p_296_2, kx_p_296_3, kx_p_297, kx_p_298_5, kx_p_298_6, kx_p_298_7, kx_p_298_8, kx_p_298_9, kx_p_298_11, kx_p_298_13, kx_p_298_18, kx_p_298_20, kx_p_299, kx_p_300, kx_p_301, kx_p_302, kx_p_303, kx_p_304, kx_p_305, kx_p_306, kx_p_307, kx_p_308, kx_p_309, kx_p_310, ↓reduceIte, Bool.true_eq_false, Bool.false_eq_true, reduceCtorEq, Option.bind_some, Option.bind_none, Option.toList_some, Option.toList_none, List.cons_append, List.nil_append, kx_nat_s, not_true_eq_false, not_false_eq_true, Int32.reduceAdd, Int32.reduceSub, Int32.reduceLT, Int32.reduceMul, Int32.reduceDiv, Int32.reduceMod, Nat.reduceLT, Nat.reduceLeDiff, Nat.reduceEqDiff, Nat.reduceAdd, true_and, and_true, kx_le_lt, ite_not, Classical.not_not, kx_ib, ne_eq, gt_iff_lt, ge_iff_le, kx_nw0, kx_nw1, kx_nwb, kx_b0, kx_b1, Nat.lt_irrefl, kx_up_eq, kx_ul_eq, kx_up_ne, kx_ul_ne, kx_arr_n, kx_nat_i, kx_nat_lt, kx_sr_rd, kx_sr_ne, kx_sr_up, kx_sr_upn, kx_u1_eq, kx_u1_ne, kx_tn_0, kx_tn_1, kx_tn_2, kx_tn_3, kx_tn_4, kx_tn_5, kx_tn_6, kx_tn_7, kx_tn_8, kx_tn_9, kx_tn_10, kx_tn_11, kx_tn_12, kx_la_0, kx_la_1, kx_la_2, kx_la_3, kx_la_4, kx_la_5, kx_la_6, kx_la_7, kx_la_8, kx_la_9, kx_la_10, kx_la_11, kx_la_12, kx_j10_0, kx_j10_1, kx_j10_2, kx_j10_3, kx_j10_4, kx_j10_5, kx_j10_6, kx_j10_7, kx_j10_8, kx_j10_9, kx_j4_0, kx_j4_1, kx_j4_2, kx_j4_3, kx_rfr, ha, hb]
  · have ha : ¬ x < 1 := fun z => h1 (Or.inl z)
    have hb : ¬ 9 < x := fun z => h1 (Or.inr z)
    obtain ⟨m, m1, m9, rfl⟩ := ky_oor ha hb
    have Im := ky_I_tns I m (by omega)
    obtain ⟨q, hq, eq⟩ := ky_6_tns I m (by omega)
    have hc : ky_tns nt nk nw tn g m 6 - g 6 = Int32.ofNat q := by rw [eq, ky_su]
    have hcn : ¬ (ky_tns nt nk nw tn g m 6 - g 6 < 0) := by rw [hc]; exact ky_nn (by omega)
    refine ⟨ky_tns nt nk nw tn g m, ky_tns nt nk nw tn g m 6 - g 6, none, ⟨⟨nt, nk, nw, tn + m, Im, ky_Z_tns I Z m (by omega), ky_Q_tns I Q m (by omega), by omega⟩, fun ph sc sg lm R => ?_⟩, ⟨fun p h => by (cases h), fun ph sc sg lm w n h7 h6 hn => ?_⟩, fun z => absurd z hcn⟩
    · unfold ky_R at R
      rw [hnk, ky_at0] at R
      obtain ⟨l, s, e, Rm, Fm⟩ := kx_exg (γ := Nat → Nat → Int64) (n := m) (fun k l s => kx_D 27 18 [some (.ref 0), some (.int (Int32.ofNat m)), some (.int (ky_tns nt nk nw tn g k 6 - g 6)), some (.int (Int32.ofNat k))] [] (kx_pm ph sc s l)) (fun k s => ky_RS nk s (ky_tns nt nk nw tn g k) ∧ ky_FR sg s) (fun k hk l s hP => by
        obtain ⟨R, F⟩ := hP
        obtain ⟨s', l', e, R', F'⟩ := kx_c_104 (ph := ph) (sc := sc) (lm := l) (ky_I_tns I k (by omega)) R
        refine ⟨l', s', ?_, R', F.trans F'⟩
        have es : ky_tns nt nk nw tn g (k + 1) = ky_turn nt nk nw (tn + k) (ky_tns nt nk nw tn g k) := rfl
        rw [kx_e27_18, es]
        simp (disch := omega) only [kx_e27_0, kx_e27_1, kx_e27_2, kx_e27_5, kx_e27_6, kx_e27_8, kx_e27_11, kx_e27_13, kx_e27_14, kx_e27_15, kx_e27_16, kx_e27_17, kx_e27_19, kx_e27_20, kx_e27_23, kx_e27_24, kx_e27_25, kx_e27_28, kx_e27_29, kx_e27_32, kx_e27_35, kx_e27_36, kx_e27_37, kx_e27_40, kx_e27_43, kx_e27_44, kx_s_0, kx_s_1, kx_s_2, kx_s_tw, kx_s_9, kx_s_kt, kx_s_22, kx_s_23, kx_s_24, kx_s_73, kx_s_74, kx_s_267, kx_s_268, kx_s_269, kx_s_270, kx_s_271, kx_s_272, kx_s_273, kx_s_274, kx_s_275, kx_s_276, kx_s_277, kx_s_278, kx_s_279, kx_s_280, kx_s_281, kx_s_282, kx_s_or, kx_s_296, kx_s_297, kx_s_298, kx_s_299, kx_s_300, kx_s_301, kx_s_302, kx_s_303, kx_s_304, kx_s_305, kx_s_306, kx_s_307, kx_s_308, kx_s_309, kx_s_310, kx_g_0_0, kx_g_0_1, kx_g_0_2, kx_g_0_3, kx_g_0_4, kx_g_0_5, kx_g_0_6, kx_g_0_7, kx_g_0_8, kx_g_0_9, kx_g_0_10, kx_g_1_0, kx_g_1_1, kx_g_1_2, kx_g_1_3, kx_g_1_4, kx_g_1_5, kx_g_1_6, kx_g_1_7, kx_g_1_8, kx_g_1_9, kx_g_1_10, kx_g_1_11, kx_g_1_12, kx_g_1_13, kx_g_2, kx_g_tw, kx_g_9, kx_g_kt, kx_g_22, kx_g_23, kx_g_24, kx_g_73_0, kx_g_73_1, kx_g_73_2, kx_g_74, kx_g_267_0, kx_g_267_1, kx_g_267_2, kx_g_268, kx_g_269_0, kx_g_269_1, kx_g_269_2, kx_g_270, kx_g_271_0, kx_g_271_1, kx_g_271_2, kx_g_271_3, kx_g_272_0, kx_g_272_1, kx_g_272_2, kx_g_273, kx_g_274_0, kx_g_274_1, kx_g_274_2, kx_g_275, kx_g_276_0, kx_g_276_1, kx_g_276_2, kx_g_277, kx_g_278, kx_g_279_0, kx_g_279_1, kx_g_279_2, kx_g_279_3, kx_g_279_4, kx_g_280_0, kx_g_280_1, kx_g_280_2, kx_g_280_3, kx_g_281, kx_g_282, kx_g_or, kx_g_296_0, kx_g_296_1, kx_g_296_2, kx_g_296_3, kx_g_297, kx_g_298_0, kx_g_298_1, kx_g_298_2, kx_g_298_3, kx_g_298_4, kx_g_298_5, kx_g_298_6, kx_g_298_7, kx_g_298_8, kx_g_298_9, kx_g_298_10, kx_g_298_11, kx_g_298_12, kx_g_298_13, kx_g_298_14, kx_g_298_15, kx_g_298_16, kx_g_298_17, kx_g_298_18, kx_g_298_19, kx_g_298_20, kx_g_299, kx_g_300, kx_g_301, kx_g_302, kx_g_303, kx_g_304, kx_g_305, kx_g_306, kx_g_307, kx_g_308, kx_g_309, kx_g_310, kx_p_0_3, kx_p_0_9, kx_p_0_10, kx_p_1_0, kx_p_1_2, kx_p_1_4, kx_p_1_7, kx_p_1_9, kx_p_1_10, kx_p_1_11, kx_p_1_12, kx_p_1_13, kx_p_tw, kx_p_kt, kx_p_22, kx_p_23, kx_p_24, kx_p_73_1, kx_p_73_2, kx_p_268, kx_p_269_0, kx_p_269_1, kx_p_269_2, kx_p_270, kx_p_273, kx_p_274_0, kx_p_274_1, kx_p_274_2, kx_p_275, kx_p_276_0, kx_p_276_1, kx_p_276_2, kx_p_277, kx_p_278, kx_p_279_2, kx_p_279_3, kx_p_279_4, kx_p_280_1, kx_p_280_2, kx_p_280_3, kx_p_281, kx_p_or, kx_p_296_1, kx_p_296_2, kx_p_296_3, kx_p_297, kx_p_298_5, kx_p_298_6, kx_p_298_7, kx_p_298_8, kx_p_298_9, kx_p_298_11, kx_p_298_13, kx_p_298_18, kx_p_298_20, kx_p_299, kx_p_300, kx_p_301, kx_p_302, kx_p_303, kx_p_304, kx_p_305, kx_p_306, kx_p_307, kx_p_308, kx_p_309, kx_p_310, ↓reduceIte, Bool.true_eq_false, Bool.false_eq_true, reduceCtorEq, Option.bind_some, Option.bind_none, Option.toList_some, Option.toList_none, List.cons_append, List.nil_append, kx_nat_s, not_true_eq_false, not_false_eq_true, Int32.reduceAdd, Int32.reduceSub, Int32.reduceLT, Int32.reduceMul, Int32.reduceDiv, Int32.reduceMod, Nat.reduceLT, Nat.reduceLeDiff, Nat.reduceEqDiff, Nat.reduceAdd, true_and, and_true, kx_le_lt, ite_not, Classical.not_not, kx_ib, ne_eq, gt_iff_lt, ge_iff_le, kx_nw0, kx_nw1, kx_nwb, kx_b0, kx_b1, Nat.lt_irrefl, kx_up_eq, kx_ul_eq, kx_up_ne, kx_ul_ne, kx_arr_n, kx_nat_i, kx_nat_lt, kx_sr_rd, kx_sr_ne, kx_sr_up, kx_sr_upn, kx_u1_eq, kx_u1_ne, kx_tn_0, kx_tn_1, kx_tn_2, kx_tn_3, kx_tn_4, kx_tn_5, kx_tn_6, kx_tn_7, kx_tn_8, kx_tn_9, kx_tn_10, kx_tn_11, kx_tn_12, kx_la_0, kx_la_1, kx_la_2, kx_la_3, kx_la_4, kx_la_5, kx_la_6, kx_la_7, kx_la_8, kx_la_9, kx_la_10, kx_la_11, kx_la_12, kx_j10_0, kx_j10_1, kx_j10_2, kx_j10_3, kx_j10_4, kx_j10_5, kx_j10_6, kx_j10_7, kx_j10_8, kx_j10_9, kx_j4_0, kx_j4_1, kx_j4_2, kx_j4_3, kx_rfr, hk, e, ky_tel]) lm sg ⟨R, ky_FR.refl⟩
      refine ⟨s, l, ?_, ?_, ?_, Fm.toC⟩
      · rw [kx_o27]
        simp (disch := omega) only [kx_e27_0, kx_e27_1, kx_e27_2, kx_e27_5, kx_e27_6, kx_e27_8, kx_e27_11, kx_e27_13, kx_e27_14, kx_e27_15, kx_e27_16, kx_e27_17, kx_e27_19, kx_e27_20, kx_e27_23, kx_e27_24, kx_e27_25, kx_e27_28, kx_e27_29, kx_e27_32, kx_e27_35, kx_e27_36, kx_e27_37, kx_e27_40, kx_e27_43, kx_e27_44, kx_s_0, kx_s_1, kx_s_2, kx_s_tw, kx_s_9, kx_s_kt, kx_s_22, kx_s_23, kx_s_24, kx_s_73, kx_s_74, kx_s_267, kx_s_268, kx_s_269, kx_s_270, kx_s_271, kx_s_272, kx_s_273, kx_s_274, kx_s_275, kx_s_276, kx_s_277, kx_s_278, kx_s_279, kx_s_280, kx_s_281, kx_s_282, kx_s_or, kx_s_296, kx_s_297, kx_s_298, kx_s_299, kx_s_300, kx_s_301, kx_s_302, kx_s_303, kx_s_304, kx_s_305, kx_s_306, kx_s_307, kx_s_308, kx_s_309, kx_s_310, kx_g_0_0, kx_g_0_1, kx_g_0_2, kx_g_0_3, kx_g_0_4, kx_g_0_5, kx_g_0_6, kx_g_0_7, kx_g_0_8, kx_g_0_9, kx_g_0_10, kx_g_1_0, kx_g_1_1, kx_g_1_2, kx_g_1_3, kx_g_1_4, kx_g_1_5, kx_g_1_6, kx_g_1_7, kx_g_1_8, kx_g_1_9, kx_g_1_10, kx_g_1_11, kx_g_1_12, kx_g_1_13, kx_g_2, kx_g_tw, kx_g_9, kx_g_kt, kx_g_22, kx_g_23, kx_g_24, kx_g_73_0, kx_g_73_1, kx_g_73_2, kx_g_74, kx_g_267_0, kx_g_267_1, kx_g_267_2, kx_g_268, kx_g_269_0, kx_g_269_1, kx_g_269_2, kx_g_270, kx_g_271_0, kx_g_271_1, kx_g_271_2, kx_g_271_3, kx_g_272_0, kx_g_272_1, kx_g_272_2, kx_g_273, kx_g_274_0, kx_g_274_1, kx_g_274_2, kx_g_275, kx_g_276_0, kx_g_276_1, kx_g_276_2, kx_g_277, kx_g_278, kx_g_279_0, kx_g_279_1, kx_g_279_2, kx_g_279_3, kx_g_279_4, kx_g_280_0, kx_g_280_1, kx_g_280_2, kx_g_280_3, kx_g_281, kx_g_282, kx_g_or, kx_g_296_0, kx_g_296_1, kx_g_296_2, kx_g_296_3, kx_g_297, kx_g_298_0, kx_g_298_1, kx_g_298_2, kx_g_298_3, kx_g_298_4, kx_g_298_5, kx_g_298_6, kx_g_298_7, kx_g_298_8, kx_g_298_9, kx_g_298_10, kx_g_298_11, kx_g_298_12, kx_g_298_13, kx_g_298_14, kx_g_298_15, kx_g_298_16, kx_g_298_17, kx_g_298_18, kx_g_298_19, kx_g_298_20, kx_g_299, kx_g_300, kx_g_301, kx_g_302, kx_g_303, kx_g_304, kx_g_305, kx_g_306, kx_g_307, kx_g_308, kx_g_309, kx_g_310, kx_p_0_3, kx_p_0_9, kx_p_0_10, kx_p_1_0, kx_p_1_2, kx_p_1_4, kx_p_1_7, kx_p_1_9, kx_p_1_10, kx_p_1_11, kx_p_1_12, kx_p_1_13, kx_p_tw, kx_p_kt, kx_p_22, kx_p_23, kx_p_24, kx_p_73_1, kx_p_73_2, kx_p_268, kx_p_269_0, kx_p_269_1, kx_p_269_2, kx_p_270, kx_p_273, kx_p_274_0, kx_p_274_1, kx_p_274_2, kx_p_275, kx_p_276_0, kx_p_276_1, kx_p_276_2, kx_p_277, kx_p_278, kx_p_279_2, kx_p_279_3, kx_p_279_4, kx_p_280_1, kx_p_280_2, kx_p_280_3, kx_p_281, kx_p_or, kx_p_296_1, kx_p_296_2, kx_p_296_3, kx_p_297, kx_p_298_5, kx_p_298_6, kx_p_298_7, kx_p_298_8, kx_p_298_9, kx_p_298_11, kx_p_298_13, kx_p_298_18, kx_p_298_20, kx_p_299, kx_p_300, kx_p_301, kx_p_302, kx_p_303, kx_p_304, kx_p_305, kx_p_306, kx_p_307, kx_p_308, kx_p_309, kx_p_310, ↓reduceIte, Bool.true_eq_false, Bool.false_eq_true, reduceCtorEq, Option.bind_some, Option.bind_none, Option.toList_some, Option.toList_none, List.cons_append, List.nil_append, kx_nat_s, not_true_eq_false, not_false_eq_true, Int32.reduceAdd, Int32.reduceSub, Int32.reduceLT, Int32.reduceMul, Int32.reduceDiv, Int32.reduceMod, Nat.reduceLT, Nat.reduceLeDiff, Nat.reduceEqDiff, Nat.reduceAdd, true_and, and_true, kx_le_lt, ite_not, Classical.not_not, kx_ib, ne_eq, gt_iff_lt, ge_iff_le, kx_nw0, kx_nw1, kx_nwb, kx_b0, kx_b1, Nat.lt_irrefl, kx_up_eq, kx_ul_eq, kx_up_ne, kx_ul_ne, kx_arr_n, kx_nat_i, kx_nat_lt, kx_sr_rd, kx_sr_ne, kx_sr_up, kx_sr_upn, kx_u1_eq, kx_u1_ne, kx_tn_0, kx_tn_1, kx_tn_2, kx_tn_3, kx_tn_4, kx_tn_5, kx_tn_6, kx_tn_7, kx_tn_8, kx_tn_9, kx_tn_10, kx_tn_11, kx_tn_12, kx_la_0, kx_la_1, kx_la_2, kx_la_3, kx_la_4, kx_la_5, kx_la_6, kx_la_7, kx_la_8, kx_la_9, kx_la_10, kx_la_11, kx_la_12, kx_j10_0, kx_j10_1, kx_j10_2, kx_j10_3, kx_j10_4, kx_j10_5, kx_j10_6, kx_j10_7, kx_j10_8, kx_j10_9, kx_j4_0, kx_j4_1, kx_j4_2, kx_j4_3, kx_rfr, ha, hb]
        have e0 : ky_tns nt nk nw tn g 0 6 - g 6 = 0 := Int32.sub_self _
        try dsimp only at e
        rw [e0, show Int32.ofNat 0 = 0 from rfl] at e
        refine e.trans ?_
        rw [kx_e27_18]
        simp (disch := omega) only [kx_e27_0, kx_e27_1, kx_e27_2, kx_e27_5, kx_e27_6, kx_e27_8, kx_e27_11, kx_e27_13, kx_e27_14, kx_e27_15, kx_e27_16, kx_e27_17, kx_e27_19, kx_e27_20, kx_e27_23, kx_e27_24, kx_e27_25, kx_e27_28, kx_e27_29, kx_e27_32, kx_e27_35, kx_e27_36, kx_e27_37, kx_e27_40, kx_e27_43, kx_e27_44, kx_s_0, kx_s_1, kx_s_2, kx_s_tw, kx_s_9, kx_s_kt, kx_s_22, kx_s_23, kx_s_24, kx_s_73, kx_s_74, kx_s_267, kx_s_268, kx_s_269, kx_s_270, kx_s_271, kx_s_272, kx_s_273, kx_s_274, kx_s_275, kx_s_276, kx_s_277, kx_s_278, kx_s_279, kx_s_280, kx_s_281, kx_s_282, kx_s_or, kx_s_296, kx_s_297, kx_s_298, kx_s_299, kx_s_300, kx_s_301, kx_s_302, kx_s_303, kx_s_304, kx_s_305, kx_s_306, kx_s_307, kx_s_308, kx_s_309, kx_s_310, kx_g_0_0, kx_g_0_1, kx_g_0_2, kx_g_0_3, kx_g_0_4, kx_g_0_5, kx_g_0_6, kx_g_0_7, kx_g_0_8, kx_g_0_9, kx_g_0_10, kx_g_1_0, kx_g_1_1, kx_g_1_2, kx_g_1_3, kx_g_1_4, kx_g_1_5, kx_g_1_6, kx_g_1_7, kx_g_1_8, kx_g_1_9, kx_g_1_10, kx_g_1_11, kx_g_1_12, kx_g_1_13, kx_g_2, kx_g_tw, kx_g_9, kx_g_kt, kx_g_22, kx_g_23, kx_g_24, kx_g_73_0, kx_g_73_1, kx_g_73_2, kx_g_74, kx_g_267_0, kx_g_267_1, kx_g_267_2, kx_g_268, kx_g_269_0, kx_g_269_1, kx_g_269_2, kx_g_270, kx_g_271_0, kx_g_271_1, kx_g_271_2, kx_g_271_3, kx_g_272_0, kx_g_272_1, kx_g_272_2, kx_g_273, kx_g_274_0, kx_g_274_1, kx_g_274_2, kx_g_275, kx_g_276_0, kx_g_276_1, kx_g_276_2, kx_g_277, kx_g_278, kx_g_279_0, kx_g_279_1, kx_g_279_2, kx_g_279_3, kx_g_279_4, kx_g_280_0, kx_g_280_1, kx_g_280_2, kx_g_280_3, kx_g_281, kx_g_282, kx_g_or, kx_g_296_0, kx_g_296_1, kx_g_296_2, kx_g_296_3, kx_g_297, kx_g_298_0, kx_g_298_1, kx_g_298_2, kx_g_298_3, kx_g_298_4, kx_g_298_5, kx_g_298_6, kx_g_298_7, kx_g_298_8, kx_g_298_9, kx_g_298_10, kx_g_298_11, kx_g_298_12, kx_g_298_13, kx_g_298_14, kx_g_298_15, kx_g_298_16, kx_g_298_17, kx_g_298_18, kx_g_298_19, kx_g_298_20, kx_g_299, kx_g_300, kx_g_301, kx_g_302, kx_g_303, kx_g_304, kx_g_305, kx_g_306, kx_g_307, kx_g_308, kx_g_309, kx_g_310, kx_p_0_3, kx_p_0_9, kx_p_0_10, kx_p_1_0, kx_p_1_2, kx_p_1_4, kx_p_1_7, kx_p_1_9, kx_p_1_10, kx_p_1_11, kx_p_1_12, kx_p_1_13, kx_p_tw, kx_p_kt, kx_p_22, kx_p_23, kx_p_24, kx_p_73_1, kx_p_73_2, kx_p_268, kx_p_269_0, kx_p_269_1, kx_p_269_2, kx_p_270, kx_p_273, kx_p_274_0, kx_p_274_1, kx_p_274_2, kx_p_275, kx_p_276_0, kx_p_276_1, kx_p_276_2, kx_p_277, kx_p_278, kx_p_279_2, kx_p_279_3, kx_p_279_4, kx_p_280_1, kx_p_280_2, kx_p_280_3, kx_p_281, kx_p_or, kx_p_296_1, kx_p_296_2, kx_p_296_3, kx_p_297, kx_p_298_5, kx_p_298_6, kx_p_298_7, kx_p_298_8, kx_p_298_9, kx_p_298_11, kx_p_298_13, kx_p_298_18, kx_p_298_20, kx_p_299, kx_p_300, kx_p_301, kx_p_302, kx_p_303, kx_p_304, kx_p_305, kx_p_306, kx_p_307, kx_p_308, kx_p_309, kx_p_310, ↓reduceIte, Bool.true_eq_false, Bool.false_eq_true, reduceCtorEq, Option.bind_some, Option.bind_none, Option.toList_some, Option.toList_none, List.cons_append, List.nil_append, kx_nat_s, not_true_eq_false, not_false_eq_true, Int32.reduceAdd, Int32.reduceSub, Int32.reduceLT, Int32.reduceMul, Int32.reduceDiv, Int32.reduceMod, Nat.reduceLT, Nat.reduceLeDiff, Nat.reduceEqDiff, Nat.reduceAdd, true_and, and_true, kx_le_lt, ite_not, Classical.not_not, kx_ib, ne_eq, gt_iff_lt, ge_iff_le, kx_nw0, kx_nw1, kx_nwb, kx_b0, kx_b1, Nat.lt_irrefl, kx_up_eq, kx_ul_eq, kx_up_ne, kx_ul_ne, kx_arr_n, kx_nat_i, kx_nat_lt, kx_sr_rd, kx_sr_ne, kx_sr_up, kx_sr_upn, kx_u1_eq, kx_u1_ne, kx_tn_0, kx_tn_1, kx_tn_2, kx_tn_3, kx_tn_4, kx_tn_5, kx_tn_6, kx_tn_7, kx_tn_8, kx_tn_9, kx_tn_10, kx_tn_11, kx_tn_12, kx_la_0, kx_la_1, kx_la_2, kx_la_3, kx_la_4, kx_la_5, kx_la_6, kx_la_7, kx_la_8, kx_la_9, kx_la_10, kx_la_11, kx_la_12, kx_j10_0, kx_j10_1, kx_j10_2, kx_j10_3, kx_j10_4, kx_j10_5, kx_j10_6, kx_j10_7, kx_j10_8, kx_j10_9, kx_j4_0, kx_j4_1, kx_j4_2, kx_j4_3, kx_rfr]
      · unfold ky_R
        rw [ky_I_nk Im, ky_at0]
        exact Rm
      · rw [Fm 0 (Or.inl rfl) (Or.inl (by decide)) 9, Fm 0 (Or.inl rfl) (Or.inl (by decide)) 10]
        rfl
    · obtain ⟨s1, e1, K1, F1⟩ := kx_c_131g (ph := ph) (sc := sc) (lm := lm) (g := g) h7 h6 hn
      obtain ⟨l, s, e, Fm⟩ := kx_exg (γ := Unit) (n := m) (fun k _ s => kx_D 151 31 [some (.ref 298), some (.int (Int32.ofNat m)), some (.int (g 6)), some (.int (Int32.ofNat k))] [] (kx_pm ph sc (kx_sr s (ky_tns nt nk nw tn g k)) lm)) (fun k s => ∀ a, a ≠ 307 → a ≠ 308 → ∀ j, s a j = s1 a j) (fun k hk l s hP => by
        have c := kx_c_152 (ph := ph) (sc := sc) (sg := s) (lm := lm) (ky_I_tns I k (by omega))
        refine ⟨l, _, by
          rw [kx_e151_31]
          simp (disch := omega) only [kx_e151_0, kx_e151_1, kx_e151_2, kx_e151_4, kx_e151_7, kx_e151_10, kx_e151_12, kx_e151_13, kx_e151_14, kx_e151_15, kx_e151_18, kx_e151_21, kx_e151_22, kx_e151_25, kx_e151_27, kx_e151_28, kx_e151_29, kx_e151_30, kx_e151_32, kx_e151_33, kx_e151_36, kx_e151_37, kx_e151_40, kx_e151_43, kx_e151_46, kx_e151_47, kx_e151_50, kx_e151_52, kx_e151_53, kx_e151_54, kx_e151_55, kx_s_0, kx_s_1, kx_s_2, kx_s_tw, kx_s_9, kx_s_kt, kx_s_22, kx_s_23, kx_s_24, kx_s_73, kx_s_74, kx_s_267, kx_s_268, kx_s_269, kx_s_270, kx_s_271, kx_s_272, kx_s_273, kx_s_274, kx_s_275, kx_s_276, kx_s_277, kx_s_278, kx_s_279, kx_s_280, kx_s_281, kx_s_282, kx_s_or, kx_s_296, kx_s_297, kx_s_298, kx_s_299, kx_s_300, kx_s_301, kx_s_302, kx_s_303, kx_s_304, kx_s_305, kx_s_306, kx_s_307, kx_s_308, kx_s_309, kx_s_310, kx_g_0_0, kx_g_0_1, kx_g_0_2, kx_g_0_3, kx_g_0_4, kx_g_0_5, kx_g_0_6, kx_g_0_7, kx_g_0_8, kx_g_0_9, kx_g_0_10, kx_g_1_0, kx_g_1_1, kx_g_1_2, kx_g_1_3, kx_g_1_4, kx_g_1_5, kx_g_1_6, kx_g_1_7, kx_g_1_8, kx_g_1_9, kx_g_1_10, kx_g_1_11, kx_g_1_12, kx_g_1_13, kx_g_2, kx_g_tw, kx_g_9, kx_g_kt, kx_g_22, kx_g_23, kx_g_24, kx_g_73_0, kx_g_73_1, kx_g_73_2, kx_g_74, kx_g_267_0, kx_g_267_1, kx_g_267_2, kx_g_268, kx_g_269_0, kx_g_269_1, kx_g_269_2, kx_g_270, kx_g_271_0, kx_g_271_1, kx_g_271_2, kx_g_271_3, kx_g_272_0, kx_g_272_1, kx_g_272_2, kx_g_273, kx_g_274_0, kx_g_274_1, kx_g_274_2, kx_g_275, kx_g_276_0, kx_g_276_1, kx_g_276_2, kx_g_277, kx_g_278, kx_g_279_0, kx_g_279_1, kx_g_279_2, kx_g_279_3, kx_g_279_4, kx_g_280_0, kx_g_280_1, kx_g_280_2, kx_g_280_3, kx_g_281, kx_g_282, kx_g_or, kx_g_296_0, kx_g_296_1, kx_g_296_2, kx_g_296_3, kx_g_297, kx_g_298_0, kx_g_298_1, kx_g_298_2, kx_g_298_3, kx_g_298_4, kx_g_298_5, kx_g_298_6, kx_g_298_7, kx_g_298_8, kx_g_298_9, kx_g_298_10, kx_g_298_11, kx_g_298_12, kx_g_298_13, kx_g_298_14, kx_g_298_15, kx_g_298_16, kx_g_298_17, kx_g_298_18, kx_g_298_19, kx_g_298_20, kx_g_299, kx_g_300, kx_g_301, kx_g_302, kx_g_303, kx_g_304, kx_g_305, kx_g_306, kx_g_307, kx_g_308, kx_g_309, kx_g_310, kx_p_0_3, kx_p_0_9, kx_p_0_10, kx_p_1_0, kx_p_1_2, kx_p_1_4, kx_p_1_7, kx_p_1_9, kx_p_1_10, kx_p_1_11, kx_p_1_12, kx_p_1_13, kx_p_tw, kx_p_kt, kx_p_22, kx_p_23, kx_p_24, kx_p_73_1, kx_p_73_2, kx_p_268, kx_p_269_0, kx_p_269_1, kx_p_269_2, kx_p_270, kx_p_273, kx_p_274_0, kx_p_274_1, kx_p_274_2, kx_p_275, kx_p_276_0, kx_p_276_1, kx_p_276_2, kx_p_277, kx_p_278, kx_p_279_2, kx_p_279_3, kx_p_279_4, kx_p_280_1, kx_p_280_2, kx_p_280_3, kx_p_281, kx_p_or, kx_p_296_1, kx_p_296_2, kx_p_296_3, kx_p_297, kx_p_298_5, kx_p_298_6, kx_p_298_7, kx_p_298_8, kx_p_298_9, kx_p_298_11, kx_p_298_13, kx_p_298_18, kx_p_298_20, kx_p_299, kx_p_300, kx_p_301, kx_p_302, kx_p_303, kx_p_304, kx_p_305, kx_p_306, kx_p_307, kx_p_308, kx_p_309, kx_p_310, ↓reduceIte, Bool.true_eq_false, Bool.false_eq_true, reduceCtorEq, Option.bind_some, Option.bind_none, Option.toList_some, Option.toList_none, List.cons_append, List.nil_append, kx_nat_s, not_true_eq_false, not_false_eq_true, Int32.reduceAdd, Int32.reduceSub, Int32.reduceLT, Int32.reduceMul, Int32.reduceDiv, Int32.reduceMod, Nat.reduceLT, Nat.reduceLeDiff, Nat.reduceEqDiff, Nat.reduceAdd, true_and, and_true, kx_le_lt, ite_not, Classical.not_not, kx_ib, ne_eq, gt_iff_lt, ge_iff_le, kx_nw0, kx_nw1, kx_nwb, kx_b0, kx_b1, Nat.lt_irrefl, kx_up_eq, kx_ul_eq, kx_up_ne, kx_ul_ne, kx_arr_n, kx_nat_i, kx_nat_lt, kx_sr_rd, kx_sr_ne, kx_sr_up, kx_sr_upn, kx_u1_eq, kx_u1_ne, kx_tn_0, kx_tn_1, kx_tn_2, kx_tn_3, kx_tn_4, kx_tn_5, kx_tn_6, kx_tn_7, kx_tn_8, kx_tn_9, kx_tn_10, kx_tn_11, kx_tn_12, kx_la_0, kx_la_1, kx_la_2, kx_la_3, kx_la_4, kx_la_5, kx_la_6, kx_la_7, kx_la_8, kx_la_9, kx_la_10, kx_la_11, kx_la_12, kx_j10_0, kx_j10_1, kx_j10_2, kx_j10_3, kx_j10_4, kx_j10_5, kx_j10_6, kx_j10_7, kx_j10_8, kx_j10_9, kx_j4_0, kx_j4_1, kx_j4_2, kx_j4_3, kx_rfr, hk, c]
          rfl, fun a a1 a2 j => (ky_abs_ne a1 a2 _ _).trans (hP a a1 a2 j)⟩) () s1 (fun _ _ _ _ => rfl)
      refine ⟨s, ?_, ?_, fun z => absurd z hcn, fun _ => ⟨fun hw => ⟨?_, ?_⟩, fun hw => ⟨?_, fun j hj => ?_, fun i hi j hj => ?_⟩⟩, ?_⟩
      · rw [kx_o151]
        simp (disch := omega) only [kx_e151_0, kx_e151_1, kx_e151_2, kx_e151_4, kx_e151_7, kx_e151_10, kx_e151_12, kx_e151_13, kx_e151_14, kx_e151_15, kx_e151_18, kx_e151_21, kx_e151_22, kx_e151_25, kx_e151_27, kx_e151_28, kx_e151_29, kx_e151_30, kx_e151_32, kx_e151_33, kx_e151_36, kx_e151_37, kx_e151_40, kx_e151_43, kx_e151_46, kx_e151_47, kx_e151_50, kx_e151_52, kx_e151_53, kx_e151_54, kx_e151_55, kx_e128_0, kx_e128_1, kx_e128_4, kx_e128_6, kx_e128_7, kx_e128_8, kx_e128_9, kx_e128_10, kx_e128_11, kx_e128_12, kx_e128_13, kx_e136_0, kx_e136_1, kx_e136_4, kx_e136_6, kx_e136_8, kx_e136_9, kx_e136_10, kx_e136_11, kx_e136_12, kx_e136_13, kx_e136_14, kx_e146_0, kx_e146_1, kx_e146_2, kx_e146_3, kx_e146_4, kx_e146_7, kx_e146_8, kx_e146_11, kx_e115_0, kx_e115_1, kx_e115_2, kx_e115_5, kx_e115_6, kx_e115_7, kx_e115_10, kx_e115_11, kx_e115_14, kx_e115_15, kx_e137_0, kx_e137_1, kx_e137_4, kx_e137_6, kx_e137_8, kx_e137_9, kx_e137_10, kx_e137_11, kx_e137_12, kx_e137_13, kx_e137_14, kx_e137_15, kx_e145_0, kx_e145_1, kx_e145_2, kx_e145_3, kx_e145_6, kx_e145_7, kx_e145_8, kx_e145_9, kx_e145_10, kx_e145_13, kx_e134_0, kx_e134_1, kx_e134_2, kx_e134_3, kx_e134_6, kx_e134_7, kx_e134_8, kx_e134_9, kx_e134_10, kx_e134_13, kx_o128, kx_o136, kx_o146, kx_o115, kx_o137, kx_o145, kx_o134, kx_s_0, kx_s_1, kx_s_2, kx_s_tw, kx_s_9, kx_s_kt, kx_s_22, kx_s_23, kx_s_24, kx_s_73, kx_s_74, kx_s_267, kx_s_268, kx_s_269, kx_s_270, kx_s_271, kx_s_272, kx_s_273, kx_s_274, kx_s_275, kx_s_276, kx_s_277, kx_s_278, kx_s_279, kx_s_280, kx_s_281, kx_s_282, kx_s_or, kx_s_296, kx_s_297, kx_s_298, kx_s_299, kx_s_300, kx_s_301, kx_s_302, kx_s_303, kx_s_304, kx_s_305, kx_s_306, kx_s_307, kx_s_308, kx_s_309, kx_s_310, kx_g_0_0, kx_g_0_1, kx_g_0_2, kx_g_0_3, kx_g_0_4, kx_g_0_5, kx_g_0_6, kx_g_0_7, kx_g_0_8, kx_g_0_9, kx_g_0_10, kx_g_1_0, kx_g_1_1, kx_g_1_2, kx_g_1_3, kx_g_1_4, kx_g_1_5, kx_g_1_6, kx_g_1_7, kx_g_1_8, kx_g_1_9, kx_g_1_10, kx_g_1_11, kx_g_1_12, kx_g_1_13, kx_g_2, kx_g_tw, kx_g_9, kx_g_kt, kx_g_22, kx_g_23, kx_g_24, kx_g_73_0, kx_g_73_1, kx_g_73_2, kx_g_74, kx_g_267_0, kx_g_267_1, kx_g_267_2, kx_g_268, kx_g_269_0, kx_g_269_1, kx_g_269_2, kx_g_270, kx_g_271_0, kx_g_271_1, kx_g_271_2, kx_g_271_3, kx_g_272_0, kx_g_272_1, kx_g_272_2, kx_g_273, kx_g_274_0, kx_g_274_1, kx_g_274_2, kx_g_275, kx_g_276_0, kx_g_276_1, kx_g_276_2, kx_g_277, kx_g_278, kx_g_279_0, kx_g_279_1, kx_g_279_2, kx_g_279_3, kx_g_279_4, kx_g_280_0, kx_g_280_1, kx_g_280_2, kx_g_280_3, kx_g_281, kx_g_282, kx_g_or, kx_g_296_0, kx_g_296_1, kx_g_296_2, kx_g_296_3, kx_g_297, kx_g_298_0, kx_g_298_1, kx_g_298_2, kx_g_298_3, kx_g_298_4, kx_g_298_5, kx_g_298_6, kx_g_298_7, kx_g_298_8, kx_g_298_9, kx_g_298_10, kx_g_298_11, kx_g_298_12, kx_g_298_13, kx_g_298_14, kx_g_298_15, kx_g_298_16, kx_g_298_17, kx_g_298_18, kx_g_298_19, kx_g_298_20, kx_g_299, kx_g_300, kx_g_301, kx_g_302, kx_g_303, kx_g_304, kx_g_305, kx_g_306, kx_g_307, kx_g_308, kx_g_309, kx_g_310, kx_p_0_3, kx_p_0_9, kx_p_0_10, kx_p_1_0, kx_p_1_2, kx_p_1_4, kx_p_1_7, kx_p_1_9, kx_p_1_10, kx_p_1_11, kx_p_1_12, kx_p_1_13, kx_p_tw, kx_p_kt, kx_p_22, kx_p_23, kx_p_24, kx_p_73_1, kx_p_73_2, kx_p_268, kx_p_269_0, kx_p_269_1, kx_p_269_2, kx_p_270, kx_p_273, kx_p_274_0, kx_p_274_1, kx_p_274_2, kx_p_275, kx_p_276_0, kx_p_276_1, kx_p_276_2, kx_p_277, kx_p_278, kx_p_279_2, kx_p_279_3, kx_p_279_4, kx_p_280_1, kx_p_280_2, kx_p_280_3, kx_p_281, kx_p_or, kx_p_296_1, kx_p_296_2, kx_p_296_3, kx_p_297, kx_p_298_5, kx_p_298_6, kx_p_298_7, kx_p_298_8, kx_p_298_9, kx_p_298_11, kx_p_298_13, kx_p_298_18, kx_p_298_20, kx_p_299, kx_p_300, kx_p_301, kx_p_302, kx_p_303, kx_p_304, kx_p_305, kx_p_306, kx_p_307, kx_p_308, kx_p_309, kx_p_310, ↓reduceIte, Bool.true_eq_false, Bool.false_eq_true, reduceCtorEq, Option.bind_some, Option.bind_none, Option.toList_some, Option.toList_none, List.cons_append, List.nil_append, kx_nat_s, not_true_eq_false, not_false_eq_true, Int32.reduceAdd, Int32.reduceSub, Int32.reduceLT, Int32.reduceMul, Int32.reduceDiv, Int32.reduceMod, Nat.reduceLT, Nat.reduceLeDiff, Nat.reduceEqDiff, Nat.reduceAdd, true_and, and_true, kx_le_lt, ite_not, Classical.not_not, kx_ib, ne_eq, gt_iff_lt, ge_iff_le, kx_nw0, kx_nw1, kx_nwb, kx_b0, kx_b1, Nat.lt_irrefl, kx_up_eq, kx_ul_eq, kx_up_ne, kx_ul_ne, kx_arr_n, kx_nat_i, kx_nat_lt, kx_sr_rd, kx_sr_ne, kx_sr_up, kx_sr_upn, kx_u1_eq, kx_u1_ne, kx_tn_0, kx_tn_1, kx_tn_2, kx_tn_3, kx_tn_4, kx_tn_5, kx_tn_6, kx_tn_7, kx_tn_8, kx_tn_9, kx_tn_10, kx_tn_11, kx_tn_12, kx_la_0, kx_la_1, kx_la_2, kx_la_3, kx_la_4, kx_la_5, kx_la_6, kx_la_7, kx_la_8, kx_la_9, kx_la_10, kx_la_11, kx_la_12, kx_j10_0, kx_j10_1, kx_j10_2, kx_j10_3, kx_j10_4, kx_j10_5, kx_j10_6, kx_j10_7, kx_j10_8, kx_j10_9, kx_j4_0, kx_j4_1, kx_j4_2, kx_j4_3, kx_rfr, ha, hb, e1]
        refine e.trans ?_
        rw [kx_e151_31]
        simp (disch := omega) only [kx_e151_0, kx_e151_1, kx_e151_2, kx_e151_4, kx_e151_7, kx_e151_10, kx_e151_12, kx_e151_13, kx_e151_14, kx_e151_15, kx_e151_18, kx_e151_21, kx_e151_22, kx_e151_25, kx_e151_27, kx_e151_28, kx_e151_29, kx_e151_30, kx_e151_32, kx_e151_33, kx_e151_36, kx_e151_37, kx_e151_40, kx_e151_43, kx_e151_46, kx_e151_47, kx_e151_50, kx_e151_52, kx_e151_53, kx_e151_54, kx_e151_55, kx_s_0, kx_s_1, kx_s_2, kx_s_tw, kx_s_9, kx_s_kt, kx_s_22, kx_s_23, kx_s_24, kx_s_73, kx_s_74, kx_s_267, kx_s_268, kx_s_269, kx_s_270, kx_s_271, kx_s_272, kx_s_273, kx_s_274, kx_s_275, kx_s_276, kx_s_277, kx_s_278, kx_s_279, kx_s_280, kx_s_281, kx_s_282, kx_s_or, kx_s_296, kx_s_297, kx_s_298, kx_s_299, kx_s_300, kx_s_301, kx_s_302, kx_s_303, kx_s_304, kx_s_305, kx_s_306, kx_s_307, kx_s_308, kx_s_309, kx_s_310, kx_g_0_0, kx_g_0_1, kx_g_0_2, kx_g_0_3, kx_g_0_4, kx_g_0_5, kx_g_0_6, kx_g_0_7, kx_g_0_8, kx_g_0_9, kx_g_0_10, kx_g_1_0, kx_g_1_1, kx_g_1_2, kx_g_1_3, kx_g_1_4, kx_g_1_5, kx_g_1_6, kx_g_1_7, kx_g_1_8, kx_g_1_9, kx_g_1_10, kx_g_1_11, kx_g_1_12, kx_g_1_13, kx_g_2, kx_g_tw, kx_g_9, kx_g_kt, kx_g_22, kx_g_23, kx_g_24, kx_g_73_0, kx_g_73_1, kx_g_73_2, kx_g_74, kx_g_267_0, kx_g_267_1, kx_g_267_2, kx_g_268, kx_g_269_0, kx_g_269_1, kx_g_269_2, kx_g_270, kx_g_271_0, kx_g_271_1, kx_g_271_2, kx_g_271_3, kx_g_272_0, kx_g_272_1, kx_g_272_2, kx_g_273, kx_g_274_0, kx_g_274_1, kx_g_274_2, kx_g_275, kx_g_276_0, kx_g_276_1, kx_g_276_2, kx_g_277, kx_g_278, kx_g_279_0, kx_g_279_1, kx_g_279_2, kx_g_279_3, kx_g_279_4, kx_g_280_0, kx_g_280_1, kx_g_280_2, kx_g_280_3, kx_g_281, kx_g_282, kx_g_or, kx_g_296_0, kx_g_296_1, kx_g_296_2, kx_g_296_3, kx_g_297, kx_g_298_0, kx_g_298_1, kx_g_298_2, kx_g_298_3, kx_g_298_4, kx_g_298_5, kx_g_298_6, kx_g_298_7, kx_g_298_8, kx_g_298_9, kx_g_298_10, kx_g_298_11, kx_g_298_12, kx_g_298_13, kx_g_298_14, kx_g_298_15, kx_g_298_16, kx_g_298_17, kx_g_298_18, kx_g_298_19, kx_g_298_20, kx_g_299, kx_g_300, kx_g_301, kx_g_302, kx_g_303, kx_g_304, kx_g_305, kx_g_306, kx_g_307, kx_g_308, kx_g_309, kx_g_310, kx_p_0_3, kx_p_0_9, kx_p_0_10, kx_p_1_0, kx_p_1_2, kx_p_1_4, kx_p_1_7, kx_p_1_9, kx_p_1_10, kx_p_1_11, kx_p_1_12, kx_p_1_13, kx_p_tw, kx_p_kt, kx_p_22, kx_p_23, kx_p_24, kx_p_73_1, kx_p_73_2, kx_p_268, kx_p_269_0, kx_p_269_1, kx_p_269_2, kx_p_270, kx_p_273, kx_p_274_0, kx_p_274_1, kx_p_274_2, kx_p_275, kx_p_276_0, kx_p_276_1, kx_p_276_2, kx_p_277, kx_p_278, kx_p_279_2, kx_p_279_3, kx_p_279_4, kx_p_280_1, kx_p_280_2, kx_p_280_3, kx_p_281, kx_p_or, kx_p_296_1, kx_p_296_2, kx_p_296_3, kx_p_297, kx_p_298_5, kx_p_298_6, kx_p_298_7, kx_p_298_8, kx_p_298_9, kx_p_298_11, kx_p_298_13, kx_p_298_18, kx_p_298_20, kx_p_299, kx_p_300, kx_p_301, kx_p_302, kx_p_303, kx_p_304, kx_p_305, kx_p_306, kx_p_307, kx_p_308, kx_p_309, kx_p_310, ↓reduceIte, Bool.true_eq_false, Bool.false_eq_true, reduceCtorEq, Option.bind_some, Option.bind_none, Option.toList_some, Option.toList_none, List.cons_append, List.nil_append, kx_nat_s, not_true_eq_false, not_false_eq_true, Int32.reduceAdd, Int32.reduceSub, Int32.reduceLT, Int32.reduceMul, Int32.reduceDiv, Int32.reduceMod, Nat.reduceLT, Nat.reduceLeDiff, Nat.reduceEqDiff, Nat.reduceAdd, true_and, and_true, kx_le_lt, ite_not, Classical.not_not, kx_ib, ne_eq, gt_iff_lt, ge_iff_le, kx_nw0, kx_nw1, kx_nwb, kx_b0, kx_b1, Nat.lt_irrefl, kx_up_eq, kx_ul_eq, kx_up_ne, kx_ul_ne, kx_arr_n, kx_nat_i, kx_nat_lt, kx_sr_rd, kx_sr_ne, kx_sr_up, kx_sr_upn, kx_u1_eq, kx_u1_ne, kx_tn_0, kx_tn_1, kx_tn_2, kx_tn_3, kx_tn_4, kx_tn_5, kx_tn_6, kx_tn_7, kx_tn_8, kx_tn_9, kx_tn_10, kx_tn_11, kx_tn_12, kx_la_0, kx_la_1, kx_la_2, kx_la_3, kx_la_4, kx_la_5, kx_la_6, kx_la_7, kx_la_8, kx_la_9, kx_la_10, kx_la_11, kx_la_12, kx_j10_0, kx_j10_1, kx_j10_2, kx_j10_3, kx_j10_4, kx_j10_5, kx_j10_6, kx_j10_7, kx_j10_8, kx_j10_9, kx_j4_0, kx_j4_1, kx_j4_2, kx_j4_3, kx_rfr]
      · rw [Fm _ (by decide) (by decide), Fm _ (by decide) (by decide), F1 _ _ (by decide) (by decide) (by decide), F1 _ _ (by decide) (by decide) (by decide)]
        rfl
      · rw [Fm _ (by decide) (by decide)]
        exact (K1.1 hw).1
      · funext j
        rw [Fm _ (by decide) (by decide), (K1.1 hw).2]
      · rw [Fm _ (by decide) (by decide)]
        exact (K1.2 hw).1
      · rw [Fm _ (by decide) (by decide)]
        exact (K1.2 hw).2.1 j hj
      · rw [Fm _ (by decide) (by decide)]
        exact (K1.2 hw).2.2 i hi j hj
      · intro a j a1 a2 a3 a4 a5
        rw [Fm a a3 a4]
        exact F1 a j a1 a2 (by
          by_cases h : a = 298
          · exact Or.inr (a5 h).1
          · exact Or.inl h)
end KxTurns
