/-! the order of a row is kept -/
theorem kx_KI_congr {g g' : kx_Rw} {nt k : Nat} (I : kx_KI g nt k) (h1 : ∀ w, w < 10 → g' (35 + 10 * k + w) = g (35 + 10 * k + w)) (h2 : ∀ t, t < nt → ∀ w, w < 3 → g' (11 + 4 * t + w) = g (11 + 4 * t + w)) : kx_KI g' nt k := by
  have e0 : g' (35 + 10 * k) = g (35 + 10 * k) := h1 0 (by omega)
  have e1 := h1 1 (by omega)
  have e2 := h1 2 (by omega)
  have e3 := h1 3 (by omega)
  have e4 := h1 4 (by omega)
  have e5 := h1 5 (by omega)
  have e8 := h1 8 (by omega)
  have e9 := h1 9 (by omega)
  have a0 : ky_n g (35 + 10 * k) < nt := I.1.2
  have f1 := h2 _ a0 1 (by omega)
  have f2 := h2 _ a0 2 (by omega)
  unfold kx_KI kx_B kx_hm kx_rc ky_n at I ⊢
  unfold ky_n at f1 f2
  rw [e0, e1, e2, e3, e4, e5, e8, e9, f1, f2]
  exact I
theorem kx_TI_congr {g g' : kx_Rw} {t : Nat} (I : kx_TI g t) (h : ∀ w, w < 3 → g' (11 + 4 * t + w) = g (11 + 4 * t + w)) : kx_TI g' t := by
  have e0 : g' (11 + 4 * t) = g (11 + 4 * t) := h 0 (by omega)
  have e1 := h 1 (by omega)
  have e2 := h 2 (by omega)
  unfold kx_TI kx_B ky_n at I ⊢
  rw [e0, e1, e2]
  exact I
theorem ky_I_upd {g g' : kx_Rw} {nt nk nw tn : Nat} (I : ky_I nt nk nw tn g) {k : Nat} (hk12 : k < 12) (h : ∀ j, (j < 4 ∨ 11 ≤ j) → (∀ w, w < 10 → j ≠ 35 + 10 * k + w) → (∀ t, t < 6 → j ≠ 11 + 4 * t + 3) → g' j = g j) (hk : k < nk → kx_KI g' nt k) : ky_I nt nk nw tn g' := by
  obtain ⟨i0, i1, i2, i3, IT, IK, IW⟩ := I
  have ht : ∀ t, t < nt → ∀ w, w < 3 → g' (11 + 4 * t + w) = g (11 + 4 * t + w) := fun t ht w hw => h _ (by omega) (fun w' hw' => by omega) (fun t' ht' => by omega)
  refine ⟨⟨?_, i0.2⟩, ⟨?_, i1.2⟩, ⟨?_, i2.2⟩, ⟨?_, i3.2⟩, fun t ht2 => kx_TI_congr (IT t ht2) (ht t ht2), fun k' hk' => ?_, fun w hw => ?_⟩
  · rw [h 0 (by omega) (fun w' hw' => by omega) (fun t' ht' => by omega)]; exact i0.1
  · rw [h 1 (by omega) (fun w' hw' => by omega) (fun t' ht' => by omega)]; exact i1.1
  · rw [h 2 (by omega) (fun w' hw' => by omega) (fun t' ht' => by omega)]; exact i2.1
  · rw [h 3 (by omega) (fun w' hw' => by omega) (fun t' ht' => by omega)]; exact i3.1
  · by_cases hkk : k' = k
    · subst hkk; exact hk hk'
    · have := i2.2
      exact kx_KI_congr (IK k' hk') (fun w hw => h _ (by omega) (fun w' hw' => by omega) (fun t' ht' => by omega)) ht
  · have := i3.2
    have e1 := h (155 + 2 * w) (by omega) (fun w' hw' => by omega) (fun t' ht' => by omega)
    have e2 := h (155 + 2 * w + 1) (by omega) (fun w' hw' => by omega) (fun t' ht' => by omega)
    have := IW w hw
    unfold kx_B ky_n at this ⊢
    rw [e1, e2]
    exact this
/-- a row with other numbers than the ones that matter to the order -/
theorem ky_I_same {g g' : kx_Rw} {nt nk nw tn : Nat} (I : ky_I nt nk nw tn g) (h : ∀ j, (j < 4 ∨ 11 ≤ j) → (∀ k, k < 12 → j ≠ 35 + 10 * k + 6 ∧ j ≠ 35 + 10 * k + 7) → (∀ t, t < 6 → j ≠ 11 + 4 * t + 3) → g' j = g j) : ky_I nt nk nw tn g' := by
  obtain ⟨i0, i1, i2, i3, IT, IK, IW⟩ := I
  have ht : ∀ t, t < nt → ∀ w, w < 3 → g' (11 + 4 * t + w) = g (11 + 4 * t + w) := fun t ht w hw => h _ (by omega) (fun w' hw' => by omega) (fun t' ht' => by omega)
  refine ⟨⟨?_, i0.2⟩, ⟨?_, i1.2⟩, ⟨?_, i2.2⟩, ⟨?_, i3.2⟩, fun t ht2 => kx_TI_congr (IT t ht2) (ht t ht2), fun k' hk' => ?_, fun w hw => ?_⟩
  · rw [h 0 (by omega) (fun w' hw' => by omega) (fun t' ht' => by omega)]; exact i0.1
  · rw [h 1 (by omega) (fun w' hw' => by omega) (fun t' ht' => by omega)]; exact i1.1
  · rw [h 2 (by omega) (fun w' hw' => by omega) (fun t' ht' => by omega)]; exact i2.1
  · rw [h 3 (by omega) (fun w' hw' => by omega) (fun t' ht' => by omega)]; exact i3.1
  · have I := IK k' hk'
    have := i2.2
    have e0 : g' (35 + 10 * k') = g (35 + 10 * k') := h _ (by omega) (fun w' hw' => by omega) (fun t' ht' => by omega)
    have e1 := h (35 + 10 * k' + 1) (by omega) (fun w' hw' => by omega) (fun t' ht' => by omega)
    have e2 := h (35 + 10 * k' + 2) (by omega) (fun w' hw' => by omega) (fun t' ht' => by omega)
    have e3 := h (35 + 10 * k' + 3) (by omega) (fun w' hw' => by omega) (fun t' ht' => by omega)
    have e4 := h (35 + 10 * k' + 4) (by omega) (fun w' hw' => by omega) (fun t' ht' => by omega)
    have e5 := h (35 + 10 * k' + 5) (by omega) (fun w' hw' => by omega) (fun t' ht' => by omega)
    have e8 := h (35 + 10 * k' + 8) (by omega) (fun w' hw' => by omega) (fun t' ht' => by omega)
    have e9 := h (35 + 10 * k' + 9) (by omega) (fun w' hw' => by omega) (fun t' ht' => by omega)
    have a0 : ky_n g (35 + 10 * k') < nt := I.1.2
    have f1 := ht _ a0 1 (by omega)
    have f2 := ht _ a0 2 (by omega)
    unfold kx_KI kx_B kx_hm kx_rc ky_n at I ⊢
    unfold ky_n at f1 f2
    rw [e0, e1, e2, e3, e4, e5, e8, e9, f1, f2]
    exact I
  · have := i3.2
    have e1 := h (155 + 2 * w) (by omega) (fun w' hw' => by omega) (fun t' ht' => by omega)
    have e2 := h (155 + 2 * w + 1) (by omega) (fun w' hw' => by omega) (fun t' ht' => by omega)
    have := IW w hw
    unfold kx_B ky_n at this ⊢
    rw [e1, e2]
    exact this
/-- what a kite of a row in order is, in one place -/
theorem ky_I_kite {g : kx_Rw} {nt nk nw tn : Nat} (I : ky_I nt nk nw tn g) {k : Nat} (hk : k < nk) : k < 12 ∧ kx_KI g nt k ∧ kx_B g (35 + 10 * k) 6 ∧ kx_TI g (ky_n g (35 + 10 * k)) := by
  obtain ⟨i0, i1, i2, i3, IT, IK, IW⟩ := I
  have := i2.2
  have h := IK k hk
  exact ⟨by omega, h, ⟨h.1.1, Nat.lt_of_lt_of_le h.1.2 i1.2⟩, IT _ h.1.2⟩
theorem ky_n_u1 {g : kx_Rw} {j : Nat} {n : Nat} (h : n < 2147483648) : ky_n (kx_u1 g j (Int32.ofNat n)) j = n := by
  unfold ky_n
  rw [kx_u1_eq, kx_nat_i h]
theorem ky_n_u0 {g : kx_Rw} {j : Nat} : ky_n (kx_u1 g j 0) j = 0 := ky_n_u1 (n := 0) (by decide)
theorem ky_n_u1' {g : kx_Rw} {j : Nat} : ky_n (kx_u1 g j 1) j = 1 := ky_n_u1 (n := 1) (by decide)
theorem ky_n_ne {g : kx_Rw} {i j : Nat} {x : Int32} (h : i ≠ j) : ky_n (kx_u1 g j x) i = ky_n g i := by
  unfold ky_n
  rw [kx_u1_ne h]
theorem ky_B0 {g : kx_Rw} {j n : Nat} (h : 0 < n) : kx_B (kx_u1 g j 0) j n := ⟨by rw [kx_u1_eq, ky_n_u0]; rfl, by rw [ky_n_u0]; exact h⟩
theorem ky_B1 {g : kx_Rw} {j n : Nat} (h : 1 < n) : kx_B (kx_u1 g j 1) j n := ⟨by rw [kx_u1_eq, ky_n_u1']; rfl, by rw [ky_n_u1']; exact h⟩
theorem ky_Bn {g : kx_Rw} {j n m : Nat} (h : m < n) (h2 : n ≤ 2147483648) : kx_B (kx_u1 g j (Int32.ofNat m)) j n := ⟨by rw [kx_u1_eq, ky_n_u1 (by omega)], by rw [ky_n_u1 (by omega)]; exact h⟩
theorem ky_Bne {g : kx_Rw} {i j n : Nat} {x : Int32} (h : i ≠ j) : kx_B (kx_u1 g j x) i n = kx_B g i n := by
  unfold kx_B
  rw [ky_n_ne h, kx_u1_ne h]
