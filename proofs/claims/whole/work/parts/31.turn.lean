/-! strain, drift, a whole turn: the reference -/
def ky_strain (k : Nat) (g : kx_Rw) : kx_Rw := if ky_n g (35 + 10 * k + 1) = 1 ∧ ky_n g (35 + 10 * k + 5) = 0 then kx_u1 (ky_cut k g) 7 (g 7 + 1) else g
def ky_strains (g : kx_Rw) (n : Nat) : kx_Rw := kx_fold (fun k g => ky_strain k g) g n
theorem ky_J_strain {g : kx_Rw} {nt nk nw tn k : Nat} (J : ky_J nt nk nw tn g) (hk : k < nk) : ky_J nt nk nw tn (ky_strain k g) := by
  obtain ⟨k12, KI, -, T⟩ := ky_I_kite J.1 hk
  have hm := J.2 k hk
  have hnt := J.1.2.1.2
  unfold ky_strain
  split
  · next hh =>
    have K2 := ky_KI_cut k12 hnt KI T hm hh.1
    refine ky_J_upd J k12 (fun j h1 h2 h3 => by rw [kx_u1_ne (by omega), ky_cut_ne (by omega) h2]) (fun _ => ⟨?_, ?_⟩)
    · have t6 : ky_n g (35 + 10 * k) < 6 := Nat.lt_of_lt_of_le KI.1.2 hnt
      have e0 : ky_n (ky_cut k g) (35 + 10 * k) = ky_n g (35 + 10 * k) := by simp (disch := omega) only [ky_cut, ky_n_ne]
      refine kx_KI_congr K2 (fun w hw => kx_u1_ne (by omega)) (fun t ht w hw => kx_u1_ne (by omega))
    · simp (disch := omega) only [ky_cut, ky_n_ne]
      exact hm
  · exact J
theorem ky_J_strains {g : kx_Rw} {nt nk nw tn : Nat} (J : ky_J nt nk nw tn g) : ∀ n, n ≤ nk → ky_J nt nk nw tn (ky_strains g n)
  | 0, _ => J
  | n + 1, h => ky_J_strain (ky_J_strains J n (by omega)) h
/-- the tower at x, as a number: of nt -/
def ky_ta (g : kx_Rw) (nt : Nat) (x : Int32) : Int32 := kx_ff (fun t => decide (g (11 + 4 * t + 1) = x)) nt 0
theorem kx_ff_ok {p : Nat → Bool} : ∀ m k, kx_ff p m k = -1 ∧ (∀ i, k ≤ i → i < k + m → p i = false) ∨ ∃ i, k ≤ i ∧ i < k + m ∧ kx_ff p m k = Int32.ofNat i ∧ p i = true
  | 0, k => Or.inl ⟨rfl, fun i h1 h2 => by omega⟩
  | m + 1, k => by
    rw [kx_ff]
    cases hp : p k
    · rw [if_neg (by decide)]
      rcases kx_ff_ok m (k + 1) with ⟨h1, h2⟩ | ⟨i, h1, h2, h3, h4⟩
      · refine Or.inl ⟨h1, fun i h3 h4 => ?_⟩
        by_cases hi : i = k
        · subst hi; exact hp
        · exact h2 i (by omega) (by omega)
      · exact Or.inr ⟨i, by omega, by omega, h3, h4⟩
    · rw [if_pos rfl]
      exact Or.inr ⟨k, Nat.le_refl _, by omega, rfl, hp⟩
/-- a kite without a line drifts -/
def ky_drift (nt d f k : Nat) (g : kx_Rw) : kx_Rw :=
  if ky_n g (35 + 10 * k + 1) ≠ 2 then g else
  let to := kx_wk (ky_n g (35 + 10 * k + 4)) d f
  if to < 0 then kx_u1 g (35 + 10 * k + 1) 3 else
  let g1 := kx_u1 g (35 + 10 * k + 4) to
  let t := ky_ta g nt to
  if t < 0 then g1 else
  let g2 := kx_u1 g1 (11 + 4 * t.toNatClampNeg + 3) (g1 (11 + 4 * t.toNatClampNeg + 3) + 1)
  if ky_n g (11 + 4 * t.toNatClampNeg) = kx_sd g k then kx_u1 (kx_u1 (kx_rests g2 k) (35 + 10 * k + 5) 1) 8 (g 8 + 1)
  else kx_u1 (kx_u1 (kx_u1 g2 (35 + 10 * k + 1) 3) 9 (g 9 + 1)) (4 + ky_n g (11 + 4 * t.toNatClampNeg)) (g (4 + ky_n g (11 + 4 * t.toNatClampNeg)) + 3)
def ky_drifts (nt d f : Nat) (g : kx_Rw) (n : Nat) : kx_Rw := kx_fold (fun k g => ky_drift nt d f k g) g n
theorem ky_ta_ok {g : kx_Rw} {nt : Nat} {x : Int32} : ky_ta g nt x = -1 ∨ ∃ t, t < nt ∧ ky_ta g nt x = Int32.ofNat t := by
  rcases kx_ff_ok (p := fun t => decide (g (11 + 4 * t + 1) = x)) nt 0 with ⟨h, -⟩ | ⟨i, -, h2, h3, -⟩
  · exact Or.inl h
  · exact Or.inr ⟨i, by omega, h3⟩
theorem ky_J_drift {g : kx_Rw} {nt nk nw tn k d f : Nat} (J : ky_J nt nk nw tn g) (hk : k < nk) (hd : d < 6) : ky_J nt nk nw tn (ky_drift nt d f k g) := by
  obtain ⟨k12, KI, -, T⟩ := ky_I_kite J.1 hk
  have hm := J.2 k hk
  have hnt := J.1.2.1.2
  have K0 := KI
  obtain ⟨a0, a1, a2, a3, a5, a8, a9, b0, b1, b2, b3⟩ := KI
  have t6 : ky_n g (35 + 10 * k) < 6 := Nat.lt_of_lt_of_le a0.2 hnt
  have h3 : (3 : Int32) = Int32.ofNat 3 := rfl
  unfold ky_drift
  split
  · exact J
  · next hh =>
    have hh2 : ky_n g (35 + 10 * k + 1) = 2 := Classical.not_not.mp hh
    obtain ⟨c1, c2, c3, c4⟩ := b2 hh2
    dsimp only
    have lost : ∀ g1 : kx_Rw, kx_KI g1 nt k → kx_TI g1 (ky_n g1 (35 + 10 * k)) → ky_n g1 (35 + 10 * k + 8) = 0 → ky_n g1 (35 + 10 * k + 1) = 2 → kx_KI (kx_u1 g1 (35 + 10 * k + 1) 3) nt k := by
      intro g1 I T hm hh
      obtain ⟨a0, a1, a2, a3, a5, a8, a9, b0, b1, b2, b3⟩ := I
      obtain ⟨c1, c2, c3, c4⟩ := b2 hh
      have t6 : ky_n g1 (35 + 10 * k) < 6 := Nat.lt_of_lt_of_le a0.2 hnt
      rw [h3]
      simp (disch := omega) only [kx_KI, kx_hm, kx_rc, ky_n_ne, ky_n_u1, kx_u1_ne, ky_Bn, ky_Bne, a0, a2, a3, a5, a8, a9, true_and, and_true]
      exact ⟨fun h => absurd h (by decide), fun h => absurd h (by decide), fun h => absurd h (by decide), fun _ => ⟨c1, c2, c4⟩⟩
    split
    · exact ky_J_upd J k12 (fun j h1 h2 h3 => kx_u1_ne (h2 1 (by omega))) (fun _ => ⟨lost g K0 T hm hh2, by rw [ky_n_ne (by omega)]; exact hm⟩)
    · next hw =>
      rcases kx_wk_ok c3.2 hd f with h | ⟨x, hx, hxe⟩
      · rw [h] at hw; exact absurd kx_neg1 hw
      have J1 : ky_J nt nk nw tn (kx_u1 g (35 + 10 * k + 4) (kx_wk (ky_n g (35 + 10 * k + 4)) d f)) := by
        refine ky_J_upd J k12 (fun j h1 h2 h3 => kx_u1_ne (h2 4 (by omega))) (fun _ => ⟨?_, by rw [ky_n_ne (by omega)]; exact hm⟩)
        rw [hxe]
        simp (disch := omega) only [kx_KI, kx_hm, kx_rc, ky_n_ne, kx_u1_ne, ky_Bn, ky_Bne, a0, a1, a2, a3, a5, a8, a9, true_and, and_true]
        exact ⟨fun h => by omega, fun h => by omega, fun _ => ⟨c1, c2, c4⟩, fun h => by omega⟩
      split
      · exact J1
      · rcases ky_ta_ok (g := g) (nt := nt) (x := kx_wk (ky_n g (35 + 10 * k + 4)) d f) with h | ⟨t, ht, hte⟩
        · next hn => rw [h] at hn; exact absurd kx_neg1 hn
        rw [hte, kx_nat_i (by omega)]
        generalize kx_wk (ky_n g (35 + 10 * k + 4)) d f = to at *
        have hb := J.1.2.2.1.2
        have J2 : ky_J nt nk nw tn (kx_u1 (kx_u1 g (35 + 10 * k + 4) to) (11 + 4 * t + 3) (kx_u1 g (35 + 10 * k + 4) to (11 + 4 * t + 3) + 1)) := by
          refine ⟨ky_I_same J1.1 (fun j h1 h2 h3 => kx_u1_ne (h3 t (by omega))), fun k' hk' => ?_⟩
          rw [ky_n_ne (by omega)]
          exact J1.2 k' hk'
        have s2 : ky_n g (11 + 4 * t) < 2 := (J.1.2.2.2.2.1 t ht).1.2
        have e2 : ∀ i, i ≠ 35 + 10 * k + 4 → i ≠ 11 + 4 * t + 3 → ky_n (kx_u1 (kx_u1 g (35 + 10 * k + 4) to) (11 + 4 * t + 3) (kx_u1 g (35 + 10 * k + 4) to (11 + 4 * t + 3) + 1)) i = ky_n g i := fun i h1 h2 => by rw [ky_n_ne h2, ky_n_ne h1]
        have r2 : ky_n (kx_u1 (kx_u1 g (35 + 10 * k + 4) to) (11 + 4 * t + 3) (kx_u1 g (35 + 10 * k + 4) to (11 + 4 * t + 3) + 1)) (35 + 10 * k + 1) = 2 := (e2 _ (by omega) (by omega)).trans hh2
        generalize kx_u1 (kx_u1 g (35 + 10 * k + 4) to) (11 + 4 * t + 3) (kx_u1 g (35 + 10 * k + 4) to (11 + 4 * t + 3) + 1) = g2 at *
        obtain ⟨-, KI2, -, T2⟩ := ky_I_kite J2.1 hk
        have hm2 := J2.2 k hk
        split
        · have K3 := ky_KI_rests k12 hnt KI2 T2 hm2
          have J3 : ky_J nt nk nw tn (kx_rests g2 k) := ky_J_upd J2 k12 (fun j h1 h2 h3 => ky_rests_ne h2) (fun _ => ⟨K3, by simp (disch := omega) only [kx_rests, ky_n_ne]; exact hm2⟩)
          obtain ⟨-, KI3, -, T3⟩ := ky_I_kite J3.1 hk
          have hm3 := J3.2 k hk
          generalize kx_rests g2 k = g3 at *
          refine ky_J_upd J3 k12 (fun j h1 h2 h3 => by rw [kx_u1_ne (by omega), kx_u1_ne (h2 5 (by omega))]) (fun _ => ⟨?_, by rw [ky_n_ne (by omega), ky_n_ne (by omega)]; exact hm3⟩)
          obtain ⟨a0, a1, a2, a3, a5, a8, a9, b0, b1, b2, b3⟩ := KI3
          have t6 : ky_n g3 (35 + 10 * k) < 6 := Nat.lt_of_lt_of_le a0.2 hnt
          simp (disch := omega) only [kx_KI, kx_hm, kx_rc, ky_n_ne, kx_u1_ne, ky_B1, ky_Bne, a0, a1, a2, a3, a8, a9, true_and, and_true]
          exact ⟨b0, b1, b2, b3⟩
        · have K3 := lost g2 KI2 T2 hm2 r2
          have J3 : ky_J nt nk nw tn (kx_u1 g2 (35 + 10 * k + 1) 3) := ky_J_upd J2 k12 (fun j h1 h2 h3 => kx_u1_ne (h2 1 (by omega))) (fun _ => ⟨K3, by rw [ky_n_ne (by omega)]; exact hm2⟩)
          generalize kx_u1 g2 (35 + 10 * k + 1) 3 = g3 at *
          refine ⟨ky_I_same J3.1 (fun j h1 h2 h3 => by rw [kx_u1_ne (by omega), kx_u1_ne (by omega)]), fun k' hk' => ?_⟩
          rw [ky_n_ne (by omega), ky_n_ne (by omega)]
          exact J3.2 k' hk'
theorem ky_J_drifts {g : kx_Rw} {nt nk nw tn d f : Nat} (J : ky_J nt nk nw tn g) (hd : d < 6) : ∀ n, n ≤ nk → ky_J nt nk nw tn (ky_drifts nt d f g n)
  | 0, _ => J
  | n + 1, h => ky_J_drift (ky_J_drifts J hd n (by omega)) h hd
