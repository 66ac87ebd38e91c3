/-! bits of longs -/
def kx_bit (w : Int64) (j : Nat) : Bool := w.toBitVec.getLsbD j
theorem kx_sh_amt {j : Nat} (h : j < 37) : (Int32.ofNat j).toInt64 &&& 63 = Int64.ofNat j := by
  have : ∀ j, j < 37 → (Int32.ofNat j).toInt64 &&& 63 = Int64.ofNat j := by decide
  exact this j h
theorem kx_sh_mod {j : Nat} (h : j < 37) : ((Int64.ofNat j).toBitVec.smod 64).toNat = j := by
  have : ∀ j, j < 37 → ((Int64.ofNat j).toBitVec.smod 64).toNat = j := by decide
  exact this j h
theorem kx_shr_bit {w : Int64} {j : Nat} (h : j < 37) : ((w >>> ((Int32.ofNat j).toInt64 &&& 63)) &&& 1 = 0) = (kx_bit w j = false) := by
  rw [kx_sh_amt h]
  have e : ((w >>> Int64.ofNat j) &&& 1).toBitVec = (w.toBitVec.sshiftRight j) &&& 1#64 := by
    rw [Int64.toBitVec_and, Int64.toBitVec_shiftRight, BitVec.sshiftRight', kx_sh_mod h]
    rfl
  apply propext
  constructor
  · intro hz
    have h1 : ((w.toBitVec.sshiftRight j) &&& 1#64).getLsbD 0 = false := by
      rw [← e, hz]; decide
    rw [BitVec.getLsbD_and, BitVec.getLsbD_sshiftRight] at h1
    have h2 : (1#64).getLsbD 0 = true := by decide
    rw [h2] at h1
    simp at h1
    rw [if_pos (by omega)] at h1
    exact h1
  · intro hb
    apply Int64.toBitVec_inj.mp
    rw [e]
    apply BitVec.eq_of_getLsbD_eq
    intro i hi
    rw [BitVec.getLsbD_and, BitVec.getLsbD_sshiftRight]
    by_cases h0 : i = 0
    · subst h0
      have : w.toBitVec.getLsbD j = false := hb
      rw [show j + 0 = j from rfl, if_pos (by omega), this]
      simp
    · have h2 : (1#64).getLsbD i = false := by
        simp [h0]
      rw [h2]
      simp
theorem kx_shl_bit {i j : Nat} (hi : i < 37) (hj : j < 37) : kx_bit ((1 : Int64) <<< ((Int32.ofNat i).toInt64 &&& 63)) j = decide (i = j) := by
  have : ∀ i, i < 37 → ∀ j, j < 37 → kx_bit ((1 : Int64) <<< ((Int32.ofNat i).toInt64 &&& 63)) j = decide (i = j) := by decide +kernel
  exact this i hi j hj
theorem kx_bit_or {a b : Int64} {j : Nat} : kx_bit (a ||| b) j = (kx_bit a j || kx_bit b j) := by
  unfold kx_bit
  rw [Int64.toBitVec_or, BitVec.getLsbD_or]
theorem kx_bit_0 {j : Nat} : kx_bit 0 j = false := by
  unfold kx_bit
  exact BitVec.getLsbD_zero
/-- nothing above the field -/
def kx_low (w : Int64) : Prop := ∀ j, 37 ≤ j → kx_bit w j = false
theorem kx_low_or {a b : Int64} (ha : kx_low a) (hb : kx_low b) : kx_low (a ||| b) := fun j hj => by rw [kx_bit_or, ha j hj, hb j hj]; rfl
theorem kx_low_0 : kx_low 0 := fun _ _ => kx_bit_0
theorem kx_low_shl {i : Nat} (hi : i < 37) : kx_low ((1 : Int64) <<< ((Int32.ofNat i).toInt64 &&& 63)) := by
  intro j hj
  by_cases h64 : j < 64
  · have : ∀ i, i < 37 → ∀ j, j < 64 → 37 ≤ j → kx_bit ((1 : Int64) <<< ((Int32.ofNat i).toInt64 &&& 63)) j = false := by decide +kernel
    exact this i hi j h64 hj
  · unfold kx_bit
    exact BitVec.getLsbD_of_ge _ _ (by omega)
theorem kx_and_bit {a b : Int64} (ha : kx_low a) : (a &&& b = 0) = (kx_ax (fun j => kx_bit a j && kx_bit b j) 37 0 = false) := by
  apply propext
  constructor
  · intro hz
    cases hx : kx_ax (fun j => kx_bit a j && kx_bit b j) 37 0 with
    | false => rfl
    | true =>
      obtain ⟨j, h1, h2, h3⟩ := (kx_ax_iff _ _).mp hx
      have h4 : (a &&& b).toBitVec.getLsbD j = true := by
        rw [Int64.toBitVec_and, BitVec.getLsbD_and]; exact h3
      rw [hz] at h4
      have h5 : (0 : Int64).toBitVec.getLsbD j = false := BitVec.getLsbD_zero
      rw [h5] at h4
      cases h4
  · intro hx
    apply Int64.toBitVec_inj.mp
    apply BitVec.eq_of_getLsbD_eq
    intro j hj
    rw [Int64.toBitVec_and, BitVec.getLsbD_and]
    have h5 : (0 : Int64).toBitVec.getLsbD j = false := BitVec.getLsbD_zero
    rw [h5]
    by_cases h37 : j < 37
    · cases h3 : (a.toBitVec.getLsbD j && b.toBitVec.getLsbD j) with
      | false => rfl
      | true =>
        have : kx_ax (fun j => kx_bit a j && kx_bit b j) 37 0 = true := (kx_ax_iff _ _).mpr ⟨j, by omega, by omega, h3⟩
        rw [this] at hx
        cases hx
    · have : a.toBitVec.getLsbD j = false := ha j (by omega)
      rw [this]; rfl
/-- which hexagons a line covers -/
def ky_hx (h d : Nat) : Nat → Int64
  | 0 => 0
  | n + 1 => ky_hx h d n ||| (if kx_wk h d (n + 1) = -1 then 0 else (1 : Int64) <<< ((kx_wk h d (n + 1)).toInt64 &&& 63))
theorem ky_hx_low {h d : Nat} (hh : h < 37) (hd : d < 6) : ∀ n, kx_low (ky_hx h d n)
  | 0 => kx_low_0
  | n + 1 => by
    rw [ky_hx]
    refine kx_low_or (ky_hx_low hh hd n) ?_
    rcases kx_wk_ok hh hd (n + 1) with h1 | ⟨x, hx, h1⟩
    · rw [if_pos h1]; exact kx_low_0
    · rw [h1, if_neg (fun z => absurd (show Int32.ofNat x < 0 by rw [z]; exact kx_neg1) (kx_nat_nn (by omega)))]
      exact kx_low_shl hx
theorem ky_hx_bit {h d : Nat} (hh : h < 37) (hd : d < 6) {j : Nat} (hj : j < 37) : ∀ n, kx_bit (ky_hx h d n) j = kx_ax (fun i => decide (kx_wk h d i = Int32.ofNat j)) n 1
  | 0 => kx_bit_0
  | n + 1 => by
    have e : kx_ax (fun i => decide (kx_wk h d i = Int32.ofNat j)) (n + 1) 1 = (kx_ax (fun i => decide (kx_wk h d i = Int32.ofNat j)) n 1 || decide (kx_wk h d (n + 1) = Int32.ofNat j)) := by
      cases hx : kx_ax (fun i => decide (kx_wk h d i = Int32.ofNat j)) n 1 || decide (kx_wk h d (n + 1) = Int32.ofNat j) with
      | true =>
        refine (kx_ax_iff _ _).mpr ?_
        rcases Bool.or_eq_true _ _ ▸ hx with h1 | h1
        · obtain ⟨i, h2, h3, h4⟩ := (kx_ax_iff _ _).mp h1
          exact ⟨i, h2, by omega, h4⟩
        · exact ⟨n + 1, by omega, by omega, h1⟩
      | false =>
        cases hy : kx_ax (fun i => decide (kx_wk h d i = Int32.ofNat j)) (n + 1) 1 with
        | false => rfl
        | true =>
          exfalso
          obtain ⟨i, h2, h3, h4⟩ := (kx_ax_iff _ _).mp hy
          have : (kx_ax (fun i => decide (kx_wk h d i = Int32.ofNat j)) n 1 || decide (kx_wk h d (n + 1) = Int32.ofNat j)) = true := by
            by_cases hi : i = n + 1
            · subst hi
              rw [h4, Bool.or_true]
            · rw [(kx_ax_iff _ _).mpr ⟨i, h2, by omega, h4⟩, Bool.true_or]
          rw [this] at hx
          cases hx
    rw [e, ky_hx, kx_bit_or, ky_hx_bit hh hd hj n]
    congr 1
    rcases kx_wk_ok hh hd (n + 1) with h1 | ⟨x, hx, h1⟩
    · rw [if_pos h1, kx_bit_0, h1]
      have : ¬ (-1 : Int32) = Int32.ofNat j := fun z => absurd (show Int32.ofNat j < 0 by rw [← z]; exact kx_neg1) (kx_nat_nn (by omega))
      simp [this]
    · rw [h1, if_neg (fun z => absurd (show Int32.ofNat x < 0 by rw [z]; exact kx_neg1) (kx_nat_nn (by omega))), kx_shl_bit hx hj]
      congr 1
      exact (kx_nat_eq (by omega) (by omega)).symm
