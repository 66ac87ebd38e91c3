/-! the blocks of States anywhere; copyFrom -/
def ky_bs (i : Nat) : Nat := if i < 3 then 1 + 24 * i else 3 + 24 * i
def ky_blk (b : Nat) : Prop := ∃ i, i < 11 ∧ b = ky_bs i
theorem ky_blk_SH {b : Nat} (h : ky_blk b) {j : Nat} (hj : j < 24) : kx_SH (b + j) = kx_SB j ∧ b + j < 267 := by
  obtain ⟨i, hi, rfl⟩ := h
  have : ∀ i, i < 11 → ∀ j, j < 24 → kx_SH (ky_bs i + j) = kx_SB j ∧ ky_bs i + j < 267 := by decide +kernel
  exact this i hi j hj
theorem ky_blk_PR {ph b : Nat} (h : ky_blk b) {j k : Nat} (hj : j < 24) (hk : k < 13) : kx_PR ph (b + j) k = kx_RB b j k := by
  obtain ⟨i, hi, rfl⟩ := h
  have h0 : kx_PR ph (ky_bs i + j) k = kx_PR 0 (ky_bs i + j) k := by
    have := (ky_blk_SH ⟨i, hi, rfl⟩ hj).2
    unfold kx_PR
    by_cases h1 : ky_bs i + j = 0
    · rw [if_pos h1, if_pos h1]
    · by_cases h2 : ky_bs i + j < 73
      · rw [if_neg h1, if_pos h2, if_neg h1, if_pos h2]
      · by_cases h3 : ky_bs i + j = 73
        · rw [if_neg h1, if_neg h2, if_pos h3, if_neg h1, if_neg h2, if_pos h3]
        · by_cases h4 : ky_bs i + j = 74
          · rw [if_neg h1, if_neg h2, if_neg h3, if_pos h4, if_neg h1, if_neg h2, if_neg h3, if_pos h4]
          · rw [if_neg h1, if_neg h2, if_neg h3, if_neg h4, if_pos this, if_neg h1, if_neg h2, if_neg h3, if_neg h4, if_pos this]
  rw [h0]
  have : ∀ i, i < 11 → ∀ j, j < 24 → ∀ k, k < 13 → kx_PR 0 (ky_bs i + j) k = kx_RB (ky_bs i) j k := by decide +kernel
  exact this i hi j hj k hk
section KxBlk
variable {ph : Nat} {sc : Nat × (Nat → Int32)} {sg : kx_G2} {lm : Nat → Nat → Int64} {b : Nat}
theorem ky_s_b (h : ky_blk b) : kx_sh (kx_pm ph sc sg lm) b = (6, 14) := by
  have := ky_blk_SH h (j := 0) (by omega)
  exact kx_pm_shp (by omega) this.1
theorem ky_s_b' (h : ky_blk b) {j : Nat} (hj : j < 24) : kx_sh (kx_pm ph sc sg lm) (b + j) = kx_SB j := by
  have := ky_blk_SH h hj
  exact kx_pm_shp (by omega) this.1
theorem ky_s_b1 (h : ky_blk b) : kx_sh (kx_pm ph sc sg lm) (b + 1) = (110, 6) := ky_s_b' h (by omega)
theorem ky_s_b8 (h : ky_blk b) : kx_sh (kx_pm ph sc sg lm) (b + 8) = (111, 12) := ky_s_b' h (by omega)
theorem ky_s_b21 (h : ky_blk b) : kx_sh (kx_pm ph sc sg lm) (b + 21) = (101, 6) := ky_s_b' h (by omega)
theorem ky_s_b22 (h : ky_blk b) : kx_sh (kx_pm ph sc sg lm) (b + 22) = (101, 6) := ky_s_b' h (by omega)
theorem ky_s_b23 (h : ky_blk b) : kx_sh (kx_pm ph sc sg lm) (b + 23) = (101, 2) := ky_s_b' h (by omega)
theorem ky_SB_t {k : Nat} (h : k < 6) : kx_SB (2 + k) = (7, 4) := by
  have : ∀ k, k < 6 → kx_SB (2 + k) = (7, 4) := by decide
  exact this k h
theorem ky_SB_k {k : Nat} (h : k < 12) : kx_SB (9 + k) = (2, 13) := by
  have : ∀ k, k < 12 → kx_SB (9 + k) = (2, 13) := by decide
  exact this k h
theorem ky_s_bt (h : ky_blk b) {k : Nat} (hk : k < 6) : kx_sh (kx_pm ph sc sg lm) (b + 2 + k) = (7, 4) := by rw [Nat.add_assoc]; exact (ky_s_b' h (by omega)).trans (ky_SB_t hk)
theorem ky_s_bk (h : ky_blk b) {k : Nat} (hk : k < 12) : kx_sh (kx_pm ph sc sg lm) (b + 9 + k) = (2, 13) := by rw [Nat.add_assoc]; exact (ky_s_b' h (by omega)).trans (ky_SB_k hk)
theorem ky_g_ref (h : ky_blk b) {j k r : Nat} (hj : j < 24) (hk : k < 13) (hr : kx_RB b j k = some r) (ht : kx_isn (kx_SB j).1 k = false ∧ (kx_SB j).1 ≠ 102) : kx_dt (kx_pm ph sc sg lm) (b + j) k = .ref r := by
  have := ky_blk_SH h hj
  exact kx_pm_ref (t := (kx_SB j).1) (by omega) (by rw [this.1]) ht ((ky_blk_PR h hj hk).trans hr)
theorem ky_g_int (h : ky_blk b) {j k : Nat} (hj : j < 24) (ht : kx_isn (kx_SB j).1 k = true) : kx_dt (kx_pm ph sc sg lm) (b + j) k = .int (sg (b + j) k) := by
  have := ky_blk_SH h hj
  exact kx_pm_int (t := (kx_SB j).1) (by omega) (by rw [this.1]) ht
theorem ky_p_int (h : ky_blk b) {j k : Nat} {x : Int32} (hj : j < 24) (ht : kx_isn (kx_SB j).1 k = true) : kx_put (kx_pm ph sc sg lm) (b + j) k (.int x) = kx_pm ph sc (kx_up sg (b + j) k x) lm := by
  have := ky_blk_SH h hj
  exact kx_pm_put (t := (kx_SB j).1) (by omega) (by rw [this.1]) ht
theorem ky_g_b1 (h : ky_blk b) : kx_dt (kx_pm ph sc sg lm) b 1 = .ref (b + 1) := ky_g_ref h (j := 0) (by omega) (by omega) rfl ⟨by decide, by decide⟩
theorem ky_g_b3 (h : ky_blk b) : kx_dt (kx_pm ph sc sg lm) b 3 = .ref (b + 8) := ky_g_ref h (j := 0) (by omega) (by omega) rfl ⟨by decide, by decide⟩
theorem ky_g_b5 (h : ky_blk b) : kx_dt (kx_pm ph sc sg lm) b 5 = .ref (b + 21) := ky_g_ref h (j := 0) (by omega) (by omega) rfl ⟨by decide, by decide⟩
theorem ky_g_b6 (h : ky_blk b) : kx_dt (kx_pm ph sc sg lm) b 6 = .ref (b + 22) := ky_g_ref h (j := 0) (by omega) (by omega) rfl ⟨by decide, by decide⟩
theorem ky_g_b8 (h : ky_blk b) : kx_dt (kx_pm ph sc sg lm) b 8 = .ref (b + 23) := ky_g_ref h (j := 0) (by omega) (by omega) rfl ⟨by decide, by decide⟩
theorem ky_g_bi0 (h : ky_blk b) : kx_dt (kx_pm ph sc sg lm) b 0 = .int (sg b 0) := ky_g_int h (j := 0) (by omega) (by decide)
theorem ky_p_bi0 {x : Int32} (h : ky_blk b) : kx_put (kx_pm ph sc sg lm) b 0 (.int x) = kx_pm ph sc (kx_up sg b 0 x) lm := ky_p_int h (j := 0) (by omega) (by decide)
theorem ky_g_bi2 (h : ky_blk b) : kx_dt (kx_pm ph sc sg lm) b 2 = .int (sg b 2) := ky_g_int h (j := 0) (by omega) (by decide)
theorem ky_p_bi2 {x : Int32} (h : ky_blk b) : kx_put (kx_pm ph sc sg lm) b 2 (.int x) = kx_pm ph sc (kx_up sg b 2 x) lm := ky_p_int h (j := 0) (by omega) (by decide)
theorem ky_g_bi4 (h : ky_blk b) : kx_dt (kx_pm ph sc sg lm) b 4 = .int (sg b 4) := ky_g_int h (j := 0) (by omega) (by decide)
theorem ky_p_bi4 {x : Int32} (h : ky_blk b) : kx_put (kx_pm ph sc sg lm) b 4 (.int x) = kx_pm ph sc (kx_up sg b 4 x) lm := ky_p_int h (j := 0) (by omega) (by decide)
theorem ky_g_bi7 (h : ky_blk b) : kx_dt (kx_pm ph sc sg lm) b 7 = .int (sg b 7) := ky_g_int h (j := 0) (by omega) (by decide)
theorem ky_p_bi7 {x : Int32} (h : ky_blk b) : kx_put (kx_pm ph sc sg lm) b 7 (.int x) = kx_pm ph sc (kx_up sg b 7 x) lm := ky_p_int h (j := 0) (by omega) (by decide)
theorem ky_g_bi9 (h : ky_blk b) : kx_dt (kx_pm ph sc sg lm) b 9 = .int (sg b 9) := ky_g_int h (j := 0) (by omega) (by decide)
theorem ky_p_bi9 {x : Int32} (h : ky_blk b) : kx_put (kx_pm ph sc sg lm) b 9 (.int x) = kx_pm ph sc (kx_up sg b 9 x) lm := ky_p_int h (j := 0) (by omega) (by decide)
theorem ky_g_bi10 (h : ky_blk b) : kx_dt (kx_pm ph sc sg lm) b 10 = .int (sg b 10) := ky_g_int h (j := 0) (by omega) (by decide)
theorem ky_p_bi10 {x : Int32} (h : ky_blk b) : kx_put (kx_pm ph sc sg lm) b 10 (.int x) = kx_pm ph sc (kx_up sg b 10 x) lm := ky_p_int h (j := 0) (by omega) (by decide)
theorem ky_g_bi11 (h : ky_blk b) : kx_dt (kx_pm ph sc sg lm) b 11 = .int (sg b 11) := ky_g_int h (j := 0) (by omega) (by decide)
theorem ky_p_bi11 {x : Int32} (h : ky_blk b) : kx_put (kx_pm ph sc sg lm) b 11 (.int x) = kx_pm ph sc (kx_up sg b 11 x) lm := ky_p_int h (j := 0) (by omega) (by decide)
theorem ky_g_bi12 (h : ky_blk b) : kx_dt (kx_pm ph sc sg lm) b 12 = .int (sg b 12) := ky_g_int h (j := 0) (by omega) (by decide)
theorem ky_p_bi12 {x : Int32} (h : ky_blk b) : kx_put (kx_pm ph sc sg lm) b 12 (.int x) = kx_pm ph sc (kx_up sg b 12 x) lm := ky_p_int h (j := 0) (by omega) (by decide)
theorem ky_g_bi13 (h : ky_blk b) : kx_dt (kx_pm ph sc sg lm) b 13 = .int (sg b 13) := ky_g_int h (j := 0) (by omega) (by decide)
theorem ky_p_bi13 {x : Int32} (h : ky_blk b) : kx_put (kx_pm ph sc sg lm) b 13 (.int x) = kx_pm ph sc (kx_up sg b 13 x) lm := ky_p_int h (j := 0) (by omega) (by decide)
theorem ky_g_br21 (h : ky_blk b) {k : Nat} : kx_dt (kx_pm ph sc sg lm) (b + 21) k = .int (sg (b + 21) k) := ky_g_int h (by omega) rfl
theorem ky_p_br21 {x : Int32} (h : ky_blk b) {k : Nat} : kx_put (kx_pm ph sc sg lm) (b + 21) k (.int x) = kx_pm ph sc (kx_up sg (b + 21) k x) lm := ky_p_int h (by omega) rfl
theorem ky_g_br22 (h : ky_blk b) {k : Nat} : kx_dt (kx_pm ph sc sg lm) (b + 22) k = .int (sg (b + 22) k) := ky_g_int h (by omega) rfl
theorem ky_p_br22 {x : Int32} (h : ky_blk b) {k : Nat} : kx_put (kx_pm ph sc sg lm) (b + 22) k (.int x) = kx_pm ph sc (kx_up sg (b + 22) k x) lm := ky_p_int h (by omega) rfl
theorem ky_g_br23 (h : ky_blk b) {k : Nat} : kx_dt (kx_pm ph sc sg lm) (b + 23) k = .int (sg (b + 23) k) := ky_g_int h (by omega) rfl
theorem ky_p_br23 {x : Int32} (h : ky_blk b) {k : Nat} : kx_put (kx_pm ph sc sg lm) (b + 23) k (.int x) = kx_pm ph sc (kx_up sg (b + 23) k x) lm := ky_p_int h (by omega) rfl
theorem ky_RB_t {k : Nat} (h : k < 6) : kx_RB b 1 k = some (b + 2 + k) := by
  unfold kx_RB
  rw [if_neg (by decide), if_pos ⟨rfl, h⟩]
theorem ky_RB_k {k : Nat} (h : k < 12) : kx_RB b 8 k = some (b + 9 + k) := by
  unfold kx_RB
  rw [if_neg (by decide), if_neg (fun z => by omega), if_pos ⟨rfl, h⟩]
theorem ky_g_bt (h : ky_blk b) {k : Nat} (hk : k < 6) : kx_dt (kx_pm ph sc sg lm) (b + 1) k = .ref (b + 2 + k) := ky_g_ref h (by omega) (by omega) (ky_RB_t hk) ⟨rfl, by decide⟩
theorem ky_g_bk (h : ky_blk b) {k : Nat} (hk : k < 12) : kx_dt (kx_pm ph sc sg lm) (b + 8) k = .ref (b + 9 + k) := ky_g_ref h (by omega) (by omega) (ky_RB_k hk) ⟨rfl, by decide⟩
theorem ky_g_ti (h : ky_blk b) {k j : Nat} (hk : k < 6) (hj : j < 4) : kx_dt (kx_pm ph sc sg lm) (b + 2 + k) j = .int (sg (b + 2 + k) j) := by
  rw [Nat.add_assoc]
  exact ky_g_int h (by omega) (by rw [ky_SB_t hk]; exact kx_fi_tw j hj)
theorem ky_p_ti {x : Int32} (h : ky_blk b) {k j : Nat} (hk : k < 6) (hj : j < 4) : kx_put (kx_pm ph sc sg lm) (b + 2 + k) j (.int x) = kx_pm ph sc (kx_up sg (b + 2 + k) j x) lm := by
  rw [Nat.add_assoc]
  exact ky_p_int h (by omega) (by rw [ky_SB_t hk]; exact kx_fi_tw j hj)
theorem ky_g_ki (h : ky_blk b) {k j : Nat} (hk : k < 12) (hj : j < 13) : kx_dt (kx_pm ph sc sg lm) (b + 9 + k) j = .int (sg (b + 9 + k) j) := by
  rw [Nat.add_assoc]
  exact ky_g_int h (by omega) (by rw [ky_SB_k hk]; exact kx_fi_kt j hj)
theorem ky_p_ki {x : Int32} (h : ky_blk b) {k j : Nat} (hk : k < 12) (hj : j < 13) : kx_put (kx_pm ph sc sg lm) (b + 9 + k) j (.int x) = kx_pm ph sc (kx_up sg (b + 9 + k) j x) lm := by
  rw [Nat.add_assoc]
  exact ky_p_int h (by omega) (by rw [ky_SB_k hk]; exact kx_fi_kt j hj)
end KxBlk
