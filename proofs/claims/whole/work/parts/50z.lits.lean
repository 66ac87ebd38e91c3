/-! comparisons with written numbers; what a refusal is -/
theorem ky_tl_0 {k : Nat} (h : k < 1000000) : (Int32.ofNat k < 0) = (k < 0) := kx_nat_lt (b := 0) (by omega) (by decide)
theorem ky_tg_0 {k : Nat} (h : k < 1000000) : (0 < Int32.ofNat k) = (0 < k) := kx_nat_lt (a := 0) (by decide) (by omega)
theorem ky_te_0 {k : Nat} (h : k < 1000000) : (Int32.ofNat k = 0) = (k = 0) := kx_nat_eq (b := 0) (by omega) (by decide)
theorem ky_tl_1 {k : Nat} (h : k < 1000000) : (Int32.ofNat k < 1) = (k < 1) := kx_nat_lt (b := 1) (by omega) (by decide)
theorem ky_tg_1 {k : Nat} (h : k < 1000000) : (1 < Int32.ofNat k) = (1 < k) := kx_nat_lt (a := 1) (by decide) (by omega)
theorem ky_te_1 {k : Nat} (h : k < 1000000) : (Int32.ofNat k = 1) = (k = 1) := kx_nat_eq (b := 1) (by omega) (by decide)
theorem ky_tl_2 {k : Nat} (h : k < 1000000) : (Int32.ofNat k < 2) = (k < 2) := kx_nat_lt (b := 2) (by omega) (by decide)
theorem ky_tg_2 {k : Nat} (h : k < 1000000) : (2 < Int32.ofNat k) = (2 < k) := kx_nat_lt (a := 2) (by decide) (by omega)
theorem ky_te_2 {k : Nat} (h : k < 1000000) : (Int32.ofNat k = 2) = (k = 2) := kx_nat_eq (b := 2) (by omega) (by decide)
theorem ky_tl_3 {k : Nat} (h : k < 1000000) : (Int32.ofNat k < 3) = (k < 3) := kx_nat_lt (b := 3) (by omega) (by decide)
theorem ky_tg_3 {k : Nat} (h : k < 1000000) : (3 < Int32.ofNat k) = (3 < k) := kx_nat_lt (a := 3) (by decide) (by omega)
theorem ky_te_3 {k : Nat} (h : k < 1000000) : (Int32.ofNat k = 3) = (k = 3) := kx_nat_eq (b := 3) (by omega) (by decide)
theorem ky_tl_4 {k : Nat} (h : k < 1000000) : (Int32.ofNat k < 4) = (k < 4) := kx_nat_lt (b := 4) (by omega) (by decide)
theorem ky_tg_4 {k : Nat} (h : k < 1000000) : (4 < Int32.ofNat k) = (4 < k) := kx_nat_lt (a := 4) (by decide) (by omega)
theorem ky_te_4 {k : Nat} (h : k < 1000000) : (Int32.ofNat k = 4) = (k = 4) := kx_nat_eq (b := 4) (by omega) (by decide)
theorem ky_tl_5 {k : Nat} (h : k < 1000000) : (Int32.ofNat k < 5) = (k < 5) := kx_nat_lt (b := 5) (by omega) (by decide)
theorem ky_tg_5 {k : Nat} (h : k < 1000000) : (5 < Int32.ofNat k) = (5 < k) := kx_nat_lt (a := 5) (by decide) (by omega)
theorem ky_te_5 {k : Nat} (h : k < 1000000) : (Int32.ofNat k = 5) = (k = 5) := kx_nat_eq (b := 5) (by omega) (by decide)
theorem ky_tl_6 {k : Nat} (h : k < 1000000) : (Int32.ofNat k < 6) = (k < 6) := kx_nat_lt (b := 6) (by omega) (by decide)
theorem ky_tg_6 {k : Nat} (h : k < 1000000) : (6 < Int32.ofNat k) = (6 < k) := kx_nat_lt (a := 6) (by decide) (by omega)
theorem ky_te_6 {k : Nat} (h : k < 1000000) : (Int32.ofNat k = 6) = (k = 6) := kx_nat_eq (b := 6) (by omega) (by decide)
theorem ky_tl_7 {k : Nat} (h : k < 1000000) : (Int32.ofNat k < 7) = (k < 7) := kx_nat_lt (b := 7) (by omega) (by decide)
theorem ky_tg_7 {k : Nat} (h : k < 1000000) : (7 < Int32.ofNat k) = (7 < k) := kx_nat_lt (a := 7) (by decide) (by omega)
theorem ky_te_7 {k : Nat} (h : k < 1000000) : (Int32.ofNat k = 7) = (k = 7) := kx_nat_eq (b := 7) (by omega) (by decide)
theorem ky_tl_8 {k : Nat} (h : k < 1000000) : (Int32.ofNat k < 8) = (k < 8) := kx_nat_lt (b := 8) (by omega) (by decide)
theorem ky_tg_8 {k : Nat} (h : k < 1000000) : (8 < Int32.ofNat k) = (8 < k) := kx_nat_lt (a := 8) (by decide) (by omega)
theorem ky_te_8 {k : Nat} (h : k < 1000000) : (Int32.ofNat k = 8) = (k = 8) := kx_nat_eq (b := 8) (by omega) (by decide)
theorem ky_tl_9 {k : Nat} (h : k < 1000000) : (Int32.ofNat k < 9) = (k < 9) := kx_nat_lt (b := 9) (by omega) (by decide)
theorem ky_tg_9 {k : Nat} (h : k < 1000000) : (9 < Int32.ofNat k) = (9 < k) := kx_nat_lt (a := 9) (by decide) (by omega)
theorem ky_te_9 {k : Nat} (h : k < 1000000) : (Int32.ofNat k = 9) = (k = 9) := kx_nat_eq (b := 9) (by omega) (by decide)
theorem ky_tl_10 {k : Nat} (h : k < 1000000) : (Int32.ofNat k < 10) = (k < 10) := kx_nat_lt (b := 10) (by omega) (by decide)
theorem ky_tg_10 {k : Nat} (h : k < 1000000) : (10 < Int32.ofNat k) = (10 < k) := kx_nat_lt (a := 10) (by decide) (by omega)
theorem ky_te_10 {k : Nat} (h : k < 1000000) : (Int32.ofNat k = 10) = (k = 10) := kx_nat_eq (b := 10) (by omega) (by decide)
theorem ky_tl_11 {k : Nat} (h : k < 1000000) : (Int32.ofNat k < 11) = (k < 11) := kx_nat_lt (b := 11) (by omega) (by decide)
theorem ky_tg_11 {k : Nat} (h : k < 1000000) : (11 < Int32.ofNat k) = (11 < k) := kx_nat_lt (a := 11) (by decide) (by omega)
theorem ky_te_11 {k : Nat} (h : k < 1000000) : (Int32.ofNat k = 11) = (k = 11) := kx_nat_eq (b := 11) (by omega) (by decide)
theorem ky_tl_12 {k : Nat} (h : k < 1000000) : (Int32.ofNat k < 12) = (k < 12) := kx_nat_lt (b := 12) (by omega) (by decide)
theorem ky_tg_12 {k : Nat} (h : k < 1000000) : (12 < Int32.ofNat k) = (12 < k) := kx_nat_lt (a := 12) (by decide) (by omega)
theorem ky_te_12 {k : Nat} (h : k < 1000000) : (Int32.ofNat k = 12) = (k = 12) := kx_nat_eq (b := 12) (by omega) (by decide)
theorem ky_tl_13 {k : Nat} (h : k < 1000000) : (Int32.ofNat k < 13) = (k < 13) := kx_nat_lt (b := 13) (by omega) (by decide)
theorem ky_tg_13 {k : Nat} (h : k < 1000000) : (13 < Int32.ofNat k) = (13 < k) := kx_nat_lt (a := 13) (by decide) (by omega)
theorem ky_te_13 {k : Nat} (h : k < 1000000) : (Int32.ofNat k = 13) = (k = 13) := kx_nat_eq (b := 13) (by omega) (by decide)
theorem ky_tl_32 {k : Nat} (h : k < 1000000) : (Int32.ofNat k < 32) = (k < 32) := kx_nat_lt (b := 32) (by omega) (by decide)
theorem ky_tg_32 {k : Nat} (h : k < 1000000) : (32 < Int32.ofNat k) = (32 < k) := kx_nat_lt (a := 32) (by decide) (by omega)
theorem ky_te_32 {k : Nat} (h : k < 1000000) : (Int32.ofNat k = 32) = (k = 32) := kx_nat_eq (b := 32) (by omega) (by decide)
theorem ky_tl_36 {k : Nat} (h : k < 1000000) : (Int32.ofNat k < 36) = (k < 36) := kx_nat_lt (b := 36) (by omega) (by decide)
theorem ky_tg_36 {k : Nat} (h : k < 1000000) : (36 < Int32.ofNat k) = (36 < k) := kx_nat_lt (a := 36) (by decide) (by omega)
theorem ky_te_36 {k : Nat} (h : k < 1000000) : (Int32.ofNat k = 36) = (k = 36) := kx_nat_eq (b := 36) (by omega) (by decide)
theorem ky_tl_37 {k : Nat} (h : k < 1000000) : (Int32.ofNat k < 37) = (k < 37) := kx_nat_lt (b := 37) (by omega) (by decide)
theorem ky_tg_37 {k : Nat} (h : k < 1000000) : (37 < Int32.ofNat k) = (37 < k) := kx_nat_lt (a := 37) (by decide) (by omega)
theorem ky_te_37 {k : Nat} (h : k < 1000000) : (Int32.ofNat k = 37) = (k = 37) := kx_nat_eq (b := 37) (by omega) (by decide)
theorem ky_tl_40 {k : Nat} (h : k < 1000000) : (Int32.ofNat k < 40) = (k < 40) := kx_nat_lt (b := 40) (by omega) (by decide)
theorem ky_tg_40 {k : Nat} (h : k < 1000000) : (40 < Int32.ofNat k) = (40 < k) := kx_nat_lt (a := 40) (by decide) (by omega)
theorem ky_te_40 {k : Nat} (h : k < 1000000) : (Int32.ofNat k = 40) = (k = 40) := kx_nat_eq (b := 40) (by omega) (by decide)
theorem ky_tl_48 {k : Nat} (h : k < 1000000) : (Int32.ofNat k < 48) = (k < 48) := kx_nat_lt (b := 48) (by omega) (by decide)
theorem ky_tg_48 {k : Nat} (h : k < 1000000) : (48 < Int32.ofNat k) = (48 < k) := kx_nat_lt (a := 48) (by decide) (by omega)
theorem ky_te_48 {k : Nat} (h : k < 1000000) : (Int32.ofNat k = 48) = (k = 48) := kx_nat_eq (b := 48) (by omega) (by decide)
theorem ky_tl_57 {k : Nat} (h : k < 1000000) : (Int32.ofNat k < 57) = (k < 57) := kx_nat_lt (b := 57) (by omega) (by decide)
theorem ky_tg_57 {k : Nat} (h : k < 1000000) : (57 < Int32.ofNat k) = (57 < k) := kx_nat_lt (a := 57) (by decide) (by omega)
theorem ky_te_57 {k : Nat} (h : k < 1000000) : (Int32.ofNat k = 57) = (k = 57) := kx_nat_eq (b := 57) (by omega) (by decide)
theorem ky_tl_60 {k : Nat} (h : k < 1000000) : (Int32.ofNat k < 60) = (k < 60) := kx_nat_lt (b := 60) (by omega) (by decide)
theorem ky_tg_60 {k : Nat} (h : k < 1000000) : (60 < Int32.ofNat k) = (60 < k) := kx_nat_lt (a := 60) (by decide) (by omega)
theorem ky_te_60 {k : Nat} (h : k < 1000000) : (Int32.ofNat k = 60) = (k = 60) := kx_nat_eq (b := 60) (by omega) (by decide)
theorem ky_tl_126 {k : Nat} (h : k < 1000000) : (Int32.ofNat k < 126) = (k < 126) := kx_nat_lt (b := 126) (by omega) (by decide)
theorem ky_tg_126 {k : Nat} (h : k < 1000000) : (126 < Int32.ofNat k) = (126 < k) := kx_nat_lt (a := 126) (by decide) (by omega)
theorem ky_te_126 {k : Nat} (h : k < 1000000) : (Int32.ofNat k = 126) = (k = 126) := kx_nat_eq (b := 126) (by omega) (by decide)
theorem ky_tl_160 {k : Nat} (h : k < 1000000) : (Int32.ofNat k < 160) = (k < 160) := kx_nat_lt (b := 160) (by omega) (by decide)
theorem ky_tg_160 {k : Nat} (h : k < 1000000) : (160 < Int32.ofNat k) = (160 < k) := kx_nat_lt (a := 160) (by decide) (by omega)
theorem ky_te_160 {k : Nat} (h : k < 1000000) : (Int32.ofNat k = 160) = (k = 160) := kx_nat_eq (b := 160) (by omega) (by decide)
theorem ky_rng (lo hi : Nat) (hh : hi < 1000000) (hl : lo ≤ hi) (x : Int32) : x < Int32.ofNat lo ∨ (¬ x < Int32.ofNat lo ∧ Int32.ofNat hi < x) ∨ ∃ n, lo ≤ n ∧ n ≤ hi ∧ x = Int32.ofNat n := by
  by_cases h : x < Int32.ofNat lo
  · exact Or.inl h
  · by_cases h2 : Int32.ofNat hi < x
    · exact Or.inr (Or.inl ⟨h, h2⟩)
    · have e1 : ¬ x.toInt < (Int32.ofNat lo).toInt := fun z => h (Int32.lt_iff_toInt_lt.mpr z)
      have e2 : ¬ (Int32.ofNat hi).toInt < x.toInt := fun z => h2 (Int32.lt_iff_toInt_lt.mpr z)
      rw [Int32.toInt_ofNat_of_lt (by omega)] at e1 e2
      have h0 : (0 : Int32) ≤ x := by
        rw [Int32.le_iff_toInt_le]
        have e0 : (0 : Int32).toInt = 0 := by decide
        omega
      have h3 : x < Int32.ofNat (hi + 1) := by
        rw [Int32.lt_iff_toInt_lt, Int32.toInt_ofNat_of_lt (by omega)]
        omega
      obtain ⟨k, hk, e⟩ := kx_nat_of h0 h3 (by omega)
      refine Or.inr (Or.inr ⟨k, ?_, by omega, e⟩)
      rw [e, Int32.toInt_ofNat_of_lt (by omega)] at e1
      omega
theorem ky_side (x : Int32) : (∃ s, s < 2 ∧ x = Int32.ofNat s) ∨ (¬ x = 0 ∧ ¬ x = 1 ∧ (x < 0 ∨ ¬ x < 0 ∧ 1 < x)) := by
  rcases ky_rng 0 1 (by decide) (by decide) x with (h : x < 0) | ⟨(h : ¬ x < 0), (h2 : 1 < x)⟩ | ⟨n, h1, h2, rfl⟩
  · exact Or.inr ⟨fun z => by rw [z] at h; exact absurd h (by decide), fun z => by rw [z] at h; exact absurd h (by decide), Or.inl h⟩
  · exact Or.inr ⟨fun z => by rw [z] at h2; exact absurd h2 (by decide), fun z => by rw [z] at h2; exact absurd h2 (by decide), Or.inr ⟨h, h2⟩⟩
  · exact Or.inl ⟨n, by omega, rfl⟩
/-- a number from 0 up to below n + 1, else too small or too large -/
theorem ky_hexa (n : Nat) (hn : n < 999999) (y : Int32) : (∃ h, h < n + 1 ∧ y = Int32.ofNat h) ∨ y < 0 ∨ (¬ y < 0 ∧ ¬ y < Int32.ofNat (n + 1) ∧ Int32.ofNat n < y) := by
  rcases ky_rng 0 n (by omega) (by omega) y with (h : y < 0) | ⟨(h : ¬ y < 0), h2⟩ | ⟨m, h1, h2, rfl⟩
  · exact Or.inr (Or.inl h)
  · refine Or.inr (Or.inr ⟨h, fun z => ?_, h2⟩)
    have e1 := Int32.lt_iff_toInt_lt.mp h2
    have e2 := Int32.lt_iff_toInt_lt.mp z
    rw [Int32.toInt_ofNat_of_lt (by omega)] at e1 e2
    omega
  · exact Or.inl ⟨m, by omega, rfl⟩
section KyOps
variable {g g' : kx_Rw} {N j : Nat} {as : List Value} {c a b : Int32}
theorem ky_CD_same (G : ky_G N g) (h : ∀ (ph : Nat) (sc : Nat × (Nat → Int32)) (sg : kx_G2) (lm : Nat → Nat → Int64), ky_R 0 sg g → kx_call j (.ref 0 :: as) (kx_pm ph sc sg lm) = some (some (.int c), kx_pm ph sc sg lm)) : ky_CD N j as g g c none :=
  ⟨G, fun ph sc sg lm R => ⟨sg, lm, h ph sc sg lm R, R, rfl, ky_FC.refl⟩⟩
theorem ky_CD_ref (G : ky_G N g) (h : ∀ (ph : Nat) (sc : Nat × (Nat → Int32)) (sg : kx_G2) (lm : Nat → Nat → Int64), ky_R 0 sg g → kx_call j (.ref 0 :: as) (kx_pm ph sc sg lm) = some (some (.int (-14)), kx_pm ph sc (kx_up (kx_up sg 0 9 a) 0 10 b) lm)) : ky_CD N j as g g (-14) (some (a, b)) := by
  refine ⟨G, fun ph sc sg lm R => ⟨_, lm, h ph sc sg lm R, ky_R_fr G (fun e h1 h2 j => ?_) R, ?_, fun e j h1 h2 h3 => ?_⟩⟩
  · rw [kx_up_ne (by omega), kx_up_ne (by omega)]
  · show (_, _) = (_, _)
    rw [kx_up_eq, kx_up_ne (by omega), kx_up_eq]
  · rw [kx_up_ne (by omega), kx_up_ne (by omega)]
theorem ky_MD_same (hc : c < 0) (h : ∀ (ph : Nat) (sc : Nat × (Nat → Int32)) (sg : kx_G2) (lm : Nat → Nat → Int64), kx_call j (.ref 298 :: as) (kx_pm ph sc (kx_sr sg g) lm) = some (some (.int c), kx_pm ph sc (kx_sr sg g) lm)) : ky_MD j as g g c none :=
  ⟨fun p h => by (cases h), fun ph sc sg lm w n h7 h6 hn => ⟨sg, h ph sc sg lm, rfl, fun _ => ⟨rfl, rfl⟩, fun z => absurd hc z, ky_FM.refl⟩⟩
theorem ky_MD_ref (h : ∀ (ph : Nat) (sc : Nat × (Nat → Int32)) (sg : kx_G2) (lm : Nat → Nat → Int64), kx_call j (.ref 298 :: as) (kx_pm ph sc (kx_sr sg g) lm) = some (some (.int (-14)), kx_pm ph sc (kx_sr (kx_up (kx_up sg 298 8 a) 298 9 b) g) lm)) (ha : ¬ a = 0 := by decide) : ky_MD j as g g (-14) (some (a, b)) := by
  refine ⟨fun p h => by (cases h; exact ha), fun ph sc sg lm w n h7 h6 hn => ⟨_, h ph sc sg lm, ?_, fun _ => ⟨?_, ?_⟩, fun z => absurd (by decide) z, fun e j h1 h2 h3 h4 h5 => ?_⟩⟩
  · show (_, _) = (_, _)
    rw [kx_up_eq, kx_up_ne (by omega), kx_up_eq]
  · rw [kx_up_ne (by omega), kx_up_ne (by omega)]
  · funext j
    rw [kx_up_ne (by omega), kx_up_ne (by omega)]
  · rw [kx_up_ne (by omega), kx_up_ne (by omega)]
theorem ky_MD_keep (hc : ¬ c < 0) (h : ∀ (ph : Nat) (sc : Nat × (Nat → Int32)) (sg s1 : kx_G2) (lm : Nat → Nat → Int64), kx_call 131 [.ref 298, .ref 299] (kx_pm ph sc (kx_sr sg g) lm) = some (none, kx_pm ph sc (kx_sr s1 g) lm) → kx_call j (.ref 298 :: as) (kx_pm ph sc (kx_sr sg g) lm) = some (some (.int c), kx_pm ph sc (kx_sr s1 g') lm)) : ky_MD j as g g' c none := by
  refine ⟨fun p h => by (cases h), fun ph sc sg lm w n h7 h6 hn => ?_⟩
  obtain ⟨s1, e1, K1, F1⟩ := kx_c_131g (ph := ph) (sc := sc) (lm := lm) (g := g) h7 h6 hn
  refine ⟨s1, h ph sc sg s1 lm e1, ?_, fun z => absurd z hc, fun _ => K1, fun a j a1 a2 a3 a4 a5 => F1 a j a1 a2 (by
    by_cases h : a = 298
    · exact Or.inr (a5 h).1
    · exact Or.inl h)⟩
  show (_, _) = (_, _)
  rw [F1 _ _ (by decide) (by decide) (by decide), F1 _ _ (by decide) (by decide) (by decide)]
end KyOps
theorem kx_cN_two {p q : Nat → Bool} : ∀ n, (∀ i, i < n → p i = !q i) → kx_cN p n + kx_cN q n = n
  | 0, _ => rfl
  | n + 1, h => by
    have ih := kx_cN_two n (fun i hi => h i (by omega))
    have e := h n (by omega)
    rw [kx_cN, kx_cN, e]
    cases q n <;> simp <;> omega
