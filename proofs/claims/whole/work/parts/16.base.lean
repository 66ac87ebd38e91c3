/-! what the walks over the engine's equations stand on -/
theorem kx_nat_i {k : Nat} (h : k < 2147483648) : (Int32.ofNat k).toNatClampNeg = k := by
  show (Int32.ofNat k).toInt.toNat = k
  rw [Int32.toInt_ofNat_of_lt (by omega)]
  rfl
theorem kx_nat_0 {k : Nat} (h : k < 2147483648) : (0 : Int32) ≤ Int32.ofNat k := by
  rw [Int32.le_iff_toInt_le, Int32.toInt_ofNat_of_lt (by omega)]
  exact Int.natCast_nonneg k
theorem kx_nat_lt {a b : Nat} (ha : a < 2147483648) (hb : b < 2147483648) : (Int32.ofNat a < Int32.ofNat b) = (a < b) := by
  rw [Int32.lt_iff_toInt_lt, Int32.toInt_ofNat_of_lt (by omega), Int32.toInt_ofNat_of_lt (by omega)]
  exact propext Int.ofNat_lt
theorem kx_nat_le {a b : Nat} (ha : a < 2147483648) (hb : b < 2147483648) : (Int32.ofNat a ≤ Int32.ofNat b) = (a ≤ b) := by
  rw [Int32.le_iff_toInt_le, Int32.toInt_ofNat_of_lt (by omega), Int32.toInt_ofNat_of_lt (by omega)]
  exact propext Int.ofNat_le
theorem kx_nat_s (k : Nat) : Int32.ofNat k + 1 = Int32.ofNat (k + 1) := by
  rw [Int32.ofNat_add]
  rfl
theorem kx_nat_eq {a b : Nat} (ha : a < 2147483648) (hb : b < 2147483648) : (Int32.ofNat a = Int32.ofNat b) = (a = b) := by
  apply propext
  constructor
  · intro h
    have h1 := congrArg Int32.toNatClampNeg h
    rwa [kx_nat_i ha, kx_nat_i hb] at h1
  · intro h; rw [h]
theorem kx_arr_n {t n k : Nat} (h : k < n) (hn : n < 2147483648) : kx_arr t (Int32.ofNat k) (some (t, n)) = true := by
  unfold kx_arr
  dsimp only
  rw [kx_nat_i (by omega)]
  simp [kx_nat_0 (show k < 2147483648 by omega), h]
/-- a script's number inside bounds is a natural number -/
theorem kx_nat_of {x : Int32} {n : Nat} (h0 : 0 ≤ x) (h : x < Int32.ofNat n) (hn : n < 2147483648) : ∃ k, k < n ∧ x = Int32.ofNat k := by
  have h1 : (0 : Int) ≤ x.toInt := by simpa using Int32.le_iff_toInt_le.mp h0
  have h2 : x.toInt < (n : Int) := by
    have := Int32.lt_iff_toInt_lt.mp h
    rwa [Int32.toInt_ofNat_of_lt (by omega)] at this
  refine ⟨x.toInt.toNat, by omega, ?_⟩
  apply Int32.toInt_inj.mp
  rw [Int32.toInt_ofNat_of_lt (by omega)]
  omega
/-- the first k from i on, of m, with p k; -1: none -/
def kx_ff (p : Nat → Bool) : Nat → Nat → Int32
  | 0, _ => -1
  | m + 1, k => if p k = true then Int32.ofNat k else kx_ff p m (k + 1)
/-- how many k < n have p k -/
def kx_cnt (p : Nat → Bool) : Nat → Int32
  | 0 => 0
  | n + 1 => kx_cnt p n + (if p n = true then 1 else 0)
def kx_fold {α : Type} (f : Nat → α → α) (a : α) : Nat → α
  | 0 => a
  | n + 1 => f n (kx_fold f a n)
theorem kx_iter {β : Type} (F : Nat → β) {n : Nat} (h : ∀ k, k < n → F k = F (k + 1)) : F 0 = F n := by
  induction n with
  | zero => rfl
  | succ n ih => rw [ih (fun k hk => h k (by omega)), h n (by omega)]
theorem kx_i4 (t w : Nat) : (11 : Int32) + 4 * Int32.ofNat t + Int32.ofNat w = Int32.ofNat (11 + 4 * t + w) := by simp [Int32.ofNat_add, Int32.ofNat_mul]
theorem kx_i10 (t w : Nat) : (35 : Int32) + 10 * Int32.ofNat t + Int32.ofNat w = Int32.ofNat (35 + 10 * t + w) := by simp [Int32.ofNat_add, Int32.ofNat_mul]
theorem kx_la_0 {t n : Nat} (h : 0 < n) : kx_arr t 0 (some (t, n)) = true := by
  have e : Int32.toNatClampNeg 0 = 0 := by decide
  unfold kx_arr
  dsimp only
  rw [e]
  simp [h]
theorem kx_la_1 {t n : Nat} (h : 1 < n) : kx_arr t 1 (some (t, n)) = true := by
  have e : Int32.toNatClampNeg 1 = 1 := by decide
  unfold kx_arr
  dsimp only
  rw [e]
  simp [h]
theorem kx_la_2 {t n : Nat} (h : 2 < n) : kx_arr t 2 (some (t, n)) = true := by
  have e : Int32.toNatClampNeg 2 = 2 := by decide
  unfold kx_arr
  dsimp only
  rw [e]
  simp [h]
theorem kx_la_3 {t n : Nat} (h : 3 < n) : kx_arr t 3 (some (t, n)) = true := by
  have e : Int32.toNatClampNeg 3 = 3 := by decide
  unfold kx_arr
  dsimp only
  rw [e]
  simp [h]
theorem kx_la_4 {t n : Nat} (h : 4 < n) : kx_arr t 4 (some (t, n)) = true := by
  have e : Int32.toNatClampNeg 4 = 4 := by decide
  unfold kx_arr
  dsimp only
  rw [e]
  simp [h]
theorem kx_la_5 {t n : Nat} (h : 5 < n) : kx_arr t 5 (some (t, n)) = true := by
  have e : Int32.toNatClampNeg 5 = 5 := by decide
  unfold kx_arr
  dsimp only
  rw [e]
  simp [h]
theorem kx_la_6 {t n : Nat} (h : 6 < n) : kx_arr t 6 (some (t, n)) = true := by
  have e : Int32.toNatClampNeg 6 = 6 := by decide
  unfold kx_arr
  dsimp only
  rw [e]
  simp [h]
theorem kx_la_7 {t n : Nat} (h : 7 < n) : kx_arr t 7 (some (t, n)) = true := by
  have e : Int32.toNatClampNeg 7 = 7 := by decide
  unfold kx_arr
  dsimp only
  rw [e]
  simp [h]
theorem kx_la_8 {t n : Nat} (h : 8 < n) : kx_arr t 8 (some (t, n)) = true := by
  have e : Int32.toNatClampNeg 8 = 8 := by decide
  unfold kx_arr
  dsimp only
  rw [e]
  simp [h]
theorem kx_la_9 {t n : Nat} (h : 9 < n) : kx_arr t 9 (some (t, n)) = true := by
  have e : Int32.toNatClampNeg 9 = 9 := by decide
  unfold kx_arr
  dsimp only
  rw [e]
  simp [h]
theorem kx_la_10 {t n : Nat} (h : 10 < n) : kx_arr t 10 (some (t, n)) = true := by
  have e : Int32.toNatClampNeg 10 = 10 := by decide
  unfold kx_arr
  dsimp only
  rw [e]
  simp [h]
theorem kx_la_11 {t n : Nat} (h : 11 < n) : kx_arr t 11 (some (t, n)) = true := by
  have e : Int32.toNatClampNeg 11 = 11 := by decide
  unfold kx_arr
  dsimp only
  rw [e]
  simp [h]
theorem kx_la_12 {t n : Nat} (h : 12 < n) : kx_arr t 12 (some (t, n)) = true := by
  have e : Int32.toNatClampNeg 12 = 12 := by decide
  unfold kx_arr
  dsimp only
  rw [e]
  simp [h]
theorem kx_j10_1 {k : Nat} : (35 : Int32) + 10 * Int32.ofNat k + 1 = Int32.ofNat (35 + 10 * k + 1) := kx_i10 k 1
theorem kx_j10_2 {k : Nat} : (35 : Int32) + 10 * Int32.ofNat k + 2 = Int32.ofNat (35 + 10 * k + 2) := kx_i10 k 2
theorem kx_j10_3 {k : Nat} : (35 : Int32) + 10 * Int32.ofNat k + 3 = Int32.ofNat (35 + 10 * k + 3) := kx_i10 k 3
theorem kx_j10_4 {k : Nat} : (35 : Int32) + 10 * Int32.ofNat k + 4 = Int32.ofNat (35 + 10 * k + 4) := kx_i10 k 4
theorem kx_j10_5 {k : Nat} : (35 : Int32) + 10 * Int32.ofNat k + 5 = Int32.ofNat (35 + 10 * k + 5) := kx_i10 k 5
theorem kx_j10_6 {k : Nat} : (35 : Int32) + 10 * Int32.ofNat k + 6 = Int32.ofNat (35 + 10 * k + 6) := kx_i10 k 6
theorem kx_j10_7 {k : Nat} : (35 : Int32) + 10 * Int32.ofNat k + 7 = Int32.ofNat (35 + 10 * k + 7) := kx_i10 k 7
theorem kx_j10_8 {k : Nat} : (35 : Int32) + 10 * Int32.ofNat k + 8 = Int32.ofNat (35 + 10 * k + 8) := kx_i10 k 8
theorem kx_j10_9 {k : Nat} : (35 : Int32) + 10 * Int32.ofNat k + 9 = Int32.ofNat (35 + 10 * k + 9) := kx_i10 k 9
theorem kx_j4_1 {k : Nat} : (11 : Int32) + 4 * Int32.ofNat k + 1 = Int32.ofNat (11 + 4 * k + 1) := kx_i4 k 1
theorem kx_j4_2 {k : Nat} : (11 : Int32) + 4 * Int32.ofNat k + 2 = Int32.ofNat (11 + 4 * k + 2) := kx_i4 k 2
theorem kx_j4_3 {k : Nat} : (11 : Int32) + 4 * Int32.ofNat k + 3 = Int32.ofNat (11 + 4 * k + 3) := kx_i4 k 3
theorem kx_ib {α β : Type} {c : Prop} {i : Decidable c} {a b : Option α} {f : α → Option β} : (@ite _ c i a b).bind f = @ite _ c i (a.bind f) (b.bind f) := by
  by_cases h : c <;> simp [h]
