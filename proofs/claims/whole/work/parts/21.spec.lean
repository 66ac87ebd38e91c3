/-! rows of the reference and what its steps do to them -/
theorem kx_le_lt {a b : Int32} : (a ≤ b) = ¬ b < a := propext Int32.not_lt.symm
theorem kx_nw0 : (narrow FieldType.boolean (Value.int 0) = Value.int 0) = True := eq_true rfl
theorem kx_nw1 : (narrow FieldType.boolean (Value.int 1) = Value.int 1) = True := eq_true rfl
def kx_b (b : Bool) : Int32 := if b = true then 1 else 0
theorem kx_nwb {c : Bool} : (narrow FieldType.boolean (Value.int (kx_b c)) = Value.int (kx_b c)) = True := by cases c <;> exact eq_true rfl
theorem kx_b0 {c : Bool} : (kx_b c = 0) = (c = false) := by cases c <;> simp [kx_b]
theorem kx_b1 {c : Bool} : (kx_b c = 1) = (c = true) := by cases c <;> simp [kx_b]
theorem kx_j10_0 {k : Nat} : (35 : Int32) + 10 * Int32.ofNat k + 0 = Int32.ofNat (35 + 10 * k) := kx_i10 k 0
theorem kx_j4_0 {k : Nat} : (11 : Int32) + 4 * Int32.ofNat k + 0 = Int32.ofNat (11 + 4 * k) := kx_i4 k 0
abbrev kx_Rw : Type := Nat → Int32
def kx_u1 (g : kx_Rw) (j : Nat) (x : Int32) : kx_Rw := fun i => if i = j then x else g i
theorem kx_u1_eq {g : kx_Rw} {j : Nat} {x : Int32} : kx_u1 g j x j = x := if_pos rfl
theorem kx_u1_ne {g : kx_Rw} {i j : Nat} {x : Int32} (h : i ≠ j) : kx_u1 g j x i = g i := if_neg h
def ky_n (g : kx_Rw) (j : Nat) : Nat := (g j).toNatClampNeg
def kx_sr (sg : kx_G2) (g : kx_Rw) : kx_G2 := fun a k => if a = 299 then g k else sg a k
theorem kx_sr_rd {sg : kx_G2} {g : kx_Rw} {k : Nat} : kx_sr sg g 299 k = g k := rfl
theorem kx_sr_ne {sg : kx_G2} {g : kx_Rw} {a k : Nat} (h : a ≠ 299) : kx_sr sg g a k = sg a k := if_neg h
theorem kx_sr_up {sg : kx_G2} {g : kx_Rw} {j : Nat} {x : Int32} : kx_up (kx_sr sg g) 299 j x = kx_sr sg (kx_u1 g j x) := by
  funext a k
  unfold kx_up kx_sr kx_u1
  by_cases ha : a = 299 <;> by_cases hk : k = j <;> simp [ha, hk]
theorem kx_sr_upn {sg : kx_G2} {g : kx_Rw} {a j : Nat} {x : Int32} (h : a ≠ 299) : kx_up (kx_sr sg g) a j x = kx_sr (kx_up sg a j x) g := by
  funext b k
  unfold kx_up kx_sr
  by_cases hb : b = 299
  · subst hb
    rw [if_neg (fun z => h z.1.symm), if_pos rfl, if_pos rfl]
  · rw [if_neg hb, if_neg hb]
theorem kx_sr_self {sg : kx_G2} : kx_sr sg (sg 299) = sg := by
  funext a k
  unfold kx_sr
  by_cases h : a = 299 <;> simp [h]
/-- the number at j is a natural number below n -/
def kx_B (g : kx_Rw) (j n : Nat) : Prop := g j = Int32.ofNat (ky_n g j) ∧ ky_n g j < n
theorem kx_B_of {g : kx_Rw} {j n k : Nat} (h : g j = Int32.ofNat k) (hk : k < n) (hn : n ≤ 2147483648) : kx_B g j n := by
  have : ky_n g j = k := by unfold ky_n; rw [h, kx_nat_i (by omega)]
  exact ⟨by rw [this]; exact h, by rw [this]; exact hk⟩
theorem kx_nb_ok : ∀ h, h < 37 → ∀ d, d < 6 → kx_nb h d = -1 ∨ ∃ x, x < 37 ∧ kx_nb h d = Int32.ofNat x := by
  intro h hh d hd
  have : ∀ h, h < 37 → ∀ d, d < 6 → (kx_nb h d = -1 ∨ ((kx_nb h d).toNatClampNeg < 37 ∧ kx_nb h d = Int32.ofNat (kx_nb h d).toNatClampNeg)) := by decide +kernel
  rcases this h hh d hd with h1 | ⟨h1, h2⟩
  · exact Or.inl h1
  · exact Or.inr ⟨_, h1, h2⟩
theorem kx_neg1 : (-1 : Int32) < 0 := by decide
theorem kx_nat_nn {k : Nat} (h : k < 2147483648) : ¬ Int32.ofNat k < 0 := Int32.not_lt.mpr (kx_nat_0 h)
theorem kx_wk_ok {h d : Nat} (hh : h < 37) (hd : d < 6) : ∀ n, kx_wk h d n = -1 ∨ ∃ x, x < 37 ∧ kx_wk h d n = Int32.ofNat x
  | 0 => Or.inr ⟨h, hh, rfl⟩
  | n + 1 => by
    rw [kx_wk]
    rcases kx_wk_ok hh hd n with h1 | ⟨x, hx, h1⟩
    · rw [h1, if_pos kx_neg1]; exact Or.inl rfl
    · rw [h1, if_neg (kx_nat_nn (by omega)), kx_nat_i (by omega)]
      exact kx_nb_ok x hx d hd
theorem kx_wk_down {h d : Nat} (hh : h < 37) (hd : d < 6) {n m : Nat} (hm : m ≤ n) (hn : ¬ kx_wk h d n < 0) : ¬ kx_wk h d m < 0 := by
  induction n with
  | zero => rw [Nat.le_zero.mp hm]; exact hn
  | succ n ih =>
    by_cases he : m = n + 1
    · rw [he]; exact hn
    · refine ih (by omega) (fun hz => hn ?_)
      rw [kx_wk, if_pos hz]
      exact kx_neg1
/-- the reference's row is in order: numbers of towers, kites, winds; what each holds -/
def kx_TI (g : kx_Rw) (t : Nat) : Prop := kx_B g (11 + 4 * t) 2 ∧ kx_B g (11 + 4 * t + 1) 37 ∧ kx_B g (11 + 4 * t + 2) 5 ∧ 1 ≤ ky_n g (11 + 4 * t + 2)
def kx_hm (g : kx_Rw) (k : Nat) : Nat := ky_n g (11 + 4 * ky_n g (35 + 10 * k) + 1)
def kx_rc (g : kx_Rw) (k : Nat) : Nat := ky_n g (11 + 4 * ky_n g (35 + 10 * k) + 2)
def kx_sd (g : kx_Rw) (k : Nat) : Nat := ky_n g (11 + 4 * ky_n g (35 + 10 * k))
/-- a kite: where it is, by how it is; its slip -/
def kx_KI (g : kx_Rw) (nt k : Nat) : Prop :=
  kx_B g (35 + 10 * k) nt ∧ kx_B g (35 + 10 * k + 1) 4 ∧ kx_B g (35 + 10 * k + 2) 6 ∧ kx_B g (35 + 10 * k + 3) 5 ∧ kx_B g (35 + 10 * k + 5) 10 ∧ kx_B g (35 + 10 * k + 8) 7 ∧ kx_B g (35 + 10 * k + 9) 6 ∧
  (ky_n g (35 + 10 * k + 1) = 0 → ky_n g (35 + 10 * k + 2) = 0 ∧ ky_n g (35 + 10 * k + 3) = 0 ∧ g (35 + 10 * k + 4) = Int32.ofNat (kx_hm g k) ∧ ky_n g (35 + 10 * k + 8) ≤ 1) ∧
  (ky_n g (35 + 10 * k + 1) = 1 → 1 ≤ ky_n g (35 + 10 * k + 3) ∧ ky_n g (35 + 10 * k + 3) ≤ kx_rc g k ∧ g (35 + 10 * k + 4) = kx_wk (kx_hm g k) (ky_n g (35 + 10 * k + 2)) (ky_n g (35 + 10 * k + 3)) ∧ ¬ g (35 + 10 * k + 4) < 0 ∧ ky_n g (35 + 10 * k + 8) ≠ 1) ∧
  (ky_n g (35 + 10 * k + 1) = 2 → ky_n g (35 + 10 * k + 2) = 0 ∧ ky_n g (35 + 10 * k + 3) = 0 ∧ kx_B g (35 + 10 * k + 4) 37 ∧ ky_n g (35 + 10 * k + 8) = 0) ∧
  (ky_n g (35 + 10 * k + 1) = 3 → ky_n g (35 + 10 * k + 2) = 0 ∧ ky_n g (35 + 10 * k + 3) = 0 ∧ ky_n g (35 + 10 * k + 8) = 0)
def ky_I (nt nk nw tn : Nat) (g : kx_Rw) : Prop :=
  (g 0 = Int32.ofNat tn ∧ tn < 1000000) ∧ (g 1 = Int32.ofNat nt ∧ nt ≤ 6) ∧ (g 2 = Int32.ofNat nk ∧ nk ≤ 12) ∧ (g 3 = Int32.ofNat nw ∧ nw ≤ 6) ∧ (∀ t, t < nt → kx_TI g t) ∧ (∀ k, k < nk → kx_KI g nt k) ∧ (∀ w, w < nw → kx_B g (155 + 2 * w) 6 ∧ kx_B g (155 + 2 * w + 1) 4)
section KxSpec
variable (g : kx_Rw) (k : Nat)
def kx_rests : kx_Rw := kx_u1 (kx_u1 (kx_u1 (kx_u1 g (35 + 10 * k + 1) 0) (35 + 10 * k + 2) 0) (35 + 10 * k + 3) 0) (35 + 10 * k + 4) (g (11 + 4 * ky_n g (35 + 10 * k) + 1))
/-- may it fly so -/
def kx_can (d n : Nat) : Prop := n = 0 ∨ (¬ kx_wk (kx_hm g k) d n < 0 ∧ n ≤ kx_rc g k)
end KxSpec
