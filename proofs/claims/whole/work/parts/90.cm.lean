/-! the memory while it is built: n cells stand, S tells which references are set -/
def ky_cm (n : Nat) (S : Nat → Nat → Bool) (s : Nat) (sc : Nat × (Nat → Int32)) (sg : kx_G2) : kx_M := kx_mm (fun a => if a < n then kx_SH a else (99, 0)) (fun a k => if S a k = true then kx_PR 0 a k else none) n s sc sg (fun _ _ => 0)
def ky_ad (S : Nat → Nat → Bool) (a k : Nat) : Nat → Nat → Bool := fun b j => if b = a ∧ j = k then true else S b j
section KyCm
variable {n s : Nat} {S S' : Nat → Nat → Bool} {sc : Nat × (Nat → Int32)} {sg : kx_G2}
theorem ky_cm_sh {a : Nat} (h : a < n) : kx_sh (ky_cm n S s sc sg) a = kx_SH a := if_pos h
theorem ky_cm_nx : kx_nx (ky_cm n S s sc sg) = n := rfl
theorem ky_cm_new {t sz : Nat} {z : Nat → Value} (h : kx_SH n = (t, sz)) (hS : ∀ k, S n k = false) (hg : ∀ k, sg n k = 0) (hz : ∀ k, z k = kx_cv t k 0 none 0) : kx_new (ky_cm n S s sc sg) t sz z = ky_cm (n + 1) S (s + sz) sc sg := by
  show ((fun a => if a = n then (t, sz) else if a < n then kx_SH a else (99, 0)), (fun a j => if a = n then z j else kx_cv (if a < n then kx_SH a else (99, 0)).1 j (sg a j) (if S a j = true then kx_PR 0 a j else none) 0), n + 1, s + sz, sc) = ((fun a => if a < n + 1 then kx_SH a else (99, 0)), (fun a j => kx_cv (if a < n + 1 then kx_SH a else (99, 0)).1 j (sg a j) (if S a j = true then kx_PR 0 a j else none) 0), n + 1, s + sz, sc)
  refine Prod.ext (funext fun a => ?_) (Prod.ext (funext fun a => funext fun j => ?_) rfl)
  · dsimp only
    by_cases h1 : a = n
    · subst h1
      rw [if_pos rfl, if_pos (by omega), h]
    · rw [if_neg h1]
      by_cases h2 : a < n
      · rw [if_pos h2, if_pos (by omega)]
      · rw [if_neg h2, if_neg (by omega)]
  · dsimp only
    by_cases h1 : a = n
    · subst h1
      rw [if_pos rfl, if_pos (by omega), h, hg, hS, if_neg Bool.false_ne_true]
      exact hz j
    · rw [if_neg h1]
      by_cases h2 : a < n
      · rw [if_pos h2, if_pos (show a < n + 1 by omega)]
      · rw [if_neg h2, if_neg (show ¬ a < n + 1 by omega)]
theorem ky_cm_put {a k r : Nat} (h : a < n) (h1 : kx_isn (kx_SH a).1 k = false) (h2 : (kx_SH a).1 ≠ 102) (hr : kx_PR 0 a k = some r) : kx_put (ky_cm n S s sc sg) a k (.ref r) = ky_cm n (ky_ad S a k) s sc sg := by
  show (_, (fun b j => if b = a ∧ j = k then Value.ref r else kx_cv (if b < n then kx_SH b else (99, 0)).1 j (sg b j) (if S b j = true then kx_PR 0 b j else none) 0), n, s, sc) = (_, (fun b j => kx_cv (if b < n then kx_SH b else (99, 0)).1 j (sg b j) (if ky_ad S a k b j = true then kx_PR 0 b j else none) 0), n, s, sc)
  refine Prod.ext rfl (Prod.ext (funext fun b => funext fun j => ?_) rfl)
  dsimp only
  unfold ky_ad
  by_cases hb : b = a ∧ j = k
  · obtain ⟨rfl, rfl⟩ := hb
    rw [if_pos h, if_pos ⟨rfl, rfl⟩, if_pos (show b = b ∧ j = j from ⟨rfl, rfl⟩), if_pos rfl, hr]
    unfold kx_cv
    rw [if_neg (by rw [h1]; decide), if_neg h2]
  · rw [if_neg hb, if_neg hb]
theorem ky_cm_puti {a k : Nat} {x : Int32} (h : a < n) (h1 : kx_isn (kx_SH a).1 k = true) : kx_put (ky_cm n S s sc sg) a k (.int x) = ky_cm n S s sc (kx_up sg a k x) := kx_mm_put (by rw [if_pos h]; exact h1)
theorem ky_cm_ref {a k r : Nat} (h : a < n) (h1 : kx_isn (kx_SH a).1 k = false) (h2 : (kx_SH a).1 ≠ 102) (hS : S a k = true) (hr : kx_PR 0 a k = some r) : kx_dt (ky_cm n S s sc sg) a k = .ref r := by
  show kx_cv (if a < n then kx_SH a else (99, 0)).1 k (sg a k) (if S a k = true then kx_PR 0 a k else none) 0 = _
  rw [if_pos h, if_pos hS, hr]
  unfold kx_cv
  rw [if_neg (by rw [h1]; decide), if_neg h2]
theorem ky_cm_congr (h : ∀ a k, S a k = S' a k ∨ kx_PR 0 a k = none) : ky_cm n S s sc sg = ky_cm n S' s sc sg := by
  have : (fun a k => if S a k = true then kx_PR 0 a k else none) = fun a k => if S' a k = true then kx_PR 0 a k else none := by
    funext a k
    rcases h a k with h | h
    · rw [h]
    · rw [h]
      split <;> split <;> rfl
  unfold ky_cm
  rw [this]
theorem ky_fd_cv {t : Nat} (h : t < 12) (k : Nat) : kx_fd t k = kx_cv t k 0 none 0 := by
  unfold kx_fd kx_cv kx_isn
  rw [if_pos h]
  by_cases hk : k ∈ kx_nums.getD t []
  · rw [if_pos hk, if_pos (by simpa using hk)]
  · rw [if_neg hk, if_neg (by simpa using hk), if_neg (by omega)]
theorem ky_z_i (k : Nat) : Value.int 0 = kx_cv 101 k 0 none 0 := rfl
theorem ky_z_l (k : Nat) : Value.long 0 = kx_cv 102 k 0 none 0 := rfl
theorem ky_z_b (k : Nat) : Value.int 0 = kx_cv 103 k 0 none 0 := rfl
theorem ky_z_c (k : Nat) : Value.int 0 = kx_cv 104 k 0 none 0 := rfl
theorem ky_z_z (k : Nat) : Value.int 0 = kx_cv 105 k 0 none 0 := rfl
theorem ky_z_110 (k : Nat) : Value.null = kx_cv 110 k 0 none 0 := rfl
theorem ky_z_111 (k : Nat) : Value.null = kx_cv 111 k 0 none 0 := rfl
theorem ky_z_112 (k : Nat) : Value.null = kx_cv 112 k 0 none 0 := rfl
theorem ky_z_113 (k : Nat) : Value.null = kx_cv 113 k 0 none 0 := rfl
theorem ky_cm_0 {L : Nat} {xs : Nat → Int32} : kx_M0 L xs = ky_cm 0 (fun _ _ => false) 0 (L, xs) (fun _ _ => 0) := rfl
theorem ky_cm_end {S : Nat → Nat → Bool} (h : ∀ a k, S a k = true ∨ kx_PR 0 a k = none) : ky_cm 311 S 5122 sc sg = kx_pm 0 sc sg (fun _ _ => 0) := by
  have e1 : (fun a => if a < 311 then kx_SH a else (99, 0)) = kx_PT 0 := by
    funext a
    unfold kx_PT
    by_cases ha : a < 311
    · rw [if_pos ha, if_pos ha]
    · rw [if_neg ha, if_neg ha, if_neg (by omega), if_neg (by omega)]
  have e2 : (fun a k => if S a k = true then kx_PR 0 a k else none) = kx_PR 0 := by
    funext a k
    rcases h a k with h | h
    · rw [if_pos h]
    · rw [h]
      split <;> rfl
  unfold ky_cm kx_pm
  rw [e1, e2]
  rfl
end KyCm
