/-! the memory of the running system: a fixed layout, numbers by sg, longs by lm; ph: how often the text has grown; written by wip/whole/mem.py -/
def kx_SB (j : Nat) : Nat × Nat := if j = 0 then (6, 14) else if j = 1 then (110, 6) else if j < 8 then (7, 4) else if j = 8 then (111, 12) else if j < 21 then (2, 13) else if j < 23 then (101, 6) else (101, 2)
def kx_SC : List (Nat × Nat) := [(3, 3), (102, 12), (0, 3), (101, 12), (8, 4), (3, 3), (102, 12), (0, 3), (101, 12), (0, 3), (105, 12), (101, 12), (5, 5), (11, 4), (103, 16), (113, 13), (4, 3), (4, 3), (4, 3), (4, 3), (4, 3), (4, 3), (4, 3), (4, 3), (4, 3), (4, 3), (4, 3), (4, 3), (4, 3), (11, 4), (103, 16), (10, 21), (101, 167), (101, 1336), (101, 167), (101, 167), (101, 167), (101, 60), (104, 40), (101, 37), (101, 12), (101, 12), (101, 144), (101, 96)]
def kx_SH (a : Nat) : Nat × Nat := if a = 0 then (9, 11) else if a < 73 then kx_SB ((a - 1) % 24) else if a = 73 then (1, 3) else if a = 74 then (112, 8) else if a < 267 then kx_SB ((a - 75) % 24) else kx_SC.getD (a - 267) (99, 0)
def kx_PT (ph a : Nat) : Nat × Nat := if a < 311 then kx_SH a else if a = 311 ∧ 1 ≤ ph then (103, 34) else if a = 312 ∧ 2 ≤ ph then (103, 70) else (99, 0)
/-- references inside a block of a State at b -/
def kx_RB (b j k : Nat) : Option Nat := if j = 0 then (if k = 1 then some (b + 1) else if k = 3 then some (b + 8) else if k = 5 then some (b + 21) else if k = 6 then some (b + 22) else if k = 8 then some (b + 23) else none) else if j = 1 ∧ k < 6 then some (b + 2 + k) else if j = 8 ∧ k < 12 then some (b + 9 + k) else none
def kx_RC : List (List (Option Nat)) := [[some 268, some 269, some 270], [], [], [], [some 272, some 276, some 277, some 278], [some 273, some 274, some 275], [], [], [], [], [], [], [some 280, some 282]]
def kx_RM : List (Option Nat) := [some 299, some 300, some 301, some 302, some 303, none, none, none, none, none, some 304, none, some 305, none, some 306, some 307, some 308, some 309, none, some 310]
def kx_R0 : List (Option Nat) := [some 1, some 25, some 49, none, some 73, some 271, some 267, some 279, some 296]
def kx_tb0 (ph : Nat) : Nat := if ph = 0 then 281 else if ph = 1 then 311 else 312
def kx_PR (ph a k : Nat) : Option Nat := if a = 0 then kx_R0.getD k none else if a < 73 then kx_RB (1 + 24 * ((a - 1) / 24)) ((a - 1) % 24) k else if a = 73 then (if k = 0 then some 74 else none) else if a = 74 then (if k < 8 then some (75 + 24 * k) else none) else if a < 267 then kx_RB (75 + 24 * ((a - 75) / 24)) ((a - 75) % 24) k
  else if a = 280 then (if k = 0 then some (kx_tb0 ph) else none) else if a = 282 then (if k < 13 then some (283 + k) else none) else if a = 296 then (if k = 0 then some 297 else none) else if a = 298 then kx_RM.getD k none else (kx_RC.getD (a - 267) []).getD k none
def kx_isn (t k : Nat) : Bool := if t < 12 then (kx_nums.getD t []).contains k else Nat.beq t 101 || Nat.beq t 103 || Nat.beq t 104 || Nat.beq t 105
def kx_cv (t k : Nat) (x : Int32) (r : Option Nat) (w : Int64) : Value := if kx_isn t k = true then .int x else if t = 102 then .long w else match r with
  | some a => .ref a
  | none => .null
abbrev kx_G2 : Type := Nat → Nat → Int32
def kx_mm (T : Nat → Nat × Nat) (ro : Nat → Nat → Option Nat) (n s : Nat) (sc : Nat × (Nat → Int32)) (sg : kx_G2) (lm : Nat → Nat → Int64) : kx_M := (T, fun a k => kx_cv (T a).1 k (sg a k) (ro a k) (lm a k), n, s, sc)
def kx_sl0 (ph : Nat) : Nat := if ph = 0 then 5122 else if ph = 1 then 5156 else 5226
def kx_pm (ph : Nat) (sc : Nat × (Nat → Int32)) (sg : kx_G2) (lm : Nat → Nat → Int64) : kx_M := kx_mm (kx_PT ph) (kx_PR ph) (311 + ph) (kx_sl0 ph) sc sg lm
def kx_up (sg : kx_G2) (a k : Nat) (x : Int32) : kx_G2 := fun b j => if b = a ∧ j = k then x else sg b j
def kx_ul (lm : Nat → Nat → Int64) (a k : Nat) (x : Int64) : Nat → Nat → Int64 := fun b j => if b = a ∧ j = k then x else lm b j
theorem kx_up_eq {sg : kx_G2} {a k : Nat} {x : Int32} : kx_up sg a k x a k = x := if_pos ⟨rfl, rfl⟩
theorem kx_up_ne {sg : kx_G2} {a k b j : Nat} {x : Int32} (h : b ≠ a ∨ j ≠ k) : kx_up sg a k x b j = sg b j := if_neg (fun z => by rcases h with h | h; exact h z.1; exact h z.2)
theorem kx_ul_eq {lm : Nat → Nat → Int64} {a k : Nat} {x : Int64} : kx_ul lm a k x a k = x := if_pos ⟨rfl, rfl⟩
theorem kx_ul_ne {lm : Nat → Nat → Int64} {a k b j : Nat} {x : Int64} (h : b ≠ a ∨ j ≠ k) : kx_ul lm a k x b j = lm b j := if_neg (fun z => by rcases h with h | h; exact h z.1; exact h z.2)
theorem kx_mm_put {T : Nat → Nat × Nat} {ro : Nat → Nat → Option Nat} {n s : Nat} {sc : Nat × (Nat → Int32)} {sg : kx_G2} {lm : Nat → Nat → Int64} {a k : Nat} {x : Int32} (h : kx_isn (T a).1 k = true) : kx_put (kx_mm T ro n s sc sg lm) a k (.int x) = kx_mm T ro n s sc (kx_up sg a k x) lm := by
  unfold kx_put kx_mm
  congr 2
  funext b j
  by_cases hb : b = a ∧ j = k
  · obtain ⟨rfl, rfl⟩ := hb
    simp [kx_cv, h, kx_up]
  · simp [kx_up, hb]
theorem kx_mm_putl {T : Nat → Nat × Nat} {ro : Nat → Nat → Option Nat} {n s : Nat} {sc : Nat × (Nat → Int32)} {sg : kx_G2} {lm : Nat → Nat → Int64} {a k : Nat} {x : Int64} (h : (T a).1 = 102) : kx_put (kx_mm T ro n s sc sg lm) a k (.long x) = kx_mm T ro n s sc sg (kx_ul lm a k x) := by
  unfold kx_put kx_mm
  congr 2
  funext b j
  by_cases hb : b = a ∧ j = k
  · obtain ⟨rfl, rfl⟩ := hb
    simp [kx_cv, h, kx_ul, kx_isn]
  · simp [kx_ul, hb]
section KxPm
variable {ph : Nat} {sc : Nat × (Nat → Int32)} {sg : kx_G2} {lm : Nat → Nat → Int64}
theorem kx_PT_lt {a : Nat} (h : a < 311) : kx_PT ph a = kx_SH a := if_pos h
theorem kx_pm_shp {a : Nat} {q : Nat × Nat} (h : a < 311) (hq : kx_SH a = q) : kx_sh (kx_pm ph sc sg lm) a = q := (kx_PT_lt h).trans hq
theorem kx_pm_int {a k t : Nat} (h : a < 311) (hq : (kx_SH a).1 = t) (ht : kx_isn t k = true) : kx_dt (kx_pm ph sc sg lm) a k = .int (sg a k) := by
  show kx_cv (kx_PT ph a).1 k _ _ _ = _
  rw [kx_PT_lt h, hq]
  unfold kx_cv
  rw [if_pos ht]
theorem kx_pm_ref {a k t r : Nat} (h : a < 311) (hq : (kx_SH a).1 = t) (ht : kx_isn t k = false ∧ t ≠ 102) (hr : kx_PR ph a k = some r) : kx_dt (kx_pm ph sc sg lm) a k = .ref r := by
  show kx_cv (kx_PT ph a).1 k _ (kx_PR ph a k) _ = _
  rw [kx_PT_lt h, hq, hr]
  unfold kx_cv
  rw [if_neg (by rw [ht.1]; decide), if_neg ht.2]
theorem kx_pm_lng {a k : Nat} (h : a < 311) (hq : (kx_SH a).1 = 102) : kx_dt (kx_pm ph sc sg lm) a k = .long (lm a k) := by
  show kx_cv (kx_PT ph a).1 k _ _ _ = _
  rw [kx_PT_lt h, hq]
  rfl
theorem kx_pm_put {a k t : Nat} {x : Int32} (h : a < 311) (hq : (kx_SH a).1 = t) (ht : kx_isn t k = true) : kx_put (kx_pm ph sc sg lm) a k (.int x) = kx_pm ph sc (kx_up sg a k x) lm := kx_mm_put (by rw [kx_PT_lt h, hq]; exact ht)
theorem kx_pm_putl {a k : Nat} {x : Int64} (h : a < 311) (hq : (kx_SH a).1 = 102) : kx_put (kx_pm ph sc sg lm) a k (.long x) = kx_pm ph sc sg (kx_ul lm a k x) := kx_mm_putl (by rw [kx_PT_lt h, hq])

theorem kx_s_0 : kx_sh (kx_pm ph sc sg lm) 0 = (9, 11) := kx_pm_shp (by decide) (by decide)
theorem kx_g_0_0 : kx_dt (kx_pm ph sc sg lm) 0 0 = .ref 1 := kx_pm_ref (t := 9) (by decide) (by decide) ⟨by decide, by decide⟩ rfl
theorem kx_g_0_1 : kx_dt (kx_pm ph sc sg lm) 0 1 = .ref 25 := kx_pm_ref (t := 9) (by decide) (by decide) ⟨by decide, by decide⟩ rfl
theorem kx_g_0_2 : kx_dt (kx_pm ph sc sg lm) 0 2 = .ref 49 := kx_pm_ref (t := 9) (by decide) (by decide) ⟨by decide, by decide⟩ rfl
theorem kx_g_0_3 : kx_dt (kx_pm ph sc sg lm) 0 3 = .int (sg 0 3) := kx_pm_int (t := 9) (by decide) (by decide) (by decide)
theorem kx_p_0_3 {x : Int32} : kx_put (kx_pm ph sc sg lm) 0 3 (.int x) = kx_pm ph sc (kx_up sg 0 3 x) lm := kx_pm_put (t := 9) (by decide) (by decide) (by decide)
theorem kx_g_0_4 : kx_dt (kx_pm ph sc sg lm) 0 4 = .ref 73 := kx_pm_ref (t := 9) (by decide) (by decide) ⟨by decide, by decide⟩ rfl
theorem kx_g_0_5 : kx_dt (kx_pm ph sc sg lm) 0 5 = .ref 271 := kx_pm_ref (t := 9) (by decide) (by decide) ⟨by decide, by decide⟩ rfl
theorem kx_g_0_6 : kx_dt (kx_pm ph sc sg lm) 0 6 = .ref 267 := kx_pm_ref (t := 9) (by decide) (by decide) ⟨by decide, by decide⟩ rfl
theorem kx_g_0_7 : kx_dt (kx_pm ph sc sg lm) 0 7 = .ref 279 := kx_pm_ref (t := 9) (by decide) (by decide) ⟨by decide, by decide⟩ rfl
theorem kx_g_0_8 : kx_dt (kx_pm ph sc sg lm) 0 8 = .ref 296 := kx_pm_ref (t := 9) (by decide) (by decide) ⟨by decide, by decide⟩ rfl
theorem kx_g_0_9 : kx_dt (kx_pm ph sc sg lm) 0 9 = .int (sg 0 9) := kx_pm_int (t := 9) (by decide) (by decide) (by decide)
theorem kx_p_0_9 {x : Int32} : kx_put (kx_pm ph sc sg lm) 0 9 (.int x) = kx_pm ph sc (kx_up sg 0 9 x) lm := kx_pm_put (t := 9) (by decide) (by decide) (by decide)
theorem kx_g_0_10 : kx_dt (kx_pm ph sc sg lm) 0 10 = .int (sg 0 10) := kx_pm_int (t := 9) (by decide) (by decide) (by decide)
theorem kx_p_0_10 {x : Int32} : kx_put (kx_pm ph sc sg lm) 0 10 (.int x) = kx_pm ph sc (kx_up sg 0 10 x) lm := kx_pm_put (t := 9) (by decide) (by decide) (by decide)
theorem kx_s_1 : kx_sh (kx_pm ph sc sg lm) 1 = (6, 14) := kx_pm_shp (by decide) (by decide)
theorem kx_g_1_0 : kx_dt (kx_pm ph sc sg lm) 1 0 = .int (sg 1 0) := kx_pm_int (t := 6) (by decide) (by decide) (by decide)
theorem kx_p_1_0 {x : Int32} : kx_put (kx_pm ph sc sg lm) 1 0 (.int x) = kx_pm ph sc (kx_up sg 1 0 x) lm := kx_pm_put (t := 6) (by decide) (by decide) (by decide)
theorem kx_g_1_1 : kx_dt (kx_pm ph sc sg lm) 1 1 = .ref 2 := kx_pm_ref (t := 6) (by decide) (by decide) ⟨by decide, by decide⟩ rfl
theorem kx_g_1_2 : kx_dt (kx_pm ph sc sg lm) 1 2 = .int (sg 1 2) := kx_pm_int (t := 6) (by decide) (by decide) (by decide)
theorem kx_p_1_2 {x : Int32} : kx_put (kx_pm ph sc sg lm) 1 2 (.int x) = kx_pm ph sc (kx_up sg 1 2 x) lm := kx_pm_put (t := 6) (by decide) (by decide) (by decide)
theorem kx_g_1_3 : kx_dt (kx_pm ph sc sg lm) 1 3 = .ref 9 := kx_pm_ref (t := 6) (by decide) (by decide) ⟨by decide, by decide⟩ rfl
theorem kx_g_1_4 : kx_dt (kx_pm ph sc sg lm) 1 4 = .int (sg 1 4) := kx_pm_int (t := 6) (by decide) (by decide) (by decide)
theorem kx_p_1_4 {x : Int32} : kx_put (kx_pm ph sc sg lm) 1 4 (.int x) = kx_pm ph sc (kx_up sg 1 4 x) lm := kx_pm_put (t := 6) (by decide) (by decide) (by decide)
theorem kx_g_1_5 : kx_dt (kx_pm ph sc sg lm) 1 5 = .ref 22 := kx_pm_ref (t := 6) (by decide) (by decide) ⟨by decide, by decide⟩ rfl
theorem kx_g_1_6 : kx_dt (kx_pm ph sc sg lm) 1 6 = .ref 23 := kx_pm_ref (t := 6) (by decide) (by decide) ⟨by decide, by decide⟩ rfl
theorem kx_g_1_7 : kx_dt (kx_pm ph sc sg lm) 1 7 = .int (sg 1 7) := kx_pm_int (t := 6) (by decide) (by decide) (by decide)
theorem kx_p_1_7 {x : Int32} : kx_put (kx_pm ph sc sg lm) 1 7 (.int x) = kx_pm ph sc (kx_up sg 1 7 x) lm := kx_pm_put (t := 6) (by decide) (by decide) (by decide)
theorem kx_g_1_8 : kx_dt (kx_pm ph sc sg lm) 1 8 = .ref 24 := kx_pm_ref (t := 6) (by decide) (by decide) ⟨by decide, by decide⟩ rfl
theorem kx_g_1_9 : kx_dt (kx_pm ph sc sg lm) 1 9 = .int (sg 1 9) := kx_pm_int (t := 6) (by decide) (by decide) (by decide)
theorem kx_p_1_9 {x : Int32} : kx_put (kx_pm ph sc sg lm) 1 9 (.int x) = kx_pm ph sc (kx_up sg 1 9 x) lm := kx_pm_put (t := 6) (by decide) (by decide) (by decide)
theorem kx_g_1_10 : kx_dt (kx_pm ph sc sg lm) 1 10 = .int (sg 1 10) := kx_pm_int (t := 6) (by decide) (by decide) (by decide)
theorem kx_p_1_10 {x : Int32} : kx_put (kx_pm ph sc sg lm) 1 10 (.int x) = kx_pm ph sc (kx_up sg 1 10 x) lm := kx_pm_put (t := 6) (by decide) (by decide) (by decide)
theorem kx_g_1_11 : kx_dt (kx_pm ph sc sg lm) 1 11 = .int (sg 1 11) := kx_pm_int (t := 6) (by decide) (by decide) (by decide)
theorem kx_p_1_11 {x : Int32} : kx_put (kx_pm ph sc sg lm) 1 11 (.int x) = kx_pm ph sc (kx_up sg 1 11 x) lm := kx_pm_put (t := 6) (by decide) (by decide) (by decide)
theorem kx_g_1_12 : kx_dt (kx_pm ph sc sg lm) 1 12 = .int (sg 1 12) := kx_pm_int (t := 6) (by decide) (by decide) (by decide)
theorem kx_p_1_12 {x : Int32} : kx_put (kx_pm ph sc sg lm) 1 12 (.int x) = kx_pm ph sc (kx_up sg 1 12 x) lm := kx_pm_put (t := 6) (by decide) (by decide) (by decide)
theorem kx_g_1_13 : kx_dt (kx_pm ph sc sg lm) 1 13 = .int (sg 1 13) := kx_pm_int (t := 6) (by decide) (by decide) (by decide)
theorem kx_p_1_13 {x : Int32} : kx_put (kx_pm ph sc sg lm) 1 13 (.int x) = kx_pm ph sc (kx_up sg 1 13 x) lm := kx_pm_put (t := 6) (by decide) (by decide) (by decide)
theorem kx_s_2 : kx_sh (kx_pm ph sc sg lm) 2 = (110, 6) := kx_pm_shp (by decide) (by decide)
theorem kx_fr_2 : ∀ k, k < 6 → kx_PR ph 2 k = some (3 + k) := by
  intro k h
  match k, h with
  | 0, _ => rfl
  | 1, _ => rfl
  | 2, _ => rfl
  | 3, _ => rfl
  | 4, _ => rfl
  | 5, _ => rfl
  | k + 6, h => omega
theorem kx_g_2 {k : Nat} (h : k < 6) : kx_dt (kx_pm ph sc sg lm) 2 k = .ref (3 + k) := kx_pm_ref (t := 110) (by decide) (by decide) ⟨rfl, by decide⟩ (kx_fr_2 k h)
theorem kx_fs_tw : ∀ k, k < 6 → (kx_SH (3 + k)) = (7, 4) := by decide
theorem kx_fi_tw : ∀ j, j < 4 → kx_isn 7 j = true := by decide
theorem kx_s_tw {k : Nat} (h : k < 6) : kx_sh (kx_pm ph sc sg lm) (3 + k) = (7, 4) := kx_pm_shp (by omega) (kx_fs_tw k h)
theorem kx_g_tw {k j : Nat} (h : k < 6) (hj : j < 4) : kx_dt (kx_pm ph sc sg lm) (3 + k) j = .int (sg (3 + k) j) := kx_pm_int (t := 7) (by omega) (by rw [kx_fs_tw k h]) (kx_fi_tw j hj)
theorem kx_p_tw {k j : Nat} {x : Int32} (h : k < 6) (hj : j < 4) : kx_put (kx_pm ph sc sg lm) (3 + k) j (.int x) = kx_pm ph sc (kx_up sg (3 + k) j x) lm := kx_pm_put (t := 7) (by omega) (by rw [kx_fs_tw k h]) (kx_fi_tw j hj)
theorem kx_s_9 : kx_sh (kx_pm ph sc sg lm) 9 = (111, 12) := kx_pm_shp (by decide) (by decide)
theorem kx_fr_9 : ∀ k, k < 12 → kx_PR ph 9 k = some (10 + k) := by
  intro k h
  match k, h with
  | 0, _ => rfl
  | 1, _ => rfl
  | 2, _ => rfl
  | 3, _ => rfl
  | 4, _ => rfl
  | 5, _ => rfl
  | 6, _ => rfl
  | 7, _ => rfl
  | 8, _ => rfl
  | 9, _ => rfl
  | 10, _ => rfl
  | 11, _ => rfl
  | k + 12, h => omega
theorem kx_g_9 {k : Nat} (h : k < 12) : kx_dt (kx_pm ph sc sg lm) 9 k = .ref (10 + k) := kx_pm_ref (t := 111) (by decide) (by decide) ⟨rfl, by decide⟩ (kx_fr_9 k h)
theorem kx_fs_kt : ∀ k, k < 12 → (kx_SH (10 + k)) = (2, 13) := by decide
theorem kx_fi_kt : ∀ j, j < 13 → kx_isn 2 j = true := by decide
theorem kx_s_kt {k : Nat} (h : k < 12) : kx_sh (kx_pm ph sc sg lm) (10 + k) = (2, 13) := kx_pm_shp (by omega) (kx_fs_kt k h)
theorem kx_g_kt {k j : Nat} (h : k < 12) (hj : j < 13) : kx_dt (kx_pm ph sc sg lm) (10 + k) j = .int (sg (10 + k) j) := kx_pm_int (t := 2) (by omega) (by rw [kx_fs_kt k h]) (kx_fi_kt j hj)
theorem kx_p_kt {k j : Nat} {x : Int32} (h : k < 12) (hj : j < 13) : kx_put (kx_pm ph sc sg lm) (10 + k) j (.int x) = kx_pm ph sc (kx_up sg (10 + k) j x) lm := kx_pm_put (t := 2) (by omega) (by rw [kx_fs_kt k h]) (kx_fi_kt j hj)
theorem kx_s_22 : kx_sh (kx_pm ph sc sg lm) 22 = (101, 6) := kx_pm_shp (by decide) (by decide)
theorem kx_g_22 {k : Nat} : kx_dt (kx_pm ph sc sg lm) 22 k = .int (sg 22 k) := kx_pm_int (t := 101) (by decide) (by decide) rfl
theorem kx_p_22 {k : Nat} {x : Int32} : kx_put (kx_pm ph sc sg lm) 22 k (.int x) = kx_pm ph sc (kx_up sg 22 k x) lm := kx_pm_put (t := 101) (by decide) (by decide) rfl
theorem kx_s_23 : kx_sh (kx_pm ph sc sg lm) 23 = (101, 6) := kx_pm_shp (by decide) (by decide)
theorem kx_g_23 {k : Nat} : kx_dt (kx_pm ph sc sg lm) 23 k = .int (sg 23 k) := kx_pm_int (t := 101) (by decide) (by decide) rfl
theorem kx_p_23 {k : Nat} {x : Int32} : kx_put (kx_pm ph sc sg lm) 23 k (.int x) = kx_pm ph sc (kx_up sg 23 k x) lm := kx_pm_put (t := 101) (by decide) (by decide) rfl
theorem kx_s_24 : kx_sh (kx_pm ph sc sg lm) 24 = (101, 2) := kx_pm_shp (by decide) (by decide)
theorem kx_g_24 {k : Nat} : kx_dt (kx_pm ph sc sg lm) 24 k = .int (sg 24 k) := kx_pm_int (t := 101) (by decide) (by decide) rfl
theorem kx_p_24 {k : Nat} {x : Int32} : kx_put (kx_pm ph sc sg lm) 24 k (.int x) = kx_pm ph sc (kx_up sg 24 k x) lm := kx_pm_put (t := 101) (by decide) (by decide) rfl
theorem kx_s_73 : kx_sh (kx_pm ph sc sg lm) 73 = (1, 3) := kx_pm_shp (by decide) (by decide)
theorem kx_g_73_0 : kx_dt (kx_pm ph sc sg lm) 73 0 = .ref 74 := kx_pm_ref (t := 1) (by decide) (by decide) ⟨by decide, by decide⟩ rfl
theorem kx_g_73_1 : kx_dt (kx_pm ph sc sg lm) 73 1 = .int (sg 73 1) := kx_pm_int (t := 1) (by decide) (by decide) (by decide)
theorem kx_p_73_1 {x : Int32} : kx_put (kx_pm ph sc sg lm) 73 1 (.int x) = kx_pm ph sc (kx_up sg 73 1 x) lm := kx_pm_put (t := 1) (by decide) (by decide) (by decide)
theorem kx_g_73_2 : kx_dt (kx_pm ph sc sg lm) 73 2 = .int (sg 73 2) := kx_pm_int (t := 1) (by decide) (by decide) (by decide)
theorem kx_p_73_2 {x : Int32} : kx_put (kx_pm ph sc sg lm) 73 2 (.int x) = kx_pm ph sc (kx_up sg 73 2 x) lm := kx_pm_put (t := 1) (by decide) (by decide) (by decide)
theorem kx_s_74 : kx_sh (kx_pm ph sc sg lm) 74 = (112, 8) := kx_pm_shp (by decide) (by decide)
theorem kx_fr_74 : ∀ k, k < 8 → kx_PR ph 74 k = some (75 + 24 * k) := by
  intro k h
  match k, h with
  | 0, _ => rfl
  | 1, _ => rfl
  | 2, _ => rfl
  | 3, _ => rfl
  | 4, _ => rfl
  | 5, _ => rfl
  | 6, _ => rfl
  | 7, _ => rfl
  | k + 8, h => omega
theorem kx_g_74 {k : Nat} (h : k < 8) : kx_dt (kx_pm ph sc sg lm) 74 k = .ref (75 + 24 * k) := kx_pm_ref (t := 112) (by decide) (by decide) ⟨rfl, by decide⟩ (kx_fr_74 k h)
theorem kx_s_267 : kx_sh (kx_pm ph sc sg lm) 267 = (3, 3) := kx_pm_shp (by decide) (by decide)
theorem kx_g_267_0 : kx_dt (kx_pm ph sc sg lm) 267 0 = .ref 268 := kx_pm_ref (t := 3) (by decide) (by decide) ⟨by decide, by decide⟩ rfl
theorem kx_g_267_1 : kx_dt (kx_pm ph sc sg lm) 267 1 = .ref 269 := kx_pm_ref (t := 3) (by decide) (by decide) ⟨by decide, by decide⟩ rfl
theorem kx_g_267_2 : kx_dt (kx_pm ph sc sg lm) 267 2 = .ref 270 := kx_pm_ref (t := 3) (by decide) (by decide) ⟨by decide, by decide⟩ rfl
theorem kx_s_268 : kx_sh (kx_pm ph sc sg lm) 268 = (102, 12) := kx_pm_shp (by decide) (by decide)
theorem kx_g_268 {k : Nat} : kx_dt (kx_pm ph sc sg lm) 268 k = .long (lm 268 k) := kx_pm_lng (by decide) (by decide)
theorem kx_p_268 {k : Nat} {x : Int64} : kx_put (kx_pm ph sc sg lm) 268 k (.long x) = kx_pm ph sc sg (kx_ul lm 268 k x) := kx_pm_putl (by decide) (by decide)
theorem kx_s_269 : kx_sh (kx_pm ph sc sg lm) 269 = (0, 3) := kx_pm_shp (by decide) (by decide)
theorem kx_g_269_0 : kx_dt (kx_pm ph sc sg lm) 269 0 = .int (sg 269 0) := kx_pm_int (t := 0) (by decide) (by decide) (by decide)
theorem kx_p_269_0 {x : Int32} : kx_put (kx_pm ph sc sg lm) 269 0 (.int x) = kx_pm ph sc (kx_up sg 269 0 x) lm := kx_pm_put (t := 0) (by decide) (by decide) (by decide)
theorem kx_g_269_1 : kx_dt (kx_pm ph sc sg lm) 269 1 = .int (sg 269 1) := kx_pm_int (t := 0) (by decide) (by decide) (by decide)
theorem kx_p_269_1 {x : Int32} : kx_put (kx_pm ph sc sg lm) 269 1 (.int x) = kx_pm ph sc (kx_up sg 269 1 x) lm := kx_pm_put (t := 0) (by decide) (by decide) (by decide)
theorem kx_g_269_2 : kx_dt (kx_pm ph sc sg lm) 269 2 = .int (sg 269 2) := kx_pm_int (t := 0) (by decide) (by decide) (by decide)
theorem kx_p_269_2 {x : Int32} : kx_put (kx_pm ph sc sg lm) 269 2 (.int x) = kx_pm ph sc (kx_up sg 269 2 x) lm := kx_pm_put (t := 0) (by decide) (by decide) (by decide)
theorem kx_s_270 : kx_sh (kx_pm ph sc sg lm) 270 = (101, 12) := kx_pm_shp (by decide) (by decide)
theorem kx_g_270 {k : Nat} : kx_dt (kx_pm ph sc sg lm) 270 k = .int (sg 270 k) := kx_pm_int (t := 101) (by decide) (by decide) rfl
theorem kx_p_270 {k : Nat} {x : Int32} : kx_put (kx_pm ph sc sg lm) 270 k (.int x) = kx_pm ph sc (kx_up sg 270 k x) lm := kx_pm_put (t := 101) (by decide) (by decide) rfl
theorem kx_s_271 : kx_sh (kx_pm ph sc sg lm) 271 = (8, 4) := kx_pm_shp (by decide) (by decide)
theorem kx_g_271_0 : kx_dt (kx_pm ph sc sg lm) 271 0 = .ref 272 := kx_pm_ref (t := 8) (by decide) (by decide) ⟨by decide, by decide⟩ rfl
theorem kx_g_271_1 : kx_dt (kx_pm ph sc sg lm) 271 1 = .ref 276 := kx_pm_ref (t := 8) (by decide) (by decide) ⟨by decide, by decide⟩ rfl
theorem kx_g_271_2 : kx_dt (kx_pm ph sc sg lm) 271 2 = .ref 277 := kx_pm_ref (t := 8) (by decide) (by decide) ⟨by decide, by decide⟩ rfl
theorem kx_g_271_3 : kx_dt (kx_pm ph sc sg lm) 271 3 = .ref 278 := kx_pm_ref (t := 8) (by decide) (by decide) ⟨by decide, by decide⟩ rfl
theorem kx_s_272 : kx_sh (kx_pm ph sc sg lm) 272 = (3, 3) := kx_pm_shp (by decide) (by decide)
theorem kx_g_272_0 : kx_dt (kx_pm ph sc sg lm) 272 0 = .ref 273 := kx_pm_ref (t := 3) (by decide) (by decide) ⟨by decide, by decide⟩ rfl
theorem kx_g_272_1 : kx_dt (kx_pm ph sc sg lm) 272 1 = .ref 274 := kx_pm_ref (t := 3) (by decide) (by decide) ⟨by decide, by decide⟩ rfl
theorem kx_g_272_2 : kx_dt (kx_pm ph sc sg lm) 272 2 = .ref 275 := kx_pm_ref (t := 3) (by decide) (by decide) ⟨by decide, by decide⟩ rfl
theorem kx_s_273 : kx_sh (kx_pm ph sc sg lm) 273 = (102, 12) := kx_pm_shp (by decide) (by decide)
theorem kx_g_273 {k : Nat} : kx_dt (kx_pm ph sc sg lm) 273 k = .long (lm 273 k) := kx_pm_lng (by decide) (by decide)
theorem kx_p_273 {k : Nat} {x : Int64} : kx_put (kx_pm ph sc sg lm) 273 k (.long x) = kx_pm ph sc sg (kx_ul lm 273 k x) := kx_pm_putl (by decide) (by decide)
theorem kx_s_274 : kx_sh (kx_pm ph sc sg lm) 274 = (0, 3) := kx_pm_shp (by decide) (by decide)
theorem kx_g_274_0 : kx_dt (kx_pm ph sc sg lm) 274 0 = .int (sg 274 0) := kx_pm_int (t := 0) (by decide) (by decide) (by decide)
theorem kx_p_274_0 {x : Int32} : kx_put (kx_pm ph sc sg lm) 274 0 (.int x) = kx_pm ph sc (kx_up sg 274 0 x) lm := kx_pm_put (t := 0) (by decide) (by decide) (by decide)
theorem kx_g_274_1 : kx_dt (kx_pm ph sc sg lm) 274 1 = .int (sg 274 1) := kx_pm_int (t := 0) (by decide) (by decide) (by decide)
theorem kx_p_274_1 {x : Int32} : kx_put (kx_pm ph sc sg lm) 274 1 (.int x) = kx_pm ph sc (kx_up sg 274 1 x) lm := kx_pm_put (t := 0) (by decide) (by decide) (by decide)
theorem kx_g_274_2 : kx_dt (kx_pm ph sc sg lm) 274 2 = .int (sg 274 2) := kx_pm_int (t := 0) (by decide) (by decide) (by decide)
theorem kx_p_274_2 {x : Int32} : kx_put (kx_pm ph sc sg lm) 274 2 (.int x) = kx_pm ph sc (kx_up sg 274 2 x) lm := kx_pm_put (t := 0) (by decide) (by decide) (by decide)
theorem kx_s_275 : kx_sh (kx_pm ph sc sg lm) 275 = (101, 12) := kx_pm_shp (by decide) (by decide)
theorem kx_g_275 {k : Nat} : kx_dt (kx_pm ph sc sg lm) 275 k = .int (sg 275 k) := kx_pm_int (t := 101) (by decide) (by decide) rfl
theorem kx_p_275 {k : Nat} {x : Int32} : kx_put (kx_pm ph sc sg lm) 275 k (.int x) = kx_pm ph sc (kx_up sg 275 k x) lm := kx_pm_put (t := 101) (by decide) (by decide) rfl
theorem kx_s_276 : kx_sh (kx_pm ph sc sg lm) 276 = (0, 3) := kx_pm_shp (by decide) (by decide)
theorem kx_g_276_0 : kx_dt (kx_pm ph sc sg lm) 276 0 = .int (sg 276 0) := kx_pm_int (t := 0) (by decide) (by decide) (by decide)
theorem kx_p_276_0 {x : Int32} : kx_put (kx_pm ph sc sg lm) 276 0 (.int x) = kx_pm ph sc (kx_up sg 276 0 x) lm := kx_pm_put (t := 0) (by decide) (by decide) (by decide)
theorem kx_g_276_1 : kx_dt (kx_pm ph sc sg lm) 276 1 = .int (sg 276 1) := kx_pm_int (t := 0) (by decide) (by decide) (by decide)
theorem kx_p_276_1 {x : Int32} : kx_put (kx_pm ph sc sg lm) 276 1 (.int x) = kx_pm ph sc (kx_up sg 276 1 x) lm := kx_pm_put (t := 0) (by decide) (by decide) (by decide)
theorem kx_g_276_2 : kx_dt (kx_pm ph sc sg lm) 276 2 = .int (sg 276 2) := kx_pm_int (t := 0) (by decide) (by decide) (by decide)
theorem kx_p_276_2 {x : Int32} : kx_put (kx_pm ph sc sg lm) 276 2 (.int x) = kx_pm ph sc (kx_up sg 276 2 x) lm := kx_pm_put (t := 0) (by decide) (by decide) (by decide)
theorem kx_s_277 : kx_sh (kx_pm ph sc sg lm) 277 = (105, 12) := kx_pm_shp (by decide) (by decide)
theorem kx_g_277 {k : Nat} : kx_dt (kx_pm ph sc sg lm) 277 k = .int (sg 277 k) := kx_pm_int (t := 105) (by decide) (by decide) rfl
theorem kx_p_277 {k : Nat} {x : Int32} : kx_put (kx_pm ph sc sg lm) 277 k (.int x) = kx_pm ph sc (kx_up sg 277 k x) lm := kx_pm_put (t := 105) (by decide) (by decide) rfl
theorem kx_s_278 : kx_sh (kx_pm ph sc sg lm) 278 = (101, 12) := kx_pm_shp (by decide) (by decide)
theorem kx_g_278 {k : Nat} : kx_dt (kx_pm ph sc sg lm) 278 k = .int (sg 278 k) := kx_pm_int (t := 101) (by decide) (by decide) rfl
theorem kx_p_278 {k : Nat} {x : Int32} : kx_put (kx_pm ph sc sg lm) 278 k (.int x) = kx_pm ph sc (kx_up sg 278 k x) lm := kx_pm_put (t := 101) (by decide) (by decide) rfl
theorem kx_s_279 : kx_sh (kx_pm ph sc sg lm) 279 = (5, 5) := kx_pm_shp (by decide) (by decide)
theorem kx_g_279_0 : kx_dt (kx_pm ph sc sg lm) 279 0 = .ref 280 := kx_pm_ref (t := 5) (by decide) (by decide) ⟨by decide, by decide⟩ rfl
theorem kx_g_279_1 : kx_dt (kx_pm ph sc sg lm) 279 1 = .ref 282 := kx_pm_ref (t := 5) (by decide) (by decide) ⟨by decide, by decide⟩ rfl
theorem kx_g_279_2 : kx_dt (kx_pm ph sc sg lm) 279 2 = .int (sg 279 2) := kx_pm_int (t := 5) (by decide) (by decide) (by decide)
theorem kx_p_279_2 {x : Int32} : kx_put (kx_pm ph sc sg lm) 279 2 (.int x) = kx_pm ph sc (kx_up sg 279 2 x) lm := kx_pm_put (t := 5) (by decide) (by decide) (by decide)
theorem kx_g_279_3 : kx_dt (kx_pm ph sc sg lm) 279 3 = .int (sg 279 3) := kx_pm_int (t := 5) (by decide) (by decide) (by decide)
theorem kx_p_279_3 {x : Int32} : kx_put (kx_pm ph sc sg lm) 279 3 (.int x) = kx_pm ph sc (kx_up sg 279 3 x) lm := kx_pm_put (t := 5) (by decide) (by decide) (by decide)
theorem kx_g_279_4 : kx_dt (kx_pm ph sc sg lm) 279 4 = .int (sg 279 4) := kx_pm_int (t := 5) (by decide) (by decide) (by decide)
theorem kx_p_279_4 {x : Int32} : kx_put (kx_pm ph sc sg lm) 279 4 (.int x) = kx_pm ph sc (kx_up sg 279 4 x) lm := kx_pm_put (t := 5) (by decide) (by decide) (by decide)
theorem kx_s_280 : kx_sh (kx_pm ph sc sg lm) 280 = (11, 4) := kx_pm_shp (by decide) (by decide)
theorem kx_g_280_0 : kx_dt (kx_pm ph sc sg lm) 280 0 = .ref (kx_tb0 ph) := kx_pm_ref (t := 11) (by decide) (by decide) ⟨by decide, by decide⟩ rfl
theorem kx_g_280_1 : kx_dt (kx_pm ph sc sg lm) 280 1 = .int (sg 280 1) := kx_pm_int (t := 11) (by decide) (by decide) (by decide)
theorem kx_p_280_1 {x : Int32} : kx_put (kx_pm ph sc sg lm) 280 1 (.int x) = kx_pm ph sc (kx_up sg 280 1 x) lm := kx_pm_put (t := 11) (by decide) (by decide) (by decide)
theorem kx_g_280_2 : kx_dt (kx_pm ph sc sg lm) 280 2 = .int (sg 280 2) := kx_pm_int (t := 11) (by decide) (by decide) (by decide)
theorem kx_p_280_2 {x : Int32} : kx_put (kx_pm ph sc sg lm) 280 2 (.int x) = kx_pm ph sc (kx_up sg 280 2 x) lm := kx_pm_put (t := 11) (by decide) (by decide) (by decide)
theorem kx_g_280_3 : kx_dt (kx_pm ph sc sg lm) 280 3 = .int (sg 280 3) := kx_pm_int (t := 11) (by decide) (by decide) (by decide)
theorem kx_p_280_3 {x : Int32} : kx_put (kx_pm ph sc sg lm) 280 3 (.int x) = kx_pm ph sc (kx_up sg 280 3 x) lm := kx_pm_put (t := 11) (by decide) (by decide) (by decide)
theorem kx_s_281 : kx_sh (kx_pm ph sc sg lm) 281 = (103, 16) := kx_pm_shp (by decide) (by decide)
theorem kx_g_281 {k : Nat} : kx_dt (kx_pm ph sc sg lm) 281 k = .int (sg 281 k) := kx_pm_int (t := 103) (by decide) (by decide) rfl
theorem kx_p_281 {k : Nat} {x : Int32} : kx_put (kx_pm ph sc sg lm) 281 k (.int x) = kx_pm ph sc (kx_up sg 281 k x) lm := kx_pm_put (t := 103) (by decide) (by decide) rfl
theorem kx_s_282 : kx_sh (kx_pm ph sc sg lm) 282 = (113, 13) := kx_pm_shp (by decide) (by decide)
theorem kx_fr_282 : ∀ k, k < 13 → kx_PR ph 282 k = some (283 + k) := by
  intro k h
  match k, h with
  | 0, _ => rfl
  | 1, _ => rfl
  | 2, _ => rfl
  | 3, _ => rfl
  | 4, _ => rfl
  | 5, _ => rfl
  | 6, _ => rfl
  | 7, _ => rfl
  | 8, _ => rfl
  | 9, _ => rfl
  | 10, _ => rfl
  | 11, _ => rfl
  | 12, _ => rfl
  | k + 13, h => omega
theorem kx_g_282 {k : Nat} (h : k < 13) : kx_dt (kx_pm ph sc sg lm) 282 k = .ref (283 + k) := kx_pm_ref (t := 113) (by decide) (by decide) ⟨rfl, by decide⟩ (kx_fr_282 k h)
theorem kx_fs_or : ∀ k, k < 13 → (kx_SH (283 + k)) = (4, 3) := by decide
theorem kx_fi_or : ∀ j, j < 3 → kx_isn 4 j = true := by decide
theorem kx_s_or {k : Nat} (h : k < 13) : kx_sh (kx_pm ph sc sg lm) (283 + k) = (4, 3) := kx_pm_shp (by omega) (kx_fs_or k h)
theorem kx_g_or {k j : Nat} (h : k < 13) (hj : j < 3) : kx_dt (kx_pm ph sc sg lm) (283 + k) j = .int (sg (283 + k) j) := kx_pm_int (t := 4) (by omega) (by rw [kx_fs_or k h]) (kx_fi_or j hj)
theorem kx_p_or {k j : Nat} {x : Int32} (h : k < 13) (hj : j < 3) : kx_put (kx_pm ph sc sg lm) (283 + k) j (.int x) = kx_pm ph sc (kx_up sg (283 + k) j x) lm := kx_pm_put (t := 4) (by omega) (by rw [kx_fs_or k h]) (kx_fi_or j hj)
theorem kx_s_296 : kx_sh (kx_pm ph sc sg lm) 296 = (11, 4) := kx_pm_shp (by decide) (by decide)
theorem kx_g_296_0 : kx_dt (kx_pm ph sc sg lm) 296 0 = .ref 297 := kx_pm_ref (t := 11) (by decide) (by decide) ⟨by decide, by decide⟩ rfl
theorem kx_g_296_1 : kx_dt (kx_pm ph sc sg lm) 296 1 = .int (sg 296 1) := kx_pm_int (t := 11) (by decide) (by decide) (by decide)
theorem kx_p_296_1 {x : Int32} : kx_put (kx_pm ph sc sg lm) 296 1 (.int x) = kx_pm ph sc (kx_up sg 296 1 x) lm := kx_pm_put (t := 11) (by decide) (by decide) (by decide)
theorem kx_g_296_2 : kx_dt (kx_pm ph sc sg lm) 296 2 = .int (sg 296 2) := kx_pm_int (t := 11) (by decide) (by decide) (by decide)
theorem kx_p_296_2 {x : Int32} : kx_put (kx_pm ph sc sg lm) 296 2 (.int x) = kx_pm ph sc (kx_up sg 296 2 x) lm := kx_pm_put (t := 11) (by decide) (by decide) (by decide)
theorem kx_g_296_3 : kx_dt (kx_pm ph sc sg lm) 296 3 = .int (sg 296 3) := kx_pm_int (t := 11) (by decide) (by decide) (by decide)
theorem kx_p_296_3 {x : Int32} : kx_put (kx_pm ph sc sg lm) 296 3 (.int x) = kx_pm ph sc (kx_up sg 296 3 x) lm := kx_pm_put (t := 11) (by decide) (by decide) (by decide)
theorem kx_s_297 : kx_sh (kx_pm ph sc sg lm) 297 = (103, 16) := kx_pm_shp (by decide) (by decide)
theorem kx_g_297 {k : Nat} : kx_dt (kx_pm ph sc sg lm) 297 k = .int (sg 297 k) := kx_pm_int (t := 103) (by decide) (by decide) rfl
theorem kx_p_297 {k : Nat} {x : Int32} : kx_put (kx_pm ph sc sg lm) 297 k (.int x) = kx_pm ph sc (kx_up sg 297 k x) lm := kx_pm_put (t := 103) (by decide) (by decide) rfl
theorem kx_s_298 : kx_sh (kx_pm ph sc sg lm) 298 = (10, 21) := kx_pm_shp (by decide) (by decide)
theorem kx_g_298_0 : kx_dt (kx_pm ph sc sg lm) 298 0 = .ref 299 := kx_pm_ref (t := 10) (by decide) (by decide) ⟨by decide, by decide⟩ rfl
theorem kx_g_298_1 : kx_dt (kx_pm ph sc sg lm) 298 1 = .ref 300 := kx_pm_ref (t := 10) (by decide) (by decide) ⟨by decide, by decide⟩ rfl
theorem kx_g_298_2 : kx_dt (kx_pm ph sc sg lm) 298 2 = .ref 301 := kx_pm_ref (t := 10) (by decide) (by decide) ⟨by decide, by decide⟩ rfl
theorem kx_g_298_3 : kx_dt (kx_pm ph sc sg lm) 298 3 = .ref 302 := kx_pm_ref (t := 10) (by decide) (by decide) ⟨by decide, by decide⟩ rfl
theorem kx_g_298_4 : kx_dt (kx_pm ph sc sg lm) 298 4 = .ref 303 := kx_pm_ref (t := 10) (by decide) (by decide) ⟨by decide, by decide⟩ rfl
theorem kx_g_298_5 : kx_dt (kx_pm ph sc sg lm) 298 5 = .int (sg 298 5) := kx_pm_int (t := 10) (by decide) (by decide) (by decide)
theorem kx_p_298_5 {x : Int32} : kx_put (kx_pm ph sc sg lm) 298 5 (.int x) = kx_pm ph sc (kx_up sg 298 5 x) lm := kx_pm_put (t := 10) (by decide) (by decide) (by decide)
theorem kx_g_298_6 : kx_dt (kx_pm ph sc sg lm) 298 6 = .int (sg 298 6) := kx_pm_int (t := 10) (by decide) (by decide) (by decide)
theorem kx_p_298_6 {x : Int32} : kx_put (kx_pm ph sc sg lm) 298 6 (.int x) = kx_pm ph sc (kx_up sg 298 6 x) lm := kx_pm_put (t := 10) (by decide) (by decide) (by decide)
theorem kx_g_298_7 : kx_dt (kx_pm ph sc sg lm) 298 7 = .int (sg 298 7) := kx_pm_int (t := 10) (by decide) (by decide) (by decide)
theorem kx_p_298_7 {x : Int32} : kx_put (kx_pm ph sc sg lm) 298 7 (.int x) = kx_pm ph sc (kx_up sg 298 7 x) lm := kx_pm_put (t := 10) (by decide) (by decide) (by decide)
theorem kx_g_298_8 : kx_dt (kx_pm ph sc sg lm) 298 8 = .int (sg 298 8) := kx_pm_int (t := 10) (by decide) (by decide) (by decide)
theorem kx_p_298_8 {x : Int32} : kx_put (kx_pm ph sc sg lm) 298 8 (.int x) = kx_pm ph sc (kx_up sg 298 8 x) lm := kx_pm_put (t := 10) (by decide) (by decide) (by decide)
theorem kx_g_298_9 : kx_dt (kx_pm ph sc sg lm) 298 9 = .int (sg 298 9) := kx_pm_int (t := 10) (by decide) (by decide) (by decide)
theorem kx_p_298_9 {x : Int32} : kx_put (kx_pm ph sc sg lm) 298 9 (.int x) = kx_pm ph sc (kx_up sg 298 9 x) lm := kx_pm_put (t := 10) (by decide) (by decide) (by decide)
theorem kx_g_298_10 : kx_dt (kx_pm ph sc sg lm) 298 10 = .ref 304 := kx_pm_ref (t := 10) (by decide) (by decide) ⟨by decide, by decide⟩ rfl
theorem kx_g_298_11 : kx_dt (kx_pm ph sc sg lm) 298 11 = .int (sg 298 11) := kx_pm_int (t := 10) (by decide) (by decide) (by decide)
theorem kx_p_298_11 {x : Int32} : kx_put (kx_pm ph sc sg lm) 298 11 (.int x) = kx_pm ph sc (kx_up sg 298 11 x) lm := kx_pm_put (t := 10) (by decide) (by decide) (by decide)
theorem kx_g_298_12 : kx_dt (kx_pm ph sc sg lm) 298 12 = .ref 305 := kx_pm_ref (t := 10) (by decide) (by decide) ⟨by decide, by decide⟩ rfl
theorem kx_g_298_13 : kx_dt (kx_pm ph sc sg lm) 298 13 = .int (sg 298 13) := kx_pm_int (t := 10) (by decide) (by decide) (by decide)
theorem kx_p_298_13 {x : Int32} : kx_put (kx_pm ph sc sg lm) 298 13 (.int x) = kx_pm ph sc (kx_up sg 298 13 x) lm := kx_pm_put (t := 10) (by decide) (by decide) (by decide)
theorem kx_g_298_14 : kx_dt (kx_pm ph sc sg lm) 298 14 = .ref 306 := kx_pm_ref (t := 10) (by decide) (by decide) ⟨by decide, by decide⟩ rfl
theorem kx_g_298_15 : kx_dt (kx_pm ph sc sg lm) 298 15 = .ref 307 := kx_pm_ref (t := 10) (by decide) (by decide) ⟨by decide, by decide⟩ rfl
theorem kx_g_298_16 : kx_dt (kx_pm ph sc sg lm) 298 16 = .ref 308 := kx_pm_ref (t := 10) (by decide) (by decide) ⟨by decide, by decide⟩ rfl
theorem kx_g_298_17 : kx_dt (kx_pm ph sc sg lm) 298 17 = .ref 309 := kx_pm_ref (t := 10) (by decide) (by decide) ⟨by decide, by decide⟩ rfl
theorem kx_g_298_18 : kx_dt (kx_pm ph sc sg lm) 298 18 = .int (sg 298 18) := kx_pm_int (t := 10) (by decide) (by decide) (by decide)
theorem kx_p_298_18 {x : Int32} : kx_put (kx_pm ph sc sg lm) 298 18 (.int x) = kx_pm ph sc (kx_up sg 298 18 x) lm := kx_pm_put (t := 10) (by decide) (by decide) (by decide)
theorem kx_g_298_19 : kx_dt (kx_pm ph sc sg lm) 298 19 = .ref 310 := kx_pm_ref (t := 10) (by decide) (by decide) ⟨by decide, by decide⟩ rfl
theorem kx_g_298_20 : kx_dt (kx_pm ph sc sg lm) 298 20 = .int (sg 298 20) := kx_pm_int (t := 10) (by decide) (by decide) (by decide)
theorem kx_p_298_20 {x : Int32} : kx_put (kx_pm ph sc sg lm) 298 20 (.int x) = kx_pm ph sc (kx_up sg 298 20 x) lm := kx_pm_put (t := 10) (by decide) (by decide) (by decide)
theorem kx_s_299 : kx_sh (kx_pm ph sc sg lm) 299 = (101, 167) := kx_pm_shp (by decide) (by decide)
theorem kx_g_299 {k : Nat} : kx_dt (kx_pm ph sc sg lm) 299 k = .int (sg 299 k) := kx_pm_int (t := 101) (by decide) (by decide) rfl
theorem kx_p_299 {k : Nat} {x : Int32} : kx_put (kx_pm ph sc sg lm) 299 k (.int x) = kx_pm ph sc (kx_up sg 299 k x) lm := kx_pm_put (t := 101) (by decide) (by decide) rfl
theorem kx_s_300 : kx_sh (kx_pm ph sc sg lm) 300 = (101, 1336) := kx_pm_shp (by decide) (by decide)
theorem kx_g_300 {k : Nat} : kx_dt (kx_pm ph sc sg lm) 300 k = .int (sg 300 k) := kx_pm_int (t := 101) (by decide) (by decide) rfl
theorem kx_p_300 {k : Nat} {x : Int32} : kx_put (kx_pm ph sc sg lm) 300 k (.int x) = kx_pm ph sc (kx_up sg 300 k x) lm := kx_pm_put (t := 101) (by decide) (by decide) rfl
theorem kx_s_301 : kx_sh (kx_pm ph sc sg lm) 301 = (101, 167) := kx_pm_shp (by decide) (by decide)
theorem kx_g_301 {k : Nat} : kx_dt (kx_pm ph sc sg lm) 301 k = .int (sg 301 k) := kx_pm_int (t := 101) (by decide) (by decide) rfl
theorem kx_p_301 {k : Nat} {x : Int32} : kx_put (kx_pm ph sc sg lm) 301 k (.int x) = kx_pm ph sc (kx_up sg 301 k x) lm := kx_pm_put (t := 101) (by decide) (by decide) rfl
theorem kx_s_302 : kx_sh (kx_pm ph sc sg lm) 302 = (101, 167) := kx_pm_shp (by decide) (by decide)
theorem kx_g_302 {k : Nat} : kx_dt (kx_pm ph sc sg lm) 302 k = .int (sg 302 k) := kx_pm_int (t := 101) (by decide) (by decide) rfl
theorem kx_p_302 {k : Nat} {x : Int32} : kx_put (kx_pm ph sc sg lm) 302 k (.int x) = kx_pm ph sc (kx_up sg 302 k x) lm := kx_pm_put (t := 101) (by decide) (by decide) rfl
theorem kx_s_303 : kx_sh (kx_pm ph sc sg lm) 303 = (101, 167) := kx_pm_shp (by decide) (by decide)
theorem kx_g_303 {k : Nat} : kx_dt (kx_pm ph sc sg lm) 303 k = .int (sg 303 k) := kx_pm_int (t := 101) (by decide) (by decide) rfl
theorem kx_p_303 {k : Nat} {x : Int32} : kx_put (kx_pm ph sc sg lm) 303 k (.int x) = kx_pm ph sc (kx_up sg 303 k x) lm := kx_pm_put (t := 101) (by decide) (by decide) rfl
theorem kx_s_304 : kx_sh (kx_pm ph sc sg lm) 304 = (101, 60) := kx_pm_shp (by decide) (by decide)
theorem kx_g_304 {k : Nat} : kx_dt (kx_pm ph sc sg lm) 304 k = .int (sg 304 k) := kx_pm_int (t := 101) (by decide) (by decide) rfl
theorem kx_p_304 {k : Nat} {x : Int32} : kx_put (kx_pm ph sc sg lm) 304 k (.int x) = kx_pm ph sc (kx_up sg 304 k x) lm := kx_pm_put (t := 101) (by decide) (by decide) rfl
theorem kx_s_305 : kx_sh (kx_pm ph sc sg lm) 305 = (104, 40) := kx_pm_shp (by decide) (by decide)
theorem kx_g_305 {k : Nat} : kx_dt (kx_pm ph sc sg lm) 305 k = .int (sg 305 k) := kx_pm_int (t := 104) (by decide) (by decide) rfl
theorem kx_p_305 {k : Nat} {x : Int32} : kx_put (kx_pm ph sc sg lm) 305 k (.int x) = kx_pm ph sc (kx_up sg 305 k x) lm := kx_pm_put (t := 104) (by decide) (by decide) rfl
theorem kx_s_306 : kx_sh (kx_pm ph sc sg lm) 306 = (101, 37) := kx_pm_shp (by decide) (by decide)
theorem kx_g_306 {k : Nat} : kx_dt (kx_pm ph sc sg lm) 306 k = .int (sg 306 k) := kx_pm_int (t := 101) (by decide) (by decide) rfl
theorem kx_p_306 {k : Nat} {x : Int32} : kx_put (kx_pm ph sc sg lm) 306 k (.int x) = kx_pm ph sc (kx_up sg 306 k x) lm := kx_pm_put (t := 101) (by decide) (by decide) rfl
theorem kx_s_307 : kx_sh (kx_pm ph sc sg lm) 307 = (101, 12) := kx_pm_shp (by decide) (by decide)
theorem kx_g_307 {k : Nat} : kx_dt (kx_pm ph sc sg lm) 307 k = .int (sg 307 k) := kx_pm_int (t := 101) (by decide) (by decide) rfl
theorem kx_p_307 {k : Nat} {x : Int32} : kx_put (kx_pm ph sc sg lm) 307 k (.int x) = kx_pm ph sc (kx_up sg 307 k x) lm := kx_pm_put (t := 101) (by decide) (by decide) rfl
theorem kx_s_308 : kx_sh (kx_pm ph sc sg lm) 308 = (101, 12) := kx_pm_shp (by decide) (by decide)
theorem kx_g_308 {k : Nat} : kx_dt (kx_pm ph sc sg lm) 308 k = .int (sg 308 k) := kx_pm_int (t := 101) (by decide) (by decide) rfl
theorem kx_p_308 {k : Nat} {x : Int32} : kx_put (kx_pm ph sc sg lm) 308 k (.int x) = kx_pm ph sc (kx_up sg 308 k x) lm := kx_pm_put (t := 101) (by decide) (by decide) rfl
theorem kx_s_309 : kx_sh (kx_pm ph sc sg lm) 309 = (101, 144) := kx_pm_shp (by decide) (by decide)
theorem kx_g_309 {k : Nat} : kx_dt (kx_pm ph sc sg lm) 309 k = .int (sg 309 k) := kx_pm_int (t := 101) (by decide) (by decide) rfl
theorem kx_p_309 {k : Nat} {x : Int32} : kx_put (kx_pm ph sc sg lm) 309 k (.int x) = kx_pm ph sc (kx_up sg 309 k x) lm := kx_pm_put (t := 101) (by decide) (by decide) rfl
theorem kx_s_310 : kx_sh (kx_pm ph sc sg lm) 310 = (101, 96) := kx_pm_shp (by decide) (by decide)
theorem kx_g_310 {k : Nat} : kx_dt (kx_pm ph sc sg lm) 310 k = .int (sg 310 k) := kx_pm_int (t := 101) (by decide) (by decide) rfl
theorem kx_p_310 {k : Nat} {x : Int32} : kx_put (kx_pm ph sc sg lm) 310 k (.int x) = kx_pm ph sc (kx_up sg 310 k x) lm := kx_pm_put (t := 101) (by decide) (by decide) rfl
end KxPm
