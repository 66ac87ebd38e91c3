/-! runs that touch no memory: one run for all memories -/
def kx_Mz : kx_M := kx_M0 0 (fun _ => 0)
def kx_sw (M : kx_M) : kx_A → kx_A
  | .inl (pc, L, st, _) => .inl (pc, L, st, M)
  | .inr (.inl (j, As, (pc, L, st, _))) => .inr (.inl (j, As, (pc, L, st, M)))
  | .inr (.inr (v, _)) => .inr (.inr (v, M))
def kx_pu (I : Instr) (st : List Value) : Bool := match I with
  | .iload _ | .iload_n _ | .istore _ | .istore_n _ | .lload _ | .lload_n _ | .lstore _ | .lstore_n _ | .iconst _ | .bipush _ | .sipush _ | .lconst _ => true
  | .iadd | .isub | .imul | .idiv | .irem | .ishl | .ishr | .iand | .ior | .ineg | .lshl | .lshr | .land | .lor | .lcmp | .dup | .pop => true
  | .iinc _ _ | .goto _ | .ifCond _ _ | .if_icmp _ _ | .tableswitch _ _ _ _ | .lookupswitch _ _ | .getstatic _ | .invokestatic _ | .ireturn | .lreturn => true
  | .iaload | .baload => (match st with
    | .int _ :: .retAddr c :: _ => !(Nat.beq c 1)
    | _ => false)
  | _ => false
theorem kx_pu_inv {fr lo pc : Nat} {L : kx_L} {st : List Value} {M : kx_M} {q : Nat × Nat × Nat × Nat} {A : kx_A} (h : kx_inv fr lo pc L st kx_Mz q (fun k => Nat.beq k 4) = some A) : kx_inv fr lo pc L st M q (fun k => Nat.beq k 4) = some (kx_sw M A) := by
  unfold kx_inv at h ⊢
  split at h
  · cases h
  · dsimp only at h ⊢
    split at h
    · cases h
    · next hc =>
      rw [if_neg hc]
      have h4 : q.1 = 4 := by
        have : Nat.beq q.1 4 = true := by
          cases hb : Nat.beq q.1 4 with
          | true => rfl
          | false => exact absurd (Or.inl hb) hc
        exact Nat.eq_of_beq_eq_true this
      rw [if_pos h4] at h ⊢
      obtain ⟨h1, h⟩ := kx_ite_some h
      rw [if_pos h1]
      cases h
      rfl
theorem kx_pu_rs {M : kx_M} {c : Nat} (h : Nat.beq c 1 = false) : kx_rs M (.retAddr c) = kx_rs kx_Mz (.retAddr c) ∧ ∀ k, kx_rd M (.retAddr c) k = kx_rd kx_Mz (.retAddr c) k := by
  have h1 : c ≠ 1 := fun z => by rw [z] at h; cases h
  refine ⟨?_, fun k => ?_⟩
  · simp [kx_rs, h1]
  · simp [kx_rd, h1]
section KxPu
variable {mk : List Nat} {o : Nat} {rt : Option FieldType} {fr lo pc : Nat} {init : Bool} {L : kx_L} {st : List Value} {M : kx_M} {I : Instr}
theorem kx_pu_exe {A : kx_A} (hp : kx_pu I st = true) (h : kx_exe mk o rt fr lo init pc L st kx_Mz I = some A) : kx_exe mk o rt fr lo init pc L st M I = some (kx_sw M A) := by
  cases I
  case invokestatic n =>
    simp only [kx_exe] at h ⊢
    split at h
    next q hq =>
      by_cases h10 : q.1 = 10
      · exfalso
        rw [if_pos h10] at h
        unfold kx_acopy at h
        split at h
        · obtain ⟨h1, h⟩ := kx_ite_some h
          have := h1.2.2.2.2.2.1
          exact absurd (show (99 : Nat) = 103 from this) (by decide)
        · cases h
      · rw [if_neg h10] at h ⊢
        by_cases h20 : 20 ≤ q.1 ∧ q.1 ≤ 22
        · rw [if_pos h20] at h ⊢
          simp only [kx_math, kx_to] at h ⊢
          split at h
          · split at h
            next h22 =>
              obtain ⟨h1, h⟩ := kx_ite_some h
              cases h
              rw [if_pos h22, if_pos h1]
              rfl
            next h22 =>
              obtain ⟨h1, h⟩ := kx_ite_some h
              cases h
              rw [if_neg h22, if_pos h1]
              rfl
          · obtain ⟨h1, h⟩ := kx_ite_some h
            cases h
            rw [if_pos h1]
            rfl
          · cases h
        · rw [if_neg h20] at h ⊢
          exact kx_pu_inv h
    next => cases h
  case iaload =>
    simp only [kx_pu] at hp
    split at hp
    next x c r =>
      have hc : Nat.beq c 1 = false := by simpa using hp
      simp only [kx_exe, kx_to] at h ⊢
      obtain ⟨h1, h⟩ := kx_ite_some h
      cases h
      rw [(kx_pu_rs (M := M) hc).1, if_pos h1, (kx_pu_rs (M := M) hc).2]
      rfl
    next => cases hp
  case baload =>
    simp only [kx_pu] at hp
    split at hp
    next x c r =>
      have hc : Nat.beq c 1 = false := by simpa using hp
      simp only [kx_exe, kx_to] at h ⊢
      obtain ⟨h1, h⟩ := kx_ite_some h
      cases h
      rw [(kx_pu_rs (M := M) hc).1, if_pos h1, (kx_pu_rs (M := M) hc).2]
      rfl
    next => cases hp
  case ireturn =>
    simp only [kx_exe, kx_ret1] at h ⊢
    split at h
    next x ty =>
      obtain ⟨hn, h⟩ := kx_ite_some h
      cases h
      rw [if_pos hn]
      rfl
    next => cases h
  case lreturn =>
    simp only [kx_exe] at h ⊢
    split at h
    next x =>
      obtain ⟨hn, h⟩ := kx_ite_some h
      cases h
      rw [if_pos hn]
      rfl
    next => cases h
  all_goals first
    | (cases hp; done)
    | (cases h; done)
    | (simp only [kx_exe, kx_ldi, kx_ldl, kx_s1, kx_s2, kx_bin, kx_un, kx_binl, kx_shl, kx_to] at h ⊢
       (repeat' split at h) <;> first
        | (cases h; done)
        | (cases h; rfl)
        | (cases h; simp_all [kx_sw]))
end KxPu
def kx_actP (i pc : Nat) (L : kx_L) (st : List Value) : Option kx_A := match kx_meth i with
  | none => none
  | some r => match kx_ix r.2.2.2.2.1 pc with
    | none => none
    | some I => if kx_pu I.1 st = true then kx_exe r.2.2.2.2.2.2.2.2 r.2.2.2.2.2.1 r.2.2.2.1 r.2.2.2.2.2.2.1 r.2.2.2.2.2.2.2.1 (r.1.name == "<init>") pc L st kx_Mz I.1 else none
theorem kx_actP_ok {i pc : Nat} {L : kx_L} {st : List Value} {A : kx_A} (M : kx_M) (h : kx_actP i pc L st = some A) : kx_act i pc L st M = some (kx_sw M A) := by
  unfold kx_actP at h
  unfold kx_act
  split at h
  next => cases h
  next r hr =>
  split at h
  next => cases h
  next I hI =>
  obtain ⟨hp, h⟩ := kx_ite_some h
  simp only [hr, hI]
  exact kx_pu_exe hp h
def kx_enP (j : Nat) (As : List Value) : Nat × kx_L × List Value := (0, kx_ent (match kx_meth j with | some r => r.2.2.1 | none => 0) As, [])
def kx_runP : Nat → Nat → Nat × kx_L × List Value → Option (Option Value)
  | 0, _, _ => none
  | n + 1, i, c => match kx_actP i c.1 c.2.1 c.2.2 with
    | none => none
    | some (.inl c') => kx_runP n i (c'.1, c'.2.1, c'.2.2.1)
    | some (.inr (.inl q)) => (match kx_runP n q.1 (kx_enP q.1 q.2.1) with
      | none => none
      | some v => kx_runP n i (q.2.2.1, q.2.2.2.1, v.toList ++ q.2.2.2.2.1))
    | some (.inr (.inr r)) => some r.1
theorem kx_runP_ok (M : kx_M) : ∀ (n i pc : Nat) (L : kx_L) (st : List Value) (v : Option Value), kx_runP n i (pc, L, st) = some v → kx_run n i (pc, L, st, M) = some (v, M) := by
  intro n
  induction n with
  | zero => intro i pc L st v h; cases h
  | succ n ih =>
    intro i pc L st v h
    rw [kx_runP] at h
    rw [kx_run]
    dsimp only at h ⊢
    cases ha : kx_actP i pc L st with
    | none => rw [ha] at h; cases h
    | some A =>
      rw [ha] at h
      rw [kx_actP_ok M ha]
      rcases A with ⟨pc', L', st', M1⟩ | ⟨j, As, pc', L', rest, M1⟩ | ⟨v1, M1⟩
      · exact ih _ _ _ _ _ h
      · dsimp only [kx_sw] at h ⊢
        cases hr : kx_runP n j (kx_enP j As) with
        | none => rw [hr] at h; cases h
        | some v1 =>
          rw [hr] at h
          have h1 := ih _ _ _ _ _ hr
          have h2 : kx_run n j (kx_en j As M) = some (v1, M) := h1
          rw [h2]
          exact ih _ _ _ _ _ h
      · cases h
        rfl
theorem kx_callP {n j : Nat} {As : List Value} {v : Option Value} (h : kx_runP n j (kx_enP j As) = some v) (M : kx_M) : kx_call j As M = some (v, M) := kx_D_of (n := n) (kx_runP_ok M n j _ _ _ v h)
