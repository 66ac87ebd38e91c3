/-! ends of methods, calls and the whole of a run: what the engine comes to, the machine comes to -/
theorem kx_inv_A {fr lo pc : Nat} {L : kx_L} {st : List Value} {M : kx_M} {q : Nat × Nat × Nat × Nat} {ok : Nat → Bool} {A : kx_A} (h : kx_inv fr lo pc L st M q ok = some A) : ∃ j As L' rest, A = .inr (.inl (j, As, (pc + 3, L', rest, M))) := by
  unfold kx_inv at h
  split at h
  · cases h
  · dsimp only at h
    split at h
    · cases h
    · split at h
      · obtain ⟨-, h⟩ := kx_ite_some h
        cases h
        exact ⟨_, _, _, _, rfl⟩
      · split at h
        · obtain ⟨-, h⟩ := kx_ite_some h
          cases h
          exact ⟨_, _, _, _, rfl⟩
        · cases h
def kx_okA (o : Nat) (rt : Option FieldType) (fr lo pc : Nat) (L : kx_L) (st : List Value) (M : kx_M) (I : Instr) : kx_A → Prop
  | .inl c => kx_nx M ≤ kx_nx c.2.2.2 ∧ kx_sl M ≤ kx_sl c.2.2.2
  | .inr (.inl q) => ∃ n qq ok, (I = .invokevirtual n ∧ (∀ k, ok k = true → k = 3 ∨ k = 9) ∨ I = .invokestatic n ∧ (∀ k, ok k = true → k = 4) ∨ I = .invokespecial n ∧ (∀ k, ok k = true → k = 5 ∨ k = 6 ∨ k = 8)) ∧ kx_look kx_calT o n = some qq ∧ kx_inv fr lo pc L st M qq ok = some (.inr (.inl q))
  | .inr (.inr r) => r.2 = M ∧ ((I = .ireturn ∧ ∃ x ty, st = [.int x] ∧ rt = some ty ∧ narrow ty (.int x) = .int x ∧ r.1 = some (.int x)) ∨ (I = .lreturn ∧ ∃ x, st = [.long x] ∧ rt = some .long ∧ r.1 = some (.long x)) ∨ (I = .dreturn ∧ ∃ x, st = [.double x] ∧ rt = some .double ∧ r.1 = some (.double x)) ∨ (I = .freturn ∧ ∃ x, st = [.float x] ∧ rt = some .float ∧ r.1 = some (.float x)) ∨ (I = .areturn ∧ ∃ x ty, st = [.ref x] ∧ rt = some ty ∧ ((∃ n, ty = .object n) ∨ ∃ t, ty = .array t) ∧ r.1 = some (.ref x)) ∨ (I = .return_ ∧ st = [] ∧ rt = none ∧ r.1 = none))
section KxOkA
variable {mk : List Nat} {o : Nat} {rt : Option FieldType} {fr lo pc : Nat} {init : Bool} {L : kx_L} {st : List Value} {M : kx_M} {I : Instr}
theorem kx_okA_le {pc' : Nat} {L' : kx_L} {st' : List Value} {M' : kx_M} (h1 : kx_nx M ≤ kx_nx M') (h2 : kx_sl M ≤ kx_sl M') : kx_okA o rt fr lo pc L st M I (.inl (pc', L', st', M')) := ⟨h1, h2⟩
theorem kx_okA_call {n : Nat} {q : Nat × Nat × Nat × Nat} {ok : Nat → Bool} {A : kx_A} (hI : I = .invokevirtual n ∧ (∀ k, ok k = true → k = 3 ∨ k = 9) ∨ I = .invokestatic n ∧ (∀ k, ok k = true → k = 4) ∨ I = .invokespecial n ∧ (∀ k, ok k = true → k = 5 ∨ k = 6 ∨ k = 8)) (hq : kx_look kx_calT o n = some q) (h : kx_inv fr lo pc L st M q ok = some A) : kx_okA o rt fr lo pc L st M I A := by
  obtain ⟨j, As, L', rest, rfl⟩ := kx_inv_A h
  exact ⟨n, q, ok, hI, hq, h⟩
theorem kx_exe_A {A : kx_A} (h : kx_exe mk o rt fr lo init pc L st M I = some A) : kx_okA o rt fr lo pc L st M I A := by
  cases I
  case invokevirtual n =>
    simp only [kx_exe] at h
    split at h
    next q hq => exact kx_okA_call (Or.inl ⟨rfl, fun k hk => by simpa using hk⟩) hq h
    next => cases h
  case invokestatic n =>
    simp only [kx_exe] at h
    split at h
    next q hq =>
      by_cases h10 : q.1 = 10
      · rw [if_pos h10] at h
        unfold kx_acopy at h
        split at h
        · obtain ⟨-, h⟩ := kx_ite_some h
          cases h
          exact kx_okA_le (Nat.le_refl _) (Nat.le_refl _)
        · cases h
      · rw [if_neg h10] at h
        by_cases h20 : 20 ≤ q.1 ∧ q.1 ≤ 22
        · rw [if_pos h20] at h
          simp only [kx_math, kx_to] at h
          split at h
          · split at h
            · obtain ⟨-, h⟩ := kx_ite_some h
              cases h
              exact kx_okA_le (Nat.le_refl _) (Nat.le_refl _)
            · obtain ⟨-, h⟩ := kx_ite_some h
              cases h
              exact kx_okA_le (Nat.le_refl _) (Nat.le_refl _)
          · obtain ⟨-, h⟩ := kx_ite_some h
            cases h
            exact kx_okA_le (Nat.le_refl _) (Nat.le_refl _)
          · cases h
        · rw [if_neg h20] at h
          exact kx_okA_call (Or.inr (Or.inl ⟨rfl, fun k hk => by simpa using hk⟩)) hq h
    next => cases h
  case invokespecial n =>
    simp only [kx_exe] at h
    split at h
    next q hq =>
      by_cases h7 : q.1 = 7
      · rw [if_pos h7] at h
        split at h
        · obtain ⟨-, h⟩ := kx_ite_some h
          cases h
          exact kx_okA_le (Nat.le_refl _) (Nat.le_refl _)
        · cases h
      · rw [if_neg h7] at h
        exact kx_okA_call (Or.inr (Or.inr ⟨rfl, fun k hk => by simpa [or_assoc] using hk⟩)) hq h
    next => cases h
  case ireturn =>
    simp only [kx_exe, kx_ret1] at h
    split at h
    next x ty =>
      obtain ⟨hn, h⟩ := kx_ite_some h
      cases h
      exact ⟨rfl, Or.inl ⟨rfl, x, ty, rfl, rfl, hn, rfl⟩⟩
    next => cases h
  case lreturn =>
    simp only [kx_exe] at h
    split at h
    next x =>
      obtain ⟨hn, h⟩ := kx_ite_some h
      cases h
      exact ⟨rfl, Or.inr (Or.inl ⟨rfl, x, rfl, hn, rfl⟩)⟩
    next => cases h
  case dreturn =>
    simp only [kx_exe] at h
    split at h
    next x =>
      obtain ⟨hn, h⟩ := kx_ite_some h
      cases h
      exact ⟨rfl, Or.inr (Or.inr (Or.inl ⟨rfl, x, rfl, hn, rfl⟩))⟩
    next => cases h
  case freturn =>
    simp only [kx_exe] at h
    split at h
    next x =>
      obtain ⟨hn, h⟩ := kx_ite_some h
      cases h
      exact ⟨rfl, Or.inr (Or.inr (Or.inr (Or.inl ⟨rfl, x, rfl, hn, rfl⟩)))⟩
    next => cases h
  case areturn =>
    simp only [kx_exe] at h
    split at h
    next x n =>
      cases h
      exact ⟨rfl, Or.inr (Or.inr (Or.inr (Or.inr (Or.inl ⟨rfl, x, _, rfl, rfl, Or.inl ⟨_, rfl⟩, rfl⟩))))⟩
    next x n =>
      cases h
      exact ⟨rfl, Or.inr (Or.inr (Or.inr (Or.inr (Or.inl ⟨rfl, x, _, rfl, rfl, Or.inr ⟨_, rfl⟩, rfl⟩))))⟩
    next => cases h
  case return_ =>
    simp only [kx_exe] at h
    split at h
    next =>
      obtain ⟨hn, h⟩ := kx_ite_some h
      cases h
      exact ⟨rfl, Or.inr (Or.inr (Or.inr (Or.inr (Or.inr ⟨rfl, rfl, hn, rfl⟩))))⟩
    next => cases h
  all_goals first
    | (cases h; done)
    | (simp only [kx_exe, kx_lda, kx_ldi, kx_ldl, kx_ldd, kx_s1, kx_s2, kx_bin, kx_un, kx_binl, kx_shl, kx_dup2, kx_own, kx_to] at h
       (repeat' split at h) <;> first
        | (cases h; done)
        | (cases h; exact kx_okA_le (Nat.le_refl _) (Nat.le_refl _))
        | (cases h; exact kx_okA_le (Nat.le_succ _) (Nat.le_add_right _ _)))
end KxOkA
theorem kx_args_len (cst : Nat → Value) (h3 : ∀ c, cst c = .null ∨ ∃ t, cst c = .ref t) (sz : Nat) : ∀ As : List Value, (lg_sl (As.map (kx_v cst sz))).length = (kx_args As).length
  | [] => rfl
  | v :: t => by
    have ih := kx_args_len cst h3 sz t
    have hc := kx_v_cat (cst := cst) (sz := sz) (h3 := h3) v
    unfold lg_sl at ih ⊢
    rw [List.map_cons, List.flatMap_cons, List.length_append, ih, hc]
    cases v <;> simp [kx_args, Value.category] <;> omega
theorem kx_args_at (cst : Nat → Value) (h3 : ∀ c, cst c = .null ∨ ∃ t, cst c = .ref t) (sz : Nat) : ∀ (As : List Value) (k i : Nat) (v : Value), (kx_args As)[i]? = some (some v) → (k + i, kx_v cst sz v) ∈ lv_args k (As.map (kx_v cst sz))
  | [], k, i, v, h => by simp [kx_args] at h
  | w :: t, k, i, v, h => by
    have ih := kx_args_at cst h3 sz t
    have hc := kx_v_cat (cst := cst) (sz := sz) (h3 := h3) w
    rw [List.map_cons, lv_args, hc]
    by_cases h2 : w.category = 2
    · rw [if_pos h2]
      have e : kx_args (w :: t) = some w :: none :: kx_args t := by cases w <;> first | rfl | (simp [Value.category] at h2)
      rw [e] at h
      match i, h with
      | 0, h =>
        cases h
        exact List.mem_cons_self
      | 1, h => cases h
      | i + 2, h =>
        have := ih (k + 2) i v h
        rw [show k + (i + 2) = k + 2 + i by omega]
        exact List.mem_cons_of_mem _ this
    · rw [if_neg h2]
      have e : kx_args (w :: t) = some w :: kx_args t := by cases w <;> first | rfl | exact absurd rfl h2
      rw [e] at h
      match i, h with
      | 0, h =>
        cases h
        exact List.mem_cons_self
      | i + 1, h =>
        have := ih (k + 1) i v h
        rw [show k + (i + 1) = k + 1 + i by omega]
        exact List.mem_cons_of_mem _ this
theorem kx_mko_at {mk : List Nat} : ∀ (l : kx_L) (k i : Nat) (v : Value), kx_mko mk k l = true → l[i]? = some (some v) → v.category = 2 → k + i + 1 ∈ mk
  | [], k, i, v, _, h, _ => by simp at h
  | some w :: t, k, i, v, hm, h, h2 => by
    rw [kx_mko, Bool.and_eq_true] at hm
    match i, h with
    | 0, h =>
      cases h
      rcases Bool.or_eq_true _ _ ▸ hm.1 with h1 | h1
      · have := Nat.eq_of_beq_eq_true h1
        omega
      · simpa using h1
    | i + 1, h =>
      have := kx_mko_at t (k + 1) i v hm.2 h h2
      rw [show k + (i + 1) + 1 = k + 1 + i + 1 by omega]
      exact this
  | none :: t, k, i, v, hm, h, h2 => by
    rw [kx_mko] at hm
    match i, h with
    | 0, h => cases h
    | i + 1, h =>
      have := kx_mko_at t (k + 1) i v hm h h2
      rw [show k + (i + 1) + 1 = k + 1 + i + 1 by omega]
      exact this
theorem kx_ent_LR {cst : Nat → Value} (h3 : ∀ c, cst c = .null ∨ ∃ t, cst c = .ref t) {sz : Nat} {r : kx_R} {As : List Value} (hf : kx_fits r As = true) : kx_LR cst sz r.2.2.2.2.2.2.2.2 r.2.2.1 ((lg_sl (As.map (kx_v cst sz)) ++ List.replicate (r.2.2.1 - (lg_sl (As.map (kx_v cst sz))).length) Slot.unset).toArray) (kx_ent r.2.2.1 As) := by
  unfold kx_fits at hf
  rw [Bool.and_eq_true] at hf
  have hle : (kx_args As).length ≤ r.2.2.1 := Nat.le_of_ble_eq_true hf.1
  have he := lv_entry (As.map (kx_v cst sz)) (n := r.2.2.1) (by rw [kx_args_len cst h3 sz]; exact hle)
  refine ⟨by unfold kx_ent; rw [List.length_append, List.length_replicate]; omega, he.1, he.2.1, fun i v hi => ?_⟩
  have hi2 : (kx_args As)[i]? = some (some v) := by
    unfold kx_ent at hi
    by_cases hlt : i < (kx_args As).length
    · rwa [List.getElem?_append_left hlt] at hi
    · rw [List.getElem?_append_right (by omega), List.getElem?_replicate] at hi
      split at hi <;> cases hi
  refine ⟨?_, fun h2 => ?_⟩
  · have := he.2.2 _ (kx_args_at cst h3 sz As 0 i v hi2)
    simpa using this
  · have := kx_mko_at _ 0 i v hf.2 hi2 h2
    simpa using this
section KxEnd
variable {D : va_G} {cst : Nat → Value} {sz : Nat} {cA : Nat → ClassId} {H0 : Heap} {sL : Nat} {sX : Nat → Int32} {p : Program} {l : Launch} {e : Env} {R : Room} {s : State} {m : MethodId} {args : Array Value} {below : List Frame} {meth : Method} {c : Code} {r : kx_R} {n0 s0 : Nat} {Q : State → Prop} {pc : Nat} {L : kx_L} {st : List Value} {M : kx_M}
/-- the end that the machine comes to with the engine's v and M' -/
def kx_MQ (D : va_G) (cst : Nat → Value) (sz : Nat) (cA : Nat → ClassId) (H0 : Heap) (sL : Nat) (sX : Nat → Int32) (below : List Frame) (args : Array Value) (s : State) (n0 s0 : Nat) (v : Option Value) (M' : kx_M) : State → Prop := MQ below (kx_Qc D cst sz cA H0 sL sX v M') args s (kx_nx M' - n0) (kx_sl M' - s0) (fun q => sz ≤ q)
theorem kx_endW (X : kx_Cx D cst sz cA H0 sL sX p R s m args meth c r) {I : Instr} {len : Nat} (hix : kx_ix r.2.2.2.2.1 pc = some (I, len)) {o : Nat} {fr lo : Nat} {v : Option Value} {M' : kx_M} (h : kx_okA o r.2.2.2.1 fr lo pc L st M I (.inr (.inr (v, M')))) : kx_W D cst sz cA H0 sL sX p l e R s m args below meth c r n0 s0 (kx_MQ D cst sz cA H0 sL sX below args s n0 s0 v M') pc L st M := by
  intro H ls locs hH hL hl
  obtain ⟨hd, hlk⟩ := kx_ck_spec X.2.2.2.2.2.2.2.2.2.1.1 hix
  have hln : kx_ln I ≠ 0 → len = kx_ln I := by
    intro h0
    have hlk2 : (Nat.beq (kx_ln I) 0 || Nat.beq (kx_ln I) len) = true ∧ kx_lt pc I = true := by
      simpa only [kx_lk, Bool.and_eq_true] using hlk
    rcases Bool.or_eq_true _ _ ▸ hlk2.1 with h | h
    · exact absurd (Nat.eq_of_beq_eq_true h) h0
    · exact (Nat.eq_of_beq_eq_true h).symm
  obtain ⟨e1, h⟩ := h
  dsimp only at e1 h
  subst e1
  have hrt := X.2.2.2.2.2.2.1
  have hlo := X.2.2.2.2.2.2.2.1
  rcases h with ⟨rfl, x, ty, rfl, e2, hn, rfl⟩ | ⟨rfl, x, rfl, e2, rfl⟩ | ⟨rfl, x, rfl, e2, rfl⟩ | ⟨rfl, x, rfl, e2, rfl⟩ | ⟨rfl, x, ty, rfl, e2, hty, rfl⟩ | ⟨rfl, rfl, e2, rfl⟩
  · have e3 : len = 1 := hln (by show 1 ≠ 0; decide)
    subst e3
    exact W.zret (v := x) X.1 X.2.1 (hrt.trans e2) hn (fun t ht _ => ⟨rfl, by rw [ht]; exact hH⟩) hl hd (hlocks := hlo)
  · have e3 : len = 1 := hln (by show 1 ≠ 0; decide)
    subst e3
    exact W.lret (v := x) X.1 X.2.1 (hrt.trans e2) (fun t ht _ => ⟨rfl, by rw [ht]; exact hH⟩) hl hd (hlocks := hlo)
  · have e3 : len = 1 := hln (by show 1 ≠ 0; decide)
    subst e3
    exact W.dret (v := x) X.1 X.2.1 (hrt.trans e2) (fun t ht _ => ⟨rfl, by rw [ht]; exact hH⟩) hl hd (hlocks := hlo)
  · have e3 : len = 1 := hln (by show 1 ≠ 0; decide)
    subst e3
    exact W.fret (v := x) X.1 X.2.1 (hrt.trans e2) (fun t ht _ => ⟨rfl, by rw [ht]; exact hH⟩) hl hd (hlocks := hlo)
  · have e3 : len = 1 := hln (by show 1 ≠ 0; decide)
    subst e3
    exact W.aret (v := .ref (sz + x)) X.1 X.2.1 (hrt.trans e2) hty (Or.inr ⟨_, rfl⟩) (fun t ht _ => ⟨rfl, by rw [ht]; exact hH⟩) hl hd (hlocks := hlo)
  · have e3 : len = 1 := hln (by show 1 ≠ 0; decide)
    subst e3
    exact W.vret X.1 X.2.1 (hrt.trans e2) (fun t ht _ => ⟨rfl, by rw [ht]; exact hH⟩) hl hd (hlocks := hlo)
/-- a method from its entry -/
theorem kx_enter {r2 : kx_R} {j : Nat} (hj : kx_meth j = some r2) (hnl : r2.1.cls ≠ "KiteWarLaw") {As : List Value} {v : Option Value} {M' : kx_M} (hf : kx_fits r2 As = true)
    (hW : ∀ {p : Program} {e : Env} {R : Room} {s : State} {m : MethodId} {args : Array Value} {below : List Frame} {meth : Method} {c : Code}, kx_Cx D cst sz cA H0 sL sX p R s m args meth c r2 → kx_nx M' - kx_nx M ≤ R.cells ∧ kx_sl M' - kx_sl M ≤ R.slots → kx_W D cst sz cA H0 sL sX p l e R s m args below meth c r2 (kx_nx M) (kx_sl M) (kx_MQ D cst sz cA H0 sL sX below args s (kx_nx M) (kx_sl M) v M') 0 (kx_ent r2.2.2.1 As) [] M) : kx_Met l D cst sz cA H0 sL sX r2 As M v M' := by
  have hwm := kx_wm_ok hj
  obtain ⟨hcode, hpl, -⟩ := hwm.2.2.resolve_left hnl
  refine va_MetF (ws' := kx_tb) (maxL := r2.2.2.1) (ret := r2.2.2.2.1) (cc := r2.2.1) hpl rfl ?_
  intro p e s m args below meth c s₁ B hml hP
  obtain ⟨hargs, hG, hH⟩ := hP
  have X : kx_Cx D cst sz cA H0 sL sX p (kx_rm r2 (kx_nx M' - kx_nx M) (kx_sl M' - kx_sl M)) s m args meth c r2 := ⟨B.exec, B.bytes, hml, findClass_of_methodNamed B.named, fun w hw => atoms_spec (ws := kx_ws r2) B.pre w (List.mem_cons_of_mem _ hw), hG, B.returns, B.notSynchronized, fun h => (name_of_methodNamed B.named B.method).1.trans h, hwm, by rw [hH.1]; exact Nat.le_add_right _ _, Nat.le_refl _, Nat.le_refl _⟩
  have hw := hW (e := e) (below := below) X ⟨Nat.le_refl _, Nat.le_refl _⟩ s.heap _ [] hH (kx_ent_LR X.w3 hf) (fun q hq => by cases hq)
  rw [Nat.sub_self, Nat.sub_self] at hw
  refine W.eq ?_ hw
  rw [hargs]
  exact lg_entry_eq m (As.map (kx_v cst sz)) r2.2.2.1
theorem kx_sim : ∀ (n i : Nat) (pc : Nat) (L : kx_L) (st : List Value) (M : kx_M) (v : Option Value) (M' : kx_M), kx_run n i (pc, L, st, M) = some (v, M') →
    (kx_nx M ≤ kx_nx M' ∧ kx_sl M ≤ kx_sl M') ∧ ∀ (r : kx_R), kx_meth i = some r → ∀ {p : Program} {e : Env} {R : Room} {s : State} {m : MethodId} {args : Array Value} {below : List Frame} {meth : Method} {c : Code} {n0 s0 : Nat}, kx_Cx D cst sz cA H0 sL sX p R s m args meth c r → n0 ≤ kx_nx M ∧ s0 ≤ kx_sl M → kx_nx M' - n0 ≤ R.cells ∧ kx_sl M' - s0 ≤ R.slots →
      kx_W D cst sz cA H0 sL sX p l e R s m args below meth c r n0 s0 (kx_MQ D cst sz cA H0 sL sX below args s n0 s0 v M') pc L st M := by
  intro n
  induction n with
  | zero => intro i pc L st M v M' h; cases h
  | succ n ih =>
    intro i pc L st M v M' h
    rw [kx_run] at h
    dsimp only at h
    cases ha : kx_act i pc L st M with
    | none => rw [ha] at h; cases h
    | some A =>
      rw [ha] at h
      unfold kx_act at ha
      split at ha
      next => cases ha
      next r hr =>
      split at ha
      next => cases ha
      next I hI =>
      obtain ⟨I, len⟩ := I
      dsimp only at ha
      have hA := kx_exe_A ha
      rcases A with ⟨pc', L', st', M1⟩ | ⟨j, As, pc', L', rest, M1⟩ | ⟨v1, M1⟩
      · obtain ⟨mon, sim⟩ := ih _ _ _ _ _ _ _ h
        have hle : kx_nx M ≤ kx_nx M1 ∧ kx_sl M ≤ kx_sl M1 := hA
        refine ⟨⟨Nat.le_trans hle.1 mon.1, Nat.le_trans hle.2 mon.2⟩, fun r2 hr2 => ?_⟩
        cases hr.symm.trans hr2
        intro p e R s m args below meth c n0 s0 X hn hc
        exact kx_step X hr hI ha hn ⟨by omega, by omega⟩ (sim r hr X ⟨by omega, by omega⟩ hc)
      · dsimp only at h
        obtain ⟨k, q, ok, hIk, hq, hinv⟩ := hA
        obtain ⟨j2, As2, L2, rest2, e2⟩ := kx_inv_A hinv
        cases e2
        cases hrun : kx_run n j (kx_en j As M) with
        | none => rw [hrun] at h; cases h
        | some vm =>
          obtain ⟨v1, M2⟩ := vm
          rw [hrun] at h
          dsimp only at h
          obtain ⟨mon1, sim1⟩ := ih _ _ _ _ _ _ _ hrun
          obtain ⟨mon2, sim2⟩ := ih _ _ _ _ _ _ _ h
          refine ⟨⟨Nat.le_trans mon1.1 mon2.1, Nat.le_trans mon1.2 mon2.2⟩, fun r2 hr2 => ?_⟩
          cases hr.symm.trans hr2
          intro p e R s m args below meth c n0 s0 X hn hc
          obtain ⟨hd, hlk⟩ := kx_ck_spec X.2.2.2.2.2.2.2.2.2.1.1 hI
          have hlk2 : (Nat.beq (kx_ln I) 0 || Nat.beq (kx_ln I) len) = true ∧ kx_lt pc I = true := by
            simpa only [kx_lk, Bool.and_eq_true] using hlk
          have hl3 : len = 3 := by
            have h3 : kx_ln I = 3 := by rcases hIk with ⟨rfl, -⟩ | ⟨rfl, -⟩ | ⟨rfl, -⟩ <;> rfl
            rw [h3] at hlk2
            rcases Bool.or_eq_true _ _ ▸ hlk2.1 with h | h
            · exact absurd (Nat.eq_of_beq_eq_true h) (by decide)
            · exact (Nat.eq_of_beq_eq_true h).symm
          subst hl3
          refine kx_c_call X hIk hd hq ⟨X.2.2.2.2.2.2.2.2.2.2.2.1, X.2.2.2.2.2.2.2.2.2.2.2.2⟩ hinv hn mon1 ⟨by omega, by omega⟩ (fun r3 hr3 hnl hft => ?_) (sim2 r hr X ⟨by omega, by omega⟩ hc)
          refine kx_enter hr3 hnl hft (fun {p2 e2 R2 s2 m2 a2 b2 me2 c2} X3 hc3 => ?_)
          have hs := sim1 r3 hr3 (e := e2) (below := b2) X3 ⟨Nat.le_refl _, Nat.le_refl _⟩ hc3
          rw [hr3] at hs
          exact hs
      · dsimp only at h
        cases h
        refine ⟨?_, fun r2 hr2 => ?_⟩
        · have e1 : M' = M := hA.1
          subst e1
          exact ⟨Nat.le_refl _, Nat.le_refl _⟩
        · cases hr.symm.trans hr2
          intro p e R s m args below meth c n0 s0 X hn hc
          exact kx_endW X hI hA
end KxEnd
