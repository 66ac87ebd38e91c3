/-! one step of the engine, whatever the instruction; written by wip/whole/step.py -/
section KxStp
variable {D : va_G} {cst : Nat → Value} {sz : Nat} {cA : Nat → ClassId} {H0 : Heap} {sL : Nat} {sX : Nat → Int32} {p : Program} {l : Launch} {e : Env} {R : Room} {s : State} {m : MethodId} {args : Array Value} {below : List Frame} {meth : Method} {c : Code} {r : kx_R} {n0 s0 : Nat} {Q : State → Prop} {pc : Nat} {L : kx_L} {st : List Value} {M : kx_M}
theorem kx_inv_no {fr lo : Nat} {q : Nat × Nat × Nat × Nat} {ok : Nat → Bool} (x : kx_C) : ¬ kx_inv fr lo pc L st M q ok = some (.inl x) := by
  intro h
  unfold kx_inv at h
  split at h
  · cases h
  · dsimp only at h
    split at h
    · cases h
    · split at h
      · obtain ⟨-, h⟩ := kx_ite_some h
        cases h
      · split at h
        · obtain ⟨-, h⟩ := kx_ite_some h
          cases h
        · cases h
theorem kx_c_math (X : kx_Cx D cst sz cA H0 sL sX p R s m args meth c r) {n : Nat} (hd : decode r.2.1 pc = .ok (.invokestatic n, 3)) {q : Nat × Nat × Nat × Nat} (hq : kx_look kx_calT r.2.2.2.2.2.1 n = some q) (h20 : 20 ≤ q.1 ∧ q.1 ≤ 22) {pc' : Nat} {L' : kx_L} {st' : List Value} {M' : kx_M} (hexe : kx_math r.2.2.2.2.2.2.1 r.2.2.2.2.2.2.2.1 pc L M q.1 st = some (.inl (pc', L', st', M'))) (hcap : kx_nx M' - n0 ≤ R.cells ∧ kx_sl M' - s0 ≤ R.slots)
    (k : kx_W D cst sz cA H0 sL sX p l e R s m args below meth c r n0 s0 Q pc' L' st' M') : kx_W D cst sz cA H0 sL sX p l e R s m args below meth c r n0 s0 Q pc L st M := by
  have hR1 := X.2.2.2.2.2.2.2.2.2.2.2.1
  have hR2 := X.2.2.2.2.2.2.2.2.2.2.2.2
  simp only [kx_math, kx_to] at hexe
  split at hexe
  next y x r2 =>
    by_cases h22 : q.1 = 22
    · rw [if_pos h22] at hexe
      obtain ⟨hc, hexe⟩ := kx_ite_some hexe
      cases hexe
      exact kx_c_abs X hd hq ⟨Nat.le_trans hc.1 hR1, Nat.le_trans hc.2 hR2⟩ hcap h22 k
    · rw [if_neg h22] at hexe
      obtain ⟨hc, hexe⟩ := kx_ite_some hexe
      cases hexe
      by_cases h2 : q.1 = 20
      · rw [if_pos h2] at k
        exact kx_c_max X hd hq ⟨Nat.le_trans hc.1 hR1, Nat.le_trans hc.2 hR2⟩ hcap h2 k
      · rw [if_neg h2] at k
        exact kx_c_min X hd hq ⟨Nat.le_trans hc.1 hR1, Nat.le_trans hc.2 hR2⟩ hcap (by omega) k
  next y r2 _ =>
    obtain ⟨hc, hexe⟩ := kx_ite_some hexe
    cases hexe
    exact kx_c_abs X hd hq ⟨Nat.le_trans hc.2.1 hR1, Nat.le_trans hc.2.2 hR2⟩ hcap hc.1 k
  next => cases hexe
theorem kx_step (X : kx_Cx D cst sz cA H0 sL sX p R s m args meth c r) {i : Nat} (hi0 : kx_meth i = some r) {I : Instr} {len : Nat} (hix : kx_ix r.2.2.2.2.1 pc = some (I, len)) {pc' : Nat} {L' : kx_L} {st' : List Value} {M' : kx_M} (hexe : kx_exe r.2.2.2.2.2.2.2.2 r.2.2.2.2.2.1 r.2.2.2.1 r.2.2.2.2.2.2.1 r.2.2.2.2.2.2.2.1 (r.1.name == "<init>") pc L st M I = some (.inl (pc', L', st', M'))) (hn0 : n0 ≤ kx_nx M ∧ s0 ≤ kx_sl M) (hcap : kx_nx M' - n0 ≤ R.cells ∧ kx_sl M' - s0 ≤ R.slots)
    (k : kx_W D cst sz cA H0 sL sX p l e R s m args below meth c r n0 s0 Q pc' L' st' M') : kx_W D cst sz cA H0 sL sX p l e R s m args below meth c r n0 s0 Q pc L st M := by
  obtain ⟨hd, hlk⟩ := kx_ck_spec X.2.2.2.2.2.2.2.2.2.1.1 hix
  have hlk2 : (Nat.beq (kx_ln I) 0 || Nat.beq (kx_ln I) len) = true ∧ kx_lt pc I = true := by
    simpa only [kx_lk, Bool.and_eq_true] using hlk
  obtain ⟨hln0, hlt⟩ := hlk2
  have hln : kx_ln I ≠ 0 → len = kx_ln I := by
    intro h0
    rcases Bool.or_eq_true _ _ ▸ hln0 with h | h
    · exact absurd (Nat.eq_of_beq_eq_true h) h0
    · exact (Nat.eq_of_beq_eq_true h).symm
  clear hlk hln0
  cases I with
  | iload n =>
    have e1 : len = 2 := hln (by show 2 ≠ 0; decide)
    subst e1
    simp only [kx_exe, kx_ldi, kx_to] at hexe
    split at hexe
    next x hx =>
      cases hexe
      exact kx_c_ld hx (fun H ls locs hs w => lv_iload X.1 X.2.1 hd hs w) k
    next => cases hexe
  | iload_n n =>
    have e1 : len = 1 := hln (by show 1 ≠ 0; decide)
    subst e1
    simp only [kx_exe, kx_ldi, kx_to] at hexe
    split at hexe
    next x hx =>
      cases hexe
      exact kx_c_ld hx (fun H ls locs hs w => lv_iload_n X.1 X.2.1 hd rfl hs w) k
    next => cases hexe
  | lload n =>
    have e1 : len = 2 := hln (by show 2 ≠ 0; decide)
    subst e1
    simp only [kx_exe, kx_ldl, kx_to] at hexe
    split at hexe
    next x hx =>
      cases hexe
      exact kx_c_ld hx (fun H ls locs hs w => lv_lload X.1 X.2.1 hd hs w) k
    next => cases hexe
  | lload_n n =>
    have e1 : len = 1 := hln (by show 1 ≠ 0; decide)
    subst e1
    simp only [kx_exe, kx_ldl, kx_to] at hexe
    split at hexe
    next x hx =>
      cases hexe
      exact kx_c_ld hx (fun H ls locs hs w => lv_lload_n X.1 X.2.1 hd rfl hs w) k
    next => cases hexe
  | dload n =>
    have e1 : len = 2 := hln (by show 2 ≠ 0; decide)
    subst e1
    simp only [kx_exe, kx_ldd, kx_to] at hexe
    split at hexe
    next x hx =>
      cases hexe
      exact kx_c_ld hx (fun H ls locs hs w => lv_dload X.1 X.2.1 hd hs w) k
    next => cases hexe
  | aload n =>
    have e1 : len = 2 := hln (by show 2 ≠ 0; decide)
    subst e1
    simp only [kx_exe, kx_lda, kx_to] at hexe
    split at hexe
    next x hx =>
      obtain ⟨hr, hexe⟩ := kx_ite_some hexe
      cases hexe
      exact kx_c_aload X hd hx hr k
    next => cases hexe
  | aload_n n =>
    have e1 : len = 1 := hln (by show 1 ≠ 0; decide)
    subst e1
    simp only [kx_exe, kx_lda, kx_to] at hexe
    split at hexe
    next x hx =>
      obtain ⟨hr, hexe⟩ := kx_ite_some hexe
      cases hexe
      exact kx_c_aload_n X hd hx hr k
    next => cases hexe
  | istore n =>
    have e1 : len = 2 := hln (by show 2 ≠ 0; decide)
    subst e1
    simp only [kx_exe, kx_s1, kx_to] at hexe
    split at hexe
    next x r2 =>
      split at hexe
      next => cases hexe
      next hm =>
        cases hexe
        exact kx_c_s1 (v := .int x) X.w3 rfl hm (fun H ls locs hs hn w => lv_istore X.1 X.2.1 hd hs hn rfl w) k
    next => cases hexe
  | istore_n n =>
    have e1 : len = 1 := hln (by show 1 ≠ 0; decide)
    subst e1
    simp only [kx_exe, kx_s1, kx_to] at hexe
    split at hexe
    next x r2 =>
      split at hexe
      next => cases hexe
      next hm =>
        cases hexe
        exact kx_c_s1 (v := .int x) X.w3 rfl hm (fun H ls locs hs hn w => lv_istore_n X.1 X.2.1 hd rfl hs hn rfl w) k
    next => cases hexe
  | astore n =>
    have e1 : len = 2 := hln (by show 2 ≠ 0; decide)
    subst e1
    simp only [kx_exe, kx_s1, kx_to] at hexe
    split at hexe
    next x r2 =>
      obtain ⟨hr, hexe⟩ := kx_ite_some hexe
      split at hexe
      next => cases hexe
      next hm =>
        cases hexe
        exact kx_c_astore X hd hr hm k
    next => cases hexe
  | astore_n n =>
    have e1 : len = 1 := hln (by show 1 ≠ 0; decide)
    subst e1
    simp only [kx_exe, kx_s1, kx_to] at hexe
    split at hexe
    next x r2 =>
      obtain ⟨hr, hexe⟩ := kx_ite_some hexe
      split at hexe
      next => cases hexe
      next hm =>
        cases hexe
        exact kx_c_astore_n X hd hr hm k
    next => cases hexe
  | lstore n =>
    have e1 : len = 2 := hln (by show 2 ≠ 0; decide)
    subst e1
    simp only [kx_exe, kx_s2, kx_to] at hexe
    split at hexe
    next x r2 =>
      split at hexe
      next => cases hexe
      next hm =>
        cases hexe
        exact kx_c_s2 (v := .long x) X.w3 hm (fun H ls locs hs hn w => lv_lstore X.1 X.2.1 hd hs hn rfl w) k
    next => cases hexe
  | lstore_n n =>
    have e1 : len = 1 := hln (by show 1 ≠ 0; decide)
    subst e1
    simp only [kx_exe, kx_s2, kx_to] at hexe
    split at hexe
    next x r2 =>
      split at hexe
      next => cases hexe
      next hm =>
        cases hexe
        exact kx_c_s2 (v := .long x) X.w3 hm (fun H ls locs hs hn w => lv_lstore_n X.1 X.2.1 hd rfl hs hn rfl w) k
    next => cases hexe
  | dstore n =>
    have e1 : len = 2 := hln (by show 2 ≠ 0; decide)
    subst e1
    simp only [kx_exe, kx_s2, kx_to] at hexe
    split at hexe
    next x r2 =>
      split at hexe
      next => cases hexe
      next hm =>
        cases hexe
        exact kx_c_s2 (v := .double x) X.w3 hm (fun H ls locs hs hn w => lv_dstore X.1 X.2.1 hd hs hn rfl w) k
    next => cases hexe
  | iconst n =>
    have e1 : len = 1 := hln (by show 1 ≠ 0; decide)
    subst e1
    simp only [kx_exe, kx_to] at hexe
    cases hexe
    exact kx_c_st (fun H ls locs w => lv_iconst X.1 X.2.1 hd rfl w) k
  | bipush n =>
    have e1 : len = 2 := hln (by show 2 ≠ 0; decide)
    subst e1
    simp only [kx_exe, kx_to] at hexe
    cases hexe
    exact kx_c_st (fun H ls locs w => lv_bipush X.1 X.2.1 hd rfl w) k
  | sipush n =>
    have e1 : len = 3 := hln (by show 3 ≠ 0; decide)
    subst e1
    simp only [kx_exe, kx_to] at hexe
    cases hexe
    exact kx_c_st (fun H ls locs w => lv_sipush X.1 X.2.1 hd rfl w) k
  | lconst n =>
    have e1 : len = 1 := hln (by show 1 ≠ 0; decide)
    subst e1
    simp only [kx_exe, kx_to] at hexe
    cases hexe
    exact kx_c_st (fun H ls locs w => lv_lconst X.1 X.2.1 hd rfl w) k
  | fconst n =>
    have e1 : len = 1 := hln (by show 1 ≠ 0; decide)
    subst e1
    simp only [kx_exe, kx_to] at hexe
    obtain ⟨hn, hexe⟩ := kx_ite_some hexe
    subst hn
    cases hexe
    exact kx_c_st (fun H ls locs w => lv_fconst0 X.1 X.2.1 hd w) k
  | dconst n =>
    have e1 : len = 1 := hln (by show 1 ≠ 0; decide)
    subst e1
    simp only [kx_exe, kx_to] at hexe
    obtain ⟨hn, hexe⟩ := kx_ite_some hexe
    subst hn
    cases hexe
    exact kx_c_st (fun H ls locs w => lv_dconst0 X.1 X.2.1 hd w) k
  | ldc n =>
    have e1 : len = 2 := hln (by show 2 ≠ 0; decide)
    subst e1
    simp only [kx_exe, kx_to] at hexe
    split at hexe
    next v hv =>
      cases hexe
      exact kx_c_ldc X hd hv k
    next => cases hexe
  | ldc_w n =>
    have e1 : len = 3 := hln (by show 3 ≠ 0; decide)
    subst e1
    simp only [kx_exe, kx_to] at hexe
    split at hexe
    next v hv =>
      cases hexe
      exact kx_c_ldcw X hd hv k
    next => cases hexe
  | iadd =>
    have e1 : len = 1 := hln (by show 1 ≠ 0; decide)
    subst e1
    simp only [kx_exe, kx_bin, kx_to] at hexe
    split at hexe
    next y x r2 =>
      cases hexe
      exact kx_c_st (fun H ls locs w => lv_iadd X.1 X.2.1 hd w) k
    next => cases hexe
  | isub =>
    have e1 : len = 1 := hln (by show 1 ≠ 0; decide)
    subst e1
    simp only [kx_exe, kx_bin, kx_to] at hexe
    split at hexe
    next y x r2 =>
      cases hexe
      exact kx_c_st (fun H ls locs w => lv_isub X.1 X.2.1 hd w) k
    next => cases hexe
  | imul =>
    have e1 : len = 1 := hln (by show 1 ≠ 0; decide)
    subst e1
    simp only [kx_exe, kx_bin, kx_to] at hexe
    split at hexe
    next y x r2 =>
      cases hexe
      exact kx_c_st (fun H ls locs w => lv_imul X.1 X.2.1 hd w) k
    next => cases hexe
  | ishl =>
    have e1 : len = 1 := hln (by show 1 ≠ 0; decide)
    subst e1
    simp only [kx_exe, kx_bin, kx_to] at hexe
    split at hexe
    next y x r2 =>
      cases hexe
      exact kx_c_st (fun H ls locs w => lv_ishl X.1 X.2.1 hd w) k
    next => cases hexe
  | ishr =>
    have e1 : len = 1 := hln (by show 1 ≠ 0; decide)
    subst e1
    simp only [kx_exe, kx_bin, kx_to] at hexe
    split at hexe
    next y x r2 =>
      cases hexe
      exact kx_c_st (fun H ls locs w => lv_ishr X.1 X.2.1 hd w) k
    next => cases hexe
  | iand =>
    have e1 : len = 1 := hln (by show 1 ≠ 0; decide)
    subst e1
    simp only [kx_exe, kx_bin, kx_to] at hexe
    split at hexe
    next y x r2 =>
      cases hexe
      exact kx_c_st (fun H ls locs w => lv_iand X.1 X.2.1 hd w) k
    next => cases hexe
  | ior =>
    have e1 : len = 1 := hln (by show 1 ≠ 0; decide)
    subst e1
    simp only [kx_exe, kx_bin, kx_to] at hexe
    split at hexe
    next y x r2 =>
      cases hexe
      exact kx_c_st (fun H ls locs w => lv_ior X.1 X.2.1 hd w) k
    next => cases hexe
  | ixor =>
    have e1 : len = 1 := hln (by show 1 ≠ 0; decide)
    subst e1
    simp only [kx_exe, kx_bin, kx_to] at hexe
    split at hexe
    next y x r2 =>
      cases hexe
      exact kx_c_st (fun H ls locs w => lv_ixor X.1 X.2.1 hd w) k
    next => cases hexe
  | idiv =>
    have e1 : len = 1 := hln (by show 1 ≠ 0; decide)
    subst e1
    simp only [kx_exe, kx_bin, kx_to] at hexe
    split at hexe
    next y x r2 =>
      by_cases hy : y = 0
      · rw [if_pos hy] at hexe
        cases hexe
      · rw [if_neg hy] at hexe
        cases hexe
        exact kx_c_st (fun H ls locs w => lv_idiv X.1 X.2.1 hd hy w) k
    next => cases hexe
  | irem =>
    have e1 : len = 1 := hln (by show 1 ≠ 0; decide)
    subst e1
    simp only [kx_exe, kx_bin, kx_to] at hexe
    split at hexe
    next y x r2 =>
      by_cases hy : y = 0
      · rw [if_pos hy] at hexe
        cases hexe
      · rw [if_neg hy] at hexe
        cases hexe
        exact kx_c_st (fun H ls locs w => lv_irem X.1 X.2.1 hd hy w) k
    next => cases hexe
  | ineg =>
    have e1 : len = 1 := hln (by show 1 ≠ 0; decide)
    subst e1
    simp only [kx_exe, kx_un, kx_to] at hexe
    split at hexe
    next x r2 =>
      cases hexe
      exact kx_c_st (fun H ls locs w => lv_ineg X.1 X.2.1 hd w) k
    next => cases hexe
  | i2b =>
    have e1 : len = 1 := hln (by show 1 ≠ 0; decide)
    subst e1
    simp only [kx_exe, kx_un, kx_to] at hexe
    split at hexe
    next x r2 =>
      cases hexe
      exact kx_c_st (fun H ls locs w => lv_i2b X.1 X.2.1 hd rfl w) k
    next => cases hexe
  | i2c =>
    have e1 : len = 1 := hln (by show 1 ≠ 0; decide)
    subst e1
    simp only [kx_exe, kx_un, kx_to] at hexe
    split at hexe
    next x r2 =>
      cases hexe
      exact kx_c_st (fun H ls locs w => lv_i2c X.1 X.2.1 hd rfl w) k
    next => cases hexe
  | i2d =>
    have e1 : len = 1 := hln (by show 1 ≠ 0; decide)
    subst e1
    simp only [kx_exe, kx_un, kx_to] at hexe
    split at hexe
    next x r2 =>
      cases hexe
      exact kx_c_st (fun H ls locs w => lv_i2d X.1 X.2.1 hd w) k
    next => cases hexe
  | i2f =>
    have e1 : len = 1 := hln (by show 1 ≠ 0; decide)
    subst e1
    simp only [kx_exe, kx_un, kx_to] at hexe
    split at hexe
    next x r2 =>
      cases hexe
      exact kx_c_st (fun H ls locs w => lv_i2f X.1 X.2.1 hd w) k
    next => cases hexe
  | f2d =>
    have e1 : len = 1 := hln (by show 1 ≠ 0; decide)
    subst e1
    simp only [kx_exe, kx_to] at hexe
    split at hexe
    next =>
      obtain ⟨hn, hexe⟩ := kx_ite_some hexe
      cases hexe
      exact kx_c_st (fun H ls locs w => lv_f2d X.1 X.2.1 hd hn w) k
    next => cases hexe
  | ddiv =>
    have e1 : len = 1 := hln (by show 1 ≠ 0; decide)
    subst e1
    simp only [kx_exe, kx_to] at hexe
    split at hexe
    next =>
      obtain ⟨hn, hexe⟩ := kx_ite_some hexe
      cases hexe
      exact kx_c_st (fun H ls locs w => lv_ddiv X.1 X.2.1 hd hn w) k
    next => cases hexe
  | fdiv =>
    have e1 : len = 1 := hln (by show 1 ≠ 0; decide)
    subst e1
    simp only [kx_exe, kx_to] at hexe
    split at hexe
    next =>
      obtain ⟨hn, hexe⟩ := kx_ite_some hexe
      cases hexe
      exact kx_c_st (fun H ls locs w => lv_fdiv X.1 X.2.1 hd hn w) k
    next => cases hexe
  | dcmp op =>
    have e1 : len = 1 := hln (by show 1 ≠ 0; decide)
    subst e1
    simp only [kx_exe, kx_to] at hexe
    split at hexe
    next =>
      cases hexe
      exact kx_c_st (fun H ls locs w => lv_dcmp X.1 X.2.1 hd w) k
    next => cases hexe
  | lshl =>
    have e1 : len = 1 := hln (by show 1 ≠ 0; decide)
    subst e1
    simp only [kx_exe, kx_shl, kx_to] at hexe
    split at hexe
    next =>
      cases hexe
      exact kx_c_st (fun H ls locs w => lv_lshl X.1 X.2.1 hd rfl w) k
    next => cases hexe
  | lshr =>
    have e1 : len = 1 := hln (by show 1 ≠ 0; decide)
    subst e1
    simp only [kx_exe, kx_shl, kx_to] at hexe
    split at hexe
    next =>
      cases hexe
      exact kx_c_st (fun H ls locs w => lv_lshr X.1 X.2.1 hd rfl w) k
    next => cases hexe
  | land =>
    have e1 : len = 1 := hln (by show 1 ≠ 0; decide)
    subst e1
    simp only [kx_exe, kx_binl, kx_to] at hexe
    split at hexe
    next =>
      cases hexe
      exact kx_c_st (fun H ls locs w => lv_land X.1 X.2.1 hd w) k
    next => cases hexe
  | lor =>
    have e1 : len = 1 := hln (by show 1 ≠ 0; decide)
    subst e1
    simp only [kx_exe, kx_binl, kx_to] at hexe
    split at hexe
    next =>
      cases hexe
      exact kx_c_st (fun H ls locs w => lv_lor X.1 X.2.1 hd w) k
    next => cases hexe
  | lcmp =>
    have e1 : len = 1 := hln (by show 1 ≠ 0; decide)
    subst e1
    simp only [kx_exe, kx_binl, kx_to] at hexe
    split at hexe
    next =>
      cases hexe
      exact kx_c_st (fun H ls locs w => W.lcmp X.1 X.2.1 hd w) k
    next => cases hexe
  | dup =>
    have e1 : len = 1 := hln (by show 1 ≠ 0; decide)
    subst e1
    simp only [kx_exe, kx_to] at hexe
    split at hexe
    next v r2 =>
      obtain ⟨hc, hexe⟩ := kx_ite_some hexe
      cases hexe
      exact kx_c_st (fun H ls locs w => lv_dup X.1 X.2.1 hd (by rw [kx_v_cat (h3 := X.w3)]; exact hc) w) k
    next => cases hexe
  | dup_x1 =>
    have e1 : len = 1 := hln (by show 1 ≠ 0; decide)
    subst e1
    simp only [kx_exe, kx_to] at hexe
    split at hexe
    next v w2 r2 =>
      obtain ⟨hc, hexe⟩ := kx_ite_some hexe
      cases hexe
      exact kx_c_st (fun H ls locs w => lv_dup_x1 X.1 X.2.1 hd (by rw [kx_v_cat (h3 := X.w3)]; exact hc.1) (by rw [kx_v_cat (h3 := X.w3)]; exact hc.2) w) k
    next => cases hexe
  | dup2 =>
    have e1 : len = 1 := hln (by show 1 ≠ 0; decide)
    subst e1
    simp only [kx_exe, kx_dup2, kx_to] at hexe
    split at hexe
    next =>
      cases hexe
      exact kx_c_st (fun H ls locs w => lv_dup2_2 X.1 X.2.1 hd rfl w) k
    next =>
      cases hexe
      exact kx_c_st (fun H ls locs w => lv_dup2_2 X.1 X.2.1 hd rfl w) k
    next =>
      obtain ⟨hc, hexe⟩ := kx_ite_some hexe
      cases hexe
      exact kx_c_st (fun H ls locs w => lv_dup2_11 X.1 X.2.1 hd (by rw [kx_v_cat (h3 := X.w3)]; exact hc.1) (by rw [kx_v_cat (h3 := X.w3)]; exact hc.2) w) k
    next => cases hexe
  | pop =>
    have e1 : len = 1 := hln (by show 1 ≠ 0; decide)
    subst e1
    simp only [kx_exe, kx_to] at hexe
    split at hexe
    next v r2 =>
      obtain ⟨hc, hexe⟩ := kx_ite_some hexe
      cases hexe
      exact kx_c_st (fun H ls locs w => lv_pop X.1 X.2.1 hd (by rw [kx_v_cat (h3 := X.w3)]; exact hc) w) k
    next => cases hexe
  | iinc n j =>
    have e1 : len = 3 := hln (by show 3 ≠ 0; decide)
    subst e1
    simp only [kx_exe, kx_ldi, kx_s1, kx_to] at hexe
    split at hexe
    next x hx =>
      split at hexe
      next => cases hexe
      next hm =>
        cases hexe
        obtain ⟨ix, hix2⟩ := List.getElem?_of_mem (kx_kn_mem (cst := cst) (sz := sz) (q := (n, .int x)).mpr ⟨.int x, hx, rfl⟩)
        exact kx_c_s1 (v := .int (x + Int32.ofInt j)) X.w3 rfl hm (fun H ls locs hs hn w => lv_iinc (v := x + Int32.ofInt j) X.1 X.2.1 hd hs hix2 rfl hn rfl w) k
    next => cases hexe
  | goto j =>
    have e1 : len = 3 := hln (by show 3 ≠ 0; decide)
    subst e1
    simp only [kx_exe, kx_to] at hexe
    cases hexe
    exact kx_c_st (fun H ls locs w => lv_goto X.1 X.2.1 hd (kx_gotgt hlt) w) k
  | ifCond cd j =>
    have e1 : len = 3 := hln (by show 3 ≠ 0; decide)
    subst e1
    simp only [kx_exe, kx_to] at hexe
    split at hexe
    next =>
      split at hexe
      next hc =>
        cases hexe
        exact kx_c_if X hd hlt (fun _ => k) (fun z => absurd hc z)
      next hc =>
        cases hexe
        exact kx_c_if X hd hlt (fun z => absurd z hc) (fun _ => k)
    next => cases hexe
  | if_icmp cd j =>
    have e1 : len = 3 := hln (by show 3 ≠ 0; decide)
    subst e1
    simp only [kx_exe, kx_to] at hexe
    split at hexe
    next =>
      split at hexe
      next hc =>
        cases hexe
        exact kx_c_icmp X hd hlt (fun _ => k) (fun z => absurd hc z)
      next hc =>
        cases hexe
        exact kx_c_icmp X hd hlt (fun z => absurd z hc) (fun _ => k)
    next => cases hexe
  | ifnonnull j =>
    have e1 : len = 3 := hln (by show 3 ≠ 0; decide)
    subst e1
    simp only [kx_exe, kx_to] at hexe
    split at hexe
    next a r2 =>
      cases hexe
      exact kx_c_nonnull X hd hlt (v := .ref a) rfl k
    next cc r2 =>
      obtain ⟨h12, hexe⟩ := kx_ite_some hexe
      cases hexe
      have hc2 : 2 ≤ cc ∧ (kx_csh cc).1 = 12 := by
        by_cases h0 : cc = 0
        · subst h0; simp [kx_rs] at h12
        by_cases h1 : cc = 1
        · subst h1; simp [kx_rs] at h12
        exact ⟨by omega, by simpa [kx_rs, h0, h1] using h12⟩
      obtain ⟨t, ht, -⟩ := X.2.2.2.2.2.1.2.2.2.2.2.1 cc hc2.1 hc2.2
      exact kx_c_nonnull X hd hlt (v := .retAddr cc) ht k
    next r2 =>
      cases hexe
      exact kx_c_st (fun H ls locs w => lv_ifnonnullN X.1 X.2.1 hd w) k
    next => cases hexe
  | tableswitch d lo hi offs =>
    simp only [kx_exe, kx_to] at hexe
    split at hexe
    next =>
      cases hexe
      exact kx_c_table X hd hlt (kx_sw_ok hi0 hix) k
    next => cases hexe
  | lookupswitch d ps =>
    simp only [kx_exe, kx_to] at hexe
    split at hexe
    next =>
      cases hexe
      exact kx_c_lookup X hd hlt k
    next => cases hexe
  | getfield n =>
    have e1 : len = 3 := hln (by show 3 ≠ 0; decide)
    subst e1
    simp only [kx_exe, kx_to] at hexe
    split at hexe
    next q v r2 hq =>
      obtain ⟨hc, hexe⟩ := kx_ite_some hexe
      cases hexe
      exact kx_c_getfield X hd hq hc k
    next => cases hexe
  | putfield n =>
    have e1 : len = 3 := hln (by show 3 ≠ 0; decide)
    subst e1
    simp only [kx_exe, kx_to] at hexe
    split at hexe
    next q v a r2 hq =>
      obtain ⟨hc, hexe⟩ := kx_ite_some hexe
      cases hexe
      exact kx_c_putfield X hd hq hc.1 hc.2.1 hc.2.2 k
    next => cases hexe
  | getstatic n =>
    have e1 : len = 3 := hln (by show 3 ≠ 0; decide)
    subst e1
    simp only [kx_exe, kx_to] at hexe
    split at hexe
    next v hv =>
      cases hexe
      exact kx_c_getstatic X hd hv k
    next => cases hexe
  | invokevirtual n =>
    have e1 : len = 3 := hln (by show 3 ≠ 0; decide)
    subst e1
    simp only [kx_exe] at hexe
    split at hexe
    next q hq => exact absurd hexe (kx_inv_no _)
    next => cases hexe
  | invokestatic n =>
    have e1 : len = 3 := hln (by show 3 ≠ 0; decide)
    subst e1
    simp only [kx_exe] at hexe
    split at hexe
    next q hq =>
      split at hexe
      next h10 =>
        simp only [kx_acopy, kx_to] at hexe
        split at hexe
        next =>
          obtain ⟨⟨c1, c2, c3, c4, c5, c6, c7, c8, c9, -⟩, hexe⟩ := kx_ite_some hexe
          cases hexe
          exact kx_c_acopy X hd hq h10 ⟨Nat.le_trans c1 X.2.2.2.2.2.2.2.2.2.2.2.1, Nat.le_trans c2 X.2.2.2.2.2.2.2.2.2.2.2.2⟩ c3 c4 c5 c6 c7 c8 c9 k
        next => cases hexe
      next h10 =>
        split at hexe
        next h20 => exact kx_c_math X hd hq h20 hexe hcap k
        next => exact absurd hexe (kx_inv_no _)
    next => cases hexe
  | invokespecial n =>
    have e1 : len = 3 := hln (by show 3 ≠ 0; decide)
    subst e1
    simp only [kx_exe] at hexe
    split at hexe
    next q hq =>
      split at hexe
      next h7 =>
        split at hexe
        next =>
          simp only [kx_to] at hexe
          obtain ⟨⟨c1, c2⟩, hexe⟩ := kx_ite_some hexe
          cases hexe
          exact kx_c_objinit X hd hq ⟨Nat.le_trans c1 X.2.2.2.2.2.2.2.2.2.2.2.1, Nat.le_trans c2 X.2.2.2.2.2.2.2.2.2.2.2.2⟩ h7 k
        next => cases hexe
      next => exact absurd hexe (kx_inv_no _)
    next => cases hexe
  | new n =>
    have e1 : len = 3 := hln (by show 3 ≠ 0; decide)
    subst e1
    simp only [kx_exe, kx_to] at hexe
    split at hexe
    next q hq =>
      cases hexe
      exact kx_c_new X hd hq hn0 hcap k
    next => cases hexe
  | anewarray n =>
    have e1 : len = 3 := hln (by show 3 ≠ 0; decide)
    subst e1
    simp only [kx_exe, kx_to] at hexe
    split at hexe
    next q x r2 hq =>
      obtain ⟨hx, hexe⟩ := kx_ite_some hexe
      cases hexe
      exact kx_c_anew X hd hq hx hn0 hcap k
    next => cases hexe
  | newarray t =>
    have e1 : len = 2 := hln (by show 2 ≠ 0; decide)
    subst e1
    simp only [kx_exe, kx_to] at hexe
    split at hexe
    next x r2 =>
      obtain ⟨hx, hexe⟩ := kx_ite_some hexe
      split at hexe
      · cases hexe
        exact kx_c_newarr (at' := .int) (t := 101) X hd hx (by decide) rfl rfl rfl (by decide) (by decide) kx_w_aint (fun _ _ h => h) hn0 hcap k
      · cases hexe
        exact kx_c_newarr (at' := .long) (t := 102) X hd hx (by decide) rfl rfl rfl (by decide) (by decide) kx_w_along (fun _ _ h => h) hn0 hcap k
      · cases hexe
        exact kx_c_newarr (at' := .byte) (t := 103) X hd hx (by decide) rfl rfl rfl (by decide) (by decide) kx_w_abyte (fun _ _ h => h) hn0 hcap k
      · cases hexe
        exact kx_c_newarr (at' := .char) (t := 104) X hd hx (by decide) rfl rfl rfl (by decide) (by decide) kx_w_achar (fun _ _ h => h) hn0 hcap k
      · cases hexe
        exact kx_c_newarr (at' := .boolean) (t := 105) X hd hx (by decide) rfl rfl rfl (by decide) (by decide) kx_w_aboolean (fun _ _ h => h) hn0 hcap k
      · cases hexe
    next => cases hexe
  | arraylength =>
    have e1 : len = 1 := hln (by show 1 ≠ 0; decide)
    subst e1
    simp only [kx_exe, kx_to] at hexe
    split at hexe
    next v r2 =>
      split at hexe
      next t n2 hv =>
        obtain ⟨ht, hexe⟩ := kx_ite_some hexe
        cases hexe
        exact kx_c_alen X hd hv ht k
      next => cases hexe
    next => cases hexe
  | iaload =>
    have e1 : len = 1 := hln (by show 1 ≠ 0; decide)
    subst e1
    simp only [kx_exe, kx_to] at hexe
    split at hexe
    next =>
      obtain ⟨hc, hexe⟩ := kx_ite_some hexe
      cases hexe
      exact kx_c_iald X hd hc k
    next => cases hexe
  | laload =>
    have e1 : len = 1 := hln (by show 1 ≠ 0; decide)
    subst e1
    simp only [kx_exe, kx_to] at hexe
    split at hexe
    next =>
      obtain ⟨hc, hexe⟩ := kx_ite_some hexe
      cases hexe
      exact kx_c_lald X hd hc k
    next => cases hexe
  | baload =>
    have e1 : len = 1 := hln (by show 1 ≠ 0; decide)
    subst e1
    simp only [kx_exe, kx_to] at hexe
    split at hexe
    next =>
      obtain ⟨hc, hexe⟩ := kx_ite_some hexe
      cases hexe
      exact kx_c_bald X hd hc k
    next => cases hexe
  | caload =>
    have e1 : len = 1 := hln (by show 1 ≠ 0; decide)
    subst e1
    simp only [kx_exe, kx_to] at hexe
    split at hexe
    next =>
      obtain ⟨hc, hexe⟩ := kx_ite_some hexe
      cases hexe
      exact kx_c_cald X hd hc k
    next => cases hexe
  | aaload =>
    have e1 : len = 1 := hln (by show 1 ≠ 0; decide)
    subst e1
    simp only [kx_exe, kx_to] at hexe
    split at hexe
    next =>
      obtain ⟨hc, hexe⟩ := kx_ite_some hexe
      cases hexe
      exact kx_c_aald X hd hc.1 hc.2.1 k
    next => cases hexe
  | iastore =>
    have e1 : len = 1 := hln (by show 1 ≠ 0; decide)
    subst e1
    simp only [kx_exe, kx_own, kx_to] at hexe
    split at hexe
    next x i v r2 =>
      split at hexe
      next a =>
        obtain ⟨hc, hexe⟩ := kx_ite_some hexe
        cases hexe
        exact kx_c_iast X hd hc k
      next => cases hexe
    next => cases hexe
  | lastore =>
    have e1 : len = 1 := hln (by show 1 ≠ 0; decide)
    subst e1
    simp only [kx_exe, kx_own, kx_to] at hexe
    split at hexe
    next x i v r2 =>
      split at hexe
      next a =>
        obtain ⟨hc, hexe⟩ := kx_ite_some hexe
        cases hexe
        exact kx_c_last X hd hc k
      next => cases hexe
    next => cases hexe
  | castore =>
    have e1 : len = 1 := hln (by show 1 ≠ 0; decide)
    subst e1
    simp only [kx_exe, kx_own, kx_to] at hexe
    split at hexe
    next x i v r2 =>
      split at hexe
      next a =>
        obtain ⟨hc, hexe⟩ := kx_ite_some hexe
        cases hexe
        exact kx_c_cast X hd hc k
      next => cases hexe
    next => cases hexe
  | bastore =>
    have e1 : len = 1 := hln (by show 1 ≠ 0; decide)
    subst e1
    simp only [kx_exe, kx_own, kx_to] at hexe
    split at hexe
    next x i a r2 =>
      split at hexe
      next h103 =>
        obtain ⟨hc, hexe⟩ := kx_ite_some hexe
        cases hexe
        exact kx_c_bast X hd hc k
      next h103 =>
        obtain ⟨hx, hexe⟩ := kx_ite_some hexe
        obtain ⟨hc, hexe⟩ := kx_ite_some hexe
        cases hexe
        exact kx_c_zast X hd hx hc k
    next => cases hexe
  | aastore =>
    have e1 : len = 1 := hln (by show 1 ≠ 0; decide)
    subst e1
    simp only [kx_exe, kx_own, kx_to] at hexe
    split at hexe
    next b i a r2 =>
      obtain ⟨hx, hexe⟩ := kx_ite_some hexe
      obtain ⟨hc, hexe⟩ := kx_ite_some hexe
      cases hexe
      exact kx_c_aast X hd hx.2 hc k
    next => cases hexe
  | lreturn =>
    simp only [kx_exe] at hexe
    split at hexe
    next => obtain ⟨-, hexe⟩ := kx_ite_some hexe; cases hexe
    next => cases hexe
  | dreturn =>
    simp only [kx_exe] at hexe
    split at hexe
    next => obtain ⟨-, hexe⟩ := kx_ite_some hexe; cases hexe
    next => cases hexe
  | freturn =>
    simp only [kx_exe] at hexe
    split at hexe
    next => obtain ⟨-, hexe⟩ := kx_ite_some hexe; cases hexe
    next => cases hexe
  | return_ =>
    simp only [kx_exe] at hexe
    split at hexe
    next => obtain ⟨-, hexe⟩ := kx_ite_some hexe; cases hexe
    next => cases hexe
  | ireturn =>
    simp only [kx_exe, kx_ret1] at hexe
    split at hexe
    next => obtain ⟨-, hexe⟩ := kx_ite_some hexe; cases hexe
    next => cases hexe
  | areturn =>
    simp only [kx_exe] at hexe
    split at hexe <;> cases hexe
  | _ => cases hexe
end KxStp
