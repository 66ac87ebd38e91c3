/-! arrays, new cells, statics, constants, Math, arraycopy -/
theorem kx_arr_spec {t : Nat} {i : Int32} {q : Nat × Nat} : kx_arr t i (some q) = true ↔ t = q.1 ∧ 0 ≤ i ∧ i.toNatClampNeg < q.2 := by
  obtain ⟨a, b⟩ := q
  simp only [kx_arr, Bool.and_eq_true, decide_eq_true_eq]
  constructor
  · rintro ⟨⟨h1, h2⟩, h3⟩
    exact ⟨Nat.eq_of_beq_eq_true h1, h2, Nat.le_of_ble_eq_true h3⟩
  · rintro ⟨h1, h2, h3⟩
    exact ⟨⟨by rw [h1]; exact Nat.beq_refl a, h2⟩, Nat.ble_eq_true_of_le h3⟩
theorem kx_arr_some {t : Nat} {i : Int32} {o : Option (Nat × Nat)} (h : kx_arr t i o = true) : ∃ q, o = some q ∧ t = q.1 ∧ 0 ≤ i ∧ i.toNatClampNeg < q.2 := by
  cases o with
  | none => cases h
  | some q => exact ⟨q, rfl, kx_arr_spec.mp h⟩
theorem kx_csh_ks : ∀ c : Nat, c < 10 → 100 < (kx_ca.getD c (99, [])).1 → (kx_ca.getD c (99, [])).1 ∈ kx_ks := by decide
theorem kx_csh_ks2 {c : Nat} (h : 100 < (kx_csh c).1) : (kx_csh c).1 ∈ kx_ks := by
  unfold kx_csh at h ⊢
  split
  · rename_i hc
    rw [if_pos hc] at h
    exact kx_csh_ks c hc h
  · rename_i hc
    rw [if_neg hc] at h
    split
    · rename_i h1
      rw [if_pos h1] at h
      exact absurd (show 100 < 99 from h) (by decide)
    · rename_i h1
      rw [if_neg h1] at h
      split
      · rename_i h2
        rw [if_pos h2] at h
        exact absurd (show 100 < 12 from h) (by decide)
      · show 103 ∈ kx_ks
        decide
section KxArr
variable {D : va_G} {cst : Nat → Value} {sz : Nat} {cA : Nat → ClassId} {H0 : Heap} {sL : Nat} {sX : Nat → Int32} {p : Program} {l : Launch} {e : Env} {R : Room} {s : State} {m : MethodId} {args : Array Value} {below : List Frame} {meth : Method} {c : Code} {r : kx_R} {n0 s0 : Nat} {Q : State → Prop} {pc : Nat} {L : kx_L} {st : List Value} {M : kx_M}
/-- the row that a value refers to, on the machine -/
theorem kx_arrAt (X : kx_Cx D cst sz cA H0 sL sX p R s m args meth c r) {H : Heap} (hH : kx_Rep D cst sz cA H0 sL sX M H) {v : Value} {q : Nat × Nat} (hv : kx_rs M v = some q) (ht : 100 < q.1) :
    q.1 ∈ kx_ks ∧ ∃ (w : Nat) (cell : Cell), kx_v cst sz v = .ref w ∧ H[w]? = some cell ∧ s.isArrayOf cell (kx_aty q.1) ∧ cell.vm ≠ .unknown ∧ cell.slots.size.toInt32 = Int32.ofNat q.2 ∧ q.2 ≤ cell.slots.size ∧ ∀ j, j < q.2 → cell.slots[j]? = some (kx_v cst sz (kx_rd M v j)) := by
  obtain ⟨t, n⟩ := q
  have hA : H0.size = sz := X.2.2.2.2.2.1.2.2.2.2.2.2.2.2.2.2
  cases v with
  | ref a =>
    have hs : kx_sh M a = (t, n) := by simpa [kx_rs] using hv
    obtain ⟨h1, h2⟩ := hH.arr (a := a) (t := t) (by rw [hs]) (by dsimp only at ht; omega) (by dsimp only at ht; omega)
    rw [hs] at h2
    refine ⟨h1, sz + a, _, rfl, h2, (X.2.2.2.2.2.1.2.1 t h1).1 _ _, fun h => (by cases h), by rw [arrV_size] <;> rfl, by rw [arrV_size] <;> exact Nat.le_refl _, fun j hj => by rw [arrV_read _ _ hj] <;> rfl⟩
  | retAddr cc =>
    by_cases h0 : cc = 0
    · subst h0; simp [kx_rs] at hv
    by_cases h1 : cc = 1
    · subst h1
      obtain ⟨b, e1, e2, scr, g1, g2, g3, g4, g5⟩ := X.2.2.2.2.2.1.2.2.2.1
      have hq : (101, kx_scL M) = (t, n) := by simpa [kx_rs] using hv
      cases hq
      refine ⟨by show 101 ∈ kx_ks; decide, b, scr, e1, by rw [hH.2.1 b e2]; exact g1, g2, g3, by rw [g4, hH.2.2.2.2.1] <;> rfl, by rw [g4]; exact Nat.le_of_eq hH.2.2.2.2.1, fun j hj => ?_⟩
      have hj' : j < sL := by rw [← hH.2.2.2.2.1]; exact hj
      rw [g5 j hj']
      show _ = some (kx_v cst sz (if 1 = 1 then .int (kx_scX M j) else kx_cdt 1 j))
      rw [if_pos rfl, hH.2.2.2.2.2]
      rfl
    · have hq : kx_csh cc = (t, n) := by simpa [kx_rs, h0, h1] using hv
      have hk : (kx_csh cc).1 ∈ kx_ks := kx_csh_ks2 (by rw [hq]; exact ht)
      obtain ⟨w, e1, cell, g1, g2, g3, g4, g5, g6, g7⟩ := X.2.2.2.2.2.1.2.2.2.2.1 cc (by omega) hk
      have hw : w < sz := by rw [← hA]; exact (Array.getElem?_eq_some_iff.mp g1).1
      rw [hq] at hk g2 g4 g5 g6
      refine ⟨hk, w, cell, e1, by rw [hH.2.1 w hw]; exact g1, g2, g3, g5, g4, fun j hj => ?_⟩
      rw [g6 j hj]
      have : kx_rd M (.retAddr cc) j = kx_cdt cc j := by simp [kx_rd, h1]
      rw [this]
      unfold kx_cdt
      split
      · rfl
      · split
        · rename_i h10 h2
          exfalso
          have := hq
          unfold kx_csh at this
          rw [if_neg h10] at this
          split at this
          · cases this; dsimp only at ht; omega
          · cases this; dsimp only at ht; omega
        · rfl
  | _ => simp [kx_rs] at hv
theorem kx_ix_in {cell : Cell} {i : Int32} {n : Nat} (h0 : 0 ≤ i) (h1 : i.toNatClampNeg < n) (h2 : n ≤ cell.slots.size) : ¬ (i < 0 ∨ cell.slots.size ≤ i.toNatClampNeg) := by
  rintro (h | h)
  · exact Int32.not_lt.mpr h0 h
  · omega
theorem kx_c_iald (X : kx_Cx D cst sz cA H0 sL sX p R s m args meth c r) (hd : decode r.2.1 pc = .ok (.iaload, 1)) {i : Int32} {v : Value} (ha : kx_arr 101 i (kx_rs M v) = true)
    (k : kx_W D cst sz cA H0 sL sX p l e R s m args below meth c r n0 s0 Q (pc + 1) L (kx_rd M v i.toNatClampNeg :: st) M) : kx_W D cst sz cA H0 sL sX p l e R s m args below meth c r n0 s0 Q pc L (.int i :: v :: st) M := by
  intro H ls locs hH hL hl
  obtain ⟨q, h1, h2, h3, h4⟩ := kx_arr_some ha
  obtain ⟨-, w, cell, g1, g2, g3, g4, -, g5, g6⟩ := kx_arrAt X hH h1 (by omega)
  rw [← h2] at g3
  rw [List.map_cons, List.map_cons, g1]
  exact W.iald (v := kx_v cst sz (kx_rd M v i.toNatClampNeg)) X.1 X.2.1 g2 g3 g4 (kx_ix_in h3 h4 g5) (g6 _ h4) rfl rfl hd (k H ls locs hH hL hl)
theorem kx_c_lald (X : kx_Cx D cst sz cA H0 sL sX p R s m args meth c r) (hd : decode r.2.1 pc = .ok (.laload, 1)) {i : Int32} {v : Value} (ha : kx_arr 102 i (kx_rs M v) = true)
    (k : kx_W D cst sz cA H0 sL sX p l e R s m args below meth c r n0 s0 Q (pc + 1) L (kx_rd M v i.toNatClampNeg :: st) M) : kx_W D cst sz cA H0 sL sX p l e R s m args below meth c r n0 s0 Q pc L (.int i :: v :: st) M := by
  intro H ls locs hH hL hl
  obtain ⟨q, h1, h2, h3, h4⟩ := kx_arr_some ha
  obtain ⟨-, w, cell, g1, g2, g3, g4, -, g5, g6⟩ := kx_arrAt X hH h1 (by omega)
  rw [← h2] at g3
  rw [List.map_cons, List.map_cons, g1]
  exact W.lald (v := kx_v cst sz (kx_rd M v i.toNatClampNeg)) X.1 X.2.1 g2 g3 g4 (kx_ix_in h3 h4 g5) (g6 _ h4) rfl rfl hd (k H ls locs hH hL hl)
theorem kx_c_cald (X : kx_Cx D cst sz cA H0 sL sX p R s m args meth c r) (hd : decode r.2.1 pc = .ok (.caload, 1)) {i : Int32} {v : Value} (ha : kx_arr 104 i (kx_rs M v) = true)
    (k : kx_W D cst sz cA H0 sL sX p l e R s m args below meth c r n0 s0 Q (pc + 1) L (kx_rd M v i.toNatClampNeg :: st) M) : kx_W D cst sz cA H0 sL sX p l e R s m args below meth c r n0 s0 Q pc L (.int i :: v :: st) M := by
  intro H ls locs hH hL hl
  obtain ⟨q, h1, h2, h3, h4⟩ := kx_arr_some ha
  obtain ⟨-, w, cell, g1, g2, g3, g4, -, g5, g6⟩ := kx_arrAt X hH h1 (by omega)
  rw [← h2] at g3
  rw [List.map_cons, List.map_cons, g1]
  exact W.cald (v := kx_v cst sz (kx_rd M v i.toNatClampNeg)) X.1 X.2.1 g2 g3 g4 (kx_ix_in h3 h4 g5) (g6 _ h4) rfl rfl hd (k H ls locs hH hL hl)
theorem kx_c_bald (X : kx_Cx D cst sz cA H0 sL sX p R s m args meth c r) (hd : decode r.2.1 pc = .ok (.baload, 1)) {i : Int32} {v : Value} (ha : (kx_arr 103 i (kx_rs M v) || kx_arr 105 i (kx_rs M v)) = true)
    (k : kx_W D cst sz cA H0 sL sX p l e R s m args below meth c r n0 s0 Q (pc + 1) L (kx_rd M v i.toNatClampNeg :: st) M) : kx_W D cst sz cA H0 sL sX p l e R s m args below meth c r n0 s0 Q pc L (.int i :: v :: st) M := by
  intro H ls locs hH hL hl
  rcases Bool.or_eq_true _ _ ▸ ha with ha | ha
  · obtain ⟨q, h1, h2, h3, h4⟩ := kx_arr_some ha
    obtain ⟨-, w, cell, g1, g2, g3, g4, -, g5, g6⟩ := kx_arrAt X hH h1 (by omega)
    rw [← h2] at g3
    rw [List.map_cons, List.map_cons, g1]
    exact W.bald (v := kx_v cst sz (kx_rd M v i.toNatClampNeg)) X.1 X.2.1 g2 g3 g4 (kx_ix_in h3 h4 g5) (g6 _ h4) rfl rfl hd (k H ls locs hH hL hl)
  · obtain ⟨q, h1, h2, h3, h4⟩ := kx_arr_some ha
    obtain ⟨-, w, cell, g1, g2, g3, g4, -, g5, g6⟩ := kx_arrAt X hH h1 (by omega)
    rw [← h2] at g3
    rw [List.map_cons, List.map_cons, g1]
    exact W.zald (v := kx_v cst sz (kx_rd M v i.toNatClampNeg)) X.1 X.2.1 g2 g3 g4 (kx_ix_in h3 h4 g5) (g6 _ h4) rfl rfl hd (k H ls locs hH hL hl)
theorem kx_aty_ref {t : Nat} (h : 109 < t) : (kx_aty t).isReference = true := by
  unfold kx_aty
  split <;> first | omega | rfl
theorem kx_c_aald (X : kx_Cx D cst sz cA H0 sL sX p R s m args meth c r) (hd : decode r.2.1 pc = .ok (.aaload, 1)) {i : Int32} {a : Nat} (h9 : 109 < (kx_sh M a).1) (ha : kx_arr (kx_sh M a).1 i (some (kx_sh M a)) = true)
    (k : kx_W D cst sz cA H0 sL sX p l e R s m args below meth c r n0 s0 Q (pc + 1) L (kx_dt M a i.toNatClampNeg :: st) M) : kx_W D cst sz cA H0 sL sX p l e R s m args below meth c r n0 s0 Q pc L (.int i :: .ref a :: st) M := by
  intro H ls locs hH hL hl
  obtain ⟨-, h3, h4⟩ := kx_arr_spec.mp ha
  obtain ⟨-, w, cell, g1, g2, g3, g4, -, g5, g6⟩ := kx_arrAt X hH (v := .ref a) (q := kx_sh M a) rfl (by omega)
  rw [List.map_cons, List.map_cons, g1]
  exact W.aald (v := kx_v cst sz (kx_dt M a i.toNatClampNeg)) X.1 X.2.1 g2 g3 (kx_aty_ref h9) g4 (kx_ix_in h3 h4 g5) (g6 _ h4) rfl rfl hd (k H ls locs hH hL hl)
theorem kx_c_alen (X : kx_Cx D cst sz cA H0 sL sX p R s m args meth c r) (hd : decode r.2.1 pc = .ok (.arraylength, 1)) {v : Value} {t n : Nat} (hv : kx_rs M v = some (t, n)) (ht : 100 < t)
    (k : kx_W D cst sz cA H0 sL sX p l e R s m args below meth c r n0 s0 Q (pc + 1) L (.int (Int32.ofNat n) :: st) M) : kx_W D cst sz cA H0 sL sX p l e R s m args below meth c r n0 s0 Q pc L (v :: st) M := by
  intro H ls locs hH hL hl
  obtain ⟨-, w, cell, g1, g2, g3, g4, g5, -, -⟩ := kx_arrAt X hH hv ht
  rw [List.map_cons, g1]
  exact W.alen X.1 X.2.1 g2 g3 g5 rfl rfl hd (k H ls locs hH hL hl)
/-- a row of the memory's own, written at one place -/
theorem kx_stored {H H' : Heap} {locs : List Loc} {a j : Nat} {v : Value} {w : Value} (X : kx_Cx D cst sz cA H0 sL sX p R s m args meth c r) (hH : kx_Rep D cst sz cA H0 sL sX M H) (hl : ∀ q ∈ locs, sz ≤ q.base) (h1 : (kx_sh M a).1 ∈ kx_ks) (hby : (kx_sh M a).1 = 103 → ∃ x : Int32, v = .int x ∧ fits .byte (.int x) = true) (hw : w = kx_v cst sz v)
    (e1 : H'[sz + a]? = some ((arrV (cA (kx_sh M a).1) (kx_sh M a).2 (fun k => kx_v cst sz (kx_dt M a k))).setSlot j w)) (e2 : H'.size = H.size) (e3 : ∀ q, q ≠ sz + a → H'[q]? = H[q]?) :
    kx_Rep D cst sz cA H0 sL sX (kx_put M a j v) H' ∧ ∀ q ∈ locs ++ [⟨sz + a, j⟩], sz ≤ q.base := by
  refine ⟨hH.one (a := a) rfl (fun _ => rfl) (fun b hb i => ?_) rfl e2 e3 (Or.inr ⟨h1, ?_, ?_⟩), fun q hq => ?_⟩
  · rw [kx_put_dt, if_neg (fun z => hb z.1)]
  · rw [e1, kx_put_sh, arrV_store]
    congr 1
    refine kx_arrV_ext fun i _ => ?_
    unfold updV
    rw [kx_put_dt, hw]
    by_cases hij : i = j
    · rw [if_pos hij, if_pos ⟨rfl, hij⟩]
    · rw [if_neg hij, if_neg (fun z => hij z.2)]
  · intro ht i hi
    rw [kx_put_sh] at ht hi
    rw [kx_put_dt]
    by_cases hij : i = j
    · rw [if_pos ⟨rfl, hij⟩]
      obtain ⟨x, hx1, hx2⟩ := hby ht
      exact ⟨x, hx1, hx2⟩
    · rw [if_neg (fun z => hij z.2)]
      exact hH.byt ht i hi
  · rcases List.mem_append.mp hq with h | h
    · exact hl q h
    · rw [List.mem_singleton.mp h]; exact Nat.le_add_right _ _
theorem kx_c_iast (X : kx_Cx D cst sz cA H0 sL sX p R s m args meth c r) (hd : decode r.2.1 pc = .ok (.iastore, 1)) {i x : Int32} {a : Nat} (ha : kx_arr 101 i (some (kx_sh M a)) = true)
    (k : kx_W D cst sz cA H0 sL sX p l e R s m args below meth c r n0 s0 Q (pc + 1) L st (kx_put M a i.toNatClampNeg (.int x))) : kx_W D cst sz cA H0 sL sX p l e R s m args below meth c r n0 s0 Q pc L (.int x :: .int i :: .ref a :: st) M := by
  intro H ls locs hH hL hl
  obtain ⟨h2, h3, h4⟩ := kx_arr_spec.mp ha
  obtain ⟨hk, hc⟩ := hH.arr (a := a) rfl (by omega) (by omega)
  refine W.iast X.1 X.2.1 hc (by have := (X.2.2.2.2.2.1.2.1 _ hk).1; rw [← h2] at this ⊢; exact this _ _) (fun h => by cases h) (kx_ix_in h3 h4 (by rw [arrV_size] <;> exact Nat.le_refl _)) rfl rfl hd fun H' e1 e2 e3 => ?_
  obtain ⟨g1, g2⟩ := kx_stored X hH hl hk (v := .int x) (fun z => by omega) rfl e1 e2 e3
  exact k H' ls _ g1 hL g2
theorem kx_c_last (X : kx_Cx D cst sz cA H0 sL sX p R s m args meth c r) (hd : decode r.2.1 pc = .ok (.lastore, 1)) {i : Int32} {x : Int64} {a : Nat} (ha : kx_arr 102 i (some (kx_sh M a)) = true)
    (k : kx_W D cst sz cA H0 sL sX p l e R s m args below meth c r n0 s0 Q (pc + 1) L st (kx_put M a i.toNatClampNeg (.long x))) : kx_W D cst sz cA H0 sL sX p l e R s m args below meth c r n0 s0 Q pc L (.long x :: .int i :: .ref a :: st) M := by
  intro H ls locs hH hL hl
  obtain ⟨h2, h3, h4⟩ := kx_arr_spec.mp ha
  obtain ⟨hk, hc⟩ := hH.arr (a := a) rfl (by omega) (by omega)
  refine W.last X.1 X.2.1 hc (by have := (X.2.2.2.2.2.1.2.1 _ hk).1; rw [← h2] at this ⊢; exact this _ _) (fun h => by cases h) (kx_ix_in h3 h4 (by rw [arrV_size] <;> exact Nat.le_refl _)) rfl rfl hd fun H' e1 e2 e3 => ?_
  obtain ⟨g1, g2⟩ := kx_stored X hH hl hk (v := .long x) (fun z => by omega) rfl e1 e2 e3
  exact k H' ls _ g1 hL g2
theorem kx_byte_fits (x : Int32) : fits .byte (.int x.toInt8.toInt32) = true := by
  have h1 : -128 ≤ x.toInt8.toInt32.toInt ∧ x.toInt8.toInt32.toInt ≤ 127 := by
    have := Int8.le_toInt x.toInt8
    have := Int8.toInt_lt x.toInt8
    rw [Int8.toInt_toInt32]
    omega
  simp only [fits, Bool.and_eq_true, decide_eq_true_eq]
  exact ⟨Int32.le_iff_toInt_le.mpr h1.1, Int32.le_iff_toInt_le.mpr h1.2⟩
theorem kx_c_bast (X : kx_Cx D cst sz cA H0 sL sX p R s m args meth c r) (hd : decode r.2.1 pc = .ok (.bastore, 1)) {i x : Int32} {a : Nat} (ha : kx_arr 103 i (some (kx_sh M a)) = true)
    (k : kx_W D cst sz cA H0 sL sX p l e R s m args below meth c r n0 s0 Q (pc + 1) L st (kx_put M a i.toNatClampNeg (.int x.toInt8.toInt32))) : kx_W D cst sz cA H0 sL sX p l e R s m args below meth c r n0 s0 Q pc L (.int x :: .int i :: .ref a :: st) M := by
  intro H ls locs hH hL hl
  obtain ⟨h2, h3, h4⟩ := kx_arr_spec.mp ha
  obtain ⟨hk, hc⟩ := hH.arr (a := a) rfl (by omega) (by omega)
  refine W.bast X.1 X.2.1 hc (by have := (X.2.2.2.2.2.1.2.1 _ hk).1; rw [← h2] at this ⊢; exact this _ _) (fun h => by cases h) (kx_ix_in h3 h4 (by rw [arrV_size] <;> exact Nat.le_refl _)) rfl rfl hd fun H' e1 e2 e3 => ?_
  obtain ⟨g1, g2⟩ := kx_stored X hH hl hk (v := .int x.toInt8.toInt32) (fun _ => ⟨_, rfl, kx_byte_fits x⟩) rfl e1 e2 e3
  exact k H' ls _ g1 hL g2
theorem kx_c_zast (X : kx_Cx D cst sz cA H0 sL sX p R s m args meth c r) (hd : decode r.2.1 pc = .ok (.bastore, 1)) {i x : Int32} {a : Nat} (hx : x = 0 ∨ x = 1) (ha : kx_arr 105 i (some (kx_sh M a)) = true)
    (k : kx_W D cst sz cA H0 sL sX p l e R s m args below meth c r n0 s0 Q (pc + 1) L st (kx_put M a i.toNatClampNeg (.int x))) : kx_W D cst sz cA H0 sL sX p l e R s m args below meth c r n0 s0 Q pc L (.int x :: .int i :: .ref a :: st) M := by
  intro H ls locs hH hL hl
  obtain ⟨h2, h3, h4⟩ := kx_arr_spec.mp ha
  obtain ⟨hk, hc⟩ := hH.arr (a := a) rfl (by omega) (by omega)
  refine W.zast X.1 X.2.1 hc (by have := (X.2.2.2.2.2.1.2.1 _ hk).1; rw [← h2] at this ⊢; exact this _ _) (fun h => by cases h) (kx_ix_in h3 h4 (by rw [arrV_size] <;> exact Nat.le_refl _)) rfl rfl hd fun H' e1 e2 e3 => ?_
  obtain ⟨g1, g2⟩ := kx_stored X hH hl hk (v := .int x) (fun z => by omega) (by rcases hx with rfl | rfl <;> rfl) e1 e2 e3
  exact k H' ls _ g1 hL g2
theorem kx_char_eq (x : Int32) : narrow .char (.int x) = .int (x.toUInt32 % 65536).toInt32 := by
  have h : narrow .char (.int x) = .int (vp_nar .char x) := rfl
  rw [h, vp_nar_char]
  congr 2
theorem kx_c_cast (X : kx_Cx D cst sz cA H0 sL sX p R s m args meth c r) (hd : decode r.2.1 pc = .ok (.castore, 1)) {i x : Int32} {a : Nat} (ha : kx_arr 104 i (some (kx_sh M a)) = true)
    (k : kx_W D cst sz cA H0 sL sX p l e R s m args below meth c r n0 s0 Q (pc + 1) L st (kx_put M a i.toNatClampNeg (.int (x.toUInt32 % 65536).toInt32))) : kx_W D cst sz cA H0 sL sX p l e R s m args below meth c r n0 s0 Q pc L (.int x :: .int i :: .ref a :: st) M := by
  intro H ls locs hH hL hl
  obtain ⟨h2, h3, h4⟩ := kx_arr_spec.mp ha
  obtain ⟨hk, hc⟩ := hH.arr (a := a) rfl (by omega) (by omega)
  refine W.cast X.1 X.2.1 hc (by have := (X.2.2.2.2.2.1.2.1 _ hk).1; rw [← h2] at this ⊢; exact this _ _) (fun h => by cases h) (kx_ix_in h3 h4 (by rw [arrV_size] <;> exact Nat.le_refl _)) rfl rfl hd fun H' e1 e2 e3 => ?_
  obtain ⟨g1, g2⟩ := kx_stored X hH hl hk (v := .int (x.toUInt32 % 65536).toInt32) (fun z => by omega) (kx_char_eq x) e1 e2 e3
  exact k H' ls _ g1 hL g2
theorem kx_nm_of {t u : Nat} (h : t = 110 ∧ u = 7 ∨ t = 111 ∧ u = 2 ∨ t = 112 ∧ u = 6 ∨ t = 113 ∧ u = 4) : u < 12 ∧ t ∈ kx_ks ∧ kx_aty t = .object (kx_nm u) := by
  rcases h with ⟨rfl, rfl⟩ | ⟨rfl, rfl⟩ | ⟨rfl, rfl⟩ | ⟨rfl, rfl⟩ <;> exact ⟨by decide, by decide, rfl⟩
theorem kx_c_aast (X : kx_Cx D cst sz cA H0 sL sX p R s m args meth c r) (hd : decode r.2.1 pc = .ok (.aastore, 1)) {i : Int32} {a b : Nat} (hn : (kx_sh M a).1 = 110 ∧ (kx_sh M b).1 = 7 ∨ (kx_sh M a).1 = 111 ∧ (kx_sh M b).1 = 2 ∨ (kx_sh M a).1 = 112 ∧ (kx_sh M b).1 = 6 ∨ (kx_sh M a).1 = 113 ∧ (kx_sh M b).1 = 4) (ha : kx_arr (kx_sh M a).1 i (some (kx_sh M a)) = true)
    (k : kx_W D cst sz cA H0 sL sX p l e R s m args below meth c r n0 s0 Q (pc + 1) L st (kx_put M a i.toNatClampNeg (.ref b))) : kx_W D cst sz cA H0 sL sX p l e R s m args below meth c r n0 s0 Q pc L (.ref b :: .int i :: .ref a :: st) M := by
  intro H ls locs hH hL hl
  obtain ⟨-, h3, h4⟩ := kx_arr_spec.mp ha
  obtain ⟨hu, hk, hty⟩ := kx_nm_of hn
  have hne : (kx_sh M a).1 ≠ 99 ∧ 12 ≤ (kx_sh M a).1 := by rcases hn with h | h | h | h <;> omega
  obtain ⟨-, hc⟩ := hH.arr (a := a) rfl hne.1 hne.2
  obtain ⟨cellV, g1, g2, g3, g4⟩ := hH.obj (a := b) rfl hu
  have hcls := (X.kn hu).2
  obtain ⟨kA, comp, k1, k2, k3, -⟩ := (show va_RA s (cA (kx_sh M a).1) (.object (kx_nm (kx_sh M b).1)) from hty ▸ (X.2.2.2.2.2.1.2.1 _ hk).2)
  have hcomp : comp = D.1 (kx_sh M b).1 := Option.some.inj (k3.symm.trans hcls.1)
  subst hcomp
  obtain ⟨kC, hkC, -⟩ := hcls.2
  refine W.aast X.1 X.2.1 hc (fun q h => by cases h) (fun h => by cases h) k1 k2 rfl hkC ⟨Int32.not_lt.mpr h3, by rw [arrV_size]; exact h4⟩ g1 (fun q h => by rw [g3] at h; cases h) (by rw [g2]; exact hkC) (by rw [g2]; exact va_assign hcls) rfl rfl hd fun H' e1 e2 e3 => ?_
  obtain ⟨h5, h6⟩ := kx_stored X hH hl hk (v := .ref b) (fun z => by rcases hn with h | h | h | h <;> omega) rfl e1 e2 e3
  exact k H' ls _ h5 hL h6
end KxArr
