/-! arraycopy, calls, ends; the whole of a method: what the engine comes to, the machine comes to -/
theorem kx_ite_some {α : Type} {P : Prop} {i : Decidable P} {x : Option α} {y : α} (h : @ite _ P i x none = some y) : P ∧ x = some y := by
  by_cases hp : P
  · rw [if_pos hp] at h; exact ⟨hp, h⟩
  · rw [if_neg hp] at h; cases h
section KxSim
variable {D : va_G} {cst : Nat → Value} {sz : Nat} {cA : Nat → ClassId} {H0 : Heap} {sL : Nat} {sX : Nat → Int32} {p : Program} {l : Launch} {e : Env} {R : Room} {s : State} {m : MethodId} {args : Array Value} {below : List Frame} {meth : Method} {c : Code} {r : kx_R} {n0 s0 : Nat} {Q : State → Prop} {pc : Nat} {L : kx_L} {st : List Value} {M : kx_M}
theorem kx_c_acopy (X : kx_Cx D cst sz cA H0 sL sX p R s m args meth c r) {k : Nat} (hd : decode r.2.1 pc = .ok (.invokestatic k, 3)) {q : Nat × Nat × Nat × Nat} (hq : kx_look kx_calT r.2.2.2.2.2.1 k = some q) (h10 : q.1 = 10) (hf : 1 ≤ R.frames ∧ kx_cat st + 20 ≤ R.locals) {n dp sp : Int32} {a : Nat} {v : Value} (hn : 0 ≤ n) (hdp : 0 ≤ dp) (hsp : 0 ≤ sp) (ha : (kx_sh M a).1 = 103) (hv : (kx_rs M v).map (·.1) = some 103) (hb1 : dp.toNatClampNeg + n.toNatClampNeg ≤ (kx_sh M a).2) (hb2 : sp.toNatClampNeg + n.toNatClampNeg ≤ ((kx_rs M v).getD (0, 0)).2)
    (kk : kx_W D cst sz cA H0 sL sX p l e R s m args below meth c r n0 s0 Q (pc + 3) L st (kx_cpy M (kx_rd M v) sp.toNatClampNeg a dp.toNatClampNeg n.toNatClampNeg)) : kx_W D cst sz cA H0 sL sX p l e R s m args below meth c r n0 s0 Q pc L (.int n :: .int dp :: .ref a :: .int sp :: v :: st) M := by
  intro H ls locs hH hL hl
  have hw : Cond.methodLink r.1.cls k arraycopyName ∈ lw_tbl := by
    rcases kx_wc_ok X.own hq with ⟨h, -⟩ | ⟨h, -⟩ | ⟨h, -⟩ | ⟨h, -⟩ | ⟨-, h⟩ | ⟨r2, -, -, -, -, h, -⟩
    · omega
    · omega
    · omega
    · omega
    · exact h
    · rcases h with ⟨h, -⟩ | ⟨h, -⟩ | ⟨h, -⟩ | ⟨h, -⟩ | ⟨h, -⟩ | ⟨h, -⟩ <;> omega
  cases hv0 : kx_rs M v with
  | none => rw [hv0] at hv; cases hv
  | some q2 =>
    obtain ⟨t2, n2⟩ := q2
    rw [hv0] at hv hb2
    have ht2 : t2 = 103 := by simpa using hv
    subst ht2
    have hb2' : sp.toNatClampNeg + n.toNatClampNeg ≤ n2 := hb2
    obtain ⟨-, w, scr, g1, g2, g3, g4, -, g5, g6⟩ := kx_arrAt X hH hv0 (show 100 < 103 by decide)
    obtain ⟨hk, hc1⟩ := hH.arr (a := a) (t := 103) ha (by decide) (by decide)
    have nn : ∀ z : Int32, 0 ≤ z → z.toInt = (z.toNatClampNeg : Int) := by
      intro z hz
      have hz0 : (0 : Int) ≤ z.toInt := by simpa using Int32.le_iff_toInt_le.mp hz
      show z.toInt = ((z.toInt.toNat : Nat) : Int)
      omega
    intro T hT Y
    obtain ⟨hs6, k0, hk0, cm0, hkk0⟩ := g3
    obtain ⟨-, k1, hk1, cm1, hkk1⟩ := (X.2.2.2.2.2.1.2.1 103 hk).1 (kx_sh M a).2 (fun j => kx_v cst sz (kx_dt M a j))
    rw [List.map_cons, List.map_cons, List.map_cons, List.map_cons, List.map_cons, g1]
    obtain ⟨vm', X', step⟩ := Y.arraycopy X.1 X.2.2.2.1 (X.tb hw rfl) (X.tb kx_w_ac1 rfl) (X.tb kx_w_ac2 rfl) (X.tb kx_w_ac3 rfl) (src := w) (dst := sz + a) (cs := scr) (cd := arrV (cA 103) (kx_sh M a).2 (fun j => kx_v cst sz (kx_dt M a j))) (srcPos := sp) (destPos := dp) (n := n) (by rw [hT]; exact g2) (by rw [hT]; exact hc1)
      hs6 (fun _ h => by cases h) g4 (fun h => by cases h) hk0 hk1 hkk0 hkk1 (by simp [refKind, kx_aty]) (Int32.not_lt.mpr hsp) (Int32.not_lt.mpr hdp) (Int32.not_lt.mpr hn)
      (by rw [nn sp hsp, nn n hn]; omega)
      (by rw [nn dp hdp, nn n hn, arrV_size]; omega)
      (fun vm₁ _ i hi => by
        obtain ⟨x, hx1, hx2⟩ := kx_src_byte X hH hv0 (j := sp.toNatClampNeg + i) (by omega)
        have e1 : scr.slots.getD (sp.toNatClampNeg + i) .null = .int x := by
          rw [Array.getD_eq_getD_getElem?, g6 _ (by omega), hx1]
          rfl
        refine ⟨?_, ?_⟩
        · rw [e1]
          exact hx2
        · rw [e1]
          exact trivial)
      (g := F0 m pc ls (.int n :: .int dp :: .ref (sz + a) :: .int sp :: .ref w :: st.map (kx_v cst sz))) rfl (by show ls.size = _; rw [hL.2.1, X.2.2.1]) (rest := st.map (kx_v cst sz)) rfl (by rw [X.2.1]; exact hd) hf.1 (by
        have e9 : nativeFrameWords "java/lang/System" "arraycopy" 5 = 7 := by decide
        rw [e9, kx_cat_v X.w3]
        show 2 * 0 + _ + _ ≤ _
        omega)
    have e1 : copied scr (arrV (cA 103) (kx_sh M a).2 (fun j => kx_v cst sz (kx_dt M a j))) sp dp n = arrV (cA 103) (kx_sh M a).2 (fun j => va_cpy (fun j => kx_v cst sz (kx_rd M v j)) (fun j => kx_v cst sz (kx_dt M a j)) sp.toNatClampNeg dp.toNatClampNeg n.toNatClampNeg j) := va_copiedX (fun z => z) scr (cA 103) (fun j => kx_v cst sz (kx_rd M v j)) (fun j => kx_v cst sz (kx_dt M a j)) g6 hb2'
    rw [e1] at X' step
    have hlt : sz + a < H.size := (Array.getElem?_eq_some_iff.mp hc1).1
    have hnew : kx_Rep D cst sz cA H0 sL sX (kx_cpy M (kx_rd M v) sp.toNatClampNeg a dp.toNatClampNeg n.toNatClampNeg) (H.setIfInBounds (sz + a) (arrV (cA 103) (kx_sh M a).2 (fun j => va_cpy (fun j => kx_v cst sz (kx_rd M v j)) (fun j => kx_v cst sz (kx_dt M a j)) sp.toNatClampNeg dp.toNatClampNeg n.toNatClampNeg j))) := by
      refine hH.one (a := a) rfl (fun _ => rfl) (fun b hb j => ?_) rfl (by simp) (fun q hq => by simp [Array.getElem?_setIfInBounds, Ne.symm hq]) (Or.inr ⟨by show (kx_sh M a).1 ∈ _; rw [ha]; exact hk, ?_, ?_⟩)
      · show (if b = a ∧ _ then _ else _) = _
        rw [if_neg (fun z => hb z.1)]
        rfl
      · show (H.setIfInBounds (sz + a) _)[sz + a]? = some (arrV (cA (kx_sh M a).1) (kx_sh M a).2 _)
        rw [ha]
        simp only [Array.getElem?_setIfInBounds, hlt, if_true]
        congr 1
        refine kx_arrV_ext fun j _ => ?_
        show va_cpy _ _ _ _ _ j = kx_v cst sz (if a = a ∧ _ then _ else _)
        unfold va_cpy
        by_cases hj : dp.toNatClampNeg ≤ j ∧ j < dp.toNatClampNeg + n.toNatClampNeg
        · rw [if_pos hj, if_pos ⟨rfl, hj⟩]
        · rw [if_neg hj, if_neg (fun z => hj z.2)]
          rfl
      · intro h103 j hj
        show ∃ x, (if a = a ∧ _ then _ else _) = _ ∧ _
        by_cases hj2 : dp.toNatClampNeg ≤ j ∧ j < dp.toNatClampNeg + n.toNatClampNeg
        · rw [if_pos ⟨rfl, hj2⟩]
          exact kx_src_byte X hH hv0 (by omega)
        · rw [if_neg (fun z => hj2 z.2)]
          exact hH.byt (a := a) ha j hj
    have hheap : ((T.setVm vm').setCell (sz + a) (arrV (cA 103) (kx_sh M a).2 (fun j => va_cpy (fun j => kx_v cst sz (kx_rd M v j)) (fun j => kx_v cst sz (kx_dt M a j)) sp.toNatClampNeg dp.toNatClampNeg n.toNatClampNeg j))).heap = H.setIfInBounds (sz + a) (arrV (cA 103) (kx_sh M a).2 (fun j => va_cpy (fun j => kx_v cst sz (kx_rd M v j)) (fun j => kx_v cst sz (kx_dt M a j)) sp.toNatClampNeg dp.toNatClampNeg n.toNatClampNeg j)) := by rw [← hT]; rfl
    obtain ⟨t, a1, b1⟩ := kk _ ls _ hnew hL (fun q hq => by
      rcases List.mem_append.mp hq with h | h
      · exact hl q h
      · obtain ⟨z, -, hz⟩ := List.mem_map.mp h
        rw [← hz]
        exact Nat.le_add_right _ _) _ hheap X'
    exact ⟨t, step t a1, b1⟩
/-- what is known of a method that is called -/
def kx_ws (r : kx_R) : List Cond := Cond.code r.1 r.2.1 r.2.2.1 r.2.2.2.1 :: kx_tb
def kx_rm (r : kx_R) (mc ms : Nat) : Room := { frames := r.2.2.2.2.2.2.1, cells := mc, slots := ms, locals := r.2.2.2.2.2.2.2.1 }
def kx_Pc (D : va_G) (cst : Nat → Value) (sz : Nat) (cA : Nat → ClassId) (H0 : Heap) (sL : Nat) (sX : Nat → Int32) (As : List Value) (M : kx_M) : Array Value → State → Prop := fun v U => v = (As.map (kx_v cst sz)).toArray ∧ kx_G D cst sz cA H0 sL sX U ∧ kx_Rep D cst sz cA H0 sL sX M U.heap
def kx_Qc (D : va_G) (cst : Nat → Value) (sz : Nat) (cA : Nat → ClassId) (H0 : Heap) (sL : Nat) (sX : Nat → Int32) (v : Option Value) (M : kx_M) : Array Value → State → Outcome → State → Prop := fun _ _ o t => o = .returned (v.map (kx_v cst sz)) ∧ kx_Rep D cst sz cA H0 sL sX M t.heap
def kx_Met (l : Launch) (D : va_G) (cst : Nat → Value) (sz : Nat) (cA : Nat → ClassId) (H0 : Heap) (sL : Nat) (sX : Nat → Int32) (r : kx_R) (As : List Value) (M : kx_M) (v : Option Value) (M' : kx_M) : Prop :=
  Met l r.1 (kx_ws r) (kx_rm r (kx_nx M' - kx_nx M) (kx_sl M' - kx_sl M)) (kx_Pc D cst sz cA H0 sL sX As M) (kx_Qc D cst sz cA H0 sL sX v M') (kx_nx M' - kx_nx M) (kx_sl M' - kx_sl M) (fun q => sz ≤ q)
theorem kx_blind {As : List Value} : FrameBlind (kx_Pc D cst sz cA H0 sL sX As M) := fun a U g mk h => ⟨h.1, kx_G.same rfl h.2.1, h.2.2⟩
theorem kx_tb_good : ∀ w ∈ kx_tb, goodWord w = true := by
  intro w hw
  rcases List.mem_append.mp hw with h | h
  · obtain ⟨y, -, rfl⟩ := List.mem_map.mp h
    rfl
  · exact (List.mem_filter.mp h).2
theorem kx_ws_in {r2 : kx_R} (h : Cond.code r2.1 r2.2.1 r2.2.2.1 r2.2.2.2.1 ∈ lw_tbl) : GoodIn kx_tb (kx_ws r2) := by
  intro w hw
  rcases List.mem_cons.mp hw with rfl | hw
  · exact ⟨kx_tin h rfl, good_of_word rfl⟩
  · exact ⟨hw, good_of_word (kx_tb_good w hw)⟩
/-- behind a call -/
theorem kx_called {H : Heap} {ls : Array Slot} {locs : List Loc} {st0 rest : List Value} {a : Array Value} {v : Option Value} {M' : kx_M} (h1 : n0 ≤ kx_nx M ∧ s0 ≤ kx_sl M) (h2 : kx_nx M ≤ kx_nx M' ∧ kx_sl M ≤ kx_sl M') (hL : kx_LR cst sz r.2.2.2.2.2.2.2.2 r.2.2.1 ls L) (hl : ∀ q ∈ locs, sz ≤ q.base)
    (hr : va_Run p l e R s m args below meth c H locs (kx_nx M - n0) (kx_sl M - s0) (kx_nx M' - kx_nx M) (kx_sl M' - kx_sl M) (F0 m pc ls st0) (rest.map (kx_v cst sz)) (kx_Qc D cst sz cA H0 sL sX v M' a) (fun q => sz ≤ q))
    (k : kx_W D cst sz cA H0 sL sX p l e R s m args below meth c r n0 s0 Q (pc + 3) L (v.toList ++ rest) M') : W p l e R s m args below meth c H locs (kx_nx M - n0) (kx_sl M - s0) Q (F0 m pc ls st0) := by
  intro T hT Y
  obtain ⟨v', st₀, t, T', Lc, g0, X', hLc, e1, e2, ⟨hv, hRep⟩, stp⟩ := hr T hT Y
  have hv' : v' = v.map (kx_v cst sz) := by injection hv
  subst hv'
  rw [show kx_nx M - n0 + (kx_nx M' - kx_nx M) = kx_nx M' - n0 by omega, show kx_sl M - s0 + (kx_sl M' - kx_sl M) = kx_sl M' - s0 by omega] at X'
  obtain ⟨t2, a1, b1⟩ := k T'.heap ls (locs ++ Lc) (by rw [e1]; exact hRep) hL (fun q hq => by
    rcases List.mem_append.mp hq with h | h
    · exact hl q h
    · exact hLc q h) T' rfl X'
  refine ⟨t2, stp t2 ?_, b1⟩
  have e3 : (v.map (kx_v cst sz)).toList ++ rest.map (kx_v cst sz) = (v.toList ++ rest).map (kx_v cst sz) := by cases v <;> rfl
  rw [e3]
  exact a1
theorem kx_Cx.fix (X : kx_Cx D cst sz cA H0 sL sX p R s m args meth c r) : CallFix p m c r.2.1 r.2.2.1 s args kx_tb r.1.cls := ⟨X.1, X.2.1, X.2.2.1, X.2.2.2.1, X.2.2.2.2.1⟩
theorem kx_PreS (X : kx_Cx D cst sz cA H0 sL sX p R s m args meth c r) {H : Heap} (hH : kx_Rep D cst sz cA H0 sL sX M H) (As : List Value) : PreS s H (kx_Pc D cst sz cA H0 sL sX As M) (As.map (kx_v cst sz)) :=
  ⟨kx_blind, fun U hU hW => ⟨rfl, kx_G.warm hW X.2.2.2.2.2.1, by rw [hU]; exact hH⟩⟩
theorem kx_PreV (X : kx_Cx D cst sz cA H0 sL sX p R s m args meth c r) {H : Heap} (hH : kx_Rep D cst sz cA H0 sL sX M H) {v : Value} {b : Nat} {C : String} (As : List Value) (hv : kx_v cst sz v = .ref b) (hb : ∃ cellB : Cell, H[b]? = some cellB ∧ cellB.vm.isStatics = false ∧ s.vm.findClass C = some cellB.cls) : PreV s H C b (kx_Pc D cst sz cA H0 sL sX (v :: As) M) (As.map (kx_v cst sz)) :=
  ⟨kx_blind, hb, fun U hU hW => ⟨by rw [List.map_cons, hv], kx_G.warm hW X.2.2.2.2.2.1, by rw [hU]; exact hH⟩⟩
theorem kx_room8 {ls : Array Slot} {st0 rest : List Value} (h3 : ∀ c, cst c = .null ∨ ∃ t, cst c = .ref t) (h : kx_cat rest ≤ 8) : 2 * (F0 m pc ls st0).monitorRoom + ((rest.map (kx_v cst sz)).map fun v => v.category).sum ≤ 8 := by
  rw [kx_cat_v h3]
  show 2 * 0 + _ ≤ 8
  omega
/-- a receiver of one of the system's classes, or a const String -/
theorem kx_recv (X : kx_Cx D cst sz cA H0 sL sX p R s m args meth c r) {H : Heap} (hH : kx_Rep D cst sz cA H0 sL sX M H) {v : Value} {rc : Nat} {C : String} (hv : (kx_rs M v).map (·.1) = some rc) (hC : rc < 12 ∧ kx_nm rc = C ∨ rc = 12 ∧ C = "java/lang/String") :
    ∃ b, kx_v cst sz v = .ref b ∧ ∃ cellB : Cell, H[b]? = some cellB ∧ cellB.vm.isStatics = false ∧ s.vm.findClass C = some cellB.cls := by
  cases v with
  | ref a =>
    have hs : (kx_sh M a).1 = rc := by simpa [kx_rs] using hv
    rcases hC with ⟨hlt, rfl⟩ | ⟨h12, -⟩
    · obtain ⟨cell, g1, g2, g3, -⟩ := hH.obj hs hlt
      exact ⟨_, rfl, cell, g1, by rw [g3]; rfl, by rw [g2]; exact (X.kn hlt).2.1⟩
    · exfalso
      have hlt2 := hH.lt (a := a) (by omega)
      rcases hH.2.2.1 a hlt2 with ⟨h1, -⟩ | ⟨h1, -⟩
      · omega
      · rw [hs, h12] at h1
        exact absurd h1 (by decide)
  | retAddr cc =>
    by_cases h0 : cc = 0
    · subst h0; simp [kx_rs] at hv
    by_cases h1 : cc = 1
    · subst h1
      have : 101 = rc := by simpa [kx_rs] using hv
      rcases hC with ⟨hlt, -⟩ | ⟨h12, -⟩ <;> omega
    have hs : (kx_csh cc).1 = rc := by simpa [kx_rs, h0, h1] using hv
    rcases hC with ⟨hlt, -⟩ | ⟨h12, rfl⟩
    · exfalso
      unfold kx_csh at hs
      split at hs
      · rename_i hlt2
        have : ∀ c : Nat, c < 10 → 12 ≤ (kx_ca.getD c (99, [])).1 := by decide
        have := this cc hlt2
        omega
      · split at hs
        · rw [← hs] at hlt; exact absurd (show 99 < 12 from hlt) (by decide)
        · split at hs
          · rw [← hs] at hlt; exact absurd (show 12 < 12 from hlt) (by decide)
          · rw [← hs] at hlt; exact absurd (show 103 < 12 from hlt) (by decide)
    · obtain ⟨t, e1, ⟨cell, g1, g2, g3, g4⟩, -, -⟩ := X.2.2.2.2.2.1.2.2.2.2.2.1 cc (by omega) (by omega)
      exact ⟨t, e1, cell, by rw [hH.2.1 t (Nat.not_le.mp g4)]; exact g1, g2, g3⟩
  | _ => simp [kx_rs] at hv
theorem kx_initw {own : String} {n : Nat} {q : Nat × Nat × Nat × Nat} (h : kx_okC own n q) (h7 : q.1 ≠ 7) (h10 : q.1 ≠ 10) (h20 : ¬ (20 ≤ q.1 ∧ q.1 ≤ 22)) : ∃ r, kx_meth q.2.1 = some r ∧ r.1.cls ≠ "KiteWarLaw" ∧ (parseMethodDescriptor r.1.desc).map (fun d => d.parameters.length) = some q.2.2.1 ∧ Cond.initialized r.1.cls ∈ lw_tbl ∧ kx_okC1 own n q r.1 ∧ (q.1 = 5 ∨ q.1 = 6 → r.2.2.2.1 = none) := by
  rcases h with ⟨h, -⟩ | ⟨h, -⟩ | ⟨h, -⟩ | ⟨h, -⟩ | ⟨h, -⟩ | h
  · omega
  · omega
  · omega
  · omega
  · omega
  · exact h
/-- a call, whatever its kind -/
theorem kx_c_call (X : kx_Cx D cst sz cA H0 sL sX p R s m args meth c r) {I : Instr} {n : Nat} {ok : Nat → Bool} (hI : I = .invokevirtual n ∧ (∀ k, ok k = true → k = 3 ∨ k = 9) ∨ I = .invokestatic n ∧ (∀ k, ok k = true → k = 4) ∨ I = .invokespecial n ∧ (∀ k, ok k = true → k = 5 ∨ k = 6 ∨ k = 8)) (hd : decode r.2.1 pc = .ok (I, 3)) {q : Nat × Nat × Nat × Nat} (hq : kx_look kx_calT r.2.2.2.2.2.1 n = some q)
    {fr lo : Nat} (hfr : fr ≤ R.frames ∧ lo ≤ R.locals) {j : Nat} {As : List Value} {pc' : Nat} {L' : kx_L} {rest : List Value} {M1 : kx_M} (hinv : kx_inv fr lo pc L st M q ok = some (.inr (.inl (j, As, (pc', L', rest, M1))))) (hn : n0 ≤ kx_nx M ∧ s0 ≤ kx_sl M)
    {v : Option Value} {M' : kx_M} (hmon : kx_nx M ≤ kx_nx M' ∧ kx_sl M ≤ kx_sl M') (hcap : kx_nx M' - n0 ≤ R.cells ∧ kx_sl M' - s0 ≤ R.slots) (hM : ∀ r2, kx_meth j = some r2 → r2.1.cls ≠ "KiteWarLaw" → kx_fits r2 As = true → kx_Met l D cst sz cA H0 sL sX r2 As M v M')
    (k : kx_W D cst sz cA H0 sL sX p l e R s m args below meth c r n0 s0 Q pc' L' (v.toList ++ rest) M') : kx_W D cst sz cA H0 sL sX p l e R s m args below meth c r n0 s0 Q pc L st M := by
  intro H ls locs hH hL hl
  unfold kx_inv at hinv
  split at hinv
  next => cases hinv
  next r2 hr2 =>
  dsimp only at hinv
  split at hinv
  next => cases hinv
  next hcond =>
  have hok : ok q.1 = true := by
    cases h : ok q.1 with
    | true => rfl
    | false => exact absurd (Or.inl h) hcond
  have hlen : q.2.2.1 ≤ st.length := Nat.not_lt.mp (fun z => hcond (Or.inr (Or.inl z)))
  have hroom : r2.2.2.2.2.2.2.1 + 1 ≤ fr ∧ 8 + (r2.2.2.1 + 11) + r2.2.2.2.2.2.2.2.1 ≤ lo := Decidable.not_not.mp (fun z => hcond (Or.inr (Or.inr z)))
  have hk37 : q.1 = 3 ∨ q.1 = 9 ∨ q.1 = 4 ∨ q.1 = 5 ∨ q.1 = 6 ∨ q.1 = 8 := by
    rcases hI with ⟨-, h⟩ | ⟨-, h⟩ | ⟨-, h⟩
    · rcases h _ hok with h | h <;> omega
    · have := h _ hok; omega
    · rcases h _ hok with h | h | h <;> omega
  obtain ⟨r2', hr2', hnl, hpar, hini, hw, hnone⟩ := kx_initw (kx_wc_ok X.own hq) (by omega) (by omega) (by omega)
  cases hr2.symm.trans hr2'
  obtain ⟨-, -, hm4⟩ := kx_wm_ok hr2
  obtain ⟨hcode, -, hmh⟩ := hm4.resolve_left hnl
  have hG := kx_ws_in hcode
  have hR : (kx_rm r2 (kx_nx M' - kx_nx M) (kx_sl M' - kx_sl M)).frames + 1 ≤ R.frames ∧ 8 + (r2.2.2.1 + 11) + (kx_rm r2 (kx_nx M' - kx_nx M) (kx_sl M' - kx_sl M)).locals ≤ R.locals := ⟨by show r2.2.2.2.2.2.2.1 + 1 ≤ _; omega, by show 8 + (r2.2.2.1 + 11) + r2.2.2.2.2.2.2.2.1 ≤ _; omega⟩
  have hcap2 : kx_nx M - n0 + (kx_nx M' - kx_nx M) ≤ R.cells ∧ kx_sl M - s0 + (kx_sl M' - kx_sl M) ≤ R.slots := by omega
  have hdrop : st = st.take q.2.2.1 ++ st.drop q.2.2.1 := (List.take_append_drop _ _).symm
  have hal : ((st.take q.2.2.1).reverse.map (kx_v cst sz)).length = q.2.2.1 := by rw [List.length_map, List.length_reverse, List.length_take]; omega
  have hstk : st.map (kx_v cst sz) = ((st.take q.2.2.1).reverse.map (kx_v cst sz)).reverse ++ (st.drop q.2.2.1).map (kx_v cst sz) := by
    rw [← List.map_reverse, List.reverse_reverse, ← List.map_append, ← hdrop]
  split at hinv
  next h4 =>
    split at hinv
    next hc8 =>
      cases hinv
      have hst4 : Cond.methodLink r.1.cls n r2.1 ∈ lw_tbl ∧ Cond.static r2.1 ∈ lw_tbl := by
        rcases hw with ⟨h, -⟩ | ⟨-, h1, h2⟩ | ⟨h, -⟩ | ⟨h, -⟩ | ⟨h, -⟩ | ⟨h, -⟩
        · omega
        · exact ⟨h1, h2⟩
        all_goals omega
      have hIs : I = .invokestatic n := by
        rcases hI with ⟨-, h⟩ | ⟨h, -⟩ | ⟨-, h⟩
        · rcases h _ hok with h | h <;> omega
        · exact h
        · rcases h _ hok with h | h | h <;> omega
      rw [hIs] at hd
      exact kx_called (a := ((st.take q.2.2.1).reverse.map (kx_v cst sz)).toArray) hn hmon hL hl (va_runS X.fix (hM r2 hr2 hnl hc8.2) ⟨callB_of q.2.2.1 X.2.2.2.2.1 hG rfl rfl rfl (X.tb hini rfl) (X.tb hst4.1 rfl) ⟨hmh.1, hmh.2, hpar⟩ hR, X.tb hst4.2 rfl⟩ (kx_PreS X hH _) rfl hal hL.2.1 hstk (kx_room8 X.w3 hc8.1) hd hcap2) k
    next => cases hinv
  next h4 =>
    split at hinv
    next v0 r3 hrest =>
        obtain ⟨hc8, hinv⟩ := kx_ite_some hinv
        cases hinv
        obtain ⟨hc8, hft, hrc⟩ := hc8
        rw [hrest, List.map_cons] at hstk
        have hrv : q.1 ≠ 5 → q.1 ≠ 6 → (kx_rs M v0).map (·.1) = some q.2.2.2 := by
          intro h5 h6
          rw [if_neg (by omega)] at hrc
          exact eq_of_beq hrc
        have hri : q.1 = 5 ∨ q.1 = 6 → ∃ b, v0 = .ref b := by
          intro h56
          rw [if_pos h56] at hrc
          cases v0 <;> first | exact ⟨_, rfl⟩ | cases hrc
        rcases hw with ⟨h3, w1, w2, w3, w4⟩ | ⟨h, -⟩ | ⟨h5, w1, w2, w3⟩ | ⟨h6, ⟨x, hx, hx1, hx2, hx3⟩, w2, w3⟩ | ⟨h8, w1, w2, w3, w4, w5, w6⟩ | ⟨h9, w1, w2, w3, w4, w6⟩
        · have hIs : I = .invokevirtual n := by
            rcases hI with ⟨h, -⟩ | ⟨-, h⟩ | ⟨-, h⟩
            · exact h
            · have := h _ hok; omega
            · rcases h _ hok with h | h | h <;> omega
          rw [hIs] at hd
          obtain ⟨b, hb, hcell⟩ := kx_recv X hH (hrv (by omega) (by omega)) w4
          rw [hb] at hstk
          refine kx_called (a := #[]) hn hmon hL hl ?_ k
          rw [hstk]
          exact va_runV X.fix (hM r2 hr2 hnl hft) ⟨callB_of q.2.2.1 X.2.2.2.2.1 hG rfl rfl rfl (X.tb hini rfl) (X.tb w1 rfl) ⟨hmh.1, hmh.2, hpar⟩ hR, X.tb w2 rfl, X.tb w3 rfl⟩ (kx_PreV X hH _ hb hcell) rfl hal hL.2.1 rfl (kx_room8 X.w3 hc8) hd hcap2
        · omega
        · have hIs : I = .invokespecial n := by
            rcases hI with ⟨-, h⟩ | ⟨-, h⟩ | ⟨h, -⟩
            · rcases h _ hok with h | h <;> omega
            · have := h _ hok; omega
            · exact h
          rw [hIs] at hd
          obtain ⟨b, rfl⟩ := hri (Or.inl h5)
          refine kx_called (a := #[]) hn hmon hL hl ?_ k
          rw [hstk]
          have hcb := callB_of (R := R) (args := args) q.2.2.1 X.2.2.2.2.1 hG rfl rfl rfl (X.tb hini rfl) (X.tb w1 rfl) ⟨hmh.1, hmh.2, hpar⟩ hR
          rw [hnone (Or.inl h5)] at hcb
          exact va_runI X.fix (hM r2 hr2 hnl hft) ⟨hcb, w3, X.tb w2 rfl⟩ (kx_PreS X hH (Value.ref b :: (st.take q.2.2.1).reverse)) rfl hal hL.2.1 rfl (kx_room8 X.w3 hc8) hd hcap2
        · have hIs : I = .invokespecial n := by
            rcases hI with ⟨-, h⟩ | ⟨-, h⟩ | ⟨h, -⟩
            · rcases h _ hok with h | h <;> omega
            · have := h _ hok; omega
            · exact h
          rw [hIs] at hd
          obtain ⟨b, rfl⟩ := hri (Or.inr h6)
          refine kx_called (a := #[]) hn hmon hL hl ?_ k
          rw [hstk]
          have hnw := X.2.2.2.2.2.1.2.2.2.2.2.2.2.2.1 x hx
          rw [hx1, hx2, hx3] at hnw
          have hcb := va_cnB (R := R) (args := args) q.2.2.1 X.2.2.2.2.1 hG rfl rfl rfl hnw (X.tb hini rfl) ⟨hmh.1, hmh.2, hpar⟩ hR
          rw [hnone (Or.inr h6)] at hcb
          exact va_runIN X.fix (hM r2 hr2 hnl hft) ⟨hcb, w3, X.tb w2 rfl⟩ (kx_PreS X hH (Value.ref b :: (st.take q.2.2.1).reverse)) rfl hal hL.2.1 rfl (kx_room8 X.w3 hc8) hd hcap2
        · have hIs : I = .invokespecial n := by
            rcases hI with ⟨-, h⟩ | ⟨-, h⟩ | ⟨h, -⟩
            · rcases h _ hok with h | h <;> omega
            · have := h _ hok; omega
            · exact h
          rw [hIs] at hd
          obtain ⟨b, hb, hcell⟩ := kx_recv X hH (hrv (by omega) (by omega)) (Or.inl ⟨by omega, rfl⟩)
          rw [hb] at hstk
          refine kx_called (a := #[]) hn hmon hL hl ?_ k
          rw [hstk]
          exact va_runSU (cC := D.1 q.2.2.2) (X.kn (by omega)).2 X.fix (hM r2 hr2 hnl hft) (va_cwSU q.2.2.1 X.2.2.2.2.1 (fun w hw => by
            rcases List.mem_append.mp hw with h | h
            · simp only [List.mem_cons, List.not_mem_nil, or_false] at h
              rcases h with rfl | rfl | rfl | rfl | rfl
              · exact ⟨kx_tin w1 rfl, good_of_word rfl⟩
              · exact ⟨kx_tin w2 rfl, good_of_word rfl⟩
              · exact ⟨kx_tin w3 rfl, good_of_word rfl⟩
              · exact ⟨kx_tin w4 rfl, good_of_word rfl⟩
              · exact ⟨kx_tin hini rfl, good_of_word rfl⟩
            · exact hG w h) rfl rfl rfl ⟨w5, hpar⟩ hR) (kx_PreV X hH _ hb hcell) rfl hal hL.2.1 rfl (kx_room8 X.w3 hc8) hd hcap2
        · have hIs : I = .invokevirtual n := by
            rcases hI with ⟨h, -⟩ | ⟨-, h⟩ | ⟨-, h⟩
            · exact h
            · have := h _ hok; omega
            · rcases h _ hok with h | h | h <;> omega
          rw [hIs] at hd
          obtain ⟨b, hb, hcell⟩ := kx_recv X hH (hrv (by omega) (by omega)) (Or.inl ⟨by omega, rfl⟩)
          rw [hb] at hstk
          refine kx_called (a := #[]) hn hmon hL hl ?_ k
          rw [hstk]
          rw [w6] at hcell
          exact va_runU (C := "java/lang/StringBuilder") (owner := r2.1.cls) X.fix (hM r2 hr2 hnl hft) (va_cwU (x := r2.1) q.2.2.1 X.2.2.2.2.1 (fun w hw => by
            rcases List.mem_append.mp hw with h | h
            · simp only [List.mem_cons, List.not_mem_nil, or_false] at h
              rcases h with rfl | rfl | rfl | rfl | rfl
              · exact ⟨kx_tin w1 rfl, good_of_word rfl⟩
              · exact ⟨kx_tin w2 rfl, good_of_word rfl⟩
              · exact ⟨w4, good_of_word rfl⟩
              · exact ⟨kx_tin w3 rfl, good_of_word rfl⟩
              · exact ⟨kx_tin hini rfl, good_of_word rfl⟩
            · exact hG w h) rfl rfl rfl rfl ⟨hmh.1, hmh.2, hpar⟩ hR) (kx_PreV X hH _ hb hcell) rfl hal hL.2.1 rfl (kx_room8 X.w3 hc8) hd hcap2
    next => cases hinv
end KxSim
