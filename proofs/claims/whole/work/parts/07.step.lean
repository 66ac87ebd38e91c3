/-! one instruction of the engine is one of the machine -/
def kx_Cx (D : va_G) (cst : Nat → Value) (sz : Nat) (cA : Nat → ClassId) (H0 : Heap) (sL : Nat) (sX : Nat → Int32) (p : Program) (R : Room) (s : State) (m : MethodId) (args : Array Value) (meth : Method) (c : Code) (r : kx_R) : Prop :=
  p.tables.exec = Jvm.exec ∧ c.code = r.2.1 ∧ c.maxLocals = r.2.2.1 ∧ s.vm.findClass r.1.cls = some m.cls ∧ (∀ w ∈ kx_tb, w.before args s = true) ∧ kx_G D cst sz cA H0 sL sX s ∧ meth.sig.returnType = r.2.2.2.1 ∧ meth.locks = false ∧ (r.1.name = "<init>" → meth.name = "<init>") ∧ kx_okM r ∧ sz ≤ s.heap.size ∧ r.2.2.2.2.2.2.1 ≤ R.frames ∧ r.2.2.2.2.2.2.2.1 ≤ R.locals
def kx_W (D : va_G) (cst : Nat → Value) (sz : Nat) (cA : Nat → ClassId) (H0 : Heap) (sL : Nat) (sX : Nat → Int32) (p : Program) (l : Launch) (e : Env) (R : Room) (s : State) (m : MethodId) (args : Array Value) (below : List Frame) (meth : Method) (c : Code) (r : kx_R) (n0 s0 : Nat) (Q : State → Prop) (pc : Nat) (L : kx_L) (st : List Value) (M : kx_M) : Prop :=
  ∀ (H : Heap) (ls : Array Slot) (locs : List Loc), kx_Rep D cst sz cA H0 sL sX M H → kx_LR cst sz r.2.2.2.2.2.2.2.2 r.2.2.1 ls L → (∀ q ∈ locs, sz ≤ q.base) → W p l e R s m args below meth c H locs (kx_nx M - n0) (kx_sl M - s0) Q (F0 m pc ls (st.map (kx_v cst sz)))
section KxStep
variable {D : va_G} {cst : Nat → Value} {sz : Nat} {cA : Nat → ClassId} {H0 : Heap} {sL : Nat} {sX : Nat → Int32} {p : Program} {l : Launch} {e : Env} {R : Room} {s : State} {m : MethodId} {args : Array Value} {below : List Frame} {meth : Method} {c : Code} {r : kx_R} {n0 s0 : Nat} {Q : State → Prop} {pc : Nat} {L : kx_L} {st : List Value} {M : kx_M}
theorem kx_Cx.w3 (X : kx_Cx D cst sz cA H0 sL sX p R s m args meth c r) : ∀ c, cst c = .null ∨ ∃ t, cst c = .ref t := X.2.2.2.2.2.1.2.2.1
theorem kx_Cx.tb (X : kx_Cx D cst sz cA H0 sL sX p R s m args meth c r) {w : Cond} (h : w ∈ lw_tbl) (hg : goodWord w = true) : w.before args s = true := X.2.2.2.2.1 w (kx_tin h hg)
/-- from an instruction to the next, nothing but stack and place -/
theorem kx_c_st {pc' : Nat} {st' : List Value} (h : ∀ (H : Heap) (ls : Array Slot) (locs : List Loc), W p l e R s m args below meth c H locs (kx_nx M - n0) (kx_sl M - s0) Q (F0 m pc' ls (st'.map (kx_v cst sz))) → W p l e R s m args below meth c H locs (kx_nx M - n0) (kx_sl M - s0) Q (F0 m pc ls (st.map (kx_v cst sz))))
    (k : kx_W D cst sz cA H0 sL sX p l e R s m args below meth c r n0 s0 Q pc' L st' M) : kx_W D cst sz cA H0 sL sX p l e R s m args below meth c r n0 s0 Q pc L st M :=
  fun H ls locs hH hL hl => h H ls locs (k H ls locs hH hL hl)
theorem kx_c_ld {pc' : Nat} {st' : List Value} {n : Nat} {v : Value} (hn : L[n]? = some (some v)) (h : ∀ (H : Heap) (ls : Array Slot) (locs : List Loc), ls[n]? = some (.val (kx_v cst sz v)) → W p l e R s m args below meth c H locs (kx_nx M - n0) (kx_sl M - s0) Q (F0 m pc' ls (st'.map (kx_v cst sz))) → W p l e R s m args below meth c H locs (kx_nx M - n0) (kx_sl M - s0) Q (F0 m pc ls (st.map (kx_v cst sz))))
    (k : kx_W D cst sz cA H0 sL sX p l e R s m args below meth c r n0 s0 Q pc' L st' M) : kx_W D cst sz cA H0 sL sX p l e R s m args below meth c r n0 s0 Q pc L st M :=
  fun H ls locs hH hL hl => h H ls locs (hL.2.2.2 n v hn).1 (k H ls locs hH hL hl)
theorem kx_refcases (h3 : ∀ c, cst c = .null ∨ ∃ t, cst c = .ref t) {v : Value} (h : kx_ref v = true) : kx_v cst sz v = .null ∨ ∃ t, kx_v cst sz v = .ref t := by
  cases v with
  | ref a => exact Or.inr ⟨_, rfl⟩
  | null => exact Or.inl rfl
  | retAddr c => exact h3 c
  | _ => cases h
theorem kx_refcat {v : Value} (h : kx_ref v = true) : v.category = 1 := by cases v <;> first | rfl | cases h
theorem kx_c_aload (X : kx_Cx D cst sz cA H0 sL sX p R s m args meth c r) {n : Nat} (hd : decode r.2.1 pc = .ok (.aload n, 2)) {v : Value} (hn : L[n]? = some (some v)) (hr : kx_ref v = true)
    (k : kx_W D cst sz cA H0 sL sX p l e R s m args below meth c r n0 s0 Q (pc + 2) L (v :: st) M) : kx_W D cst sz cA H0 sL sX p l e R s m args below meth c r n0 s0 Q pc L st M := by
  refine kx_c_ld hn (fun H ls locs hs w => ?_) k
  rcases kx_refcases (sz := sz) X.w3 hr with h | ⟨t, h⟩
  · rw [List.map_cons] at w; rw [h] at hs w; exact lv_aloadN X.1 X.2.1 hd hs w
  · rw [List.map_cons] at w; rw [h] at hs w; exact lv_aload X.1 X.2.1 hd hs w
theorem kx_c_aload_n (X : kx_Cx D cst sz cA H0 sL sX p R s m args meth c r) {n : Fin 4} (hd : decode r.2.1 pc = .ok (.aload_n n, 1)) {v : Value} (hn : L[(n : Nat)]? = some (some v)) (hr : kx_ref v = true)
    (k : kx_W D cst sz cA H0 sL sX p l e R s m args below meth c r n0 s0 Q (pc + 1) L (v :: st) M) : kx_W D cst sz cA H0 sL sX p l e R s m args below meth c r n0 s0 Q pc L st M := by
  refine kx_c_ld hn (fun H ls locs hs w => ?_) k
  rcases kx_refcases (sz := sz) X.w3 hr with h | ⟨t, h⟩
  · rw [List.map_cons] at w; rw [h] at hs w; exact lv_aload_nN X.1 X.2.1 hd rfl hs w
  · rw [List.map_cons] at w; rw [h] at hs w; exact lv_aload_n X.1 X.2.1 hd rfl hs w
theorem kx_c_s1 {pc' : Nat} {st' : List Value} {n : Nat} {v : Value} (h3 : ∀ c, cst c = .null ∨ ∃ t, cst c = .ref t) (hv : v.category = 1) (hm : ¬ (n ∈ r.2.2.2.2.2.2.2.2 ∨ L.length ≤ n))
    (h : ∀ (H : Heap) (ls : Array Slot) (locs : List Loc), lv_has ls r.2.2.1 (kx_kn cst sz L) → n < r.2.2.1 → (∀ ls' : Array Slot, lv_has ls' r.2.2.1 ((n, kx_v cst sz v) :: (kx_kn cst sz L).filter (fun q => !(q.1 == n) && !(q.1 + 1 == n && q.2.category == 2))) → W p l e R s m args below meth c H locs (kx_nx M - n0) (kx_sl M - s0) Q (F0 m pc' ls' (st'.map (kx_v cst sz)))) → W p l e R s m args below meth c H locs (kx_nx M - n0) (kx_sl M - s0) Q (F0 m pc ls (st.map (kx_v cst sz))))
    (k : kx_W D cst sz cA H0 sL sX p l e R s m args below meth c r n0 s0 Q pc' (L.set n (some v)) st' M) : kx_W D cst sz cA H0 sL sX p l e R s m args below meth c r n0 s0 Q pc L st M := by
  intro H ls locs hH hL hl
  refine h H ls locs hL.has ?_ (fun ls' h' => k H ls' locs hH (hL.s1 h3 (fun z => hm (Or.inl z)) hv h') hl)
  have := hL.1
  have := Nat.not_le.mp (fun z => hm (Or.inr z))
  omega
theorem kx_c_s2 {pc' : Nat} {st' : List Value} {n : Nat} {v : Value} (h3 : ∀ c, cst c = .null ∨ ∃ t, cst c = .ref t) (hm : ¬ (n ∈ r.2.2.2.2.2.2.2.2 ∨ n + 1 ∉ r.2.2.2.2.2.2.2.2 ∨ L.length ≤ n + 1))
    (h : ∀ (H : Heap) (ls : Array Slot) (locs : List Loc), lv_has ls r.2.2.1 (kx_kn cst sz L) → n + 1 < r.2.2.1 → (∀ ls' : Array Slot, lv_has ls' r.2.2.1 ((n, kx_v cst sz v) :: (kx_kn cst sz L).filter (fun q => !(q.1 == n) && (!(q.1 == n + 1) && !(q.1 + 1 == n && q.2.category == 2)))) → W p l e R s m args below meth c H locs (kx_nx M - n0) (kx_sl M - s0) Q (F0 m pc' ls' (st'.map (kx_v cst sz)))) → W p l e R s m args below meth c H locs (kx_nx M - n0) (kx_sl M - s0) Q (F0 m pc ls (st.map (kx_v cst sz))))
    (k : kx_W D cst sz cA H0 sL sX p l e R s m args below meth c r n0 s0 Q pc' ((L.set n (some v)).set (n + 1) none) st' M) : kx_W D cst sz cA H0 sL sX p l e R s m args below meth c r n0 s0 Q pc L st M := by
  intro H ls locs hH hL hl
  refine h H ls locs hL.has ?_ (fun ls' h' => k H ls' locs hH (hL.s2 h3 (fun z => hm (Or.inl z)) (Decidable.not_not.mp fun z => hm (Or.inr (Or.inl z))) h') hl)
  have := hL.1
  have := Nat.not_le.mp (fun z => hm (Or.inr (Or.inr z)))
  omega
theorem kx_c_astore (X : kx_Cx D cst sz cA H0 sL sX p R s m args meth c r) {n : Nat} (hd : decode r.2.1 pc = .ok (.astore n, 2)) {v : Value} (hr : kx_ref v = true) (hm : ¬ (n ∈ r.2.2.2.2.2.2.2.2 ∨ L.length ≤ n))
    (k : kx_W D cst sz cA H0 sL sX p l e R s m args below meth c r n0 s0 Q (pc + 2) (L.set n (some v)) st M) : kx_W D cst sz cA H0 sL sX p l e R s m args below meth c r n0 s0 Q pc L (v :: st) M := by
  refine kx_c_s1 X.w3 (kx_refcat hr) hm (fun H ls locs hs hn w => ?_) k
  rcases kx_refcases (sz := sz) X.w3 hr with h | ⟨t, h⟩
  · rw [List.map_cons]; rw [h] at w ⊢; exact lv_astoreN X.1 X.2.1 hd hs hn rfl w
  · rw [List.map_cons]; rw [h] at w ⊢; exact lv_astore X.1 X.2.1 hd hs hn rfl w
theorem kx_c_astore_n (X : kx_Cx D cst sz cA H0 sL sX p R s m args meth c r) {n : Fin 4} (hd : decode r.2.1 pc = .ok (.astore_n n, 1)) {v : Value} (hr : kx_ref v = true) (hm : ¬ ((n : Nat) ∈ r.2.2.2.2.2.2.2.2 ∨ L.length ≤ (n : Nat)))
    (k : kx_W D cst sz cA H0 sL sX p l e R s m args below meth c r n0 s0 Q (pc + 1) (L.set n (some v)) st M) : kx_W D cst sz cA H0 sL sX p l e R s m args below meth c r n0 s0 Q pc L (v :: st) M := by
  refine kx_c_s1 X.w3 (kx_refcat hr) hm (fun H ls locs hs hn w => ?_) k
  rcases kx_refcases (sz := sz) X.w3 hr with h | ⟨t, h⟩
  · rw [List.map_cons]; rw [h] at w ⊢; exact lv_astore_nN X.1 X.2.1 hd rfl hs hn rfl w
  · rw [List.map_cons]; rw [h] at w ⊢; exact lv_astore_n X.1 X.2.1 hd rfl hs hn rfl w
theorem kx_gotgt {k : Int} (h : decide (0 ≤ (pc : Int) + k) = true) : (pc : Int) + k = ((kx_go pc k : Nat) : Int) := by
  have := of_decide_eq_true h
  unfold kx_go
  omega
theorem kx_c_if (X : kx_Cx D cst sz cA H0 sL sX p R s m args meth c r) {cd : ClassFile.Cond} {k : Int} (hd : decode r.2.1 pc = .ok (.ifCond cd k, 3)) (ht : decide (0 ≤ (pc : Int) + k) = true) {x : Int32}
    (k1 : kx_hold cd x 0 = true → kx_W D cst sz cA H0 sL sX p l e R s m args below meth c r n0 s0 Q (kx_go pc k) L st M) (k2 : ¬ kx_hold cd x 0 = true → kx_W D cst sz cA H0 sL sX p l e R s m args below meth c r n0 s0 Q (pc + 3) L st M) : kx_W D cst sz cA H0 sL sX p l e R s m args below meth c r n0 s0 Q pc L (.int x :: st) M := by
  intro H ls locs hH hL hl
  cases cd
  · exact lv_if_eq X.1 X.2.1 hd (kx_gotgt ht) (fun h => k1 (by simp [kx_hold, h]) H ls locs hH hL hl) (fun h => k2 (by simp [kx_hold, h]) H ls locs hH hL hl)
  · exact lv_if_ne X.1 X.2.1 hd (kx_gotgt ht) (fun h => k1 (by simp [kx_hold, h]) H ls locs hH hL hl) (fun h => k2 (by simp [kx_hold, h]) H ls locs hH hL hl)
  · exact lv_if_lt X.1 X.2.1 hd (kx_gotgt ht) (fun h => k1 (by simp [kx_hold, h]) H ls locs hH hL hl) (fun h => k2 (by simpa [kx_hold] using h) H ls locs hH hL hl)
  · exact lv_if_ge X.1 X.2.1 hd (kx_gotgt ht) (fun h => k1 (by simp [kx_hold, h]) H ls locs hH hL hl) (fun h => k2 (by simpa [kx_hold] using h) H ls locs hH hL hl)
  · exact lv_if_gt X.1 X.2.1 hd (kx_gotgt ht) (fun h => k1 (by simp [kx_hold, h]) H ls locs hH hL hl) (fun h => k2 (by simpa [kx_hold] using h) H ls locs hH hL hl)
  · exact lv_if_le X.1 X.2.1 hd (kx_gotgt ht) (fun h => k1 (by simp [kx_hold, h]) H ls locs hH hL hl) (fun h => k2 (by simpa [kx_hold] using h) H ls locs hH hL hl)
theorem kx_c_icmp (X : kx_Cx D cst sz cA H0 sL sX p R s m args meth c r) {cd : ClassFile.Cond} {k : Int} (hd : decode r.2.1 pc = .ok (.if_icmp cd k, 3)) (ht : decide (0 ≤ (pc : Int) + k) = true) {x y : Int32}
    (k1 : kx_hold cd x y = true → kx_W D cst sz cA H0 sL sX p l e R s m args below meth c r n0 s0 Q (kx_go pc k) L st M) (k2 : ¬ kx_hold cd x y = true → kx_W D cst sz cA H0 sL sX p l e R s m args below meth c r n0 s0 Q (pc + 3) L st M) : kx_W D cst sz cA H0 sL sX p l e R s m args below meth c r n0 s0 Q pc L (.int y :: .int x :: st) M := by
  intro H ls locs hH hL hl
  cases cd
  · exact lv_icmp_eq X.1 X.2.1 hd (kx_gotgt ht) (fun h => k1 (by simp [kx_hold, h]) H ls locs hH hL hl) (fun h => k2 (by simp [kx_hold, h]) H ls locs hH hL hl)
  · exact lv_icmp_ne X.1 X.2.1 hd (kx_gotgt ht) (fun h => k1 (by simp [kx_hold, h]) H ls locs hH hL hl) (fun h => k2 (by simpa [kx_hold] using h) H ls locs hH hL hl)
  · exact lv_icmp_lt X.1 X.2.1 hd (kx_gotgt ht) (fun h => k1 (by simp [kx_hold, h]) H ls locs hH hL hl) (fun h => k2 (by simpa [kx_hold] using h) H ls locs hH hL hl)
  · exact lv_icmp_ge X.1 X.2.1 hd (kx_gotgt ht) (fun h => k1 (by simp [kx_hold, h]) H ls locs hH hL hl) (fun h => k2 (by simpa [kx_hold] using h) H ls locs hH hL hl)
  · exact lv_icmp_gt X.1 X.2.1 hd (kx_gotgt ht) (fun h => k1 (by simp [kx_hold, h]) H ls locs hH hL hl) (fun h => k2 (by simpa [kx_hold] using h) H ls locs hH hL hl)
  · exact lv_icmp_le X.1 X.2.1 hd (kx_gotgt ht) (fun h => k1 (by simp [kx_hold, h]) H ls locs hH hL hl) (fun h => k2 (by simpa [kx_hold] using h) H ls locs hH hL hl)
theorem kx_c_nonnull (X : kx_Cx D cst sz cA H0 sL sX p R s m args meth c r) {k : Int} (hd : decode r.2.1 pc = .ok (.ifnonnull k, 3)) (ht : decide (0 ≤ (pc : Int) + k) = true) {v : Value} {t : Nat} (hv : kx_v cst sz v = .ref t)
    (k1 : kx_W D cst sz cA H0 sL sX p l e R s m args below meth c r n0 s0 Q (kx_go pc k) L st M) : kx_W D cst sz cA H0 sL sX p l e R s m args below meth c r n0 s0 Q pc L (v :: st) M := by
  refine kx_c_st (fun H ls locs w => ?_) k1
  rw [List.map_cons, hv]
  exact lv_ifnonnull X.1 X.2.1 hd (kx_gotgt ht) w
theorem kx_swt_in {d lo hi : Int} {offs : Array Int} {x : Int32} (h : (decide (0 ≤ (pc : Int) + d) && offs.toList.all fun k => decide (0 ≤ (pc : Int) + k)) = true) (hx : ¬ (x.toInt < lo ∨ hi < x.toInt)) {o : Int} (ho : offs[(x.toInt - lo).toNat]? = some o) : (pc : Int) + o = ((kx_go pc o : Nat) : Int) := by
  simp only [Bool.and_eq_true] at h
  refine kx_gotgt (List.all_eq_true.mp h.2 o ?_)
  obtain ⟨h1, h2⟩ := Array.getElem?_eq_some_iff.mp ho
  rw [← h2]
  exact Array.getElem_mem_toList h1
theorem kx_c_table (X : kx_Cx D cst sz cA H0 sL sX p R s m args meth c r) {d lo hi : Int} {offs : Array Int} {len : Nat} (hd : decode r.2.1 pc = .ok (.tableswitch d lo hi offs, len)) (ht : (decide (0 ≤ (pc : Int) + d) && offs.toList.all fun k => decide (0 ≤ (pc : Int) + k)) = true) (hs : hi - lo + 1 = (offs.size : Int)) {x : Int32}
    (k : kx_W D cst sz cA H0 sL sX p l e R s m args below meth c r n0 s0 Q (kx_swt pc d lo hi offs x) L st M) : kx_W D cst sz cA H0 sL sX p l e R s m args below meth c r n0 s0 Q pc L (.int x :: st) M := by
  refine kx_c_st (fun H ls locs w => ?_) k
  by_cases hx : x.toInt < lo ∨ hi < x.toInt
  · rw [kx_swt, if_pos hx] at w
    simp only [Bool.and_eq_true] at ht
    exact lv_tableOut X.1 X.2.1 hd hx (kx_gotgt ht.1) w
  · rw [kx_swt, if_neg hx] at w
    have hlt : (x.toInt - lo).toNat < offs.size := by omega
    have ho : offs[(x.toInt - lo).toNat]? = some offs[(x.toInt - lo).toNat] := Array.getElem?_eq_getElem hlt
    rw [ho] at w
    exact lv_tableIn X.1 X.2.1 hd (fun z => hx (Or.inl z)) (fun z => hx (Or.inr z)) ho (kx_swt_in ht hx ho) w
theorem kx_lsw_in {d x : Int} : ∀ (ps : List (Int × Int)), Op.lookupswitch.offset ps d x = d ∨ ∃ q ∈ ps, Op.lookupswitch.offset ps d x = q.2
  | [] => Or.inl rfl
  | (a, o) :: t => by
    rw [Op.lookupswitch.offset_cons]
    by_cases h : a = x
    · rw [if_pos h]; exact Or.inr ⟨_, List.mem_cons_self, rfl⟩
    · rw [if_neg h]
      rcases kx_lsw_in t with h1 | ⟨q, h1, h2⟩
      · exact Or.inl h1
      · exact Or.inr ⟨q, List.mem_cons_of_mem _ h1, h2⟩
theorem kx_c_lookup (X : kx_Cx D cst sz cA H0 sL sX p R s m args meth c r) {d : Int} {ps : Array (Int × Int)} {len : Nat} (hd : decode r.2.1 pc = .ok (.lookupswitch d ps, len)) (ht : (decide (0 ≤ (pc : Int) + d) && (ps.toList.all fun k => decide (0 ≤ (pc : Int) + k.2)) && (ps.toList.zip (ps.toList.drop 1)).all (fun (a, next) => a.1 < next.1)) = true) {x : Int32}
    (k : kx_W D cst sz cA H0 sL sX p l e R s m args below meth c r n0 s0 Q (kx_go pc (Op.lookupswitch.offset ps.toList d x.toInt)) L st M) : kx_W D cst sz cA H0 sL sX p l e R s m args below meth c r n0 s0 Q pc L (.int x :: st) M := by
  refine kx_c_st (fun H ls locs w => ?_) k
  rw [Bool.and_eq_true, Bool.and_eq_true] at ht
  obtain ⟨⟨h1, h2⟩, h3⟩ := ht
  refine lv_lookup X.1 X.2.1 hd h3 rfl ?_ w
  rcases kx_lsw_in (d := d) (x := x.toInt) ps.toList with hh | ⟨q, hq, hh⟩
  · rw [hh]; exact kx_gotgt h1
  · rw [hh]; exact kx_gotgt (List.all_eq_true.mp h2 q hq)
/-! fields -/
theorem kx_Cx.own (X : kx_Cx D cst sz cA H0 sL sX p R s m args meth c r) : kx_on[r.2.2.2.2.2.1]? = some r.1.cls := X.2.2.2.2.2.2.2.2.2.1.2.1
theorem kx_Cx.kn (X : kx_Cx D cst sz cA H0 sL sX p R s m args meth c r) {ci : Nat} (h : ci < 12) : u_Kn s (kx_nm ci) (fun k => kx_Tf ci k) (kx_cn ci) (D.1 ci) (D.2 ci) := X.2.2.2.2.2.1.1 ci h
theorem kx_goodlay {C : String} {T : u_T} {N : Nat} {w : Cond} (h : w ∈ u_ws C T N) : goodWord w = true := by
  unfold u_ws at h
  obtain ⟨k, -, rfl⟩ := List.mem_map.mp h
  unfold u_lay
  split <;> rfl
theorem kx_Cx.lays (X : kx_Cx D cst sz cA H0 sL sX p R s m args meth c r) {ci : Nat} (h : ci < 12) : ∀ w ∈ u_ws (kx_nm ci) (fun k => kx_Tf ci k) (kx_cn ci), w ∈ kx_tb := fun w hw => kx_tin (kx_wu ci h w hw) (kx_goodlay hw)
theorem kx_c_getfield (X : kx_Cx D cst sz cA H0 sL sX p R s m args meth c r) {n : Nat} (hd : decode r.2.1 pc = .ok (.getfield n, 3)) {q : Nat × Nat × Nat} (hq : kx_look kx_fldT r.2.2.2.2.2.1 n = some q) {v : Value} (hs : (kx_rs M v).map (·.1) = some q.1)
    (k : kx_W D cst sz cA H0 sL sX p l e R s m args below meth c r n0 s0 Q (pc + 3) L (kx_rd M v q.2.1 :: st) M) : kx_W D cst sz cA H0 sL sX p l e R s m args below meth c r n0 s0 Q pc L (v :: st) M := by
  intro H ls locs hH hL hl
  have w := k H ls locs hH hL hl
  have hok := kx_wf_ok X.own hq
  cases v with
  | ref a =>
    have hsa : (kx_sh M a).1 = q.1 := by simpa [kx_rs] using hs
    rcases hok with ⟨h12, -⟩ | ⟨hlt, hk, hlink, -⟩
    · exfalso
      have hlt2 := hH.lt (a := a) (by omega)
      rcases hH.2.2.1 a hlt2 with ⟨h1, -⟩ | ⟨h1, -⟩
      · omega
      · rw [hsa, h12] at h1
        exact absurd h1 (by decide)
    · obtain ⟨cell, g1, g2, g3, g4⟩ := hH.obj hsa hlt
      obtain ⟨hS, hfc, kC, hkC, hkind⟩ := X.kn hlt
      obtain ⟨cf, kf, fi, f, hi, hsl⟩ := hS _ hk
      exact W.getf X.1 X.2.1 X.2.2.2.1 (X.tb hlink rfl) hi (u_facts hfc hkC (u_lays X.2.2.2.2.1 (X.lays hlt) hk) hi).1 g1 (by rw [g3]; exact fun h => by cases h) (v := kx_v cst sz (kx_dt M a q.2.1)) (by rw [hsl]; exact g4 _ hk) rfl rfl hd w
  | retAddr cc =>
    by_cases h0 : cc = 0
    · subst h0; simp [kx_rs] at hs
    by_cases h1 : cc = 1
    · subst h1
      have hs' : 101 = q.1 := by simpa [kx_rs] using hs
      rcases hok with ⟨h12, -⟩ | ⟨hlt, -⟩ <;> omega
    have hsa : (kx_csh cc).1 = q.1 := by simpa [kx_rs, h0, h1] using hs
    rcases hok with ⟨h12, -, hsl⟩ | ⟨hlt, hk, hlink, -⟩
    · obtain ⟨t, e1, hO, hco, hva⟩ := X.2.2.2.2.2.1.2.2.2.2.2.1 cc (by omega) (by omega)
      have hrd : kx_rd M (.retAddr cc) q.2.1 = kx_cdt cc q.2.1 := by simp [kx_rd, h1]
      have hc10 : 10 ≤ cc ∧ cc % 2 = 0 := by
        unfold kx_csh at hsa
        rw [h12] at hsa
        split at hsa
        · exfalso
          rename_i hlt
          have : ∀ c : Nat, c < 10 → (kx_ca.getD c (99, [])).1 ≠ 12 := by decide
          exact this cc hlt hsa
        · rename_i hlt
          split at hsa
          · cases hsa
          · split at hsa
            · rename_i h2
              exact ⟨by omega, h2⟩
            · cases hsa
      have hA : ∀ q : Nat, q < H0.size → ¬ sz ≤ q := fun q hq => by
        have := X.2.2.2.2.2.1.2.2.2.2.2.2.2.2.2.2
        omega
      rw [List.map_cons]
      show W p l e R s m args below meth c H locs _ _ Q (F0 m pc ls (cst cc :: _))
      rw [e1]
      rw [List.map_cons, hrd] at w
      have hcdt : ∀ k, kx_cdt cc k = if k = 0 then .retAddr (cc + 1) else .int 0 := fun k => by
        unfold kx_cdt
        rw [if_neg (by omega), if_pos hc10.2]
      rcases hsl with ⟨s0', hlink⟩ | ⟨s0', hlink⟩
      · obtain ⟨cf, kf, fi, f, cell, hi, hst, hc, hkn, hslot, hA2⟩ := hva
        have hcl : H[t]? = some cell := by rw [hH.2.1 t (by omega)]; exact hc
        rw [hcdt, s0', if_pos rfl] at w
        exact W.getf X.1 X.2.1 X.2.2.2.1 (X.tb hlink rfl) hi hst hcl hkn (v := cst (cc + 1)) hslot rfl rfl hd w
      · obtain ⟨cf, kf, fi, f, cell, hi, hst, hc, hkn, hslot, hA2⟩ := hco
        have hcl : H[t]? = some cell := by rw [hH.2.1 t (by omega)]; exact hc
        rw [hcdt, s0', if_neg (by decide)] at w
        exact W.getf X.1 X.2.1 X.2.2.2.1 (X.tb hlink rfl) hi hst hcl hkn (v := .int 0) hslot rfl rfl hd w
    · exfalso
      unfold kx_csh at hsa
      split at hsa
      · rename_i hlt2
        have : ∀ c : Nat, c < 10 → 12 ≤ (kx_ca.getD c (99, [])).1 := by decide
        have := this cc hlt2
        omega
      · split at hsa
        · rw [← hsa] at hlt; exact absurd hlt (by decide)
        · split at hsa
          · rw [← hsa] at hlt; exact absurd hlt (by decide)
          · rw [← hsa] at hlt; exact absurd (show 103 < 12 from hlt) (by decide)
  | _ => simp [kx_rs] at hs
theorem kx_fitv {cst : Nat → Value} {sz : Nat} {own : String} {t : String × String × String × Bool} {cd : Nat} {v : Value} (hK : kx_okK own t cd = true) (hf : kx_fit cd v = true) : ∃ ty, parseFieldDescriptor t.2.2.1 = some ty ∧ narrow ty (kx_v cst sz v) = kx_v cst sz v ∧ fits ty (kx_v cst sz v) = true := by
  have byteFits : ∀ x : Int32, x = x.toInt8.toInt32 → fits .byte (.int x) = true := by
    intro x hx
    have h1 : -128 ≤ x.toInt ∧ x.toInt ≤ 127 := by
      rw [hx]
      have := Int8.le_toInt x.toInt8
      have := Int8.toInt_lt x.toInt8
      rw [Int8.toInt_toInt32]
      omega
    simp only [fits, Bool.and_eq_true, decide_eq_true_eq]
    exact ⟨Int32.le_iff_toInt_le.mpr h1.1, Int32.le_iff_toInt_le.mpr h1.2⟩
  have refs : ∀ ty : FieldType, kx_isr t.2.2.1 = true → parseFieldDescriptor t.2.2.1 = some ty → ∀ v, kx_rfn v = true → narrow ty (kx_v cst sz v) = kx_v cst sz v ∧ fits ty (kx_v cst sz v) = true := by
    intro ty h1 h2 v hv
    unfold kx_isr at h1
    rw [h2] at h1
    cases ty <;> first | (exfalso; exact Bool.noConfusion h1) | (cases v <;> first | (exfalso; exact Bool.noConfusion hv) | exact ⟨rfl, rfl⟩)
  match cd, v, hf with
  | 0, .int x, _ =>
    simp only [kx_okK, Bool.and_eq_true, decide_eq_true_eq] at hK
    exact ⟨_, hK.2, rfl, rfl⟩
  | 1, .int x, h =>
    simp only [kx_okK, Bool.and_eq_true, decide_eq_true_eq] at hK
    have hx : x = 0 ∨ x = 1 := by simpa [kx_fit] using h
    refine ⟨_, hK.2, ?_, ?_⟩ <;> rcases hx with rfl | rfl <;> rfl
  | 2, .int x, h =>
    simp only [kx_okK, Bool.and_eq_true, decide_eq_true_eq] at hK
    have hx : x = x.toInt8.toInt32 := by simpa [kx_fit] using h
    refine ⟨_, hK.2, ?_, byteFits x hx⟩
    show Value.int x.toInt8.toInt32 = Value.int x
    rw [← hx]
  | 3, .ref a, _ =>
    simp only [kx_okK, Bool.and_eq_true] at hK
    cases hp : parseFieldDescriptor t.2.2.1 with
    | none => rw [kx_isr, hp] at hK; exact absurd hK.2 (by decide)
    | some ty => exact ⟨ty, rfl, refs ty hK.2 hp (.ref a) rfl⟩
  | 3, .null, _ =>
    simp only [kx_okK, Bool.and_eq_true] at hK
    cases hp : parseFieldDescriptor t.2.2.1 with
    | none => rw [kx_isr, hp] at hK; exact absurd hK.2 (by decide)
    | some ty => exact ⟨ty, rfl, refs ty hK.2 hp .null rfl⟩
  | 4, .ref a, _ =>
    simp only [kx_okK, Bool.and_eq_true] at hK
    cases hp : parseFieldDescriptor t.2.2.1 with
    | none => rw [kx_isr, hp] at hK; exact absurd hK.2 (by decide)
    | some ty => exact ⟨ty, rfl, refs ty hK.2 hp (.ref a) rfl⟩
  | 4, .null, _ =>
    simp only [kx_okK, Bool.and_eq_true] at hK
    cases hp : parseFieldDescriptor t.2.2.1 with
    | none => rw [kx_isr, hp] at hK; exact absurd hK.2 (by decide)
    | some ty => exact ⟨ty, rfl, refs ty hK.2 hp .null rfl⟩
theorem kx_c_putfield (X : kx_Cx D cst sz cA H0 sL sX p R s m args meth c r) {n : Nat} (hd : decode r.2.1 pc = .ok (.putfield n, 3)) {q : Nat × Nat × Nat} (hq : kx_look kx_fldT r.2.2.2.2.2.1 n = some q) {v : Value} {a : Nat} (hs : (kx_sh M a).1 = q.1) (hf : kx_fit q.2.2 v = true) (h4 : q.2.2 = 4 → (r.1.name == "<init>") = true)
    (k : kx_W D cst sz cA H0 sL sX p l e R s m args below meth c r n0 s0 Q (pc + 3) L st (kx_put M a q.2.1 v)) : kx_W D cst sz cA H0 sL sX p l e R s m args below meth c r n0 s0 Q pc L (v :: .ref a :: st) M := by
  intro H ls locs hH hL hl
  rcases kx_wf_ok X.own hq with ⟨h12, h9, -⟩ | ⟨hlt, hk, hlink, hK⟩
  · rw [h9] at hf
    cases v <;> exact absurd hf (by simp [kx_fit])
  · obtain ⟨cell, g1, g2, g3, g4⟩ := hH.obj hs hlt
    obtain ⟨hS, hfc, kC, hkC, hkind⟩ := X.kn hlt
    obtain ⟨cf, kf, fi, f, hi, hsl⟩ := hS _ hk
    have hap : ∀ x y, x < kx_cn q.1 → y < kx_cn q.1 → x ≠ y → (D.2 q.1) x ≠ (D.2 q.1) y := va_apart (own := "") (D := D) (cl := kx_cl) (tys := []) X.2.2.2.2.1 (X.lays hlt) (kx_Ty q.1) (kx_wt q.1 hlt) (kx_wnn q.1 hlt) ⟨fun c2 q2 h2 => by
      have hc2 : c2 < 12 := by
        have := (List.getElem?_eq_some_iff.mp h2).1
        exact this
      have := kx_wcl c2 hc2
      rw [this] at h2
      cases h2
      exact X.kn hc2, fun k q h => by simp at h⟩ (kx_wcl q.1 hlt)
    obtain ⟨ty, hty, hn, hfit⟩ := kx_fitv (cst := cst) (sz := sz) hK hf
    have hst := (u_facts hfc hkC (u_lays X.2.2.2.2.1 (X.lays hlt) hk) hi).1
    have hnext : ∀ H' : Heap, H'[sz + a]? = some (cell.setSlot f.slot (kx_v cst sz v)) → H'.size = H.size → (∀ q, q ≠ sz + a → H'[q]? = H[q]?) → W p l e R s m args below meth c H' (locs ++ [⟨sz + a, f.slot⟩]) (kx_nx M - n0) (kx_sl M - s0) Q (F0 m (pc + 3) ls (st.map (kx_v cst sz))) := by
      intro H' e1 e2 e3
      refine k H' ls _ (hH.one (a := a) rfl (fun _ => rfl) (fun b hb j => ?_) rfl e2 e3 (Or.inl ⟨?_, ?_⟩)) hL (fun q hq => ?_)
      · rw [kx_put_dt, if_neg (fun z => hb z.1)]
      · rw [kx_put_sh, hs]; exact hlt
      · rw [kx_put_sh, hs]
        rw [hsl] at e1
        refine t_OB.to (V := updV (fun k => kx_v cst sz (kx_dt M a k)) q.2.1 (kx_v cst sz v)) ⟨_, e1, g2, g3, t_set g4 hap hk _⟩ (fun j hj => ?_)
        show updV _ _ _ j = _
        unfold updV
        rw [kx_put_dt]
        by_cases hj2 : j = q.2.1
        · rw [if_pos hj2, if_pos ⟨rfl, hj2⟩]
        · rw [if_neg hj2, if_neg (fun z => hj2 z.2)]
      · rcases List.mem_append.mp hq with h | h
        · exact hl q h
        · rw [List.mem_singleton.mp h]; exact Nat.le_add_right _ _
    have hlay := X.2.2.2.2.1 _ (X.lays hlt _ (u_in_lay hk))
    have hslot : f.slot < cell.slots.size := by rw [hsl]; exact k2_hasslot (g4 _ hk)
    rw [List.map_cons, List.map_cons]
    unfold u_lay at hlay
    by_cases hfin : (kx_Tf q.1 q.2.1).2.2.2 = true
    · have h44 : q.2.2 = 4 ∧ (kx_Tf q.1 q.2.1).1 = r.1.cls := by
        generalize kx_Tf q.1 q.2.1 = tt at hK hfin
        obtain ⟨q1, q2, q3⟩ := q
        dsimp only at hK hf ⊢
        match q3, hK, hf with
        | 0, hK, _ => simp [kx_okK, hfin] at hK
        | 1, hK, _ => simp [kx_okK, hfin] at hK
        | 2, hK, _ => simp [kx_okK, hfin] at hK
        | 3, hK, _ => simp [kx_okK, hfin] at hK
        | 4, hK, _ =>
          simp only [kx_okK, Bool.and_eq_true, decide_eq_true_eq] at hK
          exact ⟨rfl, hK.1.2⟩
        | n + 5, _, hf => cases v <;> exact absurd hf (by simp [kx_fit])
      rw [if_pos hfin] at hlay
      have hname : meth.name = "<init>" := X.2.2.2.2.2.2.2.2.1 (eq_of_beq (h4 h44.1))
      have hcf : m.cls = cf := by
        obtain ⟨_, _, c', _, _, _, -, -, hf', -, -, -, hown2, -⟩ := Cond.laysFinal_spec hlay
        have e1 : c' = cf := by have := hi.symm.trans hf'; simp at this; exact this.1.symm
        rw [h44.2] at hown2
        rw [← e1]; exact Option.some.inj (X.2.2.2.1.symm.trans hown2)
      have h6 := u_fits hfc hkC hkind (Or.inr hlay) hi hty hn hfit
      exact W.putFinK X.1 X.2.1 X.2.2.2.1 (X.tb hlink rfl) hi hst hcf hname (by rw [g2]; exact h6) g1 g3 hslot rfl rfl hd hnext
    · rw [if_neg hfin] at hlay
      have h6 := u_store hfc hkC hkind hlay hi hty hn hfit
      exact W.putK X.1 X.2.1 (f := f) ⟨X.2.2.2.1, X.tb hlink rfl, ⟨_, _, _, hi⟩, hst⟩ (by rw [g2]; exact h6) g1 g3 hslot rfl rfl hd hnext
end KxStep
theorem kx_swok : (kx_mT.all fun l => l.all fun r => r.2.2.2.2.1.all fun row => row.all fun o => match o with
  | some (.tableswitch _ lo hi offs, _) => decide (hi - lo + 1 = (offs.size : Int))
  | _ => true) = true := by decide +kernel
theorem kx_sw_ok {i : Nat} {r : kx_R} (h : kx_meth i = some r) {n : Nat} {d lo hi : Int} {offs : Array Int} {len : Nat} (hq : kx_ix r.2.2.2.2.1 n = some (.tableswitch d lo hi offs, len)) : hi - lo + 1 = (offs.size : Int) := by
  unfold kx_meth at h
  cases hl : kx_mT[i / 16]? with
  | none => rw [hl] at h; cases h
  | some l =>
    rw [hl] at h
    have h1 := List.all_eq_true.mp (List.all_eq_true.mp kx_swok l (List.mem_of_getElem? hl)) r (List.mem_of_getElem? h)
    unfold kx_ix at hq
    split at hq
    next row hrow =>
      split at hq
      next q hqq =>
        cases hq
        have h2 := List.all_eq_true.mp (List.all_eq_true.mp h1 row (List.mem_of_getElem? hrow)) _ (List.mem_of_getElem? hqq)
        exact of_decide_eq_true h2
      next => cases hq
    next => cases hq
