/-! cells that are made, statics, constants, Math, arraycopy, Object's constructor -/
section KxMk
variable {D : va_G} {cst : Nat → Value} {sz : Nat} {cA : Nat → ClassId} {H0 : Heap} {sL : Nat} {sX : Nat → Int32} {p : Program} {l : Launch} {e : Env} {R : Room} {s : State} {m : MethodId} {args : Array Value} {below : List Frame} {meth : Method} {c : Code} {r : kx_R} {n0 s0 : Nat} {Q : State → Prop} {pc : Nat} {L : kx_L} {st : List Value} {M : kx_M}
theorem kx_fd_v (ci k : Nat) : kx_v cst sz (kx_fd ci k) = kx_fd ci k := by
  unfold kx_fd
  split <;> rfl
theorem kx_c_new (X : kx_Cx D cst sz cA H0 sL sX p R s m args meth c r) {n : Nat} (hd : decode r.2.1 pc = .ok (.new n, 3)) {q : Nat × Nat} (hq : kx_look kx_clsT r.2.2.2.2.2.1 n = some q) (h0 : n0 ≤ kx_nx M ∧ s0 ≤ kx_sl M) (hcap : kx_nx (kx_new M q.1 (kx_cn q.1) (kx_fd q.1)) - n0 ≤ R.cells ∧ kx_sl (kx_new M q.1 (kx_cn q.1) (kx_fd q.1)) - s0 ≤ R.slots)
    (k : kx_W D cst sz cA H0 sL sX p l e R s m args below meth c r n0 s0 Q (pc + 3) L (.ref (kx_nx M) :: st) (kx_new M q.1 (kx_cn q.1) (kx_fd q.1))) : kx_W D cst sz cA H0 sL sX p l e R s m args below meth c r n0 s0 Q pc L st M := by
  intro H ls locs hH hL hl
  obtain ⟨hlt, w1, w2, w3, -⟩ := kx_wl_ok X.own hq
  have hKn := X.kn hlt
  rw [kx_new_nx, kx_new_sl] at hcap
  refine W.newcK X.1 X.2.1 X.2.2.2.1 (X.tb w1 rfl) (X.tb w2 rfl) (X.tb w3 rfl) rfl hd (by omega) (by omega) hKn.2.1 rfl fun H1 kC hkC e1 z1 o1 => ?_
  have hz : H.size = sz + kx_nx M := hH.1
  have hR := hH.made (t := q.1) (n := kx_cn q.1) (z := kx_fd q.1) (H1 := H1) (by omega) o1 (Or.inl ⟨by rw [kx_new_sh, if_pos rfl]; exact hlt, by
    rw [kx_new_sh, if_pos rfl, ← hz]
    refine (u_born (kx_Ty q.1) X.2.2.2.2.1 (X.lays hlt) hKn hkC e1 (kx_wt q.1 hlt)).to fun j hj => ?_
    rw [kx_new_dt, if_pos rfl, kx_fd_v]
    exact kx_wd q.1 hlt j hj⟩)
  have w := k H1 ls locs hR hL hl
  rw [kx_new_nx, kx_new_sl, show kx_nx M + 1 - n0 = kx_nx M - n0 + 1 by omega, show kx_sl M + kx_cn q.1 - s0 = kx_sl M - s0 + kx_cn q.1 by omega, List.map_cons] at w
  rw [show kx_v cst sz (.ref (kx_nx M)) = .ref H.size by rw [hz]; rfl] at w
  exact w
theorem kx_i100 {x : Int32} (h1 : 0 ≤ x) (h2 : x < 100000) : x.toNatClampNeg < 100000 ∧ ¬ x < 0 := by
  have a := Int32.lt_iff_toInt_lt.mp h2
  have b : (100000 : Int32).toInt = 100000 := by decide
  rw [b] at a
  refine ⟨?_, Int32.not_lt.mpr h1⟩
  show x.toInt.toNat < 100000
  omega
theorem kx_c_newarr (X : kx_Cx D cst sz cA H0 sL sX p R s m args meth c r) {at' : ArrayType} (hd : decode r.2.1 pc = .ok (.newarray at', 2)) {x : Int32} (hx : 0 ≤ x ∧ x < 100000) {t : Nat} {z : Value} (ht : t ∈ kx_ks) (hty : kx_aty t = newarray.typeOf at') (hz : z = defaultValue (newarray.typeOf at')) (hzv : kx_v cst sz z = z) (hzb : t = 103 → z = .int 0) (hcb : componentBytes (newarray.typeOf at') ≤ 8) (hw : Cond.arrayClass (newarray.typeOf at') ∈ lw_tbl) (hra : ∀ U cc, va_RA U cc (kx_aty t) → U.vm.findClass ("[" ++ (newarray.typeOf at').toString) = some cc)
    (h0 : n0 ≤ kx_nx M ∧ s0 ≤ kx_sl M) (hcap : kx_nx (kx_new M t x.toNatClampNeg fun _ => z) - n0 ≤ R.cells ∧ kx_sl (kx_new M t x.toNatClampNeg fun _ => z) - s0 ≤ R.slots)
    (k : kx_W D cst sz cA H0 sL sX p l e R s m args below meth c r n0 s0 Q (pc + 2) L (.ref (kx_nx M) :: st) (kx_new M t x.toNatClampNeg fun _ => z)) : kx_W D cst sz cA H0 sL sX p l e R s m args below meth c r n0 s0 Q pc L (.int x :: st) M := by
  intro H ls locs hH hL hl
  obtain ⟨hn1, hn2⟩ := kx_i100 hx.1 hx.2
  rw [kx_new_nx, kx_new_sl] at hcap
  have hz' : H.size = sz + kx_nx M := hH.1
  have hb : x.toNatClampNeg * componentBytes (newarray.typeOf at') ≤ 536870912 := Nat.le_trans (Nat.mul_le_mul (Nat.le_of_lt hn1) hcb) (by decide)
  refine va_newaK X.1 X.2.1 (X.tb hw rfl) rfl hd rfl hn2 rfl hb (by omega) (by omega) rfl fun H1 cA1 e1 z1 o1 hAr hNm => ?_
  obtain ⟨-, g2⟩ := X.2.2.2.2.2.1.2.1 t ht
  have hcA : cA1 = cA t := Option.some.inj (hNm.symm.trans (hra s _ g2))
  have hR := hH.made (t := t) (n := x.toNatClampNeg) (z := fun _ => z) (H1 := H1) (by omega) o1 (Or.inr ⟨by rw [kx_new_sh, if_pos rfl]; exact ht, by
    rw [kx_new_sh, if_pos rfl, ← hz', e1, hcA]
    congr 1
    refine kx_arrV_ext fun j _ => ?_
    rw [kx_new_dt, if_pos rfl, hzv, hz], fun h103 j hj => by
    rw [kx_new_sh, if_pos rfl] at h103
    rw [kx_new_dt, if_pos rfl]
    exact ⟨0, hzb h103, by decide⟩⟩)
  have w := k H1 ls locs hR hL hl
  rw [kx_new_nx, kx_new_sl, show kx_nx M + 1 - n0 = kx_nx M - n0 + 1 by omega, show kx_sl M + x.toNatClampNeg - s0 = kx_sl M - s0 + x.toNatClampNeg by omega, List.map_cons] at w
  rw [show kx_v cst sz (.ref (kx_nx M)) = .ref H.size by rw [hz']; rfl] at w
  exact w
theorem kx_c_anew (X : kx_Cx D cst sz cA H0 sL sX p R s m args meth c r) {n : Nat} (hd : decode r.2.1 pc = .ok (.anewarray n, 3)) {q : Nat × Nat} (hq : kx_look kx_clsT r.2.2.2.2.2.1 n = some q) {x : Int32} (hx : 0 ≤ x ∧ x < 100000 ∧ q.2 ≠ 0)
    (h0 : n0 ≤ kx_nx M ∧ s0 ≤ kx_sl M) (hcap : kx_nx (kx_new M q.2 x.toNatClampNeg fun _ => .null) - n0 ≤ R.cells ∧ kx_sl (kx_new M q.2 x.toNatClampNeg fun _ => .null) - s0 ≤ R.slots)
    (k : kx_W D cst sz cA H0 sL sX p l e R s m args below meth c r n0 s0 Q (pc + 3) L (.ref (kx_nx M) :: st) (kx_new M q.2 x.toNatClampNeg fun _ => .null)) : kx_W D cst sz cA H0 sL sX p l e R s m args below meth c r n0 s0 Q pc L (.int x :: st) M := by
  intro H ls locs hH hL hl
  obtain ⟨hn1, hn2⟩ := kx_i100 hx.1 hx.2.1
  obtain ⟨hlt, w1, -, -, w4⟩ := kx_wl_ok X.own hq
  obtain ⟨hks, hty, hao⟩ := w4 hx.2.2
  rw [kx_new_nx, kx_new_sl] at hcap
  have hz' : H.size = sz + kx_nx M := hH.1
  refine W.anew X.1 X.2.1 X.2.2.2.1 (X.tb w1 rfl) (va_AO.use (X.2.2.2.2.2.1.2.2.2.2.2.2.2.2.2.1 _ hao)) rfl hd rfl hn2 (by omega) (by omega) (by omega) fun cA1 kA comp h1 h2 h3 h4 => ?_
  obtain ⟨-, g2⟩ := X.2.2.2.2.2.1.2.1 q.2 hks
  rw [hty] at g2
  obtain ⟨kA2, comp2, -, -, -, g3⟩ := g2
  have hcA : cA1 = cA q.2 := Option.some.inj (h1.symm.trans g3)
  have hR := hH.made (t := q.2) (n := x.toNatClampNeg) (z := fun _ => .null) (H1 := H.push { cls := cA1, slots := Array.replicate x.toNatClampNeg .null, vm := .none }) (by simp) (fun j hj => by rw [Array.getElem?_push, if_neg (Nat.ne_of_lt hj)]) (Or.inr ⟨by rw [kx_new_sh, if_pos rfl]; exact hks, by
    rw [kx_new_sh, if_pos rfl, ← hz', hcA, arrV_new]
    simp only [Array.getElem?_push_size]
    congr 1
    refine kx_arrV_ext fun j _ => ?_
    rw [kx_new_dt, if_pos rfl]
    rfl, fun h103 j hj => by
    rw [kx_new_sh, if_pos rfl] at h103
    exfalso
    dsimp only at h103
    rw [h103] at hty
    cases hty⟩)
  have w := k _ ls locs hR hL hl
  rw [kx_new_nx, kx_new_sl, show kx_nx M + 1 - n0 = kx_nx M - n0 + 1 by omega, show kx_sl M + x.toNatClampNeg - s0 = kx_sl M - s0 + x.toNatClampNeg by omega, List.map_cons] at w
  rw [show kx_v cst sz (.ref (kx_nx M)) = .ref H.size by rw [hz']; rfl] at w
  exact w
theorem kx_c_getstatic (X : kx_Cx D cst sz cA H0 sL sX p R s m args meth c r) {n : Nat} (hd : decode r.2.1 pc = .ok (.getstatic n, 3)) {v : Value} (hq : kx_look kx_staT r.2.2.2.2.2.1 n = some v)
    (k : kx_W D cst sz cA H0 sL sX p l e R s m args below meth c r n0 s0 Q (pc + 3) L (v :: st) M) : kx_W D cst sz cA H0 sL sX p l e R s m args below meth c r n0 s0 Q pc L st M := by
  intro H ls locs hH hL hl
  obtain ⟨x, hx, hv, hlink⟩ := kx_ws_ok X.own hq
  obtain ⟨cf, kf, fi, f, a, cell, h1, h2, h3, h4, h5, h6, h7, h8⟩ := X.2.2.2.2.2.1.2.2.2.2.2.2.1 x hx
  rw [hv] at h7
  exact W.gets X.1 X.2.1 X.2.2.2.1 (X.tb hlink rfl) h1 h2 h3 h4 (by rw [hH.2.1 a (Nat.not_le.mp h8)]; exact h5) (fun e => by rw [e] at h6; cases h6) h7 rfl hd (k H ls locs hH hL hl)
theorem kx_ldcwS (hexec : p.tables.exec = Jvm.exec) {cc : ByteArray} (hb : c.code = cc) {own tx : String} {index q : Nat} (hown : s.vm.findClass own = some m.cls) (hZ : vk_R own index tx q s) {ls : Array Slot} {rest : List Value} {H : Heap} {locs : List Loc} {cells slots : Nat} (hdg : decode cc pc = .ok (.ldc_w index, 3))
    (k : W p l e R s m args below meth c H locs cells slots Q (F0 m (pc + 3) ls (.ref q :: rest))) : W p l e R s m args below meth c H locs cells slots Q (F0 m pc ls rest) := by
  intro T hT X
  obtain ⟨t, a1, b1⟩ := k T hT X
  refine ⟨t, ?_, b1⟩
  obtain ⟨k, cf, i, a', hk, hcf, hcp, -, hr, hev'⟩ := Cond.stringRef_spec hown hZ.1
  cases hZ.2.symm.trans hev'
  obtain ⟨k', hk', he⟩ := X.warmed.alike.2.2 _ _ hk
  have hr' : k'.resolved[index]? = some (some (.string q)) := by
    rcases X.warmed.entry hk hk' index with h | ⟨h, -⟩
    · rw [h]; exact hr
    · rw [hr] at h; cases h
  have hdg' : decode c.code pc = .ok (.ldc_w index, 3) := by rw [hb]; exact hdg
  jvm_step X.here [hexec, hdg', ldc_w.wp_string (e := e) (s := T) (f := F0 m pc ls rest) X.here.top hk' (by rw [he]; exact hcf) hcp hr']
  exact a1
theorem kx_c_ldc (X : kx_Cx D cst sz cA H0 sL sX p R s m args meth c r) {n : Nat} (hd : decode r.2.1 pc = .ok (.ldc n, 2)) {v : Value} (hq : kx_look kx_conT r.2.2.2.2.2.1 n = some v)
    (k : kx_W D cst sz cA H0 sL sX p l e R s m args below meth c r n0 s0 Q (pc + 2) L (v :: st) M) : kx_W D cst sz cA H0 sL sX p l e R s m args below meth c r n0 s0 Q pc L st M := by
  refine kx_c_st (fun H ls locs w => ?_) k
  rcases kx_wn_ok X.own hq with ⟨x, rfl, hw⟩ | ⟨x, hx, h1, h2, rfl⟩
  · exact lv_ldc X.1 X.2.1 X.2.2.2.1 (X.tb hw rfl) hd w
  · obtain ⟨a, e1, e2⟩ := X.2.2.2.2.2.1.2.2.2.2.2.2.2.1 x hx
    rw [h1, h2] at e2
    rw [List.map_cons] at w
    rw [show kx_v cst sz (.retAddr x.2.2.2) = .ref a from e1] at w
    exact va_ldcS X.1 X.2.1 X.2.2.2.1 e2 hd w
theorem kx_c_ldcw (X : kx_Cx D cst sz cA H0 sL sX p R s m args meth c r) {n : Nat} (hd : decode r.2.1 pc = .ok (.ldc_w n, 3)) {v : Value} (hq : kx_look kx_conT r.2.2.2.2.2.1 n = some v)
    (k : kx_W D cst sz cA H0 sL sX p l e R s m args below meth c r n0 s0 Q (pc + 3) L (v :: st) M) : kx_W D cst sz cA H0 sL sX p l e R s m args below meth c r n0 s0 Q pc L st M := by
  refine kx_c_st (fun H ls locs w => ?_) k
  rcases kx_wn_ok X.own hq with ⟨x, rfl, hw⟩ | ⟨x, hx, h1, h2, rfl⟩
  · exact lv_ldcw X.1 X.2.1 X.2.2.2.1 (X.tb hw rfl) hd w
  · obtain ⟨a, e1, e2⟩ := X.2.2.2.2.2.1.2.2.2.2.2.2.2.1 x hx
    rw [h1, h2] at e2
    rw [List.map_cons] at w
    rw [show kx_v cst sz (.retAddr x.2.2.2) = .ref a from e1] at w
    exact kx_ldcwS X.1 X.2.1 X.2.2.2.1 e2 hd w
theorem kx_c_max (X : kx_Cx D cst sz cA H0 sL sX p R s m args meth c r) {n : Nat} (hd : decode r.2.1 pc = .ok (.invokestatic n, 3)) {q : Nat × Nat × Nat × Nat} (hq : kx_look kx_calT r.2.2.2.2.2.1 n = some q) (hf : 1 ≤ R.frames ∧ kx_cat st + 13 ≤ R.locals) (hcap : kx_nx M - n0 ≤ R.cells ∧ kx_sl M - s0 ≤ R.slots) {x y : Int32} (h20 : q.1 = 20)
    (k : kx_W D cst sz cA H0 sL sX p l e R s m args below meth c r n0 s0 Q (pc + 3) L (.int (if x < y then y else x) :: st) M) : kx_W D cst sz cA H0 sL sX p l e R s m args below meth c r n0 s0 Q pc L (.int y :: .int x :: st) M := by
  intro H ls locs hH hL hl
  have hw : Cond.methodLink r.1.cls n Lib.Math.max.name ∈ lw_tbl := by
    rcases kx_wc_ok X.own hq with ⟨-, h⟩ | ⟨h, -⟩ | ⟨h, -⟩ | ⟨h, -⟩ | ⟨h, -⟩ | ⟨r2, -, -, -, -, h, -⟩
    · exact h
    all_goals first | omega | (rcases h with ⟨h, -⟩ | ⟨h, -⟩ | ⟨h, -⟩ | ⟨h, -⟩ | ⟨h, -⟩ | ⟨h, -⟩ <;> omega)
  exact va_mmax X.1 X.2.1 (by rw [X.2.2.1, hL.2.1]) X.2.2.2.1 (X.tb hw rfl) (X.tb kx_w_mmax1 rfl) (X.tb kx_w_mini rfl) (X.tb kx_w_mmax2 rfl) hf.1 (by rw [kx_cat_v X.w3]; exact hf.2) hcap.1 hcap.2 hd (k H ls locs hH hL hl)
theorem kx_c_min (X : kx_Cx D cst sz cA H0 sL sX p R s m args meth c r) {n : Nat} (hd : decode r.2.1 pc = .ok (.invokestatic n, 3)) {q : Nat × Nat × Nat × Nat} (hq : kx_look kx_calT r.2.2.2.2.2.1 n = some q) (hf : 1 ≤ R.frames ∧ kx_cat st + 13 ≤ R.locals) (hcap : kx_nx M - n0 ≤ R.cells ∧ kx_sl M - s0 ≤ R.slots) {x y : Int32} (h20 : q.1 = 21)
    (k : kx_W D cst sz cA H0 sL sX p l e R s m args below meth c r n0 s0 Q (pc + 3) L (.int (if y < x then y else x) :: st) M) : kx_W D cst sz cA H0 sL sX p l e R s m args below meth c r n0 s0 Q pc L (.int y :: .int x :: st) M := by
  intro H ls locs hH hL hl
  have hw : Cond.methodLink r.1.cls n Lib.Math.min.name ∈ lw_tbl := by
    rcases kx_wc_ok X.own hq with ⟨h, -⟩ | ⟨-, h⟩ | ⟨h, -⟩ | ⟨h, -⟩ | ⟨h, -⟩ | ⟨r2, -, -, -, -, h, -⟩
    · omega
    · exact h
    all_goals first | omega | (rcases h with ⟨h, -⟩ | ⟨h, -⟩ | ⟨h, -⟩ | ⟨h, -⟩ | ⟨h, -⟩ | ⟨h, -⟩ <;> omega)
  exact va_mmin X.1 X.2.1 (by rw [X.2.2.1, hL.2.1]) X.2.2.2.1 (X.tb hw rfl) (X.tb kx_w_mmin1 rfl) (X.tb kx_w_mini rfl) (X.tb kx_w_mmin2 rfl) hf.1 (by rw [kx_cat_v X.w3]; exact hf.2) hcap.1 hcap.2 hd (k H ls locs hH hL hl)
theorem kx_c_abs (X : kx_Cx D cst sz cA H0 sL sX p R s m args meth c r) {n : Nat} (hd : decode r.2.1 pc = .ok (.invokestatic n, 3)) {q : Nat × Nat × Nat × Nat} (hq : kx_look kx_calT r.2.2.2.2.2.1 n = some q) (hf : 1 ≤ R.frames ∧ kx_cat st + 13 ≤ R.locals) (hcap : kx_nx M - n0 ≤ R.cells ∧ kx_sl M - s0 ≤ R.slots) {x : Int32} (h20 : q.1 = 22)
    (k : kx_W D cst sz cA H0 sL sX p l e R s m args below meth c r n0 s0 Q (pc + 3) L (.int (if 0 ≤ x then x else 0 - x) :: st) M) : kx_W D cst sz cA H0 sL sX p l e R s m args below meth c r n0 s0 Q pc L (.int x :: st) M := by
  intro H ls locs hH hL hl
  have hw : Cond.methodLink r.1.cls n Lib.Math.abs.name ∈ lw_tbl := by
    rcases kx_wc_ok X.own hq with ⟨h, -⟩ | ⟨h, -⟩ | ⟨-, h⟩ | ⟨h, -⟩ | ⟨h, -⟩ | ⟨r2, -, -, -, -, h, -⟩
    · omega
    · omega
    · exact h
    all_goals first | omega | (rcases h with ⟨h, -⟩ | ⟨h, -⟩ | ⟨h, -⟩ | ⟨h, -⟩ | ⟨h, -⟩ | ⟨h, -⟩ <;> omega)
  exact va_mabs X.1 X.2.1 (by rw [X.2.2.1, hL.2.1]) X.2.2.2.1 (X.tb hw rfl) (X.tb kx_w_mabs1 rfl) (X.tb kx_w_mini rfl) (X.tb kx_w_mabs2 rfl) hf.1 (by rw [kx_cat_v X.w3]; exact hf.2) hcap.1 hcap.2 hd (k H ls locs hH hL hl)
theorem kx_c_objinit (X : kx_Cx D cst sz cA H0 sL sX p R s m args meth c r) {n : Nat} (hd : decode r.2.1 pc = .ok (.invokespecial n, 3)) {q : Nat × Nat × Nat × Nat} (hq : kx_look kx_calT r.2.2.2.2.2.1 n = some q) (hf : 1 ≤ R.frames ∧ kx_cat st + 12 ≤ R.locals) (h7 : q.1 = 7) {a : Nat}
    (k : kx_W D cst sz cA H0 sL sX p l e R s m args below meth c r n0 s0 Q (pc + 3) L st M) : kx_W D cst sz cA H0 sL sX p l e R s m args below meth c r n0 s0 Q pc L (.ref a :: st) M := by
  intro H ls locs hH hL hl
  have hw : Cond.methodLink r.1.cls n Lib.objectInit ∈ lw_tbl := by
    rcases kx_wc_ok X.own hq with ⟨h, -⟩ | ⟨h, -⟩ | ⟨h, -⟩ | ⟨-, h⟩ | ⟨h, -⟩ | ⟨r2, -, -, -, -, h, -⟩
    · omega
    · omega
    · omega
    · exact h
    all_goals first | omega | (rcases h with ⟨h, -⟩ | ⟨h, -⟩ | ⟨h, -⟩ | ⟨h, -⟩ | ⟨h, -⟩ | ⟨h, -⟩ <;> omega)
  exact W.objInit X.1 X.2.1 X.2.2.2.1 (X.tb hw rfl) (X.tb kx_w_oi1 rfl) (X.tb kx_w_oi2 rfl) rfl (by show ls.size = _; rw [hL.2.1, X.2.2.1]) rfl hd hf.1 (by rw [kx_cat_v X.w3]; show 2 * 0 + _ + 12 ≤ _; omega) (k H ls locs hH hL hl)
theorem kx_csh_byte : ∀ c : Nat, c < 10 → (kx_ca.getD c (99, [])).1 = 103 → ∀ j, j < (kx_ca.getD c (99, [])).2.length → fits .byte (.int ((kx_ca.getD c (99, [])).2.getD j 0)) = true := by decide +kernel
theorem kx_cs_byte : ∀ i : Nat, i < kx_cs.length → ∀ j, j < (kx_cs.getD i []).length → fits .byte (.int ((kx_cs.getD i []).getD j 0)) = true := by decide +kernel
/-- the bytes of a byte row -/
theorem kx_src_byte (X : kx_Cx D cst sz cA H0 sL sX p R s m args meth c r) {H : Heap} (hH : kx_Rep D cst sz cA H0 sL sX M H) {v : Value} {n : Nat} (hv : kx_rs M v = some (103, n)) {j : Nat} (hj : j < n) : ∃ x : Int32, kx_rd M v j = .int x ∧ fits .byte (.int x) = true := by
  cases v with
  | ref a =>
    have hs : kx_sh M a = (103, n) := by simpa [kx_rs] using hv
    exact hH.byt (a := a) (by rw [hs]) j (by rw [hs]; exact hj)
  | retAddr cc =>
    by_cases h0 : cc = 0
    · subst h0; simp [kx_rs] at hv
    by_cases h1 : cc = 1
    · subst h1; simp [kx_rs] at hv
    have hq : kx_csh cc = (103, n) := by simpa [kx_rs, h0, h1] using hv
    have : kx_rd M (.retAddr cc) j = kx_cdt cc j := by simp [kx_rd, h1]
    rw [this]
    unfold kx_csh at hq
    unfold kx_cdt
    split at hq
    · rename_i hc
      rw [if_pos hc]
      obtain ⟨e1, e2⟩ := Prod.mk.inj hq
      exact ⟨_, rfl, kx_csh_byte cc hc e1 j (by rw [e2]; exact hj)⟩
    · rename_i hc
      rw [if_neg hc]
      split at hq
      · cases hq
      · rename_i hc2
        split at hq
        · cases hq
        · rename_i hc3
          rw [if_neg hc3]
          cases hq
          exact ⟨_, rfl, kx_cs_byte _ (by omega) j hj⟩
  | _ => simp [kx_rs] at hv
end KxMk
