/-! how the machine's heap holds the engine's memory -/
/-- a value of the engine as the machine has it: cells count from sz on, const objects by cst -/
def kx_v (cst : Nat → Value) (sz : Nat) : Value → Value
  | .ref a => .ref (sz + a)
  | .retAddr c => cst c
  | v => v
/-- a byte array holds bytes -/
def kx_by (M : kx_M) (a : Nat) : Prop := (kx_sh M a).1 = 103 → ∀ j, j < (kx_sh M a).2 → ∃ x : Int32, kx_dt M a j = .int x ∧ fits .byte (.int x) = true
def kx_cel (D : va_G) (cst : Nat → Value) (sz : Nat) (cA : Nat → ClassId) (M : kx_M) (a : Nat) (H : Heap) : Prop :=
  ((kx_sh M a).1 < 12 ∧ t_OB (sz + a) (D.1 (kx_sh M a).1) (kx_cn (kx_sh M a).1) (D.2 (kx_sh M a).1) H (fun k => kx_v cst sz (kx_dt M a k))) ∨
  ((kx_sh M a).1 ∈ kx_ks ∧ H[sz + a]? = some (arrV (cA (kx_sh M a).1) (kx_sh M a).2 (fun k => kx_v cst sz (kx_dt M a k))) ∧ kx_by M a)
def kx_Rep (D : va_G) (cst : Nat → Value) (sz : Nat) (cA : Nat → ClassId) (H0 : Heap) (sL : Nat) (sX : Nat → Int32) (M : kx_M) (H : Heap) : Prop :=
  H.size = sz + kx_nx M ∧ (∀ q, q < sz → H[q]? = H0[q]?) ∧ (∀ a, a < kx_nx M → kx_cel D cst sz cA M a H) ∧ (∀ a, kx_nx M ≤ a → (kx_sh M a).1 = 99) ∧ kx_scL M = sL ∧ kx_scX M = sX
/-- what the tables say, at a state with the old heap H0 -/
def kx_G (D : va_G) (cst : Nat → Value) (sz : Nat) (cA : Nat → ClassId) (H0 : Heap) (sL : Nat) (sX : Nat → Int32) (U : State) : Prop :=
  (∀ c, c < 12 → u_Kn U (kx_nm c) (fun k => kx_Tf c k) (kx_cn c) (D.1 c) (D.2 c)) ∧
  (∀ t ∈ kx_ks, ArrOfT U (cA t) (kx_aty t) ∧ va_RA U (cA t) (kx_aty t)) ∧
  (∀ c, cst c = .null ∨ ∃ t, cst c = .ref t) ∧
  (∃ b, cst 1 = .ref b ∧ b < sz ∧ va_X b sL sX U H0) ∧
  (∀ c, 2 ≤ c → (kx_csh c).1 ∈ kx_ks → ∃ t, cst c = .ref t ∧ va_T (kx_aty (kx_csh c).1) t (kx_csh c).2 (fun k => kx_cdt c k) (fun q => sz ≤ q) U H0) ∧
  (∀ c, 2 ≤ c → (kx_csh c).1 = 12 → ∃ t, cst c = .ref t ∧ va_O "java/lang/String" t (fun q => sz ≤ q) U H0 ∧ va_OF "java/lang/String" "coder" "B" (.int 0) t (fun q => sz ≤ q) U H0 ∧ va_OF "java/lang/String" "value" "[B" (cst (c + 1)) t (fun q => sz ≤ q) U H0) ∧
  (∀ e ∈ kx_sts, va_Z e.1 e.2.1 e.2.2.1 (kx_v cst sz e.2.2.2) (fun q => sz ≤ q) U H0) ∧
  (∀ e ∈ kx_srs, ∃ a, cst e.2.2.2 = .ref a ∧ vk_R e.1 e.2.1 e.2.2.1 a U) ∧
  (∀ e ∈ kx_nst, va_Nw (.methodLinkNest e.1 e.2.1 e.2.2.1 e.2.2.2) U) ∧
  (∀ C ∈ kx_ao, va_AO C U) ∧ H0.size = sz
section KxRep
variable {D : va_G} {cst : Nat → Value} {sz : Nat} {cA : Nat → ClassId} {H0 : Heap} {sL : Nat} {sX : Nat → Int32}
theorem kx_G.warm {s U : State} (hW : s.WarmedH U.vm) (h : kx_G D cst sz cA H0 sL sX s) : kx_G D cst sz cA H0 sL sX U := by
  obtain ⟨h1, h2, h3, ⟨b, h4, h4b, h4c⟩, h5, h6, h7, h8, h9, h10, h11⟩ := h
  have hv : s.vm.Alike U.vm := hW.alike
  refine ⟨fun c hc => u_Kn_moved hv (h1 c hc), fun t ht => ⟨arrOfT_moved hv (h2 t ht).1, (h2 t ht).2.moved hv⟩, h3, ⟨b, h4, h4b, va_X.moved hv h4c⟩, fun c hc hk => ?_, fun c hc hk => ?_, fun e he => va_Z.moved hv (h7 e he), fun e he => ?_, fun e he => va_Nw.warmM hW (h9 e he), fun C hC => va_AO.moved hv (h10 C hC), h11⟩
  · obtain ⟨t, g1, g2⟩ := h5 c hc hk
    exact ⟨t, g1, va_T.moved hv g2⟩
  · obtain ⟨t, g1, g2, g3, g4⟩ := h6 c hc hk
    exact ⟨t, g1, va_O.moved hv g2, va_OF.moved hv g3, va_OF.moved hv g4⟩
  · obtain ⟨a, g1, g2⟩ := h8 e he
    exact ⟨a, g1, vk_R.warm hW g2⟩
theorem kx_G.same {s U : State} (hv : U.vm = s.vm) (h : kx_G D cst sz cA H0 sL sX s) : kx_G D cst sz cA H0 sL sX U := by
  obtain ⟨h1, h2, h3, ⟨b, h4, h4b, h4c⟩, h5, h6, h7, h8, h9, h10, h11⟩ := h
  have ha : s.vm.Alike U.vm := by rw [hv]; exact Vm.Alike.refl _
  refine ⟨fun c hc => u_Kn_moved ha (h1 c hc), fun t ht => ⟨arrOfT_moved ha (h2 t ht).1, (h2 t ht).2.moved ha⟩, h3, ⟨b, h4, h4b, va_X.moved ha h4c⟩, fun c hc hk => ?_, fun c hc hk => ?_, fun e he => va_Z.moved ha (h7 e he), fun e he => ?_, fun e he => va_Nw.same rfl hv.symm (h9 e he), fun C hC => va_AO.moved ha (h10 C hC), h11⟩
  · obtain ⟨t, g1, g2⟩ := h5 c hc hk
    exact ⟨t, g1, va_T.moved ha g2⟩
  · obtain ⟨t, g1, g2, g3, g4⟩ := h6 c hc hk
    exact ⟨t, g1, va_O.moved ha g2, va_OF.moved ha g3, va_OF.moved ha g4⟩
  · obtain ⟨a, g1, g2⟩ := h8 e he
    exact ⟨a, g1, vk_R.same hv g2⟩
theorem kx_v_cat {h3 : ∀ c, cst c = .null ∨ ∃ t, cst c = .ref t} (v : Value) : (kx_v cst sz v).category = v.category := by
  cases v with
  | retAddr c =>
    rcases h3 c with h | ⟨t, h⟩ <;> simp [kx_v, h, Value.category]
  | _ => rfl
theorem kx_cat_v (h3 : ∀ c, cst c = .null ∨ ∃ t, cst c = .ref t) (st : List Value) : ((st.map (kx_v cst sz)).map fun v => v.category).sum = kx_cat st := by
  unfold kx_cat
  rw [List.map_map]
  congr 1
  exact List.map_congr_left fun v _ => kx_v_cat (h3 := h3) v
theorem kx_Rep.lt {M : kx_M} {H : Heap} (h : kx_Rep D cst sz cA H0 sL sX M H) {a : Nat} (ha : (kx_sh M a).1 ≠ 99) : a < kx_nx M := by
  by_cases hlt : a < kx_nx M
  · exact hlt
  · exact absurd (h.2.2.2.1 a (by omega)) ha
theorem kx_Rep.obj {M : kx_M} {H : Heap} (h : kx_Rep D cst sz cA H0 sL sX M H) {a c : Nat} (ha : (kx_sh M a).1 = c) (hc : c < 12) : t_OB (sz + a) (D.1 c) (kx_cn c) (D.2 c) H (fun k => kx_v cst sz (kx_dt M a k)) := by
  have hlt := h.lt (a := a) (by omega)
  rcases h.2.2.1 a hlt with ⟨-, h1⟩ | ⟨h1, -⟩
  · rw [ha] at h1
    exact h1
  · exfalso
    rw [ha] at h1
    simp only [kx_ks, List.mem_cons, List.not_mem_nil, or_false] at h1
    omega
theorem kx_Rep.arr {M : kx_M} {H : Heap} (h : kx_Rep D cst sz cA H0 sL sX M H) {a t : Nat} (ha : (kx_sh M a).1 = t) (ht : t ≠ 99) (hc : 12 ≤ t) : t ∈ kx_ks ∧ H[sz + a]? = some (arrV (cA t) (kx_sh M a).2 (fun k => kx_v cst sz (kx_dt M a k))) := by
  have hlt := h.lt (a := a) (by omega)
  rcases h.2.2.1 a hlt with ⟨h1, -⟩ | ⟨h1, h2⟩
  · omega
  · obtain ⟨h2, -⟩ := h2
    rw [ha] at h1 h2
    exact ⟨h1, h2⟩
theorem kx_Rep.byt {M : kx_M} {H : Heap} (h : kx_Rep D cst sz cA H0 sL sX M H) {a : Nat} : kx_by M a := by
  intro ha
  have hlt := h.lt (a := a) (by omega)
  rcases h.2.2.1 a hlt with ⟨h1, -⟩ | ⟨h1, -, h2⟩
  · omega
  · exact h2 ha
theorem kx_arrV_ext {c : ClassId} {n : Nat} {f g : Nat → Value} (h : ∀ j, j < n → f j = g j) : arrV c n f = arrV c n g := by
  unfold arrV
  congr 1
  congr 1
  funext j
  exact h j.val j.isLt
theorem kx_cel.kept {M : kx_M} {a : Nat} {H H1 : Heap} (h : kx_cel D cst sz cA M a H) (hq : H1[sz + a]? = H[sz + a]?) : kx_cel D cst sz cA M a H1 := by
  rcases h with ⟨h1, h2⟩ | ⟨h1, h2⟩
  · exact Or.inl ⟨h1, h2.kept hq⟩
  · exact Or.inr ⟨h1, hq.trans h2.1, h2.2⟩
theorem kx_put_sh (M : kx_M) (a k : Nat) (v : Value) (b : Nat) : kx_sh (kx_put M a k v) b = kx_sh M b := rfl
theorem kx_put_nx (M : kx_M) (a k : Nat) (v : Value) : kx_nx (kx_put M a k v) = kx_nx M := rfl
theorem kx_put_sl (M : kx_M) (a k : Nat) (v : Value) : kx_sl (kx_put M a k v) = kx_sl M := rfl
theorem kx_put_dt (M : kx_M) (a k : Nat) (v : Value) (b j : Nat) : kx_dt (kx_put M a k v) b j = if b = a ∧ j = k then v else kx_dt M b j := rfl
theorem kx_cel.other {M M' : kx_M} {b : Nat} {H : Heap} (hs : kx_sh M' b = kx_sh M b) (hd : ∀ j, kx_dt M' b j = kx_dt M b j) (h : kx_cel D cst sz cA M b H) : kx_cel D cst sz cA M' b H := by
  have e : (fun k => kx_v cst sz (kx_dt M' b k)) = fun k => kx_v cst sz (kx_dt M b k) := by funext k; rw [hd]
  have e2 : kx_by M' b ↔ kx_by M b := by
    unfold kx_by
    rw [hs]
    constructor
    · intro g h1 j h2; rw [← hd]; exact g h1 j h2
    · intro g h1 j h2; rw [hd]; exact g h1 j h2
  unfold kx_cel at h ⊢
  rw [hs, e, e2]
  exact h
/-- one cell of the memory has changed -/
theorem kx_Rep.one {M M' : kx_M} {H H1 : Heap} {a : Nat} (h : kx_Rep D cst sz cA H0 sL sX M H) (hn : kx_nx M' = kx_nx M) (hsh : ∀ b, kx_sh M' b = kx_sh M b) (hd : ∀ b, b ≠ a → ∀ j, kx_dt M' b j = kx_dt M b j) (hsc : M'.2.2.2.2 = M.2.2.2.2) (hz : H1.size = H.size) (ho : ∀ q, q ≠ sz + a → H1[q]? = H[q]?) (hc : kx_cel D cst sz cA M' a H1) : kx_Rep D cst sz cA H0 sL sX M' H1 := by
  obtain ⟨h1, h2, h3, h4, h5, h6⟩ := h
  refine ⟨by rw [hz, hn]; exact h1, fun q hq => by rw [ho q (by omega)]; exact h2 q hq, fun b hb => ?_, fun b hb => by rw [hsh]; exact h4 b (by omega), ?_, ?_⟩
  · by_cases hba : b = a
    · rw [hba]; exact hc
    · exact ((h3 b (by omega)).kept (ho _ (by omega))).other (hsh b) (hd b hba)
  · show M'.2.2.2.2.1 = _
    rw [hsc]; exact h5
  · show M'.2.2.2.2.2 = _
    rw [hsc]; exact h6
theorem kx_new_sh (M : kx_M) (t n : Nat) (z : Nat → Value) (b : Nat) : kx_sh (kx_new M t n z) b = if b = kx_nx M then (t, n) else kx_sh M b := rfl
theorem kx_new_dt (M : kx_M) (t n : Nat) (z : Nat → Value) (b j : Nat) : kx_dt (kx_new M t n z) b j = if b = kx_nx M then z j else kx_dt M b j := rfl
theorem kx_new_nx (M : kx_M) (t n : Nat) (z : Nat → Value) : kx_nx (kx_new M t n z) = kx_nx M + 1 := rfl
theorem kx_new_sl (M : kx_M) (t n : Nat) (z : Nat → Value) : kx_sl (kx_new M t n z) = kx_sl M + n := rfl
/-- a cell has been made -/
theorem kx_Rep.made {M : kx_M} {H H1 : Heap} {t n : Nat} {z : Nat → Value} (h : kx_Rep D cst sz cA H0 sL sX M H) (hz : H1.size = H.size + 1) (ho : ∀ q, q < H.size → H1[q]? = H[q]?) (hc : kx_cel D cst sz cA (kx_new M t n z) (kx_nx M) H1) : kx_Rep D cst sz cA H0 sL sX (kx_new M t n z) H1 := by
  obtain ⟨h1, h2, h3, h4, h5, h6⟩ := h
  refine ⟨by rw [hz, h1, kx_new_nx]; omega, fun q hq => by rw [ho q (by omega)]; exact h2 q hq, fun b hb => ?_, fun b hb => ?_, h5, h6⟩
  · rw [kx_new_nx] at hb
    by_cases hba : b = kx_nx M
    · rw [hba]; exact hc
    · refine ((h3 b (by omega)).kept (ho _ (by omega))).other ?_ ?_
      · rw [kx_new_sh, if_neg hba]
      · intro j; rw [kx_new_dt, if_neg hba]
  · rw [kx_new_nx] at hb
    rw [kx_new_sh, if_neg (by omega)]
    exact h4 b (by omega)
end KxRep
/-! locals -/
def kx_LR (cst : Nat → Value) (sz : Nat) (mk : List Nat) (n : Nat) (ls : Array Slot) (L : kx_L) : Prop :=
  L.length = n ∧ ls.size = n ∧ lv_wf ls ∧ ∀ i v, L[i]? = some (some v) → ls[i]? = some (.val (kx_v cst sz v)) ∧ (v.category = 2 → i + 1 ∈ mk)
def kx_kn (cst : Nat → Value) (sz : Nat) (L : kx_L) : List (Nat × Value) := (List.range L.length).filterMap fun n => match L[n]? with
  | some (some v) => some (n, kx_v cst sz v)
  | _ => none
theorem kx_kn_mem {cst : Nat → Value} {sz : Nat} {L : kx_L} {q : Nat × Value} : q ∈ kx_kn cst sz L ↔ ∃ v, L[q.1]? = some (some v) ∧ q.2 = kx_v cst sz v := by
  unfold kx_kn
  rw [List.mem_filterMap]
  constructor
  · rintro ⟨n, hn, h⟩
    split at h
    next v hv => cases h; exact ⟨v, hv, rfl⟩
    next => cases h
  · rintro ⟨v, hv, h2⟩
    refine ⟨q.1, List.mem_range.mpr (List.getElem?_eq_some_iff.mp hv).1, ?_⟩
    rw [hv]
    obtain ⟨a, b⟩ := q
    dsimp only at h2 ⊢
    rw [h2]
theorem kx_LR.has {cst : Nat → Value} {sz : Nat} {mk : List Nat} {n : Nat} {ls : Array Slot} {L : kx_L} (h : kx_LR cst sz mk n ls L) : lv_has ls n (kx_kn cst sz L) := by
  refine ⟨h.2.1, h.2.2.1, fun q hq => ?_⟩
  obtain ⟨v, hv, h2⟩ := kx_kn_mem.mp hq
  rw [h2]
  exact (h.2.2.2 _ _ hv).1
theorem kx_LR.s1 {cst : Nat → Value} (h3 : ∀ c, cst c = .null ∨ ∃ t, cst c = .ref t) {sz : Nat} {mk : List Nat} {n : Nat} {ls ls' : Array Slot} {L : kx_L} {i : Nat} {v : Value} (h : kx_LR cst sz mk n ls L) (hi : i ∉ mk) (hv : v.category = 1)
    (h' : lv_has ls' n ((i, kx_v cst sz v) :: (kx_kn cst sz L).filter (fun q => !(q.1 == i) && !(q.1 + 1 == i && q.2.category == 2)))) : kx_LR cst sz mk n ls' (L.set i (some v)) := by
  refine ⟨by rw [List.length_set]; exact h.1, h'.1, h'.2.1, fun j w hj => ?_⟩
  by_cases hji : j = i
  · subst hji
    have hlt : j < L.length := by
      have := (List.getElem?_eq_some_iff.mp hj).1
      rwa [List.length_set] at this
    rw [List.getElem?_set_self hlt] at hj
    cases hj
    refine ⟨h'.2.2 (j, _) List.mem_cons_self, fun z => by omega⟩
  · rw [List.getElem?_set_ne (Ne.symm hji)] at hj
    obtain ⟨-, h2⟩ := h.2.2.2 j w hj
    refine ⟨h'.2.2 (j, kx_v cst sz w) (List.mem_cons_of_mem _ (List.mem_filter.mpr ⟨kx_kn_mem.mpr ⟨w, hj, rfl⟩, ?_⟩)), h2⟩
    have h1 : (j == i) = false := by simpa using hji
    have h4 : (j + 1 == i && (kx_v cst sz w).category == 2) = false := by
      rw [kx_v_cat (h3 := h3)]
      by_cases hc : w.category = 2
      · have : j + 1 ≠ i := fun z => hi (z ▸ h2 hc)
        simp [this]
      · simp [hc]
    simp [h1, h4]
theorem kx_LR.s2 {cst : Nat → Value} (h3 : ∀ c, cst c = .null ∨ ∃ t, cst c = .ref t) {sz : Nat} {mk : List Nat} {n : Nat} {ls ls' : Array Slot} {L : kx_L} {i : Nat} {v : Value} (h : kx_LR cst sz mk n ls L) (hi : i ∉ mk) (hm : i + 1 ∈ mk)
    (h' : lv_has ls' n ((i, kx_v cst sz v) :: (kx_kn cst sz L).filter (fun q => !(q.1 == i) && (!(q.1 == i + 1) && !(q.1 + 1 == i && q.2.category == 2))))) : kx_LR cst sz mk n ls' ((L.set i (some v)).set (i + 1) none) := by
  refine ⟨by rw [List.length_set, List.length_set]; exact h.1, h'.1, h'.2.1, fun j w hj => ?_⟩
  by_cases hj1 : j = i + 1
  · subst hj1
    have hlt := (List.getElem?_eq_some_iff.mp hj).1
    rw [List.length_set] at hlt
    rw [List.getElem?_set_self hlt] at hj
    cases hj
  · rw [List.getElem?_set_ne (Ne.symm hj1)] at hj
    by_cases hji : j = i
    · subst hji
      have hlt : j < L.length := by
        have := (List.getElem?_eq_some_iff.mp hj).1
        rwa [List.length_set] at this
      rw [List.getElem?_set_self hlt] at hj
      cases hj
      exact ⟨h'.2.2 (j, _) List.mem_cons_self, fun _ => hm⟩
    · rw [List.getElem?_set_ne (Ne.symm hji)] at hj
      obtain ⟨-, h2⟩ := h.2.2.2 j w hj
      refine ⟨h'.2.2 (j, kx_v cst sz w) (List.mem_cons_of_mem _ (List.mem_filter.mpr ⟨kx_kn_mem.mpr ⟨w, hj, rfl⟩, ?_⟩)), h2⟩
      have h1 : (j == i) = false := by simpa using hji
      have h5 : (j == i + 1) = false := by simpa using hj1
      have h4 : (j + 1 == i && (kx_v cst sz w).category == 2) = false := by
        rw [kx_v_cat (h3 := h3)]
        by_cases hc : w.category = 2
        · have : j + 1 ≠ i := fun z => hi (z ▸ h2 hc)
          simp [this]
        · simp [hc]
      simp [h1, h4, h5]
