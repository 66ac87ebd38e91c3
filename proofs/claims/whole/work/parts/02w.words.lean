def kx_tyL : List (Nat → FieldType) := [kx_y0, kx_y1, kx_y2, kx_y3, kx_y4, kx_y5, kx_y6, kx_y7, kx_y8, kx_y9, kx_y10, kx_y11]
def kx_sts : List (String × String × String × Value) := [("KiteWar$Field", "START", "[I", .retAddr 2), ("KiteWar$Field", "ROW", "[I", .retAddr 3), ("KiteWar$Field", "SHIFT", "[I", .retAddr 4), ("KiteWar$Field", "ROWS_OF_STEP", "[I", .retAddr 5), ("KiteWar$Field", "COLUMNS_OF_STEP", "[I", .retAddr 6), ("java/lang/Integer", "DigitOnes", "[B", .retAddr 7), ("java/lang/Integer", "DigitTens", "[B", .retAddr 8), ("java/lang/String", "COMPACT_STRINGS", "Z", .int 1), ("jdk/internal/util/Preconditions", "SIOOBE_FORMATTER", "Ljava/util/function/BiFunction;", .retAddr 0)]
def kx_srs : List (String × Nat × String × Nat) := [("KiteWar$Orders", 54, "wind ", 10), ("KiteWar$Orders", 69, "turn ", 12), ("KiteWar$Orders", 74, "fly ", 14), ("KiteWar$Orders", 76, "out", 16), ("KiteWar$Orders", 78, "in", 18), ("KiteWar$Orders", 80, "right", 20), ("KiteWar$Orders", 82, "eft", 22), ("KiteWar$Orders", 84, "and", 24), ("KiteWar", 368, " rest", 26), ("KiteWar", 370, " flies ", 28), ("KiteWar", 372, " drifts ", 30), ("KiteWar", 374, " lost", 32), ("KiteWar", 276, " s", 34), ("KiteWarModel", 233, "ind ", 36), ("KiteWarModel", 235, "urn ", 38), ("KiteWarModel", 213, "ly ", 40), ("KiteWarModel", 222, "ut", 42), ("KiteWarModel", 224, "ight", 44), ("KiteWarModel", 226, "ft", 46), ("KiteWarModel", 228, "and", 48), ("KiteWarModel", 274, " rest", 50), ("KiteWarModel", 280, " flies ", 52), ("KiteWarModel", 282, " drifts ", 54), ("KiteWarModel", 284, " lost", 56), ("KiteWarModel", 286, " s", 58)]
def kx_nst : List (String × Nat × MethodName × String) := [("KiteWar$State", 17, ⟨"KiteWar$Tower", "<init>", "()V"⟩, "KiteWar"), ("KiteWar$State", 24, ⟨"KiteWar$Kite", "<init>", "()V"⟩, "KiteWar"), ("KiteWar$Lines", 17, ⟨"KiteWar$Flight", "<init>", "()V"⟩, "KiteWar"), ("KiteWar$Umpire", 20, ⟨"KiteWar$Flight", "<init>", "()V"⟩, "KiteWar"), ("KiteWar$Orders", 24, ⟨"KiteWar$Order", "<init>", "()V"⟩, "KiteWar")]
def kx_ao : List String := ["KiteWar$Tower", "KiteWar$Kite", "KiteWar$State", "KiteWar$Order"]
def kx_pv : List MethodName := [⟨"java/lang/AbstractStringBuilder", "ensureCapacityInternal", "(I)V"⟩, ⟨"java/lang/AbstractStringBuilder", "newCapacity", "(I)I"⟩, ⟨"java/lang/AbstractStringBuilder", "putStringAt", "(ILjava/lang/String;)V"⟩, ⟨"java/lang/AbstractStringBuilder", "inflateIfNeededFor", "(Ljava/lang/String;)V"⟩]
def kx_sel : List Cond := kx_pv.map fun y => Cond.selects "java/lang/StringBuilder" y y
/-! what the tables of part 02 rest on: each entry's words stand among lw_tbl; written by wip/whole/words.py -/
def kx_nm (c : Nat) : String := match kx_cl[c]? with
  | some r => r.1
  | none => ""
def kx_Tf (c k : Nat) : String × String × String × Bool := match kx_cl[c]? with
  | some r => r.2.1 k
  | none => ("", "", "", false)
def kx_Ty (c : Nat) : Nat → FieldType := kx_tyL.getD c (fun _ => .int)
def kx_aty (t : Nat) : FieldType := match t with
  | 101 => .int
  | 102 => .long
  | 103 => .byte
  | 104 => .char
  | 105 => .boolean
  | 110 => .object "KiteWar$Tower"
  | 111 => .object "KiteWar$Kite"
  | 112 => .object "KiteWar$State"
  | _ => .object "KiteWar$Order"
def kx_ks : List Nat := [101, 102, 103, 104, 105, 110, 111, 112, 113]
def kx_isr (d : String) : Bool := match parseFieldDescriptor d with
  | some (.object _) => true
  | some (.array _) => true
  | _ => false
def kx_okK (own : String) (t : String × String × String × Bool) (c : Nat) : Bool := match c with
  | 0 => !t.2.2.2 && decide (parseFieldDescriptor t.2.2.1 = some .int)
  | 1 => !t.2.2.2 && decide (parseFieldDescriptor t.2.2.1 = some .boolean)
  | 2 => !t.2.2.2 && decide (parseFieldDescriptor t.2.2.1 = some .byte)
  | 3 => !t.2.2.2 && kx_isr t.2.2.1
  | 4 => t.2.2.2 && decide (t.1 = own) && kx_isr t.2.2.1
  | 5 => true
  | _ => false
def kx_okF (own : String) (n : Nat) (q : Nat × Nat × Nat) : Prop :=
  (q.1 = 12 ∧ q.2.2 = 9 ∧ (q.2.1 = 0 ∧ Cond.fieldLink own n "java/lang/String" "value" "[B" ∈ lw_tbl ∨ q.2.1 = 1 ∧ Cond.fieldLink own n "java/lang/String" "coder" "B" ∈ lw_tbl)) ∨
  (q.1 < 12 ∧ q.2.1 < kx_cn q.1 ∧ Cond.fieldLink own n (kx_Tf q.1 q.2.1).1 (kx_Tf q.1 q.2.1).2.1 (kx_Tf q.1 q.2.1).2.2.1 ∈ lw_tbl ∧ kx_okK own (kx_Tf q.1 q.2.1) q.2.2 = true)
def kx_okS (own : String) (n : Nat) (v : Value) : Prop := ∃ e ∈ kx_sts, e.2.2.2 = v ∧ Cond.fieldLink own n e.1 e.2.1 e.2.2.1 ∈ lw_tbl
def kx_okN (own : String) (n : Nat) (v : Value) : Prop := (∃ x : Int32, v = .int x ∧ Cond.constant own n x ∈ lw_tbl) ∨ ∃ e ∈ kx_srs, e.1 = own ∧ e.2.1 = n ∧ v = .retAddr e.2.2.2
def kx_okL (own : String) (n : Nat) (q : Nat × Nat) : Prop := q.1 < 12 ∧ Cond.classLink own n (kx_nm q.1) ∈ lw_tbl ∧ Cond.instantiable (kx_nm q.1) (kx_cn q.1) ∈ lw_tbl ∧ Cond.initialized (kx_nm q.1) ∈ lw_tbl ∧ (q.2 ≠ 0 → q.2 ∈ kx_ks ∧ kx_aty q.2 = .object (kx_nm q.1) ∧ kx_nm q.1 ∈ kx_ao)
def kx_tb : List Cond := kx_sel ++ lw_tbl.filter goodWord
def kx_okC1 (own : String) (n : Nat) (q : Nat × Nat × Nat × Nat) (y : MethodName) : Prop :=
  (q.1 = 3 ∧ Cond.methodLink own n y ∈ lw_tbl ∧ Cond.instanceMethod y ∈ lw_tbl ∧ Cond.selects y.cls y y ∈ lw_tbl ∧ (q.2.2.2 < 12 ∧ kx_nm q.2.2.2 = y.cls ∨ q.2.2.2 = 12 ∧ y.cls = "java/lang/String")) ∨
  (q.1 = 4 ∧ Cond.methodLink own n y ∈ lw_tbl ∧ Cond.static y ∈ lw_tbl) ∨
  (q.1 = 5 ∧ Cond.methodLink own n y ∈ lw_tbl ∧ Cond.instanceMethod y ∈ lw_tbl ∧ y.name = "<init>") ∨
  (q.1 = 6 ∧ (∃ e ∈ kx_nst, e.1 = own ∧ e.2.1 = n ∧ e.2.2.1 = y) ∧ Cond.instanceMethod y ∈ lw_tbl ∧ y.name = "<init>") ∨
  (q.1 = 8 ∧ Cond.methodLink own n y ∈ lw_tbl ∧ Cond.sameMethod y.cls y.cls y.name y.desc ∈ lw_tbl ∧ Cond.superclass own y.cls ∈ lw_tbl ∧ Cond.instanceMethod y ∈ lw_tbl ∧ y.name ≠ "<init>" ∧ q.2.2.2 = 11) ∨
  (q.1 = 9 ∧ Cond.methodLink own n y ∈ lw_tbl ∧ Cond.sameMethod y.cls y.cls y.name y.desc ∈ lw_tbl ∧ Cond.instanceMethod y ∈ lw_tbl ∧ Cond.selects "java/lang/StringBuilder" y y ∈ kx_tb ∧ q.2.2.2 = 11)
def kx_okC (own : String) (n : Nat) (q : Nat × Nat × Nat × Nat) : Prop :=
  (q.1 = 20 ∧ Cond.methodLink own n Lib.Math.max.name ∈ lw_tbl) ∨ (q.1 = 21 ∧ Cond.methodLink own n Lib.Math.min.name ∈ lw_tbl) ∨ (q.1 = 22 ∧ Cond.methodLink own n Lib.Math.abs.name ∈ lw_tbl) ∨
  (q.1 = 7 ∧ Cond.methodLink own n Lib.objectInit ∈ lw_tbl) ∨ (q.1 = 10 ∧ Cond.methodLink own n arraycopyName ∈ lw_tbl) ∨
  ∃ r, kx_meth q.2.1 = some r ∧ r.1.cls ≠ "KiteWarLaw" ∧ (parseMethodDescriptor r.1.desc).map (fun d => d.parameters.length) = some q.2.2.1 ∧ Cond.initialized r.1.cls ∈ lw_tbl ∧ kx_okC1 own n q r.1 ∧ (q.1 = 5 ∨ q.1 = 6 → r.2.2.2.1 = none)
def kx_ln : Instr → Nat
  | .aload _ => 2
  | .iload _ => 2
  | .lload _ => 2
  | .dload _ => 2
  | .istore _ => 2
  | .astore _ => 2
  | .lstore _ => 2
  | .dstore _ => 2
  | .bipush _ => 2
  | .ldc _ => 2
  | .newarray _ => 2
  | .sipush _ => 3
  | .ldc_w _ => 3
  | .iinc _ _ => 3
  | .goto _ => 3
  | .ifCond _ _ => 3
  | .if_icmp _ _ => 3
  | .ifnonnull _ => 3
  | .getfield _ => 3
  | .putfield _ => 3
  | .getstatic _ => 3
  | .invokevirtual _ => 3
  | .invokestatic _ => 3
  | .invokespecial _ => 3
  | .new _ => 3
  | .anewarray _ => 3
  | .tableswitch _ _ _ _ => 0
  | .lookupswitch _ _ => 0
  | _ => 1
def kx_lt (n : Nat) (I : Instr) : Bool := match I with
  | .goto k => decide (0 ≤ (n : Int) + k)
  | .ifCond _ k => decide (0 ≤ (n : Int) + k)
  | .if_icmp _ k => decide (0 ≤ (n : Int) + k)
  | .ifnonnull k => decide (0 ≤ (n : Int) + k)
  | .tableswitch d _ _ o => decide (0 ≤ (n : Int) + d) && o.toList.all fun k => decide (0 ≤ (n : Int) + k)
  | .lookupswitch d ps => decide (0 ≤ (n : Int) + d) && (ps.toList.all fun k => decide (0 ≤ (n : Int) + k.2)) && (ps.toList.zip (ps.toList.drop 1)).all (fun (a, next) => a.1 < next.1)
  | _ => true
def kx_lk (n : Nat) (q : kx_I) : Bool := (Nat.beq (kx_ln q.1) 0 || Nat.beq (kx_ln q.1) q.2) && kx_lt n q.1
def kx_ckn (r : kx_R) (n : Nat) : Bool := match kx_ix r.2.2.2.2.1 n with
  | none => true
  | some q => decide (decode r.2.1 n = .ok q) && kx_lk n q
def kx_ckr (r : kx_R) (k : Nat) : Bool := (List.range 16).all fun j => kx_ckn r (16 * k + j)
def kx_ckc (r : kx_R) : Prop := ∀ k, k < r.2.2.2.2.1.length → kx_ckr r k = true
theorem kx_ck_spec {r : kx_R} (h : kx_ckc r) {n : Nat} {q : kx_I} (hq : kx_ix r.2.2.2.2.1 n = some q) : decode r.2.1 n = .ok q ∧ kx_lk n q = true := by
  have hn : n / 16 < r.2.2.2.2.1.length := by
    by_cases hlt : n / 16 < r.2.2.2.2.1.length
    · exact hlt
    · unfold kx_ix at hq
      rw [List.getElem?_eq_none (by omega)] at hq
      cases hq
  have h1 := List.all_eq_true.mp (h _ hn) (n % 16) (List.mem_range.mpr (Nat.mod_lt _ (by decide)))
  rw [show 16 * (n / 16) + n % 16 = n by omega] at h1
  unfold kx_ckn at h1
  rw [hq] at h1
  simp only [Bool.and_eq_true, decide_eq_true_eq] at h1
  exact h1
def kx_okM (r : kx_R) : Prop := kx_ckc r ∧ kx_on[r.2.2.2.2.2.1]? = some r.1.cls ∧ (r.1.cls = "KiteWarLaw" ∨ (Cond.code r.1 r.2.1 r.2.2.1 r.2.2.2.1 ∈ lw_tbl ∧ plainFor r.1 = true ∧ r.1.cls ≠ "java/lang/invoke/MethodHandle" ∧ r.1.cls ≠ "java/lang/invoke/VarHandle"))
theorem kx_tin {w : Cond} (h : w ∈ lw_tbl) (hg : goodWord w = true) : w ∈ kx_tb := List.mem_append_right _ (List.mem_filter.mpr ⟨h, hg⟩)
theorem kx_find_mem {α : Type} {l : List (Nat × α)} {n : Nat} {r : α} (h : kx_find l n = some r) : (n, r) ∈ l := by
  induction l with
  | nil => cases h
  | cons p t ih =>
    obtain ⟨k, x⟩ := p
    rw [kx_find] at h
    cases hk : Nat.beq n k with
    | true =>
      rw [hk] at h
      have := Nat.eq_of_beq_eq_true hk
      subst this
      cases h
      exact List.mem_cons_self
    | false =>
      rw [hk] at h
      exact List.mem_cons_of_mem _ (ih h)
theorem kx_look_mem {α : Type} {T : List (List (Nat × α))} {k n : Nat} {r : α} (h : kx_look T k n = some r) : ∃ l, T[k]? = some l ∧ (n, r) ∈ l := by
  unfold kx_look at h
  cases hl : T[k]? with
  | none => rw [hl] at h; cases h
  | some l => rw [hl] at h; exact ⟨l, rfl, kx_find_mem h⟩
theorem kx_fa1 {α : Type} {P : String → α → Prop} {own : String} {l : List α} {os : List String} {T : List (List α)} (h0 : ∀ q ∈ l, P own q) (hr : ∀ (k : Nat) (o : String) (l : List α), os[k]? = some o → T[k]? = some l → ∀ q ∈ l, P o q) : ∀ (k : Nat) (o : String) (l' : List α), (own :: os)[k]? = some o → (l :: T)[k]? = some l' → ∀ q ∈ l', P o q := by
  intro k o l' h1 h2
  cases k with
  | zero => cases h1; cases h2; exact h0
  | succ k => exact hr k o l' h1 h2
theorem kx_fa0 {α : Type} {P : String → α → Prop} {os : List String} : ∀ (k : Nat) (o : String) (l' : List α), os[k]? = some o → ([] : List (List α))[k]? = some l' → ∀ q ∈ l', P o q := fun k o l' _ h => by simp at h

theorem kx_wf_0 : ∀ q ∈ (kx_fldT.getD 0 []), kx_okF "KiteWarLaw" q.1 q.2 := fun _ h => absurd h List.not_mem_nil
theorem kx_wf_1_0 : kx_okF "KiteWar" 10 (9, 0, 4) := Or.inr ⟨Nat.le_of_ble_eq_true rfl, Nat.le_of_ble_eq_true rfl, List.mem_of_getElem? (i := 454) (by decide +kernel), by decide +kernel⟩
theorem kx_wf_1_1 : kx_okF "KiteWar" 16 (9, 1, 4) := Or.inr ⟨Nat.le_of_ble_eq_true rfl, Nat.le_of_ble_eq_true rfl, List.mem_of_getElem? (i := 455) (by decide +kernel), by decide +kernel⟩
theorem kx_wf_1_2 : kx_okF "KiteWar" 19 (9, 2, 4) := Or.inr ⟨Nat.le_of_ble_eq_true rfl, Nat.le_of_ble_eq_true rfl, List.mem_of_getElem? (i := 456) (by decide +kernel), by decide +kernel⟩
theorem kx_wf_1_3 : kx_okF "KiteWar" 22 (9, 3, 1) := Or.inr ⟨Nat.le_of_ble_eq_true rfl, Nat.le_of_ble_eq_true rfl, List.mem_of_getElem? (i := 457) (by decide +kernel), by decide +kernel⟩
theorem kx_wf_1_4 : kx_okF "KiteWar" 29 (9, 4, 4) := Or.inr ⟨Nat.le_of_ble_eq_true rfl, Nat.le_of_ble_eq_true rfl, List.mem_of_getElem? (i := 458) (by decide +kernel), by decide +kernel⟩
theorem kx_wf_1_5 : kx_okF "KiteWar" 36 (9, 6, 4) := Or.inr ⟨Nat.le_of_ble_eq_true rfl, Nat.le_of_ble_eq_true rfl, List.mem_of_getElem? (i := 460) (by decide +kernel), by decide +kernel⟩
theorem kx_wf_1_6 : kx_okF "KiteWar" 43 (9, 5, 4) := Or.inr ⟨Nat.le_of_ble_eq_true rfl, Nat.le_of_ble_eq_true rfl, List.mem_of_getElem? (i := 459) (by decide +kernel), by decide +kernel⟩
theorem kx_wf_1_7 : kx_okF "KiteWar" 50 (9, 7, 4) := Or.inr ⟨Nat.le_of_ble_eq_true rfl, Nat.le_of_ble_eq_true rfl, List.mem_of_getElem? (i := 461) (by decide +kernel), by decide +kernel⟩
theorem kx_wf_1_8 : kx_okF "KiteWar" 57 (9, 8, 4) := Or.inr ⟨Nat.le_of_ble_eq_true rfl, Nat.le_of_ble_eq_true rfl, List.mem_of_getElem? (i := 462) (by decide +kernel), by decide +kernel⟩
theorem kx_wf_1_9 : kx_okF "KiteWar" 61 (9, 9, 0) := Or.inr ⟨Nat.le_of_ble_eq_true rfl, Nat.le_of_ble_eq_true rfl, List.mem_of_getElem? (i := 463) (by decide +kernel), by decide +kernel⟩
theorem kx_wf_1_10 : kx_okF "KiteWar" 65 (9, 10, 0) := Or.inr ⟨Nat.le_of_ble_eq_true rfl, Nat.le_of_ble_eq_true rfl, List.mem_of_getElem? (i := 464) (by decide +kernel), by decide +kernel⟩
theorem kx_wf_1_11 : kx_okF "KiteWar" 105 (6, 7, 0) := Or.inr ⟨Nat.le_of_ble_eq_true rfl, Nat.le_of_ble_eq_true rfl, List.mem_of_getElem? (i := 242) (by decide +kernel), by decide +kernel⟩
theorem kx_wf_1_12 : kx_okF "KiteWar" 108 (6, 0, 0) := Or.inr ⟨Nat.le_of_ble_eq_true rfl, Nat.le_of_ble_eq_true rfl, List.mem_of_getElem? (i := 225) (by decide +kernel), by decide +kernel⟩
theorem kx_wf_1_13 : kx_okF "KiteWar" 120 (6, 1, 5) := Or.inr ⟨Nat.le_of_ble_eq_true rfl, Nat.le_of_ble_eq_true rfl, List.mem_of_getElem? (i := 228) (by decide +kernel), by decide +kernel⟩
theorem kx_wf_1_14 : kx_okF "KiteWar" 124 (7, 0, 0) := Or.inr ⟨Nat.le_of_ble_eq_true rfl, Nat.le_of_ble_eq_true rfl, List.mem_of_getElem? (i := 118) (by decide +kernel), by decide +kernel⟩
theorem kx_wf_1_15 : kx_okF "KiteWar" 129 (7, 1, 0) := Or.inr ⟨Nat.le_of_ble_eq_true rfl, Nat.le_of_ble_eq_true rfl, List.mem_of_getElem? (i := 121) (by decide +kernel), by decide +kernel⟩
theorem kx_wf_1_16 : kx_okF "KiteWar" 132 (7, 2, 0) := Or.inr ⟨Nat.le_of_ble_eq_true rfl, Nat.le_of_ble_eq_true rfl, List.mem_of_getElem? (i := 124) (by decide +kernel), by decide +kernel⟩
theorem kx_wf_1_17 : kx_okF "KiteWar" 141 (7, 3, 0) := Or.inr ⟨Nat.le_of_ble_eq_true rfl, Nat.le_of_ble_eq_true rfl, List.mem_of_getElem? (i := 127) (by decide +kernel), by decide +kernel⟩
theorem kx_wf_1_18 : kx_okF "KiteWar" 147 (6, 3, 5) := Or.inr ⟨Nat.le_of_ble_eq_true rfl, Nat.le_of_ble_eq_true rfl, List.mem_of_getElem? (i := 234) (by decide +kernel), by decide +kernel⟩
theorem kx_wf_1_19 : kx_okF "KiteWar" 151 (2, 0, 0) := Or.inr ⟨Nat.le_of_ble_eq_true rfl, Nat.le_of_ble_eq_true rfl, List.mem_of_getElem? (i := 148) (by decide +kernel), by decide +kernel⟩
theorem kx_wf_1_20 : kx_okF "KiteWar" 154 (2, 1, 0) := Or.inr ⟨Nat.le_of_ble_eq_true rfl, Nat.le_of_ble_eq_true rfl, List.mem_of_getElem? (i := 151) (by decide +kernel), by decide +kernel⟩
theorem kx_wf_1_21 : kx_okF "KiteWar" 157 (2, 4, 0) := Or.inr ⟨Nat.le_of_ble_eq_true rfl, Nat.le_of_ble_eq_true rfl, List.mem_of_getElem? (i := 164) (by decide +kernel), by decide +kernel⟩
theorem kx_wf_1_22 : kx_okF "KiteWar" 160 (2, 5, 0) := Or.inr ⟨Nat.le_of_ble_eq_true rfl, Nat.le_of_ble_eq_true rfl, List.mem_of_getElem? (i := 169) (by decide +kernel), by decide +kernel⟩
theorem kx_wf_1_23 : kx_okF "KiteWar" 163 (2, 6, 0) := Or.inr ⟨Nat.le_of_ble_eq_true rfl, Nat.le_of_ble_eq_true rfl, List.mem_of_getElem? (i := 174) (by decide +kernel), by decide +kernel⟩
theorem kx_wf_1_24 : kx_okF "KiteWar" 166 (2, 7, 0) := Or.inr ⟨Nat.le_of_ble_eq_true rfl, Nat.le_of_ble_eq_true rfl, List.mem_of_getElem? (i := 178) (by decide +kernel), by decide +kernel⟩
theorem kx_wf_1_25 : kx_okF "KiteWar" 167 (2, 8, 0) := Or.inr ⟨Nat.le_of_ble_eq_true rfl, Nat.le_of_ble_eq_true rfl, List.mem_of_getElem? (i := 182) (by decide +kernel), by decide +kernel⟩
theorem kx_wf_1_26 : kx_okF "KiteWar" 170 (2, 9, 0) := Or.inr ⟨Nat.le_of_ble_eq_true rfl, Nat.le_of_ble_eq_true rfl, List.mem_of_getElem? (i := 184) (by decide +kernel), by decide +kernel⟩
theorem kx_wf_1_27 : kx_okF "KiteWar" 173 (2, 10, 0) := Or.inr ⟨Nat.le_of_ble_eq_true rfl, Nat.le_of_ble_eq_true rfl, List.mem_of_getElem? (i := 187) (by decide +kernel), by decide +kernel⟩
theorem kx_wf_1_28 : kx_okF "KiteWar" 188 (2, 11, 0) := Or.inr ⟨Nat.le_of_ble_eq_true rfl, Nat.le_of_ble_eq_true rfl, List.mem_of_getElem? (i := 191) (by decide +kernel), by decide +kernel⟩
theorem kx_wf_1_29 : kx_okF "KiteWar" 191 (2, 12, 0) := Or.inr ⟨Nat.le_of_ble_eq_true rfl, Nat.le_of_ble_eq_true rfl, List.mem_of_getElem? (i := 195) (by decide +kernel), by decide +kernel⟩
theorem kx_wf_1_30 : kx_okF "KiteWar" 200 (6, 4, 0) := Or.inr ⟨Nat.le_of_ble_eq_true rfl, Nat.le_of_ble_eq_true rfl, List.mem_of_getElem? (i := 238) (by decide +kernel), by decide +kernel⟩
theorem kx_wf_1_31 : kx_okF "KiteWar" 225 (6, 2, 0) := Or.inr ⟨Nat.le_of_ble_eq_true rfl, Nat.le_of_ble_eq_true rfl, List.mem_of_getElem? (i := 230) (by decide +kernel), by decide +kernel⟩
theorem kx_wf_1_32 : kx_okF "KiteWar" 228 (5, 0, 5) := Or.inr ⟨Nat.le_of_ble_eq_true rfl, Nat.le_of_ble_eq_true rfl, List.mem_of_getElem? (i := 432) (by decide +kernel), by decide +kernel⟩
theorem kx_wf_1_33 : kx_okF "KiteWar" 245 (5, 4, 1) := Or.inr ⟨Nat.le_of_ble_eq_true rfl, Nat.le_of_ble_eq_true rfl, List.mem_of_getElem? (i := 440) (by decide +kernel), by decide +kernel⟩
theorem kx_wf_1_34 : kx_okF "KiteWar" 248 (5, 3, 0) := Or.inr ⟨Nat.le_of_ble_eq_true rfl, Nat.le_of_ble_eq_true rfl, List.mem_of_getElem? (i := 438) (by decide +kernel), by decide +kernel⟩
theorem kx_wf_1_35 : kx_okF "KiteWar" 251 (5, 2, 0) := Or.inr ⟨Nat.le_of_ble_eq_true rfl, Nat.le_of_ble_eq_true rfl, List.mem_of_getElem? (i := 436) (by decide +kernel), by decide +kernel⟩
theorem kx_wf_1_36 : kx_okF "KiteWar" 254 (5, 1, 5) := Or.inr ⟨Nat.le_of_ble_eq_true rfl, Nat.le_of_ble_eq_true rfl, List.mem_of_getElem? (i := 434) (by decide +kernel), by decide +kernel⟩
theorem kx_wf_1_37 : kx_okF "KiteWar" 291 (6, 8, 5) := Or.inr ⟨Nat.le_of_ble_eq_true rfl, Nat.le_of_ble_eq_true rfl, List.mem_of_getElem? (i := 245) (by decide +kernel), by decide +kernel⟩
theorem kx_wf_1_38 : kx_okF "KiteWar" 294 (6, 9, 0) := Or.inr ⟨Nat.le_of_ble_eq_true rfl, Nat.le_of_ble_eq_true rfl, List.mem_of_getElem? (i := 248) (by decide +kernel), by decide +kernel⟩
theorem kx_wf_1_39 : kx_okF "KiteWar" 295 (6, 10, 0) := Or.inr ⟨Nat.le_of_ble_eq_true rfl, Nat.le_of_ble_eq_true rfl, List.mem_of_getElem? (i := 251) (by decide +kernel), by decide +kernel⟩
theorem kx_wf_1_40 : kx_okF "KiteWar" 298 (6, 11, 0) := Or.inr ⟨Nat.le_of_ble_eq_true rfl, Nat.le_of_ble_eq_true rfl, List.mem_of_getElem? (i := 254) (by decide +kernel), by decide +kernel⟩
theorem kx_wf_1_41 : kx_okF "KiteWar" 301 (6, 12, 0) := Or.inr ⟨Nat.le_of_ble_eq_true rfl, Nat.le_of_ble_eq_true rfl, List.mem_of_getElem? (i := 257) (by decide +kernel), by decide +kernel⟩
theorem kx_wf_1_42 : kx_okF "KiteWar" 304 (6, 13, 0) := Or.inr ⟨Nat.le_of_ble_eq_true rfl, Nat.le_of_ble_eq_true rfl, List.mem_of_getElem? (i := 260) (by decide +kernel), by decide +kernel⟩
theorem kx_wf_1_43 : kx_okF "KiteWar" 307 (1, 2, 0) := Or.inr ⟨Nat.le_of_ble_eq_true rfl, Nat.le_of_ble_eq_true rfl, List.mem_of_getElem? (i := 303) (by decide +kernel), by decide +kernel⟩
theorem kx_wf_1_44 : kx_okF "KiteWar" 347 (4, 0, 0) := Or.inr ⟨Nat.le_of_ble_eq_true rfl, Nat.le_of_ble_eq_true rfl, List.mem_of_getElem? (i := 419) (by decide +kernel), by decide +kernel⟩
theorem kx_wf_1_45 : kx_okF "KiteWar" 352 (4, 1, 0) := Or.inr ⟨Nat.le_of_ble_eq_true rfl, Nat.le_of_ble_eq_true rfl, List.mem_of_getElem? (i := 421) (by decide +kernel), by decide +kernel⟩
theorem kx_wf_1_46 : kx_okF "KiteWar" 355 (4, 2, 0) := Or.inr ⟨Nat.le_of_ble_eq_true rfl, Nat.le_of_ble_eq_true rfl, List.mem_of_getElem? (i := 423) (by decide +kernel), by decide +kernel⟩
theorem kx_wf_1_47 : kx_okF "KiteWar" 376 (2, 2, 0) := Or.inr ⟨Nat.le_of_ble_eq_true rfl, Nat.le_of_ble_eq_true rfl, List.mem_of_getElem? (i := 156) (by decide +kernel), by decide +kernel⟩
theorem kx_wf_1_48 : kx_okF "KiteWar" 379 (2, 3, 0) := Or.inr ⟨Nat.le_of_ble_eq_true rfl, Nat.le_of_ble_eq_true rfl, List.mem_of_getElem? (i := 160) (by decide +kernel), by decide +kernel⟩
theorem kx_wf_1 : ∀ q ∈ (kx_fldT.getD 1 []), kx_okF "KiteWar" q.1 q.2 := List.forall_mem_cons.mpr ⟨kx_wf_1_0, List.forall_mem_cons.mpr ⟨kx_wf_1_1, List.forall_mem_cons.mpr ⟨kx_wf_1_2, List.forall_mem_cons.mpr ⟨kx_wf_1_3, List.forall_mem_cons.mpr ⟨kx_wf_1_4, List.forall_mem_cons.mpr ⟨kx_wf_1_5, List.forall_mem_cons.mpr ⟨kx_wf_1_6, List.forall_mem_cons.mpr ⟨kx_wf_1_7, List.forall_mem_cons.mpr ⟨kx_wf_1_8, List.forall_mem_cons.mpr ⟨kx_wf_1_9, List.forall_mem_cons.mpr ⟨kx_wf_1_10, List.forall_mem_cons.mpr ⟨kx_wf_1_11, List.forall_mem_cons.mpr ⟨kx_wf_1_12, List.forall_mem_cons.mpr ⟨kx_wf_1_13, List.forall_mem_cons.mpr ⟨kx_wf_1_14, List.forall_mem_cons.mpr ⟨kx_wf_1_15, List.forall_mem_cons.mpr ⟨kx_wf_1_16, List.forall_mem_cons.mpr ⟨kx_wf_1_17, List.forall_mem_cons.mpr ⟨kx_wf_1_18, List.forall_mem_cons.mpr ⟨kx_wf_1_19, List.forall_mem_cons.mpr ⟨kx_wf_1_20, List.forall_mem_cons.mpr ⟨kx_wf_1_21, List.forall_mem_cons.mpr ⟨kx_wf_1_22, List.forall_mem_cons.mpr ⟨kx_wf_1_23, List.forall_mem_cons.mpr ⟨kx_wf_1_24, List.forall_mem_cons.mpr ⟨kx_wf_1_25, List.forall_mem_cons.mpr ⟨kx_wf_1_26, List.forall_mem_cons.mpr ⟨kx_wf_1_27, List.forall_mem_cons.mpr ⟨kx_wf_1_28, List.forall_mem_cons.mpr ⟨kx_wf_1_29, List.forall_mem_cons.mpr ⟨kx_wf_1_30, List.forall_mem_cons.mpr ⟨kx_wf_1_31, List.forall_mem_cons.mpr ⟨kx_wf_1_32, List.forall_mem_cons.mpr ⟨kx_wf_1_33, List.forall_mem_cons.mpr ⟨kx_wf_1_34, List.forall_mem_cons.mpr ⟨kx_wf_1_35, List.forall_mem_cons.mpr ⟨kx_wf_1_36, List.forall_mem_cons.mpr ⟨kx_wf_1_37, List.forall_mem_cons.mpr ⟨kx_wf_1_38, List.forall_mem_cons.mpr ⟨kx_wf_1_39, List.forall_mem_cons.mpr ⟨kx_wf_1_40, List.forall_mem_cons.mpr ⟨kx_wf_1_41, List.forall_mem_cons.mpr ⟨kx_wf_1_42, List.forall_mem_cons.mpr ⟨kx_wf_1_43, List.forall_mem_cons.mpr ⟨kx_wf_1_44, List.forall_mem_cons.mpr ⟨kx_wf_1_45, List.forall_mem_cons.mpr ⟨kx_wf_1_46, List.forall_mem_cons.mpr ⟨kx_wf_1_47, List.forall_mem_cons.mpr ⟨kx_wf_1_48, fun _ h => absurd h List.not_mem_nil⟩⟩⟩⟩⟩⟩⟩⟩⟩⟩⟩⟩⟩⟩⟩⟩⟩⟩⟩⟩⟩⟩⟩⟩⟩⟩⟩⟩⟩⟩⟩⟩⟩⟩⟩⟩⟩⟩⟩⟩⟩⟩⟩⟩⟩⟩⟩⟩⟩
theorem kx_wf_2 : ∀ q ∈ (kx_fldT.getD 2 []), kx_okF "KiteWar$Field" q.1 q.2 := fun _ h => absurd h List.not_mem_nil
theorem kx_wf_3_0 : kx_okF "KiteWar$Flight" 9 (2, 5, 0) := Or.inr ⟨Nat.le_of_ble_eq_true rfl, Nat.le_of_ble_eq_true rfl, List.mem_of_getElem? (i := 165) (by decide +kernel), by decide +kernel⟩
theorem kx_wf_3_1 : kx_okF "KiteWar$Flight" 15 (0, 0, 0) := Or.inr ⟨Nat.le_of_ble_eq_true rfl, Nat.le_of_ble_eq_true rfl, List.mem_of_getElem? (i := 323) (by decide +kernel), by decide +kernel⟩
theorem kx_wf_3_2 : kx_okF "KiteWar$Flight" 18 (2, 6, 0) := Or.inr ⟨Nat.le_of_ble_eq_true rfl, Nat.le_of_ble_eq_true rfl, List.mem_of_getElem? (i := 170) (by decide +kernel), by decide +kernel⟩
theorem kx_wf_3_3 : kx_okF "KiteWar$Flight" 21 (0, 1, 0) := Or.inr ⟨Nat.le_of_ble_eq_true rfl, Nat.le_of_ble_eq_true rfl, List.mem_of_getElem? (i := 326) (by decide +kernel), by decide +kernel⟩
theorem kx_wf_3_4 : kx_okF "KiteWar$Flight" 26 (2, 3, 0) := Or.inr ⟨Nat.le_of_ble_eq_true rfl, Nat.le_of_ble_eq_true rfl, List.mem_of_getElem? (i := 158) (by decide +kernel), by decide +kernel⟩
theorem kx_wf_3_5 : kx_okF "KiteWar$Flight" 29 (2, 2, 0) := Or.inr ⟨Nat.le_of_ble_eq_true rfl, Nat.le_of_ble_eq_true rfl, List.mem_of_getElem? (i := 154) (by decide +kernel), by decide +kernel⟩
theorem kx_wf_3_6 : kx_okF "KiteWar$Flight" 38 (0, 2, 1) := Or.inr ⟨Nat.le_of_ble_eq_true rfl, Nat.le_of_ble_eq_true rfl, List.mem_of_getElem? (i := 329) (by decide +kernel), by decide +kernel⟩
theorem kx_wf_3_7 : kx_okF "KiteWar$Flight" 42 (2, 11, 0) := Or.inr ⟨Nat.le_of_ble_eq_true rfl, Nat.le_of_ble_eq_true rfl, List.mem_of_getElem? (i := 189) (by decide +kernel), by decide +kernel⟩
theorem kx_wf_3_8 : kx_okF "KiteWar$Flight" 44 (2, 12, 0) := Or.inr ⟨Nat.le_of_ble_eq_true rfl, Nat.le_of_ble_eq_true rfl, List.mem_of_getElem? (i := 194) (by decide +kernel), by decide +kernel⟩
theorem kx_wf_3 : ∀ q ∈ (kx_fldT.getD 3 []), kx_okF "KiteWar$Flight" q.1 q.2 := List.forall_mem_cons.mpr ⟨kx_wf_3_0, List.forall_mem_cons.mpr ⟨kx_wf_3_1, List.forall_mem_cons.mpr ⟨kx_wf_3_2, List.forall_mem_cons.mpr ⟨kx_wf_3_3, List.forall_mem_cons.mpr ⟨kx_wf_3_4, List.forall_mem_cons.mpr ⟨kx_wf_3_5, List.forall_mem_cons.mpr ⟨kx_wf_3_6, List.forall_mem_cons.mpr ⟨kx_wf_3_7, List.forall_mem_cons.mpr ⟨kx_wf_3_8, fun _ h => absurd h List.not_mem_nil⟩⟩⟩⟩⟩⟩⟩⟩⟩
theorem kx_wf_4_0 : kx_okF "KiteWar$History" 11 (1, 0, 4) := Or.inr ⟨Nat.le_of_ble_eq_true rfl, Nat.le_of_ble_eq_true rfl, List.mem_of_getElem? (i := 300) (by decide +kernel), by decide +kernel⟩
theorem kx_wf_4_1 : kx_okF "KiteWar$History" 18 (1, 1, 0) := Or.inr ⟨Nat.le_of_ble_eq_true rfl, Nat.le_of_ble_eq_true rfl, List.mem_of_getElem? (i := 301) (by decide +kernel), by decide +kernel⟩
theorem kx_wf_4_2 : kx_okF "KiteWar$History" 26 (1, 2, 0) := Or.inr ⟨Nat.le_of_ble_eq_true rfl, Nat.le_of_ble_eq_true rfl, List.mem_of_getElem? (i := 302) (by decide +kernel), by decide +kernel⟩
theorem kx_wf_4 : ∀ q ∈ (kx_fldT.getD 4 []), kx_okF "KiteWar$History" q.1 q.2 := List.forall_mem_cons.mpr ⟨kx_wf_4_0, List.forall_mem_cons.mpr ⟨kx_wf_4_1, List.forall_mem_cons.mpr ⟨kx_wf_4_2, fun _ h => absurd h List.not_mem_nil⟩⟩⟩
theorem kx_wf_5_0 : kx_okF "KiteWar$Kite" 9 (2, 0, 0) := Or.inr ⟨Nat.le_of_ble_eq_true rfl, Nat.le_of_ble_eq_true rfl, List.mem_of_getElem? (i := 144) (by decide +kernel), by decide +kernel⟩
theorem kx_wf_5_1 : kx_okF "KiteWar$Kite" 15 (2, 1, 0) := Or.inr ⟨Nat.le_of_ble_eq_true rfl, Nat.le_of_ble_eq_true rfl, List.mem_of_getElem? (i := 149) (by decide +kernel), by decide +kernel⟩
theorem kx_wf_5_2 : kx_okF "KiteWar$Kite" 18 (2, 2, 0) := Or.inr ⟨Nat.le_of_ble_eq_true rfl, Nat.le_of_ble_eq_true rfl, List.mem_of_getElem? (i := 152) (by decide +kernel), by decide +kernel⟩
theorem kx_wf_5_3 : kx_okF "KiteWar$Kite" 21 (2, 3, 0) := Or.inr ⟨Nat.le_of_ble_eq_true rfl, Nat.le_of_ble_eq_true rfl, List.mem_of_getElem? (i := 157) (by decide +kernel), by decide +kernel⟩
theorem kx_wf_5_4 : kx_okF "KiteWar$Kite" 24 (2, 4, 0) := Or.inr ⟨Nat.le_of_ble_eq_true rfl, Nat.le_of_ble_eq_true rfl, List.mem_of_getElem? (i := 161) (by decide +kernel), by decide +kernel⟩
theorem kx_wf_5_5 : kx_okF "KiteWar$Kite" 27 (2, 5, 0) := Or.inr ⟨Nat.le_of_ble_eq_true rfl, Nat.le_of_ble_eq_true rfl, List.mem_of_getElem? (i := 167) (by decide +kernel), by decide +kernel⟩
theorem kx_wf_5_6 : kx_okF "KiteWar$Kite" 30 (2, 6, 0) := Or.inr ⟨Nat.le_of_ble_eq_true rfl, Nat.le_of_ble_eq_true rfl, List.mem_of_getElem? (i := 172) (by decide +kernel), by decide +kernel⟩
theorem kx_wf_5_7 : kx_okF "KiteWar$Kite" 33 (2, 7, 0) := Or.inr ⟨Nat.le_of_ble_eq_true rfl, Nat.le_of_ble_eq_true rfl, List.mem_of_getElem? (i := 175) (by decide +kernel), by decide +kernel⟩
theorem kx_wf_5_8 : kx_okF "KiteWar$Kite" 36 (2, 8, 0) := Or.inr ⟨Nat.le_of_ble_eq_true rfl, Nat.le_of_ble_eq_true rfl, List.mem_of_getElem? (i := 179) (by decide +kernel), by decide +kernel⟩
theorem kx_wf_5_9 : kx_okF "KiteWar$Kite" 39 (2, 9, 0) := Or.inr ⟨Nat.le_of_ble_eq_true rfl, Nat.le_of_ble_eq_true rfl, List.mem_of_getElem? (i := 183) (by decide +kernel), by decide +kernel⟩
theorem kx_wf_5_10 : kx_okF "KiteWar$Kite" 42 (2, 10, 0) := Or.inr ⟨Nat.le_of_ble_eq_true rfl, Nat.le_of_ble_eq_true rfl, List.mem_of_getElem? (i := 185) (by decide +kernel), by decide +kernel⟩
theorem kx_wf_5_11 : kx_okF "KiteWar$Kite" 45 (2, 11, 0) := Or.inr ⟨Nat.le_of_ble_eq_true rfl, Nat.le_of_ble_eq_true rfl, List.mem_of_getElem? (i := 188) (by decide +kernel), by decide +kernel⟩
theorem kx_wf_5_12 : kx_okF "KiteWar$Kite" 48 (2, 12, 0) := Or.inr ⟨Nat.le_of_ble_eq_true rfl, Nat.le_of_ble_eq_true rfl, List.mem_of_getElem? (i := 193) (by decide +kernel), by decide +kernel⟩
theorem kx_wf_5 : ∀ q ∈ (kx_fldT.getD 5 []), kx_okF "KiteWar$Kite" q.1 q.2 := List.forall_mem_cons.mpr ⟨kx_wf_5_0, List.forall_mem_cons.mpr ⟨kx_wf_5_1, List.forall_mem_cons.mpr ⟨kx_wf_5_2, List.forall_mem_cons.mpr ⟨kx_wf_5_3, List.forall_mem_cons.mpr ⟨kx_wf_5_4, List.forall_mem_cons.mpr ⟨kx_wf_5_5, List.forall_mem_cons.mpr ⟨kx_wf_5_6, List.forall_mem_cons.mpr ⟨kx_wf_5_7, List.forall_mem_cons.mpr ⟨kx_wf_5_8, List.forall_mem_cons.mpr ⟨kx_wf_5_9, List.forall_mem_cons.mpr ⟨kx_wf_5_10, List.forall_mem_cons.mpr ⟨kx_wf_5_11, List.forall_mem_cons.mpr ⟨kx_wf_5_12, fun _ h => absurd h List.not_mem_nil⟩⟩⟩⟩⟩⟩⟩⟩⟩⟩⟩⟩⟩
theorem kx_wf_6_0 : kx_okF "KiteWar$Lines" 9 (3, 0, 4) := Or.inr ⟨Nat.le_of_ble_eq_true rfl, Nat.le_of_ble_eq_true rfl, List.mem_of_getElem? (i := 339) (by decide +kernel), by decide +kernel⟩
theorem kx_wf_6_1 : kx_okF "KiteWar$Lines" 18 (3, 1, 4) := Or.inr ⟨Nat.le_of_ble_eq_true rfl, Nat.le_of_ble_eq_true rfl, List.mem_of_getElem? (i := 340) (by decide +kernel), by decide +kernel⟩
theorem kx_wf_6_2 : kx_okF "KiteWar$Lines" 22 (3, 2, 4) := Or.inr ⟨Nat.le_of_ble_eq_true rfl, Nat.le_of_ble_eq_true rfl, List.mem_of_getElem? (i := 341) (by decide +kernel), by decide +kernel⟩
theorem kx_wf_6_3 : kx_okF "KiteWar$Lines" 26 (6, 4, 0) := Or.inr ⟨Nat.le_of_ble_eq_true rfl, Nat.le_of_ble_eq_true rfl, List.mem_of_getElem? (i := 235) (by decide +kernel), by decide +kernel⟩
theorem kx_wf_6_4 : kx_okF "KiteWar$Lines" 32 (6, 3, 5) := Or.inr ⟨Nat.le_of_ble_eq_true rfl, Nat.le_of_ble_eq_true rfl, List.mem_of_getElem? (i := 232) (by decide +kernel), by decide +kernel⟩
theorem kx_wf_6_5 : kx_okF "KiteWar$Lines" 36 (2, 2, 0) := Or.inr ⟨Nat.le_of_ble_eq_true rfl, Nat.le_of_ble_eq_true rfl, List.mem_of_getElem? (i := 153) (by decide +kernel), by decide +kernel⟩
theorem kx_wf_6_6 : kx_okF "KiteWar$Lines" 41 (2, 5, 0) := Or.inr ⟨Nat.le_of_ble_eq_true rfl, Nat.le_of_ble_eq_true rfl, List.mem_of_getElem? (i := 166) (by decide +kernel), by decide +kernel⟩
theorem kx_wf_6_7 : kx_okF "KiteWar$Lines" 44 (2, 6, 0) := Or.inr ⟨Nat.le_of_ble_eq_true rfl, Nat.le_of_ble_eq_true rfl, List.mem_of_getElem? (i := 171) (by decide +kernel), by decide +kernel⟩
theorem kx_wf_6_8 : kx_okF "KiteWar$Lines" 55 (0, 0, 0) := Or.inr ⟨Nat.le_of_ble_eq_true rfl, Nat.le_of_ble_eq_true rfl, List.mem_of_getElem? (i := 324) (by decide +kernel), by decide +kernel⟩
theorem kx_wf_6_9 : kx_okF "KiteWar$Lines" 56 (0, 1, 0) := Or.inr ⟨Nat.le_of_ble_eq_true rfl, Nat.le_of_ble_eq_true rfl, List.mem_of_getElem? (i := 327) (by decide +kernel), by decide +kernel⟩
theorem kx_wf_6_10 : kx_okF "KiteWar$Lines" 67 (2, 0, 0) := Or.inr ⟨Nat.le_of_ble_eq_true rfl, Nat.le_of_ble_eq_true rfl, List.mem_of_getElem? (i := 146) (by decide +kernel), by decide +kernel⟩
theorem kx_wf_6 : ∀ q ∈ (kx_fldT.getD 6 []), kx_okF "KiteWar$Lines" q.1 q.2 := List.forall_mem_cons.mpr ⟨kx_wf_6_0, List.forall_mem_cons.mpr ⟨kx_wf_6_1, List.forall_mem_cons.mpr ⟨kx_wf_6_2, List.forall_mem_cons.mpr ⟨kx_wf_6_3, List.forall_mem_cons.mpr ⟨kx_wf_6_4, List.forall_mem_cons.mpr ⟨kx_wf_6_5, List.forall_mem_cons.mpr ⟨kx_wf_6_6, List.forall_mem_cons.mpr ⟨kx_wf_6_7, List.forall_mem_cons.mpr ⟨kx_wf_6_8, List.forall_mem_cons.mpr ⟨kx_wf_6_9, List.forall_mem_cons.mpr ⟨kx_wf_6_10, fun _ h => absurd h List.not_mem_nil⟩⟩⟩⟩⟩⟩⟩⟩⟩⟩⟩
theorem kx_wf_7 : ∀ q ∈ (kx_fldT.getD 7 []), kx_okF "KiteWar$Order" q.1 q.2 := fun _ h => absurd h List.not_mem_nil
theorem kx_wf_8_0 : kx_okF "KiteWar$Orders" 12 (5, 0, 4) := Or.inr ⟨Nat.le_of_ble_eq_true rfl, Nat.le_of_ble_eq_true rfl, List.mem_of_getElem? (i := 431) (by decide +kernel), by decide +kernel⟩
theorem kx_wf_8_1 : kx_okF "KiteWar$Orders" 20 (5, 1, 4) := Or.inr ⟨Nat.le_of_ble_eq_true rfl, Nat.le_of_ble_eq_true rfl, List.mem_of_getElem? (i := 433) (by decide +kernel), by decide +kernel⟩
theorem kx_wf_8_2 : kx_okF "KiteWar$Orders" 25 (5, 3, 0) := Or.inr ⟨Nat.le_of_ble_eq_true rfl, Nat.le_of_ble_eq_true rfl, List.mem_of_getElem? (i := 437) (by decide +kernel), by decide +kernel⟩
theorem kx_wf_8_3 : kx_okF "KiteWar$Orders" 29 (5, 4, 1) := Or.inr ⟨Nat.le_of_ble_eq_true rfl, Nat.le_of_ble_eq_true rfl, List.mem_of_getElem? (i := 439) (by decide +kernel), by decide +kernel⟩
theorem kx_wf_8_4 : kx_okF "KiteWar$Orders" 33 (5, 2, 0) := Or.inr ⟨Nat.le_of_ble_eq_true rfl, Nat.le_of_ble_eq_true rfl, List.mem_of_getElem? (i := 435) (by decide +kernel), by decide +kernel⟩
theorem kx_wf_8_5 : kx_okF "KiteWar$Orders" 51 (4, 0, 0) := Or.inr ⟨Nat.le_of_ble_eq_true rfl, Nat.le_of_ble_eq_true rfl, List.mem_of_getElem? (i := 418) (by decide +kernel), by decide +kernel⟩
theorem kx_wf_8_6 : kx_okF "KiteWar$Orders" 63 (4, 1, 0) := Or.inr ⟨Nat.le_of_ble_eq_true rfl, Nat.le_of_ble_eq_true rfl, List.mem_of_getElem? (i := 420) (by decide +kernel), by decide +kernel⟩
theorem kx_wf_8_7 : kx_okF "KiteWar$Orders" 66 (4, 2, 0) := Or.inr ⟨Nat.le_of_ble_eq_true rfl, Nat.le_of_ble_eq_true rfl, List.mem_of_getElem? (i := 422) (by decide +kernel), by decide +kernel⟩
theorem kx_wf_8 : ∀ q ∈ (kx_fldT.getD 8 []), kx_okF "KiteWar$Orders" q.1 q.2 := List.forall_mem_cons.mpr ⟨kx_wf_8_0, List.forall_mem_cons.mpr ⟨kx_wf_8_1, List.forall_mem_cons.mpr ⟨kx_wf_8_2, List.forall_mem_cons.mpr ⟨kx_wf_8_3, List.forall_mem_cons.mpr ⟨kx_wf_8_4, List.forall_mem_cons.mpr ⟨kx_wf_8_5, List.forall_mem_cons.mpr ⟨kx_wf_8_6, List.forall_mem_cons.mpr ⟨kx_wf_8_7, fun _ h => absurd h List.not_mem_nil⟩⟩⟩⟩⟩⟩⟩⟩
theorem kx_wf_9_0 : kx_okF "KiteWar$State" 11 (6, 1, 4) := Or.inr ⟨Nat.le_of_ble_eq_true rfl, Nat.le_of_ble_eq_true rfl, List.mem_of_getElem? (i := 226) (by decide +kernel), by decide +kernel⟩
theorem kx_wf_9_1 : kx_okF "KiteWar$State" 20 (6, 3, 4) := Or.inr ⟨Nat.le_of_ble_eq_true rfl, Nat.le_of_ble_eq_true rfl, List.mem_of_getElem? (i := 231) (by decide +kernel), by decide +kernel⟩
theorem kx_wf_9_2 : kx_okF "KiteWar$State" 25 (6, 5, 4) := Or.inr ⟨Nat.le_of_ble_eq_true rfl, Nat.le_of_ble_eq_true rfl, List.mem_of_getElem? (i := 239) (by decide +kernel), by decide +kernel⟩
theorem kx_wf_9_3 : kx_okF "KiteWar$State" 29 (6, 6, 4) := Or.inr ⟨Nat.le_of_ble_eq_true rfl, Nat.le_of_ble_eq_true rfl, List.mem_of_getElem? (i := 240) (by decide +kernel), by decide +kernel⟩
theorem kx_wf_9_4 : kx_okF "KiteWar$State" 32 (6, 8, 4) := Or.inr ⟨Nat.le_of_ble_eq_true rfl, Nat.le_of_ble_eq_true rfl, List.mem_of_getElem? (i := 243) (by decide +kernel), by decide +kernel⟩
theorem kx_wf_9_5 : kx_okF "KiteWar$State" 35 (6, 0, 0) := Or.inr ⟨Nat.le_of_ble_eq_true rfl, Nat.le_of_ble_eq_true rfl, List.mem_of_getElem? (i := 223) (by decide +kernel), by decide +kernel⟩
theorem kx_wf_9_6 : kx_okF "KiteWar$State" 39 (6, 2, 0) := Or.inr ⟨Nat.le_of_ble_eq_true rfl, Nat.le_of_ble_eq_true rfl, List.mem_of_getElem? (i := 229) (by decide +kernel), by decide +kernel⟩
theorem kx_wf_9_7 : kx_okF "KiteWar$State" 46 (6, 4, 0) := Or.inr ⟨Nat.le_of_ble_eq_true rfl, Nat.le_of_ble_eq_true rfl, List.mem_of_getElem? (i := 236) (by decide +kernel), by decide +kernel⟩
theorem kx_wf_9_8 : kx_okF "KiteWar$State" 52 (6, 7, 0) := Or.inr ⟨Nat.le_of_ble_eq_true rfl, Nat.le_of_ble_eq_true rfl, List.mem_of_getElem? (i := 241) (by decide +kernel), by decide +kernel⟩
theorem kx_wf_9_9 : kx_okF "KiteWar$State" 55 (6, 9, 0) := Or.inr ⟨Nat.le_of_ble_eq_true rfl, Nat.le_of_ble_eq_true rfl, List.mem_of_getElem? (i := 247) (by decide +kernel), by decide +kernel⟩
theorem kx_wf_9_10 : kx_okF "KiteWar$State" 58 (6, 10, 0) := Or.inr ⟨Nat.le_of_ble_eq_true rfl, Nat.le_of_ble_eq_true rfl, List.mem_of_getElem? (i := 249) (by decide +kernel), by decide +kernel⟩
theorem kx_wf_9_11 : kx_okF "KiteWar$State" 61 (6, 11, 0) := Or.inr ⟨Nat.le_of_ble_eq_true rfl, Nat.le_of_ble_eq_true rfl, List.mem_of_getElem? (i := 252) (by decide +kernel), by decide +kernel⟩
theorem kx_wf_9_12 : kx_okF "KiteWar$State" 64 (6, 12, 0) := Or.inr ⟨Nat.le_of_ble_eq_true rfl, Nat.le_of_ble_eq_true rfl, List.mem_of_getElem? (i := 255) (by decide +kernel), by decide +kernel⟩
theorem kx_wf_9_13 : kx_okF "KiteWar$State" 67 (6, 13, 0) := Or.inr ⟨Nat.le_of_ble_eq_true rfl, Nat.le_of_ble_eq_true rfl, List.mem_of_getElem? (i := 258) (by decide +kernel), by decide +kernel⟩
theorem kx_wf_9_14 : kx_okF "KiteWar$State" 70 (7, 0, 0) := Or.inr ⟨Nat.le_of_ble_eq_true rfl, Nat.le_of_ble_eq_true rfl, List.mem_of_getElem? (i := 116) (by decide +kernel), by decide +kernel⟩
theorem kx_wf_9_15 : kx_okF "KiteWar$State" 73 (7, 1, 0) := Or.inr ⟨Nat.le_of_ble_eq_true rfl, Nat.le_of_ble_eq_true rfl, List.mem_of_getElem? (i := 120) (by decide +kernel), by decide +kernel⟩
theorem kx_wf_9_16 : kx_okF "KiteWar$State" 76 (7, 2, 0) := Or.inr ⟨Nat.le_of_ble_eq_true rfl, Nat.le_of_ble_eq_true rfl, List.mem_of_getElem? (i := 123) (by decide +kernel), by decide +kernel⟩
theorem kx_wf_9_17 : kx_okF "KiteWar$State" 79 (2, 0, 0) := Or.inr ⟨Nat.le_of_ble_eq_true rfl, Nat.le_of_ble_eq_true rfl, List.mem_of_getElem? (i := 145) (by decide +kernel), by decide +kernel⟩
theorem kx_wf_9_18 : kx_okF "KiteWar$State" 80 (2, 1, 0) := Or.inr ⟨Nat.le_of_ble_eq_true rfl, Nat.le_of_ble_eq_true rfl, List.mem_of_getElem? (i := 150) (by decide +kernel), by decide +kernel⟩
theorem kx_wf_9_19 : kx_okF "KiteWar$State" 83 (2, 2, 0) := Or.inr ⟨Nat.le_of_ble_eq_true rfl, Nat.le_of_ble_eq_true rfl, List.mem_of_getElem? (i := 155) (by decide +kernel), by decide +kernel⟩
theorem kx_wf_9_20 : kx_okF "KiteWar$State" 86 (2, 3, 0) := Or.inr ⟨Nat.le_of_ble_eq_true rfl, Nat.le_of_ble_eq_true rfl, List.mem_of_getElem? (i := 159) (by decide +kernel), by decide +kernel⟩
theorem kx_wf_9_21 : kx_okF "KiteWar$State" 87 (2, 7, 0) := Or.inr ⟨Nat.le_of_ble_eq_true rfl, Nat.le_of_ble_eq_true rfl, List.mem_of_getElem? (i := 176) (by decide +kernel), by decide +kernel⟩
theorem kx_wf_9_22 : kx_okF "KiteWar$State" 88 (2, 8, 0) := Or.inr ⟨Nat.le_of_ble_eq_true rfl, Nat.le_of_ble_eq_true rfl, List.mem_of_getElem? (i := 181) (by decide +kernel), by decide +kernel⟩
theorem kx_wf_9_23 : kx_okF "KiteWar$State" 97 (2, 4, 0) := Or.inr ⟨Nat.le_of_ble_eq_true rfl, Nat.le_of_ble_eq_true rfl, List.mem_of_getElem? (i := 163) (by decide +kernel), by decide +kernel⟩
theorem kx_wf_9_24 : kx_okF "KiteWar$State" 100 (2, 11, 0) := Or.inr ⟨Nat.le_of_ble_eq_true rfl, Nat.le_of_ble_eq_true rfl, List.mem_of_getElem? (i := 192) (by decide +kernel), by decide +kernel⟩
theorem kx_wf_9 : ∀ q ∈ (kx_fldT.getD 9 []), kx_okF "KiteWar$State" q.1 q.2 := List.forall_mem_cons.mpr ⟨kx_wf_9_0, List.forall_mem_cons.mpr ⟨kx_wf_9_1, List.forall_mem_cons.mpr ⟨kx_wf_9_2, List.forall_mem_cons.mpr ⟨kx_wf_9_3, List.forall_mem_cons.mpr ⟨kx_wf_9_4, List.forall_mem_cons.mpr ⟨kx_wf_9_5, List.forall_mem_cons.mpr ⟨kx_wf_9_6, List.forall_mem_cons.mpr ⟨kx_wf_9_7, List.forall_mem_cons.mpr ⟨kx_wf_9_8, List.forall_mem_cons.mpr ⟨kx_wf_9_9, List.forall_mem_cons.mpr ⟨kx_wf_9_10, List.forall_mem_cons.mpr ⟨kx_wf_9_11, List.forall_mem_cons.mpr ⟨kx_wf_9_12, List.forall_mem_cons.mpr ⟨kx_wf_9_13, List.forall_mem_cons.mpr ⟨kx_wf_9_14, List.forall_mem_cons.mpr ⟨kx_wf_9_15, List.forall_mem_cons.mpr ⟨kx_wf_9_16, List.forall_mem_cons.mpr ⟨kx_wf_9_17, List.forall_mem_cons.mpr ⟨kx_wf_9_18, List.forall_mem_cons.mpr ⟨kx_wf_9_19, List.forall_mem_cons.mpr ⟨kx_wf_9_20, List.forall_mem_cons.mpr ⟨kx_wf_9_21, List.forall_mem_cons.mpr ⟨kx_wf_9_22, List.forall_mem_cons.mpr ⟨kx_wf_9_23, List.forall_mem_cons.mpr ⟨kx_wf_9_24, fun _ h => absurd h List.not_mem_nil⟩⟩⟩⟩⟩⟩⟩⟩⟩⟩⟩⟩⟩⟩⟩⟩⟩⟩⟩⟩⟩⟩⟩⟩⟩
theorem kx_wf_10_0 : kx_okF "KiteWar$Tower" 7 (7, 0, 0) := Or.inr ⟨Nat.le_of_ble_eq_true rfl, Nat.le_of_ble_eq_true rfl, List.mem_of_getElem? (i := 115) (by decide +kernel), by decide +kernel⟩
theorem kx_wf_10_1 : kx_okF "KiteWar$Tower" 13 (7, 1, 0) := Or.inr ⟨Nat.le_of_ble_eq_true rfl, Nat.le_of_ble_eq_true rfl, List.mem_of_getElem? (i := 119) (by decide +kernel), by decide +kernel⟩
theorem kx_wf_10_2 : kx_okF "KiteWar$Tower" 16 (7, 2, 0) := Or.inr ⟨Nat.le_of_ble_eq_true rfl, Nat.le_of_ble_eq_true rfl, List.mem_of_getElem? (i := 122) (by decide +kernel), by decide +kernel⟩
theorem kx_wf_10_3 : kx_okF "KiteWar$Tower" 19 (7, 3, 0) := Or.inr ⟨Nat.le_of_ble_eq_true rfl, Nat.le_of_ble_eq_true rfl, List.mem_of_getElem? (i := 125) (by decide +kernel), by decide +kernel⟩
theorem kx_wf_10 : ∀ q ∈ (kx_fldT.getD 10 []), kx_okF "KiteWar$Tower" q.1 q.2 := List.forall_mem_cons.mpr ⟨kx_wf_10_0, List.forall_mem_cons.mpr ⟨kx_wf_10_1, List.forall_mem_cons.mpr ⟨kx_wf_10_2, List.forall_mem_cons.mpr ⟨kx_wf_10_3, fun _ h => absurd h List.not_mem_nil⟩⟩⟩⟩
theorem kx_wf_11_0 : kx_okF "KiteWar$Umpire" 12 (8, 0, 4) := Or.inr ⟨Nat.le_of_ble_eq_true rfl, Nat.le_of_ble_eq_true rfl, List.mem_of_getElem? (i := 359) (by decide +kernel), by decide +kernel⟩
theorem kx_wf_11_1 : kx_okF "KiteWar$Umpire" 21 (8, 1, 4) := Or.inr ⟨Nat.le_of_ble_eq_true rfl, Nat.le_of_ble_eq_true rfl, List.mem_of_getElem? (i := 360) (by decide +kernel), by decide +kernel⟩
theorem kx_wf_11_2 : kx_okF "KiteWar$Umpire" 25 (8, 2, 4) := Or.inr ⟨Nat.le_of_ble_eq_true rfl, Nat.le_of_ble_eq_true rfl, List.mem_of_getElem? (i := 361) (by decide +kernel), by decide +kernel⟩
theorem kx_wf_11_3 : kx_okF "KiteWar$Umpire" 29 (8, 3, 4) := Or.inr ⟨Nat.le_of_ble_eq_true rfl, Nat.le_of_ble_eq_true rfl, List.mem_of_getElem? (i := 362) (by decide +kernel), by decide +kernel⟩
theorem kx_wf_11_4 : kx_okF "KiteWar$Umpire" 33 (6, 0, 0) := Or.inr ⟨Nat.le_of_ble_eq_true rfl, Nat.le_of_ble_eq_true rfl, List.mem_of_getElem? (i := 224) (by decide +kernel), by decide +kernel⟩
theorem kx_wf_11_5 : kx_okF "KiteWar$Umpire" 46 (6, 9, 0) := Or.inr ⟨Nat.le_of_ble_eq_true rfl, Nat.le_of_ble_eq_true rfl, List.mem_of_getElem? (i := 246) (by decide +kernel), by decide +kernel⟩
theorem kx_wf_11_6 : kx_okF "KiteWar$Umpire" 69 (6, 4, 0) := Or.inr ⟨Nat.le_of_ble_eq_true rfl, Nat.le_of_ble_eq_true rfl, List.mem_of_getElem? (i := 237) (by decide +kernel), by decide +kernel⟩
theorem kx_wf_11_7 : kx_okF "KiteWar$Umpire" 72 (6, 3, 5) := Or.inr ⟨Nat.le_of_ble_eq_true rfl, Nat.le_of_ble_eq_true rfl, List.mem_of_getElem? (i := 233) (by decide +kernel), by decide +kernel⟩
theorem kx_wf_11_8 : kx_okF "KiteWar$Umpire" 76 (2, 11, 0) := Or.inr ⟨Nat.le_of_ble_eq_true rfl, Nat.le_of_ble_eq_true rfl, List.mem_of_getElem? (i := 190) (by decide +kernel), by decide +kernel⟩
theorem kx_wf_11_9 : kx_okF "KiteWar$Umpire" 85 (6, 13, 0) := Or.inr ⟨Nat.le_of_ble_eq_true rfl, Nat.le_of_ble_eq_true rfl, List.mem_of_getElem? (i := 259) (by decide +kernel), by decide +kernel⟩
theorem kx_wf_11_10 : kx_okF "KiteWar$Umpire" 88 (0, 2, 1) := Or.inr ⟨Nat.le_of_ble_eq_true rfl, Nat.le_of_ble_eq_true rfl, List.mem_of_getElem? (i := 330) (by decide +kernel), by decide +kernel⟩
theorem kx_wf_11_11 : kx_okF "KiteWar$Umpire" 92 (0, 0, 0) := Or.inr ⟨Nat.le_of_ble_eq_true rfl, Nat.le_of_ble_eq_true rfl, List.mem_of_getElem? (i := 325) (by decide +kernel), by decide +kernel⟩
theorem kx_wf_11_12 : kx_okF "KiteWar$Umpire" 95 (0, 1, 0) := Or.inr ⟨Nat.le_of_ble_eq_true rfl, Nat.le_of_ble_eq_true rfl, List.mem_of_getElem? (i := 328) (by decide +kernel), by decide +kernel⟩
theorem kx_wf_11_13 : kx_okF "KiteWar$Umpire" 105 (2, 4, 0) := Or.inr ⟨Nat.le_of_ble_eq_true rfl, Nat.le_of_ble_eq_true rfl, List.mem_of_getElem? (i := 162) (by decide +kernel), by decide +kernel⟩
theorem kx_wf_11_14 : kx_okF "KiteWar$Umpire" 108 (2, 5, 0) := Or.inr ⟨Nat.le_of_ble_eq_true rfl, Nat.le_of_ble_eq_true rfl, List.mem_of_getElem? (i := 168) (by decide +kernel), by decide +kernel⟩
theorem kx_wf_11_15 : kx_okF "KiteWar$Umpire" 109 (2, 8, 0) := Or.inr ⟨Nat.le_of_ble_eq_true rfl, Nat.le_of_ble_eq_true rfl, List.mem_of_getElem? (i := 180) (by decide +kernel), by decide +kernel⟩
theorem kx_wf_11_16 : kx_okF "KiteWar$Umpire" 118 (2, 6, 0) := Or.inr ⟨Nat.le_of_ble_eq_true rfl, Nat.le_of_ble_eq_true rfl, List.mem_of_getElem? (i := 173) (by decide +kernel), by decide +kernel⟩
theorem kx_wf_11_17 : kx_okF "KiteWar$Umpire" 122 (6, 10, 0) := Or.inr ⟨Nat.le_of_ble_eq_true rfl, Nat.le_of_ble_eq_true rfl, List.mem_of_getElem? (i := 250) (by decide +kernel), by decide +kernel⟩
theorem kx_wf_11_18 : kx_okF "KiteWar$Umpire" 132 (2, 10, 0) := Or.inr ⟨Nat.le_of_ble_eq_true rfl, Nat.le_of_ble_eq_true rfl, List.mem_of_getElem? (i := 186) (by decide +kernel), by decide +kernel⟩
theorem kx_wf_11_19 : kx_okF "KiteWar$Umpire" 135 (6, 8, 5) := Or.inr ⟨Nat.le_of_ble_eq_true rfl, Nat.le_of_ble_eq_true rfl, List.mem_of_getElem? (i := 244) (by decide +kernel), by decide +kernel⟩
theorem kx_wf_11_20 : kx_okF "KiteWar$Umpire" 138 (2, 0, 0) := Or.inr ⟨Nat.le_of_ble_eq_true rfl, Nat.le_of_ble_eq_true rfl, List.mem_of_getElem? (i := 147) (by decide +kernel), by decide +kernel⟩
theorem kx_wf_11_21 : kx_okF "KiteWar$Umpire" 141 (2, 7, 0) := Or.inr ⟨Nat.le_of_ble_eq_true rfl, Nat.le_of_ble_eq_true rfl, List.mem_of_getElem? (i := 177) (by decide +kernel), by decide +kernel⟩
theorem kx_wf_11_22 : kx_okF "KiteWar$Umpire" 153 (6, 1, 5) := Or.inr ⟨Nat.le_of_ble_eq_true rfl, Nat.le_of_ble_eq_true rfl, List.mem_of_getElem? (i := 227) (by decide +kernel), by decide +kernel⟩
theorem kx_wf_11_23 : kx_okF "KiteWar$Umpire" 161 (7, 3, 0) := Or.inr ⟨Nat.le_of_ble_eq_true rfl, Nat.le_of_ble_eq_true rfl, List.mem_of_getElem? (i := 126) (by decide +kernel), by decide +kernel⟩
theorem kx_wf_11_24 : kx_okF "KiteWar$Umpire" 166 (7, 0, 0) := Or.inr ⟨Nat.le_of_ble_eq_true rfl, Nat.le_of_ble_eq_true rfl, List.mem_of_getElem? (i := 117) (by decide +kernel), by decide +kernel⟩
theorem kx_wf_11_25 : kx_okF "KiteWar$Umpire" 167 (6, 11, 0) := Or.inr ⟨Nat.le_of_ble_eq_true rfl, Nat.le_of_ble_eq_true rfl, List.mem_of_getElem? (i := 253) (by decide +kernel), by decide +kernel⟩
theorem kx_wf_11_26 : kx_okF "KiteWar$Umpire" 170 (6, 12, 0) := Or.inr ⟨Nat.le_of_ble_eq_true rfl, Nat.le_of_ble_eq_true rfl, List.mem_of_getElem? (i := 256) (by decide +kernel), by decide +kernel⟩
theorem kx_wf_11 : ∀ q ∈ (kx_fldT.getD 11 []), kx_okF "KiteWar$Umpire" q.1 q.2 := List.forall_mem_cons.mpr ⟨kx_wf_11_0, List.forall_mem_cons.mpr ⟨kx_wf_11_1, List.forall_mem_cons.mpr ⟨kx_wf_11_2, List.forall_mem_cons.mpr ⟨kx_wf_11_3, List.forall_mem_cons.mpr ⟨kx_wf_11_4, List.forall_mem_cons.mpr ⟨kx_wf_11_5, List.forall_mem_cons.mpr ⟨kx_wf_11_6, List.forall_mem_cons.mpr ⟨kx_wf_11_7, List.forall_mem_cons.mpr ⟨kx_wf_11_8, List.forall_mem_cons.mpr ⟨kx_wf_11_9, List.forall_mem_cons.mpr ⟨kx_wf_11_10, List.forall_mem_cons.mpr ⟨kx_wf_11_11, List.forall_mem_cons.mpr ⟨kx_wf_11_12, List.forall_mem_cons.mpr ⟨kx_wf_11_13, List.forall_mem_cons.mpr ⟨kx_wf_11_14, List.forall_mem_cons.mpr ⟨kx_wf_11_15, List.forall_mem_cons.mpr ⟨kx_wf_11_16, List.forall_mem_cons.mpr ⟨kx_wf_11_17, List.forall_mem_cons.mpr ⟨kx_wf_11_18, List.forall_mem_cons.mpr ⟨kx_wf_11_19, List.forall_mem_cons.mpr ⟨kx_wf_11_20, List.forall_mem_cons.mpr ⟨kx_wf_11_21, List.forall_mem_cons.mpr ⟨kx_wf_11_22, List.forall_mem_cons.mpr ⟨kx_wf_11_23, List.forall_mem_cons.mpr ⟨kx_wf_11_24, List.forall_mem_cons.mpr ⟨kx_wf_11_25, List.forall_mem_cons.mpr ⟨kx_wf_11_26, fun _ h => absurd h List.not_mem_nil⟩⟩⟩⟩⟩⟩⟩⟩⟩⟩⟩⟩⟩⟩⟩⟩⟩⟩⟩⟩⟩⟩⟩⟩⟩⟩⟩
theorem kx_wf_12_0 : kx_okF "KiteWarModel" 7 (10, 0, 4) := Or.inr ⟨Nat.le_of_ble_eq_true rfl, Nat.le_of_ble_eq_true rfl, List.mem_of_getElem? (i := 1160) (by decide +kernel), by decide +kernel⟩
theorem kx_wf_12_1 : kx_okF "KiteWarModel" 13 (10, 1, 4) := Or.inr ⟨Nat.le_of_ble_eq_true rfl, Nat.le_of_ble_eq_true rfl, List.mem_of_getElem? (i := 1161) (by decide +kernel), by decide +kernel⟩
theorem kx_wf_12_2 : kx_okF "KiteWarModel" 16 (10, 2, 4) := Or.inr ⟨Nat.le_of_ble_eq_true rfl, Nat.le_of_ble_eq_true rfl, List.mem_of_getElem? (i := 1162) (by decide +kernel), by decide +kernel⟩
theorem kx_wf_12_3 : kx_okF "KiteWarModel" 19 (10, 3, 4) := Or.inr ⟨Nat.le_of_ble_eq_true rfl, Nat.le_of_ble_eq_true rfl, List.mem_of_getElem? (i := 1163) (by decide +kernel), by decide +kernel⟩
theorem kx_wf_12_4 : kx_okF "KiteWarModel" 22 (10, 4, 4) := Or.inr ⟨Nat.le_of_ble_eq_true rfl, Nat.le_of_ble_eq_true rfl, List.mem_of_getElem? (i := 1164) (by decide +kernel), by decide +kernel⟩
theorem kx_wf_12_5 : kx_okF "KiteWarModel" 25 (10, 10, 4) := Or.inr ⟨Nat.le_of_ble_eq_true rfl, Nat.le_of_ble_eq_true rfl, List.mem_of_getElem? (i := 1170) (by decide +kernel), by decide +kernel⟩
theorem kx_wf_12_6 : kx_okF "KiteWarModel" 28 (10, 12, 4) := Or.inr ⟨Nat.le_of_ble_eq_true rfl, Nat.le_of_ble_eq_true rfl, List.mem_of_getElem? (i := 1172) (by decide +kernel), by decide +kernel⟩
theorem kx_wf_12_7 : kx_okF "KiteWarModel" 32 (10, 14, 4) := Or.inr ⟨Nat.le_of_ble_eq_true rfl, Nat.le_of_ble_eq_true rfl, List.mem_of_getElem? (i := 1174) (by decide +kernel), by decide +kernel⟩
theorem kx_wf_12_8 : kx_okF "KiteWarModel" 35 (10, 15, 4) := Or.inr ⟨Nat.le_of_ble_eq_true rfl, Nat.le_of_ble_eq_true rfl, List.mem_of_getElem? (i := 1175) (by decide +kernel), by decide +kernel⟩
theorem kx_wf_12_9 : kx_okF "KiteWarModel" 38 (10, 16, 4) := Or.inr ⟨Nat.le_of_ble_eq_true rfl, Nat.le_of_ble_eq_true rfl, List.mem_of_getElem? (i := 1176) (by decide +kernel), by decide +kernel⟩
theorem kx_wf_12_10 : kx_okF "KiteWarModel" 41 (10, 17, 4) := Or.inr ⟨Nat.le_of_ble_eq_true rfl, Nat.le_of_ble_eq_true rfl, List.mem_of_getElem? (i := 1177) (by decide +kernel), by decide +kernel⟩
theorem kx_wf_12_11 : kx_okF "KiteWarModel" 44 (10, 19, 4) := Or.inr ⟨Nat.le_of_ble_eq_true rfl, Nat.le_of_ble_eq_true rfl, List.mem_of_getElem? (i := 1179) (by decide +kernel), by decide +kernel⟩
theorem kx_wf_12_12 : kx_okF "KiteWarModel" 47 (10, 8, 0) := Or.inr ⟨Nat.le_of_ble_eq_true rfl, Nat.le_of_ble_eq_true rfl, List.mem_of_getElem? (i := 1168) (by decide +kernel), by decide +kernel⟩
theorem kx_wf_12_13 : kx_okF "KiteWarModel" 51 (10, 9, 0) := Or.inr ⟨Nat.le_of_ble_eq_true rfl, Nat.le_of_ble_eq_true rfl, List.mem_of_getElem? (i := 1169) (by decide +kernel), by decide +kernel⟩
theorem kx_wf_12_14 : kx_okF "KiteWarModel" 54 (10, 7, 1) := Or.inr ⟨Nat.le_of_ble_eq_true rfl, Nat.le_of_ble_eq_true rfl, List.mem_of_getElem? (i := 1167) (by decide +kernel), by decide +kernel⟩
theorem kx_wf_12_15 : kx_okF "KiteWarModel" 58 (10, 6, 0) := Or.inr ⟨Nat.le_of_ble_eq_true rfl, Nat.le_of_ble_eq_true rfl, List.mem_of_getElem? (i := 1166) (by decide +kernel), by decide +kernel⟩
theorem kx_wf_12_16 : kx_okF "KiteWarModel" 192 (10, 11, 0) := Or.inr ⟨Nat.le_of_ble_eq_true rfl, Nat.le_of_ble_eq_true rfl, List.mem_of_getElem? (i := 1171) (by decide +kernel), by decide +kernel⟩
theorem kx_wf_12_17 : kx_okF "KiteWarModel" 195 (10, 18, 0) := Or.inr ⟨Nat.le_of_ble_eq_true rfl, Nat.le_of_ble_eq_true rfl, List.mem_of_getElem? (i := 1178) (by decide +kernel), by decide +kernel⟩
theorem kx_wf_12_18 : kx_okF "KiteWarModel" 230 (10, 20, 0) := Or.inr ⟨Nat.le_of_ble_eq_true rfl, Nat.le_of_ble_eq_true rfl, List.mem_of_getElem? (i := 1180) (by decide +kernel), by decide +kernel⟩
theorem kx_wf_12_19 : kx_okF "KiteWarModel" 259 (10, 13, 0) := Or.inr ⟨Nat.le_of_ble_eq_true rfl, Nat.le_of_ble_eq_true rfl, List.mem_of_getElem? (i := 1173) (by decide +kernel), by decide +kernel⟩
theorem kx_wf_12_20 : kx_okF "KiteWarModel" 291 (10, 5, 1) := Or.inr ⟨Nat.le_of_ble_eq_true rfl, Nat.le_of_ble_eq_true rfl, List.mem_of_getElem? (i := 1165) (by decide +kernel), by decide +kernel⟩
theorem kx_wf_12 : ∀ q ∈ (kx_fldT.getD 12 []), kx_okF "KiteWarModel" q.1 q.2 := List.forall_mem_cons.mpr ⟨kx_wf_12_0, List.forall_mem_cons.mpr ⟨kx_wf_12_1, List.forall_mem_cons.mpr ⟨kx_wf_12_2, List.forall_mem_cons.mpr ⟨kx_wf_12_3, List.forall_mem_cons.mpr ⟨kx_wf_12_4, List.forall_mem_cons.mpr ⟨kx_wf_12_5, List.forall_mem_cons.mpr ⟨kx_wf_12_6, List.forall_mem_cons.mpr ⟨kx_wf_12_7, List.forall_mem_cons.mpr ⟨kx_wf_12_8, List.forall_mem_cons.mpr ⟨kx_wf_12_9, List.forall_mem_cons.mpr ⟨kx_wf_12_10, List.forall_mem_cons.mpr ⟨kx_wf_12_11, List.forall_mem_cons.mpr ⟨kx_wf_12_12, List.forall_mem_cons.mpr ⟨kx_wf_12_13, List.forall_mem_cons.mpr ⟨kx_wf_12_14, List.forall_mem_cons.mpr ⟨kx_wf_12_15, List.forall_mem_cons.mpr ⟨kx_wf_12_16, List.forall_mem_cons.mpr ⟨kx_wf_12_17, List.forall_mem_cons.mpr ⟨kx_wf_12_18, List.forall_mem_cons.mpr ⟨kx_wf_12_19, List.forall_mem_cons.mpr ⟨kx_wf_12_20, fun _ h => absurd h List.not_mem_nil⟩⟩⟩⟩⟩⟩⟩⟩⟩⟩⟩⟩⟩⟩⟩⟩⟩⟩⟩⟩⟩
theorem kx_wf_13_0 : kx_okF "java/lang/AbstractStringBuilder" 15 (11, 0, 3) := Or.inr ⟨Nat.le_of_ble_eq_true rfl, Nat.le_of_ble_eq_true rfl, List.mem_of_getElem? (i := 397) (by decide +kernel), by decide +kernel⟩
theorem kx_wf_13_1 : kx_okF "java/lang/AbstractStringBuilder" 22 (11, 1, 2) := Or.inr ⟨Nat.le_of_ble_eq_true rfl, Nat.le_of_ble_eq_true rfl, List.mem_of_getElem? (i := 398) (by decide +kernel), by decide +kernel⟩
theorem kx_wf_13_2 : kx_okF "java/lang/AbstractStringBuilder" 73 (11, 2, 1) := Or.inr ⟨Nat.le_of_ble_eq_true rfl, Nat.le_of_ble_eq_true rfl, List.mem_of_getElem? (i := 399) (by decide +kernel), by decide +kernel⟩
theorem kx_wf_13_3 : kx_okF "java/lang/AbstractStringBuilder" 79 (11, 3, 0) := Or.inr ⟨Nat.le_of_ble_eq_true rfl, Nat.le_of_ble_eq_true rfl, List.mem_of_getElem? (i := 400) (by decide +kernel), by decide +kernel⟩
theorem kx_wf_13 : ∀ q ∈ (kx_fldT.getD 13 []), kx_okF "java/lang/AbstractStringBuilder" q.1 q.2 := List.forall_mem_cons.mpr ⟨kx_wf_13_0, List.forall_mem_cons.mpr ⟨kx_wf_13_1, List.forall_mem_cons.mpr ⟨kx_wf_13_2, List.forall_mem_cons.mpr ⟨kx_wf_13_3, fun _ h => absurd h List.not_mem_nil⟩⟩⟩⟩
theorem kx_wf_14 : ∀ q ∈ (kx_fldT.getD 14 []), kx_okF "java/lang/Integer" q.1 q.2 := fun _ h => absurd h List.not_mem_nil
theorem kx_wf_15_0 : kx_okF "java/lang/String" 9 (12, 0, 9) := Or.inl ⟨rfl, rfl, Or.inl ⟨rfl, List.mem_of_getElem? (i := 1582) (by decide +kernel)⟩⟩
theorem kx_wf_15_1 : kx_okF "java/lang/String" 15 (12, 1, 9) := Or.inl ⟨rfl, rfl, Or.inr ⟨rfl, List.mem_of_getElem? (i := 1583) (by decide +kernel)⟩⟩
theorem kx_wf_15 : ∀ q ∈ (kx_fldT.getD 15 []), kx_okF "java/lang/String" q.1 q.2 := List.forall_mem_cons.mpr ⟨kx_wf_15_0, List.forall_mem_cons.mpr ⟨kx_wf_15_1, fun _ h => absurd h List.not_mem_nil⟩⟩
theorem kx_wf_16 : ∀ q ∈ (kx_fldT.getD 16 []), kx_okF "java/lang/StringBuilder" q.1 q.2 := fun _ h => absurd h List.not_mem_nil
theorem kx_wf_17 : ∀ q ∈ (kx_fldT.getD 17 []), kx_okF "java/lang/StringLatin1" q.1 q.2 := fun _ h => absurd h List.not_mem_nil
theorem kx_wf_18 : ∀ q ∈ (kx_fldT.getD 18 []), kx_okF "java/util/Arrays" q.1 q.2 := fun _ h => absurd h List.not_mem_nil
theorem kx_wf_19 : ∀ q ∈ (kx_fldT.getD 19 []), kx_okF "jdk/internal/util/ArraysSupport" q.1 q.2 := fun _ h => absurd h List.not_mem_nil
theorem kx_wf_20 : ∀ q ∈ (kx_fldT.getD 20 []), kx_okF "jdk/internal/util/Preconditions" q.1 q.2 := fun _ h => absurd h List.not_mem_nil
theorem kx_wf_21 : ∀ q ∈ (kx_fldT.getD 21 []), kx_okF "java/lang/Math" q.1 q.2 := fun _ h => absurd h List.not_mem_nil
theorem kx_wf_all : ∀ (k : Nat) (o : String) l, kx_on[k]? = some o → kx_fldT[k]? = some l → ∀ q ∈ l, kx_okF o q.1 q.2 := kx_fa1 (P := fun (o : String) (q : Nat × (Nat × Nat × Nat)) => kx_okF o q.1 q.2) kx_wf_0 (kx_fa1 (P := fun (o : String) (q : Nat × (Nat × Nat × Nat)) => kx_okF o q.1 q.2) kx_wf_1 (kx_fa1 (P := fun (o : String) (q : Nat × (Nat × Nat × Nat)) => kx_okF o q.1 q.2) kx_wf_2 (kx_fa1 (P := fun (o : String) (q : Nat × (Nat × Nat × Nat)) => kx_okF o q.1 q.2) kx_wf_3 (kx_fa1 (P := fun (o : String) (q : Nat × (Nat × Nat × Nat)) => kx_okF o q.1 q.2) kx_wf_4 (kx_fa1 (P := fun (o : String) (q : Nat × (Nat × Nat × Nat)) => kx_okF o q.1 q.2) kx_wf_5 (kx_fa1 (P := fun (o : String) (q : Nat × (Nat × Nat × Nat)) => kx_okF o q.1 q.2) kx_wf_6 (kx_fa1 (P := fun (o : String) (q : Nat × (Nat × Nat × Nat)) => kx_okF o q.1 q.2) kx_wf_7 (kx_fa1 (P := fun (o : String) (q : Nat × (Nat × Nat × Nat)) => kx_okF o q.1 q.2) kx_wf_8 (kx_fa1 (P := fun (o : String) (q : Nat × (Nat × Nat × Nat)) => kx_okF o q.1 q.2) kx_wf_9 (kx_fa1 (P := fun (o : String) (q : Nat × (Nat × Nat × Nat)) => kx_okF o q.1 q.2) kx_wf_10 (kx_fa1 (P := fun (o : String) (q : Nat × (Nat × Nat × Nat)) => kx_okF o q.1 q.2) kx_wf_11 (kx_fa1 (P := fun (o : String) (q : Nat × (Nat × Nat × Nat)) => kx_okF o q.1 q.2) kx_wf_12 (kx_fa1 (P := fun (o : String) (q : Nat × (Nat × Nat × Nat)) => kx_okF o q.1 q.2) kx_wf_13 (kx_fa1 (P := fun (o : String) (q : Nat × (Nat × Nat × Nat)) => kx_okF o q.1 q.2) kx_wf_14 (kx_fa1 (P := fun (o : String) (q : Nat × (Nat × Nat × Nat)) => kx_okF o q.1 q.2) kx_wf_15 (kx_fa1 (P := fun (o : String) (q : Nat × (Nat × Nat × Nat)) => kx_okF o q.1 q.2) kx_wf_16 (kx_fa1 (P := fun (o : String) (q : Nat × (Nat × Nat × Nat)) => kx_okF o q.1 q.2) kx_wf_17 (kx_fa1 (P := fun (o : String) (q : Nat × (Nat × Nat × Nat)) => kx_okF o q.1 q.2) kx_wf_18 (kx_fa1 (P := fun (o : String) (q : Nat × (Nat × Nat × Nat)) => kx_okF o q.1 q.2) kx_wf_19 (kx_fa1 (P := fun (o : String) (q : Nat × (Nat × Nat × Nat)) => kx_okF o q.1 q.2) kx_wf_20 (kx_fa1 (P := fun (o : String) (q : Nat × (Nat × Nat × Nat)) => kx_okF o q.1 q.2) kx_wf_21 (kx_fa0))))))))))))))))))))))
theorem kx_wf_ok {k n : Nat} {o : String} {r} (ho : kx_on[k]? = some o) (h : kx_look kx_fldT k n = some r) : kx_okF o n r := by
  obtain ⟨l, h1, h2⟩ := kx_look_mem h
  exact kx_wf_all k o l ho h1 _ h2
theorem kx_ws_0 : ∀ q ∈ (kx_staT.getD 0 []), kx_okS "KiteWarLaw" q.1 q.2 := fun _ h => absurd h List.not_mem_nil
theorem kx_ws_1_0 : kx_okS "KiteWar" 262 (.retAddr 2) := ⟨kx_sts[0], by decide +kernel, rfl, List.mem_of_getElem? (i := 1012) (by decide +kernel)⟩
theorem kx_ws_1 : ∀ q ∈ (kx_staT.getD 1 []), kx_okS "KiteWar" q.1 q.2 := List.forall_mem_cons.mpr ⟨kx_ws_1_0, fun _ h => absurd h List.not_mem_nil⟩
theorem kx_ws_2_0 : kx_okS "KiteWar$Field" 11 (.retAddr 3) := ⟨kx_sts[1], by decide +kernel, rfl, List.mem_of_getElem? (i := 501) (by decide +kernel)⟩
theorem kx_ws_2_1 : kx_okS "KiteWar$Field" 15 (.retAddr 2) := ⟨kx_sts[0], by decide +kernel, rfl, List.mem_of_getElem? (i := 503) (by decide +kernel)⟩
theorem kx_ws_2_2 : kx_okS "KiteWar$Field" 18 (.retAddr 4) := ⟨kx_sts[2], by decide +kernel, rfl, List.mem_of_getElem? (i := 505) (by decide +kernel)⟩
theorem kx_ws_2_3 : kx_okS "KiteWar$Field" 21 (.retAddr 6) := ⟨kx_sts[4], by decide +kernel, rfl, List.mem_of_getElem? (i := 507) (by decide +kernel)⟩
theorem kx_ws_2_4 : kx_okS "KiteWar$Field" 24 (.retAddr 5) := ⟨kx_sts[3], by decide +kernel, rfl, List.mem_of_getElem? (i := 509) (by decide +kernel)⟩
theorem kx_ws_2 : ∀ q ∈ (kx_staT.getD 2 []), kx_okS "KiteWar$Field" q.1 q.2 := List.forall_mem_cons.mpr ⟨kx_ws_2_0, List.forall_mem_cons.mpr ⟨kx_ws_2_1, List.forall_mem_cons.mpr ⟨kx_ws_2_2, List.forall_mem_cons.mpr ⟨kx_ws_2_3, List.forall_mem_cons.mpr ⟨kx_ws_2_4, fun _ h => absurd h List.not_mem_nil⟩⟩⟩⟩⟩
theorem kx_ws_3 : ∀ q ∈ (kx_staT.getD 3 []), kx_okS "KiteWar$Flight" q.1 q.2 := fun _ h => absurd h List.not_mem_nil
theorem kx_ws_4 : ∀ q ∈ (kx_staT.getD 4 []), kx_okS "KiteWar$History" q.1 q.2 := fun _ h => absurd h List.not_mem_nil
theorem kx_ws_5 : ∀ q ∈ (kx_staT.getD 5 []), kx_okS "KiteWar$Kite" q.1 q.2 := fun _ h => absurd h List.not_mem_nil
theorem kx_ws_6 : ∀ q ∈ (kx_staT.getD 6 []), kx_okS "KiteWar$Lines" q.1 q.2 := fun _ h => absurd h List.not_mem_nil
theorem kx_ws_7 : ∀ q ∈ (kx_staT.getD 7 []), kx_okS "KiteWar$Order" q.1 q.2 := fun _ h => absurd h List.not_mem_nil
theorem kx_ws_8 : ∀ q ∈ (kx_staT.getD 8 []), kx_okS "KiteWar$Orders" q.1 q.2 := fun _ h => absurd h List.not_mem_nil
theorem kx_ws_9 : ∀ q ∈ (kx_staT.getD 9 []), kx_okS "KiteWar$State" q.1 q.2 := fun _ h => absurd h List.not_mem_nil
theorem kx_ws_10 : ∀ q ∈ (kx_staT.getD 10 []), kx_okS "KiteWar$Tower" q.1 q.2 := fun _ h => absurd h List.not_mem_nil
theorem kx_ws_11 : ∀ q ∈ (kx_staT.getD 11 []), kx_okS "KiteWar$Umpire" q.1 q.2 := fun _ h => absurd h List.not_mem_nil
theorem kx_ws_12 : ∀ q ∈ (kx_staT.getD 12 []), kx_okS "KiteWarModel" q.1 q.2 := fun _ h => absurd h List.not_mem_nil
theorem kx_ws_13_0 : kx_okS "java/lang/AbstractStringBuilder" 18 (.int 1) := ⟨kx_sts[7], by decide +kernel, rfl, List.mem_of_getElem? (i := 388) (by decide +kernel)⟩
theorem kx_ws_13 : ∀ q ∈ (kx_staT.getD 13 []), kx_okS "java/lang/AbstractStringBuilder" q.1 q.2 := List.forall_mem_cons.mpr ⟨kx_ws_13_0, fun _ h => absurd h List.not_mem_nil⟩
theorem kx_ws_14_0 : kx_okS "java/lang/Integer" 83 (.retAddr 7) := ⟨kx_sts[5], by decide +kernel, rfl, List.mem_of_getElem? (i := 1034) (by decide +kernel)⟩
theorem kx_ws_14_1 : kx_okS "java/lang/Integer" 87 (.retAddr 8) := ⟨kx_sts[6], by decide +kernel, rfl, List.mem_of_getElem? (i := 1036) (by decide +kernel)⟩
theorem kx_ws_14 : ∀ q ∈ (kx_staT.getD 14 []), kx_okS "java/lang/Integer" q.1 q.2 := List.forall_mem_cons.mpr ⟨kx_ws_14_0, List.forall_mem_cons.mpr ⟨kx_ws_14_1, fun _ h => absurd h List.not_mem_nil⟩⟩
theorem kx_ws_15_0 : kx_okS "java/lang/String" 38 (.int 1) := ⟨kx_sts[7], by decide +kernel, rfl, List.mem_of_getElem? (i := 948) (by decide +kernel)⟩
theorem kx_ws_15_1 : kx_okS "java/lang/String" 1053 (.retAddr 0) := ⟨kx_sts[8], by decide +kernel, rfl, List.mem_of_getElem? (i := 880) (by decide +kernel)⟩
theorem kx_ws_15 : ∀ q ∈ (kx_staT.getD 15 []), kx_okS "java/lang/String" q.1 q.2 := List.forall_mem_cons.mpr ⟨kx_ws_15_0, List.forall_mem_cons.mpr ⟨kx_ws_15_1, fun _ h => absurd h List.not_mem_nil⟩⟩
theorem kx_ws_16 : ∀ q ∈ (kx_staT.getD 16 []), kx_okS "java/lang/StringBuilder" q.1 q.2 := fun _ h => absurd h List.not_mem_nil
theorem kx_ws_17 : ∀ q ∈ (kx_staT.getD 17 []), kx_okS "java/lang/StringLatin1" q.1 q.2 := fun _ h => absurd h List.not_mem_nil
theorem kx_ws_18 : ∀ q ∈ (kx_staT.getD 18 []), kx_okS "java/util/Arrays" q.1 q.2 := fun _ h => absurd h List.not_mem_nil
theorem kx_ws_19 : ∀ q ∈ (kx_staT.getD 19 []), kx_okS "jdk/internal/util/ArraysSupport" q.1 q.2 := fun _ h => absurd h List.not_mem_nil
theorem kx_ws_20 : ∀ q ∈ (kx_staT.getD 20 []), kx_okS "jdk/internal/util/Preconditions" q.1 q.2 := fun _ h => absurd h List.not_mem_nil
theorem kx_ws_21 : ∀ q ∈ (kx_staT.getD 21 []), kx_okS "java/lang/Math" q.1 q.2 := fun _ h => absurd h List.not_mem_nil
theorem kx_ws_all : ∀ (k : Nat) (o : String) l, kx_on[k]? = some o → kx_staT[k]? = some l → ∀ q ∈ l, kx_okS o q.1 q.2 := kx_fa1 (P := fun (o : String) (q : Nat × Value) => kx_okS o q.1 q.2) kx_ws_0 (kx_fa1 (P := fun (o : String) (q : Nat × Value) => kx_okS o q.1 q.2) kx_ws_1 (kx_fa1 (P := fun (o : String) (q : Nat × Value) => kx_okS o q.1 q.2) kx_ws_2 (kx_fa1 (P := fun (o : String) (q : Nat × Value) => kx_okS o q.1 q.2) kx_ws_3 (kx_fa1 (P := fun (o : String) (q : Nat × Value) => kx_okS o q.1 q.2) kx_ws_4 (kx_fa1 (P := fun (o : String) (q : Nat × Value) => kx_okS o q.1 q.2) kx_ws_5 (kx_fa1 (P := fun (o : String) (q : Nat × Value) => kx_okS o q.1 q.2) kx_ws_6 (kx_fa1 (P := fun (o : String) (q : Nat × Value) => kx_okS o q.1 q.2) kx_ws_7 (kx_fa1 (P := fun (o : String) (q : Nat × Value) => kx_okS o q.1 q.2) kx_ws_8 (kx_fa1 (P := fun (o : String) (q : Nat × Value) => kx_okS o q.1 q.2) kx_ws_9 (kx_fa1 (P := fun (o : String) (q : Nat × Value) => kx_okS o q.1 q.2) kx_ws_10 (kx_fa1 (P := fun (o : String) (q : Nat × Value) => kx_okS o q.1 q.2) kx_ws_11 (kx_fa1 (P := fun (o : String) (q : Nat × Value) => kx_okS o q.1 q.2) kx_ws_12 (kx_fa1 (P := fun (o : String) (q : Nat × Value) => kx_okS o q.1 q.2) kx_ws_13 (kx_fa1 (P := fun (o : String) (q : Nat × Value) => kx_okS o q.1 q.2) kx_ws_14 (kx_fa1 (P := fun (o : String) (q : Nat × Value) => kx_okS o q.1 q.2) kx_ws_15 (kx_fa1 (P := fun (o : String) (q : Nat × Value) => kx_okS o q.1 q.2) kx_ws_16 (kx_fa1 (P := fun (o : String) (q : Nat × Value) => kx_okS o q.1 q.2) kx_ws_17 (kx_fa1 (P := fun (o : String) (q : Nat × Value) => kx_okS o q.1 q.2) kx_ws_18 (kx_fa1 (P := fun (o : String) (q : Nat × Value) => kx_okS o q.1 q.2) kx_ws_19 (kx_fa1 (P := fun (o : String) (q : Nat × Value) => kx_okS o q.1 q.2) kx_ws_20 (kx_fa1 (P := fun (o : String) (q : Nat × Value) => kx_okS o q.1 q.2) kx_ws_21 (kx_fa0))))))))))))))))))))))
theorem kx_ws_ok {k n : Nat} {o : String} {r} (ho : kx_on[k]? = some o) (h : kx_look kx_staT k n = some r) : kx_okS o n r := by
  obtain ⟨l, h1, h2⟩ := kx_look_mem h
  exact kx_ws_all k o l ho h1 _ h2
theorem kx_wn_0 : ∀ q ∈ (kx_conT.getD 0 []), kx_okN "KiteWarLaw" q.1 q.2 := fun _ h => absurd h List.not_mem_nil
theorem kx_wn_1_0 : kx_okN "KiteWar" 276 (.retAddr 34) := Or.inr ⟨kx_srs[12], List.mem_of_getElem? (i := 12) (by decide +kernel), rfl, rfl, rfl⟩
theorem kx_wn_1_1 : kx_okN "KiteWar" 368 (.retAddr 26) := Or.inr ⟨kx_srs[8], List.mem_of_getElem? (i := 8) (by decide +kernel), rfl, rfl, rfl⟩
theorem kx_wn_1_2 : kx_okN "KiteWar" 370 (.retAddr 28) := Or.inr ⟨kx_srs[9], List.mem_of_getElem? (i := 9) (by decide +kernel), rfl, rfl, rfl⟩
theorem kx_wn_1_3 : kx_okN "KiteWar" 372 (.retAddr 30) := Or.inr ⟨kx_srs[10], List.mem_of_getElem? (i := 10) (by decide +kernel), rfl, rfl, rfl⟩
theorem kx_wn_1_4 : kx_okN "KiteWar" 374 (.retAddr 32) := Or.inr ⟨kx_srs[11], List.mem_of_getElem? (i := 11) (by decide +kernel), rfl, rfl, rfl⟩
theorem kx_wn_1 : ∀ q ∈ (kx_conT.getD 1 []), kx_okN "KiteWar" q.1 q.2 := List.forall_mem_cons.mpr ⟨kx_wn_1_0, List.forall_mem_cons.mpr ⟨kx_wn_1_1, List.forall_mem_cons.mpr ⟨kx_wn_1_2, List.forall_mem_cons.mpr ⟨kx_wn_1_3, List.forall_mem_cons.mpr ⟨kx_wn_1_4, fun _ h => absurd h List.not_mem_nil⟩⟩⟩⟩⟩
theorem kx_wn_2 : ∀ q ∈ (kx_conT.getD 2 []), kx_okN "KiteWar$Field" q.1 q.2 := fun _ h => absurd h List.not_mem_nil
theorem kx_wn_3 : ∀ q ∈ (kx_conT.getD 3 []), kx_okN "KiteWar$Flight" q.1 q.2 := fun _ h => absurd h List.not_mem_nil
theorem kx_wn_4 : ∀ q ∈ (kx_conT.getD 4 []), kx_okN "KiteWar$History" q.1 q.2 := fun _ h => absurd h List.not_mem_nil
theorem kx_wn_5 : ∀ q ∈ (kx_conT.getD 5 []), kx_okN "KiteWar$Kite" q.1 q.2 := fun _ h => absurd h List.not_mem_nil
theorem kx_wn_6 : ∀ q ∈ (kx_conT.getD 6 []), kx_okN "KiteWar$Lines" q.1 q.2 := fun _ h => absurd h List.not_mem_nil
theorem kx_wn_7 : ∀ q ∈ (kx_conT.getD 7 []), kx_okN "KiteWar$Order" q.1 q.2 := fun _ h => absurd h List.not_mem_nil
theorem kx_wn_8_0 : kx_okN "KiteWar$Orders" 54 (.retAddr 10) := Or.inr ⟨kx_srs[0], List.mem_of_getElem? (i := 0) (by decide +kernel), rfl, rfl, rfl⟩
theorem kx_wn_8_1 : kx_okN "KiteWar$Orders" 69 (.retAddr 12) := Or.inr ⟨kx_srs[1], List.mem_of_getElem? (i := 1) (by decide +kernel), rfl, rfl, rfl⟩
theorem kx_wn_8_2 : kx_okN "KiteWar$Orders" 74 (.retAddr 14) := Or.inr ⟨kx_srs[2], List.mem_of_getElem? (i := 2) (by decide +kernel), rfl, rfl, rfl⟩
theorem kx_wn_8_3 : kx_okN "KiteWar$Orders" 76 (.retAddr 16) := Or.inr ⟨kx_srs[3], List.mem_of_getElem? (i := 3) (by decide +kernel), rfl, rfl, rfl⟩
theorem kx_wn_8_4 : kx_okN "KiteWar$Orders" 78 (.retAddr 18) := Or.inr ⟨kx_srs[4], List.mem_of_getElem? (i := 4) (by decide +kernel), rfl, rfl, rfl⟩
theorem kx_wn_8_5 : kx_okN "KiteWar$Orders" 80 (.retAddr 20) := Or.inr ⟨kx_srs[5], List.mem_of_getElem? (i := 5) (by decide +kernel), rfl, rfl, rfl⟩
theorem kx_wn_8_6 : kx_okN "KiteWar$Orders" 82 (.retAddr 22) := Or.inr ⟨kx_srs[6], List.mem_of_getElem? (i := 6) (by decide +kernel), rfl, rfl, rfl⟩
theorem kx_wn_8_7 : kx_okN "KiteWar$Orders" 84 (.retAddr 24) := Or.inr ⟨kx_srs[7], List.mem_of_getElem? (i := 7) (by decide +kernel), rfl, rfl, rfl⟩
theorem kx_wn_8 : ∀ q ∈ (kx_conT.getD 8 []), kx_okN "KiteWar$Orders" q.1 q.2 := List.forall_mem_cons.mpr ⟨kx_wn_8_0, List.forall_mem_cons.mpr ⟨kx_wn_8_1, List.forall_mem_cons.mpr ⟨kx_wn_8_2, List.forall_mem_cons.mpr ⟨kx_wn_8_3, List.forall_mem_cons.mpr ⟨kx_wn_8_4, List.forall_mem_cons.mpr ⟨kx_wn_8_5, List.forall_mem_cons.mpr ⟨kx_wn_8_6, List.forall_mem_cons.mpr ⟨kx_wn_8_7, fun _ h => absurd h List.not_mem_nil⟩⟩⟩⟩⟩⟩⟩⟩
theorem kx_wn_9 : ∀ q ∈ (kx_conT.getD 9 []), kx_okN "KiteWar$State" q.1 q.2 := fun _ h => absurd h List.not_mem_nil
theorem kx_wn_10 : ∀ q ∈ (kx_conT.getD 10 []), kx_okN "KiteWar$Tower" q.1 q.2 := fun _ h => absurd h List.not_mem_nil
theorem kx_wn_11 : ∀ q ∈ (kx_conT.getD 11 []), kx_okN "KiteWar$Umpire" q.1 q.2 := fun _ h => absurd h List.not_mem_nil
theorem kx_wn_12_0 : kx_okN "KiteWarModel" 213 (.retAddr 40) := Or.inr ⟨kx_srs[15], List.mem_of_getElem? (i := 15) (by decide +kernel), rfl, rfl, rfl⟩
theorem kx_wn_12_1 : kx_okN "KiteWarModel" 222 (.retAddr 42) := Or.inr ⟨kx_srs[16], List.mem_of_getElem? (i := 16) (by decide +kernel), rfl, rfl, rfl⟩
theorem kx_wn_12_2 : kx_okN "KiteWarModel" 224 (.retAddr 44) := Or.inr ⟨kx_srs[17], List.mem_of_getElem? (i := 17) (by decide +kernel), rfl, rfl, rfl⟩
theorem kx_wn_12_3 : kx_okN "KiteWarModel" 226 (.retAddr 46) := Or.inr ⟨kx_srs[18], List.mem_of_getElem? (i := 18) (by decide +kernel), rfl, rfl, rfl⟩
theorem kx_wn_12_4 : kx_okN "KiteWarModel" 228 (.retAddr 48) := Or.inr ⟨kx_srs[19], List.mem_of_getElem? (i := 19) (by decide +kernel), rfl, rfl, rfl⟩
theorem kx_wn_12_5 : kx_okN "KiteWarModel" 233 (.retAddr 36) := Or.inr ⟨kx_srs[13], List.mem_of_getElem? (i := 13) (by decide +kernel), rfl, rfl, rfl⟩
theorem kx_wn_12_6 : kx_okN "KiteWarModel" 235 (.retAddr 38) := Or.inr ⟨kx_srs[14], List.mem_of_getElem? (i := 14) (by decide +kernel), rfl, rfl, rfl⟩
theorem kx_wn_12_7 : kx_okN "KiteWarModel" 274 (.retAddr 50) := Or.inr ⟨kx_srs[20], List.mem_of_getElem? (i := 20) (by decide +kernel), rfl, rfl, rfl⟩
theorem kx_wn_12_8 : kx_okN "KiteWarModel" 280 (.retAddr 52) := Or.inr ⟨kx_srs[21], List.mem_of_getElem? (i := 21) (by decide +kernel), rfl, rfl, rfl⟩
theorem kx_wn_12_9 : kx_okN "KiteWarModel" 282 (.retAddr 54) := Or.inr ⟨kx_srs[22], List.mem_of_getElem? (i := 22) (by decide +kernel), rfl, rfl, rfl⟩
theorem kx_wn_12_10 : kx_okN "KiteWarModel" 284 (.retAddr 56) := Or.inr ⟨kx_srs[23], List.mem_of_getElem? (i := 23) (by decide +kernel), rfl, rfl, rfl⟩
theorem kx_wn_12_11 : kx_okN "KiteWarModel" 286 (.retAddr 58) := Or.inr ⟨kx_srs[24], List.mem_of_getElem? (i := 24) (by decide +kernel), rfl, rfl, rfl⟩
theorem kx_wn_12 : ∀ q ∈ (kx_conT.getD 12 []), kx_okN "KiteWarModel" q.1 q.2 := List.forall_mem_cons.mpr ⟨kx_wn_12_0, List.forall_mem_cons.mpr ⟨kx_wn_12_1, List.forall_mem_cons.mpr ⟨kx_wn_12_2, List.forall_mem_cons.mpr ⟨kx_wn_12_3, List.forall_mem_cons.mpr ⟨kx_wn_12_4, List.forall_mem_cons.mpr ⟨kx_wn_12_5, List.forall_mem_cons.mpr ⟨kx_wn_12_6, List.forall_mem_cons.mpr ⟨kx_wn_12_7, List.forall_mem_cons.mpr ⟨kx_wn_12_8, List.forall_mem_cons.mpr ⟨kx_wn_12_9, List.forall_mem_cons.mpr ⟨kx_wn_12_10, List.forall_mem_cons.mpr ⟨kx_wn_12_11, fun _ h => absurd h List.not_mem_nil⟩⟩⟩⟩⟩⟩⟩⟩⟩⟩⟩⟩
theorem kx_wn_13_0 : kx_okN "java/lang/AbstractStringBuilder" 39 (.int (2147483647)) := Or.inl ⟨_, rfl, List.mem_of_getElem? (i := 838) (by decide +kernel)⟩
theorem kx_wn_13 : ∀ q ∈ (kx_conT.getD 13 []), kx_okN "java/lang/AbstractStringBuilder" q.1 q.2 := List.forall_mem_cons.mpr ⟨kx_wn_13_0, fun _ h => absurd h List.not_mem_nil⟩
theorem kx_wn_14 : ∀ q ∈ (kx_conT.getD 14 []), kx_okN "java/lang/Integer" q.1 q.2 := fun _ h => absurd h List.not_mem_nil
theorem kx_wn_15 : ∀ q ∈ (kx_conT.getD 15 []), kx_okN "java/lang/String" q.1 q.2 := fun _ h => absurd h List.not_mem_nil
theorem kx_wn_16 : ∀ q ∈ (kx_conT.getD 16 []), kx_okN "java/lang/StringBuilder" q.1 q.2 := fun _ h => absurd h List.not_mem_nil
theorem kx_wn_17 : ∀ q ∈ (kx_conT.getD 17 []), kx_okN "java/lang/StringLatin1" q.1 q.2 := fun _ h => absurd h List.not_mem_nil
theorem kx_wn_18 : ∀ q ∈ (kx_conT.getD 18 []), kx_okN "java/util/Arrays" q.1 q.2 := fun _ h => absurd h List.not_mem_nil
theorem kx_wn_19_0 : kx_okN "jdk/internal/util/ArraysSupport" 200 (.int (2147483639)) := Or.inl ⟨_, rfl, List.mem_of_getElem? (i := 834) (by decide +kernel)⟩
theorem kx_wn_19 : ∀ q ∈ (kx_conT.getD 19 []), kx_okN "jdk/internal/util/ArraysSupport" q.1 q.2 := List.forall_mem_cons.mpr ⟨kx_wn_19_0, fun _ h => absurd h List.not_mem_nil⟩
theorem kx_wn_20 : ∀ q ∈ (kx_conT.getD 20 []), kx_okN "jdk/internal/util/Preconditions" q.1 q.2 := fun _ h => absurd h List.not_mem_nil
theorem kx_wn_21 : ∀ q ∈ (kx_conT.getD 21 []), kx_okN "java/lang/Math" q.1 q.2 := fun _ h => absurd h List.not_mem_nil
theorem kx_wn_all : ∀ (k : Nat) (o : String) l, kx_on[k]? = some o → kx_conT[k]? = some l → ∀ q ∈ l, kx_okN o q.1 q.2 := kx_fa1 (P := fun (o : String) (q : Nat × Value) => kx_okN o q.1 q.2) kx_wn_0 (kx_fa1 (P := fun (o : String) (q : Nat × Value) => kx_okN o q.1 q.2) kx_wn_1 (kx_fa1 (P := fun (o : String) (q : Nat × Value) => kx_okN o q.1 q.2) kx_wn_2 (kx_fa1 (P := fun (o : String) (q : Nat × Value) => kx_okN o q.1 q.2) kx_wn_3 (kx_fa1 (P := fun (o : String) (q : Nat × Value) => kx_okN o q.1 q.2) kx_wn_4 (kx_fa1 (P := fun (o : String) (q : Nat × Value) => kx_okN o q.1 q.2) kx_wn_5 (kx_fa1 (P := fun (o : String) (q : Nat × Value) => kx_okN o q.1 q.2) kx_wn_6 (kx_fa1 (P := fun (o : String) (q : Nat × Value) => kx_okN o q.1 q.2) kx_wn_7 (kx_fa1 (P := fun (o : String) (q : Nat × Value) => kx_okN o q.1 q.2) kx_wn_8 (kx_fa1 (P := fun (o : String) (q : Nat × Value) => kx_okN o q.1 q.2) kx_wn_9 (kx_fa1 (P := fun (o : String) (q : Nat × Value) => kx_okN o q.1 q.2) kx_wn_10 (kx_fa1 (P := fun (o : String) (q : Nat × Value) => kx_okN o q.1 q.2) kx_wn_11 (kx_fa1 (P := fun (o : String) (q : Nat × Value) => kx_okN o q.1 q.2) kx_wn_12 (kx_fa1 (P := fun (o : String) (q : Nat × Value) => kx_okN o q.1 q.2) kx_wn_13 (kx_fa1 (P := fun (o : String) (q : Nat × Value) => kx_okN o q.1 q.2) kx_wn_14 (kx_fa1 (P := fun (o : String) (q : Nat × Value) => kx_okN o q.1 q.2) kx_wn_15 (kx_fa1 (P := fun (o : String) (q : Nat × Value) => kx_okN o q.1 q.2) kx_wn_16 (kx_fa1 (P := fun (o : String) (q : Nat × Value) => kx_okN o q.1 q.2) kx_wn_17 (kx_fa1 (P := fun (o : String) (q : Nat × Value) => kx_okN o q.1 q.2) kx_wn_18 (kx_fa1 (P := fun (o : String) (q : Nat × Value) => kx_okN o q.1 q.2) kx_wn_19 (kx_fa1 (P := fun (o : String) (q : Nat × Value) => kx_okN o q.1 q.2) kx_wn_20 (kx_fa1 (P := fun (o : String) (q : Nat × Value) => kx_okN o q.1 q.2) kx_wn_21 (kx_fa0))))))))))))))))))))))
theorem kx_wn_ok {k n : Nat} {o : String} {r} (ho : kx_on[k]? = some o) (h : kx_look kx_conT k n = some r) : kx_okN o n r := by
  obtain ⟨l, h1, h2⟩ := kx_look_mem h
  exact kx_wn_all k o l ho h1 _ h2
theorem kx_wl_0_0 : kx_okL "KiteWarLaw" 7 (9, 0) := ⟨Nat.le_of_ble_eq_true rfl, List.mem_of_getElem? (i := 94) (by decide +kernel), List.mem_of_getElem? (i := 95) (by decide +kernel), List.mem_of_getElem? (i := 71) (by decide +kernel), by decide +kernel⟩
theorem kx_wl_0_1 : kx_okL "KiteWarLaw" 10 (10, 0) := ⟨Nat.le_of_ble_eq_true rfl, List.mem_of_getElem? (i := 1154) (by decide +kernel), List.mem_of_getElem? (i := 1155) (by decide +kernel), List.mem_of_getElem? (i := 85) (by decide +kernel), by decide +kernel⟩
theorem kx_wl_0 : ∀ q ∈ (kx_clsT.getD 0 []), kx_okL "KiteWarLaw" q.1 q.2 := List.forall_mem_cons.mpr ⟨kx_wl_0_0, List.forall_mem_cons.mpr ⟨kx_wl_0_1, fun _ h => absurd h List.not_mem_nil⟩⟩
theorem kx_wl_1_0 : kx_okL "KiteWar" 7 (6, 0) := ⟨Nat.le_of_ble_eq_true rfl, List.mem_of_getElem? (i := 102) (by decide +kernel), List.mem_of_getElem? (i := 103) (by decide +kernel), List.mem_of_getElem? (i := 72) (by decide +kernel), by decide +kernel⟩
theorem kx_wl_1_1 : kx_okL "KiteWar" 26 (1, 0) := ⟨Nat.le_of_ble_eq_true rfl, List.mem_of_getElem? (i := 291) (by decide +kernel), List.mem_of_getElem? (i := 292) (by decide +kernel), List.mem_of_getElem? (i := 75) (by decide +kernel), by decide +kernel⟩
theorem kx_wl_1_2 : kx_okL "KiteWar" 33 (3, 0) := ⟨Nat.le_of_ble_eq_true rfl, List.mem_of_getElem? (i := 311) (by decide +kernel), List.mem_of_getElem? (i := 312) (by decide +kernel), List.mem_of_getElem? (i := 76) (by decide +kernel), by decide +kernel⟩
theorem kx_wl_1_3 : kx_okL "KiteWar" 40 (8, 0) := ⟨Nat.le_of_ble_eq_true rfl, List.mem_of_getElem? (i := 349) (by decide +kernel), List.mem_of_getElem? (i := 350) (by decide +kernel), List.mem_of_getElem? (i := 78) (by decide +kernel), by decide +kernel⟩
theorem kx_wl_1_4 : kx_okL "KiteWar" 47 (5, 0) := ⟨Nat.le_of_ble_eq_true rfl, List.mem_of_getElem? (i := 373) (by decide +kernel), List.mem_of_getElem? (i := 374) (by decide +kernel), List.mem_of_getElem? (i := 79) (by decide +kernel), by decide +kernel⟩
theorem kx_wl_1_5 : kx_okL "KiteWar" 54 (11, 0) := ⟨Nat.le_of_ble_eq_true rfl, List.mem_of_getElem? (i := 452) (by decide +kernel), List.mem_of_getElem? (i := 380) (by decide +kernel), List.mem_of_getElem? (i := 81) (by decide +kernel), by decide +kernel⟩
theorem kx_wl_1 : ∀ q ∈ (kx_clsT.getD 1 []), kx_okL "KiteWar" q.1 q.2 := List.forall_mem_cons.mpr ⟨kx_wl_1_0, List.forall_mem_cons.mpr ⟨kx_wl_1_1, List.forall_mem_cons.mpr ⟨kx_wl_1_2, List.forall_mem_cons.mpr ⟨kx_wl_1_3, List.forall_mem_cons.mpr ⟨kx_wl_1_4, List.forall_mem_cons.mpr ⟨kx_wl_1_5, fun _ h => absurd h List.not_mem_nil⟩⟩⟩⟩⟩⟩
theorem kx_wl_2 : ∀ q ∈ (kx_clsT.getD 2 []), kx_okL "KiteWar$Field" q.1 q.2 := fun _ h => absurd h List.not_mem_nil
theorem kx_wl_3 : ∀ q ∈ (kx_clsT.getD 3 []), kx_okL "KiteWar$Flight" q.1 q.2 := fun _ h => absurd h List.not_mem_nil
theorem kx_wl_4_0 : kx_okL "KiteWar$History" 9 (6, 112) := ⟨Nat.le_of_ble_eq_true rfl, List.mem_of_getElem? (i := 297) (by decide +kernel), List.mem_of_getElem? (i := 103) (by decide +kernel), List.mem_of_getElem? (i := 72) (by decide +kernel), by decide +kernel⟩
theorem kx_wl_4 : ∀ q ∈ (kx_clsT.getD 4 []), kx_okL "KiteWar$History" q.1 q.2 := List.forall_mem_cons.mpr ⟨kx_wl_4_0, fun _ h => absurd h List.not_mem_nil⟩
theorem kx_wl_5 : ∀ q ∈ (kx_clsT.getD 5 []), kx_okL "KiteWar$Kite" q.1 q.2 := fun _ h => absurd h List.not_mem_nil
theorem kx_wl_6_0 : kx_okL "KiteWar$Lines" 15 (0, 0) := ⟨Nat.le_of_ble_eq_true rfl, List.mem_of_getElem? (i := 317) (by decide +kernel), List.mem_of_getElem? (i := 318) (by decide +kernel), List.mem_of_getElem? (i := 77) (by decide +kernel), by decide +kernel⟩
theorem kx_wl_6 : ∀ q ∈ (kx_clsT.getD 6 []), kx_okL "KiteWar$Lines" q.1 q.2 := List.forall_mem_cons.mpr ⟨kx_wl_6_0, fun _ h => absurd h List.not_mem_nil⟩
theorem kx_wl_7 : ∀ q ∈ (kx_clsT.getD 7 []), kx_okL "KiteWar$Order" q.1 q.2 := fun _ h => absurd h List.not_mem_nil
theorem kx_wl_8_0 : kx_okL "KiteWar$Orders" 9 (11, 0) := ⟨Nat.le_of_ble_eq_true rfl, List.mem_of_getElem? (i := 379) (by decide +kernel), List.mem_of_getElem? (i := 380) (by decide +kernel), List.mem_of_getElem? (i := 81) (by decide +kernel), by decide +kernel⟩
theorem kx_wl_8_1 : kx_okL "KiteWar$Orders" 18 (4, 113) := ⟨Nat.le_of_ble_eq_true rfl, List.mem_of_getElem? (i := 411) (by decide +kernel), List.mem_of_getElem? (i := 413) (by decide +kernel), List.mem_of_getElem? (i := 84) (by decide +kernel), by decide +kernel⟩
theorem kx_wl_8 : ∀ q ∈ (kx_clsT.getD 8 []), kx_okL "KiteWar$Orders" q.1 q.2 := List.forall_mem_cons.mpr ⟨kx_wl_8_0, List.forall_mem_cons.mpr ⟨kx_wl_8_1, fun _ h => absurd h List.not_mem_nil⟩⟩
theorem kx_wl_9_0 : kx_okL "KiteWar$State" 9 (7, 110) := ⟨Nat.le_of_ble_eq_true rfl, List.mem_of_getElem? (i := 108) (by decide +kernel), List.mem_of_getElem? (i := 110) (by decide +kernel), List.mem_of_getElem? (i := 73) (by decide +kernel), by decide +kernel⟩
theorem kx_wl_9_1 : kx_okL "KiteWar$State" 18 (2, 111) := ⟨Nat.le_of_ble_eq_true rfl, List.mem_of_getElem? (i := 137) (by decide +kernel), List.mem_of_getElem? (i := 139) (by decide +kernel), List.mem_of_getElem? (i := 74) (by decide +kernel), by decide +kernel⟩
theorem kx_wl_9 : ∀ q ∈ (kx_clsT.getD 9 []), kx_okL "KiteWar$State" q.1 q.2 := List.forall_mem_cons.mpr ⟨kx_wl_9_0, List.forall_mem_cons.mpr ⟨kx_wl_9_1, fun _ h => absurd h List.not_mem_nil⟩⟩
theorem kx_wl_10 : ∀ q ∈ (kx_clsT.getD 10 []), kx_okL "KiteWar$Tower" q.1 q.2 := fun _ h => absurd h List.not_mem_nil
theorem kx_wl_11_0 : kx_okL "KiteWar$Umpire" 9 (3, 0) := ⟨Nat.le_of_ble_eq_true rfl, List.mem_of_getElem? (i := 355) (by decide +kernel), List.mem_of_getElem? (i := 312) (by decide +kernel), List.mem_of_getElem? (i := 76) (by decide +kernel), by decide +kernel⟩
theorem kx_wl_11_1 : kx_okL "KiteWar$Umpire" 18 (0, 0) := ⟨Nat.le_of_ble_eq_true rfl, List.mem_of_getElem? (i := 357) (by decide +kernel), List.mem_of_getElem? (i := 318) (by decide +kernel), List.mem_of_getElem? (i := 77) (by decide +kernel), by decide +kernel⟩
theorem kx_wl_11 : ∀ q ∈ (kx_clsT.getD 11 []), kx_okL "KiteWar$Umpire" q.1 q.2 := List.forall_mem_cons.mpr ⟨kx_wl_11_0, List.forall_mem_cons.mpr ⟨kx_wl_11_1, fun _ h => absurd h List.not_mem_nil⟩⟩
theorem kx_wl_12 : ∀ q ∈ (kx_clsT.getD 12 []), kx_okL "KiteWarModel" q.1 q.2 := fun _ h => absurd h List.not_mem_nil
theorem kx_wl_13 : ∀ q ∈ (kx_clsT.getD 13 []), kx_okL "java/lang/AbstractStringBuilder" q.1 q.2 := fun _ h => absurd h List.not_mem_nil
theorem kx_wl_14 : ∀ q ∈ (kx_clsT.getD 14 []), kx_okL "java/lang/Integer" q.1 q.2 := fun _ h => absurd h List.not_mem_nil
theorem kx_wl_15 : ∀ q ∈ (kx_clsT.getD 15 []), kx_okL "java/lang/String" q.1 q.2 := fun _ h => absurd h List.not_mem_nil
theorem kx_wl_16 : ∀ q ∈ (kx_clsT.getD 16 []), kx_okL "java/lang/StringBuilder" q.1 q.2 := fun _ h => absurd h List.not_mem_nil
theorem kx_wl_17 : ∀ q ∈ (kx_clsT.getD 17 []), kx_okL "java/lang/StringLatin1" q.1 q.2 := fun _ h => absurd h List.not_mem_nil
theorem kx_wl_18 : ∀ q ∈ (kx_clsT.getD 18 []), kx_okL "java/util/Arrays" q.1 q.2 := fun _ h => absurd h List.not_mem_nil
theorem kx_wl_19 : ∀ q ∈ (kx_clsT.getD 19 []), kx_okL "jdk/internal/util/ArraysSupport" q.1 q.2 := fun _ h => absurd h List.not_mem_nil
theorem kx_wl_20 : ∀ q ∈ (kx_clsT.getD 20 []), kx_okL "jdk/internal/util/Preconditions" q.1 q.2 := fun _ h => absurd h List.not_mem_nil
theorem kx_wl_21 : ∀ q ∈ (kx_clsT.getD 21 []), kx_okL "java/lang/Math" q.1 q.2 := fun _ h => absurd h List.not_mem_nil
theorem kx_wl_all : ∀ (k : Nat) (o : String) l, kx_on[k]? = some o → kx_clsT[k]? = some l → ∀ q ∈ l, kx_okL o q.1 q.2 := kx_fa1 (P := fun (o : String) (q : Nat × (Nat × Nat)) => kx_okL o q.1 q.2) kx_wl_0 (kx_fa1 (P := fun (o : String) (q : Nat × (Nat × Nat)) => kx_okL o q.1 q.2) kx_wl_1 (kx_fa1 (P := fun (o : String) (q : Nat × (Nat × Nat)) => kx_okL o q.1 q.2) kx_wl_2 (kx_fa1 (P := fun (o : String) (q : Nat × (Nat × Nat)) => kx_okL o q.1 q.2) kx_wl_3 (kx_fa1 (P := fun (o : String) (q : Nat × (Nat × Nat)) => kx_okL o q.1 q.2) kx_wl_4 (kx_fa1 (P := fun (o : String) (q : Nat × (Nat × Nat)) => kx_okL o q.1 q.2) kx_wl_5 (kx_fa1 (P := fun (o : String) (q : Nat × (Nat × Nat)) => kx_okL o q.1 q.2) kx_wl_6 (kx_fa1 (P := fun (o : String) (q : Nat × (Nat × Nat)) => kx_okL o q.1 q.2) kx_wl_7 (kx_fa1 (P := fun (o : String) (q : Nat × (Nat × Nat)) => kx_okL o q.1 q.2) kx_wl_8 (kx_fa1 (P := fun (o : String) (q : Nat × (Nat × Nat)) => kx_okL o q.1 q.2) kx_wl_9 (kx_fa1 (P := fun (o : String) (q : Nat × (Nat × Nat)) => kx_okL o q.1 q.2) kx_wl_10 (kx_fa1 (P := fun (o : String) (q : Nat × (Nat × Nat)) => kx_okL o q.1 q.2) kx_wl_11 (kx_fa1 (P := fun (o : String) (q : Nat × (Nat × Nat)) => kx_okL o q.1 q.2) kx_wl_12 (kx_fa1 (P := fun (o : String) (q : Nat × (Nat × Nat)) => kx_okL o q.1 q.2) kx_wl_13 (kx_fa1 (P := fun (o : String) (q : Nat × (Nat × Nat)) => kx_okL o q.1 q.2) kx_wl_14 (kx_fa1 (P := fun (o : String) (q : Nat × (Nat × Nat)) => kx_okL o q.1 q.2) kx_wl_15 (kx_fa1 (P := fun (o : String) (q : Nat × (Nat × Nat)) => kx_okL o q.1 q.2) kx_wl_16 (kx_fa1 (P := fun (o : String) (q : Nat × (Nat × Nat)) => kx_okL o q.1 q.2) kx_wl_17 (kx_fa1 (P := fun (o : String) (q : Nat × (Nat × Nat)) => kx_okL o q.1 q.2) kx_wl_18 (kx_fa1 (P := fun (o : String) (q : Nat × (Nat × Nat)) => kx_okL o q.1 q.2) kx_wl_19 (kx_fa1 (P := fun (o : String) (q : Nat × (Nat × Nat)) => kx_okL o q.1 q.2) kx_wl_20 (kx_fa1 (P := fun (o : String) (q : Nat × (Nat × Nat)) => kx_okL o q.1 q.2) kx_wl_21 (kx_fa0))))))))))))))))))))))
theorem kx_wl_ok {k n : Nat} {o : String} {r} (ho : kx_on[k]? = some o) (h : kx_look kx_clsT k n = some r) : kx_okL o n r := by
  obtain ⟨l, h1, h2⟩ := kx_look_mem h
  exact kx_wl_all k o l ho h1 _ h2
theorem kx_wc_0_0 : kx_okC "KiteWarLaw" 9 (5, 1, 0, 0) := Or.inr (Or.inr (Or.inr (Or.inr (Or.inr ⟨kx_m1, rfl, by decide +kernel, by decide +kernel, List.mem_of_getElem? (i := 71) (by decide +kernel), Or.inr (Or.inr (Or.inl ⟨rfl, List.mem_of_getElem? (i := 96) (by decide +kernel), List.mem_of_getElem? (i := 97) (by decide +kernel), rfl⟩)), by decide +kernel⟩))))
theorem kx_wc_0_1 : kx_okC "KiteWarLaw" 12 (5, 112, 0, 0) := Or.inr (Or.inr (Or.inr (Or.inr (Or.inr ⟨kx_m112, rfl, by decide +kernel, by decide +kernel, List.mem_of_getElem? (i := 85) (by decide +kernel), Or.inr (Or.inr (Or.inl ⟨rfl, List.mem_of_getElem? (i := 1156) (by decide +kernel), List.mem_of_getElem? (i := 1157) (by decide +kernel), rfl⟩)), by decide +kernel⟩))))
theorem kx_wc_0_2 : kx_okC "KiteWarLaw" 13 (3, 2, 2, 9) := Or.inr (Or.inr (Or.inr (Or.inr (Or.inr ⟨kx_m2, rfl, by decide +kernel, by decide +kernel, List.mem_of_getElem? (i := 71) (by decide +kernel), Or.inl ⟨rfl, List.mem_of_getElem? (i := 488) (by decide +kernel), List.mem_of_getElem? (i := 489) (by decide +kernel), List.mem_of_getElem? (i := 490) (by decide +kernel), Or.inl ⟨Nat.le_of_ble_eq_true rfl, rfl⟩⟩, by decide +kernel⟩))))
theorem kx_wc_0_3 : kx_okC "KiteWarLaw" 17 (3, 113, 2, 10) := Or.inr (Or.inr (Or.inr (Or.inr (Or.inr ⟨kx_m113, rfl, by decide +kernel, by decide +kernel, List.mem_of_getElem? (i := 85) (by decide +kernel), Or.inl ⟨rfl, List.mem_of_getElem? (i := 1225) (by decide +kernel), List.mem_of_getElem? (i := 1226) (by decide +kernel), List.mem_of_getElem? (i := 1227) (by decide +kernel), Or.inl ⟨Nat.le_of_ble_eq_true rfl, rfl⟩⟩, by decide +kernel⟩))))
theorem kx_wc_0_4 : kx_okC "KiteWarLaw" 18 (3, 4, 2, 9) := Or.inr (Or.inr (Or.inr (Or.inr (Or.inr ⟨kx_m4, rfl, by decide +kernel, by decide +kernel, List.mem_of_getElem? (i := 71) (by decide +kernel), Or.inl ⟨rfl, List.mem_of_getElem? (i := 511) (by decide +kernel), List.mem_of_getElem? (i := 512) (by decide +kernel), List.mem_of_getElem? (i := 513) (by decide +kernel), Or.inl ⟨Nat.le_of_ble_eq_true rfl, rfl⟩⟩, by decide +kernel⟩))))
theorem kx_wc_0_5 : kx_okC "KiteWarLaw" 21 (3, 120, 2, 10) := Or.inr (Or.inr (Or.inr (Or.inr (Or.inr ⟨kx_m120, rfl, by decide +kernel, by decide +kernel, List.mem_of_getElem? (i := 85) (by decide +kernel), Or.inl ⟨rfl, List.mem_of_getElem? (i := 1247) (by decide +kernel), List.mem_of_getElem? (i := 1248) (by decide +kernel), List.mem_of_getElem? (i := 1249) (by decide +kernel), Or.inl ⟨Nat.le_of_ble_eq_true rfl, rfl⟩⟩, by decide +kernel⟩))))
theorem kx_wc_0_6 : kx_okC "KiteWarLaw" 22 (3, 5, 2, 9) := Or.inr (Or.inr (Or.inr (Or.inr (Or.inr ⟨kx_m5, rfl, by decide +kernel, by decide +kernel, List.mem_of_getElem? (i := 71) (by decide +kernel), Or.inl ⟨rfl, List.mem_of_getElem? (i := 525) (by decide +kernel), List.mem_of_getElem? (i := 526) (by decide +kernel), List.mem_of_getElem? (i := 527) (by decide +kernel), Or.inl ⟨Nat.le_of_ble_eq_true rfl, rfl⟩⟩, by decide +kernel⟩))))
theorem kx_wc_0_7 : kx_okC "KiteWarLaw" 25 (3, 125, 2, 10) := Or.inr (Or.inr (Or.inr (Or.inr (Or.inr ⟨kx_m125, rfl, by decide +kernel, by decide +kernel, List.mem_of_getElem? (i := 85) (by decide +kernel), Or.inl ⟨rfl, List.mem_of_getElem? (i := 1263) (by decide +kernel), List.mem_of_getElem? (i := 1264) (by decide +kernel), List.mem_of_getElem? (i := 1265) (by decide +kernel), Or.inl ⟨Nat.le_of_ble_eq_true rfl, rfl⟩⟩, by decide +kernel⟩))))
theorem kx_wc_0_8 : kx_okC "KiteWarLaw" 26 (3, 6, 3, 9) := Or.inr (Or.inr (Or.inr (Or.inr (Or.inr ⟨kx_m6, rfl, by decide +kernel, by decide +kernel, List.mem_of_getElem? (i := 71) (by decide +kernel), Or.inl ⟨rfl, List.mem_of_getElem? (i := 536) (by decide +kernel), List.mem_of_getElem? (i := 537) (by decide +kernel), List.mem_of_getElem? (i := 538) (by decide +kernel), Or.inl ⟨Nat.le_of_ble_eq_true rfl, rfl⟩⟩, by decide +kernel⟩))))
theorem kx_wc_0_9 : kx_okC "KiteWarLaw" 30 (3, 126, 3, 10) := Or.inr (Or.inr (Or.inr (Or.inr (Or.inr ⟨kx_m126, rfl, by decide +kernel, by decide +kernel, List.mem_of_getElem? (i := 85) (by decide +kernel), Or.inl ⟨rfl, List.mem_of_getElem? (i := 1267) (by decide +kernel), List.mem_of_getElem? (i := 1268) (by decide +kernel), List.mem_of_getElem? (i := 1269) (by decide +kernel), Or.inl ⟨Nat.le_of_ble_eq_true rfl, rfl⟩⟩, by decide +kernel⟩))))
theorem kx_wc_0_10 : kx_okC "KiteWarLaw" 31 (3, 11, 2, 9) := Or.inr (Or.inr (Or.inr (Or.inr (Or.inr ⟨kx_m11, rfl, by decide +kernel, by decide +kernel, List.mem_of_getElem? (i := 71) (by decide +kernel), Or.inl ⟨rfl, List.mem_of_getElem? (i := 587) (by decide +kernel), List.mem_of_getElem? (i := 588) (by decide +kernel), List.mem_of_getElem? (i := 589) (by decide +kernel), Or.inl ⟨Nat.le_of_ble_eq_true rfl, rfl⟩⟩, by decide +kernel⟩))))
theorem kx_wc_0_11 : kx_okC "KiteWarLaw" 34 (3, 133, 2, 10) := Or.inr (Or.inr (Or.inr (Or.inr (Or.inr ⟨kx_m133, rfl, by decide +kernel, by decide +kernel, List.mem_of_getElem? (i := 85) (by decide +kernel), Or.inl ⟨rfl, List.mem_of_getElem? (i := 1294) (by decide +kernel), List.mem_of_getElem? (i := 1295) (by decide +kernel), List.mem_of_getElem? (i := 1296) (by decide +kernel), Or.inl ⟨Nat.le_of_ble_eq_true rfl, rfl⟩⟩, by decide +kernel⟩))))
theorem kx_wc_0_12 : kx_okC "KiteWarLaw" 35 (3, 14, 2, 9) := Or.inr (Or.inr (Or.inr (Or.inr (Or.inr ⟨kx_m14, rfl, by decide +kernel, by decide +kernel, List.mem_of_getElem? (i := 71) (by decide +kernel), Or.inl ⟨rfl, List.mem_of_getElem? (i := 607) (by decide +kernel), List.mem_of_getElem? (i := 608) (by decide +kernel), List.mem_of_getElem? (i := 609) (by decide +kernel), Or.inl ⟨Nat.le_of_ble_eq_true rfl, rfl⟩⟩, by decide +kernel⟩))))
theorem kx_wc_0_13 : kx_okC "KiteWarLaw" 38 (3, 139, 2, 10) := Or.inr (Or.inr (Or.inr (Or.inr (Or.inr ⟨kx_m139, rfl, by decide +kernel, by decide +kernel, List.mem_of_getElem? (i := 85) (by decide +kernel), Or.inl ⟨rfl, List.mem_of_getElem? (i := 1318) (by decide +kernel), List.mem_of_getElem? (i := 1319) (by decide +kernel), List.mem_of_getElem? (i := 1320) (by decide +kernel), Or.inl ⟨Nat.le_of_ble_eq_true rfl, rfl⟩⟩, by decide +kernel⟩))))
theorem kx_wc_0_14 : kx_okC "KiteWarLaw" 39 (3, 16, 1, 9) := Or.inr (Or.inr (Or.inr (Or.inr (Or.inr ⟨kx_m16, rfl, by decide +kernel, by decide +kernel, List.mem_of_getElem? (i := 71) (by decide +kernel), Or.inl ⟨rfl, List.mem_of_getElem? (i := 619) (by decide +kernel), List.mem_of_getElem? (i := 620) (by decide +kernel), List.mem_of_getElem? (i := 621) (by decide +kernel), Or.inl ⟨Nat.le_of_ble_eq_true rfl, rfl⟩⟩, by decide +kernel⟩))))
theorem kx_wc_0_15 : kx_okC "KiteWarLaw" 43 (3, 140, 1, 10) := Or.inr (Or.inr (Or.inr (Or.inr (Or.inr ⟨kx_m140, rfl, by decide +kernel, by decide +kernel, List.mem_of_getElem? (i := 85) (by decide +kernel), Or.inl ⟨rfl, List.mem_of_getElem? (i := 1322) (by decide +kernel), List.mem_of_getElem? (i := 1323) (by decide +kernel), List.mem_of_getElem? (i := 1324) (by decide +kernel), Or.inl ⟨Nat.le_of_ble_eq_true rfl, rfl⟩⟩, by decide +kernel⟩))))
theorem kx_wc_0_16 : kx_okC "KiteWarLaw" 44 (3, 17, 2, 9) := Or.inr (Or.inr (Or.inr (Or.inr (Or.inr ⟨kx_m17, rfl, by decide +kernel, by decide +kernel, List.mem_of_getElem? (i := 71) (by decide +kernel), Or.inl ⟨rfl, List.mem_of_getElem? (i := 634) (by decide +kernel), List.mem_of_getElem? (i := 635) (by decide +kernel), List.mem_of_getElem? (i := 636) (by decide +kernel), Or.inl ⟨Nat.le_of_ble_eq_true rfl, rfl⟩⟩, by decide +kernel⟩))))
theorem kx_wc_0_17 : kx_okC "KiteWarLaw" 47 (3, 143, 2, 10) := Or.inr (Or.inr (Or.inr (Or.inr (Or.inr ⟨kx_m143, rfl, by decide +kernel, by decide +kernel, List.mem_of_getElem? (i := 85) (by decide +kernel), Or.inl ⟨rfl, List.mem_of_getElem? (i := 1334) (by decide +kernel), List.mem_of_getElem? (i := 1335) (by decide +kernel), List.mem_of_getElem? (i := 1336) (by decide +kernel), Or.inl ⟨Nat.le_of_ble_eq_true rfl, rfl⟩⟩, by decide +kernel⟩))))
theorem kx_wc_0_18 : kx_okC "KiteWarLaw" 48 (3, 18, 2, 9) := Or.inr (Or.inr (Or.inr (Or.inr (Or.inr ⟨kx_m18, rfl, by decide +kernel, by decide +kernel, List.mem_of_getElem? (i := 71) (by decide +kernel), Or.inl ⟨rfl, List.mem_of_getElem? (i := 642) (by decide +kernel), List.mem_of_getElem? (i := 643) (by decide +kernel), List.mem_of_getElem? (i := 644) (by decide +kernel), Or.inl ⟨Nat.le_of_ble_eq_true rfl, rfl⟩⟩, by decide +kernel⟩))))
theorem kx_wc_0_19 : kx_okC "KiteWarLaw" 51 (3, 144, 2, 10) := Or.inr (Or.inr (Or.inr (Or.inr (Or.inr ⟨kx_m144, rfl, by decide +kernel, by decide +kernel, List.mem_of_getElem? (i := 85) (by decide +kernel), Or.inl ⟨rfl, List.mem_of_getElem? (i := 1338) (by decide +kernel), List.mem_of_getElem? (i := 1339) (by decide +kernel), List.mem_of_getElem? (i := 1340) (by decide +kernel), Or.inl ⟨Nat.le_of_ble_eq_true rfl, rfl⟩⟩, by decide +kernel⟩))))
theorem kx_wc_0_20 : kx_okC "KiteWarLaw" 52 (3, 20, 3, 9) := Or.inr (Or.inr (Or.inr (Or.inr (Or.inr ⟨kx_m20, rfl, by decide +kernel, by decide +kernel, List.mem_of_getElem? (i := 71) (by decide +kernel), Or.inl ⟨rfl, List.mem_of_getElem? (i := 650) (by decide +kernel), List.mem_of_getElem? (i := 651) (by decide +kernel), List.mem_of_getElem? (i := 652) (by decide +kernel), Or.inl ⟨Nat.le_of_ble_eq_true rfl, rfl⟩⟩, by decide +kernel⟩))))
theorem kx_wc_0_21 : kx_okC "KiteWarLaw" 55 (3, 147, 3, 10) := Or.inr (Or.inr (Or.inr (Or.inr (Or.inr ⟨kx_m147, rfl, by decide +kernel, by decide +kernel, List.mem_of_getElem? (i := 85) (by decide +kernel), Or.inl ⟨rfl, List.mem_of_getElem? (i := 1350) (by decide +kernel), List.mem_of_getElem? (i := 1351) (by decide +kernel), List.mem_of_getElem? (i := 1352) (by decide +kernel), Or.inl ⟨Nat.le_of_ble_eq_true rfl, rfl⟩⟩, by decide +kernel⟩))))
theorem kx_wc_0_22 : kx_okC "KiteWarLaw" 56 (3, 23, 1, 9) := Or.inr (Or.inr (Or.inr (Or.inr (Or.inr ⟨kx_m23, rfl, by decide +kernel, by decide +kernel, List.mem_of_getElem? (i := 71) (by decide +kernel), Or.inl ⟨rfl, List.mem_of_getElem? (i := 665) (by decide +kernel), List.mem_of_getElem? (i := 666) (by decide +kernel), List.mem_of_getElem? (i := 667) (by decide +kernel), Or.inl ⟨Nat.le_of_ble_eq_true rfl, rfl⟩⟩, by decide +kernel⟩))))
theorem kx_wc_0_23 : kx_okC "KiteWarLaw" 60 (3, 149, 1, 10) := Or.inr (Or.inr (Or.inr (Or.inr (Or.inr ⟨kx_m149, rfl, by decide +kernel, by decide +kernel, List.mem_of_getElem? (i := 85) (by decide +kernel), Or.inl ⟨rfl, List.mem_of_getElem? (i := 1358) (by decide +kernel), List.mem_of_getElem? (i := 1359) (by decide +kernel), List.mem_of_getElem? (i := 1360) (by decide +kernel), Or.inl ⟨Nat.le_of_ble_eq_true rfl, rfl⟩⟩, by decide +kernel⟩))))
theorem kx_wc_0_24 : kx_okC "KiteWarLaw" 61 (3, 25, 2, 9) := Or.inr (Or.inr (Or.inr (Or.inr (Or.inr ⟨kx_m25, rfl, by decide +kernel, by decide +kernel, List.mem_of_getElem? (i := 71) (by decide +kernel), Or.inl ⟨rfl, List.mem_of_getElem? (i := 677) (by decide +kernel), List.mem_of_getElem? (i := 678) (by decide +kernel), List.mem_of_getElem? (i := 679) (by decide +kernel), Or.inl ⟨Nat.le_of_ble_eq_true rfl, rfl⟩⟩, by decide +kernel⟩))))
theorem kx_wc_0_25 : kx_okC "KiteWarLaw" 64 (3, 150, 2, 10) := Or.inr (Or.inr (Or.inr (Or.inr (Or.inr ⟨kx_m150, rfl, by decide +kernel, by decide +kernel, List.mem_of_getElem? (i := 85) (by decide +kernel), Or.inl ⟨rfl, List.mem_of_getElem? (i := 1362) (by decide +kernel), List.mem_of_getElem? (i := 1363) (by decide +kernel), List.mem_of_getElem? (i := 1364) (by decide +kernel), Or.inl ⟨Nat.le_of_ble_eq_true rfl, rfl⟩⟩, by decide +kernel⟩))))
theorem kx_wc_0_26 : kx_okC "KiteWarLaw" 65 (3, 26, 1, 9) := Or.inr (Or.inr (Or.inr (Or.inr (Or.inr ⟨kx_m26, rfl, by decide +kernel, by decide +kernel, List.mem_of_getElem? (i := 71) (by decide +kernel), Or.inl ⟨rfl, List.mem_of_getElem? (i := 681) (by decide +kernel), List.mem_of_getElem? (i := 682) (by decide +kernel), List.mem_of_getElem? (i := 683) (by decide +kernel), Or.inl ⟨Nat.le_of_ble_eq_true rfl, rfl⟩⟩, by decide +kernel⟩))))
theorem kx_wc_0_27 : kx_okC "KiteWarLaw" 68 (3, 151, 1, 10) := Or.inr (Or.inr (Or.inr (Or.inr (Or.inr ⟨kx_m151, rfl, by decide +kernel, by decide +kernel, List.mem_of_getElem? (i := 85) (by decide +kernel), Or.inl ⟨rfl, List.mem_of_getElem? (i := 1366) (by decide +kernel), List.mem_of_getElem? (i := 1367) (by decide +kernel), List.mem_of_getElem? (i := 1368) (by decide +kernel), Or.inl ⟨Nat.le_of_ble_eq_true rfl, rfl⟩⟩, by decide +kernel⟩))))
theorem kx_wc_0_28 : kx_okC "KiteWarLaw" 69 (3, 28, 0, 9) := Or.inr (Or.inr (Or.inr (Or.inr (Or.inr ⟨kx_m28, rfl, by decide +kernel, by decide +kernel, List.mem_of_getElem? (i := 71) (by decide +kernel), Or.inl ⟨rfl, List.mem_of_getElem? (i := 757) (by decide +kernel), List.mem_of_getElem? (i := 758) (by decide +kernel), List.mem_of_getElem? (i := 759) (by decide +kernel), Or.inl ⟨Nat.le_of_ble_eq_true rfl, rfl⟩⟩, by decide +kernel⟩))))
theorem kx_wc_0_29 : kx_okC "KiteWarLaw" 73 (3, 163, 0, 10) := Or.inr (Or.inr (Or.inr (Or.inr (Or.inr ⟨kx_m163, rfl, by decide +kernel, by decide +kernel, List.mem_of_getElem? (i := 85) (by decide +kernel), Or.inl ⟨rfl, List.mem_of_getElem? (i := 1413) (by decide +kernel), List.mem_of_getElem? (i := 1414) (by decide +kernel), List.mem_of_getElem? (i := 1415) (by decide +kernel), Or.inl ⟨Nat.le_of_ble_eq_true rfl, rfl⟩⟩, by decide +kernel⟩))))
theorem kx_wc_0_30 : kx_okC "KiteWarLaw" 74 (3, 29, 0, 9) := Or.inr (Or.inr (Or.inr (Or.inr (Or.inr ⟨kx_m29, rfl, by decide +kernel, by decide +kernel, List.mem_of_getElem? (i := 71) (by decide +kernel), Or.inl ⟨rfl, List.mem_of_getElem? (i := 767) (by decide +kernel), List.mem_of_getElem? (i := 768) (by decide +kernel), List.mem_of_getElem? (i := 769) (by decide +kernel), Or.inl ⟨Nat.le_of_ble_eq_true rfl, rfl⟩⟩, by decide +kernel⟩))))
theorem kx_wc_0_31 : kx_okC "KiteWarLaw" 77 (3, 165, 0, 10) := Or.inr (Or.inr (Or.inr (Or.inr (Or.inr ⟨kx_m165, rfl, by decide +kernel, by decide +kernel, List.mem_of_getElem? (i := 85) (by decide +kernel), Or.inl ⟨rfl, List.mem_of_getElem? (i := 1421) (by decide +kernel), List.mem_of_getElem? (i := 1422) (by decide +kernel), List.mem_of_getElem? (i := 1423) (by decide +kernel), Or.inl ⟨Nat.le_of_ble_eq_true rfl, rfl⟩⟩, by decide +kernel⟩))))
theorem kx_wc_0_32 : kx_okC "KiteWarLaw" 78 (3, 30, 2, 9) := Or.inr (Or.inr (Or.inr (Or.inr (Or.inr ⟨kx_m30, rfl, by decide +kernel, by decide +kernel, List.mem_of_getElem? (i := 71) (by decide +kernel), Or.inl ⟨rfl, List.mem_of_getElem? (i := 783) (by decide +kernel), List.mem_of_getElem? (i := 784) (by decide +kernel), List.mem_of_getElem? (i := 785) (by decide +kernel), Or.inl ⟨Nat.le_of_ble_eq_true rfl, rfl⟩⟩, by decide +kernel⟩))))
theorem kx_wc_0_33 : kx_okC "KiteWarLaw" 81 (3, 166, 2, 10) := Or.inr (Or.inr (Or.inr (Or.inr (Or.inr ⟨kx_m166, rfl, by decide +kernel, by decide +kernel, List.mem_of_getElem? (i := 85) (by decide +kernel), Or.inl ⟨rfl, List.mem_of_getElem? (i := 1425) (by decide +kernel), List.mem_of_getElem? (i := 1426) (by decide +kernel), List.mem_of_getElem? (i := 1427) (by decide +kernel), Or.inl ⟨Nat.le_of_ble_eq_true rfl, rfl⟩⟩, by decide +kernel⟩))))
theorem kx_wc_0_34 : kx_okC "KiteWarLaw" 82 (3, 31, 1, 9) := Or.inr (Or.inr (Or.inr (Or.inr (Or.inr ⟨kx_m31, rfl, by decide +kernel, by decide +kernel, List.mem_of_getElem? (i := 71) (by decide +kernel), Or.inl ⟨rfl, List.mem_of_getElem? (i := 787) (by decide +kernel), List.mem_of_getElem? (i := 788) (by decide +kernel), List.mem_of_getElem? (i := 789) (by decide +kernel), Or.inl ⟨Nat.le_of_ble_eq_true rfl, rfl⟩⟩, by decide +kernel⟩))))
theorem kx_wc_0_35 : kx_okC "KiteWarLaw" 85 (3, 167, 1, 10) := Or.inr (Or.inr (Or.inr (Or.inr (Or.inr ⟨kx_m167, rfl, by decide +kernel, by decide +kernel, List.mem_of_getElem? (i := 85) (by decide +kernel), Or.inl ⟨rfl, List.mem_of_getElem? (i := 1429) (by decide +kernel), List.mem_of_getElem? (i := 1430) (by decide +kernel), List.mem_of_getElem? (i := 1431) (by decide +kernel), Or.inl ⟨Nat.le_of_ble_eq_true rfl, rfl⟩⟩, by decide +kernel⟩))))
theorem kx_wc_0_36 : kx_okC "KiteWarLaw" 86 (3, 34, 2, 9) := Or.inr (Or.inr (Or.inr (Or.inr (Or.inr ⟨kx_m34, rfl, by decide +kernel, by decide +kernel, List.mem_of_getElem? (i := 71) (by decide +kernel), Or.inl ⟨rfl, List.mem_of_getElem? (i := 800) (by decide +kernel), List.mem_of_getElem? (i := 801) (by decide +kernel), List.mem_of_getElem? (i := 802) (by decide +kernel), Or.inl ⟨Nat.le_of_ble_eq_true rfl, rfl⟩⟩, by decide +kernel⟩))))
theorem kx_wc_0_37 : kx_okC "KiteWarLaw" 89 (3, 170, 2, 10) := Or.inr (Or.inr (Or.inr (Or.inr (Or.inr ⟨kx_m170, rfl, by decide +kernel, by decide +kernel, List.mem_of_getElem? (i := 85) (by decide +kernel), Or.inl ⟨rfl, List.mem_of_getElem? (i := 1441) (by decide +kernel), List.mem_of_getElem? (i := 1442) (by decide +kernel), List.mem_of_getElem? (i := 1443) (by decide +kernel), Or.inl ⟨Nat.le_of_ble_eq_true rfl, rfl⟩⟩, by decide +kernel⟩))))
theorem kx_wc_0_38 : kx_okC "KiteWarLaw" 90 (3, 35, 1, 9) := Or.inr (Or.inr (Or.inr (Or.inr (Or.inr ⟨kx_m35, rfl, by decide +kernel, by decide +kernel, List.mem_of_getElem? (i := 71) (by decide +kernel), Or.inl ⟨rfl, List.mem_of_getElem? (i := 804) (by decide +kernel), List.mem_of_getElem? (i := 805) (by decide +kernel), List.mem_of_getElem? (i := 806) (by decide +kernel), Or.inl ⟨Nat.le_of_ble_eq_true rfl, rfl⟩⟩, by decide +kernel⟩))))
theorem kx_wc_0_39 : kx_okC "KiteWarLaw" 93 (3, 171, 1, 10) := Or.inr (Or.inr (Or.inr (Or.inr (Or.inr ⟨kx_m171, rfl, by decide +kernel, by decide +kernel, List.mem_of_getElem? (i := 85) (by decide +kernel), Or.inl ⟨rfl, List.mem_of_getElem? (i := 1445) (by decide +kernel), List.mem_of_getElem? (i := 1446) (by decide +kernel), List.mem_of_getElem? (i := 1447) (by decide +kernel), Or.inl ⟨Nat.le_of_ble_eq_true rfl, rfl⟩⟩, by decide +kernel⟩))))
theorem kx_wc_0_40 : kx_okC "KiteWarLaw" 94 (3, 36, 0, 9) := Or.inr (Or.inr (Or.inr (Or.inr (Or.inr ⟨kx_m36, rfl, by decide +kernel, by decide +kernel, List.mem_of_getElem? (i := 71) (by decide +kernel), Or.inl ⟨rfl, List.mem_of_getElem? (i := 906) (by decide +kernel), List.mem_of_getElem? (i := 907) (by decide +kernel), List.mem_of_getElem? (i := 908) (by decide +kernel), Or.inl ⟨Nat.le_of_ble_eq_true rfl, rfl⟩⟩, by decide +kernel⟩))))
theorem kx_wc_0_41 : kx_okC "KiteWarLaw" 97 (3, 172, 0, 10) := Or.inr (Or.inr (Or.inr (Or.inr (Or.inr ⟨kx_m172, rfl, by decide +kernel, by decide +kernel, List.mem_of_getElem? (i := 85) (by decide +kernel), Or.inl ⟨rfl, List.mem_of_getElem? (i := 1449) (by decide +kernel), List.mem_of_getElem? (i := 1450) (by decide +kernel), List.mem_of_getElem? (i := 1451) (by decide +kernel), Or.inl ⟨Nat.le_of_ble_eq_true rfl, rfl⟩⟩, by decide +kernel⟩))))
theorem kx_wc_0_42 : kx_okC "KiteWarLaw" 98 (3, 38, 1, 9) := Or.inr (Or.inr (Or.inr (Or.inr (Or.inr ⟨kx_m38, rfl, by decide +kernel, by decide +kernel, List.mem_of_getElem? (i := 71) (by decide +kernel), Or.inl ⟨rfl, List.mem_of_getElem? (i := 1008) (by decide +kernel), List.mem_of_getElem? (i := 1009) (by decide +kernel), List.mem_of_getElem? (i := 1010) (by decide +kernel), Or.inl ⟨Nat.le_of_ble_eq_true rfl, rfl⟩⟩, by decide +kernel⟩))))
theorem kx_wc_0_43 : kx_okC "KiteWarLaw" 101 (3, 181, 1, 10) := Or.inr (Or.inr (Or.inr (Or.inr (Or.inr ⟨kx_m181, rfl, by decide +kernel, by decide +kernel, List.mem_of_getElem? (i := 85) (by decide +kernel), Or.inl ⟨rfl, List.mem_of_getElem? (i := 1497) (by decide +kernel), List.mem_of_getElem? (i := 1498) (by decide +kernel), List.mem_of_getElem? (i := 1499) (by decide +kernel), Or.inl ⟨Nat.le_of_ble_eq_true rfl, rfl⟩⟩, by decide +kernel⟩))))
theorem kx_wc_0_44 : kx_okC "KiteWarLaw" 102 (3, 40, 1, 9) := Or.inr (Or.inr (Or.inr (Or.inr (Or.inr ⟨kx_m40, rfl, by decide +kernel, by decide +kernel, List.mem_of_getElem? (i := 71) (by decide +kernel), Or.inl ⟨rfl, List.mem_of_getElem? (i := 1059) (by decide +kernel), List.mem_of_getElem? (i := 1060) (by decide +kernel), List.mem_of_getElem? (i := 1061) (by decide +kernel), Or.inl ⟨Nat.le_of_ble_eq_true rfl, rfl⟩⟩, by decide +kernel⟩))))
theorem kx_wc_0_45 : kx_okC "KiteWarLaw" 105 (3, 186, 1, 10) := Or.inr (Or.inr (Or.inr (Or.inr (Or.inr ⟨kx_m186, rfl, by decide +kernel, by decide +kernel, List.mem_of_getElem? (i := 85) (by decide +kernel), Or.inl ⟨rfl, List.mem_of_getElem? (i := 1517) (by decide +kernel), List.mem_of_getElem? (i := 1518) (by decide +kernel), List.mem_of_getElem? (i := 1519) (by decide +kernel), Or.inl ⟨Nat.le_of_ble_eq_true rfl, rfl⟩⟩, by decide +kernel⟩))))
theorem kx_wc_0_46 : kx_okC "KiteWarLaw" 106 (3, 42, 1, 9) := Or.inr (Or.inr (Or.inr (Or.inr (Or.inr ⟨kx_m42, rfl, by decide +kernel, by decide +kernel, List.mem_of_getElem? (i := 71) (by decide +kernel), Or.inl ⟨rfl, List.mem_of_getElem? (i := 1102) (by decide +kernel), List.mem_of_getElem? (i := 1103) (by decide +kernel), List.mem_of_getElem? (i := 1104) (by decide +kernel), Or.inl ⟨Nat.le_of_ble_eq_true rfl, rfl⟩⟩, by decide +kernel⟩))))
theorem kx_wc_0_47 : kx_okC "KiteWarLaw" 109 (3, 188, 1, 10) := Or.inr (Or.inr (Or.inr (Or.inr (Or.inr ⟨kx_m188, rfl, by decide +kernel, by decide +kernel, List.mem_of_getElem? (i := 85) (by decide +kernel), Or.inl ⟨rfl, List.mem_of_getElem? (i := 1530) (by decide +kernel), List.mem_of_getElem? (i := 1531) (by decide +kernel), List.mem_of_getElem? (i := 1532) (by decide +kernel), Or.inl ⟨Nat.le_of_ble_eq_true rfl, rfl⟩⟩, by decide +kernel⟩))))
theorem kx_wc_0_48 : kx_okC "KiteWarLaw" 110 (3, 43, 1, 9) := Or.inr (Or.inr (Or.inr (Or.inr (Or.inr ⟨kx_m43, rfl, by decide +kernel, by decide +kernel, List.mem_of_getElem? (i := 71) (by decide +kernel), Or.inl ⟨rfl, List.mem_of_getElem? (i := 1107) (by decide +kernel), List.mem_of_getElem? (i := 1108) (by decide +kernel), List.mem_of_getElem? (i := 1109) (by decide +kernel), Or.inl ⟨Nat.le_of_ble_eq_true rfl, rfl⟩⟩, by decide +kernel⟩))))
theorem kx_wc_0_49 : kx_okC "KiteWarLaw" 113 (3, 189, 1, 10) := Or.inr (Or.inr (Or.inr (Or.inr (Or.inr ⟨kx_m189, rfl, by decide +kernel, by decide +kernel, List.mem_of_getElem? (i := 85) (by decide +kernel), Or.inl ⟨rfl, List.mem_of_getElem? (i := 1534) (by decide +kernel), List.mem_of_getElem? (i := 1535) (by decide +kernel), List.mem_of_getElem? (i := 1536) (by decide +kernel), Or.inl ⟨Nat.le_of_ble_eq_true rfl, rfl⟩⟩, by decide +kernel⟩))))
theorem kx_wc_0_50 : kx_okC "KiteWarLaw" 114 (3, 44, 1, 9) := Or.inr (Or.inr (Or.inr (Or.inr (Or.inr ⟨kx_m44, rfl, by decide +kernel, by decide +kernel, List.mem_of_getElem? (i := 71) (by decide +kernel), Or.inl ⟨rfl, List.mem_of_getElem? (i := 1111) (by decide +kernel), List.mem_of_getElem? (i := 1112) (by decide +kernel), List.mem_of_getElem? (i := 1113) (by decide +kernel), Or.inl ⟨Nat.le_of_ble_eq_true rfl, rfl⟩⟩, by decide +kernel⟩))))
theorem kx_wc_0_51 : kx_okC "KiteWarLaw" 117 (3, 190, 1, 10) := Or.inr (Or.inr (Or.inr (Or.inr (Or.inr ⟨kx_m190, rfl, by decide +kernel, by decide +kernel, List.mem_of_getElem? (i := 85) (by decide +kernel), Or.inl ⟨rfl, List.mem_of_getElem? (i := 1538) (by decide +kernel), List.mem_of_getElem? (i := 1539) (by decide +kernel), List.mem_of_getElem? (i := 1540) (by decide +kernel), Or.inl ⟨Nat.le_of_ble_eq_true rfl, rfl⟩⟩, by decide +kernel⟩))))
theorem kx_wc_0_52 : kx_okC "KiteWarLaw" 118 (3, 45, 0, 9) := Or.inr (Or.inr (Or.inr (Or.inr (Or.inr ⟨kx_m45, rfl, by decide +kernel, by decide +kernel, List.mem_of_getElem? (i := 71) (by decide +kernel), Or.inl ⟨rfl, List.mem_of_getElem? (i := 1119) (by decide +kernel), List.mem_of_getElem? (i := 1120) (by decide +kernel), List.mem_of_getElem? (i := 1121) (by decide +kernel), Or.inl ⟨Nat.le_of_ble_eq_true rfl, rfl⟩⟩, by decide +kernel⟩))))
theorem kx_wc_0_53 : kx_okC "KiteWarLaw" 121 (3, 192, 0, 10) := Or.inr (Or.inr (Or.inr (Or.inr (Or.inr ⟨kx_m192, rfl, by decide +kernel, by decide +kernel, List.mem_of_getElem? (i := 85) (by decide +kernel), Or.inl ⟨rfl, List.mem_of_getElem? (i := 1546) (by decide +kernel), List.mem_of_getElem? (i := 1547) (by decide +kernel), List.mem_of_getElem? (i := 1548) (by decide +kernel), Or.inl ⟨Nat.le_of_ble_eq_true rfl, rfl⟩⟩, by decide +kernel⟩))))
theorem kx_wc_0_54 : kx_okC "KiteWarLaw" 122 (3, 47, 0, 9) := Or.inr (Or.inr (Or.inr (Or.inr (Or.inr ⟨kx_m47, rfl, by decide +kernel, by decide +kernel, List.mem_of_getElem? (i := 71) (by decide +kernel), Or.inl ⟨rfl, List.mem_of_getElem? (i := 1126) (by decide +kernel), List.mem_of_getElem? (i := 1127) (by decide +kernel), List.mem_of_getElem? (i := 1128) (by decide +kernel), Or.inl ⟨Nat.le_of_ble_eq_true rfl, rfl⟩⟩, by decide +kernel⟩))))
theorem kx_wc_0_55 : kx_okC "KiteWarLaw" 126 (3, 193, 0, 10) := Or.inr (Or.inr (Or.inr (Or.inr (Or.inr ⟨kx_m193, rfl, by decide +kernel, by decide +kernel, List.mem_of_getElem? (i := 85) (by decide +kernel), Or.inl ⟨rfl, List.mem_of_getElem? (i := 1550) (by decide +kernel), List.mem_of_getElem? (i := 1551) (by decide +kernel), List.mem_of_getElem? (i := 1552) (by decide +kernel), Or.inl ⟨Nat.le_of_ble_eq_true rfl, rfl⟩⟩, by decide +kernel⟩))))
theorem kx_wc_0_56 : kx_okC "KiteWarLaw" 127 (3, 48, 0, 9) := Or.inr (Or.inr (Or.inr (Or.inr (Or.inr ⟨kx_m48, rfl, by decide +kernel, by decide +kernel, List.mem_of_getElem? (i := 71) (by decide +kernel), Or.inl ⟨rfl, List.mem_of_getElem? (i := 1130) (by decide +kernel), List.mem_of_getElem? (i := 1131) (by decide +kernel), List.mem_of_getElem? (i := 1132) (by decide +kernel), Or.inl ⟨Nat.le_of_ble_eq_true rfl, rfl⟩⟩, by decide +kernel⟩))))
theorem kx_wc_0_57 : kx_okC "KiteWarLaw" 131 (3, 194, 0, 10) := Or.inr (Or.inr (Or.inr (Or.inr (Or.inr ⟨kx_m194, rfl, by decide +kernel, by decide +kernel, List.mem_of_getElem? (i := 85) (by decide +kernel), Or.inl ⟨rfl, List.mem_of_getElem? (i := 1554) (by decide +kernel), List.mem_of_getElem? (i := 1555) (by decide +kernel), List.mem_of_getElem? (i := 1556) (by decide +kernel), Or.inl ⟨Nat.le_of_ble_eq_true rfl, rfl⟩⟩, by decide +kernel⟩))))
theorem kx_wc_0_58 : kx_okC "KiteWarLaw" 132 (3, 49, 0, 9) := Or.inr (Or.inr (Or.inr (Or.inr (Or.inr ⟨kx_m49, rfl, by decide +kernel, by decide +kernel, List.mem_of_getElem? (i := 71) (by decide +kernel), Or.inl ⟨rfl, List.mem_of_getElem? (i := 1134) (by decide +kernel), List.mem_of_getElem? (i := 1135) (by decide +kernel), List.mem_of_getElem? (i := 1136) (by decide +kernel), Or.inl ⟨Nat.le_of_ble_eq_true rfl, rfl⟩⟩, by decide +kernel⟩))))
theorem kx_wc_0_59 : kx_okC "KiteWarLaw" 135 (3, 195, 0, 10) := Or.inr (Or.inr (Or.inr (Or.inr (Or.inr ⟨kx_m195, rfl, by decide +kernel, by decide +kernel, List.mem_of_getElem? (i := 85) (by decide +kernel), Or.inl ⟨rfl, List.mem_of_getElem? (i := 1558) (by decide +kernel), List.mem_of_getElem? (i := 1559) (by decide +kernel), List.mem_of_getElem? (i := 1560) (by decide +kernel), Or.inl ⟨Nat.le_of_ble_eq_true rfl, rfl⟩⟩, by decide +kernel⟩))))
theorem kx_wc_0_60 : kx_okC "KiteWarLaw" 136 (3, 50, 0, 9) := Or.inr (Or.inr (Or.inr (Or.inr (Or.inr ⟨kx_m50, rfl, by decide +kernel, by decide +kernel, List.mem_of_getElem? (i := 71) (by decide +kernel), Or.inl ⟨rfl, List.mem_of_getElem? (i := 1142) (by decide +kernel), List.mem_of_getElem? (i := 1143) (by decide +kernel), List.mem_of_getElem? (i := 1144) (by decide +kernel), Or.inl ⟨Nat.le_of_ble_eq_true rfl, rfl⟩⟩, by decide +kernel⟩))))
theorem kx_wc_0_61 : kx_okC "KiteWarLaw" 139 (3, 196, 0, 10) := Or.inr (Or.inr (Or.inr (Or.inr (Or.inr ⟨kx_m196, rfl, by decide +kernel, by decide +kernel, List.mem_of_getElem? (i := 85) (by decide +kernel), Or.inl ⟨rfl, List.mem_of_getElem? (i := 1562) (by decide +kernel), List.mem_of_getElem? (i := 1563) (by decide +kernel), List.mem_of_getElem? (i := 1564) (by decide +kernel), Or.inl ⟨Nat.le_of_ble_eq_true rfl, rfl⟩⟩, by decide +kernel⟩))))
theorem kx_wc_0_62 : kx_okC "KiteWarLaw" 140 (3, 51, 0, 9) := Or.inr (Or.inr (Or.inr (Or.inr (Or.inr ⟨kx_m51, rfl, by decide +kernel, by decide +kernel, List.mem_of_getElem? (i := 71) (by decide +kernel), Or.inl ⟨rfl, List.mem_of_getElem? (i := 1146) (by decide +kernel), List.mem_of_getElem? (i := 1147) (by decide +kernel), List.mem_of_getElem? (i := 1148) (by decide +kernel), Or.inl ⟨Nat.le_of_ble_eq_true rfl, rfl⟩⟩, by decide +kernel⟩))))
theorem kx_wc_0_63 : kx_okC "KiteWarLaw" 143 (3, 197, 0, 10) := Or.inr (Or.inr (Or.inr (Or.inr (Or.inr ⟨kx_m197, rfl, by decide +kernel, by decide +kernel, List.mem_of_getElem? (i := 85) (by decide +kernel), Or.inl ⟨rfl, List.mem_of_getElem? (i := 1566) (by decide +kernel), List.mem_of_getElem? (i := 1567) (by decide +kernel), List.mem_of_getElem? (i := 1568) (by decide +kernel), Or.inl ⟨Nat.le_of_ble_eq_true rfl, rfl⟩⟩, by decide +kernel⟩))))
theorem kx_wc_0 : ∀ q ∈ (kx_calT.getD 0 []), kx_okC "KiteWarLaw" q.1 q.2 := List.forall_mem_cons.mpr ⟨kx_wc_0_0, List.forall_mem_cons.mpr ⟨kx_wc_0_1, List.forall_mem_cons.mpr ⟨kx_wc_0_2, List.forall_mem_cons.mpr ⟨kx_wc_0_3, List.forall_mem_cons.mpr ⟨kx_wc_0_4, List.forall_mem_cons.mpr ⟨kx_wc_0_5, List.forall_mem_cons.mpr ⟨kx_wc_0_6, List.forall_mem_cons.mpr ⟨kx_wc_0_7, List.forall_mem_cons.mpr ⟨kx_wc_0_8, List.forall_mem_cons.mpr ⟨kx_wc_0_9, List.forall_mem_cons.mpr ⟨kx_wc_0_10, List.forall_mem_cons.mpr ⟨kx_wc_0_11, List.forall_mem_cons.mpr ⟨kx_wc_0_12, List.forall_mem_cons.mpr ⟨kx_wc_0_13, List.forall_mem_cons.mpr ⟨kx_wc_0_14, List.forall_mem_cons.mpr ⟨kx_wc_0_15, List.forall_mem_cons.mpr ⟨kx_wc_0_16, List.forall_mem_cons.mpr ⟨kx_wc_0_17, List.forall_mem_cons.mpr ⟨kx_wc_0_18, List.forall_mem_cons.mpr ⟨kx_wc_0_19, List.forall_mem_cons.mpr ⟨kx_wc_0_20, List.forall_mem_cons.mpr ⟨kx_wc_0_21, List.forall_mem_cons.mpr ⟨kx_wc_0_22, List.forall_mem_cons.mpr ⟨kx_wc_0_23, List.forall_mem_cons.mpr ⟨kx_wc_0_24, List.forall_mem_cons.mpr ⟨kx_wc_0_25, List.forall_mem_cons.mpr ⟨kx_wc_0_26, List.forall_mem_cons.mpr ⟨kx_wc_0_27, List.forall_mem_cons.mpr ⟨kx_wc_0_28, List.forall_mem_cons.mpr ⟨kx_wc_0_29, List.forall_mem_cons.mpr ⟨kx_wc_0_30, List.forall_mem_cons.mpr ⟨kx_wc_0_31, List.forall_mem_cons.mpr ⟨kx_wc_0_32, List.forall_mem_cons.mpr ⟨kx_wc_0_33, List.forall_mem_cons.mpr ⟨kx_wc_0_34, List.forall_mem_cons.mpr ⟨kx_wc_0_35, List.forall_mem_cons.mpr ⟨kx_wc_0_36, List.forall_mem_cons.mpr ⟨kx_wc_0_37, List.forall_mem_cons.mpr ⟨kx_wc_0_38, List.forall_mem_cons.mpr ⟨kx_wc_0_39, List.forall_mem_cons.mpr ⟨kx_wc_0_40, List.forall_mem_cons.mpr ⟨kx_wc_0_41, List.forall_mem_cons.mpr ⟨kx_wc_0_42, List.forall_mem_cons.mpr ⟨kx_wc_0_43, List.forall_mem_cons.mpr ⟨kx_wc_0_44, List.forall_mem_cons.mpr ⟨kx_wc_0_45, List.forall_mem_cons.mpr ⟨kx_wc_0_46, List.forall_mem_cons.mpr ⟨kx_wc_0_47, List.forall_mem_cons.mpr ⟨kx_wc_0_48, List.forall_mem_cons.mpr ⟨kx_wc_0_49, List.forall_mem_cons.mpr ⟨kx_wc_0_50, List.forall_mem_cons.mpr ⟨kx_wc_0_51, List.forall_mem_cons.mpr ⟨kx_wc_0_52, List.forall_mem_cons.mpr ⟨kx_wc_0_53, List.forall_mem_cons.mpr ⟨kx_wc_0_54, List.forall_mem_cons.mpr ⟨kx_wc_0_55, List.forall_mem_cons.mpr ⟨kx_wc_0_56, List.forall_mem_cons.mpr ⟨kx_wc_0_57, List.forall_mem_cons.mpr ⟨kx_wc_0_58, List.forall_mem_cons.mpr ⟨kx_wc_0_59, List.forall_mem_cons.mpr ⟨kx_wc_0_60, List.forall_mem_cons.mpr ⟨kx_wc_0_61, List.forall_mem_cons.mpr ⟨kx_wc_0_62, List.forall_mem_cons.mpr ⟨kx_wc_0_63, fun _ h => absurd h List.not_mem_nil⟩⟩⟩⟩⟩⟩⟩⟩⟩⟩⟩⟩⟩⟩⟩⟩⟩⟩⟩⟩⟩⟩⟩⟩⟩⟩⟩⟩⟩⟩⟩⟩⟩⟩⟩⟩⟩⟩⟩⟩⟩⟩⟩⟩⟩⟩⟩⟩⟩⟩⟩⟩⟩⟩⟩⟩⟩⟩⟩⟩⟩⟩⟩⟩
theorem kx_wc_1_0 : kx_okC "KiteWar" 1 (7, 0, 0, 0) := Or.inr (Or.inr (Or.inr (Or.inl ⟨rfl, List.mem_of_getElem? (i := 99) (by decide +kernel)⟩)))
theorem kx_wc_1_1 : kx_okC "KiteWar" 9 (5, 87, 0, 0) := Or.inr (Or.inr (Or.inr (Or.inr (Or.inr ⟨kx_m87, rfl, by decide +kernel, by decide +kernel, List.mem_of_getElem? (i := 72) (by decide +kernel), Or.inr (Or.inr (Or.inl ⟨rfl, List.mem_of_getElem? (i := 104) (by decide +kernel), List.mem_of_getElem? (i := 105) (by decide +kernel), rfl⟩)), by decide +kernel⟩))))
theorem kx_wc_1_2 : kx_okC "KiteWar" 28 (5, 60, 0, 0) := Or.inr (Or.inr (Or.inr (Or.inr (Or.inr ⟨kx_m60, rfl, by decide +kernel, by decide +kernel, List.mem_of_getElem? (i := 75) (by decide +kernel), Or.inr (Or.inr (Or.inl ⟨rfl, List.mem_of_getElem? (i := 293) (by decide +kernel), List.mem_of_getElem? (i := 294) (by decide +kernel), rfl⟩)), by decide +kernel⟩))))
theorem kx_wc_1_3 : kx_okC "KiteWar" 35 (5, 69, 0, 0) := Or.inr (Or.inr (Or.inr (Or.inr (Or.inr ⟨kx_m69, rfl, by decide +kernel, by decide +kernel, List.mem_of_getElem? (i := 76) (by decide +kernel), Or.inr (Or.inr (Or.inl ⟨rfl, List.mem_of_getElem? (i := 313) (by decide +kernel), List.mem_of_getElem? (i := 314) (by decide +kernel), rfl⟩)), by decide +kernel⟩))))
theorem kx_wc_1_4 : kx_okC "KiteWar" 42 (5, 103, 0, 0) := Or.inr (Or.inr (Or.inr (Or.inr (Or.inr ⟨kx_m103, rfl, by decide +kernel, by decide +kernel, List.mem_of_getElem? (i := 78) (by decide +kernel), Or.inr (Or.inr (Or.inl ⟨rfl, List.mem_of_getElem? (i := 351) (by decide +kernel), List.mem_of_getElem? (i := 352) (by decide +kernel), rfl⟩)), by decide +kernel⟩))))
theorem kx_wc_1_5 : kx_okC "KiteWar" 49 (5, 79, 0, 0) := Or.inr (Or.inr (Or.inr (Or.inr (Or.inr ⟨kx_m79, rfl, by decide +kernel, by decide +kernel, List.mem_of_getElem? (i := 79) (by decide +kernel), Or.inr (Or.inr (Or.inl ⟨rfl, List.mem_of_getElem? (i := 375) (by decide +kernel), List.mem_of_getElem? (i := 376) (by decide +kernel), rfl⟩)), by decide +kernel⟩))))
theorem kx_wc_1_6 : kx_okC "KiteWar" 56 (5, 218, 0, 0) := Or.inr (Or.inr (Or.inr (Or.inr (Or.inr ⟨kx_m218, rfl, by decide +kernel, by decide +kernel, List.mem_of_getElem? (i := 81) (by decide +kernel), Or.inr (Or.inr (Or.inl ⟨rfl, List.mem_of_getElem? (i := 453) (by decide +kernel), List.mem_of_getElem? (i := 382) (by decide +kernel), rfl⟩)), by decide +kernel⟩))))
theorem kx_wc_1_7 : kx_okC "KiteWar" 68 (4, 52, 1, 0) := Or.inr (Or.inr (Or.inr (Or.inr (Or.inr ⟨kx_m52, rfl, by decide +kernel, by decide +kernel, List.mem_of_getElem? (i := 86) (by decide +kernel), Or.inr (Or.inl ⟨rfl, List.mem_of_getElem? (i := 492) (by decide +kernel), List.mem_of_getElem? (i := 493) (by decide +kernel)⟩), by decide +kernel⟩))))
theorem kx_wc_1_8 : kx_okC "KiteWar" 74 (4, 3, 1, 0) := Or.inr (Or.inr (Or.inr (Or.inr (Or.inr ⟨kx_m3, rfl, by decide +kernel, by decide +kernel, List.mem_of_getElem? (i := 71) (by decide +kernel), Or.inr (Or.inl ⟨rfl, List.mem_of_getElem? (i := 495) (by decide +kernel), List.mem_of_getElem? (i := 496) (by decide +kernel)⟩), by decide +kernel⟩))))
theorem kx_wc_1_9 : kx_okC "KiteWar" 77 (4, 53, 3, 0) := Or.inr (Or.inr (Or.inr (Or.inr (Or.inr ⟨kx_m53, rfl, by decide +kernel, by decide +kernel, List.mem_of_getElem? (i := 86) (by decide +kernel), Or.inr (Or.inl ⟨rfl, List.mem_of_getElem? (i := 498) (by decide +kernel), List.mem_of_getElem? (i := 499) (by decide +kernel)⟩), by decide +kernel⟩))))
theorem kx_wc_1_10 : kx_okC "KiteWar" 81 (4, 54, 2, 0) := Or.inr (Or.inr (Or.inr (Or.inr (Or.inr ⟨kx_m54, rfl, by decide +kernel, by decide +kernel, List.mem_of_getElem? (i := 86) (by decide +kernel), Or.inr (Or.inl ⟨rfl, List.mem_of_getElem? (i := 515) (by decide +kernel), List.mem_of_getElem? (i := 516) (by decide +kernel)⟩), by decide +kernel⟩))))
theorem kx_wc_1_11 : kx_okC "KiteWar" 85 (4, 55, 2, 0) := Or.inr (Or.inr (Or.inr (Or.inr (Or.inr ⟨kx_m55, rfl, by decide +kernel, by decide +kernel, List.mem_of_getElem? (i := 86) (by decide +kernel), Or.inr (Or.inl ⟨rfl, List.mem_of_getElem? (i := 529) (by decide +kernel), List.mem_of_getElem? (i := 530) (by decide +kernel)⟩), by decide +kernel⟩))))
theorem kx_wc_1_12 : kx_okC "KiteWar" 88 (3, 88, 1, 6) := Or.inr (Or.inr (Or.inr (Or.inr (Or.inr ⟨kx_m88, rfl, by decide +kernel, by decide +kernel, List.mem_of_getElem? (i := 72) (by decide +kernel), Or.inl ⟨rfl, List.mem_of_getElem? (i := 540) (by decide +kernel), List.mem_of_getElem? (i := 541) (by decide +kernel), List.mem_of_getElem? (i := 542) (by decide +kernel), Or.inl ⟨Nat.le_of_ble_eq_true rfl, rfl⟩⟩, by decide +kernel⟩))))
theorem kx_wc_1_13 : kx_okC "KiteWar" 92 (3, 7, 3, 9) := Or.inr (Or.inr (Or.inr (Or.inr (Or.inr ⟨kx_m7, rfl, by decide +kernel, by decide +kernel, List.mem_of_getElem? (i := 71) (by decide +kernel), Or.inl ⟨rfl, List.mem_of_getElem? (i := 552) (by decide +kernel), List.mem_of_getElem? (i := 554) (by decide +kernel), List.mem_of_getElem? (i := 0) (by decide +kernel), Or.inl ⟨Nat.le_of_ble_eq_true rfl, rfl⟩⟩, by decide +kernel⟩))))
theorem kx_wc_1_14 : kx_okC "KiteWar" 95 (3, 10, 1, 9) := Or.inr (Or.inr (Or.inr (Or.inr (Or.inr ⟨kx_m10, rfl, by decide +kernel, by decide +kernel, List.mem_of_getElem? (i := 71) (by decide +kernel), Or.inl ⟨rfl, List.mem_of_getElem? (i := 575) (by decide +kernel), List.mem_of_getElem? (i := 577) (by decide +kernel), List.mem_of_getElem? (i := 2) (by decide +kernel), Or.inl ⟨Nat.le_of_ble_eq_true rfl, rfl⟩⟩, by decide +kernel⟩))))
theorem kx_wc_1_15 : kx_okC "KiteWar" 99 (3, 12, 2, 9) := Or.inr (Or.inr (Or.inr (Or.inr (Or.inr ⟨kx_m12, rfl, by decide +kernel, by decide +kernel, List.mem_of_getElem? (i := 71) (by decide +kernel), Or.inl ⟨rfl, List.mem_of_getElem? (i := 591) (by decide +kernel), List.mem_of_getElem? (i := 593) (by decide +kernel), List.mem_of_getElem? (i := 3) (by decide +kernel), Or.inl ⟨Nat.le_of_ble_eq_true rfl, rfl⟩⟩, by decide +kernel⟩))))
theorem kx_wc_1_16 : kx_okC "KiteWar" 102 (3, 15, 2, 9) := Or.inr (Or.inr (Or.inr (Or.inr (Or.inr ⟨kx_m15, rfl, by decide +kernel, by decide +kernel, List.mem_of_getElem? (i := 71) (by decide +kernel), Or.inl ⟨rfl, List.mem_of_getElem? (i := 611) (by decide +kernel), List.mem_of_getElem? (i := 613) (by decide +kernel), List.mem_of_getElem? (i := 5) (by decide +kernel), Or.inl ⟨Nat.le_of_ble_eq_true rfl, rfl⟩⟩, by decide +kernel⟩))))
theorem kx_wc_1_17 : kx_okC "KiteWar" 111 (3, 95, 1, 6) := Or.inr (Or.inr (Or.inr (Or.inr (Or.inr ⟨kx_m95, rfl, by decide +kernel, by decide +kernel, List.mem_of_getElem? (i := 72) (by decide +kernel), Or.inl ⟨rfl, List.mem_of_getElem? (i := 623) (by decide +kernel), List.mem_of_getElem? (i := 624) (by decide +kernel), List.mem_of_getElem? (i := 625) (by decide +kernel), Or.inl ⟨Nat.le_of_ble_eq_true rfl, rfl⟩⟩, by decide +kernel⟩))))
theorem kx_wc_1_18 : kx_okC "KiteWar" 114 (3, 96, 1, 6) := Or.inr (Or.inr (Or.inr (Or.inr (Or.inr ⟨kx_m96, rfl, by decide +kernel, by decide +kernel, List.mem_of_getElem? (i := 72) (by decide +kernel), Or.inl ⟨rfl, List.mem_of_getElem? (i := 630) (by decide +kernel), List.mem_of_getElem? (i := 631) (by decide +kernel), List.mem_of_getElem? (i := 632) (by decide +kernel), Or.inl ⟨Nat.le_of_ble_eq_true rfl, rfl⟩⟩, by decide +kernel⟩))))
theorem kx_wc_1_19 : kx_okC "KiteWar" 117 (3, 13, 1, 9) := Or.inr (Or.inr (Or.inr (Or.inr (Or.inr ⟨kx_m13, rfl, by decide +kernel, by decide +kernel, List.mem_of_getElem? (i := 71) (by decide +kernel), Or.inl ⟨rfl, List.mem_of_getElem? (i := 595) (by decide +kernel), List.mem_of_getElem? (i := 597) (by decide +kernel), List.mem_of_getElem? (i := 4) (by decide +kernel), Or.inl ⟨Nat.le_of_ble_eq_true rfl, rfl⟩⟩, by decide +kernel⟩))))
theorem kx_wc_1_20 : kx_okC "KiteWar" 135 (3, 92, 1, 6) := Or.inr (Or.inr (Or.inr (Or.inr (Or.inr ⟨kx_m92, rfl, by decide +kernel, by decide +kernel, List.mem_of_getElem? (i := 72) (by decide +kernel), Or.inl ⟨rfl, List.mem_of_getElem? (i := 599) (by decide +kernel), List.mem_of_getElem? (i := 600) (by decide +kernel), List.mem_of_getElem? (i := 601) (by decide +kernel), Or.inl ⟨Nat.le_of_ble_eq_true rfl, rfl⟩⟩, by decide +kernel⟩))))
theorem kx_wc_1_21 : kx_okC "KiteWar" 138 (3, 97, 1, 6) := Or.inr (Or.inr (Or.inr (Or.inr (Or.inr ⟨kx_m97, rfl, by decide +kernel, by decide +kernel, List.mem_of_getElem? (i := 72) (by decide +kernel), Or.inl ⟨rfl, List.mem_of_getElem? (i := 638) (by decide +kernel), List.mem_of_getElem? (i := 639) (by decide +kernel), List.mem_of_getElem? (i := 640) (by decide +kernel), Or.inl ⟨Nat.le_of_ble_eq_true rfl, rfl⟩⟩, by decide +kernel⟩))))
theorem kx_wc_1_22 : kx_okC "KiteWar" 144 (3, 19, 1, 9) := Or.inr (Or.inr (Or.inr (Or.inr (Or.inr ⟨kx_m19, rfl, by decide +kernel, by decide +kernel, List.mem_of_getElem? (i := 71) (by decide +kernel), Or.inl ⟨rfl, List.mem_of_getElem? (i := 646) (by decide +kernel), List.mem_of_getElem? (i := 648) (by decide +kernel), List.mem_of_getElem? (i := 6) (by decide +kernel), Or.inl ⟨Nat.le_of_ble_eq_true rfl, rfl⟩⟩, by decide +kernel⟩))))
theorem kx_wc_1_23 : kx_okC "KiteWar" 176 (3, 21, 3, 9) := Or.inr (Or.inr (Or.inr (Or.inr (Or.inr ⟨kx_m21, rfl, by decide +kernel, by decide +kernel, List.mem_of_getElem? (i := 71) (by decide +kernel), Or.inl ⟨rfl, List.mem_of_getElem? (i := 654) (by decide +kernel), List.mem_of_getElem? (i := 656) (by decide +kernel), List.mem_of_getElem? (i := 7) (by decide +kernel), Or.inl ⟨Nat.le_of_ble_eq_true rfl, rfl⟩⟩, by decide +kernel⟩))))
theorem kx_wc_1_24 : kx_okC "KiteWar" 179 (3, 24, 1, 9) := Or.inr (Or.inr (Or.inr (Or.inr (Or.inr ⟨kx_m24, rfl, by decide +kernel, by decide +kernel, List.mem_of_getElem? (i := 71) (by decide +kernel), Or.inl ⟨rfl, List.mem_of_getElem? (i := 669) (by decide +kernel), List.mem_of_getElem? (i := 671) (by decide +kernel), List.mem_of_getElem? (i := 8) (by decide +kernel), Or.inl ⟨Nat.le_of_ble_eq_true rfl, rfl⟩⟩, by decide +kernel⟩))))
theorem kx_wc_1_25 : kx_okC "KiteWar" 182 (4, 8, 1, 0) := Or.inr (Or.inr (Or.inr (Or.inr (Or.inr ⟨kx_m8, rfl, by decide +kernel, by decide +kernel, List.mem_of_getElem? (i := 71) (by decide +kernel), Or.inr (Or.inl ⟨rfl, List.mem_of_getElem? (i := 556) (by decide +kernel), List.mem_of_getElem? (i := 557) (by decide +kernel)⟩), by decide +kernel⟩))))
theorem kx_wc_1_26 : kx_okC "KiteWar" 185 (3, 9, 2, 9) := Or.inr (Or.inr (Or.inr (Or.inr (Or.inr ⟨kx_m9, rfl, by decide +kernel, by decide +kernel, List.mem_of_getElem? (i := 71) (by decide +kernel), Or.inl ⟨rfl, List.mem_of_getElem? (i := 563) (by decide +kernel), List.mem_of_getElem? (i := 565) (by decide +kernel), List.mem_of_getElem? (i := 1) (by decide +kernel), Or.inl ⟨Nat.le_of_ble_eq_true rfl, rfl⟩⟩, by decide +kernel⟩))))
theorem kx_wc_1_27 : kx_okC "KiteWar" 194 (3, 27, 1, 9) := Or.inr (Or.inr (Or.inr (Or.inr (Or.inr ⟨kx_m27, rfl, by decide +kernel, by decide +kernel, List.mem_of_getElem? (i := 71) (by decide +kernel), Or.inl ⟨rfl, List.mem_of_getElem? (i := 685) (by decide +kernel), List.mem_of_getElem? (i := 687) (by decide +kernel), List.mem_of_getElem? (i := 9) (by decide +kernel), Or.inl ⟨Nat.le_of_ble_eq_true rfl, rfl⟩⟩, by decide +kernel⟩))))
theorem kx_wc_1_28 : kx_okC "KiteWar" 197 (3, 73, 1, 3) := Or.inr (Or.inr (Or.inr (Or.inr (Or.inr ⟨kx_m73, rfl, by decide +kernel, by decide +kernel, List.mem_of_getElem? (i := 76) (by decide +kernel), Or.inl ⟨rfl, List.mem_of_getElem? (i := 761) (by decide +kernel), List.mem_of_getElem? (i := 762) (by decide +kernel), List.mem_of_getElem? (i := 763) (by decide +kernel), Or.inl ⟨Nat.le_of_ble_eq_true rfl, rfl⟩⟩, by decide +kernel⟩))))
theorem kx_wc_1_29 : kx_okC "KiteWar" 203 (3, 72, 3, 3) := Or.inr (Or.inr (Or.inr (Or.inr (Or.inr ⟨kx_m72, rfl, by decide +kernel, by decide +kernel, List.mem_of_getElem? (i := 76) (by decide +kernel), Or.inl ⟨rfl, List.mem_of_getElem? (i := 766) (by decide +kernel), List.mem_of_getElem? (i := 740) (by decide +kernel), List.mem_of_getElem? (i := 741) (by decide +kernel), Or.inl ⟨Nat.le_of_ble_eq_true rfl, rfl⟩⟩, by decide +kernel⟩))))
theorem kx_wc_1_30 : kx_okC "KiteWar" 207 (3, 74, 0, 3) := Or.inr (Or.inr (Or.inr (Or.inr (Or.inr ⟨kx_m74, rfl, by decide +kernel, by decide +kernel, List.mem_of_getElem? (i := 76) (by decide +kernel), Or.inl ⟨rfl, List.mem_of_getElem? (i := 771) (by decide +kernel), List.mem_of_getElem? (i := 772) (by decide +kernel), List.mem_of_getElem? (i := 773) (by decide +kernel), Or.inl ⟨Nat.le_of_ble_eq_true rfl, rfl⟩⟩, by decide +kernel⟩))))
theorem kx_wc_1_31 : kx_okC "KiteWar" 210 (3, 75, 2, 3) := Or.inr (Or.inr (Or.inr (Or.inr (Or.inr ⟨kx_m75, rfl, by decide +kernel, by decide +kernel, List.mem_of_getElem? (i := 76) (by decide +kernel), Or.inl ⟨rfl, List.mem_of_getElem? (i := 775) (by decide +kernel), List.mem_of_getElem? (i := 776) (by decide +kernel), List.mem_of_getElem? (i := 777) (by decide +kernel), Or.inl ⟨Nat.le_of_ble_eq_true rfl, rfl⟩⟩, by decide +kernel⟩))))
theorem kx_wc_1_32 : kx_okC "KiteWar" 214 (3, 70, 1, 3) := Or.inr (Or.inr (Or.inr (Or.inr (Or.inr ⟨kx_m70, rfl, by decide +kernel, by decide +kernel, List.mem_of_getElem? (i := 76) (by decide +kernel), Or.inl ⟨rfl, List.mem_of_getElem? (i := 791) (by decide +kernel), List.mem_of_getElem? (i := 732) (by decide +kernel), List.mem_of_getElem? (i := 733) (by decide +kernel), Or.inl ⟨Nat.le_of_ble_eq_true rfl, rfl⟩⟩, by decide +kernel⟩))))
theorem kx_wc_1_33 : kx_okC "KiteWar" 217 (4, 32, 2, 0) := Or.inr (Or.inr (Or.inr (Or.inr (Or.inr ⟨kx_m32, rfl, by decide +kernel, by decide +kernel, List.mem_of_getElem? (i := 71) (by decide +kernel), Or.inr (Or.inl ⟨rfl, List.mem_of_getElem? (i := 792) (by decide +kernel), List.mem_of_getElem? (i := 793) (by decide +kernel)⟩), by decide +kernel⟩))))
theorem kx_wc_1_34 : kx_okC "KiteWar" 221 (3, 33, 3, 9) := Or.inr (Or.inr (Or.inr (Or.inr (Or.inr ⟨kx_m33, rfl, by decide +kernel, by decide +kernel, List.mem_of_getElem? (i := 71) (by decide +kernel), Or.inl ⟨rfl, List.mem_of_getElem? (i := 795) (by decide +kernel), List.mem_of_getElem? (i := 797) (by decide +kernel), List.mem_of_getElem? (i := 18) (by decide +kernel), Or.inl ⟨Nat.le_of_ble_eq_true rfl, rfl⟩⟩, by decide +kernel⟩))))
theorem kx_wc_1_35 : kx_okC "KiteWar" 231 (3, 219, 0, 11) := Or.inr (Or.inr (Or.inr (Or.inr (Or.inr ⟨kx_m219, rfl, by decide +kernel, by decide +kernel, List.mem_of_getElem? (i := 81) (by decide +kernel), Or.inl ⟨rfl, List.mem_of_getElem? (i := 808) (by decide +kernel), List.mem_of_getElem? (i := 809) (by decide +kernel), List.mem_of_getElem? (i := 810) (by decide +kernel), Or.inl ⟨Nat.le_of_ble_eq_true rfl, rfl⟩⟩, by decide +kernel⟩))))
theorem kx_wc_1_36 : kx_okC "KiteWar" 234 (3, 220, 1, 11) := Or.inr (Or.inr (Or.inr (Or.inr (Or.inr ⟨kx_m220, rfl, by decide +kernel, by decide +kernel, List.mem_of_getElem? (i := 81) (by decide +kernel), Or.inl ⟨rfl, List.mem_of_getElem? (i := 815) (by decide +kernel), List.mem_of_getElem? (i := 816) (by decide +kernel), List.mem_of_getElem? (i := 817) (by decide +kernel), Or.inl ⟨Nat.le_of_ble_eq_true rfl, rfl⟩⟩, by decide +kernel⟩))))
theorem kx_wc_1_37 : kx_okC "KiteWar" 238 (3, 80, 0, 5) := Or.inr (Or.inr (Or.inr (Or.inr (Or.inr ⟨kx_m80, rfl, by decide +kernel, by decide +kernel, List.mem_of_getElem? (i := 79) (by decide +kernel), Or.inl ⟨rfl, List.mem_of_getElem? (i := 910) (by decide +kernel), List.mem_of_getElem? (i := 911) (by decide +kernel), List.mem_of_getElem? (i := 912) (by decide +kernel), Or.inl ⟨Nat.le_of_ble_eq_true rfl, rfl⟩⟩, by decide +kernel⟩))))
theorem kx_wc_1_38 : kx_okC "KiteWar" 241 (3, 222, 1, 11) := Or.inr (Or.inr (Or.inr (Or.inr (Or.inr ⟨kx_m222, rfl, by decide +kernel, by decide +kernel, List.mem_of_getElem? (i := 81) (by decide +kernel), Or.inl ⟨rfl, List.mem_of_getElem? (i := 984) (by decide +kernel), List.mem_of_getElem? (i := 985) (by decide +kernel), List.mem_of_getElem? (i := 986) (by decide +kernel), Or.inl ⟨Nat.le_of_ble_eq_true rfl, rfl⟩⟩, by decide +kernel⟩))))
theorem kx_wc_1_39 : kx_okC "KiteWar" 258 (3, 37, 1, 9) := Or.inr (Or.inr (Or.inr (Or.inr (Or.inr ⟨kx_m37, rfl, by decide +kernel, by decide +kernel, List.mem_of_getElem? (i := 71) (by decide +kernel), Or.inl ⟨rfl, List.mem_of_getElem? (i := 1004) (by decide +kernel), List.mem_of_getElem? (i := 1006) (by decide +kernel), List.mem_of_getElem? (i := 25) (by decide +kernel), Or.inl ⟨Nat.le_of_ble_eq_true rfl, rfl⟩⟩, by decide +kernel⟩))))
theorem kx_wc_1_40 : kx_okC "KiteWar" 266 (3, 39, 1, 9) := Or.inr (Or.inr (Or.inr (Or.inr (Or.inr ⟨kx_m39, rfl, by decide +kernel, by decide +kernel, List.mem_of_getElem? (i := 71) (by decide +kernel), Or.inl ⟨rfl, List.mem_of_getElem? (i := 1013) (by decide +kernel), List.mem_of_getElem? (i := 1015) (by decide +kernel), List.mem_of_getElem? (i := 26) (by decide +kernel), Or.inl ⟨Nat.le_of_ble_eq_true rfl, rfl⟩⟩, by decide +kernel⟩))))
theorem kx_wc_1_41 : kx_okC "KiteWar" 269 (3, 223, 1, 11) := Or.inr (Or.inr (Or.inr (Or.inr (Or.inr ⟨kx_m223, rfl, by decide +kernel, by decide +kernel, List.mem_of_getElem? (i := 81) (by decide +kernel), Or.inl ⟨rfl, List.mem_of_getElem? (i := 1021) (by decide +kernel), List.mem_of_getElem? (i := 1022) (by decide +kernel), List.mem_of_getElem? (i := 1023) (by decide +kernel), Or.inl ⟨Nat.le_of_ble_eq_true rfl, rfl⟩⟩, by decide +kernel⟩))))
theorem kx_wc_1_42 : kx_okC "KiteWar" 272 (3, 41, 1, 9) := Or.inr (Or.inr (Or.inr (Or.inr (Or.inr ⟨kx_m41, rfl, by decide +kernel, by decide +kernel, List.mem_of_getElem? (i := 71) (by decide +kernel), Or.inl ⟨rfl, List.mem_of_getElem? (i := 1063) (by decide +kernel), List.mem_of_getElem? (i := 1065) (by decide +kernel), List.mem_of_getElem? (i := 27) (by decide +kernel), Or.inl ⟨Nat.le_of_ble_eq_true rfl, rfl⟩⟩, by decide +kernel⟩))))
theorem kx_wc_1_43 : kx_okC "KiteWar" 278 (3, 224, 1, 11) := Or.inr (Or.inr (Or.inr (Or.inr (Or.inr ⟨kx_m224, rfl, by decide +kernel, by decide +kernel, List.mem_of_getElem? (i := 81) (by decide +kernel), Or.inl ⟨rfl, List.mem_of_getElem? (i := 1068) (by decide +kernel), List.mem_of_getElem? (i := 1069) (by decide +kernel), List.mem_of_getElem? (i := 1070) (by decide +kernel), Or.inl ⟨Nat.le_of_ble_eq_true rfl, rfl⟩⟩, by decide +kernel⟩))))
theorem kx_wc_1_44 : kx_okC "KiteWar" 281 (3, 221, 1, 11) := Or.inr (Or.inr (Or.inr (Or.inr (Or.inr ⟨kx_m221, rfl, by decide +kernel, by decide +kernel, List.mem_of_getElem? (i := 81) (by decide +kernel), Or.inl ⟨rfl, List.mem_of_getElem? (i := 1106) (by decide +kernel), List.mem_of_getElem? (i := 924) (by decide +kernel), List.mem_of_getElem? (i := 925) (by decide +kernel), Or.inl ⟨Nat.le_of_ble_eq_true rfl, rfl⟩⟩, by decide +kernel⟩))))
theorem kx_wc_1_45 : kx_okC "KiteWar" 285 (3, 100, 1, 6) := Or.inr (Or.inr (Or.inr (Or.inr (Or.inr ⟨kx_m100, rfl, by decide +kernel, by decide +kernel, List.mem_of_getElem? (i := 72) (by decide +kernel), Or.inl ⟨rfl, List.mem_of_getElem? (i := 1115) (by decide +kernel), List.mem_of_getElem? (i := 1116) (by decide +kernel), List.mem_of_getElem? (i := 1117) (by decide +kernel), Or.inl ⟨Nat.le_of_ble_eq_true rfl, rfl⟩⟩, by decide +kernel⟩))))
theorem kx_wc_1_46 : kx_okC "KiteWar" 288 (3, 98, 1, 6) := Or.inr (Or.inr (Or.inr (Or.inr (Or.inr ⟨kx_m98, rfl, by decide +kernel, by decide +kernel, List.mem_of_getElem? (i := 72) (by decide +kernel), Or.inl ⟨rfl, List.mem_of_getElem? (i := 661) (by decide +kernel), List.mem_of_getElem? (i := 662) (by decide +kernel), List.mem_of_getElem? (i := 663) (by decide +kernel), Or.inl ⟨Nat.le_of_ble_eq_true rfl, rfl⟩⟩, by decide +kernel⟩))))
theorem kx_wc_1_47 : kx_okC "KiteWar" 308 (4, 46, 1, 0) := Or.inr (Or.inr (Or.inr (Or.inr (Or.inr ⟨kx_m46, rfl, by decide +kernel, by decide +kernel, List.mem_of_getElem? (i := 71) (by decide +kernel), Or.inr (Or.inl ⟨rfl, List.mem_of_getElem? (i := 1123) (by decide +kernel), List.mem_of_getElem? (i := 1124) (by decide +kernel)⟩), by decide +kernel⟩))))
theorem kx_wc_1_48 : kx_okC "KiteWar" 312 (3, 62, 1, 1) := Or.inr (Or.inr (Or.inr (Or.inr (Or.inr ⟨kx_m62, rfl, by decide +kernel, by decide +kernel, List.mem_of_getElem? (i := 75) (by decide +kernel), Or.inl ⟨rfl, List.mem_of_getElem? (i := 1138) (by decide +kernel), List.mem_of_getElem? (i := 1139) (by decide +kernel), List.mem_of_getElem? (i := 1140) (by decide +kernel), Or.inl ⟨Nat.le_of_ble_eq_true rfl, rfl⟩⟩, by decide +kernel⟩))))
theorem kx_wc_1_49 : kx_okC "KiteWar" 315 (3, 63, 0, 1) := Or.inr (Or.inr (Or.inr (Or.inr (Or.inr ⟨kx_m63, rfl, by decide +kernel, by decide +kernel, List.mem_of_getElem? (i := 75) (by decide +kernel), Or.inl ⟨rfl, List.mem_of_getElem? (i := 1150) (by decide +kernel), List.mem_of_getElem? (i := 1151) (by decide +kernel), List.mem_of_getElem? (i := 1152) (by decide +kernel), Or.inl ⟨Nat.le_of_ble_eq_true rfl, rfl⟩⟩, by decide +kernel⟩))))
theorem kx_wc_1_50 : kx_okC "KiteWar" 318 (3, 61, 1, 1) := Or.inr (Or.inr (Or.inr (Or.inr (Or.inr ⟨kx_m61, rfl, by decide +kernel, by decide +kernel, List.mem_of_getElem? (i := 75) (by decide +kernel), Or.inl ⟨rfl, List.mem_of_getElem? (i := 579) (by decide +kernel), List.mem_of_getElem? (i := 580) (by decide +kernel), List.mem_of_getElem? (i := 581) (by decide +kernel), Or.inl ⟨Nat.le_of_ble_eq_true rfl, rfl⟩⟩, by decide +kernel⟩))))
theorem kx_wc_1_51 : kx_okC "KiteWar" 321 (3, 89, 1, 6) := Or.inr (Or.inr (Or.inr (Or.inr (Or.inr ⟨kx_m89, rfl, by decide +kernel, by decide +kernel, List.mem_of_getElem? (i := 72) (by decide +kernel), Or.inl ⟨rfl, List.mem_of_getElem? (i := 559) (by decide +kernel), List.mem_of_getElem? (i := 560) (by decide +kernel), List.mem_of_getElem? (i := 561) (by decide +kernel), Or.inl ⟨Nat.le_of_ble_eq_true rfl, rfl⟩⟩, by decide +kernel⟩))))
theorem kx_wc_1_52 : kx_okC "KiteWar" 324 (3, 90, 1, 6) := Or.inr (Or.inr (Or.inr (Or.inr (Or.inr ⟨kx_m90, rfl, by decide +kernel, by decide +kernel, List.mem_of_getElem? (i := 72) (by decide +kernel), Or.inl ⟨rfl, List.mem_of_getElem? (i := 567) (by decide +kernel), List.mem_of_getElem? (i := 568) (by decide +kernel), List.mem_of_getElem? (i := 569) (by decide +kernel), Or.inl ⟨Nat.le_of_ble_eq_true rfl, rfl⟩⟩, by decide +kernel⟩))))
theorem kx_wc_1_53 : kx_okC "KiteWar" 327 (3, 91, 3, 6) := Or.inr (Or.inr (Or.inr (Or.inr (Or.inr ⟨kx_m91, rfl, by decide +kernel, by decide +kernel, List.mem_of_getElem? (i := 72) (by decide +kernel), Or.inl ⟨rfl, List.mem_of_getElem? (i := 571) (by decide +kernel), List.mem_of_getElem? (i := 572) (by decide +kernel), List.mem_of_getElem? (i := 573) (by decide +kernel), Or.inl ⟨Nat.le_of_ble_eq_true rfl, rfl⟩⟩, by decide +kernel⟩))))
theorem kx_wc_1_54 : kx_okC "KiteWar" 330 (3, 93, 2, 6) := Or.inr (Or.inr (Or.inr (Or.inr (Or.inr ⟨kx_m93, rfl, by decide +kernel, by decide +kernel, List.mem_of_getElem? (i := 72) (by decide +kernel), Or.inl ⟨rfl, List.mem_of_getElem? (i := 603) (by decide +kernel), List.mem_of_getElem? (i := 604) (by decide +kernel), List.mem_of_getElem? (i := 605) (by decide +kernel), Or.inl ⟨Nat.le_of_ble_eq_true rfl, rfl⟩⟩, by decide +kernel⟩))))
theorem kx_wc_1_55 : kx_okC "KiteWar" 333 (3, 94, 2, 6) := Or.inr (Or.inr (Or.inr (Or.inr (Or.inr ⟨kx_m94, rfl, by decide +kernel, by decide +kernel, List.mem_of_getElem? (i := 72) (by decide +kernel), Or.inl ⟨rfl, List.mem_of_getElem? (i := 615) (by decide +kernel), List.mem_of_getElem? (i := 616) (by decide +kernel), List.mem_of_getElem? (i := 617) (by decide +kernel), Or.inl ⟨Nat.le_of_ble_eq_true rfl, rfl⟩⟩, by decide +kernel⟩))))
theorem kx_wc_1_56 : kx_okC "KiteWar" 336 (4, 22, 2, 0) := Or.inr (Or.inr (Or.inr (Or.inr (Or.inr ⟨kx_m22, rfl, by decide +kernel, by decide +kernel, List.mem_of_getElem? (i := 71) (by decide +kernel), Or.inr (Or.inl ⟨rfl, List.mem_of_getElem? (i := 658) (by decide +kernel), List.mem_of_getElem? (i := 659) (by decide +kernel)⟩), by decide +kernel⟩))))
theorem kx_wc_1_57 : kx_okC "KiteWar" 340 (3, 66, 0, 2) := Or.inr (Or.inr (Or.inr (Or.inr (Or.inr ⟨kx_m66, rfl, by decide +kernel, by decide +kernel, List.mem_of_getElem? (i := 74) (by decide +kernel), Or.inl ⟨rfl, List.mem_of_getElem? (i := 673) (by decide +kernel), List.mem_of_getElem? (i := 674) (by decide +kernel), List.mem_of_getElem? (i := 675) (by decide +kernel), Or.inl ⟨Nat.le_of_ble_eq_true rfl, rfl⟩⟩, by decide +kernel⟩))))
theorem kx_wc_1_58 : kx_okC "KiteWar" 343 (3, 104, 1, 8) := Or.inr (Or.inr (Or.inr (Or.inr (Or.inr ⟨kx_m104, rfl, by decide +kernel, by decide +kernel, List.mem_of_getElem? (i := 78) (by decide +kernel), Or.inl ⟨rfl, List.mem_of_getElem? (i := 689) (by decide +kernel), List.mem_of_getElem? (i := 690) (by decide +kernel), List.mem_of_getElem? (i := 691) (by decide +kernel), Or.inl ⟨Nat.le_of_ble_eq_true rfl, rfl⟩⟩, by decide +kernel⟩))))
theorem kx_wc_1_59 : kx_okC "KiteWar" 358 (3, 76, 2, 3) := Or.inr (Or.inr (Or.inr (Or.inr (Or.inr ⟨kx_m76, rfl, by decide +kernel, by decide +kernel, List.mem_of_getElem? (i := 76) (by decide +kernel), Or.inl ⟨rfl, List.mem_of_getElem? (i := 799) (by decide +kernel), List.mem_of_getElem? (i := 780) (by decide +kernel), List.mem_of_getElem? (i := 781) (by decide +kernel), Or.inl ⟨Nat.le_of_ble_eq_true rfl, rfl⟩⟩, by decide +kernel⟩))))
theorem kx_wc_1_60 : kx_okC "KiteWar" 361 (3, 99, 1, 6) := Or.inr (Or.inr (Or.inr (Or.inr (Or.inr ⟨kx_m99, rfl, by decide +kernel, by decide +kernel, List.mem_of_getElem? (i := 72) (by decide +kernel), Or.inl ⟨rfl, List.mem_of_getElem? (i := 1017) (by decide +kernel), List.mem_of_getElem? (i := 1018) (by decide +kernel), List.mem_of_getElem? (i := 1019) (by decide +kernel), Or.inl ⟨Nat.le_of_ble_eq_true rfl, rfl⟩⟩, by decide +kernel⟩))))
theorem kx_wc_1_61 : kx_okC "KiteWar" 364 (3, 77, 2, 3) := Or.inr (Or.inr (Or.inr (Or.inr (Or.inr ⟨kx_m77, rfl, by decide +kernel, by decide +kernel, List.mem_of_getElem? (i := 76) (by decide +kernel), Or.inl ⟨rfl, List.mem_of_getElem? (i := 1055) (by decide +kernel), List.mem_of_getElem? (i := 1056) (by decide +kernel), List.mem_of_getElem? (i := 1057) (by decide +kernel), Or.inl ⟨Nat.le_of_ble_eq_true rfl, rfl⟩⟩, by decide +kernel⟩))))
theorem kx_wc_1 : ∀ q ∈ (kx_calT.getD 1 []), kx_okC "KiteWar" q.1 q.2 := List.forall_mem_cons.mpr ⟨kx_wc_1_0, List.forall_mem_cons.mpr ⟨kx_wc_1_1, List.forall_mem_cons.mpr ⟨kx_wc_1_2, List.forall_mem_cons.mpr ⟨kx_wc_1_3, List.forall_mem_cons.mpr ⟨kx_wc_1_4, List.forall_mem_cons.mpr ⟨kx_wc_1_5, List.forall_mem_cons.mpr ⟨kx_wc_1_6, List.forall_mem_cons.mpr ⟨kx_wc_1_7, List.forall_mem_cons.mpr ⟨kx_wc_1_8, List.forall_mem_cons.mpr ⟨kx_wc_1_9, List.forall_mem_cons.mpr ⟨kx_wc_1_10, List.forall_mem_cons.mpr ⟨kx_wc_1_11, List.forall_mem_cons.mpr ⟨kx_wc_1_12, List.forall_mem_cons.mpr ⟨kx_wc_1_13, List.forall_mem_cons.mpr ⟨kx_wc_1_14, List.forall_mem_cons.mpr ⟨kx_wc_1_15, List.forall_mem_cons.mpr ⟨kx_wc_1_16, List.forall_mem_cons.mpr ⟨kx_wc_1_17, List.forall_mem_cons.mpr ⟨kx_wc_1_18, List.forall_mem_cons.mpr ⟨kx_wc_1_19, List.forall_mem_cons.mpr ⟨kx_wc_1_20, List.forall_mem_cons.mpr ⟨kx_wc_1_21, List.forall_mem_cons.mpr ⟨kx_wc_1_22, List.forall_mem_cons.mpr ⟨kx_wc_1_23, List.forall_mem_cons.mpr ⟨kx_wc_1_24, List.forall_mem_cons.mpr ⟨kx_wc_1_25, List.forall_mem_cons.mpr ⟨kx_wc_1_26, List.forall_mem_cons.mpr ⟨kx_wc_1_27, List.forall_mem_cons.mpr ⟨kx_wc_1_28, List.forall_mem_cons.mpr ⟨kx_wc_1_29, List.forall_mem_cons.mpr ⟨kx_wc_1_30, List.forall_mem_cons.mpr ⟨kx_wc_1_31, List.forall_mem_cons.mpr ⟨kx_wc_1_32, List.forall_mem_cons.mpr ⟨kx_wc_1_33, List.forall_mem_cons.mpr ⟨kx_wc_1_34, List.forall_mem_cons.mpr ⟨kx_wc_1_35, List.forall_mem_cons.mpr ⟨kx_wc_1_36, List.forall_mem_cons.mpr ⟨kx_wc_1_37, List.forall_mem_cons.mpr ⟨kx_wc_1_38, List.forall_mem_cons.mpr ⟨kx_wc_1_39, List.forall_mem_cons.mpr ⟨kx_wc_1_40, List.forall_mem_cons.mpr ⟨kx_wc_1_41, List.forall_mem_cons.mpr ⟨kx_wc_1_42, List.forall_mem_cons.mpr ⟨kx_wc_1_43, List.forall_mem_cons.mpr ⟨kx_wc_1_44, List.forall_mem_cons.mpr ⟨kx_wc_1_45, List.forall_mem_cons.mpr ⟨kx_wc_1_46, List.forall_mem_cons.mpr ⟨kx_wc_1_47, List.forall_mem_cons.mpr ⟨kx_wc_1_48, List.forall_mem_cons.mpr ⟨kx_wc_1_49, List.forall_mem_cons.mpr ⟨kx_wc_1_50, List.forall_mem_cons.mpr ⟨kx_wc_1_51, List.forall_mem_cons.mpr ⟨kx_wc_1_52, List.forall_mem_cons.mpr ⟨kx_wc_1_53, List.forall_mem_cons.mpr ⟨kx_wc_1_54, List.forall_mem_cons.mpr ⟨kx_wc_1_55, List.forall_mem_cons.mpr ⟨kx_wc_1_56, List.forall_mem_cons.mpr ⟨kx_wc_1_57, List.forall_mem_cons.mpr ⟨kx_wc_1_58, List.forall_mem_cons.mpr ⟨kx_wc_1_59, List.forall_mem_cons.mpr ⟨kx_wc_1_60, List.forall_mem_cons.mpr ⟨kx_wc_1_61, fun _ h => absurd h List.not_mem_nil⟩⟩⟩⟩⟩⟩⟩⟩⟩⟩⟩⟩⟩⟩⟩⟩⟩⟩⟩⟩⟩⟩⟩⟩⟩⟩⟩⟩⟩⟩⟩⟩⟩⟩⟩⟩⟩⟩⟩⟩⟩⟩⟩⟩⟩⟩⟩⟩⟩⟩⟩⟩⟩⟩⟩⟩⟩⟩⟩⟩⟩⟩
theorem kx_wc_2_0 : kx_okC "KiteWar$Field" 27 (4, 52, 1, 0) := Or.inr (Or.inr (Or.inr (Or.inr (Or.inr ⟨kx_m52, rfl, by decide +kernel, by decide +kernel, List.mem_of_getElem? (i := 86) (by decide +kernel), Or.inr (Or.inl ⟨rfl, List.mem_of_getElem? (i := 518) (by decide +kernel), List.mem_of_getElem? (i := 493) (by decide +kernel)⟩), by decide +kernel⟩))))
theorem kx_wc_2_1 : kx_okC "KiteWar$Field" 31 (22, 0, 0, 0) := Or.inr (Or.inr (Or.inl ⟨rfl, List.mem_of_getElem? (i := 519) (by decide +kernel)⟩))
theorem kx_wc_2_2 : kx_okC "KiteWar$Field" 37 (20, 0, 0, 0) := Or.inl ⟨rfl, List.mem_of_getElem? (i := 522) (by decide +kernel)⟩
theorem kx_wc_2_3 : kx_okC "KiteWar$Field" 41 (4, 56, 1, 0) := Or.inr (Or.inr (Or.inr (Or.inr (Or.inr ⟨kx_m56, rfl, by decide +kernel, by decide +kernel, List.mem_of_getElem? (i := 86) (by decide +kernel), Or.inr (Or.inl ⟨rfl, List.mem_of_getElem? (i := 532) (by decide +kernel), List.mem_of_getElem? (i := 533) (by decide +kernel)⟩), by decide +kernel⟩))))
theorem kx_wc_2_4 : kx_okC "KiteWar$Field" 45 (4, 53, 3, 0) := Or.inr (Or.inr (Or.inr (Or.inr (Or.inr ⟨kx_m53, rfl, by decide +kernel, by decide +kernel, List.mem_of_getElem? (i := 86) (by decide +kernel), Or.inr (Or.inl ⟨rfl, List.mem_of_getElem? (i := 535) (by decide +kernel), List.mem_of_getElem? (i := 499) (by decide +kernel)⟩), by decide +kernel⟩))))
theorem kx_wc_2 : ∀ q ∈ (kx_calT.getD 2 []), kx_okC "KiteWar$Field" q.1 q.2 := List.forall_mem_cons.mpr ⟨kx_wc_2_0, List.forall_mem_cons.mpr ⟨kx_wc_2_1, List.forall_mem_cons.mpr ⟨kx_wc_2_2, List.forall_mem_cons.mpr ⟨kx_wc_2_3, List.forall_mem_cons.mpr ⟨kx_wc_2_4, fun _ h => absurd h List.not_mem_nil⟩⟩⟩⟩⟩
theorem kx_wc_3_0 : kx_okC "KiteWar$Flight" 3 (7, 0, 0, 0) := Or.inr (Or.inr (Or.inr (Or.inl ⟨rfl, List.mem_of_getElem? (i := 322) (by decide +kernel)⟩)))
theorem kx_wc_3_1 : kx_okC "KiteWar$Flight" 22 (3, 59, 1, 0) := Or.inr (Or.inr (Or.inr (Or.inr (Or.inr ⟨kx_m59, rfl, by decide +kernel, by decide +kernel, List.mem_of_getElem? (i := 77) (by decide +kernel), Or.inl ⟨rfl, List.mem_of_getElem? (i := 703) (by decide +kernel), List.mem_of_getElem? (i := 705) (by decide +kernel), List.mem_of_getElem? (i := 11) (by decide +kernel), Or.inl ⟨Nat.le_of_ble_eq_true rfl, rfl⟩⟩, by decide +kernel⟩))))
theorem kx_wc_3_2 : kx_okC "KiteWar$Flight" 32 (4, 53, 3, 0) := Or.inr (Or.inr (Or.inr (Or.inr (Or.inr ⟨kx_m53, rfl, by decide +kernel, by decide +kernel, List.mem_of_getElem? (i := 86) (by decide +kernel), Or.inr (Or.inl ⟨rfl, List.mem_of_getElem? (i := 707) (by decide +kernel), List.mem_of_getElem? (i := 499) (by decide +kernel)⟩), by decide +kernel⟩))))
theorem kx_wc_3 : ∀ q ∈ (kx_calT.getD 3 []), kx_okC "KiteWar$Flight" q.1 q.2 := List.forall_mem_cons.mpr ⟨kx_wc_3_0, List.forall_mem_cons.mpr ⟨kx_wc_3_1, List.forall_mem_cons.mpr ⟨kx_wc_3_2, fun _ h => absurd h List.not_mem_nil⟩⟩⟩
theorem kx_wc_4_0 : kx_okC "KiteWar$History" 3 (7, 0, 0, 0) := Or.inr (Or.inr (Or.inr (Or.inl ⟨rfl, List.mem_of_getElem? (i := 296) (by decide +kernel)⟩)))
theorem kx_wc_4_1 : kx_okC "KiteWar$History" 17 (5, 87, 0, 0) := Or.inr (Or.inr (Or.inr (Or.inr (Or.inr ⟨kx_m87, rfl, by decide +kernel, by decide +kernel, List.mem_of_getElem? (i := 72) (by decide +kernel), Or.inr (Or.inr (Or.inl ⟨rfl, List.mem_of_getElem? (i := 299) (by decide +kernel), List.mem_of_getElem? (i := 105) (by decide +kernel), rfl⟩)), by decide +kernel⟩))))
theorem kx_wc_4_2 : kx_okC "KiteWar$History" 22 (3, 88, 1, 6) := Or.inr (Or.inr (Or.inr (Or.inr (Or.inr ⟨kx_m88, rfl, by decide +kernel, by decide +kernel, List.mem_of_getElem? (i := 72) (by decide +kernel), Or.inl ⟨rfl, List.mem_of_getElem? (i := 583) (by decide +kernel), List.mem_of_getElem? (i := 541) (by decide +kernel), List.mem_of_getElem? (i := 542) (by decide +kernel), Or.inl ⟨Nat.le_of_ble_eq_true rfl, rfl⟩⟩, by decide +kernel⟩))))
theorem kx_wc_4_3 : kx_okC "KiteWar$History" 29 (21, 0, 0, 0) := Or.inr (Or.inl ⟨rfl, List.mem_of_getElem? (i := 584) (by decide +kernel)⟩)
theorem kx_wc_4 : ∀ q ∈ (kx_calT.getD 4 []), kx_okC "KiteWar$History" q.1 q.2 := List.forall_mem_cons.mpr ⟨kx_wc_4_0, List.forall_mem_cons.mpr ⟨kx_wc_4_1, List.forall_mem_cons.mpr ⟨kx_wc_4_2, List.forall_mem_cons.mpr ⟨kx_wc_4_3, fun _ h => absurd h List.not_mem_nil⟩⟩⟩⟩
theorem kx_wc_5_0 : kx_okC "KiteWar$Kite" 3 (7, 0, 0, 0) := Or.inr (Or.inr (Or.inr (Or.inl ⟨rfl, List.mem_of_getElem? (i := 143) (by decide +kernel)⟩)))
theorem kx_wc_5_1 : kx_okC "KiteWar$Kite" 51 (4, 53, 3, 0) := Or.inr (Or.inr (Or.inr (Or.inr (Or.inr ⟨kx_m53, rfl, by decide +kernel, by decide +kernel, List.mem_of_getElem? (i := 86) (by decide +kernel), Or.inr (Or.inl ⟨rfl, List.mem_of_getElem? (i := 712) (by decide +kernel), List.mem_of_getElem? (i := 499) (by decide +kernel)⟩), by decide +kernel⟩))))
theorem kx_wc_5 : ∀ q ∈ (kx_calT.getD 5 []), kx_okC "KiteWar$Kite" q.1 q.2 := List.forall_mem_cons.mpr ⟨kx_wc_5_0, List.forall_mem_cons.mpr ⟨kx_wc_5_1, fun _ h => absurd h List.not_mem_nil⟩⟩
theorem kx_wc_6_0 : kx_okC "KiteWar$Lines" 3 (7, 0, 0, 0) := Or.inr (Or.inr (Or.inr (Or.inl ⟨rfl, List.mem_of_getElem? (i := 316) (by decide +kernel)⟩)))
theorem kx_wc_6_1 : kx_okC "KiteWar$Lines" 17 (6, 57, 0, 0) := Or.inr (Or.inr (Or.inr (Or.inr (Or.inr ⟨kx_m57, rfl, by decide +kernel, by decide +kernel, List.mem_of_getElem? (i := 77) (by decide +kernel), Or.inr (Or.inr (Or.inr (Or.inl ⟨rfl, ⟨kx_nst[2], List.mem_of_getElem? (i := 2) (by decide +kernel), rfl, rfl, rfl⟩, List.mem_of_getElem? (i := 320) (by decide +kernel), rfl⟩))), by decide +kernel⟩))))
theorem kx_wc_6_2 : kx_okC "KiteWar$Lines" 47 (4, 71, 3, 0) := Or.inr (Or.inr (Or.inr (Or.inr (Or.inr ⟨kx_m71, rfl, by decide +kernel, by decide +kernel, List.mem_of_getElem? (i := 76) (by decide +kernel), Or.inr (Or.inl ⟨rfl, List.mem_of_getElem? (i := 735) (by decide +kernel), List.mem_of_getElem? (i := 736) (by decide +kernel)⟩), by decide +kernel⟩))))
theorem kx_wc_6_3 : kx_okC "KiteWar$Lines" 51 (3, 58, 1, 0) := Or.inr (Or.inr (Or.inr (Or.inr (Or.inr ⟨kx_m58, rfl, by decide +kernel, by decide +kernel, List.mem_of_getElem? (i := 77) (by decide +kernel), Or.inl ⟨rfl, List.mem_of_getElem? (i := 765) (by decide +kernel), List.mem_of_getElem? (i := 700) (by decide +kernel), List.mem_of_getElem? (i := 701) (by decide +kernel), Or.inl ⟨Nat.le_of_ble_eq_true rfl, rfl⟩⟩, by decide +kernel⟩))))
theorem kx_wc_6_4 : kx_okC "KiteWar$Lines" 57 (4, 53, 3, 0) := Or.inr (Or.inr (Or.inr (Or.inr (Or.inr ⟨kx_m53, rfl, by decide +kernel, by decide +kernel, List.mem_of_getElem? (i := 86) (by decide +kernel), Or.inr (Or.inl ⟨rfl, List.mem_of_getElem? (i := 738) (by decide +kernel), List.mem_of_getElem? (i := 499) (by decide +kernel)⟩), by decide +kernel⟩))))
theorem kx_wc_6_5 : kx_okC "KiteWar$Lines" 63 (3, 76, 2, 3) := Or.inr (Or.inr (Or.inr (Or.inr (Or.inr ⟨kx_m76, rfl, by decide +kernel, by decide +kernel, List.mem_of_getElem? (i := 76) (by decide +kernel), Or.inl ⟨rfl, List.mem_of_getElem? (i := 779) (by decide +kernel), List.mem_of_getElem? (i := 780) (by decide +kernel), List.mem_of_getElem? (i := 781) (by decide +kernel), Or.inl ⟨Nat.le_of_ble_eq_true rfl, rfl⟩⟩, by decide +kernel⟩))))
theorem kx_wc_6 : ∀ q ∈ (kx_calT.getD 6 []), kx_okC "KiteWar$Lines" q.1 q.2 := List.forall_mem_cons.mpr ⟨kx_wc_6_0, List.forall_mem_cons.mpr ⟨kx_wc_6_1, List.forall_mem_cons.mpr ⟨kx_wc_6_2, List.forall_mem_cons.mpr ⟨kx_wc_6_3, List.forall_mem_cons.mpr ⟨kx_wc_6_4, List.forall_mem_cons.mpr ⟨kx_wc_6_5, fun _ h => absurd h List.not_mem_nil⟩⟩⟩⟩⟩⟩
theorem kx_wc_7_0 : kx_okC "KiteWar$Order" 1 (7, 0, 0, 0) := Or.inr (Or.inr (Or.inr (Or.inl ⟨rfl, List.mem_of_getElem? (i := 417) (by decide +kernel)⟩)))
theorem kx_wc_7 : ∀ q ∈ (kx_calT.getD 7 []), kx_okC "KiteWar$Order" q.1 q.2 := List.forall_mem_cons.mpr ⟨kx_wc_7_0, fun _ h => absurd h List.not_mem_nil⟩
theorem kx_wc_8_0 : kx_okC "KiteWar$Orders" 3 (7, 0, 0, 0) := Or.inr (Or.inr (Or.inr (Or.inl ⟨rfl, List.mem_of_getElem? (i := 378) (by decide +kernel)⟩)))
theorem kx_wc_8_1 : kx_okC "KiteWar$Orders" 11 (5, 218, 0, 0) := Or.inr (Or.inr (Or.inr (Or.inr (Or.inr ⟨kx_m218, rfl, by decide +kernel, by decide +kernel, List.mem_of_getElem? (i := 81) (by decide +kernel), Or.inr (Or.inr (Or.inl ⟨rfl, List.mem_of_getElem? (i := 381) (by decide +kernel), List.mem_of_getElem? (i := 382) (by decide +kernel), rfl⟩)), by decide +kernel⟩))))
theorem kx_wc_8_2 : kx_okC "KiteWar$Orders" 24 (6, 78, 0, 0) := Or.inr (Or.inr (Or.inr (Or.inr (Or.inr ⟨kx_m78, rfl, by decide +kernel, by decide +kernel, List.mem_of_getElem? (i := 84) (by decide +kernel), Or.inr (Or.inr (Or.inr (Or.inl ⟨rfl, ⟨kx_nst[4], List.mem_of_getElem? (i := 4) (by decide +kernel), rfl, rfl, rfl⟩, List.mem_of_getElem? (i := 415) (by decide +kernel), rfl⟩))), by decide +kernel⟩))))
theorem kx_wc_8_3 : kx_okC "KiteWar$Orders" 36 (3, 81, 1, 5) := Or.inr (Or.inr (Or.inr (Or.inr (Or.inr ⟨kx_m81, rfl, by decide +kernel, by decide +kernel, List.mem_of_getElem? (i := 79) (by decide +kernel), Or.inl ⟨rfl, List.mem_of_getElem? (i := 914) (by decide +kernel), List.mem_of_getElem? (i := 916) (by decide +kernel), List.mem_of_getElem? (i := 19) (by decide +kernel), Or.inl ⟨Nat.le_of_ble_eq_true rfl, rfl⟩⟩, by decide +kernel⟩))))
theorem kx_wc_8_4 : kx_okC "KiteWar$Orders" 40 (3, 219, 0, 11) := Or.inr (Or.inr (Or.inr (Or.inr (Or.inr ⟨kx_m219, rfl, by decide +kernel, by decide +kernel, List.mem_of_getElem? (i := 81) (by decide +kernel), Or.inl ⟨rfl, List.mem_of_getElem? (i := 922) (by decide +kernel), List.mem_of_getElem? (i := 809) (by decide +kernel), List.mem_of_getElem? (i := 810) (by decide +kernel), Or.inl ⟨Nat.le_of_ble_eq_true rfl, rfl⟩⟩, by decide +kernel⟩))))
theorem kx_wc_8_5 : kx_okC "KiteWar$Orders" 44 (3, 84, 1, 5) := Or.inr (Or.inr (Or.inr (Or.inr (Or.inr ⟨kx_m84, rfl, by decide +kernel, by decide +kernel, List.mem_of_getElem? (i := 79) (by decide +kernel), Or.inl ⟨rfl, List.mem_of_getElem? (i := 965) (by decide +kernel), List.mem_of_getElem? (i := 967) (by decide +kernel), List.mem_of_getElem? (i := 22) (by decide +kernel), Or.inl ⟨Nat.le_of_ble_eq_true rfl, rfl⟩⟩, by decide +kernel⟩))))
theorem kx_wc_8_6 : kx_okC "KiteWar$Orders" 48 (3, 82, 0, 5) := Or.inr (Or.inr (Or.inr (Or.inr (Or.inr ⟨kx_m82, rfl, by decide +kernel, by decide +kernel, List.mem_of_getElem? (i := 79) (by decide +kernel), Or.inl ⟨rfl, List.mem_of_getElem? (i := 918) (by decide +kernel), List.mem_of_getElem? (i := 920) (by decide +kernel), List.mem_of_getElem? (i := 20) (by decide +kernel), Or.inl ⟨Nat.le_of_ble_eq_true rfl, rfl⟩⟩, by decide +kernel⟩))))
theorem kx_wc_8_7 : kx_okC "KiteWar$Orders" 56 (3, 83, 1, 5) := Or.inr (Or.inr (Or.inr (Or.inr (Or.inr ⟨kx_m83, rfl, by decide +kernel, by decide +kernel, List.mem_of_getElem? (i := 79) (by decide +kernel), Or.inl ⟨rfl, List.mem_of_getElem? (i := 936) (by decide +kernel), List.mem_of_getElem? (i := 938) (by decide +kernel), List.mem_of_getElem? (i := 21) (by decide +kernel), Or.inl ⟨Nat.le_of_ble_eq_true rfl, rfl⟩⟩, by decide +kernel⟩))))
theorem kx_wc_8_8 : kx_okC "KiteWar$Orders" 60 (3, 85, 0, 5) := Or.inr (Or.inr (Or.inr (Or.inr (Or.inr ⟨kx_m85, rfl, by decide +kernel, by decide +kernel, List.mem_of_getElem? (i := 79) (by decide +kernel), Or.inl ⟨rfl, List.mem_of_getElem? (i := 969) (by decide +kernel), List.mem_of_getElem? (i := 971) (by decide +kernel), List.mem_of_getElem? (i := 23) (by decide +kernel), Or.inl ⟨Nat.le_of_ble_eq_true rfl, rfl⟩⟩, by decide +kernel⟩))))
theorem kx_wc_8_9 : kx_okC "KiteWar$Orders" 71 (3, 86, 1, 5) := Or.inr (Or.inr (Or.inr (Or.inr (Or.inr ⟨kx_m86, rfl, by decide +kernel, by decide +kernel, List.mem_of_getElem? (i := 79) (by decide +kernel), Or.inl ⟨rfl, List.mem_of_getElem? (i := 974) (by decide +kernel), List.mem_of_getElem? (i := 976) (by decide +kernel), List.mem_of_getElem? (i := 24) (by decide +kernel), Or.inl ⟨Nat.le_of_ble_eq_true rfl, rfl⟩⟩, by decide +kernel⟩))))
theorem kx_wc_8_10 : kx_okC "KiteWar$Orders" 86 (3, 221, 1, 11) := Or.inr (Or.inr (Or.inr (Or.inr (Or.inr ⟨kx_m221, rfl, by decide +kernel, by decide +kernel, List.mem_of_getElem? (i := 81) (by decide +kernel), Or.inl ⟨rfl, List.mem_of_getElem? (i := 923) (by decide +kernel), List.mem_of_getElem? (i := 924) (by decide +kernel), List.mem_of_getElem? (i := 925) (by decide +kernel), Or.inl ⟨Nat.le_of_ble_eq_true rfl, rfl⟩⟩, by decide +kernel⟩))))
theorem kx_wc_8_11 : kx_okC "KiteWar$Orders" 90 (3, 213, 0, 12) := Or.inr (Or.inr (Or.inr (Or.inr (Or.inr ⟨kx_m213, rfl, by decide +kernel, by decide +kernel, List.mem_of_getElem? (i := 82) (by decide +kernel), Or.inl ⟨rfl, List.mem_of_getElem? (i := 940) (by decide +kernel), List.mem_of_getElem? (i := 941) (by decide +kernel), List.mem_of_getElem? (i := 942) (by decide +kernel), Or.inr ⟨rfl, rfl⟩⟩, by decide +kernel⟩))))
theorem kx_wc_8_12 : kx_okC "KiteWar$Orders" 93 (3, 215, 1, 12) := Or.inr (Or.inr (Or.inr (Or.inr (Or.inr ⟨kx_m215, rfl, by decide +kernel, by decide +kernel, List.mem_of_getElem? (i := 82) (by decide +kernel), Or.inl ⟨rfl, List.mem_of_getElem? (i := 949) (by decide +kernel), List.mem_of_getElem? (i := 950) (by decide +kernel), List.mem_of_getElem? (i := 951) (by decide +kernel), Or.inr ⟨rfl, rfl⟩⟩, by decide +kernel⟩))))
theorem kx_wc_8 : ∀ q ∈ (kx_calT.getD 8 []), kx_okC "KiteWar$Orders" q.1 q.2 := List.forall_mem_cons.mpr ⟨kx_wc_8_0, List.forall_mem_cons.mpr ⟨kx_wc_8_1, List.forall_mem_cons.mpr ⟨kx_wc_8_2, List.forall_mem_cons.mpr ⟨kx_wc_8_3, List.forall_mem_cons.mpr ⟨kx_wc_8_4, List.forall_mem_cons.mpr ⟨kx_wc_8_5, List.forall_mem_cons.mpr ⟨kx_wc_8_6, List.forall_mem_cons.mpr ⟨kx_wc_8_7, List.forall_mem_cons.mpr ⟨kx_wc_8_8, List.forall_mem_cons.mpr ⟨kx_wc_8_9, List.forall_mem_cons.mpr ⟨kx_wc_8_10, List.forall_mem_cons.mpr ⟨kx_wc_8_11, List.forall_mem_cons.mpr ⟨kx_wc_8_12, fun _ h => absurd h List.not_mem_nil⟩⟩⟩⟩⟩⟩⟩⟩⟩⟩⟩⟩⟩
theorem kx_wc_9_0 : kx_okC "KiteWar$State" 3 (7, 0, 0, 0) := Or.inr (Or.inr (Or.inr (Or.inl ⟨rfl, List.mem_of_getElem? (i := 107) (by decide +kernel)⟩)))
theorem kx_wc_9_1 : kx_okC "KiteWar$State" 17 (6, 101, 0, 0) := Or.inr (Or.inr (Or.inr (Or.inr (Or.inr ⟨kx_m101, rfl, by decide +kernel, by decide +kernel, List.mem_of_getElem? (i := 73) (by decide +kernel), Or.inr (Or.inr (Or.inr (Or.inl ⟨rfl, ⟨kx_nst[0], List.mem_of_getElem? (i := 0) (by decide +kernel), rfl, rfl, rfl⟩, List.mem_of_getElem? (i := 112) (by decide +kernel), rfl⟩))), by decide +kernel⟩))))
theorem kx_wc_9_2 : kx_okC "KiteWar$State" 24 (6, 64, 0, 0) := Or.inr (Or.inr (Or.inr (Or.inr (Or.inr ⟨kx_m64, rfl, by decide +kernel, by decide +kernel, List.mem_of_getElem? (i := 74) (by decide +kernel), Or.inr (Or.inr (Or.inr (Or.inl ⟨rfl, ⟨kx_nst[1], List.mem_of_getElem? (i := 1) (by decide +kernel), rfl, rfl, rfl⟩, List.mem_of_getElem? (i := 141) (by decide +kernel), rfl⟩))), by decide +kernel⟩))))
theorem kx_wc_9_3 : kx_okC "KiteWar$State" 42 (3, 102, 1, 7) := Or.inr (Or.inr (Or.inr (Or.inr (Or.inr ⟨kx_m102, rfl, by decide +kernel, by decide +kernel, List.mem_of_getElem? (i := 73) (by decide +kernel), Or.inl ⟨rfl, List.mem_of_getElem? (i := 544) (by decide +kernel), List.mem_of_getElem? (i := 545) (by decide +kernel), List.mem_of_getElem? (i := 546) (by decide +kernel), Or.inl ⟨Nat.le_of_ble_eq_true rfl, rfl⟩⟩, by decide +kernel⟩))))
theorem kx_wc_9_4 : kx_okC "KiteWar$State" 49 (3, 65, 1, 2) := Or.inr (Or.inr (Or.inr (Or.inr (Or.inr ⟨kx_m65, rfl, by decide +kernel, by decide +kernel, List.mem_of_getElem? (i := 74) (by decide +kernel), Or.inl ⟨rfl, List.mem_of_getElem? (i := 548) (by decide +kernel), List.mem_of_getElem? (i := 549) (by decide +kernel), List.mem_of_getElem? (i := 550) (by decide +kernel), Or.inl ⟨Nat.le_of_ble_eq_true rfl, rfl⟩⟩, by decide +kernel⟩))))
theorem kx_wc_9_5 : kx_okC "KiteWar$State" 91 (4, 230, 2, 0) := Or.inr (Or.inr (Or.inr (Or.inr (Or.inr ⟨kx_m230, rfl, by decide +kernel, by decide +kernel, List.mem_of_getElem? (i := 87) (by decide +kernel), Or.inr (Or.inl ⟨rfl, List.mem_of_getElem? (i := 627) (by decide +kernel), List.mem_of_getElem? (i := 628) (by decide +kernel)⟩), by decide +kernel⟩))))
theorem kx_wc_9 : ∀ q ∈ (kx_calT.getD 9 []), kx_okC "KiteWar$State" q.1 q.2 := List.forall_mem_cons.mpr ⟨kx_wc_9_0, List.forall_mem_cons.mpr ⟨kx_wc_9_1, List.forall_mem_cons.mpr ⟨kx_wc_9_2, List.forall_mem_cons.mpr ⟨kx_wc_9_3, List.forall_mem_cons.mpr ⟨kx_wc_9_4, List.forall_mem_cons.mpr ⟨kx_wc_9_5, fun _ h => absurd h List.not_mem_nil⟩⟩⟩⟩⟩⟩
theorem kx_wc_10_0 : kx_okC "KiteWar$Tower" 1 (7, 0, 0, 0) := Or.inr (Or.inr (Or.inr (Or.inl ⟨rfl, List.mem_of_getElem? (i := 114) (by decide +kernel)⟩)))
theorem kx_wc_10 : ∀ q ∈ (kx_calT.getD 10 []), kx_okC "KiteWar$Tower" q.1 q.2 := List.forall_mem_cons.mpr ⟨kx_wc_10_0, fun _ h => absurd h List.not_mem_nil⟩
theorem kx_wc_11_0 : kx_okC "KiteWar$Umpire" 3 (7, 0, 0, 0) := Or.inr (Or.inr (Or.inr (Or.inl ⟨rfl, List.mem_of_getElem? (i := 354) (by decide +kernel)⟩)))
theorem kx_wc_11_1 : kx_okC "KiteWar$Umpire" 11 (5, 69, 0, 0) := Or.inr (Or.inr (Or.inr (Or.inr (Or.inr ⟨kx_m69, rfl, by decide +kernel, by decide +kernel, List.mem_of_getElem? (i := 76) (by decide +kernel), Or.inr (Or.inr (Or.inl ⟨rfl, List.mem_of_getElem? (i := 356) (by decide +kernel), List.mem_of_getElem? (i := 314) (by decide +kernel), rfl⟩)), by decide +kernel⟩))))
theorem kx_wc_11_2 : kx_okC "KiteWar$Umpire" 20 (6, 57, 0, 0) := Or.inr (Or.inr (Or.inr (Or.inr (Or.inr ⟨kx_m57, rfl, by decide +kernel, by decide +kernel, List.mem_of_getElem? (i := 77) (by decide +kernel), Or.inr (Or.inr (Or.inr (Or.inl ⟨rfl, ⟨kx_nst[3], List.mem_of_getElem? (i := 3) (by decide +kernel), rfl, rfl, rfl⟩, List.mem_of_getElem? (i := 320) (by decide +kernel), rfl⟩))), by decide +kernel⟩))))
theorem kx_wc_11_3 : kx_okC "KiteWar$Umpire" 39 (3, 96, 1, 6) := Or.inr (Or.inr (Or.inr (Or.inr (Or.inr ⟨kx_m96, rfl, by decide +kernel, by decide +kernel, List.mem_of_getElem? (i := 72) (by decide +kernel), Or.inl ⟨rfl, List.mem_of_getElem? (i := 693) (by decide +kernel), List.mem_of_getElem? (i := 631) (by decide +kernel), List.mem_of_getElem? (i := 632) (by decide +kernel), Or.inl ⟨Nat.le_of_ble_eq_true rfl, rfl⟩⟩, by decide +kernel⟩))))
theorem kx_wc_11_4 : kx_okC "KiteWar$Umpire" 43 (3, 95, 1, 6) := Or.inr (Or.inr (Or.inr (Or.inr (Or.inr ⟨kx_m95, rfl, by decide +kernel, by decide +kernel, List.mem_of_getElem? (i := 72) (by decide +kernel), Or.inl ⟨rfl, List.mem_of_getElem? (i := 694) (by decide +kernel), List.mem_of_getElem? (i := 624) (by decide +kernel), List.mem_of_getElem? (i := 625) (by decide +kernel), Or.inl ⟨Nat.le_of_ble_eq_true rfl, rfl⟩⟩, by decide +kernel⟩))))
theorem kx_wc_11_5 : kx_okC "KiteWar$Umpire" 49 (3, 105, 1, 8) := Or.inr (Or.inr (Or.inr (Or.inr (Or.inr ⟨kx_m105, rfl, by decide +kernel, by decide +kernel, List.mem_of_getElem? (i := 78) (by decide +kernel), Or.inl ⟨rfl, List.mem_of_getElem? (i := 695) (by decide +kernel), List.mem_of_getElem? (i := 697) (by decide +kernel), List.mem_of_getElem? (i := 10) (by decide +kernel), Or.inl ⟨Nat.le_of_ble_eq_true rfl, rfl⟩⟩, by decide +kernel⟩))))
theorem kx_wc_11_6 : kx_okC "KiteWar$Umpire" 53 (3, 106, 3, 8) := Or.inr (Or.inr (Or.inr (Or.inr (Or.inr ⟨kx_m106, rfl, by decide +kernel, by decide +kernel, List.mem_of_getElem? (i := 78) (by decide +kernel), Or.inl ⟨rfl, List.mem_of_getElem? (i := 714) (by decide +kernel), List.mem_of_getElem? (i := 716) (by decide +kernel), List.mem_of_getElem? (i := 12) (by decide +kernel), Or.inl ⟨Nat.le_of_ble_eq_true rfl, rfl⟩⟩, by decide +kernel⟩))))
theorem kx_wc_11_7 : kx_okC "KiteWar$Umpire" 57 (3, 107, 1, 8) := Or.inr (Or.inr (Or.inr (Or.inr (Or.inr ⟨kx_m107, rfl, by decide +kernel, by decide +kernel, List.mem_of_getElem? (i := 78) (by decide +kernel), Or.inl ⟨rfl, List.mem_of_getElem? (i := 719) (by decide +kernel), List.mem_of_getElem? (i := 721) (by decide +kernel), List.mem_of_getElem? (i := 13) (by decide +kernel), Or.inl ⟨Nat.le_of_ble_eq_true rfl, rfl⟩⟩, by decide +kernel⟩))))
theorem kx_wc_11_8 : kx_okC "KiteWar$Umpire" 60 (3, 108, 1, 8) := Or.inr (Or.inr (Or.inr (Or.inr (Or.inr ⟨kx_m108, rfl, by decide +kernel, by decide +kernel, List.mem_of_getElem? (i := 78) (by decide +kernel), Or.inl ⟨rfl, List.mem_of_getElem? (i := 727) (by decide +kernel), List.mem_of_getElem? (i := 729) (by decide +kernel), List.mem_of_getElem? (i := 14) (by decide +kernel), Or.inl ⟨Nat.le_of_ble_eq_true rfl, rfl⟩⟩, by decide +kernel⟩))))
theorem kx_wc_11_9 : kx_okC "KiteWar$Umpire" 63 (3, 109, 1, 8) := Or.inr (Or.inr (Or.inr (Or.inr (Or.inr ⟨kx_m109, rfl, by decide +kernel, by decide +kernel, List.mem_of_getElem? (i := 78) (by decide +kernel), Or.inl ⟨rfl, List.mem_of_getElem? (i := 743) (by decide +kernel), List.mem_of_getElem? (i := 745) (by decide +kernel), List.mem_of_getElem? (i := 15) (by decide +kernel), Or.inl ⟨Nat.le_of_ble_eq_true rfl, rfl⟩⟩, by decide +kernel⟩))))
theorem kx_wc_11_10 : kx_okC "KiteWar$Umpire" 66 (3, 110, 3, 8) := Or.inr (Or.inr (Or.inr (Or.inr (Or.inr ⟨kx_m110, rfl, by decide +kernel, by decide +kernel, List.mem_of_getElem? (i := 78) (by decide +kernel), Or.inl ⟨rfl, List.mem_of_getElem? (i := 747) (by decide +kernel), List.mem_of_getElem? (i := 749) (by decide +kernel), List.mem_of_getElem? (i := 16) (by decide +kernel), Or.inl ⟨Nat.le_of_ble_eq_true rfl, rfl⟩⟩, by decide +kernel⟩))))
theorem kx_wc_11_11 : kx_okC "KiteWar$Umpire" 81 (3, 58, 1, 0) := Or.inr (Or.inr (Or.inr (Or.inr (Or.inr ⟨kx_m58, rfl, by decide +kernel, by decide +kernel, List.mem_of_getElem? (i := 77) (by decide +kernel), Or.inl ⟨rfl, List.mem_of_getElem? (i := 699) (by decide +kernel), List.mem_of_getElem? (i := 700) (by decide +kernel), List.mem_of_getElem? (i := 701) (by decide +kernel), Or.inl ⟨Nat.le_of_ble_eq_true rfl, rfl⟩⟩, by decide +kernel⟩))))
theorem kx_wc_11_12 : kx_okC "KiteWar$Umpire" 98 (3, 67, 2, 2) := Or.inr (Or.inr (Or.inr (Or.inr (Or.inr ⟨kx_m67, rfl, by decide +kernel, by decide +kernel, List.mem_of_getElem? (i := 74) (by decide +kernel), Or.inl ⟨rfl, List.mem_of_getElem? (i := 708) (by decide +kernel), List.mem_of_getElem? (i := 709) (by decide +kernel), List.mem_of_getElem? (i := 710) (by decide +kernel), Or.inl ⟨Nat.le_of_ble_eq_true rfl, rfl⟩⟩, by decide +kernel⟩))))
theorem kx_wc_11_13 : kx_okC "KiteWar$Umpire" 102 (3, 66, 0, 2) := Or.inr (Or.inr (Or.inr (Or.inr (Or.inr ⟨kx_m66, rfl, by decide +kernel, by decide +kernel, List.mem_of_getElem? (i := 74) (by decide +kernel), Or.inl ⟨rfl, List.mem_of_getElem? (i := 713) (by decide +kernel), List.mem_of_getElem? (i := 674) (by decide +kernel), List.mem_of_getElem? (i := 675) (by decide +kernel), Or.inl ⟨Nat.le_of_ble_eq_true rfl, rfl⟩⟩, by decide +kernel⟩))))
theorem kx_wc_11_14 : kx_okC "KiteWar$Umpire" 112 (20, 0, 0, 0) := Or.inl ⟨rfl, List.mem_of_getElem? (i := 718) (by decide +kernel)⟩
theorem kx_wc_11_15 : kx_okC "KiteWar$Umpire" 119 (3, 68, 0, 2) := Or.inr (Or.inr (Or.inr (Or.inr (Or.inr ⟨kx_m68, rfl, by decide +kernel, by decide +kernel, List.mem_of_getElem? (i := 74) (by decide +kernel), Or.inl ⟨rfl, List.mem_of_getElem? (i := 723) (by decide +kernel), List.mem_of_getElem? (i := 724) (by decide +kernel), List.mem_of_getElem? (i := 725) (by decide +kernel), Or.inl ⟨Nat.le_of_ble_eq_true rfl, rfl⟩⟩, by decide +kernel⟩))))
theorem kx_wc_11_16 : kx_okC "KiteWar$Umpire" 125 (3, 70, 1, 3) := Or.inr (Or.inr (Or.inr (Or.inr (Or.inr ⟨kx_m70, rfl, by decide +kernel, by decide +kernel, List.mem_of_getElem? (i := 76) (by decide +kernel), Or.inl ⟨rfl, List.mem_of_getElem? (i := 731) (by decide +kernel), List.mem_of_getElem? (i := 732) (by decide +kernel), List.mem_of_getElem? (i := 733) (by decide +kernel), Or.inl ⟨Nat.le_of_ble_eq_true rfl, rfl⟩⟩, by decide +kernel⟩))))
theorem kx_wc_11_17 : kx_okC "KiteWar$Umpire" 128 (3, 72, 3, 3) := Or.inr (Or.inr (Or.inr (Or.inr (Or.inr ⟨kx_m72, rfl, by decide +kernel, by decide +kernel, List.mem_of_getElem? (i := 76) (by decide +kernel), Or.inl ⟨rfl, List.mem_of_getElem? (i := 739) (by decide +kernel), List.mem_of_getElem? (i := 740) (by decide +kernel), List.mem_of_getElem? (i := 741) (by decide +kernel), Or.inl ⟨Nat.le_of_ble_eq_true rfl, rfl⟩⟩, by decide +kernel⟩))))
theorem kx_wc_11_18 : kx_okC "KiteWar$Umpire" 144 (4, 53, 3, 0) := Or.inr (Or.inr (Or.inr (Or.inr (Or.inr ⟨kx_m53, rfl, by decide +kernel, by decide +kernel, List.mem_of_getElem? (i := 86) (by decide +kernel), Or.inr (Or.inl ⟨rfl, List.mem_of_getElem? (i := 751) (by decide +kernel), List.mem_of_getElem? (i := 499) (by decide +kernel)⟩), by decide +kernel⟩))))
theorem kx_wc_11_19 : kx_okC "KiteWar$Umpire" 150 (3, 89, 1, 6) := Or.inr (Or.inr (Or.inr (Or.inr (Or.inr ⟨kx_m89, rfl, by decide +kernel, by decide +kernel, List.mem_of_getElem? (i := 72) (by decide +kernel), Or.inl ⟨rfl, List.mem_of_getElem? (i := 752) (by decide +kernel), List.mem_of_getElem? (i := 560) (by decide +kernel), List.mem_of_getElem? (i := 561) (by decide +kernel), Or.inl ⟨Nat.le_of_ble_eq_true rfl, rfl⟩⟩, by decide +kernel⟩))))
theorem kx_wc_11_20 : kx_okC "KiteWar$Umpire" 157 (3, 111, 3, 8) := Or.inr (Or.inr (Or.inr (Or.inr (Or.inr ⟨kx_m111, rfl, by decide +kernel, by decide +kernel, List.mem_of_getElem? (i := 78) (by decide +kernel), Or.inl ⟨rfl, List.mem_of_getElem? (i := 753) (by decide +kernel), List.mem_of_getElem? (i := 755) (by decide +kernel), List.mem_of_getElem? (i := 17) (by decide +kernel), Or.inl ⟨Nat.le_of_ble_eq_true rfl, rfl⟩⟩, by decide +kernel⟩))))
theorem kx_wc_11 : ∀ q ∈ (kx_calT.getD 11 []), kx_okC "KiteWar$Umpire" q.1 q.2 := List.forall_mem_cons.mpr ⟨kx_wc_11_0, List.forall_mem_cons.mpr ⟨kx_wc_11_1, List.forall_mem_cons.mpr ⟨kx_wc_11_2, List.forall_mem_cons.mpr ⟨kx_wc_11_3, List.forall_mem_cons.mpr ⟨kx_wc_11_4, List.forall_mem_cons.mpr ⟨kx_wc_11_5, List.forall_mem_cons.mpr ⟨kx_wc_11_6, List.forall_mem_cons.mpr ⟨kx_wc_11_7, List.forall_mem_cons.mpr ⟨kx_wc_11_8, List.forall_mem_cons.mpr ⟨kx_wc_11_9, List.forall_mem_cons.mpr ⟨kx_wc_11_10, List.forall_mem_cons.mpr ⟨kx_wc_11_11, List.forall_mem_cons.mpr ⟨kx_wc_11_12, List.forall_mem_cons.mpr ⟨kx_wc_11_13, List.forall_mem_cons.mpr ⟨kx_wc_11_14, List.forall_mem_cons.mpr ⟨kx_wc_11_15, List.forall_mem_cons.mpr ⟨kx_wc_11_16, List.forall_mem_cons.mpr ⟨kx_wc_11_17, List.forall_mem_cons.mpr ⟨kx_wc_11_18, List.forall_mem_cons.mpr ⟨kx_wc_11_19, List.forall_mem_cons.mpr ⟨kx_wc_11_20, fun _ h => absurd h List.not_mem_nil⟩⟩⟩⟩⟩⟩⟩⟩⟩⟩⟩⟩⟩⟩⟩⟩⟩⟩⟩⟩⟩
theorem kx_wc_12_0 : kx_okC "KiteWarModel" 1 (7, 0, 0, 0) := Or.inr (Or.inr (Or.inr (Or.inl ⟨rfl, List.mem_of_getElem? (i := 1159) (by decide +kernel)⟩)))
theorem kx_wc_12_1 : kx_okC "KiteWarModel" 61 (4, 132, 4, 0) := Or.inr (Or.inr (Or.inr (Or.inr (Or.inr ⟨kx_m132, rfl, by decide +kernel, by decide +kernel, List.mem_of_getElem? (i := 85) (by decide +kernel), Or.inr (Or.inl ⟨rfl, List.mem_of_getElem? (i := 1291) (by decide +kernel), List.mem_of_getElem? (i := 1292) (by decide +kernel)⟩), by decide +kernel⟩))))
theorem kx_wc_12_2 : kx_okC "KiteWarModel" 65 (4, 115, 3, 0) := Or.inr (Or.inr (Or.inr (Or.inr (Or.inr ⟨kx_m115, rfl, by decide +kernel, by decide +kernel, List.mem_of_getElem? (i := 85) (by decide +kernel), Or.inr (Or.inl ⟨rfl, List.mem_of_getElem? (i := 1232) (by decide +kernel), List.mem_of_getElem? (i := 1233) (by decide +kernel)⟩), by decide +kernel⟩))))
theorem kx_wc_12_3 : kx_okC "KiteWarModel" 69 (4, 119, 1, 0) := Or.inr (Or.inr (Or.inr (Or.inr (Or.inr ⟨kx_m119, rfl, by decide +kernel, by decide +kernel, List.mem_of_getElem? (i := 85) (by decide +kernel), Or.inr (Or.inl ⟨rfl, List.mem_of_getElem? (i := 1244) (by decide +kernel), List.mem_of_getElem? (i := 1245) (by decide +kernel)⟩), by decide +kernel⟩))))
theorem kx_wc_12_4 : kx_okC "KiteWarModel" 73 (4, 118, 1, 0) := Or.inr (Or.inr (Or.inr (Or.inr (Or.inr ⟨kx_m118, rfl, by decide +kernel, by decide +kernel, List.mem_of_getElem? (i := 85) (by decide +kernel), Or.inr (Or.inl ⟨rfl, List.mem_of_getElem? (i := 1241) (by decide +kernel), List.mem_of_getElem? (i := 1242) (by decide +kernel)⟩), by decide +kernel⟩))))
theorem kx_wc_12_5 : kx_okC "KiteWarModel" 76 (4, 117, 1, 0) := Or.inr (Or.inr (Or.inr (Or.inr (Or.inr ⟨kx_m117, rfl, by decide +kernel, by decide +kernel, List.mem_of_getElem? (i := 85) (by decide +kernel), Or.inr (Or.inl ⟨rfl, List.mem_of_getElem? (i := 1238) (by decide +kernel), List.mem_of_getElem? (i := 1239) (by decide +kernel)⟩), by decide +kernel⟩))))
theorem kx_wc_12_6 : kx_okC "KiteWarModel" 79 (4, 116, 2, 0) := Or.inr (Or.inr (Or.inr (Or.inr (Or.inr ⟨kx_m116, rfl, by decide +kernel, by decide +kernel, List.mem_of_getElem? (i := 85) (by decide +kernel), Or.inr (Or.inl ⟨rfl, List.mem_of_getElem? (i := 1235) (by decide +kernel), List.mem_of_getElem? (i := 1236) (by decide +kernel)⟩), by decide +kernel⟩))))
theorem kx_wc_12_7 : kx_okC "KiteWarModel" 83 (4, 114, 1, 0) := Or.inr (Or.inr (Or.inr (Or.inr (Or.inr ⟨kx_m114, rfl, by decide +kernel, by decide +kernel, List.mem_of_getElem? (i := 85) (by decide +kernel), Or.inr (Or.inl ⟨rfl, List.mem_of_getElem? (i := 1229) (by decide +kernel), List.mem_of_getElem? (i := 1230) (by decide +kernel)⟩), by decide +kernel⟩))))
theorem kx_wc_12_8 : kx_okC "KiteWarModel" 87 (4, 122, 1, 0) := Or.inr (Or.inr (Or.inr (Or.inr (Or.inr ⟨kx_m122, rfl, by decide +kernel, by decide +kernel, List.mem_of_getElem? (i := 85) (by decide +kernel), Or.inr (Or.inl ⟨rfl, List.mem_of_getElem? (i := 1254) (by decide +kernel), List.mem_of_getElem? (i := 1255) (by decide +kernel)⟩), by decide +kernel⟩))))
theorem kx_wc_12_9 : kx_okC "KiteWarModel" 90 (4, 123, 1, 0) := Or.inr (Or.inr (Or.inr (Or.inr (Or.inr ⟨kx_m123, rfl, by decide +kernel, by decide +kernel, List.mem_of_getElem? (i := 85) (by decide +kernel), Or.inr (Or.inl ⟨rfl, List.mem_of_getElem? (i := 1257) (by decide +kernel), List.mem_of_getElem? (i := 1258) (by decide +kernel)⟩), by decide +kernel⟩))))
theorem kx_wc_12_10 : kx_okC "KiteWarModel" 93 (4, 124, 2, 0) := Or.inr (Or.inr (Or.inr (Or.inr (Or.inr ⟨kx_m124, rfl, by decide +kernel, by decide +kernel, List.mem_of_getElem? (i := 85) (by decide +kernel), Or.inr (Or.inl ⟨rfl, List.mem_of_getElem? (i := 1260) (by decide +kernel), List.mem_of_getElem? (i := 1261) (by decide +kernel)⟩), by decide +kernel⟩))))
theorem kx_wc_12_11 : kx_okC "KiteWarModel" 96 (4, 121, 2, 0) := Or.inr (Or.inr (Or.inr (Or.inr (Or.inr ⟨kx_m121, rfl, by decide +kernel, by decide +kernel, List.mem_of_getElem? (i := 85) (by decide +kernel), Or.inr (Or.inl ⟨rfl, List.mem_of_getElem? (i := 1251) (by decide +kernel), List.mem_of_getElem? (i := 1252) (by decide +kernel)⟩), by decide +kernel⟩))))
theorem kx_wc_12_12 : kx_okC "KiteWarModel" 99 (3, 136, 2, 10) := Or.inr (Or.inr (Or.inr (Or.inr (Or.inr ⟨kx_m136, rfl, by decide +kernel, by decide +kernel, List.mem_of_getElem? (i := 85) (by decide +kernel), Or.inl ⟨rfl, List.mem_of_getElem? (i := 1306) (by decide +kernel), List.mem_of_getElem? (i := 1308) (by decide +kernel), List.mem_of_getElem? (i := 35) (by decide +kernel), Or.inl ⟨Nat.le_of_ble_eq_true rfl, rfl⟩⟩, by decide +kernel⟩))))
theorem kx_wc_12_13 : kx_okC "KiteWarModel" 102 (3, 128, 2, 10) := Or.inr (Or.inr (Or.inr (Or.inr (Or.inr ⟨kx_m128, rfl, by decide +kernel, by decide +kernel, List.mem_of_getElem? (i := 85) (by decide +kernel), Or.inl ⟨rfl, List.mem_of_getElem? (i := 1275) (by decide +kernel), List.mem_of_getElem? (i := 1277) (by decide +kernel), List.mem_of_getElem? (i := 29) (by decide +kernel), Or.inl ⟨Nat.le_of_ble_eq_true rfl, rfl⟩⟩, by decide +kernel⟩))))
theorem kx_wc_12_14 : kx_okC "KiteWarModel" 105 (3, 127, 1, 10) := Or.inr (Or.inr (Or.inr (Or.inr (Or.inr ⟨kx_m127, rfl, by decide +kernel, by decide +kernel, List.mem_of_getElem? (i := 85) (by decide +kernel), Or.inl ⟨rfl, List.mem_of_getElem? (i := 1271) (by decide +kernel), List.mem_of_getElem? (i := 1273) (by decide +kernel), List.mem_of_getElem? (i := 28) (by decide +kernel), Or.inl ⟨Nat.le_of_ble_eq_true rfl, rfl⟩⟩, by decide +kernel⟩))))
theorem kx_wc_12_15 : kx_okC "KiteWarModel" 108 (3, 129, 2, 10) := Or.inr (Or.inr (Or.inr (Or.inr (Or.inr ⟨kx_m129, rfl, by decide +kernel, by decide +kernel, List.mem_of_getElem? (i := 85) (by decide +kernel), Or.inl ⟨rfl, List.mem_of_getElem? (i := 1279) (by decide +kernel), List.mem_of_getElem? (i := 1281) (by decide +kernel), List.mem_of_getElem? (i := 30) (by decide +kernel), Or.inl ⟨Nat.le_of_ble_eq_true rfl, rfl⟩⟩, by decide +kernel⟩))))
theorem kx_wc_12_16 : kx_okC "KiteWarModel" 111 (3, 130, 1, 10) := Or.inr (Or.inr (Or.inr (Or.inr (Or.inr ⟨kx_m130, rfl, by decide +kernel, by decide +kernel, List.mem_of_getElem? (i := 85) (by decide +kernel), Or.inl ⟨rfl, List.mem_of_getElem? (i := 1283) (by decide +kernel), List.mem_of_getElem? (i := 1285) (by decide +kernel), List.mem_of_getElem? (i := 31) (by decide +kernel), Or.inl ⟨Nat.le_of_ble_eq_true rfl, rfl⟩⟩, by decide +kernel⟩))))
theorem kx_wc_12_17 : kx_okC "KiteWarModel" 114 (3, 131, 1, 10) := Or.inr (Or.inr (Or.inr (Or.inr (Or.inr ⟨kx_m131, rfl, by decide +kernel, by decide +kernel, List.mem_of_getElem? (i := 85) (by decide +kernel), Or.inl ⟨rfl, List.mem_of_getElem? (i := 1287) (by decide +kernel), List.mem_of_getElem? (i := 1289) (by decide +kernel), List.mem_of_getElem? (i := 32) (by decide +kernel), Or.inl ⟨Nat.le_of_ble_eq_true rfl, rfl⟩⟩, by decide +kernel⟩))))
theorem kx_wc_12_18 : kx_okC "KiteWarModel" 118 (3, 134, 1, 10) := Or.inr (Or.inr (Or.inr (Or.inr (Or.inr ⟨kx_m134, rfl, by decide +kernel, by decide +kernel, List.mem_of_getElem? (i := 85) (by decide +kernel), Or.inl ⟨rfl, List.mem_of_getElem? (i := 1298) (by decide +kernel), List.mem_of_getElem? (i := 1300) (by decide +kernel), List.mem_of_getElem? (i := 33) (by decide +kernel), Or.inl ⟨Nat.le_of_ble_eq_true rfl, rfl⟩⟩, by decide +kernel⟩))))
theorem kx_wc_12_19 : kx_okC "KiteWarModel" 121 (3, 135, 2, 10) := Or.inr (Or.inr (Or.inr (Or.inr (Or.inr ⟨kx_m135, rfl, by decide +kernel, by decide +kernel, List.mem_of_getElem? (i := 85) (by decide +kernel), Or.inl ⟨rfl, List.mem_of_getElem? (i := 1302) (by decide +kernel), List.mem_of_getElem? (i := 1304) (by decide +kernel), List.mem_of_getElem? (i := 34) (by decide +kernel), Or.inl ⟨Nat.le_of_ble_eq_true rfl, rfl⟩⟩, by decide +kernel⟩))))
theorem kx_wc_12_20 : kx_okC "KiteWarModel" 125 (3, 137, 3, 10) := Or.inr (Or.inr (Or.inr (Or.inr (Or.inr ⟨kx_m137, rfl, by decide +kernel, by decide +kernel, List.mem_of_getElem? (i := 85) (by decide +kernel), Or.inl ⟨rfl, List.mem_of_getElem? (i := 1310) (by decide +kernel), List.mem_of_getElem? (i := 1312) (by decide +kernel), List.mem_of_getElem? (i := 36) (by decide +kernel), Or.inl ⟨Nat.le_of_ble_eq_true rfl, rfl⟩⟩, by decide +kernel⟩))))
theorem kx_wc_12_21 : kx_okC "KiteWarModel" 129 (3, 138, 1, 10) := Or.inr (Or.inr (Or.inr (Or.inr (Or.inr ⟨kx_m138, rfl, by decide +kernel, by decide +kernel, List.mem_of_getElem? (i := 85) (by decide +kernel), Or.inl ⟨rfl, List.mem_of_getElem? (i := 1314) (by decide +kernel), List.mem_of_getElem? (i := 1316) (by decide +kernel), List.mem_of_getElem? (i := 37) (by decide +kernel), Or.inl ⟨Nat.le_of_ble_eq_true rfl, rfl⟩⟩, by decide +kernel⟩))))
theorem kx_wc_12_22 : kx_okC "KiteWarModel" 133 (3, 141, 1, 10) := Or.inr (Or.inr (Or.inr (Or.inr (Or.inr ⟨kx_m141, rfl, by decide +kernel, by decide +kernel, List.mem_of_getElem? (i := 85) (by decide +kernel), Or.inl ⟨rfl, List.mem_of_getElem? (i := 1326) (by decide +kernel), List.mem_of_getElem? (i := 1328) (by decide +kernel), List.mem_of_getElem? (i := 38) (by decide +kernel), Or.inl ⟨Nat.le_of_ble_eq_true rfl, rfl⟩⟩, by decide +kernel⟩))))
theorem kx_wc_12_23 : kx_okC "KiteWarModel" 136 (3, 142, 1, 10) := Or.inr (Or.inr (Or.inr (Or.inr (Or.inr ⟨kx_m142, rfl, by decide +kernel, by decide +kernel, List.mem_of_getElem? (i := 85) (by decide +kernel), Or.inl ⟨rfl, List.mem_of_getElem? (i := 1330) (by decide +kernel), List.mem_of_getElem? (i := 1332) (by decide +kernel), List.mem_of_getElem? (i := 39) (by decide +kernel), Or.inl ⟨Nat.le_of_ble_eq_true rfl, rfl⟩⟩, by decide +kernel⟩))))
theorem kx_wc_12_24 : kx_okC "KiteWarModel" 139 (3, 145, 1, 10) := Or.inr (Or.inr (Or.inr (Or.inr (Or.inr ⟨kx_m145, rfl, by decide +kernel, by decide +kernel, List.mem_of_getElem? (i := 85) (by decide +kernel), Or.inl ⟨rfl, List.mem_of_getElem? (i := 1342) (by decide +kernel), List.mem_of_getElem? (i := 1344) (by decide +kernel), List.mem_of_getElem? (i := 40) (by decide +kernel), Or.inl ⟨Nat.le_of_ble_eq_true rfl, rfl⟩⟩, by decide +kernel⟩))))
theorem kx_wc_12_25 : kx_okC "KiteWarModel" 142 (3, 146, 1, 10) := Or.inr (Or.inr (Or.inr (Or.inr (Or.inr ⟨kx_m146, rfl, by decide +kernel, by decide +kernel, List.mem_of_getElem? (i := 85) (by decide +kernel), Or.inl ⟨rfl, List.mem_of_getElem? (i := 1346) (by decide +kernel), List.mem_of_getElem? (i := 1348) (by decide +kernel), List.mem_of_getElem? (i := 41) (by decide +kernel), Or.inl ⟨Nat.le_of_ble_eq_true rfl, rfl⟩⟩, by decide +kernel⟩))))
theorem kx_wc_12_26 : kx_okC "KiteWarModel" 145 (3, 148, 1, 10) := Or.inr (Or.inr (Or.inr (Or.inr (Or.inr ⟨kx_m148, rfl, by decide +kernel, by decide +kernel, List.mem_of_getElem? (i := 85) (by decide +kernel), Or.inl ⟨rfl, List.mem_of_getElem? (i := 1354) (by decide +kernel), List.mem_of_getElem? (i := 1356) (by decide +kernel), List.mem_of_getElem? (i := 42) (by decide +kernel), Or.inl ⟨Nat.le_of_ble_eq_true rfl, rfl⟩⟩, by decide +kernel⟩))))
theorem kx_wc_12_27 : kx_okC "KiteWarModel" 148 (4, 156, 3, 0) := Or.inr (Or.inr (Or.inr (Or.inr (Or.inr ⟨kx_m156, rfl, by decide +kernel, by decide +kernel, List.mem_of_getElem? (i := 85) (by decide +kernel), Or.inr (Or.inl ⟨rfl, List.mem_of_getElem? (i := 1386) (by decide +kernel), List.mem_of_getElem? (i := 1387) (by decide +kernel)⟩), by decide +kernel⟩))))
theorem kx_wc_12_28 : kx_okC "KiteWarModel" 152 (3, 155, 3, 10) := Or.inr (Or.inr (Or.inr (Or.inr (Or.inr ⟨kx_m155, rfl, by decide +kernel, by decide +kernel, List.mem_of_getElem? (i := 85) (by decide +kernel), Or.inl ⟨rfl, List.mem_of_getElem? (i := 1382) (by decide +kernel), List.mem_of_getElem? (i := 1384) (by decide +kernel), List.mem_of_getElem? (i := 46) (by decide +kernel), Or.inl ⟨Nat.le_of_ble_eq_true rfl, rfl⟩⟩, by decide +kernel⟩))))
theorem kx_wc_12_29 : kx_okC "KiteWarModel" 155 (3, 154, 1, 10) := Or.inr (Or.inr (Or.inr (Or.inr (Or.inr ⟨kx_m154, rfl, by decide +kernel, by decide +kernel, List.mem_of_getElem? (i := 85) (by decide +kernel), Or.inl ⟨rfl, List.mem_of_getElem? (i := 1378) (by decide +kernel), List.mem_of_getElem? (i := 1380) (by decide +kernel), List.mem_of_getElem? (i := 45) (by decide +kernel), Or.inl ⟨Nat.le_of_ble_eq_true rfl, rfl⟩⟩, by decide +kernel⟩))))
theorem kx_wc_12_30 : kx_okC "KiteWarModel" 158 (3, 161, 2, 10) := Or.inr (Or.inr (Or.inr (Or.inr (Or.inr ⟨kx_m161, rfl, by decide +kernel, by decide +kernel, List.mem_of_getElem? (i := 85) (by decide +kernel), Or.inl ⟨rfl, List.mem_of_getElem? (i := 1405) (by decide +kernel), List.mem_of_getElem? (i := 1407) (by decide +kernel), List.mem_of_getElem? (i := 51) (by decide +kernel), Or.inl ⟨Nat.le_of_ble_eq_true rfl, rfl⟩⟩, by decide +kernel⟩))))
theorem kx_wc_12_31 : kx_okC "KiteWarModel" 162 (3, 160, 2, 10) := Or.inr (Or.inr (Or.inr (Or.inr (Or.inr ⟨kx_m160, rfl, by decide +kernel, by decide +kernel, List.mem_of_getElem? (i := 85) (by decide +kernel), Or.inl ⟨rfl, List.mem_of_getElem? (i := 1401) (by decide +kernel), List.mem_of_getElem? (i := 1403) (by decide +kernel), List.mem_of_getElem? (i := 50) (by decide +kernel), Or.inl ⟨Nat.le_of_ble_eq_true rfl, rfl⟩⟩, by decide +kernel⟩))))
theorem kx_wc_12_32 : kx_okC "KiteWarModel" 165 (3, 158, 1, 10) := Or.inr (Or.inr (Or.inr (Or.inr (Or.inr ⟨kx_m158, rfl, by decide +kernel, by decide +kernel, List.mem_of_getElem? (i := 85) (by decide +kernel), Or.inl ⟨rfl, List.mem_of_getElem? (i := 1393) (by decide +kernel), List.mem_of_getElem? (i := 1395) (by decide +kernel), List.mem_of_getElem? (i := 48) (by decide +kernel), Or.inl ⟨Nat.le_of_ble_eq_true rfl, rfl⟩⟩, by decide +kernel⟩))))
theorem kx_wc_12_33 : kx_okC "KiteWarModel" 168 (3, 153, 0, 10) := Or.inr (Or.inr (Or.inr (Or.inr (Or.inr ⟨kx_m153, rfl, by decide +kernel, by decide +kernel, List.mem_of_getElem? (i := 85) (by decide +kernel), Or.inl ⟨rfl, List.mem_of_getElem? (i := 1374) (by decide +kernel), List.mem_of_getElem? (i := 1376) (by decide +kernel), List.mem_of_getElem? (i := 44) (by decide +kernel), Or.inl ⟨Nat.le_of_ble_eq_true rfl, rfl⟩⟩, by decide +kernel⟩))))
theorem kx_wc_12_34 : kx_okC "KiteWarModel" 171 (3, 157, 0, 10) := Or.inr (Or.inr (Or.inr (Or.inr (Or.inr ⟨kx_m157, rfl, by decide +kernel, by decide +kernel, List.mem_of_getElem? (i := 85) (by decide +kernel), Or.inl ⟨rfl, List.mem_of_getElem? (i := 1389) (by decide +kernel), List.mem_of_getElem? (i := 1391) (by decide +kernel), List.mem_of_getElem? (i := 47) (by decide +kernel), Or.inl ⟨Nat.le_of_ble_eq_true rfl, rfl⟩⟩, by decide +kernel⟩))))
theorem kx_wc_12_35 : kx_okC "KiteWarModel" 174 (3, 159, 0, 10) := Or.inr (Or.inr (Or.inr (Or.inr (Or.inr ⟨kx_m159, rfl, by decide +kernel, by decide +kernel, List.mem_of_getElem? (i := 85) (by decide +kernel), Or.inl ⟨rfl, List.mem_of_getElem? (i := 1397) (by decide +kernel), List.mem_of_getElem? (i := 1399) (by decide +kernel), List.mem_of_getElem? (i := 49) (by decide +kernel), Or.inl ⟨Nat.le_of_ble_eq_true rfl, rfl⟩⟩, by decide +kernel⟩))))
theorem kx_wc_12_36 : kx_okC "KiteWarModel" 177 (3, 162, 1, 10) := Or.inr (Or.inr (Or.inr (Or.inr (Or.inr ⟨kx_m162, rfl, by decide +kernel, by decide +kernel, List.mem_of_getElem? (i := 85) (by decide +kernel), Or.inl ⟨rfl, List.mem_of_getElem? (i := 1409) (by decide +kernel), List.mem_of_getElem? (i := 1411) (by decide +kernel), List.mem_of_getElem? (i := 52) (by decide +kernel), Or.inl ⟨Nat.le_of_ble_eq_true rfl, rfl⟩⟩, by decide +kernel⟩))))
theorem kx_wc_12_37 : kx_okC "KiteWarModel" 180 (3, 152, 0, 10) := Or.inr (Or.inr (Or.inr (Or.inr (Or.inr ⟨kx_m152, rfl, by decide +kernel, by decide +kernel, List.mem_of_getElem? (i := 85) (by decide +kernel), Or.inl ⟨rfl, List.mem_of_getElem? (i := 1370) (by decide +kernel), List.mem_of_getElem? (i := 1372) (by decide +kernel), List.mem_of_getElem? (i := 43) (by decide +kernel), Or.inl ⟨Nat.le_of_ble_eq_true rfl, rfl⟩⟩, by decide +kernel⟩))))
theorem kx_wc_12_38 : kx_okC "KiteWarModel" 183 (3, 164, 0, 10) := Or.inr (Or.inr (Or.inr (Or.inr (Or.inr ⟨kx_m164, rfl, by decide +kernel, by decide +kernel, List.mem_of_getElem? (i := 85) (by decide +kernel), Or.inl ⟨rfl, List.mem_of_getElem? (i := 1417) (by decide +kernel), List.mem_of_getElem? (i := 1419) (by decide +kernel), List.mem_of_getElem? (i := 53) (by decide +kernel), Or.inl ⟨Nat.le_of_ble_eq_true rfl, rfl⟩⟩, by decide +kernel⟩))))
theorem kx_wc_12_39 : kx_okC "KiteWarModel" 186 (3, 168, 2, 10) := Or.inr (Or.inr (Or.inr (Or.inr (Or.inr ⟨kx_m168, rfl, by decide +kernel, by decide +kernel, List.mem_of_getElem? (i := 85) (by decide +kernel), Or.inl ⟨rfl, List.mem_of_getElem? (i := 1433) (by decide +kernel), List.mem_of_getElem? (i := 1435) (by decide +kernel), List.mem_of_getElem? (i := 54) (by decide +kernel), Or.inl ⟨Nat.le_of_ble_eq_true rfl, rfl⟩⟩, by decide +kernel⟩))))
theorem kx_wc_12_40 : kx_okC "KiteWarModel" 189 (3, 169, 2, 10) := Or.inr (Or.inr (Or.inr (Or.inr (Or.inr ⟨kx_m169, rfl, by decide +kernel, by decide +kernel, List.mem_of_getElem? (i := 85) (by decide +kernel), Or.inl ⟨rfl, List.mem_of_getElem? (i := 1437) (by decide +kernel), List.mem_of_getElem? (i := 1439) (by decide +kernel), List.mem_of_getElem? (i := 55) (by decide +kernel), Or.inl ⟨Nat.le_of_ble_eq_true rfl, rfl⟩⟩, by decide +kernel⟩))))
theorem kx_wc_12_41 : kx_okC "KiteWarModel" 198 (3, 176, 0, 10) := Or.inr (Or.inr (Or.inr (Or.inr (Or.inr ⟨kx_m176, rfl, by decide +kernel, by decide +kernel, List.mem_of_getElem? (i := 85) (by decide +kernel), Or.inl ⟨rfl, List.mem_of_getElem? (i := 1465) (by decide +kernel), List.mem_of_getElem? (i := 1467) (by decide +kernel), List.mem_of_getElem? (i := 59) (by decide +kernel), Or.inl ⟨Nat.le_of_ble_eq_true rfl, rfl⟩⟩, by decide +kernel⟩))))
theorem kx_wc_12_42 : kx_okC "KiteWarModel" 202 (3, 213, 0, 12) := Or.inr (Or.inr (Or.inr (Or.inr (Or.inr ⟨kx_m213, rfl, by decide +kernel, by decide +kernel, List.mem_of_getElem? (i := 82) (by decide +kernel), Or.inl ⟨rfl, List.mem_of_getElem? (i := 1474) (by decide +kernel), List.mem_of_getElem? (i := 941) (by decide +kernel), List.mem_of_getElem? (i := 942) (by decide +kernel), Or.inr ⟨rfl, rfl⟩⟩, by decide +kernel⟩))))
theorem kx_wc_12_43 : kx_okC "KiteWarModel" 206 (3, 215, 1, 12) := Or.inr (Or.inr (Or.inr (Or.inr (Or.inr ⟨kx_m215, rfl, by decide +kernel, by decide +kernel, List.mem_of_getElem? (i := 82) (by decide +kernel), Or.inl ⟨rfl, List.mem_of_getElem? (i := 1475) (by decide +kernel), List.mem_of_getElem? (i := 950) (by decide +kernel), List.mem_of_getElem? (i := 951) (by decide +kernel), Or.inr ⟨rfl, rfl⟩⟩, by decide +kernel⟩))))
theorem kx_wc_12_44 : kx_okC "KiteWarModel" 210 (3, 175, 1, 10) := Or.inr (Or.inr (Or.inr (Or.inr (Or.inr ⟨kx_m175, rfl, by decide +kernel, by decide +kernel, List.mem_of_getElem? (i := 85) (by decide +kernel), Or.inl ⟨rfl, List.mem_of_getElem? (i := 1461) (by decide +kernel), List.mem_of_getElem? (i := 1463) (by decide +kernel), List.mem_of_getElem? (i := 58) (by decide +kernel), Or.inl ⟨Nat.le_of_ble_eq_true rfl, rfl⟩⟩, by decide +kernel⟩))))
theorem kx_wc_12_45 : kx_okC "KiteWarModel" 215 (3, 177, 1, 10) := Or.inr (Or.inr (Or.inr (Or.inr (Or.inr ⟨kx_m177, rfl, by decide +kernel, by decide +kernel, List.mem_of_getElem? (i := 85) (by decide +kernel), Or.inl ⟨rfl, List.mem_of_getElem? (i := 1470) (by decide +kernel), List.mem_of_getElem? (i := 1472) (by decide +kernel), List.mem_of_getElem? (i := 60) (by decide +kernel), Or.inl ⟨Nat.le_of_ble_eq_true rfl, rfl⟩⟩, by decide +kernel⟩))))
theorem kx_wc_12_46 : kx_okC "KiteWarModel" 219 (3, 178, 1, 10) := Or.inr (Or.inr (Or.inr (Or.inr (Or.inr ⟨kx_m178, rfl, by decide +kernel, by decide +kernel, List.mem_of_getElem? (i := 85) (by decide +kernel), Or.inl ⟨rfl, List.mem_of_getElem? (i := 1476) (by decide +kernel), List.mem_of_getElem? (i := 1478) (by decide +kernel), List.mem_of_getElem? (i := 61) (by decide +kernel), Or.inl ⟨Nat.le_of_ble_eq_true rfl, rfl⟩⟩, by decide +kernel⟩))))
theorem kx_wc_12_47 : kx_okC "KiteWarModel" 237 (3, 179, 1, 10) := Or.inr (Or.inr (Or.inr (Or.inr (Or.inr ⟨kx_m179, rfl, by decide +kernel, by decide +kernel, List.mem_of_getElem? (i := 85) (by decide +kernel), Or.inl ⟨rfl, List.mem_of_getElem? (i := 1481) (by decide +kernel), List.mem_of_getElem? (i := 1483) (by decide +kernel), List.mem_of_getElem? (i := 62) (by decide +kernel), Or.inl ⟨Nat.le_of_ble_eq_true rfl, rfl⟩⟩, by decide +kernel⟩))))
theorem kx_wc_12_48 : kx_okC "KiteWarModel" 240 (3, 174, 0, 10) := Or.inr (Or.inr (Or.inr (Or.inr (Or.inr ⟨kx_m174, rfl, by decide +kernel, by decide +kernel, List.mem_of_getElem? (i := 85) (by decide +kernel), Or.inl ⟨rfl, List.mem_of_getElem? (i := 1457) (by decide +kernel), List.mem_of_getElem? (i := 1459) (by decide +kernel), List.mem_of_getElem? (i := 57) (by decide +kernel), Or.inl ⟨Nat.le_of_ble_eq_true rfl, rfl⟩⟩, by decide +kernel⟩))))
theorem kx_wc_12_49 : kx_okC "KiteWarModel" 244 (3, 139, 2, 10) := Or.inr (Or.inr (Or.inr (Or.inr (Or.inr ⟨kx_m139, rfl, by decide +kernel, by decide +kernel, List.mem_of_getElem? (i := 85) (by decide +kernel), Or.inl ⟨rfl, List.mem_of_getElem? (i := 1494) (by decide +kernel), List.mem_of_getElem? (i := 1319) (by decide +kernel), List.mem_of_getElem? (i := 1320) (by decide +kernel), Or.inl ⟨Nat.le_of_ble_eq_true rfl, rfl⟩⟩, by decide +kernel⟩))))
theorem kx_wc_12_50 : kx_okC "KiteWarModel" 247 (3, 151, 1, 10) := Or.inr (Or.inr (Or.inr (Or.inr (Or.inr ⟨kx_m151, rfl, by decide +kernel, by decide +kernel, List.mem_of_getElem? (i := 85) (by decide +kernel), Or.inl ⟨rfl, List.mem_of_getElem? (i := 1495) (by decide +kernel), List.mem_of_getElem? (i := 1367) (by decide +kernel), List.mem_of_getElem? (i := 1368) (by decide +kernel), Or.inl ⟨Nat.le_of_ble_eq_true rfl, rfl⟩⟩, by decide +kernel⟩))))
theorem kx_wc_12_51 : kx_okC "KiteWarModel" 250 (3, 147, 3, 10) := Or.inr (Or.inr (Or.inr (Or.inr (Or.inr ⟨kx_m147, rfl, by decide +kernel, by decide +kernel, List.mem_of_getElem? (i := 85) (by decide +kernel), Or.inl ⟨rfl, List.mem_of_getElem? (i := 1496) (by decide +kernel), List.mem_of_getElem? (i := 1351) (by decide +kernel), List.mem_of_getElem? (i := 1352) (by decide +kernel), Or.inl ⟨Nat.le_of_ble_eq_true rfl, rfl⟩⟩, by decide +kernel⟩))))
theorem kx_wc_12_52 : kx_okC "KiteWarModel" 253 (3, 173, 0, 10) := Or.inr (Or.inr (Or.inr (Or.inr (Or.inr ⟨kx_m173, rfl, by decide +kernel, by decide +kernel, List.mem_of_getElem? (i := 85) (by decide +kernel), Or.inl ⟨rfl, List.mem_of_getElem? (i := 1453) (by decide +kernel), List.mem_of_getElem? (i := 1455) (by decide +kernel), List.mem_of_getElem? (i := 56) (by decide +kernel), Or.inl ⟨Nat.le_of_ble_eq_true rfl, rfl⟩⟩, by decide +kernel⟩))))
theorem kx_wc_12_53 : kx_okC "KiteWarModel" 256 (3, 180, 1, 10) := Or.inr (Or.inr (Or.inr (Or.inr (Or.inr ⟨kx_m180, rfl, by decide +kernel, by decide +kernel, List.mem_of_getElem? (i := 85) (by decide +kernel), Or.inl ⟨rfl, List.mem_of_getElem? (i := 1490) (by decide +kernel), List.mem_of_getElem? (i := 1492) (by decide +kernel), List.mem_of_getElem? (i := 63) (by decide +kernel), Or.inl ⟨Nat.le_of_ble_eq_true rfl, rfl⟩⟩, by decide +kernel⟩))))
theorem kx_wc_12_54 : kx_okC "KiteWarModel" 262 (3, 182, 1, 10) := Or.inr (Or.inr (Or.inr (Or.inr (Or.inr ⟨kx_m182, rfl, by decide +kernel, by decide +kernel, List.mem_of_getElem? (i := 85) (by decide +kernel), Or.inl ⟨rfl, List.mem_of_getElem? (i := 1501) (by decide +kernel), List.mem_of_getElem? (i := 1503) (by decide +kernel), List.mem_of_getElem? (i := 64) (by decide +kernel), Or.inl ⟨Nat.le_of_ble_eq_true rfl, rfl⟩⟩, by decide +kernel⟩))))
theorem kx_wc_12_55 : kx_okC "KiteWarModel" 265 (3, 183, 1, 10) := Or.inr (Or.inr (Or.inr (Or.inr (Or.inr ⟨kx_m183, rfl, by decide +kernel, by decide +kernel, List.mem_of_getElem? (i := 85) (by decide +kernel), Or.inl ⟨rfl, List.mem_of_getElem? (i := 1505) (by decide +kernel), List.mem_of_getElem? (i := 1507) (by decide +kernel), List.mem_of_getElem? (i := 65) (by decide +kernel), Or.inl ⟨Nat.le_of_ble_eq_true rfl, rfl⟩⟩, by decide +kernel⟩))))
theorem kx_wc_12_56 : kx_okC "KiteWarModel" 268 (3, 184, 1, 10) := Or.inr (Or.inr (Or.inr (Or.inr (Or.inr ⟨kx_m184, rfl, by decide +kernel, by decide +kernel, List.mem_of_getElem? (i := 85) (by decide +kernel), Or.inl ⟨rfl, List.mem_of_getElem? (i := 1509) (by decide +kernel), List.mem_of_getElem? (i := 1511) (by decide +kernel), List.mem_of_getElem? (i := 66) (by decide +kernel), Or.inl ⟨Nat.le_of_ble_eq_true rfl, rfl⟩⟩, by decide +kernel⟩))))
theorem kx_wc_12_57 : kx_okC "KiteWarModel" 271 (3, 185, 1, 10) := Or.inr (Or.inr (Or.inr (Or.inr (Or.inr ⟨kx_m185, rfl, by decide +kernel, by decide +kernel, List.mem_of_getElem? (i := 85) (by decide +kernel), Or.inl ⟨rfl, List.mem_of_getElem? (i := 1513) (by decide +kernel), List.mem_of_getElem? (i := 1515) (by decide +kernel), List.mem_of_getElem? (i := 67) (by decide +kernel), Or.inl ⟨Nat.le_of_ble_eq_true rfl, rfl⟩⟩, by decide +kernel⟩))))
theorem kx_wc_12_58 : kx_okC "KiteWarModel" 276 (3, 187, 1, 10) := Or.inr (Or.inr (Or.inr (Or.inr (Or.inr ⟨kx_m187, rfl, by decide +kernel, by decide +kernel, List.mem_of_getElem? (i := 85) (by decide +kernel), Or.inl ⟨rfl, List.mem_of_getElem? (i := 1522) (by decide +kernel), List.mem_of_getElem? (i := 1524) (by decide +kernel), List.mem_of_getElem? (i := 68) (by decide +kernel), Or.inl ⟨Nat.le_of_ble_eq_true rfl, rfl⟩⟩, by decide +kernel⟩))))
theorem kx_wc_12_59 : kx_okC "KiteWarModel" 288 (3, 191, 1, 10) := Or.inr (Or.inr (Or.inr (Or.inr (Or.inr ⟨kx_m191, rfl, by decide +kernel, by decide +kernel, List.mem_of_getElem? (i := 85) (by decide +kernel), Or.inl ⟨rfl, List.mem_of_getElem? (i := 1542) (by decide +kernel), List.mem_of_getElem? (i := 1544) (by decide +kernel), List.mem_of_getElem? (i := 69) (by decide +kernel), Or.inl ⟨Nat.le_of_ble_eq_true rfl, rfl⟩⟩, by decide +kernel⟩))))
theorem kx_wc_12 : ∀ q ∈ (kx_calT.getD 12 []), kx_okC "KiteWarModel" q.1 q.2 := List.forall_mem_cons.mpr ⟨kx_wc_12_0, List.forall_mem_cons.mpr ⟨kx_wc_12_1, List.forall_mem_cons.mpr ⟨kx_wc_12_2, List.forall_mem_cons.mpr ⟨kx_wc_12_3, List.forall_mem_cons.mpr ⟨kx_wc_12_4, List.forall_mem_cons.mpr ⟨kx_wc_12_5, List.forall_mem_cons.mpr ⟨kx_wc_12_6, List.forall_mem_cons.mpr ⟨kx_wc_12_7, List.forall_mem_cons.mpr ⟨kx_wc_12_8, List.forall_mem_cons.mpr ⟨kx_wc_12_9, List.forall_mem_cons.mpr ⟨kx_wc_12_10, List.forall_mem_cons.mpr ⟨kx_wc_12_11, List.forall_mem_cons.mpr ⟨kx_wc_12_12, List.forall_mem_cons.mpr ⟨kx_wc_12_13, List.forall_mem_cons.mpr ⟨kx_wc_12_14, List.forall_mem_cons.mpr ⟨kx_wc_12_15, List.forall_mem_cons.mpr ⟨kx_wc_12_16, List.forall_mem_cons.mpr ⟨kx_wc_12_17, List.forall_mem_cons.mpr ⟨kx_wc_12_18, List.forall_mem_cons.mpr ⟨kx_wc_12_19, List.forall_mem_cons.mpr ⟨kx_wc_12_20, List.forall_mem_cons.mpr ⟨kx_wc_12_21, List.forall_mem_cons.mpr ⟨kx_wc_12_22, List.forall_mem_cons.mpr ⟨kx_wc_12_23, List.forall_mem_cons.mpr ⟨kx_wc_12_24, List.forall_mem_cons.mpr ⟨kx_wc_12_25, List.forall_mem_cons.mpr ⟨kx_wc_12_26, List.forall_mem_cons.mpr ⟨kx_wc_12_27, List.forall_mem_cons.mpr ⟨kx_wc_12_28, List.forall_mem_cons.mpr ⟨kx_wc_12_29, List.forall_mem_cons.mpr ⟨kx_wc_12_30, List.forall_mem_cons.mpr ⟨kx_wc_12_31, List.forall_mem_cons.mpr ⟨kx_wc_12_32, List.forall_mem_cons.mpr ⟨kx_wc_12_33, List.forall_mem_cons.mpr ⟨kx_wc_12_34, List.forall_mem_cons.mpr ⟨kx_wc_12_35, List.forall_mem_cons.mpr ⟨kx_wc_12_36, List.forall_mem_cons.mpr ⟨kx_wc_12_37, List.forall_mem_cons.mpr ⟨kx_wc_12_38, List.forall_mem_cons.mpr ⟨kx_wc_12_39, List.forall_mem_cons.mpr ⟨kx_wc_12_40, List.forall_mem_cons.mpr ⟨kx_wc_12_41, List.forall_mem_cons.mpr ⟨kx_wc_12_42, List.forall_mem_cons.mpr ⟨kx_wc_12_43, List.forall_mem_cons.mpr ⟨kx_wc_12_44, List.forall_mem_cons.mpr ⟨kx_wc_12_45, List.forall_mem_cons.mpr ⟨kx_wc_12_46, List.forall_mem_cons.mpr ⟨kx_wc_12_47, List.forall_mem_cons.mpr ⟨kx_wc_12_48, List.forall_mem_cons.mpr ⟨kx_wc_12_49, List.forall_mem_cons.mpr ⟨kx_wc_12_50, List.forall_mem_cons.mpr ⟨kx_wc_12_51, List.forall_mem_cons.mpr ⟨kx_wc_12_52, List.forall_mem_cons.mpr ⟨kx_wc_12_53, List.forall_mem_cons.mpr ⟨kx_wc_12_54, List.forall_mem_cons.mpr ⟨kx_wc_12_55, List.forall_mem_cons.mpr ⟨kx_wc_12_56, List.forall_mem_cons.mpr ⟨kx_wc_12_57, List.forall_mem_cons.mpr ⟨kx_wc_12_58, List.forall_mem_cons.mpr ⟨kx_wc_12_59, fun _ h => absurd h List.not_mem_nil⟩⟩⟩⟩⟩⟩⟩⟩⟩⟩⟩⟩⟩⟩⟩⟩⟩⟩⟩⟩⟩⟩⟩⟩⟩⟩⟩⟩⟩⟩⟩⟩⟩⟩⟩⟩⟩⟩⟩⟩⟩⟩⟩⟩⟩⟩⟩⟩⟩⟩⟩⟩⟩⟩⟩⟩⟩⟩⟩⟩
theorem kx_wc_13_0 : kx_okC "java/lang/AbstractStringBuilder" 3 (7, 0, 0, 0) := Or.inr (Or.inr (Or.inr (Or.inl ⟨rfl, List.mem_of_getElem? (i := 387) (by decide +kernel)⟩)))
theorem kx_wc_13_1 : kx_okC "java/lang/AbstractStringBuilder" 32 (3, 213, 0, 12) := Or.inr (Or.inr (Or.inr (Or.inr (Or.inr ⟨kx_m213, rfl, by decide +kernel, by decide +kernel, List.mem_of_getElem? (i := 82) (by decide +kernel), Or.inl ⟨rfl, List.mem_of_getElem? (i := 1082) (by decide +kernel), List.mem_of_getElem? (i := 941) (by decide +kernel), List.mem_of_getElem? (i := 942) (by decide +kernel), Or.inr ⟨rfl, rfl⟩⟩, by decide +kernel⟩))))
theorem kx_wc_13_2 : kx_okC "java/lang/AbstractStringBuilder" 40 (3, 214, 0, 12) := Or.inr (Or.inr (Or.inr (Or.inr (Or.inr ⟨kx_m214, rfl, by decide +kernel, by decide +kernel, List.mem_of_getElem? (i := 82) (by decide +kernel), Or.inl ⟨rfl, List.mem_of_getElem? (i := 1091) (by decide +kernel), List.mem_of_getElem? (i := 945) (by decide +kernel), List.mem_of_getElem? (i := 946) (by decide +kernel), Or.inr ⟨rfl, rfl⟩⟩, by decide +kernel⟩))))
theorem kx_wc_13_3 : kx_okC "java/lang/AbstractStringBuilder" 83 (9, 203, 0, 11) := Or.inr (Or.inr (Or.inr (Or.inr (Or.inr ⟨kx_m203, rfl, by decide +kernel, by decide +kernel, List.mem_of_getElem? (i := 80) (by decide +kernel), Or.inr (Or.inr (Or.inr (Or.inr (Or.inr ⟨rfl, List.mem_of_getElem? (i := 853) (by decide +kernel), List.mem_of_getElem? (i := 855) (by decide +kernel), List.mem_of_getElem? (i := 854) (by decide +kernel), kx_tin (List.mem_of_getElem? (i := 856) (by decide +kernel)) rfl, rfl⟩)))), by decide +kernel⟩))))
theorem kx_wc_13_4 : kx_okC "java/lang/AbstractStringBuilder" 100 (9, 201, 1, 11) := Or.inr (Or.inr (Or.inr (Or.inr (Or.inr ⟨kx_m201, rfl, by decide +kernel, by decide +kernel, List.mem_of_getElem? (i := 80) (by decide +kernel), Or.inr (Or.inr (Or.inr (Or.inr (Or.inr ⟨rfl, List.mem_of_getElem? (i := 822) (by decide +kernel), List.mem_of_getElem? (i := 1572) (by decide +kernel), List.mem_of_getElem? (i := 824) (by decide +kernel), List.mem_append_left _ (List.mem_map.mpr ⟨_, List.mem_of_getElem? (i := 0) rfl, rfl⟩), rfl⟩)))), by decide +kernel⟩))))
theorem kx_wc_13_5 : kx_okC "java/lang/AbstractStringBuilder" 104 (9, 202, 1, 11) := Or.inr (Or.inr (Or.inr (Or.inr (Or.inr ⟨kx_m202, rfl, by decide +kernel, by decide +kernel, List.mem_of_getElem? (i := 80) (by decide +kernel), Or.inr (Or.inr (Or.inr (Or.inr (Or.inr ⟨rfl, List.mem_of_getElem? (i := 826) (by decide +kernel), List.mem_of_getElem? (i := 1573) (by decide +kernel), List.mem_of_getElem? (i := 828) (by decide +kernel), List.mem_append_left _ (List.mem_map.mpr ⟨_, List.mem_of_getElem? (i := 1) rfl, rfl⟩), rfl⟩)))), by decide +kernel⟩))))
theorem kx_wc_13_6 : kx_okC "java/lang/AbstractStringBuilder" 108 (4, 227, 2, 0) := Or.inr (Or.inr (Or.inr (Or.inr (Or.inr ⟨kx_m227, rfl, by decide +kernel, by decide +kernel, List.mem_of_getElem? (i := 89) (by decide +kernel), Or.inr (Or.inl ⟨rfl, List.mem_of_getElem? (i := 839) (by decide +kernel), List.mem_of_getElem? (i := 840) (by decide +kernel)⟩), by decide +kernel⟩))))
theorem kx_wc_13_7 : kx_okC "java/lang/AbstractStringBuilder" 114 (4, 228, 3, 0) := Or.inr (Or.inr (Or.inr (Or.inr (Or.inr ⟨kx_m228, rfl, by decide +kernel, by decide +kernel, List.mem_of_getElem? (i := 88) (by decide +kernel), Or.inr (Or.inl ⟨rfl, List.mem_of_getElem? (i := 830) (by decide +kernel), List.mem_of_getElem? (i := 831) (by decide +kernel)⟩), by decide +kernel⟩))))
theorem kx_wc_13_8 : kx_okC "java/lang/AbstractStringBuilder" 138 (21, 0, 0, 0) := Or.inr (Or.inl ⟨rfl, List.mem_of_getElem? (i := 930) (by decide +kernel)⟩)
theorem kx_wc_13_9 : kx_okC "java/lang/AbstractStringBuilder" 144 (4, 212, 2, 0) := Or.inr (Or.inr (Or.inr (Or.inr (Or.inr ⟨kx_m212, rfl, by decide +kernel, by decide +kernel, List.mem_of_getElem? (i := 82) (by decide +kernel), Or.inr (Or.inl ⟨rfl, List.mem_of_getElem? (i := 931) (by decide +kernel), List.mem_of_getElem? (i := 901) (by decide +kernel)⟩), by decide +kernel⟩))))
theorem kx_wc_13_10 : kx_okC "java/lang/AbstractStringBuilder" 191 (4, 225, 1, 0) := Or.inr (Or.inr (Or.inr (Or.inr (Or.inr ⟨kx_m225, rfl, by decide +kernel, by decide +kernel, List.mem_of_getElem? (i := 91) (by decide +kernel), Or.inr (Or.inl ⟨rfl, List.mem_of_getElem? (i := 858) (by decide +kernel), List.mem_of_getElem? (i := 859) (by decide +kernel)⟩), by decide +kernel⟩))))
theorem kx_wc_13_11 : kx_okC "java/lang/AbstractStringBuilder" 208 (9, 208, 2, 11) := Or.inr (Or.inr (Or.inr (Or.inr (Or.inr ⟨kx_m208, rfl, by decide +kernel, by decide +kernel, List.mem_of_getElem? (i := 80) (by decide +kernel), Or.inr (Or.inr (Or.inr (Or.inr (Or.inr ⟨rfl, List.mem_of_getElem? (i := 1083) (by decide +kernel), List.mem_of_getElem? (i := 1580) (by decide +kernel), List.mem_of_getElem? (i := 1085) (by decide +kernel), List.mem_append_left _ (List.mem_map.mpr ⟨_, List.mem_of_getElem? (i := 2) rfl, rfl⟩), rfl⟩)))), by decide +kernel⟩))))
theorem kx_wc_13_12 : kx_okC "java/lang/AbstractStringBuilder" 245 (4, 210, 1, 0) := Or.inr (Or.inr (Or.inr (Or.inr (Or.inr ⟨kx_m210, rfl, by decide +kernel, by decide +kernel, List.mem_of_getElem? (i := 93) (by decide +kernel), Or.inr (Or.inl ⟨rfl, List.mem_of_getElem? (i := 1028) (by decide +kernel), List.mem_of_getElem? (i := 1029) (by decide +kernel)⟩), by decide +kernel⟩))))
theorem kx_wc_13_13 : kx_okC "java/lang/AbstractStringBuilder" 248 (4, 211, 3, 0) := Or.inr (Or.inr (Or.inr (Or.inr (Or.inr ⟨kx_m211, rfl, by decide +kernel, by decide +kernel, List.mem_of_getElem? (i := 93) (by decide +kernel), Or.inr (Or.inl ⟨rfl, List.mem_of_getElem? (i := 1031) (by decide +kernel), List.mem_of_getElem? (i := 1032) (by decide +kernel)⟩), by decide +kernel⟩))))
theorem kx_wc_13_14 : kx_okC "java/lang/AbstractStringBuilder" 397 (9, 209, 1, 11) := Or.inr (Or.inr (Or.inr (Or.inr (Or.inr ⟨kx_m209, rfl, by decide +kernel, by decide +kernel, List.mem_of_getElem? (i := 80) (by decide +kernel), Or.inr (Or.inr (Or.inr (Or.inr (Or.inr ⟨rfl, List.mem_of_getElem? (i := 1087) (by decide +kernel), List.mem_of_getElem? (i := 1581) (by decide +kernel), List.mem_of_getElem? (i := 1089) (by decide +kernel), List.mem_append_left _ (List.mem_map.mpr ⟨_, List.mem_of_getElem? (i := 3) rfl, rfl⟩), rfl⟩)))), by decide +kernel⟩))))
theorem kx_wc_13_15 : kx_okC "java/lang/AbstractStringBuilder" 399 (3, 217, 3, 12) := Or.inr (Or.inr (Or.inr (Or.inr (Or.inr ⟨kx_m217, rfl, by decide +kernel, by decide +kernel, List.mem_of_getElem? (i := 82) (by decide +kernel), Or.inl ⟨rfl, List.mem_of_getElem? (i := 1092) (by decide +kernel), List.mem_of_getElem? (i := 1093) (by decide +kernel), List.mem_of_getElem? (i := 1094) (by decide +kernel), Or.inr ⟨rfl, rfl⟩⟩, by decide +kernel⟩))))
theorem kx_wc_13 : ∀ q ∈ (kx_calT.getD 13 []), kx_okC "java/lang/AbstractStringBuilder" q.1 q.2 := List.forall_mem_cons.mpr ⟨kx_wc_13_0, List.forall_mem_cons.mpr ⟨kx_wc_13_1, List.forall_mem_cons.mpr ⟨kx_wc_13_2, List.forall_mem_cons.mpr ⟨kx_wc_13_3, List.forall_mem_cons.mpr ⟨kx_wc_13_4, List.forall_mem_cons.mpr ⟨kx_wc_13_5, List.forall_mem_cons.mpr ⟨kx_wc_13_6, List.forall_mem_cons.mpr ⟨kx_wc_13_7, List.forall_mem_cons.mpr ⟨kx_wc_13_8, List.forall_mem_cons.mpr ⟨kx_wc_13_9, List.forall_mem_cons.mpr ⟨kx_wc_13_10, List.forall_mem_cons.mpr ⟨kx_wc_13_11, List.forall_mem_cons.mpr ⟨kx_wc_13_12, List.forall_mem_cons.mpr ⟨kx_wc_13_13, List.forall_mem_cons.mpr ⟨kx_wc_13_14, List.forall_mem_cons.mpr ⟨kx_wc_13_15, fun _ h => absurd h List.not_mem_nil⟩⟩⟩⟩⟩⟩⟩⟩⟩⟩⟩⟩⟩⟩⟩⟩
theorem kx_wc_14 : ∀ q ∈ (kx_calT.getD 14 []), kx_okC "java/lang/Integer" q.1 q.2 := fun _ h => absurd h List.not_mem_nil
theorem kx_wc_15_0 : kx_okC "java/lang/String" 212 (10, 0, 0, 0) := Or.inr (Or.inr (Or.inr (Or.inr (Or.inl ⟨rfl, List.mem_of_getElem? (i := 1096) (by decide +kernel)⟩))))
theorem kx_wc_15_1 : kx_okC "java/lang/String" 335 (3, 214, 0, 12) := Or.inr (Or.inr (Or.inr (Or.inr (Or.inr ⟨kx_m214, rfl, by decide +kernel, by decide +kernel, List.mem_of_getElem? (i := 82) (by decide +kernel), Or.inl ⟨rfl, List.mem_of_getElem? (i := 944) (by decide +kernel), List.mem_of_getElem? (i := 945) (by decide +kernel), List.mem_of_getElem? (i := 946) (by decide +kernel), Or.inr ⟨rfl, rfl⟩⟩, by decide +kernel⟩))))
theorem kx_wc_15_2 : kx_okC "java/lang/String" 492 (3, 216, 0, 12) := Or.inr (Or.inr (Or.inr (Or.inr (Or.inr ⟨kx_m216, rfl, by decide +kernel, by decide +kernel, List.mem_of_getElem? (i := 82) (by decide +kernel), Or.inl ⟨rfl, List.mem_of_getElem? (i := 953) (by decide +kernel), List.mem_of_getElem? (i := 954) (by decide +kernel), List.mem_of_getElem? (i := 955) (by decide +kernel), Or.inr ⟨rfl, rfl⟩⟩, by decide +kernel⟩))))
theorem kx_wc_15_3 : kx_okC "java/lang/String" 495 (4, 226, 2, 0) := Or.inr (Or.inr (Or.inr (Or.inr (Or.inr ⟨kx_m226, rfl, by decide +kernel, by decide +kernel, List.mem_of_getElem? (i := 91) (by decide +kernel), Or.inr (Or.inl ⟨rfl, List.mem_of_getElem? (i := 957) (by decide +kernel), List.mem_of_getElem? (i := 958) (by decide +kernel)⟩), by decide +kernel⟩))))
theorem kx_wc_15_4 : kx_okC "java/lang/String" 1059 (4, 229, 3, 0) := Or.inr (Or.inr (Or.inr (Or.inr (Or.inr ⟨kx_m229, rfl, by decide +kernel, by decide +kernel, List.mem_of_getElem? (i := 92) (by decide +kernel), Or.inr (Or.inl ⟨rfl, List.mem_of_getElem? (i := 903) (by decide +kernel), List.mem_of_getElem? (i := 904) (by decide +kernel)⟩), by decide +kernel⟩))))
theorem kx_wc_15 : ∀ q ∈ (kx_calT.getD 15 []), kx_okC "java/lang/String" q.1 q.2 := List.forall_mem_cons.mpr ⟨kx_wc_15_0, List.forall_mem_cons.mpr ⟨kx_wc_15_1, List.forall_mem_cons.mpr ⟨kx_wc_15_2, List.forall_mem_cons.mpr ⟨kx_wc_15_3, List.forall_mem_cons.mpr ⟨kx_wc_15_4, fun _ h => absurd h List.not_mem_nil⟩⟩⟩⟩⟩
theorem kx_wc_16_0 : kx_okC "java/lang/StringBuilder" 1 (5, 198, 1, 0) := Or.inr (Or.inr (Or.inr (Or.inr (Or.inr ⟨kx_m198, rfl, by decide +kernel, by decide +kernel, List.mem_of_getElem? (i := 80) (by decide +kernel), Or.inr (Or.inr (Or.inl ⟨rfl, List.mem_of_getElem? (i := 384) (by decide +kernel), List.mem_of_getElem? (i := 385) (by decide +kernel), rfl⟩)), by decide +kernel⟩))))
theorem kx_wc_16_1 : kx_okC "java/lang/StringBuilder" 29 (8, 207, 1, 11) := Or.inr (Or.inr (Or.inr (Or.inr (Or.inr ⟨kx_m207, rfl, by decide +kernel, by decide +kernel, List.mem_of_getElem? (i := 80) (by decide +kernel), Or.inr (Or.inr (Or.inr (Or.inr (Or.inl ⟨rfl, List.mem_of_getElem? (i := 1072) (by decide +kernel), List.mem_of_getElem? (i := 1578) (by decide +kernel), List.mem_of_getElem? (i := 409) (by decide +kernel), List.mem_of_getElem? (i := 1073) (by decide +kernel), by decide +kernel, rfl⟩)))), by decide +kernel⟩))))
theorem kx_wc_16_2 : kx_okC "java/lang/StringBuilder" 50 (8, 200, 1, 11) := Or.inr (Or.inr (Or.inr (Or.inr (Or.inr ⟨kx_m200, rfl, by decide +kernel, by decide +kernel, List.mem_of_getElem? (i := 80) (by decide +kernel), Or.inr (Or.inr (Or.inr (Or.inr (Or.inl ⟨rfl, List.mem_of_getElem? (i := 819) (by decide +kernel), List.mem_of_getElem? (i := 1571) (by decide +kernel), List.mem_of_getElem? (i := 409) (by decide +kernel), List.mem_of_getElem? (i := 820) (by decide +kernel), by decide +kernel, rfl⟩)))), by decide +kernel⟩))))
theorem kx_wc_16_3 : kx_okC "java/lang/StringBuilder" 53 (8, 206, 1, 11) := Or.inr (Or.inr (Or.inr (Or.inr (Or.inr ⟨kx_m206, rfl, by decide +kernel, by decide +kernel, List.mem_of_getElem? (i := 80) (by decide +kernel), Or.inr (Or.inr (Or.inr (Or.inr (Or.inl ⟨rfl, List.mem_of_getElem? (i := 1025) (by decide +kernel), List.mem_of_getElem? (i := 1577) (by decide +kernel), List.mem_of_getElem? (i := 409) (by decide +kernel), List.mem_of_getElem? (i := 1026) (by decide +kernel), by decide +kernel, rfl⟩)))), by decide +kernel⟩))))
theorem kx_wc_16_4 : kx_okC "java/lang/StringBuilder" 329 (8, 204, 1, 11) := Or.inr (Or.inr (Or.inr (Or.inr (Or.inr ⟨kx_m204, rfl, by decide +kernel, by decide +kernel, List.mem_of_getElem? (i := 80) (by decide +kernel), Or.inr (Or.inr (Or.inr (Or.inr (Or.inl ⟨rfl, List.mem_of_getElem? (i := 927) (by decide +kernel), List.mem_of_getElem? (i := 1575) (by decide +kernel), List.mem_of_getElem? (i := 409) (by decide +kernel), List.mem_of_getElem? (i := 928) (by decide +kernel), by decide +kernel, rfl⟩)))), by decide +kernel⟩))))
theorem kx_wc_16_5 : kx_okC "java/lang/StringBuilder" 333 (8, 205, 1, 11) := Or.inr (Or.inr (Or.inr (Or.inr (Or.inr ⟨kx_m205, rfl, by decide +kernel, by decide +kernel, List.mem_of_getElem? (i := 80) (by decide +kernel), Or.inr (Or.inr (Or.inr (Or.inr (Or.inl ⟨rfl, List.mem_of_getElem? (i := 988) (by decide +kernel), List.mem_of_getElem? (i := 1576) (by decide +kernel), List.mem_of_getElem? (i := 409) (by decide +kernel), List.mem_of_getElem? (i := 989) (by decide +kernel), by decide +kernel, rfl⟩)))), by decide +kernel⟩))))
theorem kx_wc_16_6 : kx_okC "java/lang/StringBuilder" 343 (8, 199, 0, 11) := Or.inr (Or.inr (Or.inr (Or.inr (Or.inr ⟨kx_m199, rfl, by decide +kernel, by decide +kernel, List.mem_of_getElem? (i := 80) (by decide +kernel), Or.inr (Or.inr (Or.inr (Or.inr (Or.inl ⟨rfl, List.mem_of_getElem? (i := 812) (by decide +kernel), List.mem_of_getElem? (i := 1570) (by decide +kernel), List.mem_of_getElem? (i := 409) (by decide +kernel), List.mem_of_getElem? (i := 813) (by decide +kernel), by decide +kernel, rfl⟩)))), by decide +kernel⟩))))
theorem kx_wc_16 : ∀ q ∈ (kx_calT.getD 16 []), kx_okC "java/lang/StringBuilder" q.1 q.2 := List.forall_mem_cons.mpr ⟨kx_wc_16_0, List.forall_mem_cons.mpr ⟨kx_wc_16_1, List.forall_mem_cons.mpr ⟨kx_wc_16_2, List.forall_mem_cons.mpr ⟨kx_wc_16_3, List.forall_mem_cons.mpr ⟨kx_wc_16_4, List.forall_mem_cons.mpr ⟨kx_wc_16_5, List.forall_mem_cons.mpr ⟨kx_wc_16_6, fun _ h => absurd h List.not_mem_nil⟩⟩⟩⟩⟩⟩⟩
theorem kx_wc_17_0 : kx_okC "java/lang/StringLatin1" 9 (4, 212, 2, 0) := Or.inr (Or.inr (Or.inr (Or.inr (Or.inr ⟨kx_m212, rfl, by decide +kernel, by decide +kernel, List.mem_of_getElem? (i := 82) (by decide +kernel), Or.inr (Or.inl ⟨rfl, List.mem_of_getElem? (i := 960) (by decide +kernel), List.mem_of_getElem? (i := 901) (by decide +kernel)⟩), by decide +kernel⟩))))
theorem kx_wc_17 : ∀ q ∈ (kx_calT.getD 17 []), kx_okC "java/lang/StringLatin1" q.1 q.2 := List.forall_mem_cons.mpr ⟨kx_wc_17_0, fun _ h => absurd h List.not_mem_nil⟩
theorem kx_wc_18_0 : kx_okC "java/util/Arrays" 150 (10, 0, 0, 0) := Or.inr (Or.inr (Or.inr (Or.inr (Or.inl ⟨rfl, List.mem_of_getElem? (i := 850) (by decide +kernel)⟩))))
theorem kx_wc_18_1 : kx_okC "java/util/Arrays" 304 (21, 0, 0, 0) := Or.inr (Or.inl ⟨rfl, List.mem_of_getElem? (i := 849) (by decide +kernel)⟩)
theorem kx_wc_18 : ∀ q ∈ (kx_calT.getD 18 []), kx_okC "java/util/Arrays" q.1 q.2 := List.forall_mem_cons.mpr ⟨kx_wc_18_0, List.forall_mem_cons.mpr ⟨kx_wc_18_1, fun _ h => absurd h List.not_mem_nil⟩⟩
theorem kx_wc_19_0 : kx_okC "jdk/internal/util/ArraysSupport" 194 (20, 0, 0, 0) := Or.inl ⟨rfl, List.mem_of_getElem? (i := 833) (by decide +kernel)⟩
theorem kx_wc_19 : ∀ q ∈ (kx_calT.getD 19 []), kx_okC "jdk/internal/util/ArraysSupport" q.1 q.2 := List.forall_mem_cons.mpr ⟨kx_wc_19_0, fun _ h => absurd h List.not_mem_nil⟩
theorem kx_wc_20 : ∀ q ∈ (kx_calT.getD 20 []), kx_okC "jdk/internal/util/Preconditions" q.1 q.2 := fun _ h => absurd h List.not_mem_nil
theorem kx_wc_21 : ∀ q ∈ (kx_calT.getD 21 []), kx_okC "java/lang/Math" q.1 q.2 := fun _ h => absurd h List.not_mem_nil
theorem kx_wc_all : ∀ (k : Nat) (o : String) l, kx_on[k]? = some o → kx_calT[k]? = some l → ∀ q ∈ l, kx_okC o q.1 q.2 := kx_fa1 (P := fun (o : String) (q : Nat × (Nat × Nat × Nat × Nat)) => kx_okC o q.1 q.2) kx_wc_0 (kx_fa1 (P := fun (o : String) (q : Nat × (Nat × Nat × Nat × Nat)) => kx_okC o q.1 q.2) kx_wc_1 (kx_fa1 (P := fun (o : String) (q : Nat × (Nat × Nat × Nat × Nat)) => kx_okC o q.1 q.2) kx_wc_2 (kx_fa1 (P := fun (o : String) (q : Nat × (Nat × Nat × Nat × Nat)) => kx_okC o q.1 q.2) kx_wc_3 (kx_fa1 (P := fun (o : String) (q : Nat × (Nat × Nat × Nat × Nat)) => kx_okC o q.1 q.2) kx_wc_4 (kx_fa1 (P := fun (o : String) (q : Nat × (Nat × Nat × Nat × Nat)) => kx_okC o q.1 q.2) kx_wc_5 (kx_fa1 (P := fun (o : String) (q : Nat × (Nat × Nat × Nat × Nat)) => kx_okC o q.1 q.2) kx_wc_6 (kx_fa1 (P := fun (o : String) (q : Nat × (Nat × Nat × Nat × Nat)) => kx_okC o q.1 q.2) kx_wc_7 (kx_fa1 (P := fun (o : String) (q : Nat × (Nat × Nat × Nat × Nat)) => kx_okC o q.1 q.2) kx_wc_8 (kx_fa1 (P := fun (o : String) (q : Nat × (Nat × Nat × Nat × Nat)) => kx_okC o q.1 q.2) kx_wc_9 (kx_fa1 (P := fun (o : String) (q : Nat × (Nat × Nat × Nat × Nat)) => kx_okC o q.1 q.2) kx_wc_10 (kx_fa1 (P := fun (o : String) (q : Nat × (Nat × Nat × Nat × Nat)) => kx_okC o q.1 q.2) kx_wc_11 (kx_fa1 (P := fun (o : String) (q : Nat × (Nat × Nat × Nat × Nat)) => kx_okC o q.1 q.2) kx_wc_12 (kx_fa1 (P := fun (o : String) (q : Nat × (Nat × Nat × Nat × Nat)) => kx_okC o q.1 q.2) kx_wc_13 (kx_fa1 (P := fun (o : String) (q : Nat × (Nat × Nat × Nat × Nat)) => kx_okC o q.1 q.2) kx_wc_14 (kx_fa1 (P := fun (o : String) (q : Nat × (Nat × Nat × Nat × Nat)) => kx_okC o q.1 q.2) kx_wc_15 (kx_fa1 (P := fun (o : String) (q : Nat × (Nat × Nat × Nat × Nat)) => kx_okC o q.1 q.2) kx_wc_16 (kx_fa1 (P := fun (o : String) (q : Nat × (Nat × Nat × Nat × Nat)) => kx_okC o q.1 q.2) kx_wc_17 (kx_fa1 (P := fun (o : String) (q : Nat × (Nat × Nat × Nat × Nat)) => kx_okC o q.1 q.2) kx_wc_18 (kx_fa1 (P := fun (o : String) (q : Nat × (Nat × Nat × Nat × Nat)) => kx_okC o q.1 q.2) kx_wc_19 (kx_fa1 (P := fun (o : String) (q : Nat × (Nat × Nat × Nat × Nat)) => kx_okC o q.1 q.2) kx_wc_20 (kx_fa1 (P := fun (o : String) (q : Nat × (Nat × Nat × Nat × Nat)) => kx_okC o q.1 q.2) kx_wc_21 (kx_fa0))))))))))))))))))))))
theorem kx_wc_ok {k n : Nat} {o : String} {r} (ho : kx_on[k]? = some o) (h : kx_look kx_calT k n = some r) : kx_okC o n r := by
  obtain ⟨l, h1, h2⟩ := kx_look_mem h
  exact kx_wc_all k o l ho h1 _ h2
theorem kx_wk0_0 : kx_ckr kx_m0 0 = true := by decide +kernel
theorem kx_wk0_1 : kx_ckr kx_m0 1 = true := by decide +kernel
theorem kx_wk0_2 : kx_ckr kx_m0 2 = true := by decide +kernel
theorem kx_wk0_3 : kx_ckr kx_m0 3 = true := by decide +kernel
theorem kx_wk0_4 : kx_ckr kx_m0 4 = true := by decide +kernel
theorem kx_wk0_5 : kx_ckr kx_m0 5 = true := by decide +kernel
theorem kx_wk0_6 : kx_ckr kx_m0 6 = true := by decide +kernel
theorem kx_wk0_7 : kx_ckr kx_m0 7 = true := by decide +kernel
theorem kx_wk0_8 : kx_ckr kx_m0 8 = true := by decide +kernel
theorem kx_wk0_9 : kx_ckr kx_m0 9 = true := by decide +kernel
theorem kx_wk0_10 : kx_ckr kx_m0 10 = true := by decide +kernel
theorem kx_wk0_11 : kx_ckr kx_m0 11 = true := by decide +kernel
theorem kx_wk0_12 : kx_ckr kx_m0 12 = true := by decide +kernel
theorem kx_wk0_13 : kx_ckr kx_m0 13 = true := by decide +kernel
theorem kx_wk0_14 : kx_ckr kx_m0 14 = true := by decide +kernel
theorem kx_wk0_15 : kx_ckr kx_m0 15 = true := by decide +kernel
theorem kx_wk0_16 : kx_ckr kx_m0 16 = true := by decide +kernel
theorem kx_wk0_17 : kx_ckr kx_m0 17 = true := by decide +kernel
theorem kx_wk0_18 : kx_ckr kx_m0 18 = true := by decide +kernel
theorem kx_wk0_19 : kx_ckr kx_m0 19 = true := by decide +kernel
theorem kx_wk0_20 : kx_ckr kx_m0 20 = true := by decide +kernel
theorem kx_wk0_21 : kx_ckr kx_m0 21 = true := by decide +kernel
theorem kx_wk0_22 : kx_ckr kx_m0 22 = true := by decide +kernel
theorem kx_wk0_23 : kx_ckr kx_m0 23 = true := by decide +kernel
theorem kx_wk0_24 : kx_ckr kx_m0 24 = true := by decide +kernel
theorem kx_wk0_25 : kx_ckr kx_m0 25 = true := by decide +kernel
theorem kx_wk0_26 : kx_ckr kx_m0 26 = true := by decide +kernel
theorem kx_wk0_27 : kx_ckr kx_m0 27 = true := by decide +kernel
theorem kx_wk0_28 : kx_ckr kx_m0 28 = true := by decide +kernel
theorem kx_wk0_29 : kx_ckr kx_m0 29 = true := by decide +kernel
theorem kx_wk0_30 : kx_ckr kx_m0 30 = true := by decide +kernel
theorem kx_wk0_31 : kx_ckr kx_m0 31 = true := by decide +kernel
theorem kx_wk0_32 : kx_ckr kx_m0 32 = true := by decide +kernel
theorem kx_wk0_33 : kx_ckr kx_m0 33 = true := by decide +kernel
theorem kx_wk0_34 : kx_ckr kx_m0 34 = true := by decide +kernel
theorem kx_wk0_35 : kx_ckr kx_m0 35 = true := by decide +kernel
theorem kx_wk0_36 : kx_ckr kx_m0 36 = true := by decide +kernel
theorem kx_wk0_37 : kx_ckr kx_m0 37 = true := by decide +kernel
theorem kx_wk0_38 : kx_ckr kx_m0 38 = true := by decide +kernel
theorem kx_wk0_39 : kx_ckr kx_m0 39 = true := by decide +kernel
theorem kx_wk0_40 : kx_ckr kx_m0 40 = true := by decide +kernel
theorem kx_wk0_41 : kx_ckr kx_m0 41 = true := by decide +kernel
theorem kx_wk0_42 : kx_ckr kx_m0 42 = true := by decide +kernel
theorem kx_wk0_43 : kx_ckr kx_m0 43 = true := by decide +kernel
theorem kx_wk0_44 : kx_ckr kx_m0 44 = true := by decide +kernel
theorem kx_wk0_45 : kx_ckr kx_m0 45 = true := by decide +kernel
theorem kx_wk0_46 : kx_ckr kx_m0 46 = true := by decide +kernel
theorem kx_wk0_47 : kx_ckr kx_m0 47 = true := by decide +kernel
theorem kx_wk0_48 : kx_ckr kx_m0 48 = true := by decide +kernel
theorem kx_wk0_49 : kx_ckr kx_m0 49 = true := by decide +kernel
theorem kx_wk0_50 : kx_ckr kx_m0 50 = true := by decide +kernel
theorem kx_wk0_51 : kx_ckr kx_m0 51 = true := by decide +kernel
theorem kx_wk0_52 : kx_ckr kx_m0 52 = true := by decide +kernel
theorem kx_wk0_53 : kx_ckr kx_m0 53 = true := by decide +kernel
theorem kx_wk0_54 : kx_ckr kx_m0 54 = true := by decide +kernel
theorem kx_wk0_55 : kx_ckr kx_m0 55 = true := by decide +kernel
theorem kx_wk0_56 : kx_ckr kx_m0 56 = true := by decide +kernel
theorem kx_wk0_57 : kx_ckr kx_m0 57 = true := by decide +kernel
theorem kx_wk0_58 : kx_ckr kx_m0 58 = true := by decide +kernel
theorem kx_wk0_59 : kx_ckr kx_m0 59 = true := by decide +kernel
theorem kx_wk0_60 : kx_ckr kx_m0 60 = true := by decide +kernel
theorem kx_wk0_61 : kx_ckr kx_m0 61 = true := by decide +kernel
theorem kx_wk0_62 : kx_ckr kx_m0 62 = true := by decide +kernel
theorem kx_wk0_63 : kx_ckr kx_m0 63 = true := by decide +kernel
theorem kx_wk0_64 : kx_ckr kx_m0 64 = true := by decide +kernel
theorem kx_wk0 : kx_ckc kx_m0 := fun k hk => match k, hk with
  | 0, _ => kx_wk0_0
  | 1, _ => kx_wk0_1
  | 2, _ => kx_wk0_2
  | 3, _ => kx_wk0_3
  | 4, _ => kx_wk0_4
  | 5, _ => kx_wk0_5
  | 6, _ => kx_wk0_6
  | 7, _ => kx_wk0_7
  | 8, _ => kx_wk0_8
  | 9, _ => kx_wk0_9
  | 10, _ => kx_wk0_10
  | 11, _ => kx_wk0_11
  | 12, _ => kx_wk0_12
  | 13, _ => kx_wk0_13
  | 14, _ => kx_wk0_14
  | 15, _ => kx_wk0_15
  | 16, _ => kx_wk0_16
  | 17, _ => kx_wk0_17
  | 18, _ => kx_wk0_18
  | 19, _ => kx_wk0_19
  | 20, _ => kx_wk0_20
  | 21, _ => kx_wk0_21
  | 22, _ => kx_wk0_22
  | 23, _ => kx_wk0_23
  | 24, _ => kx_wk0_24
  | 25, _ => kx_wk0_25
  | 26, _ => kx_wk0_26
  | 27, _ => kx_wk0_27
  | 28, _ => kx_wk0_28
  | 29, _ => kx_wk0_29
  | 30, _ => kx_wk0_30
  | 31, _ => kx_wk0_31
  | 32, _ => kx_wk0_32
  | 33, _ => kx_wk0_33
  | 34, _ => kx_wk0_34
  | 35, _ => kx_wk0_35
  | 36, _ => kx_wk0_36
  | 37, _ => kx_wk0_37
  | 38, _ => kx_wk0_38
  | 39, _ => kx_wk0_39
  | 40, _ => kx_wk0_40
  | 41, _ => kx_wk0_41
  | 42, _ => kx_wk0_42
  | 43, _ => kx_wk0_43
  | 44, _ => kx_wk0_44
  | 45, _ => kx_wk0_45
  | 46, _ => kx_wk0_46
  | 47, _ => kx_wk0_47
  | 48, _ => kx_wk0_48
  | 49, _ => kx_wk0_49
  | 50, _ => kx_wk0_50
  | 51, _ => kx_wk0_51
  | 52, _ => kx_wk0_52
  | 53, _ => kx_wk0_53
  | 54, _ => kx_wk0_54
  | 55, _ => kx_wk0_55
  | 56, _ => kx_wk0_56
  | 57, _ => kx_wk0_57
  | 58, _ => kx_wk0_58
  | 59, _ => kx_wk0_59
  | 60, _ => kx_wk0_60
  | 61, _ => kx_wk0_61
  | 62, _ => kx_wk0_62
  | 63, _ => kx_wk0_63
  | 64, _ => kx_wk0_64
  | k + 65, h => absurd (show k + 65 < 65 from h) (by omega)
theorem kx_wm0 : kx_okM kx_m0 := ⟨kx_wk0, rfl, Or.inl rfl⟩
theorem kx_wk1_0 : kx_ckr kx_m1 0 = true := by decide +kernel
theorem kx_wk1_1 : kx_ckr kx_m1 1 = true := by decide +kernel
theorem kx_wk1_2 : kx_ckr kx_m1 2 = true := by decide +kernel
theorem kx_wk1_3 : kx_ckr kx_m1 3 = true := by decide +kernel
theorem kx_wk1_4 : kx_ckr kx_m1 4 = true := by decide +kernel
theorem kx_wk1_5 : kx_ckr kx_m1 5 = true := by decide +kernel
theorem kx_wk1_6 : kx_ckr kx_m1 6 = true := by decide +kernel
theorem kx_wk1 : kx_ckc kx_m1 := fun k hk => match k, hk with
  | 0, _ => kx_wk1_0
  | 1, _ => kx_wk1_1
  | 2, _ => kx_wk1_2
  | 3, _ => kx_wk1_3
  | 4, _ => kx_wk1_4
  | 5, _ => kx_wk1_5
  | 6, _ => kx_wk1_6
  | k + 7, h => absurd (show k + 7 < 7 from h) (by omega)
theorem kx_wm1 : kx_okM kx_m1 := ⟨kx_wk1, rfl, Or.inr ⟨List.mem_of_getElem? (i := 98) (by decide +kernel), by decide +kernel, by decide +kernel, by decide +kernel⟩⟩
theorem kx_wk2_0 : kx_ckr kx_m2 0 = true := by decide +kernel
theorem kx_wk2_1 : kx_ckr kx_m2 1 = true := by decide +kernel
theorem kx_wk2_2 : kx_ckr kx_m2 2 = true := by decide +kernel
theorem kx_wk2 : kx_ckc kx_m2 := fun k hk => match k, hk with
  | 0, _ => kx_wk2_0
  | 1, _ => kx_wk2_1
  | 2, _ => kx_wk2_2
  | k + 3, h => absurd (show k + 3 < 3 from h) (by omega)
theorem kx_wm2 : kx_okM kx_m2 := ⟨kx_wk2, rfl, Or.inr ⟨List.mem_of_getElem? (i := 491) (by decide +kernel), by decide +kernel, by decide +kernel, by decide +kernel⟩⟩
theorem kx_wk3_0 : kx_ckr kx_m3 0 = true := by decide +kernel
theorem kx_wk3 : kx_ckc kx_m3 := fun k hk => match k, hk with
  | 0, _ => kx_wk3_0
  | k + 1, h => absurd (show k + 1 < 1 from h) (by omega)
theorem kx_wm3 : kx_okM kx_m3 := ⟨kx_wk3, rfl, Or.inr ⟨List.mem_of_getElem? (i := 497) (by decide +kernel), by decide +kernel, by decide +kernel, by decide +kernel⟩⟩
theorem kx_wk4_0 : kx_ckr kx_m4 0 = true := by decide +kernel
theorem kx_wk4_1 : kx_ckr kx_m4 1 = true := by decide +kernel
theorem kx_wk4 : kx_ckc kx_m4 := fun k hk => match k, hk with
  | 0, _ => kx_wk4_0
  | 1, _ => kx_wk4_1
  | k + 2, h => absurd (show k + 2 < 2 from h) (by omega)
theorem kx_wm4 : kx_okM kx_m4 := ⟨kx_wk4, rfl, Or.inr ⟨List.mem_of_getElem? (i := 514) (by decide +kernel), by decide +kernel, by decide +kernel, by decide +kernel⟩⟩
theorem kx_wk5_0 : kx_ckr kx_m5 0 = true := by decide +kernel
theorem kx_wk5_1 : kx_ckr kx_m5 1 = true := by decide +kernel
theorem kx_wk5 : kx_ckc kx_m5 := fun k hk => match k, hk with
  | 0, _ => kx_wk5_0
  | 1, _ => kx_wk5_1
  | k + 2, h => absurd (show k + 2 < 2 from h) (by omega)
theorem kx_wm5 : kx_okM kx_m5 := ⟨kx_wk5, rfl, Or.inr ⟨List.mem_of_getElem? (i := 528) (by decide +kernel), by decide +kernel, by decide +kernel, by decide +kernel⟩⟩
theorem kx_wk6_0 : kx_ckr kx_m6 0 = true := by decide +kernel
theorem kx_wk6_1 : kx_ckr kx_m6 1 = true := by decide +kernel
theorem kx_wk6 : kx_ckc kx_m6 := fun k hk => match k, hk with
  | 0, _ => kx_wk6_0
  | 1, _ => kx_wk6_1
  | k + 2, h => absurd (show k + 2 < 2 from h) (by omega)
theorem kx_wm6 : kx_okM kx_m6 := ⟨kx_wk6, rfl, Or.inr ⟨List.mem_of_getElem? (i := 539) (by decide +kernel), by decide +kernel, by decide +kernel, by decide +kernel⟩⟩
theorem kx_wk7_0 : kx_ckr kx_m7 0 = true := by decide +kernel
theorem kx_wk7_1 : kx_ckr kx_m7 1 = true := by decide +kernel
theorem kx_wk7_2 : kx_ckr kx_m7 2 = true := by decide +kernel
theorem kx_wk7_3 : kx_ckr kx_m7 3 = true := by decide +kernel
theorem kx_wk7_4 : kx_ckr kx_m7 4 = true := by decide +kernel
theorem kx_wk7_5 : kx_ckr kx_m7 5 = true := by decide +kernel
theorem kx_wk7 : kx_ckc kx_m7 := fun k hk => match k, hk with
  | 0, _ => kx_wk7_0
  | 1, _ => kx_wk7_1
  | 2, _ => kx_wk7_2
  | 3, _ => kx_wk7_3
  | 4, _ => kx_wk7_4
  | 5, _ => kx_wk7_5
  | k + 6, h => absurd (show k + 6 < 6 from h) (by omega)
theorem kx_wm7 : kx_okM kx_m7 := ⟨kx_wk7, rfl, Or.inr ⟨List.mem_of_getElem? (i := 555) (by decide +kernel), by decide +kernel, by decide +kernel, by decide +kernel⟩⟩
theorem kx_wk8_0 : kx_ckr kx_m8 0 = true := by decide +kernel
theorem kx_wk8 : kx_ckc kx_m8 := fun k hk => match k, hk with
  | 0, _ => kx_wk8_0
  | k + 1, h => absurd (show k + 1 < 1 from h) (by omega)
theorem kx_wm8 : kx_okM kx_m8 := ⟨kx_wk8, rfl, Or.inr ⟨List.mem_of_getElem? (i := 558) (by decide +kernel), by decide +kernel, by decide +kernel, by decide +kernel⟩⟩
theorem kx_wk9_0 : kx_ckr kx_m9 0 = true := by decide +kernel
theorem kx_wk9 : kx_ckc kx_m9 := fun k hk => match k, hk with
  | 0, _ => kx_wk9_0
  | k + 1, h => absurd (show k + 1 < 1 from h) (by omega)
theorem kx_wm9 : kx_okM kx_m9 := ⟨kx_wk9, rfl, Or.inr ⟨List.mem_of_getElem? (i := 566) (by decide +kernel), by decide +kernel, by decide +kernel, by decide +kernel⟩⟩
theorem kx_wk10_0 : kx_ckr kx_m10 0 = true := by decide +kernel
theorem kx_wk10_1 : kx_ckr kx_m10 1 = true := by decide +kernel
theorem kx_wk10 : kx_ckc kx_m10 := fun k hk => match k, hk with
  | 0, _ => kx_wk10_0
  | 1, _ => kx_wk10_1
  | k + 2, h => absurd (show k + 2 < 2 from h) (by omega)
theorem kx_wm10 : kx_okM kx_m10 := ⟨kx_wk10, rfl, Or.inr ⟨List.mem_of_getElem? (i := 578) (by decide +kernel), by decide +kernel, by decide +kernel, by decide +kernel⟩⟩
theorem kx_wk11_0 : kx_ckr kx_m11 0 = true := by decide +kernel
theorem kx_wk11_1 : kx_ckr kx_m11 1 = true := by decide +kernel
theorem kx_wk11 : kx_ckc kx_m11 := fun k hk => match k, hk with
  | 0, _ => kx_wk11_0
  | 1, _ => kx_wk11_1
  | k + 2, h => absurd (show k + 2 < 2 from h) (by omega)
theorem kx_wm11 : kx_okM kx_m11 := ⟨kx_wk11, rfl, Or.inr ⟨List.mem_of_getElem? (i := 590) (by decide +kernel), by decide +kernel, by decide +kernel, by decide +kernel⟩⟩
theorem kx_wk12_0 : kx_ckr kx_m12 0 = true := by decide +kernel
theorem kx_wk12_1 : kx_ckr kx_m12 1 = true := by decide +kernel
theorem kx_wk12_2 : kx_ckr kx_m12 2 = true := by decide +kernel
theorem kx_wk12_3 : kx_ckr kx_m12 3 = true := by decide +kernel
theorem kx_wk12 : kx_ckc kx_m12 := fun k hk => match k, hk with
  | 0, _ => kx_wk12_0
  | 1, _ => kx_wk12_1
  | 2, _ => kx_wk12_2
  | 3, _ => kx_wk12_3
  | k + 4, h => absurd (show k + 4 < 4 from h) (by omega)
theorem kx_wm12 : kx_okM kx_m12 := ⟨kx_wk12, rfl, Or.inr ⟨List.mem_of_getElem? (i := 594) (by decide +kernel), by decide +kernel, by decide +kernel, by decide +kernel⟩⟩
theorem kx_wk13_0 : kx_ckr kx_m13 0 = true := by decide +kernel
theorem kx_wk13_1 : kx_ckr kx_m13 1 = true := by decide +kernel
theorem kx_wk13 : kx_ckc kx_m13 := fun k hk => match k, hk with
  | 0, _ => kx_wk13_0
  | 1, _ => kx_wk13_1
  | k + 2, h => absurd (show k + 2 < 2 from h) (by omega)
theorem kx_wm13 : kx_okM kx_m13 := ⟨kx_wk13, rfl, Or.inr ⟨List.mem_of_getElem? (i := 598) (by decide +kernel), by decide +kernel, by decide +kernel, by decide +kernel⟩⟩
theorem kx_wk14_0 : kx_ckr kx_m14 0 = true := by decide +kernel
theorem kx_wk14_1 : kx_ckr kx_m14 1 = true := by decide +kernel
theorem kx_wk14 : kx_ckc kx_m14 := fun k hk => match k, hk with
  | 0, _ => kx_wk14_0
  | 1, _ => kx_wk14_1
  | k + 2, h => absurd (show k + 2 < 2 from h) (by omega)
theorem kx_wm14 : kx_okM kx_m14 := ⟨kx_wk14, rfl, Or.inr ⟨List.mem_of_getElem? (i := 610) (by decide +kernel), by decide +kernel, by decide +kernel, by decide +kernel⟩⟩
theorem kx_wk15_0 : kx_ckr kx_m15 0 = true := by decide +kernel
theorem kx_wk15_1 : kx_ckr kx_m15 1 = true := by decide +kernel
theorem kx_wk15_2 : kx_ckr kx_m15 2 = true := by decide +kernel
theorem kx_wk15_3 : kx_ckr kx_m15 3 = true := by decide +kernel
theorem kx_wk15 : kx_ckc kx_m15 := fun k hk => match k, hk with
  | 0, _ => kx_wk15_0
  | 1, _ => kx_wk15_1
  | 2, _ => kx_wk15_2
  | 3, _ => kx_wk15_3
  | k + 4, h => absurd (show k + 4 < 4 from h) (by omega)
theorem kx_wm15 : kx_okM kx_m15 := ⟨kx_wk15, rfl, Or.inr ⟨List.mem_of_getElem? (i := 614) (by decide +kernel), by decide +kernel, by decide +kernel, by decide +kernel⟩⟩
theorem kx_wk16_0 : kx_ckr kx_m16 0 = true := by decide +kernel
theorem kx_wk16_1 : kx_ckr kx_m16 1 = true := by decide +kernel
theorem kx_wk16_2 : kx_ckr kx_m16 2 = true := by decide +kernel
theorem kx_wk16_3 : kx_ckr kx_m16 3 = true := by decide +kernel
theorem kx_wk16 : kx_ckc kx_m16 := fun k hk => match k, hk with
  | 0, _ => kx_wk16_0
  | 1, _ => kx_wk16_1
  | 2, _ => kx_wk16_2
  | 3, _ => kx_wk16_3
  | k + 4, h => absurd (show k + 4 < 4 from h) (by omega)
theorem kx_wm16 : kx_okM kx_m16 := ⟨kx_wk16, rfl, Or.inr ⟨List.mem_of_getElem? (i := 622) (by decide +kernel), by decide +kernel, by decide +kernel, by decide +kernel⟩⟩
theorem kx_wk17_0 : kx_ckr kx_m17 0 = true := by decide +kernel
theorem kx_wk17_1 : kx_ckr kx_m17 1 = true := by decide +kernel
theorem kx_wk17_2 : kx_ckr kx_m17 2 = true := by decide +kernel
theorem kx_wk17_3 : kx_ckr kx_m17 3 = true := by decide +kernel
theorem kx_wk17_4 : kx_ckr kx_m17 4 = true := by decide +kernel
theorem kx_wk17_5 : kx_ckr kx_m17 5 = true := by decide +kernel
theorem kx_wk17_6 : kx_ckr kx_m17 6 = true := by decide +kernel
theorem kx_wk17 : kx_ckc kx_m17 := fun k hk => match k, hk with
  | 0, _ => kx_wk17_0
  | 1, _ => kx_wk17_1
  | 2, _ => kx_wk17_2
  | 3, _ => kx_wk17_3
  | 4, _ => kx_wk17_4
  | 5, _ => kx_wk17_5
  | 6, _ => kx_wk17_6
  | k + 7, h => absurd (show k + 7 < 7 from h) (by omega)
theorem kx_wm17 : kx_okM kx_m17 := ⟨kx_wk17, rfl, Or.inr ⟨List.mem_of_getElem? (i := 637) (by decide +kernel), by decide +kernel, by decide +kernel, by decide +kernel⟩⟩
theorem kx_wk18_0 : kx_ckr kx_m18 0 = true := by decide +kernel
theorem kx_wk18_1 : kx_ckr kx_m18 1 = true := by decide +kernel
theorem kx_wk18_2 : kx_ckr kx_m18 2 = true := by decide +kernel
theorem kx_wk18_3 : kx_ckr kx_m18 3 = true := by decide +kernel
theorem kx_wk18_4 : kx_ckr kx_m18 4 = true := by decide +kernel
theorem kx_wk18_5 : kx_ckr kx_m18 5 = true := by decide +kernel
theorem kx_wk18_6 : kx_ckr kx_m18 6 = true := by decide +kernel
theorem kx_wk18_7 : kx_ckr kx_m18 7 = true := by decide +kernel
theorem kx_wk18_8 : kx_ckr kx_m18 8 = true := by decide +kernel
theorem kx_wk18_9 : kx_ckr kx_m18 9 = true := by decide +kernel
theorem kx_wk18 : kx_ckc kx_m18 := fun k hk => match k, hk with
  | 0, _ => kx_wk18_0
  | 1, _ => kx_wk18_1
  | 2, _ => kx_wk18_2
  | 3, _ => kx_wk18_3
  | 4, _ => kx_wk18_4
  | 5, _ => kx_wk18_5
  | 6, _ => kx_wk18_6
  | 7, _ => kx_wk18_7
  | 8, _ => kx_wk18_8
  | 9, _ => kx_wk18_9
  | k + 10, h => absurd (show k + 10 < 10 from h) (by omega)
theorem kx_wm18 : kx_okM kx_m18 := ⟨kx_wk18, rfl, Or.inr ⟨List.mem_of_getElem? (i := 645) (by decide +kernel), by decide +kernel, by decide +kernel, by decide +kernel⟩⟩
theorem kx_wk19_0 : kx_ckr kx_m19 0 = true := by decide +kernel
theorem kx_wk19_1 : kx_ckr kx_m19 1 = true := by decide +kernel
theorem kx_wk19 : kx_ckc kx_m19 := fun k hk => match k, hk with
  | 0, _ => kx_wk19_0
  | 1, _ => kx_wk19_1
  | k + 2, h => absurd (show k + 2 < 2 from h) (by omega)
theorem kx_wm19 : kx_okM kx_m19 := ⟨kx_wk19, rfl, Or.inr ⟨List.mem_of_getElem? (i := 649) (by decide +kernel), by decide +kernel, by decide +kernel, by decide +kernel⟩⟩
theorem kx_wk20_0 : kx_ckr kx_m20 0 = true := by decide +kernel
theorem kx_wk20_1 : kx_ckr kx_m20 1 = true := by decide +kernel
theorem kx_wk20 : kx_ckc kx_m20 := fun k hk => match k, hk with
  | 0, _ => kx_wk20_0
  | 1, _ => kx_wk20_1
  | k + 2, h => absurd (show k + 2 < 2 from h) (by omega)
theorem kx_wm20 : kx_okM kx_m20 := ⟨kx_wk20, rfl, Or.inr ⟨List.mem_of_getElem? (i := 653) (by decide +kernel), by decide +kernel, by decide +kernel, by decide +kernel⟩⟩
theorem kx_wk21_0 : kx_ckr kx_m21 0 = true := by decide +kernel
theorem kx_wk21_1 : kx_ckr kx_m21 1 = true := by decide +kernel
theorem kx_wk21_2 : kx_ckr kx_m21 2 = true := by decide +kernel
theorem kx_wk21_3 : kx_ckr kx_m21 3 = true := by decide +kernel
theorem kx_wk21_4 : kx_ckr kx_m21 4 = true := by decide +kernel
theorem kx_wk21_5 : kx_ckr kx_m21 5 = true := by decide +kernel
theorem kx_wk21_6 : kx_ckr kx_m21 6 = true := by decide +kernel
theorem kx_wk21_7 : kx_ckr kx_m21 7 = true := by decide +kernel
theorem kx_wk21_8 : kx_ckr kx_m21 8 = true := by decide +kernel
theorem kx_wk21 : kx_ckc kx_m21 := fun k hk => match k, hk with
  | 0, _ => kx_wk21_0
  | 1, _ => kx_wk21_1
  | 2, _ => kx_wk21_2
  | 3, _ => kx_wk21_3
  | 4, _ => kx_wk21_4
  | 5, _ => kx_wk21_5
  | 6, _ => kx_wk21_6
  | 7, _ => kx_wk21_7
  | 8, _ => kx_wk21_8
  | k + 9, h => absurd (show k + 9 < 9 from h) (by omega)
theorem kx_wm21 : kx_okM kx_m21 := ⟨kx_wk21, rfl, Or.inr ⟨List.mem_of_getElem? (i := 657) (by decide +kernel), by decide +kernel, by decide +kernel, by decide +kernel⟩⟩
theorem kx_wk22_0 : kx_ckr kx_m22 0 = true := by decide +kernel
theorem kx_wk22_1 : kx_ckr kx_m22 1 = true := by decide +kernel
theorem kx_wk22 : kx_ckc kx_m22 := fun k hk => match k, hk with
  | 0, _ => kx_wk22_0
  | 1, _ => kx_wk22_1
  | k + 2, h => absurd (show k + 2 < 2 from h) (by omega)
theorem kx_wm22 : kx_okM kx_m22 := ⟨kx_wk22, rfl, Or.inr ⟨List.mem_of_getElem? (i := 660) (by decide +kernel), by decide +kernel, by decide +kernel, by decide +kernel⟩⟩
theorem kx_wk23_0 : kx_ckr kx_m23 0 = true := by decide +kernel
theorem kx_wk23_1 : kx_ckr kx_m23 1 = true := by decide +kernel
theorem kx_wk23 : kx_ckc kx_m23 := fun k hk => match k, hk with
  | 0, _ => kx_wk23_0
  | 1, _ => kx_wk23_1
  | k + 2, h => absurd (show k + 2 < 2 from h) (by omega)
theorem kx_wm23 : kx_okM kx_m23 := ⟨kx_wk23, rfl, Or.inr ⟨List.mem_of_getElem? (i := 668) (by decide +kernel), by decide +kernel, by decide +kernel, by decide +kernel⟩⟩
theorem kx_wk24_0 : kx_ckr kx_m24 0 = true := by decide +kernel
theorem kx_wk24_1 : kx_ckr kx_m24 1 = true := by decide +kernel
theorem kx_wk24_2 : kx_ckr kx_m24 2 = true := by decide +kernel
theorem kx_wk24 : kx_ckc kx_m24 := fun k hk => match k, hk with
  | 0, _ => kx_wk24_0
  | 1, _ => kx_wk24_1
  | 2, _ => kx_wk24_2
  | k + 3, h => absurd (show k + 3 < 3 from h) (by omega)
theorem kx_wm24 : kx_okM kx_m24 := ⟨kx_wk24, rfl, Or.inr ⟨List.mem_of_getElem? (i := 672) (by decide +kernel), by decide +kernel, by decide +kernel, by decide +kernel⟩⟩
theorem kx_wk25_0 : kx_ckr kx_m25 0 = true := by decide +kernel
theorem kx_wk25_1 : kx_ckr kx_m25 1 = true := by decide +kernel
theorem kx_wk25_2 : kx_ckr kx_m25 2 = true := by decide +kernel
theorem kx_wk25_3 : kx_ckr kx_m25 3 = true := by decide +kernel
theorem kx_wk25_4 : kx_ckr kx_m25 4 = true := by decide +kernel
theorem kx_wk25 : kx_ckc kx_m25 := fun k hk => match k, hk with
  | 0, _ => kx_wk25_0
  | 1, _ => kx_wk25_1
  | 2, _ => kx_wk25_2
  | 3, _ => kx_wk25_3
  | 4, _ => kx_wk25_4
  | k + 5, h => absurd (show k + 5 < 5 from h) (by omega)
theorem kx_wm25 : kx_okM kx_m25 := ⟨kx_wk25, rfl, Or.inr ⟨List.mem_of_getElem? (i := 680) (by decide +kernel), by decide +kernel, by decide +kernel, by decide +kernel⟩⟩
theorem kx_wk26_0 : kx_ckr kx_m26 0 = true := by decide +kernel
theorem kx_wk26_1 : kx_ckr kx_m26 1 = true := by decide +kernel
theorem kx_wk26 : kx_ckc kx_m26 := fun k hk => match k, hk with
  | 0, _ => kx_wk26_0
  | 1, _ => kx_wk26_1
  | k + 2, h => absurd (show k + 2 < 2 from h) (by omega)
theorem kx_wm26 : kx_okM kx_m26 := ⟨kx_wk26, rfl, Or.inr ⟨List.mem_of_getElem? (i := 684) (by decide +kernel), by decide +kernel, by decide +kernel, by decide +kernel⟩⟩
theorem kx_wk27_0 : kx_ckr kx_m27 0 = true := by decide +kernel
theorem kx_wk27_1 : kx_ckr kx_m27 1 = true := by decide +kernel
theorem kx_wk27_2 : kx_ckr kx_m27 2 = true := by decide +kernel
theorem kx_wk27 : kx_ckc kx_m27 := fun k hk => match k, hk with
  | 0, _ => kx_wk27_0
  | 1, _ => kx_wk27_1
  | 2, _ => kx_wk27_2
  | k + 3, h => absurd (show k + 3 < 3 from h) (by omega)
theorem kx_wm27 : kx_okM kx_m27 := ⟨kx_wk27, rfl, Or.inr ⟨List.mem_of_getElem? (i := 688) (by decide +kernel), by decide +kernel, by decide +kernel, by decide +kernel⟩⟩
theorem kx_wk28_0 : kx_ckr kx_m28 0 = true := by decide +kernel
theorem kx_wk28_1 : kx_ckr kx_m28 1 = true := by decide +kernel
theorem kx_wk28_2 : kx_ckr kx_m28 2 = true := by decide +kernel
theorem kx_wk28_3 : kx_ckr kx_m28 3 = true := by decide +kernel
theorem kx_wk28_4 : kx_ckr kx_m28 4 = true := by decide +kernel
theorem kx_wk28 : kx_ckc kx_m28 := fun k hk => match k, hk with
  | 0, _ => kx_wk28_0
  | 1, _ => kx_wk28_1
  | 2, _ => kx_wk28_2
  | 3, _ => kx_wk28_3
  | 4, _ => kx_wk28_4
  | k + 5, h => absurd (show k + 5 < 5 from h) (by omega)
theorem kx_wm28 : kx_okM kx_m28 := ⟨kx_wk28, rfl, Or.inr ⟨List.mem_of_getElem? (i := 760) (by decide +kernel), by decide +kernel, by decide +kernel, by decide +kernel⟩⟩
theorem kx_wk29_0 : kx_ckr kx_m29 0 = true := by decide +kernel
theorem kx_wk29_1 : kx_ckr kx_m29 1 = true := by decide +kernel
theorem kx_wk29_2 : kx_ckr kx_m29 2 = true := by decide +kernel
theorem kx_wk29_3 : kx_ckr kx_m29 3 = true := by decide +kernel
theorem kx_wk29 : kx_ckc kx_m29 := fun k hk => match k, hk with
  | 0, _ => kx_wk29_0
  | 1, _ => kx_wk29_1
  | 2, _ => kx_wk29_2
  | 3, _ => kx_wk29_3
  | k + 4, h => absurd (show k + 4 < 4 from h) (by omega)
theorem kx_wm29 : kx_okM kx_m29 := ⟨kx_wk29, rfl, Or.inr ⟨List.mem_of_getElem? (i := 770) (by decide +kernel), by decide +kernel, by decide +kernel, by decide +kernel⟩⟩
theorem kx_wk30_0 : kx_ckr kx_m30 0 = true := by decide +kernel
theorem kx_wk30_1 : kx_ckr kx_m30 1 = true := by decide +kernel
theorem kx_wk30_2 : kx_ckr kx_m30 2 = true := by decide +kernel
theorem kx_wk30_3 : kx_ckr kx_m30 3 = true := by decide +kernel
theorem kx_wk30_4 : kx_ckr kx_m30 4 = true := by decide +kernel
theorem kx_wk30_5 : kx_ckr kx_m30 5 = true := by decide +kernel
theorem kx_wk30_6 : kx_ckr kx_m30 6 = true := by decide +kernel
theorem kx_wk30_7 : kx_ckr kx_m30 7 = true := by decide +kernel
theorem kx_wk30 : kx_ckc kx_m30 := fun k hk => match k, hk with
  | 0, _ => kx_wk30_0
  | 1, _ => kx_wk30_1
  | 2, _ => kx_wk30_2
  | 3, _ => kx_wk30_3
  | 4, _ => kx_wk30_4
  | 5, _ => kx_wk30_5
  | 6, _ => kx_wk30_6
  | 7, _ => kx_wk30_7
  | k + 8, h => absurd (show k + 8 < 8 from h) (by omega)
theorem kx_wm30 : kx_okM kx_m30 := ⟨kx_wk30, rfl, Or.inr ⟨List.mem_of_getElem? (i := 786) (by decide +kernel), by decide +kernel, by decide +kernel, by decide +kernel⟩⟩
theorem kx_wk31_0 : kx_ckr kx_m31 0 = true := by decide +kernel
theorem kx_wk31_1 : kx_ckr kx_m31 1 = true := by decide +kernel
theorem kx_wk31_2 : kx_ckr kx_m31 2 = true := by decide +kernel
theorem kx_wk31_3 : kx_ckr kx_m31 3 = true := by decide +kernel
theorem kx_wk31_4 : kx_ckr kx_m31 4 = true := by decide +kernel
theorem kx_wk31_5 : kx_ckr kx_m31 5 = true := by decide +kernel
theorem kx_wk31_6 : kx_ckr kx_m31 6 = true := by decide +kernel
theorem kx_wk31 : kx_ckc kx_m31 := fun k hk => match k, hk with
  | 0, _ => kx_wk31_0
  | 1, _ => kx_wk31_1
  | 2, _ => kx_wk31_2
  | 3, _ => kx_wk31_3
  | 4, _ => kx_wk31_4
  | 5, _ => kx_wk31_5
  | 6, _ => kx_wk31_6
  | k + 7, h => absurd (show k + 7 < 7 from h) (by omega)
theorem kx_wm31 : kx_okM kx_m31 := ⟨kx_wk31, rfl, Or.inr ⟨List.mem_of_getElem? (i := 790) (by decide +kernel), by decide +kernel, by decide +kernel, by decide +kernel⟩⟩
theorem kx_wk32_0 : kx_ckr kx_m32 0 = true := by decide +kernel
theorem kx_wk32_1 : kx_ckr kx_m32 1 = true := by decide +kernel
theorem kx_wk32 : kx_ckc kx_m32 := fun k hk => match k, hk with
  | 0, _ => kx_wk32_0
  | 1, _ => kx_wk32_1
  | k + 2, h => absurd (show k + 2 < 2 from h) (by omega)
theorem kx_wm32 : kx_okM kx_m32 := ⟨kx_wk32, rfl, Or.inr ⟨List.mem_of_getElem? (i := 794) (by decide +kernel), by decide +kernel, by decide +kernel, by decide +kernel⟩⟩
theorem kx_wk33_0 : kx_ckr kx_m33 0 = true := by decide +kernel
theorem kx_wk33_1 : kx_ckr kx_m33 1 = true := by decide +kernel
theorem kx_wk33_2 : kx_ckr kx_m33 2 = true := by decide +kernel
theorem kx_wk33_3 : kx_ckr kx_m33 3 = true := by decide +kernel
theorem kx_wk33_4 : kx_ckr kx_m33 4 = true := by decide +kernel
theorem kx_wk33_5 : kx_ckr kx_m33 5 = true := by decide +kernel
theorem kx_wk33 : kx_ckc kx_m33 := fun k hk => match k, hk with
  | 0, _ => kx_wk33_0
  | 1, _ => kx_wk33_1
  | 2, _ => kx_wk33_2
  | 3, _ => kx_wk33_3
  | 4, _ => kx_wk33_4
  | 5, _ => kx_wk33_5
  | k + 6, h => absurd (show k + 6 < 6 from h) (by omega)
theorem kx_wm33 : kx_okM kx_m33 := ⟨kx_wk33, rfl, Or.inr ⟨List.mem_of_getElem? (i := 798) (by decide +kernel), by decide +kernel, by decide +kernel, by decide +kernel⟩⟩
theorem kx_wk34_0 : kx_ckr kx_m34 0 = true := by decide +kernel
theorem kx_wk34_1 : kx_ckr kx_m34 1 = true := by decide +kernel
theorem kx_wk34_2 : kx_ckr kx_m34 2 = true := by decide +kernel
theorem kx_wk34_3 : kx_ckr kx_m34 3 = true := by decide +kernel
theorem kx_wk34_4 : kx_ckr kx_m34 4 = true := by decide +kernel
theorem kx_wk34_5 : kx_ckr kx_m34 5 = true := by decide +kernel
theorem kx_wk34 : kx_ckc kx_m34 := fun k hk => match k, hk with
  | 0, _ => kx_wk34_0
  | 1, _ => kx_wk34_1
  | 2, _ => kx_wk34_2
  | 3, _ => kx_wk34_3
  | 4, _ => kx_wk34_4
  | 5, _ => kx_wk34_5
  | k + 6, h => absurd (show k + 6 < 6 from h) (by omega)
theorem kx_wm34 : kx_okM kx_m34 := ⟨kx_wk34, rfl, Or.inr ⟨List.mem_of_getElem? (i := 803) (by decide +kernel), by decide +kernel, by decide +kernel, by decide +kernel⟩⟩
theorem kx_wk35_0 : kx_ckr kx_m35 0 = true := by decide +kernel
theorem kx_wk35_1 : kx_ckr kx_m35 1 = true := by decide +kernel
theorem kx_wk35_2 : kx_ckr kx_m35 2 = true := by decide +kernel
theorem kx_wk35_3 : kx_ckr kx_m35 3 = true := by decide +kernel
theorem kx_wk35 : kx_ckc kx_m35 := fun k hk => match k, hk with
  | 0, _ => kx_wk35_0
  | 1, _ => kx_wk35_1
  | 2, _ => kx_wk35_2
  | 3, _ => kx_wk35_3
  | k + 4, h => absurd (show k + 4 < 4 from h) (by omega)
theorem kx_wm35 : kx_okM kx_m35 := ⟨kx_wk35, rfl, Or.inr ⟨List.mem_of_getElem? (i := 807) (by decide +kernel), by decide +kernel, by decide +kernel, by decide +kernel⟩⟩
theorem kx_wk36_0 : kx_ckr kx_m36 0 = true := by decide +kernel
theorem kx_wk36_1 : kx_ckr kx_m36 1 = true := by decide +kernel
theorem kx_wk36_2 : kx_ckr kx_m36 2 = true := by decide +kernel
theorem kx_wk36_3 : kx_ckr kx_m36 3 = true := by decide +kernel
theorem kx_wk36_4 : kx_ckr kx_m36 4 = true := by decide +kernel
theorem kx_wk36_5 : kx_ckr kx_m36 5 = true := by decide +kernel
theorem kx_wk36_6 : kx_ckr kx_m36 6 = true := by decide +kernel
theorem kx_wk36_7 : kx_ckr kx_m36 7 = true := by decide +kernel
theorem kx_wk36 : kx_ckc kx_m36 := fun k hk => match k, hk with
  | 0, _ => kx_wk36_0
  | 1, _ => kx_wk36_1
  | 2, _ => kx_wk36_2
  | 3, _ => kx_wk36_3
  | 4, _ => kx_wk36_4
  | 5, _ => kx_wk36_5
  | 6, _ => kx_wk36_6
  | 7, _ => kx_wk36_7
  | k + 8, h => absurd (show k + 8 < 8 from h) (by omega)
theorem kx_wm36 : kx_okM kx_m36 := ⟨kx_wk36, rfl, Or.inr ⟨List.mem_of_getElem? (i := 909) (by decide +kernel), by decide +kernel, by decide +kernel, by decide +kernel⟩⟩
theorem kx_wk37_0 : kx_ckr kx_m37 0 = true := by decide +kernel
theorem kx_wk37_1 : kx_ckr kx_m37 1 = true := by decide +kernel
theorem kx_wk37_2 : kx_ckr kx_m37 2 = true := by decide +kernel
theorem kx_wk37_3 : kx_ckr kx_m37 3 = true := by decide +kernel
theorem kx_wk37_4 : kx_ckr kx_m37 4 = true := by decide +kernel
theorem kx_wk37 : kx_ckc kx_m37 := fun k hk => match k, hk with
  | 0, _ => kx_wk37_0
  | 1, _ => kx_wk37_1
  | 2, _ => kx_wk37_2
  | 3, _ => kx_wk37_3
  | 4, _ => kx_wk37_4
  | k + 5, h => absurd (show k + 5 < 5 from h) (by omega)
theorem kx_wm37 : kx_okM kx_m37 := ⟨kx_wk37, rfl, Or.inr ⟨List.mem_of_getElem? (i := 1007) (by decide +kernel), by decide +kernel, by decide +kernel, by decide +kernel⟩⟩
theorem kx_wk38_0 : kx_ckr kx_m38 0 = true := by decide +kernel
theorem kx_wk38_1 : kx_ckr kx_m38 1 = true := by decide +kernel
theorem kx_wk38_2 : kx_ckr kx_m38 2 = true := by decide +kernel
theorem kx_wk38_3 : kx_ckr kx_m38 3 = true := by decide +kernel
theorem kx_wk38_4 : kx_ckr kx_m38 4 = true := by decide +kernel
theorem kx_wk38_5 : kx_ckr kx_m38 5 = true := by decide +kernel
theorem kx_wk38 : kx_ckc kx_m38 := fun k hk => match k, hk with
  | 0, _ => kx_wk38_0
  | 1, _ => kx_wk38_1
  | 2, _ => kx_wk38_2
  | 3, _ => kx_wk38_3
  | 4, _ => kx_wk38_4
  | 5, _ => kx_wk38_5
  | k + 6, h => absurd (show k + 6 < 6 from h) (by omega)
theorem kx_wm38 : kx_okM kx_m38 := ⟨kx_wk38, rfl, Or.inr ⟨List.mem_of_getElem? (i := 1011) (by decide +kernel), by decide +kernel, by decide +kernel, by decide +kernel⟩⟩
theorem kx_wk39_0 : kx_ckr kx_m39 0 = true := by decide +kernel
theorem kx_wk39_1 : kx_ckr kx_m39 1 = true := by decide +kernel
theorem kx_wk39_2 : kx_ckr kx_m39 2 = true := by decide +kernel
theorem kx_wk39_3 : kx_ckr kx_m39 3 = true := by decide +kernel
theorem kx_wk39_4 : kx_ckr kx_m39 4 = true := by decide +kernel
theorem kx_wk39_5 : kx_ckr kx_m39 5 = true := by decide +kernel
theorem kx_wk39_6 : kx_ckr kx_m39 6 = true := by decide +kernel
theorem kx_wk39 : kx_ckc kx_m39 := fun k hk => match k, hk with
  | 0, _ => kx_wk39_0
  | 1, _ => kx_wk39_1
  | 2, _ => kx_wk39_2
  | 3, _ => kx_wk39_3
  | 4, _ => kx_wk39_4
  | 5, _ => kx_wk39_5
  | 6, _ => kx_wk39_6
  | k + 7, h => absurd (show k + 7 < 7 from h) (by omega)
theorem kx_wm39 : kx_okM kx_m39 := ⟨kx_wk39, rfl, Or.inr ⟨List.mem_of_getElem? (i := 1016) (by decide +kernel), by decide +kernel, by decide +kernel, by decide +kernel⟩⟩
theorem kx_wk40_0 : kx_ckr kx_m40 0 = true := by decide +kernel
theorem kx_wk40_1 : kx_ckr kx_m40 1 = true := by decide +kernel
theorem kx_wk40_2 : kx_ckr kx_m40 2 = true := by decide +kernel
theorem kx_wk40_3 : kx_ckr kx_m40 3 = true := by decide +kernel
theorem kx_wk40_4 : kx_ckr kx_m40 4 = true := by decide +kernel
theorem kx_wk40_5 : kx_ckr kx_m40 5 = true := by decide +kernel
theorem kx_wk40 : kx_ckc kx_m40 := fun k hk => match k, hk with
  | 0, _ => kx_wk40_0
  | 1, _ => kx_wk40_1
  | 2, _ => kx_wk40_2
  | 3, _ => kx_wk40_3
  | 4, _ => kx_wk40_4
  | 5, _ => kx_wk40_5
  | k + 6, h => absurd (show k + 6 < 6 from h) (by omega)
theorem kx_wm40 : kx_okM kx_m40 := ⟨kx_wk40, rfl, Or.inr ⟨List.mem_of_getElem? (i := 1062) (by decide +kernel), by decide +kernel, by decide +kernel, by decide +kernel⟩⟩
theorem kx_wk41_0 : kx_ckr kx_m41 0 = true := by decide +kernel
theorem kx_wk41_1 : kx_ckr kx_m41 1 = true := by decide +kernel
theorem kx_wk41_2 : kx_ckr kx_m41 2 = true := by decide +kernel
theorem kx_wk41_3 : kx_ckr kx_m41 3 = true := by decide +kernel
theorem kx_wk41_4 : kx_ckr kx_m41 4 = true := by decide +kernel
theorem kx_wk41_5 : kx_ckr kx_m41 5 = true := by decide +kernel
theorem kx_wk41_6 : kx_ckr kx_m41 6 = true := by decide +kernel
theorem kx_wk41_7 : kx_ckr kx_m41 7 = true := by decide +kernel
theorem kx_wk41_8 : kx_ckr kx_m41 8 = true := by decide +kernel
theorem kx_wk41 : kx_ckc kx_m41 := fun k hk => match k, hk with
  | 0, _ => kx_wk41_0
  | 1, _ => kx_wk41_1
  | 2, _ => kx_wk41_2
  | 3, _ => kx_wk41_3
  | 4, _ => kx_wk41_4
  | 5, _ => kx_wk41_5
  | 6, _ => kx_wk41_6
  | 7, _ => kx_wk41_7
  | 8, _ => kx_wk41_8
  | k + 9, h => absurd (show k + 9 < 9 from h) (by omega)
theorem kx_wm41 : kx_okM kx_m41 := ⟨kx_wk41, rfl, Or.inr ⟨List.mem_of_getElem? (i := 1066) (by decide +kernel), by decide +kernel, by decide +kernel, by decide +kernel⟩⟩
theorem kx_wk42_0 : kx_ckr kx_m42 0 = true := by decide +kernel
theorem kx_wk42_1 : kx_ckr kx_m42 1 = true := by decide +kernel
theorem kx_wk42 : kx_ckc kx_m42 := fun k hk => match k, hk with
  | 0, _ => kx_wk42_0
  | 1, _ => kx_wk42_1
  | k + 2, h => absurd (show k + 2 < 2 from h) (by omega)
theorem kx_wm42 : kx_okM kx_m42 := ⟨kx_wk42, rfl, Or.inr ⟨List.mem_of_getElem? (i := 1105) (by decide +kernel), by decide +kernel, by decide +kernel, by decide +kernel⟩⟩
theorem kx_wk43_0 : kx_ckr kx_m43 0 = true := by decide +kernel
theorem kx_wk43 : kx_ckc kx_m43 := fun k hk => match k, hk with
  | 0, _ => kx_wk43_0
  | k + 1, h => absurd (show k + 1 < 1 from h) (by omega)
theorem kx_wm43 : kx_okM kx_m43 := ⟨kx_wk43, rfl, Or.inr ⟨List.mem_of_getElem? (i := 1110) (by decide +kernel), by decide +kernel, by decide +kernel, by decide +kernel⟩⟩
theorem kx_wk44_0 : kx_ckr kx_m44 0 = true := by decide +kernel
theorem kx_wk44_1 : kx_ckr kx_m44 1 = true := by decide +kernel
theorem kx_wk44_2 : kx_ckr kx_m44 2 = true := by decide +kernel
theorem kx_wk44_3 : kx_ckr kx_m44 3 = true := by decide +kernel
theorem kx_wk44_4 : kx_ckr kx_m44 4 = true := by decide +kernel
theorem kx_wk44_5 : kx_ckr kx_m44 5 = true := by decide +kernel
theorem kx_wk44_6 : kx_ckr kx_m44 6 = true := by decide +kernel
theorem kx_wk44_7 : kx_ckr kx_m44 7 = true := by decide +kernel
theorem kx_wk44_8 : kx_ckr kx_m44 8 = true := by decide +kernel
theorem kx_wk44_9 : kx_ckr kx_m44 9 = true := by decide +kernel
theorem kx_wk44_10 : kx_ckr kx_m44 10 = true := by decide +kernel
theorem kx_wk44_11 : kx_ckr kx_m44 11 = true := by decide +kernel
theorem kx_wk44_12 : kx_ckr kx_m44 12 = true := by decide +kernel
theorem kx_wk44_13 : kx_ckr kx_m44 13 = true := by decide +kernel
theorem kx_wk44_14 : kx_ckr kx_m44 14 = true := by decide +kernel
theorem kx_wk44_15 : kx_ckr kx_m44 15 = true := by decide +kernel
theorem kx_wk44 : kx_ckc kx_m44 := fun k hk => match k, hk with
  | 0, _ => kx_wk44_0
  | 1, _ => kx_wk44_1
  | 2, _ => kx_wk44_2
  | 3, _ => kx_wk44_3
  | 4, _ => kx_wk44_4
  | 5, _ => kx_wk44_5
  | 6, _ => kx_wk44_6
  | 7, _ => kx_wk44_7
  | 8, _ => kx_wk44_8
  | 9, _ => kx_wk44_9
  | 10, _ => kx_wk44_10
  | 11, _ => kx_wk44_11
  | 12, _ => kx_wk44_12
  | 13, _ => kx_wk44_13
  | 14, _ => kx_wk44_14
  | 15, _ => kx_wk44_15
  | k + 16, h => absurd (show k + 16 < 16 from h) (by omega)
theorem kx_wm44 : kx_okM kx_m44 := ⟨kx_wk44, rfl, Or.inr ⟨List.mem_of_getElem? (i := 1114) (by decide +kernel), by decide +kernel, by decide +kernel, by decide +kernel⟩⟩
theorem kx_wk45_0 : kx_ckr kx_m45 0 = true := by decide +kernel
theorem kx_wk45_1 : kx_ckr kx_m45 1 = true := by decide +kernel
theorem kx_wk45_2 : kx_ckr kx_m45 2 = true := by decide +kernel
theorem kx_wk45_3 : kx_ckr kx_m45 3 = true := by decide +kernel
theorem kx_wk45_4 : kx_ckr kx_m45 4 = true := by decide +kernel
theorem kx_wk45_5 : kx_ckr kx_m45 5 = true := by decide +kernel
theorem kx_wk45_6 : kx_ckr kx_m45 6 = true := by decide +kernel
theorem kx_wk45 : kx_ckc kx_m45 := fun k hk => match k, hk with
  | 0, _ => kx_wk45_0
  | 1, _ => kx_wk45_1
  | 2, _ => kx_wk45_2
  | 3, _ => kx_wk45_3
  | 4, _ => kx_wk45_4
  | 5, _ => kx_wk45_5
  | 6, _ => kx_wk45_6
  | k + 7, h => absurd (show k + 7 < 7 from h) (by omega)
theorem kx_wm45 : kx_okM kx_m45 := ⟨kx_wk45, rfl, Or.inr ⟨List.mem_of_getElem? (i := 1122) (by decide +kernel), by decide +kernel, by decide +kernel, by decide +kernel⟩⟩
theorem kx_wk46_0 : kx_ckr kx_m46 0 = true := by decide +kernel
theorem kx_wk46_1 : kx_ckr kx_m46 1 = true := by decide +kernel
theorem kx_wk46_2 : kx_ckr kx_m46 2 = true := by decide +kernel
theorem kx_wk46_3 : kx_ckr kx_m46 3 = true := by decide +kernel
theorem kx_wk46_4 : kx_ckr kx_m46 4 = true := by decide +kernel
theorem kx_wk46_5 : kx_ckr kx_m46 5 = true := by decide +kernel
theorem kx_wk46 : kx_ckc kx_m46 := fun k hk => match k, hk with
  | 0, _ => kx_wk46_0
  | 1, _ => kx_wk46_1
  | 2, _ => kx_wk46_2
  | 3, _ => kx_wk46_3
  | 4, _ => kx_wk46_4
  | 5, _ => kx_wk46_5
  | k + 6, h => absurd (show k + 6 < 6 from h) (by omega)
theorem kx_wm46 : kx_okM kx_m46 := ⟨kx_wk46, rfl, Or.inr ⟨List.mem_of_getElem? (i := 1125) (by decide +kernel), by decide +kernel, by decide +kernel, by decide +kernel⟩⟩
theorem kx_wk47_0 : kx_ckr kx_m47 0 = true := by decide +kernel
theorem kx_wk47_1 : kx_ckr kx_m47 1 = true := by decide +kernel
theorem kx_wk47_2 : kx_ckr kx_m47 2 = true := by decide +kernel
theorem kx_wk47_3 : kx_ckr kx_m47 3 = true := by decide +kernel
theorem kx_wk47_4 : kx_ckr kx_m47 4 = true := by decide +kernel
theorem kx_wk47 : kx_ckc kx_m47 := fun k hk => match k, hk with
  | 0, _ => kx_wk47_0
  | 1, _ => kx_wk47_1
  | 2, _ => kx_wk47_2
  | 3, _ => kx_wk47_3
  | 4, _ => kx_wk47_4
  | k + 5, h => absurd (show k + 5 < 5 from h) (by omega)
theorem kx_wm47 : kx_okM kx_m47 := ⟨kx_wk47, rfl, Or.inr ⟨List.mem_of_getElem? (i := 1129) (by decide +kernel), by decide +kernel, by decide +kernel, by decide +kernel⟩⟩
theorem kx_wk48_0 : kx_ckr kx_m48 0 = true := by decide +kernel
theorem kx_wk48_1 : kx_ckr kx_m48 1 = true := by decide +kernel
theorem kx_wk48 : kx_ckc kx_m48 := fun k hk => match k, hk with
  | 0, _ => kx_wk48_0
  | 1, _ => kx_wk48_1
  | k + 2, h => absurd (show k + 2 < 2 from h) (by omega)
theorem kx_wm48 : kx_okM kx_m48 := ⟨kx_wk48, rfl, Or.inr ⟨List.mem_of_getElem? (i := 1133) (by decide +kernel), by decide +kernel, by decide +kernel, by decide +kernel⟩⟩
theorem kx_wk49_0 : kx_ckr kx_m49 0 = true := by decide +kernel
theorem kx_wk49_1 : kx_ckr kx_m49 1 = true := by decide +kernel
theorem kx_wk49 : kx_ckc kx_m49 := fun k hk => match k, hk with
  | 0, _ => kx_wk49_0
  | 1, _ => kx_wk49_1
  | k + 2, h => absurd (show k + 2 < 2 from h) (by omega)
theorem kx_wm49 : kx_okM kx_m49 := ⟨kx_wk49, rfl, Or.inr ⟨List.mem_of_getElem? (i := 1137) (by decide +kernel), by decide +kernel, by decide +kernel, by decide +kernel⟩⟩
theorem kx_wk50_0 : kx_ckr kx_m50 0 = true := by decide +kernel
theorem kx_wk50_1 : kx_ckr kx_m50 1 = true := by decide +kernel
theorem kx_wk50 : kx_ckc kx_m50 := fun k hk => match k, hk with
  | 0, _ => kx_wk50_0
  | 1, _ => kx_wk50_1
  | k + 2, h => absurd (show k + 2 < 2 from h) (by omega)
theorem kx_wm50 : kx_okM kx_m50 := ⟨kx_wk50, rfl, Or.inr ⟨List.mem_of_getElem? (i := 1145) (by decide +kernel), by decide +kernel, by decide +kernel, by decide +kernel⟩⟩
theorem kx_wk51_0 : kx_ckr kx_m51 0 = true := by decide +kernel
theorem kx_wk51_1 : kx_ckr kx_m51 1 = true := by decide +kernel
theorem kx_wk51_2 : kx_ckr kx_m51 2 = true := by decide +kernel
theorem kx_wk51 : kx_ckc kx_m51 := fun k hk => match k, hk with
  | 0, _ => kx_wk51_0
  | 1, _ => kx_wk51_1
  | 2, _ => kx_wk51_2
  | k + 3, h => absurd (show k + 3 < 3 from h) (by omega)
theorem kx_wm51 : kx_okM kx_m51 := ⟨kx_wk51, rfl, Or.inr ⟨List.mem_of_getElem? (i := 1149) (by decide +kernel), by decide +kernel, by decide +kernel, by decide +kernel⟩⟩
theorem kx_wk52_0 : kx_ckr kx_m52 0 = true := by decide +kernel
theorem kx_wk52 : kx_ckc kx_m52 := fun k hk => match k, hk with
  | 0, _ => kx_wk52_0
  | k + 1, h => absurd (show k + 1 < 1 from h) (by omega)
theorem kx_wm52 : kx_okM kx_m52 := ⟨kx_wk52, rfl, Or.inr ⟨List.mem_of_getElem? (i := 494) (by decide +kernel), by decide +kernel, by decide +kernel, by decide +kernel⟩⟩
theorem kx_wk53_0 : kx_ckr kx_m53 0 = true := by decide +kernel
theorem kx_wk53_1 : kx_ckr kx_m53 1 = true := by decide +kernel
theorem kx_wk53_2 : kx_ckr kx_m53 2 = true := by decide +kernel
theorem kx_wk53_3 : kx_ckr kx_m53 3 = true := by decide +kernel
theorem kx_wk53_4 : kx_ckr kx_m53 4 = true := by decide +kernel
theorem kx_wk53_5 : kx_ckr kx_m53 5 = true := by decide +kernel
theorem kx_wk53_6 : kx_ckr kx_m53 6 = true := by decide +kernel
theorem kx_wk53_7 : kx_ckr kx_m53 7 = true := by decide +kernel
theorem kx_wk53 : kx_ckc kx_m53 := fun k hk => match k, hk with
  | 0, _ => kx_wk53_0
  | 1, _ => kx_wk53_1
  | 2, _ => kx_wk53_2
  | 3, _ => kx_wk53_3
  | 4, _ => kx_wk53_4
  | 5, _ => kx_wk53_5
  | 6, _ => kx_wk53_6
  | 7, _ => kx_wk53_7
  | k + 8, h => absurd (show k + 8 < 8 from h) (by omega)
theorem kx_wm53 : kx_okM kx_m53 := ⟨kx_wk53, rfl, Or.inr ⟨List.mem_of_getElem? (i := 500) (by decide +kernel), by decide +kernel, by decide +kernel, by decide +kernel⟩⟩
theorem kx_wk54_0 : kx_ckr kx_m54 0 = true := by decide +kernel
theorem kx_wk54_1 : kx_ckr kx_m54 1 = true := by decide +kernel
theorem kx_wk54_2 : kx_ckr kx_m54 2 = true := by decide +kernel
theorem kx_wk54_3 : kx_ckr kx_m54 3 = true := by decide +kernel
theorem kx_wk54_4 : kx_ckr kx_m54 4 = true := by decide +kernel
theorem kx_wk54_5 : kx_ckr kx_m54 5 = true := by decide +kernel
theorem kx_wk54 : kx_ckc kx_m54 := fun k hk => match k, hk with
  | 0, _ => kx_wk54_0
  | 1, _ => kx_wk54_1
  | 2, _ => kx_wk54_2
  | 3, _ => kx_wk54_3
  | 4, _ => kx_wk54_4
  | 5, _ => kx_wk54_5
  | k + 6, h => absurd (show k + 6 < 6 from h) (by omega)
theorem kx_wm54 : kx_okM kx_m54 := ⟨kx_wk54, rfl, Or.inr ⟨List.mem_of_getElem? (i := 517) (by decide +kernel), by decide +kernel, by decide +kernel, by decide +kernel⟩⟩
theorem kx_wk55_0 : kx_ckr kx_m55 0 = true := by decide +kernel
theorem kx_wk55_1 : kx_ckr kx_m55 1 = true := by decide +kernel
theorem kx_wk55_2 : kx_ckr kx_m55 2 = true := by decide +kernel
theorem kx_wk55_3 : kx_ckr kx_m55 3 = true := by decide +kernel
theorem kx_wk55 : kx_ckc kx_m55 := fun k hk => match k, hk with
  | 0, _ => kx_wk55_0
  | 1, _ => kx_wk55_1
  | 2, _ => kx_wk55_2
  | 3, _ => kx_wk55_3
  | k + 4, h => absurd (show k + 4 < 4 from h) (by omega)
theorem kx_wm55 : kx_okM kx_m55 := ⟨kx_wk55, rfl, Or.inr ⟨List.mem_of_getElem? (i := 531) (by decide +kernel), by decide +kernel, by decide +kernel, by decide +kernel⟩⟩
theorem kx_wk56_0 : kx_ckr kx_m56 0 = true := by decide +kernel
theorem kx_wk56_1 : kx_ckr kx_m56 1 = true := by decide +kernel
theorem kx_wk56_2 : kx_ckr kx_m56 2 = true := by decide +kernel
theorem kx_wk56_3 : kx_ckr kx_m56 3 = true := by decide +kernel
theorem kx_wk56_4 : kx_ckr kx_m56 4 = true := by decide +kernel
theorem kx_wk56 : kx_ckc kx_m56 := fun k hk => match k, hk with
  | 0, _ => kx_wk56_0
  | 1, _ => kx_wk56_1
  | 2, _ => kx_wk56_2
  | 3, _ => kx_wk56_3
  | 4, _ => kx_wk56_4
  | k + 5, h => absurd (show k + 5 < 5 from h) (by omega)
theorem kx_wm56 : kx_okM kx_m56 := ⟨kx_wk56, rfl, Or.inr ⟨List.mem_of_getElem? (i := 534) (by decide +kernel), by decide +kernel, by decide +kernel, by decide +kernel⟩⟩
theorem kx_wk57_0 : kx_ckr kx_m57 0 = true := by decide +kernel
theorem kx_wk57 : kx_ckc kx_m57 := fun k hk => match k, hk with
  | 0, _ => kx_wk57_0
  | k + 1, h => absurd (show k + 1 < 1 from h) (by omega)
theorem kx_wm57 : kx_okM kx_m57 := ⟨kx_wk57, rfl, Or.inr ⟨List.mem_of_getElem? (i := 321) (by decide +kernel), by decide +kernel, by decide +kernel, by decide +kernel⟩⟩
theorem kx_wk58_0 : kx_ckr kx_m58 0 = true := by decide +kernel
theorem kx_wk58_1 : kx_ckr kx_m58 1 = true := by decide +kernel
theorem kx_wk58_2 : kx_ckr kx_m58 2 = true := by decide +kernel
theorem kx_wk58_3 : kx_ckr kx_m58 3 = true := by decide +kernel
theorem kx_wk58_4 : kx_ckr kx_m58 4 = true := by decide +kernel
theorem kx_wk58_5 : kx_ckr kx_m58 5 = true := by decide +kernel
theorem kx_wk58 : kx_ckc kx_m58 := fun k hk => match k, hk with
  | 0, _ => kx_wk58_0
  | 1, _ => kx_wk58_1
  | 2, _ => kx_wk58_2
  | 3, _ => kx_wk58_3
  | 4, _ => kx_wk58_4
  | 5, _ => kx_wk58_5
  | k + 6, h => absurd (show k + 6 < 6 from h) (by omega)
theorem kx_wm58 : kx_okM kx_m58 := ⟨kx_wk58, rfl, Or.inr ⟨List.mem_of_getElem? (i := 702) (by decide +kernel), by decide +kernel, by decide +kernel, by decide +kernel⟩⟩
theorem kx_wk59_0 : kx_ckr kx_m59 0 = true := by decide +kernel
theorem kx_wk59_1 : kx_ckr kx_m59 1 = true := by decide +kernel
theorem kx_wk59_2 : kx_ckr kx_m59 2 = true := by decide +kernel
theorem kx_wk59_3 : kx_ckr kx_m59 3 = true := by decide +kernel
theorem kx_wk59_4 : kx_ckr kx_m59 4 = true := by decide +kernel
theorem kx_wk59_5 : kx_ckr kx_m59 5 = true := by decide +kernel
theorem kx_wk59_6 : kx_ckr kx_m59 6 = true := by decide +kernel
theorem kx_wk59_7 : kx_ckr kx_m59 7 = true := by decide +kernel
theorem kx_wk59_8 : kx_ckr kx_m59 8 = true := by decide +kernel
theorem kx_wk59 : kx_ckc kx_m59 := fun k hk => match k, hk with
  | 0, _ => kx_wk59_0
  | 1, _ => kx_wk59_1
  | 2, _ => kx_wk59_2
  | 3, _ => kx_wk59_3
  | 4, _ => kx_wk59_4
  | 5, _ => kx_wk59_5
  | 6, _ => kx_wk59_6
  | 7, _ => kx_wk59_7
  | 8, _ => kx_wk59_8
  | k + 9, h => absurd (show k + 9 < 9 from h) (by omega)
theorem kx_wm59 : kx_okM kx_m59 := ⟨kx_wk59, rfl, Or.inr ⟨List.mem_of_getElem? (i := 706) (by decide +kernel), by decide +kernel, by decide +kernel, by decide +kernel⟩⟩
theorem kx_wk60_0 : kx_ckr kx_m60 0 = true := by decide +kernel
theorem kx_wk60_1 : kx_ckr kx_m60 1 = true := by decide +kernel
theorem kx_wk60_2 : kx_ckr kx_m60 2 = true := by decide +kernel
theorem kx_wk60 : kx_ckc kx_m60 := fun k hk => match k, hk with
  | 0, _ => kx_wk60_0
  | 1, _ => kx_wk60_1
  | 2, _ => kx_wk60_2
  | k + 3, h => absurd (show k + 3 < 3 from h) (by omega)
theorem kx_wm60 : kx_okM kx_m60 := ⟨kx_wk60, rfl, Or.inr ⟨List.mem_of_getElem? (i := 295) (by decide +kernel), by decide +kernel, by decide +kernel, by decide +kernel⟩⟩
theorem kx_wk61_0 : kx_ckr kx_m61 0 = true := by decide +kernel
theorem kx_wk61_1 : kx_ckr kx_m61 1 = true := by decide +kernel
theorem kx_wk61_2 : kx_ckr kx_m61 2 = true := by decide +kernel
theorem kx_wk61_3 : kx_ckr kx_m61 3 = true := by decide +kernel
theorem kx_wk61 : kx_ckc kx_m61 := fun k hk => match k, hk with
  | 0, _ => kx_wk61_0
  | 1, _ => kx_wk61_1
  | 2, _ => kx_wk61_2
  | 3, _ => kx_wk61_3
  | k + 4, h => absurd (show k + 4 < 4 from h) (by omega)
theorem kx_wm61 : kx_okM kx_m61 := ⟨kx_wk61, rfl, Or.inr ⟨List.mem_of_getElem? (i := 582) (by decide +kernel), by decide +kernel, by decide +kernel, by decide +kernel⟩⟩
theorem kx_wk62_0 : kx_ckr kx_m62 0 = true := by decide +kernel
theorem kx_wk62_1 : kx_ckr kx_m62 1 = true := by decide +kernel
theorem kx_wk62_2 : kx_ckr kx_m62 2 = true := by decide +kernel
theorem kx_wk62_3 : kx_ckr kx_m62 3 = true := by decide +kernel
theorem kx_wk62 : kx_ckc kx_m62 := fun k hk => match k, hk with
  | 0, _ => kx_wk62_0
  | 1, _ => kx_wk62_1
  | 2, _ => kx_wk62_2
  | 3, _ => kx_wk62_3
  | k + 4, h => absurd (show k + 4 < 4 from h) (by omega)
theorem kx_wm62 : kx_okM kx_m62 := ⟨kx_wk62, rfl, Or.inr ⟨List.mem_of_getElem? (i := 1141) (by decide +kernel), by decide +kernel, by decide +kernel, by decide +kernel⟩⟩
theorem kx_wk63_0 : kx_ckr kx_m63 0 = true := by decide +kernel
theorem kx_wk63 : kx_ckc kx_m63 := fun k hk => match k, hk with
  | 0, _ => kx_wk63_0
  | k + 1, h => absurd (show k + 1 < 1 from h) (by omega)
theorem kx_wm63 : kx_okM kx_m63 := ⟨kx_wk63, rfl, Or.inr ⟨List.mem_of_getElem? (i := 1153) (by decide +kernel), by decide +kernel, by decide +kernel, by decide +kernel⟩⟩
theorem kx_wk64_0 : kx_ckr kx_m64 0 = true := by decide +kernel
theorem kx_wk64 : kx_ckc kx_m64 := fun k hk => match k, hk with
  | 0, _ => kx_wk64_0
  | k + 1, h => absurd (show k + 1 < 1 from h) (by omega)
theorem kx_wm64 : kx_okM kx_m64 := ⟨kx_wk64, rfl, Or.inr ⟨List.mem_of_getElem? (i := 142) (by decide +kernel), by decide +kernel, by decide +kernel, by decide +kernel⟩⟩
theorem kx_wk65_0 : kx_ckr kx_m65 0 = true := by decide +kernel
theorem kx_wk65_1 : kx_ckr kx_m65 1 = true := by decide +kernel
theorem kx_wk65_2 : kx_ckr kx_m65 2 = true := by decide +kernel
theorem kx_wk65_3 : kx_ckr kx_m65 3 = true := by decide +kernel
theorem kx_wk65_4 : kx_ckr kx_m65 4 = true := by decide +kernel
theorem kx_wk65_5 : kx_ckr kx_m65 5 = true := by decide +kernel
theorem kx_wk65_6 : kx_ckr kx_m65 6 = true := by decide +kernel
theorem kx_wk65 : kx_ckc kx_m65 := fun k hk => match k, hk with
  | 0, _ => kx_wk65_0
  | 1, _ => kx_wk65_1
  | 2, _ => kx_wk65_2
  | 3, _ => kx_wk65_3
  | 4, _ => kx_wk65_4
  | 5, _ => kx_wk65_5
  | 6, _ => kx_wk65_6
  | k + 7, h => absurd (show k + 7 < 7 from h) (by omega)
theorem kx_wm65 : kx_okM kx_m65 := ⟨kx_wk65, rfl, Or.inr ⟨List.mem_of_getElem? (i := 551) (by decide +kernel), by decide +kernel, by decide +kernel, by decide +kernel⟩⟩
theorem kx_wk66_0 : kx_ckr kx_m66 0 = true := by decide +kernel
theorem kx_wk66 : kx_ckc kx_m66 := fun k hk => match k, hk with
  | 0, _ => kx_wk66_0
  | k + 1, h => absurd (show k + 1 < 1 from h) (by omega)
theorem kx_wm66 : kx_okM kx_m66 := ⟨kx_wk66, rfl, Or.inr ⟨List.mem_of_getElem? (i := 676) (by decide +kernel), by decide +kernel, by decide +kernel, by decide +kernel⟩⟩
theorem kx_wk67_0 : kx_ckr kx_m67 0 = true := by decide +kernel
theorem kx_wk67_1 : kx_ckr kx_m67 1 = true := by decide +kernel
theorem kx_wk67_2 : kx_ckr kx_m67 2 = true := by decide +kernel
theorem kx_wk67 : kx_ckc kx_m67 := fun k hk => match k, hk with
  | 0, _ => kx_wk67_0
  | 1, _ => kx_wk67_1
  | 2, _ => kx_wk67_2
  | k + 3, h => absurd (show k + 3 < 3 from h) (by omega)
theorem kx_wm67 : kx_okM kx_m67 := ⟨kx_wk67, rfl, Or.inr ⟨List.mem_of_getElem? (i := 711) (by decide +kernel), by decide +kernel, by decide +kernel, by decide +kernel⟩⟩
theorem kx_wk68_0 : kx_ckr kx_m68 0 = true := by decide +kernel
theorem kx_wk68_1 : kx_ckr kx_m68 1 = true := by decide +kernel
theorem kx_wk68 : kx_ckc kx_m68 := fun k hk => match k, hk with
  | 0, _ => kx_wk68_0
  | 1, _ => kx_wk68_1
  | k + 2, h => absurd (show k + 2 < 2 from h) (by omega)
theorem kx_wm68 : kx_okM kx_m68 := ⟨kx_wk68, rfl, Or.inr ⟨List.mem_of_getElem? (i := 726) (by decide +kernel), by decide +kernel, by decide +kernel, by decide +kernel⟩⟩
theorem kx_wk69_0 : kx_ckr kx_m69 0 = true := by decide +kernel
theorem kx_wk69_1 : kx_ckr kx_m69 1 = true := by decide +kernel
theorem kx_wk69 : kx_ckc kx_m69 := fun k hk => match k, hk with
  | 0, _ => kx_wk69_0
  | 1, _ => kx_wk69_1
  | k + 2, h => absurd (show k + 2 < 2 from h) (by omega)
theorem kx_wm69 : kx_okM kx_m69 := ⟨kx_wk69, rfl, Or.inr ⟨List.mem_of_getElem? (i := 315) (by decide +kernel), by decide +kernel, by decide +kernel, by decide +kernel⟩⟩
theorem kx_wk70_0 : kx_ckr kx_m70 0 = true := by decide +kernel
theorem kx_wk70_1 : kx_ckr kx_m70 1 = true := by decide +kernel
theorem kx_wk70_2 : kx_ckr kx_m70 2 = true := by decide +kernel
theorem kx_wk70 : kx_ckc kx_m70 := fun k hk => match k, hk with
  | 0, _ => kx_wk70_0
  | 1, _ => kx_wk70_1
  | 2, _ => kx_wk70_2
  | k + 3, h => absurd (show k + 3 < 3 from h) (by omega)
theorem kx_wm70 : kx_okM kx_m70 := ⟨kx_wk70, rfl, Or.inr ⟨List.mem_of_getElem? (i := 734) (by decide +kernel), by decide +kernel, by decide +kernel, by decide +kernel⟩⟩
theorem kx_wk71_0 : kx_ckr kx_m71 0 = true := by decide +kernel
theorem kx_wk71_1 : kx_ckr kx_m71 1 = true := by decide +kernel
theorem kx_wk71_2 : kx_ckr kx_m71 2 = true := by decide +kernel
theorem kx_wk71 : kx_ckc kx_m71 := fun k hk => match k, hk with
  | 0, _ => kx_wk71_0
  | 1, _ => kx_wk71_1
  | 2, _ => kx_wk71_2
  | k + 3, h => absurd (show k + 3 < 3 from h) (by omega)
theorem kx_wm71 : kx_okM kx_m71 := ⟨kx_wk71, rfl, Or.inr ⟨List.mem_of_getElem? (i := 737) (by decide +kernel), by decide +kernel, by decide +kernel, by decide +kernel⟩⟩
theorem kx_wk72_0 : kx_ckr kx_m72 0 = true := by decide +kernel
theorem kx_wk72_1 : kx_ckr kx_m72 1 = true := by decide +kernel
theorem kx_wk72_2 : kx_ckr kx_m72 2 = true := by decide +kernel
theorem kx_wk72_3 : kx_ckr kx_m72 3 = true := by decide +kernel
theorem kx_wk72 : kx_ckc kx_m72 := fun k hk => match k, hk with
  | 0, _ => kx_wk72_0
  | 1, _ => kx_wk72_1
  | 2, _ => kx_wk72_2
  | 3, _ => kx_wk72_3
  | k + 4, h => absurd (show k + 4 < 4 from h) (by omega)
theorem kx_wm72 : kx_okM kx_m72 := ⟨kx_wk72, rfl, Or.inr ⟨List.mem_of_getElem? (i := 742) (by decide +kernel), by decide +kernel, by decide +kernel, by decide +kernel⟩⟩
theorem kx_wk73_0 : kx_ckr kx_m73 0 = true := by decide +kernel
theorem kx_wk73_1 : kx_ckr kx_m73 1 = true := by decide +kernel
theorem kx_wk73_2 : kx_ckr kx_m73 2 = true := by decide +kernel
theorem kx_wk73_3 : kx_ckr kx_m73 3 = true := by decide +kernel
theorem kx_wk73 : kx_ckc kx_m73 := fun k hk => match k, hk with
  | 0, _ => kx_wk73_0
  | 1, _ => kx_wk73_1
  | 2, _ => kx_wk73_2
  | 3, _ => kx_wk73_3
  | k + 4, h => absurd (show k + 4 < 4 from h) (by omega)
theorem kx_wm73 : kx_okM kx_m73 := ⟨kx_wk73, rfl, Or.inr ⟨List.mem_of_getElem? (i := 764) (by decide +kernel), by decide +kernel, by decide +kernel, by decide +kernel⟩⟩
theorem kx_wk74_0 : kx_ckr kx_m74 0 = true := by decide +kernel
theorem kx_wk74_1 : kx_ckr kx_m74 1 = true := by decide +kernel
theorem kx_wk74 : kx_ckc kx_m74 := fun k hk => match k, hk with
  | 0, _ => kx_wk74_0
  | 1, _ => kx_wk74_1
  | k + 2, h => absurd (show k + 2 < 2 from h) (by omega)
theorem kx_wm74 : kx_okM kx_m74 := ⟨kx_wk74, rfl, Or.inr ⟨List.mem_of_getElem? (i := 774) (by decide +kernel), by decide +kernel, by decide +kernel, by decide +kernel⟩⟩
theorem kx_wk75_0 : kx_ckr kx_m75 0 = true := by decide +kernel
theorem kx_wk75_1 : kx_ckr kx_m75 1 = true := by decide +kernel
theorem kx_wk75_2 : kx_ckr kx_m75 2 = true := by decide +kernel
theorem kx_wk75_3 : kx_ckr kx_m75 3 = true := by decide +kernel
theorem kx_wk75_4 : kx_ckr kx_m75 4 = true := by decide +kernel
theorem kx_wk75_5 : kx_ckr kx_m75 5 = true := by decide +kernel
theorem kx_wk75_6 : kx_ckr kx_m75 6 = true := by decide +kernel
theorem kx_wk75_7 : kx_ckr kx_m75 7 = true := by decide +kernel
theorem kx_wk75_8 : kx_ckr kx_m75 8 = true := by decide +kernel
theorem kx_wk75_9 : kx_ckr kx_m75 9 = true := by decide +kernel
theorem kx_wk75 : kx_ckc kx_m75 := fun k hk => match k, hk with
  | 0, _ => kx_wk75_0
  | 1, _ => kx_wk75_1
  | 2, _ => kx_wk75_2
  | 3, _ => kx_wk75_3
  | 4, _ => kx_wk75_4
  | 5, _ => kx_wk75_5
  | 6, _ => kx_wk75_6
  | 7, _ => kx_wk75_7
  | 8, _ => kx_wk75_8
  | 9, _ => kx_wk75_9
  | k + 10, h => absurd (show k + 10 < 10 from h) (by omega)
theorem kx_wm75 : kx_okM kx_m75 := ⟨kx_wk75, rfl, Or.inr ⟨List.mem_of_getElem? (i := 778) (by decide +kernel), by decide +kernel, by decide +kernel, by decide +kernel⟩⟩
theorem kx_wk76_0 : kx_ckr kx_m76 0 = true := by decide +kernel
theorem kx_wk76_1 : kx_ckr kx_m76 1 = true := by decide +kernel
theorem kx_wk76 : kx_ckc kx_m76 := fun k hk => match k, hk with
  | 0, _ => kx_wk76_0
  | 1, _ => kx_wk76_1
  | k + 2, h => absurd (show k + 2 < 2 from h) (by omega)
theorem kx_wm76 : kx_okM kx_m76 := ⟨kx_wk76, rfl, Or.inr ⟨List.mem_of_getElem? (i := 782) (by decide +kernel), by decide +kernel, by decide +kernel, by decide +kernel⟩⟩
theorem kx_wk77_0 : kx_ckr kx_m77 0 = true := by decide +kernel
theorem kx_wk77_1 : kx_ckr kx_m77 1 = true := by decide +kernel
theorem kx_wk77 : kx_ckc kx_m77 := fun k hk => match k, hk with
  | 0, _ => kx_wk77_0
  | 1, _ => kx_wk77_1
  | k + 2, h => absurd (show k + 2 < 2 from h) (by omega)
theorem kx_wm77 : kx_okM kx_m77 := ⟨kx_wk77, rfl, Or.inr ⟨List.mem_of_getElem? (i := 1058) (by decide +kernel), by decide +kernel, by decide +kernel, by decide +kernel⟩⟩
theorem kx_wk78_0 : kx_ckr kx_m78 0 = true := by decide +kernel
theorem kx_wk78 : kx_ckc kx_m78 := fun k hk => match k, hk with
  | 0, _ => kx_wk78_0
  | k + 1, h => absurd (show k + 1 < 1 from h) (by omega)
theorem kx_wm78 : kx_okM kx_m78 := ⟨kx_wk78, rfl, Or.inr ⟨List.mem_of_getElem? (i := 416) (by decide +kernel), by decide +kernel, by decide +kernel, by decide +kernel⟩⟩
theorem kx_wk79_0 : kx_ckr kx_m79 0 = true := by decide +kernel
theorem kx_wk79_1 : kx_ckr kx_m79 1 = true := by decide +kernel
theorem kx_wk79_2 : kx_ckr kx_m79 2 = true := by decide +kernel
theorem kx_wk79_3 : kx_ckr kx_m79 3 = true := by decide +kernel
theorem kx_wk79 : kx_ckc kx_m79 := fun k hk => match k, hk with
  | 0, _ => kx_wk79_0
  | 1, _ => kx_wk79_1
  | 2, _ => kx_wk79_2
  | 3, _ => kx_wk79_3
  | k + 4, h => absurd (show k + 4 < 4 from h) (by omega)
theorem kx_wm79 : kx_okM kx_m79 := ⟨kx_wk79, rfl, Or.inr ⟨List.mem_of_getElem? (i := 377) (by decide +kernel), by decide +kernel, by decide +kernel, by decide +kernel⟩⟩
theorem kx_wk80_0 : kx_ckr kx_m80 0 = true := by decide +kernel
theorem kx_wk80_1 : kx_ckr kx_m80 1 = true := by decide +kernel
theorem kx_wk80_2 : kx_ckr kx_m80 2 = true := by decide +kernel
theorem kx_wk80_3 : kx_ckr kx_m80 3 = true := by decide +kernel
theorem kx_wk80_4 : kx_ckr kx_m80 4 = true := by decide +kernel
theorem kx_wk80_5 : kx_ckr kx_m80 5 = true := by decide +kernel
theorem kx_wk80 : kx_ckc kx_m80 := fun k hk => match k, hk with
  | 0, _ => kx_wk80_0
  | 1, _ => kx_wk80_1
  | 2, _ => kx_wk80_2
  | 3, _ => kx_wk80_3
  | 4, _ => kx_wk80_4
  | 5, _ => kx_wk80_5
  | k + 6, h => absurd (show k + 6 < 6 from h) (by omega)
theorem kx_wm80 : kx_okM kx_m80 := ⟨kx_wk80, rfl, Or.inr ⟨List.mem_of_getElem? (i := 913) (by decide +kernel), by decide +kernel, by decide +kernel, by decide +kernel⟩⟩
theorem kx_wk81_0 : kx_ckr kx_m81 0 = true := by decide +kernel
theorem kx_wk81_1 : kx_ckr kx_m81 1 = true := by decide +kernel
theorem kx_wk81_2 : kx_ckr kx_m81 2 = true := by decide +kernel
theorem kx_wk81_3 : kx_ckr kx_m81 3 = true := by decide +kernel
theorem kx_wk81_4 : kx_ckr kx_m81 4 = true := by decide +kernel
theorem kx_wk81_5 : kx_ckr kx_m81 5 = true := by decide +kernel
theorem kx_wk81_6 : kx_ckr kx_m81 6 = true := by decide +kernel
theorem kx_wk81_7 : kx_ckr kx_m81 7 = true := by decide +kernel
theorem kx_wk81 : kx_ckc kx_m81 := fun k hk => match k, hk with
  | 0, _ => kx_wk81_0
  | 1, _ => kx_wk81_1
  | 2, _ => kx_wk81_2
  | 3, _ => kx_wk81_3
  | 4, _ => kx_wk81_4
  | 5, _ => kx_wk81_5
  | 6, _ => kx_wk81_6
  | 7, _ => kx_wk81_7
  | k + 8, h => absurd (show k + 8 < 8 from h) (by omega)
theorem kx_wm81 : kx_okM kx_m81 := ⟨kx_wk81, rfl, Or.inr ⟨List.mem_of_getElem? (i := 917) (by decide +kernel), by decide +kernel, by decide +kernel, by decide +kernel⟩⟩
theorem kx_wk82_0 : kx_ckr kx_m82 0 = true := by decide +kernel
theorem kx_wk82_1 : kx_ckr kx_m82 1 = true := by decide +kernel
theorem kx_wk82 : kx_ckc kx_m82 := fun k hk => match k, hk with
  | 0, _ => kx_wk82_0
  | 1, _ => kx_wk82_1
  | k + 2, h => absurd (show k + 2 < 2 from h) (by omega)
theorem kx_wm82 : kx_okM kx_m82 := ⟨kx_wk82, rfl, Or.inr ⟨List.mem_of_getElem? (i := 921) (by decide +kernel), by decide +kernel, by decide +kernel, by decide +kernel⟩⟩
theorem kx_wk83_0 : kx_ckr kx_m83 0 = true := by decide +kernel
theorem kx_wk83_1 : kx_ckr kx_m83 1 = true := by decide +kernel
theorem kx_wk83 : kx_ckc kx_m83 := fun k hk => match k, hk with
  | 0, _ => kx_wk83_0
  | 1, _ => kx_wk83_1
  | k + 2, h => absurd (show k + 2 < 2 from h) (by omega)
theorem kx_wm83 : kx_okM kx_m83 := ⟨kx_wk83, rfl, Or.inr ⟨List.mem_of_getElem? (i := 939) (by decide +kernel), by decide +kernel, by decide +kernel, by decide +kernel⟩⟩
theorem kx_wk84_0 : kx_ckr kx_m84 0 = true := by decide +kernel
theorem kx_wk84_1 : kx_ckr kx_m84 1 = true := by decide +kernel
theorem kx_wk84_2 : kx_ckr kx_m84 2 = true := by decide +kernel
theorem kx_wk84 : kx_ckc kx_m84 := fun k hk => match k, hk with
  | 0, _ => kx_wk84_0
  | 1, _ => kx_wk84_1
  | 2, _ => kx_wk84_2
  | k + 3, h => absurd (show k + 3 < 3 from h) (by omega)
theorem kx_wm84 : kx_okM kx_m84 := ⟨kx_wk84, rfl, Or.inr ⟨List.mem_of_getElem? (i := 968) (by decide +kernel), by decide +kernel, by decide +kernel, by decide +kernel⟩⟩
theorem kx_wk85_0 : kx_ckr kx_m85 0 = true := by decide +kernel
theorem kx_wk85_1 : kx_ckr kx_m85 1 = true := by decide +kernel
theorem kx_wk85_2 : kx_ckr kx_m85 2 = true := by decide +kernel
theorem kx_wk85 : kx_ckc kx_m85 := fun k hk => match k, hk with
  | 0, _ => kx_wk85_0
  | 1, _ => kx_wk85_1
  | 2, _ => kx_wk85_2
  | k + 3, h => absurd (show k + 3 < 3 from h) (by omega)
theorem kx_wm85 : kx_okM kx_m85 := ⟨kx_wk85, rfl, Or.inr ⟨List.mem_of_getElem? (i := 972) (by decide +kernel), by decide +kernel, by decide +kernel, by decide +kernel⟩⟩
theorem kx_wk86_0 : kx_ckr kx_m86 0 = true := by decide +kernel
theorem kx_wk86_1 : kx_ckr kx_m86 1 = true := by decide +kernel
theorem kx_wk86_2 : kx_ckr kx_m86 2 = true := by decide +kernel
theorem kx_wk86_3 : kx_ckr kx_m86 3 = true := by decide +kernel
theorem kx_wk86_4 : kx_ckr kx_m86 4 = true := by decide +kernel
theorem kx_wk86_5 : kx_ckr kx_m86 5 = true := by decide +kernel
theorem kx_wk86_6 : kx_ckr kx_m86 6 = true := by decide +kernel
theorem kx_wk86_7 : kx_ckr kx_m86 7 = true := by decide +kernel
theorem kx_wk86_8 : kx_ckr kx_m86 8 = true := by decide +kernel
theorem kx_wk86_9 : kx_ckr kx_m86 9 = true := by decide +kernel
theorem kx_wk86_10 : kx_ckr kx_m86 10 = true := by decide +kernel
theorem kx_wk86_11 : kx_ckr kx_m86 11 = true := by decide +kernel
theorem kx_wk86 : kx_ckc kx_m86 := fun k hk => match k, hk with
  | 0, _ => kx_wk86_0
  | 1, _ => kx_wk86_1
  | 2, _ => kx_wk86_2
  | 3, _ => kx_wk86_3
  | 4, _ => kx_wk86_4
  | 5, _ => kx_wk86_5
  | 6, _ => kx_wk86_6
  | 7, _ => kx_wk86_7
  | 8, _ => kx_wk86_8
  | 9, _ => kx_wk86_9
  | 10, _ => kx_wk86_10
  | 11, _ => kx_wk86_11
  | k + 12, h => absurd (show k + 12 < 12 from h) (by omega)
theorem kx_wm86 : kx_okM kx_m86 := ⟨kx_wk86, rfl, Or.inr ⟨List.mem_of_getElem? (i := 977) (by decide +kernel), by decide +kernel, by decide +kernel, by decide +kernel⟩⟩
theorem kx_wk87_0 : kx_ckr kx_m87 0 = true := by decide +kernel
theorem kx_wk87_1 : kx_ckr kx_m87 1 = true := by decide +kernel
theorem kx_wk87_2 : kx_ckr kx_m87 2 = true := by decide +kernel
theorem kx_wk87_3 : kx_ckr kx_m87 3 = true := by decide +kernel
theorem kx_wk87_4 : kx_ckr kx_m87 4 = true := by decide +kernel
theorem kx_wk87_5 : kx_ckr kx_m87 5 = true := by decide +kernel
theorem kx_wk87_6 : kx_ckr kx_m87 6 = true := by decide +kernel
theorem kx_wk87 : kx_ckc kx_m87 := fun k hk => match k, hk with
  | 0, _ => kx_wk87_0
  | 1, _ => kx_wk87_1
  | 2, _ => kx_wk87_2
  | 3, _ => kx_wk87_3
  | 4, _ => kx_wk87_4
  | 5, _ => kx_wk87_5
  | 6, _ => kx_wk87_6
  | k + 7, h => absurd (show k + 7 < 7 from h) (by omega)
theorem kx_wm87 : kx_okM kx_m87 := ⟨kx_wk87, rfl, Or.inr ⟨List.mem_of_getElem? (i := 106) (by decide +kernel), by decide +kernel, by decide +kernel, by decide +kernel⟩⟩
theorem kx_wk88_0 : kx_ckr kx_m88 0 = true := by decide +kernel
theorem kx_wk88_1 : kx_ckr kx_m88 1 = true := by decide +kernel
theorem kx_wk88_2 : kx_ckr kx_m88 2 = true := by decide +kernel
theorem kx_wk88_3 : kx_ckr kx_m88 3 = true := by decide +kernel
theorem kx_wk88_4 : kx_ckr kx_m88 4 = true := by decide +kernel
theorem kx_wk88_5 : kx_ckr kx_m88 5 = true := by decide +kernel
theorem kx_wk88_6 : kx_ckr kx_m88 6 = true := by decide +kernel
theorem kx_wk88_7 : kx_ckr kx_m88 7 = true := by decide +kernel
theorem kx_wk88_8 : kx_ckr kx_m88 8 = true := by decide +kernel
theorem kx_wk88_9 : kx_ckr kx_m88 9 = true := by decide +kernel
theorem kx_wk88_10 : kx_ckr kx_m88 10 = true := by decide +kernel
theorem kx_wk88_11 : kx_ckr kx_m88 11 = true := by decide +kernel
theorem kx_wk88_12 : kx_ckr kx_m88 12 = true := by decide +kernel
theorem kx_wk88 : kx_ckc kx_m88 := fun k hk => match k, hk with
  | 0, _ => kx_wk88_0
  | 1, _ => kx_wk88_1
  | 2, _ => kx_wk88_2
  | 3, _ => kx_wk88_3
  | 4, _ => kx_wk88_4
  | 5, _ => kx_wk88_5
  | 6, _ => kx_wk88_6
  | 7, _ => kx_wk88_7
  | 8, _ => kx_wk88_8
  | 9, _ => kx_wk88_9
  | 10, _ => kx_wk88_10
  | 11, _ => kx_wk88_11
  | 12, _ => kx_wk88_12
  | k + 13, h => absurd (show k + 13 < 13 from h) (by omega)
theorem kx_wm88 : kx_okM kx_m88 := ⟨kx_wk88, rfl, Or.inr ⟨List.mem_of_getElem? (i := 543) (by decide +kernel), by decide +kernel, by decide +kernel, by decide +kernel⟩⟩
theorem kx_wk89_0 : kx_ckr kx_m89 0 = true := by decide +kernel
theorem kx_wk89_1 : kx_ckr kx_m89 1 = true := by decide +kernel
theorem kx_wk89_2 : kx_ckr kx_m89 2 = true := by decide +kernel
theorem kx_wk89 : kx_ckc kx_m89 := fun k hk => match k, hk with
  | 0, _ => kx_wk89_0
  | 1, _ => kx_wk89_1
  | 2, _ => kx_wk89_2
  | k + 3, h => absurd (show k + 3 < 3 from h) (by omega)
theorem kx_wm89 : kx_okM kx_m89 := ⟨kx_wk89, rfl, Or.inr ⟨List.mem_of_getElem? (i := 562) (by decide +kernel), by decide +kernel, by decide +kernel, by decide +kernel⟩⟩
theorem kx_wk90_0 : kx_ckr kx_m90 0 = true := by decide +kernel
theorem kx_wk90_1 : kx_ckr kx_m90 1 = true := by decide +kernel
theorem kx_wk90_2 : kx_ckr kx_m90 2 = true := by decide +kernel
theorem kx_wk90 : kx_ckc kx_m90 := fun k hk => match k, hk with
  | 0, _ => kx_wk90_0
  | 1, _ => kx_wk90_1
  | 2, _ => kx_wk90_2
  | k + 3, h => absurd (show k + 3 < 3 from h) (by omega)
theorem kx_wm90 : kx_okM kx_m90 := ⟨kx_wk90, rfl, Or.inr ⟨List.mem_of_getElem? (i := 570) (by decide +kernel), by decide +kernel, by decide +kernel, by decide +kernel⟩⟩
theorem kx_wk91_0 : kx_ckr kx_m91 0 = true := by decide +kernel
theorem kx_wk91_1 : kx_ckr kx_m91 1 = true := by decide +kernel
theorem kx_wk91_2 : kx_ckr kx_m91 2 = true := by decide +kernel
theorem kx_wk91_3 : kx_ckr kx_m91 3 = true := by decide +kernel
theorem kx_wk91 : kx_ckc kx_m91 := fun k hk => match k, hk with
  | 0, _ => kx_wk91_0
  | 1, _ => kx_wk91_1
  | 2, _ => kx_wk91_2
  | 3, _ => kx_wk91_3
  | k + 4, h => absurd (show k + 4 < 4 from h) (by omega)
theorem kx_wm91 : kx_okM kx_m91 := ⟨kx_wk91, rfl, Or.inr ⟨List.mem_of_getElem? (i := 574) (by decide +kernel), by decide +kernel, by decide +kernel, by decide +kernel⟩⟩
theorem kx_wk92_0 : kx_ckr kx_m92 0 = true := by decide +kernel
theorem kx_wk92_1 : kx_ckr kx_m92 1 = true := by decide +kernel
theorem kx_wk92_2 : kx_ckr kx_m92 2 = true := by decide +kernel
theorem kx_wk92 : kx_ckc kx_m92 := fun k hk => match k, hk with
  | 0, _ => kx_wk92_0
  | 1, _ => kx_wk92_1
  | 2, _ => kx_wk92_2
  | k + 3, h => absurd (show k + 3 < 3 from h) (by omega)
theorem kx_wm92 : kx_okM kx_m92 := ⟨kx_wk92, rfl, Or.inr ⟨List.mem_of_getElem? (i := 602) (by decide +kernel), by decide +kernel, by decide +kernel, by decide +kernel⟩⟩
theorem kx_wk93_0 : kx_ckr kx_m93 0 = true := by decide +kernel
theorem kx_wk93_1 : kx_ckr kx_m93 1 = true := by decide +kernel
theorem kx_wk93_2 : kx_ckr kx_m93 2 = true := by decide +kernel
theorem kx_wk93_3 : kx_ckr kx_m93 3 = true := by decide +kernel
theorem kx_wk93_4 : kx_ckr kx_m93 4 = true := by decide +kernel
theorem kx_wk93_5 : kx_ckr kx_m93 5 = true := by decide +kernel
theorem kx_wk93_6 : kx_ckr kx_m93 6 = true := by decide +kernel
theorem kx_wk93_7 : kx_ckr kx_m93 7 = true := by decide +kernel
theorem kx_wk93 : kx_ckc kx_m93 := fun k hk => match k, hk with
  | 0, _ => kx_wk93_0
  | 1, _ => kx_wk93_1
  | 2, _ => kx_wk93_2
  | 3, _ => kx_wk93_3
  | 4, _ => kx_wk93_4
  | 5, _ => kx_wk93_5
  | 6, _ => kx_wk93_6
  | 7, _ => kx_wk93_7
  | k + 8, h => absurd (show k + 8 < 8 from h) (by omega)
theorem kx_wm93 : kx_okM kx_m93 := ⟨kx_wk93, rfl, Or.inr ⟨List.mem_of_getElem? (i := 606) (by decide +kernel), by decide +kernel, by decide +kernel, by decide +kernel⟩⟩
theorem kx_wk94_0 : kx_ckr kx_m94 0 = true := by decide +kernel
theorem kx_wk94_1 : kx_ckr kx_m94 1 = true := by decide +kernel
theorem kx_wk94_2 : kx_ckr kx_m94 2 = true := by decide +kernel
theorem kx_wk94 : kx_ckc kx_m94 := fun k hk => match k, hk with
  | 0, _ => kx_wk94_0
  | 1, _ => kx_wk94_1
  | 2, _ => kx_wk94_2
  | k + 3, h => absurd (show k + 3 < 3 from h) (by omega)
theorem kx_wm94 : kx_okM kx_m94 := ⟨kx_wk94, rfl, Or.inr ⟨List.mem_of_getElem? (i := 618) (by decide +kernel), by decide +kernel, by decide +kernel, by decide +kernel⟩⟩
theorem kx_wk95_0 : kx_ckr kx_m95 0 = true := by decide +kernel
theorem kx_wk95_1 : kx_ckr kx_m95 1 = true := by decide +kernel
theorem kx_wk95 : kx_ckc kx_m95 := fun k hk => match k, hk with
  | 0, _ => kx_wk95_0
  | 1, _ => kx_wk95_1
  | k + 2, h => absurd (show k + 2 < 2 from h) (by omega)
theorem kx_wm95 : kx_okM kx_m95 := ⟨kx_wk95, rfl, Or.inr ⟨List.mem_of_getElem? (i := 626) (by decide +kernel), by decide +kernel, by decide +kernel, by decide +kernel⟩⟩
theorem kx_wk96_0 : kx_ckr kx_m96 0 = true := by decide +kernel
theorem kx_wk96_1 : kx_ckr kx_m96 1 = true := by decide +kernel
theorem kx_wk96 : kx_ckc kx_m96 := fun k hk => match k, hk with
  | 0, _ => kx_wk96_0
  | 1, _ => kx_wk96_1
  | k + 2, h => absurd (show k + 2 < 2 from h) (by omega)
theorem kx_wm96 : kx_okM kx_m96 := ⟨kx_wk96, rfl, Or.inr ⟨List.mem_of_getElem? (i := 633) (by decide +kernel), by decide +kernel, by decide +kernel, by decide +kernel⟩⟩
theorem kx_wk97_0 : kx_ckr kx_m97 0 = true := by decide +kernel
theorem kx_wk97_1 : kx_ckr kx_m97 1 = true := by decide +kernel
theorem kx_wk97_2 : kx_ckr kx_m97 2 = true := by decide +kernel
theorem kx_wk97_3 : kx_ckr kx_m97 3 = true := by decide +kernel
theorem kx_wk97 : kx_ckc kx_m97 := fun k hk => match k, hk with
  | 0, _ => kx_wk97_0
  | 1, _ => kx_wk97_1
  | 2, _ => kx_wk97_2
  | 3, _ => kx_wk97_3
  | k + 4, h => absurd (show k + 4 < 4 from h) (by omega)
theorem kx_wm97 : kx_okM kx_m97 := ⟨kx_wk97, rfl, Or.inr ⟨List.mem_of_getElem? (i := 641) (by decide +kernel), by decide +kernel, by decide +kernel, by decide +kernel⟩⟩
theorem kx_wk98_0 : kx_ckr kx_m98 0 = true := by decide +kernel
theorem kx_wk98_1 : kx_ckr kx_m98 1 = true := by decide +kernel
theorem kx_wk98_2 : kx_ckr kx_m98 2 = true := by decide +kernel
theorem kx_wk98_3 : kx_ckr kx_m98 3 = true := by decide +kernel
theorem kx_wk98 : kx_ckc kx_m98 := fun k hk => match k, hk with
  | 0, _ => kx_wk98_0
  | 1, _ => kx_wk98_1
  | 2, _ => kx_wk98_2
  | 3, _ => kx_wk98_3
  | k + 4, h => absurd (show k + 4 < 4 from h) (by omega)
theorem kx_wm98 : kx_okM kx_m98 := ⟨kx_wk98, rfl, Or.inr ⟨List.mem_of_getElem? (i := 664) (by decide +kernel), by decide +kernel, by decide +kernel, by decide +kernel⟩⟩
theorem kx_wk99_0 : kx_ckr kx_m99 0 = true := by decide +kernel
theorem kx_wk99_1 : kx_ckr kx_m99 1 = true := by decide +kernel
theorem kx_wk99_2 : kx_ckr kx_m99 2 = true := by decide +kernel
theorem kx_wk99_3 : kx_ckr kx_m99 3 = true := by decide +kernel
theorem kx_wk99_4 : kx_ckr kx_m99 4 = true := by decide +kernel
theorem kx_wk99 : kx_ckc kx_m99 := fun k hk => match k, hk with
  | 0, _ => kx_wk99_0
  | 1, _ => kx_wk99_1
  | 2, _ => kx_wk99_2
  | 3, _ => kx_wk99_3
  | 4, _ => kx_wk99_4
  | k + 5, h => absurd (show k + 5 < 5 from h) (by omega)
theorem kx_wm99 : kx_okM kx_m99 := ⟨kx_wk99, rfl, Or.inr ⟨List.mem_of_getElem? (i := 1020) (by decide +kernel), by decide +kernel, by decide +kernel, by decide +kernel⟩⟩
theorem kx_wk100_0 : kx_ckr kx_m100 0 = true := by decide +kernel
theorem kx_wk100_1 : kx_ckr kx_m100 1 = true := by decide +kernel
theorem kx_wk100_2 : kx_ckr kx_m100 2 = true := by decide +kernel
theorem kx_wk100 : kx_ckc kx_m100 := fun k hk => match k, hk with
  | 0, _ => kx_wk100_0
  | 1, _ => kx_wk100_1
  | 2, _ => kx_wk100_2
  | k + 3, h => absurd (show k + 3 < 3 from h) (by omega)
theorem kx_wm100 : kx_okM kx_m100 := ⟨kx_wk100, rfl, Or.inr ⟨List.mem_of_getElem? (i := 1118) (by decide +kernel), by decide +kernel, by decide +kernel, by decide +kernel⟩⟩
theorem kx_wk101_0 : kx_ckr kx_m101 0 = true := by decide +kernel
theorem kx_wk101 : kx_ckc kx_m101 := fun k hk => match k, hk with
  | 0, _ => kx_wk101_0
  | k + 1, h => absurd (show k + 1 < 1 from h) (by omega)
theorem kx_wm101 : kx_okM kx_m101 := ⟨kx_wk101, rfl, Or.inr ⟨List.mem_of_getElem? (i := 113) (by decide +kernel), by decide +kernel, by decide +kernel, by decide +kernel⟩⟩
theorem kx_wk102_0 : kx_ckr kx_m102 0 = true := by decide +kernel
theorem kx_wk102_1 : kx_ckr kx_m102 1 = true := by decide +kernel
theorem kx_wk102_2 : kx_ckr kx_m102 2 = true := by decide +kernel
theorem kx_wk102 : kx_ckc kx_m102 := fun k hk => match k, hk with
  | 0, _ => kx_wk102_0
  | 1, _ => kx_wk102_1
  | 2, _ => kx_wk102_2
  | k + 3, h => absurd (show k + 3 < 3 from h) (by omega)
theorem kx_wm102 : kx_okM kx_m102 := ⟨kx_wk102, rfl, Or.inr ⟨List.mem_of_getElem? (i := 547) (by decide +kernel), by decide +kernel, by decide +kernel, by decide +kernel⟩⟩
theorem kx_wk103_0 : kx_ckr kx_m103 0 = true := by decide +kernel
theorem kx_wk103_1 : kx_ckr kx_m103 1 = true := by decide +kernel
theorem kx_wk103_2 : kx_ckr kx_m103 2 = true := by decide +kernel
theorem kx_wk103 : kx_ckc kx_m103 := fun k hk => match k, hk with
  | 0, _ => kx_wk103_0
  | 1, _ => kx_wk103_1
  | 2, _ => kx_wk103_2
  | k + 3, h => absurd (show k + 3 < 3 from h) (by omega)
theorem kx_wm103 : kx_okM kx_m103 := ⟨kx_wk103, rfl, Or.inr ⟨List.mem_of_getElem? (i := 353) (by decide +kernel), by decide +kernel, by decide +kernel, by decide +kernel⟩⟩
theorem kx_wk104_0 : kx_ckr kx_m104 0 = true := by decide +kernel
theorem kx_wk104_1 : kx_ckr kx_m104 1 = true := by decide +kernel
theorem kx_wk104_2 : kx_ckr kx_m104 2 = true := by decide +kernel
theorem kx_wk104_3 : kx_ckr kx_m104 3 = true := by decide +kernel
theorem kx_wk104_4 : kx_ckr kx_m104 4 = true := by decide +kernel
theorem kx_wk104 : kx_ckc kx_m104 := fun k hk => match k, hk with
  | 0, _ => kx_wk104_0
  | 1, _ => kx_wk104_1
  | 2, _ => kx_wk104_2
  | 3, _ => kx_wk104_3
  | 4, _ => kx_wk104_4
  | k + 5, h => absurd (show k + 5 < 5 from h) (by omega)
theorem kx_wm104 : kx_okM kx_m104 := ⟨kx_wk104, rfl, Or.inr ⟨List.mem_of_getElem? (i := 692) (by decide +kernel), by decide +kernel, by decide +kernel, by decide +kernel⟩⟩
theorem kx_wk105_0 : kx_ckr kx_m105 0 = true := by decide +kernel
theorem kx_wk105_1 : kx_ckr kx_m105 1 = true := by decide +kernel
theorem kx_wk105_2 : kx_ckr kx_m105 2 = true := by decide +kernel
theorem kx_wk105_3 : kx_ckr kx_m105 3 = true := by decide +kernel
theorem kx_wk105_4 : kx_ckr kx_m105 4 = true := by decide +kernel
theorem kx_wk105_5 : kx_ckr kx_m105 5 = true := by decide +kernel
theorem kx_wk105 : kx_ckc kx_m105 := fun k hk => match k, hk with
  | 0, _ => kx_wk105_0
  | 1, _ => kx_wk105_1
  | 2, _ => kx_wk105_2
  | 3, _ => kx_wk105_3
  | 4, _ => kx_wk105_4
  | 5, _ => kx_wk105_5
  | k + 6, h => absurd (show k + 6 < 6 from h) (by omega)
theorem kx_wm105 : kx_okM kx_m105 := ⟨kx_wk105, rfl, Or.inr ⟨List.mem_of_getElem? (i := 698) (by decide +kernel), by decide +kernel, by decide +kernel, by decide +kernel⟩⟩
theorem kx_wk106_0 : kx_ckr kx_m106 0 = true := by decide +kernel
theorem kx_wk106_1 : kx_ckr kx_m106 1 = true := by decide +kernel
theorem kx_wk106_2 : kx_ckr kx_m106 2 = true := by decide +kernel
theorem kx_wk106_3 : kx_ckr kx_m106 3 = true := by decide +kernel
theorem kx_wk106_4 : kx_ckr kx_m106 4 = true := by decide +kernel
theorem kx_wk106_5 : kx_ckr kx_m106 5 = true := by decide +kernel
theorem kx_wk106_6 : kx_ckr kx_m106 6 = true := by decide +kernel
theorem kx_wk106 : kx_ckc kx_m106 := fun k hk => match k, hk with
  | 0, _ => kx_wk106_0
  | 1, _ => kx_wk106_1
  | 2, _ => kx_wk106_2
  | 3, _ => kx_wk106_3
  | 4, _ => kx_wk106_4
  | 5, _ => kx_wk106_5
  | 6, _ => kx_wk106_6
  | k + 7, h => absurd (show k + 7 < 7 from h) (by omega)
theorem kx_wm106 : kx_okM kx_m106 := ⟨kx_wk106, rfl, Or.inr ⟨List.mem_of_getElem? (i := 717) (by decide +kernel), by decide +kernel, by decide +kernel, by decide +kernel⟩⟩
theorem kx_wk107_0 : kx_ckr kx_m107 0 = true := by decide +kernel
theorem kx_wk107_1 : kx_ckr kx_m107 1 = true := by decide +kernel
theorem kx_wk107_2 : kx_ckr kx_m107 2 = true := by decide +kernel
theorem kx_wk107_3 : kx_ckr kx_m107 3 = true := by decide +kernel
theorem kx_wk107 : kx_ckc kx_m107 := fun k hk => match k, hk with
  | 0, _ => kx_wk107_0
  | 1, _ => kx_wk107_1
  | 2, _ => kx_wk107_2
  | 3, _ => kx_wk107_3
  | k + 4, h => absurd (show k + 4 < 4 from h) (by omega)
theorem kx_wm107 : kx_okM kx_m107 := ⟨kx_wk107, rfl, Or.inr ⟨List.mem_of_getElem? (i := 722) (by decide +kernel), by decide +kernel, by decide +kernel, by decide +kernel⟩⟩
theorem kx_wk108_0 : kx_ckr kx_m108 0 = true := by decide +kernel
theorem kx_wk108_1 : kx_ckr kx_m108 1 = true := by decide +kernel
theorem kx_wk108_2 : kx_ckr kx_m108 2 = true := by decide +kernel
theorem kx_wk108_3 : kx_ckr kx_m108 3 = true := by decide +kernel
theorem kx_wk108_4 : kx_ckr kx_m108 4 = true := by decide +kernel
theorem kx_wk108_5 : kx_ckr kx_m108 5 = true := by decide +kernel
theorem kx_wk108_6 : kx_ckr kx_m108 6 = true := by decide +kernel
theorem kx_wk108_7 : kx_ckr kx_m108 7 = true := by decide +kernel
theorem kx_wk108_8 : kx_ckr kx_m108 8 = true := by decide +kernel
theorem kx_wk108 : kx_ckc kx_m108 := fun k hk => match k, hk with
  | 0, _ => kx_wk108_0
  | 1, _ => kx_wk108_1
  | 2, _ => kx_wk108_2
  | 3, _ => kx_wk108_3
  | 4, _ => kx_wk108_4
  | 5, _ => kx_wk108_5
  | 6, _ => kx_wk108_6
  | 7, _ => kx_wk108_7
  | 8, _ => kx_wk108_8
  | k + 9, h => absurd (show k + 9 < 9 from h) (by omega)
theorem kx_wm108 : kx_okM kx_m108 := ⟨kx_wk108, rfl, Or.inr ⟨List.mem_of_getElem? (i := 730) (by decide +kernel), by decide +kernel, by decide +kernel, by decide +kernel⟩⟩
theorem kx_wk109_0 : kx_ckr kx_m109 0 = true := by decide +kernel
theorem kx_wk109_1 : kx_ckr kx_m109 1 = true := by decide +kernel
theorem kx_wk109_2 : kx_ckr kx_m109 2 = true := by decide +kernel
theorem kx_wk109_3 : kx_ckr kx_m109 3 = true := by decide +kernel
theorem kx_wk109_4 : kx_ckr kx_m109 4 = true := by decide +kernel
theorem kx_wk109_5 : kx_ckr kx_m109 5 = true := by decide +kernel
theorem kx_wk109_6 : kx_ckr kx_m109 6 = true := by decide +kernel
theorem kx_wk109 : kx_ckc kx_m109 := fun k hk => match k, hk with
  | 0, _ => kx_wk109_0
  | 1, _ => kx_wk109_1
  | 2, _ => kx_wk109_2
  | 3, _ => kx_wk109_3
  | 4, _ => kx_wk109_4
  | 5, _ => kx_wk109_5
  | 6, _ => kx_wk109_6
  | k + 7, h => absurd (show k + 7 < 7 from h) (by omega)
theorem kx_wm109 : kx_okM kx_m109 := ⟨kx_wk109, rfl, Or.inr ⟨List.mem_of_getElem? (i := 746) (by decide +kernel), by decide +kernel, by decide +kernel, by decide +kernel⟩⟩
theorem kx_wk110_0 : kx_ckr kx_m110 0 = true := by decide +kernel
theorem kx_wk110_1 : kx_ckr kx_m110 1 = true := by decide +kernel
theorem kx_wk110_2 : kx_ckr kx_m110 2 = true := by decide +kernel
theorem kx_wk110_3 : kx_ckr kx_m110 3 = true := by decide +kernel
theorem kx_wk110_4 : kx_ckr kx_m110 4 = true := by decide +kernel
theorem kx_wk110_5 : kx_ckr kx_m110 5 = true := by decide +kernel
theorem kx_wk110_6 : kx_ckr kx_m110 6 = true := by decide +kernel
theorem kx_wk110 : kx_ckc kx_m110 := fun k hk => match k, hk with
  | 0, _ => kx_wk110_0
  | 1, _ => kx_wk110_1
  | 2, _ => kx_wk110_2
  | 3, _ => kx_wk110_3
  | 4, _ => kx_wk110_4
  | 5, _ => kx_wk110_5
  | 6, _ => kx_wk110_6
  | k + 7, h => absurd (show k + 7 < 7 from h) (by omega)
theorem kx_wm110 : kx_okM kx_m110 := ⟨kx_wk110, rfl, Or.inr ⟨List.mem_of_getElem? (i := 750) (by decide +kernel), by decide +kernel, by decide +kernel, by decide +kernel⟩⟩
theorem kx_wk111_0 : kx_ckr kx_m111 0 = true := by decide +kernel
theorem kx_wk111_1 : kx_ckr kx_m111 1 = true := by decide +kernel
theorem kx_wk111_2 : kx_ckr kx_m111 2 = true := by decide +kernel
theorem kx_wk111_3 : kx_ckr kx_m111 3 = true := by decide +kernel
theorem kx_wk111_4 : kx_ckr kx_m111 4 = true := by decide +kernel
theorem kx_wk111 : kx_ckc kx_m111 := fun k hk => match k, hk with
  | 0, _ => kx_wk111_0
  | 1, _ => kx_wk111_1
  | 2, _ => kx_wk111_2
  | 3, _ => kx_wk111_3
  | 4, _ => kx_wk111_4
  | k + 5, h => absurd (show k + 5 < 5 from h) (by omega)
theorem kx_wm111 : kx_okM kx_m111 := ⟨kx_wk111, rfl, Or.inr ⟨List.mem_of_getElem? (i := 756) (by decide +kernel), by decide +kernel, by decide +kernel, by decide +kernel⟩⟩
theorem kx_wk112_0 : kx_ckr kx_m112 0 = true := by decide +kernel
theorem kx_wk112_1 : kx_ckr kx_m112 1 = true := by decide +kernel
theorem kx_wk112_2 : kx_ckr kx_m112 2 = true := by decide +kernel
theorem kx_wk112_3 : kx_ckr kx_m112 3 = true := by decide +kernel
theorem kx_wk112_4 : kx_ckr kx_m112 4 = true := by decide +kernel
theorem kx_wk112_5 : kx_ckr kx_m112 5 = true := by decide +kernel
theorem kx_wk112_6 : kx_ckr kx_m112 6 = true := by decide +kernel
theorem kx_wk112 : kx_ckc kx_m112 := fun k hk => match k, hk with
  | 0, _ => kx_wk112_0
  | 1, _ => kx_wk112_1
  | 2, _ => kx_wk112_2
  | 3, _ => kx_wk112_3
  | 4, _ => kx_wk112_4
  | 5, _ => kx_wk112_5
  | 6, _ => kx_wk112_6
  | k + 7, h => absurd (show k + 7 < 7 from h) (by omega)
theorem kx_wm112 : kx_okM kx_m112 := ⟨kx_wk112, rfl, Or.inr ⟨List.mem_of_getElem? (i := 1158) (by decide +kernel), by decide +kernel, by decide +kernel, by decide +kernel⟩⟩
theorem kx_wk113_0 : kx_ckr kx_m113 0 = true := by decide +kernel
theorem kx_wk113_1 : kx_ckr kx_m113 1 = true := by decide +kernel
theorem kx_wk113_2 : kx_ckr kx_m113 2 = true := by decide +kernel
theorem kx_wk113 : kx_ckc kx_m113 := fun k hk => match k, hk with
  | 0, _ => kx_wk113_0
  | 1, _ => kx_wk113_1
  | 2, _ => kx_wk113_2
  | k + 3, h => absurd (show k + 3 < 3 from h) (by omega)
theorem kx_wm113 : kx_okM kx_m113 := ⟨kx_wk113, rfl, Or.inr ⟨List.mem_of_getElem? (i := 1228) (by decide +kernel), by decide +kernel, by decide +kernel, by decide +kernel⟩⟩
theorem kx_wk114_0 : kx_ckr kx_m114 0 = true := by decide +kernel
theorem kx_wk114 : kx_ckc kx_m114 := fun k hk => match k, hk with
  | 0, _ => kx_wk114_0
  | k + 1, h => absurd (show k + 1 < 1 from h) (by omega)
theorem kx_wm114 : kx_okM kx_m114 := ⟨kx_wk114, rfl, Or.inr ⟨List.mem_of_getElem? (i := 1231) (by decide +kernel), by decide +kernel, by decide +kernel, by decide +kernel⟩⟩
theorem kx_wk115_0 : kx_ckr kx_m115 0 = true := by decide +kernel
theorem kx_wk115 : kx_ckc kx_m115 := fun k hk => match k, hk with
  | 0, _ => kx_wk115_0
  | k + 1, h => absurd (show k + 1 < 1 from h) (by omega)
theorem kx_wm115 : kx_okM kx_m115 := ⟨kx_wk115, rfl, Or.inr ⟨List.mem_of_getElem? (i := 1234) (by decide +kernel), by decide +kernel, by decide +kernel, by decide +kernel⟩⟩
theorem kx_wk116_0 : kx_ckr kx_m116 0 = true := by decide +kernel
theorem kx_wk116_1 : kx_ckr kx_m116 1 = true := by decide +kernel
theorem kx_wk116_2 : kx_ckr kx_m116 2 = true := by decide +kernel
theorem kx_wk116_3 : kx_ckr kx_m116 3 = true := by decide +kernel
theorem kx_wk116_4 : kx_ckr kx_m116 4 = true := by decide +kernel
theorem kx_wk116_5 : kx_ckr kx_m116 5 = true := by decide +kernel
theorem kx_wk116_6 : kx_ckr kx_m116 6 = true := by decide +kernel
theorem kx_wk116_7 : kx_ckr kx_m116 7 = true := by decide +kernel
theorem kx_wk116_8 : kx_ckr kx_m116 8 = true := by decide +kernel
theorem kx_wk116_9 : kx_ckr kx_m116 9 = true := by decide +kernel
theorem kx_wk116_10 : kx_ckr kx_m116 10 = true := by decide +kernel
theorem kx_wk116_11 : kx_ckr kx_m116 11 = true := by decide +kernel
theorem kx_wk116 : kx_ckc kx_m116 := fun k hk => match k, hk with
  | 0, _ => kx_wk116_0
  | 1, _ => kx_wk116_1
  | 2, _ => kx_wk116_2
  | 3, _ => kx_wk116_3
  | 4, _ => kx_wk116_4
  | 5, _ => kx_wk116_5
  | 6, _ => kx_wk116_6
  | 7, _ => kx_wk116_7
  | 8, _ => kx_wk116_8
  | 9, _ => kx_wk116_9
  | 10, _ => kx_wk116_10
  | 11, _ => kx_wk116_11
  | k + 12, h => absurd (show k + 12 < 12 from h) (by omega)
theorem kx_wm116 : kx_okM kx_m116 := ⟨kx_wk116, rfl, Or.inr ⟨List.mem_of_getElem? (i := 1237) (by decide +kernel), by decide +kernel, by decide +kernel, by decide +kernel⟩⟩
theorem kx_wk117_0 : kx_ckr kx_m117 0 = true := by decide +kernel
theorem kx_wk117_1 : kx_ckr kx_m117 1 = true := by decide +kernel
theorem kx_wk117 : kx_ckc kx_m117 := fun k hk => match k, hk with
  | 0, _ => kx_wk117_0
  | 1, _ => kx_wk117_1
  | k + 2, h => absurd (show k + 2 < 2 from h) (by omega)
theorem kx_wm117 : kx_okM kx_m117 := ⟨kx_wk117, rfl, Or.inr ⟨List.mem_of_getElem? (i := 1240) (by decide +kernel), by decide +kernel, by decide +kernel, by decide +kernel⟩⟩
theorem kx_wk118_0 : kx_ckr kx_m118 0 = true := by decide +kernel
theorem kx_wk118_1 : kx_ckr kx_m118 1 = true := by decide +kernel
theorem kx_wk118 : kx_ckc kx_m118 := fun k hk => match k, hk with
  | 0, _ => kx_wk118_0
  | 1, _ => kx_wk118_1
  | k + 2, h => absurd (show k + 2 < 2 from h) (by omega)
theorem kx_wm118 : kx_okM kx_m118 := ⟨kx_wk118, rfl, Or.inr ⟨List.mem_of_getElem? (i := 1243) (by decide +kernel), by decide +kernel, by decide +kernel, by decide +kernel⟩⟩
theorem kx_wk119_0 : kx_ckr kx_m119 0 = true := by decide +kernel
theorem kx_wk119 : kx_ckc kx_m119 := fun k hk => match k, hk with
  | 0, _ => kx_wk119_0
  | k + 1, h => absurd (show k + 1 < 1 from h) (by omega)
theorem kx_wm119 : kx_okM kx_m119 := ⟨kx_wk119, rfl, Or.inr ⟨List.mem_of_getElem? (i := 1246) (by decide +kernel), by decide +kernel, by decide +kernel, by decide +kernel⟩⟩
theorem kx_wk120_0 : kx_ckr kx_m120 0 = true := by decide +kernel
theorem kx_wk120_1 : kx_ckr kx_m120 1 = true := by decide +kernel
theorem kx_wk120 : kx_ckc kx_m120 := fun k hk => match k, hk with
  | 0, _ => kx_wk120_0
  | 1, _ => kx_wk120_1
  | k + 2, h => absurd (show k + 2 < 2 from h) (by omega)
theorem kx_wm120 : kx_okM kx_m120 := ⟨kx_wk120, rfl, Or.inr ⟨List.mem_of_getElem? (i := 1250) (by decide +kernel), by decide +kernel, by decide +kernel, by decide +kernel⟩⟩
theorem kx_wk121_0 : kx_ckr kx_m121 0 = true := by decide +kernel
theorem kx_wk121_1 : kx_ckr kx_m121 1 = true := by decide +kernel
theorem kx_wk121_2 : kx_ckr kx_m121 2 = true := by decide +kernel
theorem kx_wk121 : kx_ckc kx_m121 := fun k hk => match k, hk with
  | 0, _ => kx_wk121_0
  | 1, _ => kx_wk121_1
  | 2, _ => kx_wk121_2
  | k + 3, h => absurd (show k + 3 < 3 from h) (by omega)
theorem kx_wm121 : kx_okM kx_m121 := ⟨kx_wk121, rfl, Or.inr ⟨List.mem_of_getElem? (i := 1253) (by decide +kernel), by decide +kernel, by decide +kernel, by decide +kernel⟩⟩
theorem kx_wk122_0 : kx_ckr kx_m122 0 = true := by decide +kernel
theorem kx_wk122_1 : kx_ckr kx_m122 1 = true := by decide +kernel
theorem kx_wk122 : kx_ckc kx_m122 := fun k hk => match k, hk with
  | 0, _ => kx_wk122_0
  | 1, _ => kx_wk122_1
  | k + 2, h => absurd (show k + 2 < 2 from h) (by omega)
theorem kx_wm122 : kx_okM kx_m122 := ⟨kx_wk122, rfl, Or.inr ⟨List.mem_of_getElem? (i := 1256) (by decide +kernel), by decide +kernel, by decide +kernel, by decide +kernel⟩⟩
theorem kx_wk123_0 : kx_ckr kx_m123 0 = true := by decide +kernel
theorem kx_wk123 : kx_ckc kx_m123 := fun k hk => match k, hk with
  | 0, _ => kx_wk123_0
  | k + 1, h => absurd (show k + 1 < 1 from h) (by omega)
theorem kx_wm123 : kx_okM kx_m123 := ⟨kx_wk123, rfl, Or.inr ⟨List.mem_of_getElem? (i := 1259) (by decide +kernel), by decide +kernel, by decide +kernel, by decide +kernel⟩⟩
theorem kx_wk124_0 : kx_ckr kx_m124 0 = true := by decide +kernel
theorem kx_wk124 : kx_ckc kx_m124 := fun k hk => match k, hk with
  | 0, _ => kx_wk124_0
  | k + 1, h => absurd (show k + 1 < 1 from h) (by omega)
theorem kx_wm124 : kx_okM kx_m124 := ⟨kx_wk124, rfl, Or.inr ⟨List.mem_of_getElem? (i := 1262) (by decide +kernel), by decide +kernel, by decide +kernel, by decide +kernel⟩⟩
theorem kx_wk125_0 : kx_ckr kx_m125 0 = true := by decide +kernel
theorem kx_wk125_1 : kx_ckr kx_m125 1 = true := by decide +kernel
theorem kx_wk125_2 : kx_ckr kx_m125 2 = true := by decide +kernel
theorem kx_wk125_3 : kx_ckr kx_m125 3 = true := by decide +kernel
theorem kx_wk125_4 : kx_ckr kx_m125 4 = true := by decide +kernel
theorem kx_wk125_5 : kx_ckr kx_m125 5 = true := by decide +kernel
theorem kx_wk125_6 : kx_ckr kx_m125 6 = true := by decide +kernel
theorem kx_wk125_7 : kx_ckr kx_m125 7 = true := by decide +kernel
theorem kx_wk125_8 : kx_ckr kx_m125 8 = true := by decide +kernel
theorem kx_wk125_9 : kx_ckr kx_m125 9 = true := by decide +kernel
theorem kx_wk125 : kx_ckc kx_m125 := fun k hk => match k, hk with
  | 0, _ => kx_wk125_0
  | 1, _ => kx_wk125_1
  | 2, _ => kx_wk125_2
  | 3, _ => kx_wk125_3
  | 4, _ => kx_wk125_4
  | 5, _ => kx_wk125_5
  | 6, _ => kx_wk125_6
  | 7, _ => kx_wk125_7
  | 8, _ => kx_wk125_8
  | 9, _ => kx_wk125_9
  | k + 10, h => absurd (show k + 10 < 10 from h) (by omega)
theorem kx_wm125 : kx_okM kx_m125 := ⟨kx_wk125, rfl, Or.inr ⟨List.mem_of_getElem? (i := 1266) (by decide +kernel), by decide +kernel, by decide +kernel, by decide +kernel⟩⟩
theorem kx_wk126_0 : kx_ckr kx_m126 0 = true := by decide +kernel
theorem kx_wk126_1 : kx_ckr kx_m126 1 = true := by decide +kernel
theorem kx_wk126_2 : kx_ckr kx_m126 2 = true := by decide +kernel
theorem kx_wk126_3 : kx_ckr kx_m126 3 = true := by decide +kernel
theorem kx_wk126_4 : kx_ckr kx_m126 4 = true := by decide +kernel
theorem kx_wk126_5 : kx_ckr kx_m126 5 = true := by decide +kernel
theorem kx_wk126_6 : kx_ckr kx_m126 6 = true := by decide +kernel
theorem kx_wk126_7 : kx_ckr kx_m126 7 = true := by decide +kernel
theorem kx_wk126_8 : kx_ckr kx_m126 8 = true := by decide +kernel
theorem kx_wk126 : kx_ckc kx_m126 := fun k hk => match k, hk with
  | 0, _ => kx_wk126_0
  | 1, _ => kx_wk126_1
  | 2, _ => kx_wk126_2
  | 3, _ => kx_wk126_3
  | 4, _ => kx_wk126_4
  | 5, _ => kx_wk126_5
  | 6, _ => kx_wk126_6
  | 7, _ => kx_wk126_7
  | 8, _ => kx_wk126_8
  | k + 9, h => absurd (show k + 9 < 9 from h) (by omega)
theorem kx_wm126 : kx_okM kx_m126 := ⟨kx_wk126, rfl, Or.inr ⟨List.mem_of_getElem? (i := 1270) (by decide +kernel), by decide +kernel, by decide +kernel, by decide +kernel⟩⟩
theorem kx_wk127_0 : kx_ckr kx_m127 0 = true := by decide +kernel
theorem kx_wk127_1 : kx_ckr kx_m127 1 = true := by decide +kernel
theorem kx_wk127 : kx_ckc kx_m127 := fun k hk => match k, hk with
  | 0, _ => kx_wk127_0
  | 1, _ => kx_wk127_1
  | k + 2, h => absurd (show k + 2 < 2 from h) (by omega)
theorem kx_wm127 : kx_okM kx_m127 := ⟨kx_wk127, rfl, Or.inr ⟨List.mem_of_getElem? (i := 1274) (by decide +kernel), by decide +kernel, by decide +kernel, by decide +kernel⟩⟩
theorem kx_wk128_0 : kx_ckr kx_m128 0 = true := by decide +kernel
theorem kx_wk128 : kx_ckc kx_m128 := fun k hk => match k, hk with
  | 0, _ => kx_wk128_0
  | k + 1, h => absurd (show k + 1 < 1 from h) (by omega)
theorem kx_wm128 : kx_okM kx_m128 := ⟨kx_wk128, rfl, Or.inr ⟨List.mem_of_getElem? (i := 1278) (by decide +kernel), by decide +kernel, by decide +kernel, by decide +kernel⟩⟩
theorem kx_wk129_0 : kx_ckr kx_m129 0 = true := by decide +kernel
theorem kx_wk129 : kx_ckc kx_m129 := fun k hk => match k, hk with
  | 0, _ => kx_wk129_0
  | k + 1, h => absurd (show k + 1 < 1 from h) (by omega)
theorem kx_wm129 : kx_okM kx_m129 := ⟨kx_wk129, rfl, Or.inr ⟨List.mem_of_getElem? (i := 1282) (by decide +kernel), by decide +kernel, by decide +kernel, by decide +kernel⟩⟩
theorem kx_wk130_0 : kx_ckr kx_m130 0 = true := by decide +kernel
theorem kx_wk130_1 : kx_ckr kx_m130 1 = true := by decide +kernel
theorem kx_wk130_2 : kx_ckr kx_m130 2 = true := by decide +kernel
theorem kx_wk130 : kx_ckc kx_m130 := fun k hk => match k, hk with
  | 0, _ => kx_wk130_0
  | 1, _ => kx_wk130_1
  | 2, _ => kx_wk130_2
  | k + 3, h => absurd (show k + 3 < 3 from h) (by omega)
theorem kx_wm130 : kx_okM kx_m130 := ⟨kx_wk130, rfl, Or.inr ⟨List.mem_of_getElem? (i := 1286) (by decide +kernel), by decide +kernel, by decide +kernel, by decide +kernel⟩⟩
theorem kx_wk131_0 : kx_ckr kx_m131 0 = true := by decide +kernel
theorem kx_wk131_1 : kx_ckr kx_m131 1 = true := by decide +kernel
theorem kx_wk131_2 : kx_ckr kx_m131 2 = true := by decide +kernel
theorem kx_wk131_3 : kx_ckr kx_m131 3 = true := by decide +kernel
theorem kx_wk131_4 : kx_ckr kx_m131 4 = true := by decide +kernel
theorem kx_wk131_5 : kx_ckr kx_m131 5 = true := by decide +kernel
theorem kx_wk131 : kx_ckc kx_m131 := fun k hk => match k, hk with
  | 0, _ => kx_wk131_0
  | 1, _ => kx_wk131_1
  | 2, _ => kx_wk131_2
  | 3, _ => kx_wk131_3
  | 4, _ => kx_wk131_4
  | 5, _ => kx_wk131_5
  | k + 6, h => absurd (show k + 6 < 6 from h) (by omega)
theorem kx_wm131 : kx_okM kx_m131 := ⟨kx_wk131, rfl, Or.inr ⟨List.mem_of_getElem? (i := 1290) (by decide +kernel), by decide +kernel, by decide +kernel, by decide +kernel⟩⟩
theorem kx_wk132_0 : kx_ckr kx_m132 0 = true := by decide +kernel
theorem kx_wk132_1 : kx_ckr kx_m132 1 = true := by decide +kernel
theorem kx_wk132 : kx_ckc kx_m132 := fun k hk => match k, hk with
  | 0, _ => kx_wk132_0
  | 1, _ => kx_wk132_1
  | k + 2, h => absurd (show k + 2 < 2 from h) (by omega)
theorem kx_wm132 : kx_okM kx_m132 := ⟨kx_wk132, rfl, Or.inr ⟨List.mem_of_getElem? (i := 1293) (by decide +kernel), by decide +kernel, by decide +kernel, by decide +kernel⟩⟩
theorem kx_wk133_0 : kx_ckr kx_m133 0 = true := by decide +kernel
theorem kx_wk133_1 : kx_ckr kx_m133 1 = true := by decide +kernel
theorem kx_wk133_2 : kx_ckr kx_m133 2 = true := by decide +kernel
theorem kx_wk133_3 : kx_ckr kx_m133 3 = true := by decide +kernel
theorem kx_wk133_4 : kx_ckr kx_m133 4 = true := by decide +kernel
theorem kx_wk133_5 : kx_ckr kx_m133 5 = true := by decide +kernel
theorem kx_wk133_6 : kx_ckr kx_m133 6 = true := by decide +kernel
theorem kx_wk133 : kx_ckc kx_m133 := fun k hk => match k, hk with
  | 0, _ => kx_wk133_0
  | 1, _ => kx_wk133_1
  | 2, _ => kx_wk133_2
  | 3, _ => kx_wk133_3
  | 4, _ => kx_wk133_4
  | 5, _ => kx_wk133_5
  | 6, _ => kx_wk133_6
  | k + 7, h => absurd (show k + 7 < 7 from h) (by omega)
theorem kx_wm133 : kx_okM kx_m133 := ⟨kx_wk133, rfl, Or.inr ⟨List.mem_of_getElem? (i := 1297) (by decide +kernel), by decide +kernel, by decide +kernel, by decide +kernel⟩⟩
theorem kx_wk134_0 : kx_ckr kx_m134 0 = true := by decide +kernel
theorem kx_wk134 : kx_ckc kx_m134 := fun k hk => match k, hk with
  | 0, _ => kx_wk134_0
  | k + 1, h => absurd (show k + 1 < 1 from h) (by omega)
theorem kx_wm134 : kx_okM kx_m134 := ⟨kx_wk134, rfl, Or.inr ⟨List.mem_of_getElem? (i := 1301) (by decide +kernel), by decide +kernel, by decide +kernel, by decide +kernel⟩⟩
theorem kx_wk135_0 : kx_ckr kx_m135 0 = true := by decide +kernel
theorem kx_wk135_1 : kx_ckr kx_m135 1 = true := by decide +kernel
theorem kx_wk135_2 : kx_ckr kx_m135 2 = true := by decide +kernel
theorem kx_wk135_3 : kx_ckr kx_m135 3 = true := by decide +kernel
theorem kx_wk135 : kx_ckc kx_m135 := fun k hk => match k, hk with
  | 0, _ => kx_wk135_0
  | 1, _ => kx_wk135_1
  | 2, _ => kx_wk135_2
  | 3, _ => kx_wk135_3
  | k + 4, h => absurd (show k + 4 < 4 from h) (by omega)
theorem kx_wm135 : kx_okM kx_m135 := ⟨kx_wk135, rfl, Or.inr ⟨List.mem_of_getElem? (i := 1305) (by decide +kernel), by decide +kernel, by decide +kernel, by decide +kernel⟩⟩
theorem kx_wk136_0 : kx_ckr kx_m136 0 = true := by decide +kernel
theorem kx_wk136 : kx_ckc kx_m136 := fun k hk => match k, hk with
  | 0, _ => kx_wk136_0
  | k + 1, h => absurd (show k + 1 < 1 from h) (by omega)
theorem kx_wm136 : kx_okM kx_m136 := ⟨kx_wk136, rfl, Or.inr ⟨List.mem_of_getElem? (i := 1309) (by decide +kernel), by decide +kernel, by decide +kernel, by decide +kernel⟩⟩
theorem kx_wk137_0 : kx_ckr kx_m137 0 = true := by decide +kernel
theorem kx_wk137 : kx_ckc kx_m137 := fun k hk => match k, hk with
  | 0, _ => kx_wk137_0
  | k + 1, h => absurd (show k + 1 < 1 from h) (by omega)
theorem kx_wm137 : kx_okM kx_m137 := ⟨kx_wk137, rfl, Or.inr ⟨List.mem_of_getElem? (i := 1313) (by decide +kernel), by decide +kernel, by decide +kernel, by decide +kernel⟩⟩
theorem kx_wk138_0 : kx_ckr kx_m138 0 = true := by decide +kernel
theorem kx_wk138_1 : kx_ckr kx_m138 1 = true := by decide +kernel
theorem kx_wk138_2 : kx_ckr kx_m138 2 = true := by decide +kernel
theorem kx_wk138 : kx_ckc kx_m138 := fun k hk => match k, hk with
  | 0, _ => kx_wk138_0
  | 1, _ => kx_wk138_1
  | 2, _ => kx_wk138_2
  | k + 3, h => absurd (show k + 3 < 3 from h) (by omega)
theorem kx_wm138 : kx_okM kx_m138 := ⟨kx_wk138, rfl, Or.inr ⟨List.mem_of_getElem? (i := 1317) (by decide +kernel), by decide +kernel, by decide +kernel, by decide +kernel⟩⟩
theorem kx_wk139_0 : kx_ckr kx_m139 0 = true := by decide +kernel
theorem kx_wk139_1 : kx_ckr kx_m139 1 = true := by decide +kernel
theorem kx_wk139_2 : kx_ckr kx_m139 2 = true := by decide +kernel
theorem kx_wk139_3 : kx_ckr kx_m139 3 = true := by decide +kernel
theorem kx_wk139_4 : kx_ckr kx_m139 4 = true := by decide +kernel
theorem kx_wk139_5 : kx_ckr kx_m139 5 = true := by decide +kernel
theorem kx_wk139_6 : kx_ckr kx_m139 6 = true := by decide +kernel
theorem kx_wk139 : kx_ckc kx_m139 := fun k hk => match k, hk with
  | 0, _ => kx_wk139_0
  | 1, _ => kx_wk139_1
  | 2, _ => kx_wk139_2
  | 3, _ => kx_wk139_3
  | 4, _ => kx_wk139_4
  | 5, _ => kx_wk139_5
  | 6, _ => kx_wk139_6
  | k + 7, h => absurd (show k + 7 < 7 from h) (by omega)
theorem kx_wm139 : kx_okM kx_m139 := ⟨kx_wk139, rfl, Or.inr ⟨List.mem_of_getElem? (i := 1321) (by decide +kernel), by decide +kernel, by decide +kernel, by decide +kernel⟩⟩
theorem kx_wk140_0 : kx_ckr kx_m140 0 = true := by decide +kernel
theorem kx_wk140_1 : kx_ckr kx_m140 1 = true := by decide +kernel
theorem kx_wk140_2 : kx_ckr kx_m140 2 = true := by decide +kernel
theorem kx_wk140 : kx_ckc kx_m140 := fun k hk => match k, hk with
  | 0, _ => kx_wk140_0
  | 1, _ => kx_wk140_1
  | 2, _ => kx_wk140_2
  | k + 3, h => absurd (show k + 3 < 3 from h) (by omega)
theorem kx_wm140 : kx_okM kx_m140 := ⟨kx_wk140, rfl, Or.inr ⟨List.mem_of_getElem? (i := 1325) (by decide +kernel), by decide +kernel, by decide +kernel, by decide +kernel⟩⟩
theorem kx_wk141_0 : kx_ckr kx_m141 0 = true := by decide +kernel
theorem kx_wk141_1 : kx_ckr kx_m141 1 = true := by decide +kernel
theorem kx_wk141_2 : kx_ckr kx_m141 2 = true := by decide +kernel
theorem kx_wk141 : kx_ckc kx_m141 := fun k hk => match k, hk with
  | 0, _ => kx_wk141_0
  | 1, _ => kx_wk141_1
  | 2, _ => kx_wk141_2
  | k + 3, h => absurd (show k + 3 < 3 from h) (by omega)
theorem kx_wm141 : kx_okM kx_m141 := ⟨kx_wk141, rfl, Or.inr ⟨List.mem_of_getElem? (i := 1329) (by decide +kernel), by decide +kernel, by decide +kernel, by decide +kernel⟩⟩
theorem kx_wk142_0 : kx_ckr kx_m142 0 = true := by decide +kernel
theorem kx_wk142_1 : kx_ckr kx_m142 1 = true := by decide +kernel
theorem kx_wk142_2 : kx_ckr kx_m142 2 = true := by decide +kernel
theorem kx_wk142 : kx_ckc kx_m142 := fun k hk => match k, hk with
  | 0, _ => kx_wk142_0
  | 1, _ => kx_wk142_1
  | 2, _ => kx_wk142_2
  | k + 3, h => absurd (show k + 3 < 3 from h) (by omega)
theorem kx_wm142 : kx_okM kx_m142 := ⟨kx_wk142, rfl, Or.inr ⟨List.mem_of_getElem? (i := 1333) (by decide +kernel), by decide +kernel, by decide +kernel, by decide +kernel⟩⟩
theorem kx_wk143_0 : kx_ckr kx_m143 0 = true := by decide +kernel
theorem kx_wk143_1 : kx_ckr kx_m143 1 = true := by decide +kernel
theorem kx_wk143_2 : kx_ckr kx_m143 2 = true := by decide +kernel
theorem kx_wk143_3 : kx_ckr kx_m143 3 = true := by decide +kernel
theorem kx_wk143_4 : kx_ckr kx_m143 4 = true := by decide +kernel
theorem kx_wk143_5 : kx_ckr kx_m143 5 = true := by decide +kernel
theorem kx_wk143 : kx_ckc kx_m143 := fun k hk => match k, hk with
  | 0, _ => kx_wk143_0
  | 1, _ => kx_wk143_1
  | 2, _ => kx_wk143_2
  | 3, _ => kx_wk143_3
  | 4, _ => kx_wk143_4
  | 5, _ => kx_wk143_5
  | k + 6, h => absurd (show k + 6 < 6 from h) (by omega)
theorem kx_wm143 : kx_okM kx_m143 := ⟨kx_wk143, rfl, Or.inr ⟨List.mem_of_getElem? (i := 1337) (by decide +kernel), by decide +kernel, by decide +kernel, by decide +kernel⟩⟩
theorem kx_wk144_0 : kx_ckr kx_m144 0 = true := by decide +kernel
theorem kx_wk144_1 : kx_ckr kx_m144 1 = true := by decide +kernel
theorem kx_wk144_2 : kx_ckr kx_m144 2 = true := by decide +kernel
theorem kx_wk144_3 : kx_ckr kx_m144 3 = true := by decide +kernel
theorem kx_wk144_4 : kx_ckr kx_m144 4 = true := by decide +kernel
theorem kx_wk144_5 : kx_ckr kx_m144 5 = true := by decide +kernel
theorem kx_wk144_6 : kx_ckr kx_m144 6 = true := by decide +kernel
theorem kx_wk144_7 : kx_ckr kx_m144 7 = true := by decide +kernel
theorem kx_wk144_8 : kx_ckr kx_m144 8 = true := by decide +kernel
theorem kx_wk144_9 : kx_ckr kx_m144 9 = true := by decide +kernel
theorem kx_wk144_10 : kx_ckr kx_m144 10 = true := by decide +kernel
theorem kx_wk144 : kx_ckc kx_m144 := fun k hk => match k, hk with
  | 0, _ => kx_wk144_0
  | 1, _ => kx_wk144_1
  | 2, _ => kx_wk144_2
  | 3, _ => kx_wk144_3
  | 4, _ => kx_wk144_4
  | 5, _ => kx_wk144_5
  | 6, _ => kx_wk144_6
  | 7, _ => kx_wk144_7
  | 8, _ => kx_wk144_8
  | 9, _ => kx_wk144_9
  | 10, _ => kx_wk144_10
  | k + 11, h => absurd (show k + 11 < 11 from h) (by omega)
theorem kx_wm144 : kx_okM kx_m144 := ⟨kx_wk144, rfl, Or.inr ⟨List.mem_of_getElem? (i := 1341) (by decide +kernel), by decide +kernel, by decide +kernel, by decide +kernel⟩⟩
theorem kx_wk145_0 : kx_ckr kx_m145 0 = true := by decide +kernel
theorem kx_wk145 : kx_ckc kx_m145 := fun k hk => match k, hk with
  | 0, _ => kx_wk145_0
  | k + 1, h => absurd (show k + 1 < 1 from h) (by omega)
theorem kx_wm145 : kx_okM kx_m145 := ⟨kx_wk145, rfl, Or.inr ⟨List.mem_of_getElem? (i := 1345) (by decide +kernel), by decide +kernel, by decide +kernel, by decide +kernel⟩⟩
theorem kx_wk146_0 : kx_ckr kx_m146 0 = true := by decide +kernel
theorem kx_wk146 : kx_ckc kx_m146 := fun k hk => match k, hk with
  | 0, _ => kx_wk146_0
  | k + 1, h => absurd (show k + 1 < 1 from h) (by omega)
theorem kx_wm146 : kx_okM kx_m146 := ⟨kx_wk146, rfl, Or.inr ⟨List.mem_of_getElem? (i := 1349) (by decide +kernel), by decide +kernel, by decide +kernel, by decide +kernel⟩⟩
theorem kx_wk147_0 : kx_ckr kx_m147 0 = true := by decide +kernel
theorem kx_wk147_1 : kx_ckr kx_m147 1 = true := by decide +kernel
theorem kx_wk147_2 : kx_ckr kx_m147 2 = true := by decide +kernel
theorem kx_wk147_3 : kx_ckr kx_m147 3 = true := by decide +kernel
theorem kx_wk147_4 : kx_ckr kx_m147 4 = true := by decide +kernel
theorem kx_wk147_5 : kx_ckr kx_m147 5 = true := by decide +kernel
theorem kx_wk147_6 : kx_ckr kx_m147 6 = true := by decide +kernel
theorem kx_wk147_7 : kx_ckr kx_m147 7 = true := by decide +kernel
theorem kx_wk147_8 : kx_ckr kx_m147 8 = true := by decide +kernel
theorem kx_wk147 : kx_ckc kx_m147 := fun k hk => match k, hk with
  | 0, _ => kx_wk147_0
  | 1, _ => kx_wk147_1
  | 2, _ => kx_wk147_2
  | 3, _ => kx_wk147_3
  | 4, _ => kx_wk147_4
  | 5, _ => kx_wk147_5
  | 6, _ => kx_wk147_6
  | 7, _ => kx_wk147_7
  | 8, _ => kx_wk147_8
  | k + 9, h => absurd (show k + 9 < 9 from h) (by omega)
theorem kx_wm147 : kx_okM kx_m147 := ⟨kx_wk147, rfl, Or.inr ⟨List.mem_of_getElem? (i := 1353) (by decide +kernel), by decide +kernel, by decide +kernel, by decide +kernel⟩⟩
theorem kx_wk148_0 : kx_ckr kx_m148 0 = true := by decide +kernel
theorem kx_wk148_1 : kx_ckr kx_m148 1 = true := by decide +kernel
theorem kx_wk148_2 : kx_ckr kx_m148 2 = true := by decide +kernel
theorem kx_wk148_3 : kx_ckr kx_m148 3 = true := by decide +kernel
theorem kx_wk148 : kx_ckc kx_m148 := fun k hk => match k, hk with
  | 0, _ => kx_wk148_0
  | 1, _ => kx_wk148_1
  | 2, _ => kx_wk148_2
  | 3, _ => kx_wk148_3
  | k + 4, h => absurd (show k + 4 < 4 from h) (by omega)
theorem kx_wm148 : kx_okM kx_m148 := ⟨kx_wk148, rfl, Or.inr ⟨List.mem_of_getElem? (i := 1357) (by decide +kernel), by decide +kernel, by decide +kernel, by decide +kernel⟩⟩
theorem kx_wk149_0 : kx_ckr kx_m149 0 = true := by decide +kernel
theorem kx_wk149_1 : kx_ckr kx_m149 1 = true := by decide +kernel
theorem kx_wk149_2 : kx_ckr kx_m149 2 = true := by decide +kernel
theorem kx_wk149_3 : kx_ckr kx_m149 3 = true := by decide +kernel
theorem kx_wk149 : kx_ckc kx_m149 := fun k hk => match k, hk with
  | 0, _ => kx_wk149_0
  | 1, _ => kx_wk149_1
  | 2, _ => kx_wk149_2
  | 3, _ => kx_wk149_3
  | k + 4, h => absurd (show k + 4 < 4 from h) (by omega)
theorem kx_wm149 : kx_okM kx_m149 := ⟨kx_wk149, rfl, Or.inr ⟨List.mem_of_getElem? (i := 1361) (by decide +kernel), by decide +kernel, by decide +kernel, by decide +kernel⟩⟩
theorem kx_wk150_0 : kx_ckr kx_m150 0 = true := by decide +kernel
theorem kx_wk150_1 : kx_ckr kx_m150 1 = true := by decide +kernel
theorem kx_wk150_2 : kx_ckr kx_m150 2 = true := by decide +kernel
theorem kx_wk150_3 : kx_ckr kx_m150 3 = true := by decide +kernel
theorem kx_wk150_4 : kx_ckr kx_m150 4 = true := by decide +kernel
theorem kx_wk150 : kx_ckc kx_m150 := fun k hk => match k, hk with
  | 0, _ => kx_wk150_0
  | 1, _ => kx_wk150_1
  | 2, _ => kx_wk150_2
  | 3, _ => kx_wk150_3
  | 4, _ => kx_wk150_4
  | k + 5, h => absurd (show k + 5 < 5 from h) (by omega)
theorem kx_wm150 : kx_okM kx_m150 := ⟨kx_wk150, rfl, Or.inr ⟨List.mem_of_getElem? (i := 1365) (by decide +kernel), by decide +kernel, by decide +kernel, by decide +kernel⟩⟩
theorem kx_wk151_0 : kx_ckr kx_m151 0 = true := by decide +kernel
theorem kx_wk151_1 : kx_ckr kx_m151 1 = true := by decide +kernel
theorem kx_wk151_2 : kx_ckr kx_m151 2 = true := by decide +kernel
theorem kx_wk151_3 : kx_ckr kx_m151 3 = true := by decide +kernel
theorem kx_wk151 : kx_ckc kx_m151 := fun k hk => match k, hk with
  | 0, _ => kx_wk151_0
  | 1, _ => kx_wk151_1
  | 2, _ => kx_wk151_2
  | 3, _ => kx_wk151_3
  | k + 4, h => absurd (show k + 4 < 4 from h) (by omega)
theorem kx_wm151 : kx_okM kx_m151 := ⟨kx_wk151, rfl, Or.inr ⟨List.mem_of_getElem? (i := 1369) (by decide +kernel), by decide +kernel, by decide +kernel, by decide +kernel⟩⟩
theorem kx_wk152_0 : kx_ckr kx_m152 0 = true := by decide +kernel
theorem kx_wk152_1 : kx_ckr kx_m152 1 = true := by decide +kernel
theorem kx_wk152_2 : kx_ckr kx_m152 2 = true := by decide +kernel
theorem kx_wk152_3 : kx_ckr kx_m152 3 = true := by decide +kernel
theorem kx_wk152_4 : kx_ckr kx_m152 4 = true := by decide +kernel
theorem kx_wk152_5 : kx_ckr kx_m152 5 = true := by decide +kernel
theorem kx_wk152_6 : kx_ckr kx_m152 6 = true := by decide +kernel
theorem kx_wk152 : kx_ckc kx_m152 := fun k hk => match k, hk with
  | 0, _ => kx_wk152_0
  | 1, _ => kx_wk152_1
  | 2, _ => kx_wk152_2
  | 3, _ => kx_wk152_3
  | 4, _ => kx_wk152_4
  | 5, _ => kx_wk152_5
  | 6, _ => kx_wk152_6
  | k + 7, h => absurd (show k + 7 < 7 from h) (by omega)
theorem kx_wm152 : kx_okM kx_m152 := ⟨kx_wk152, rfl, Or.inr ⟨List.mem_of_getElem? (i := 1373) (by decide +kernel), by decide +kernel, by decide +kernel, by decide +kernel⟩⟩
theorem kx_wk153_0 : kx_ckr kx_m153 0 = true := by decide +kernel
theorem kx_wk153_1 : kx_ckr kx_m153 1 = true := by decide +kernel
theorem kx_wk153_2 : kx_ckr kx_m153 2 = true := by decide +kernel
theorem kx_wk153_3 : kx_ckr kx_m153 3 = true := by decide +kernel
theorem kx_wk153_4 : kx_ckr kx_m153 4 = true := by decide +kernel
theorem kx_wk153 : kx_ckc kx_m153 := fun k hk => match k, hk with
  | 0, _ => kx_wk153_0
  | 1, _ => kx_wk153_1
  | 2, _ => kx_wk153_2
  | 3, _ => kx_wk153_3
  | 4, _ => kx_wk153_4
  | k + 5, h => absurd (show k + 5 < 5 from h) (by omega)
theorem kx_wm153 : kx_okM kx_m153 := ⟨kx_wk153, rfl, Or.inr ⟨List.mem_of_getElem? (i := 1377) (by decide +kernel), by decide +kernel, by decide +kernel, by decide +kernel⟩⟩
theorem kx_wk154_0 : kx_ckr kx_m154 0 = true := by decide +kernel
theorem kx_wk154_1 : kx_ckr kx_m154 1 = true := by decide +kernel
theorem kx_wk154_2 : kx_ckr kx_m154 2 = true := by decide +kernel
theorem kx_wk154_3 : kx_ckr kx_m154 3 = true := by decide +kernel
theorem kx_wk154_4 : kx_ckr kx_m154 4 = true := by decide +kernel
theorem kx_wk154_5 : kx_ckr kx_m154 5 = true := by decide +kernel
theorem kx_wk154_6 : kx_ckr kx_m154 6 = true := by decide +kernel
theorem kx_wk154_7 : kx_ckr kx_m154 7 = true := by decide +kernel
theorem kx_wk154 : kx_ckc kx_m154 := fun k hk => match k, hk with
  | 0, _ => kx_wk154_0
  | 1, _ => kx_wk154_1
  | 2, _ => kx_wk154_2
  | 3, _ => kx_wk154_3
  | 4, _ => kx_wk154_4
  | 5, _ => kx_wk154_5
  | 6, _ => kx_wk154_6
  | 7, _ => kx_wk154_7
  | k + 8, h => absurd (show k + 8 < 8 from h) (by omega)
theorem kx_wm154 : kx_okM kx_m154 := ⟨kx_wk154, rfl, Or.inr ⟨List.mem_of_getElem? (i := 1381) (by decide +kernel), by decide +kernel, by decide +kernel, by decide +kernel⟩⟩
theorem kx_wk155_0 : kx_ckr kx_m155 0 = true := by decide +kernel
theorem kx_wk155_1 : kx_ckr kx_m155 1 = true := by decide +kernel
theorem kx_wk155_2 : kx_ckr kx_m155 2 = true := by decide +kernel
theorem kx_wk155_3 : kx_ckr kx_m155 3 = true := by decide +kernel
theorem kx_wk155_4 : kx_ckr kx_m155 4 = true := by decide +kernel
theorem kx_wk155_5 : kx_ckr kx_m155 5 = true := by decide +kernel
theorem kx_wk155 : kx_ckc kx_m155 := fun k hk => match k, hk with
  | 0, _ => kx_wk155_0
  | 1, _ => kx_wk155_1
  | 2, _ => kx_wk155_2
  | 3, _ => kx_wk155_3
  | 4, _ => kx_wk155_4
  | 5, _ => kx_wk155_5
  | k + 6, h => absurd (show k + 6 < 6 from h) (by omega)
theorem kx_wm155 : kx_okM kx_m155 := ⟨kx_wk155, rfl, Or.inr ⟨List.mem_of_getElem? (i := 1385) (by decide +kernel), by decide +kernel, by decide +kernel, by decide +kernel⟩⟩
theorem kx_wk156_0 : kx_ckr kx_m156 0 = true := by decide +kernel
theorem kx_wk156_1 : kx_ckr kx_m156 1 = true := by decide +kernel
theorem kx_wk156 : kx_ckc kx_m156 := fun k hk => match k, hk with
  | 0, _ => kx_wk156_0
  | 1, _ => kx_wk156_1
  | k + 2, h => absurd (show k + 2 < 2 from h) (by omega)
theorem kx_wm156 : kx_okM kx_m156 := ⟨kx_wk156, rfl, Or.inr ⟨List.mem_of_getElem? (i := 1388) (by decide +kernel), by decide +kernel, by decide +kernel, by decide +kernel⟩⟩
theorem kx_wk157_0 : kx_ckr kx_m157 0 = true := by decide +kernel
theorem kx_wk157_1 : kx_ckr kx_m157 1 = true := by decide +kernel
theorem kx_wk157_2 : kx_ckr kx_m157 2 = true := by decide +kernel
theorem kx_wk157_3 : kx_ckr kx_m157 3 = true := by decide +kernel
theorem kx_wk157_4 : kx_ckr kx_m157 4 = true := by decide +kernel
theorem kx_wk157_5 : kx_ckr kx_m157 5 = true := by decide +kernel
theorem kx_wk157_6 : kx_ckr kx_m157 6 = true := by decide +kernel
theorem kx_wk157_7 : kx_ckr kx_m157 7 = true := by decide +kernel
theorem kx_wk157 : kx_ckc kx_m157 := fun k hk => match k, hk with
  | 0, _ => kx_wk157_0
  | 1, _ => kx_wk157_1
  | 2, _ => kx_wk157_2
  | 3, _ => kx_wk157_3
  | 4, _ => kx_wk157_4
  | 5, _ => kx_wk157_5
  | 6, _ => kx_wk157_6
  | 7, _ => kx_wk157_7
  | k + 8, h => absurd (show k + 8 < 8 from h) (by omega)
theorem kx_wm157 : kx_okM kx_m157 := ⟨kx_wk157, rfl, Or.inr ⟨List.mem_of_getElem? (i := 1392) (by decide +kernel), by decide +kernel, by decide +kernel, by decide +kernel⟩⟩
theorem kx_wk158_0 : kx_ckr kx_m158 0 = true := by decide +kernel
theorem kx_wk158_1 : kx_ckr kx_m158 1 = true := by decide +kernel
theorem kx_wk158_2 : kx_ckr kx_m158 2 = true := by decide +kernel
theorem kx_wk158_3 : kx_ckr kx_m158 3 = true := by decide +kernel
theorem kx_wk158 : kx_ckc kx_m158 := fun k hk => match k, hk with
  | 0, _ => kx_wk158_0
  | 1, _ => kx_wk158_1
  | 2, _ => kx_wk158_2
  | 3, _ => kx_wk158_3
  | k + 4, h => absurd (show k + 4 < 4 from h) (by omega)
theorem kx_wm158 : kx_okM kx_m158 := ⟨kx_wk158, rfl, Or.inr ⟨List.mem_of_getElem? (i := 1396) (by decide +kernel), by decide +kernel, by decide +kernel, by decide +kernel⟩⟩
theorem kx_wk159_0 : kx_ckr kx_m159 0 = true := by decide +kernel
theorem kx_wk159_1 : kx_ckr kx_m159 1 = true := by decide +kernel
theorem kx_wk159_2 : kx_ckr kx_m159 2 = true := by decide +kernel
theorem kx_wk159_3 : kx_ckr kx_m159 3 = true := by decide +kernel
theorem kx_wk159_4 : kx_ckr kx_m159 4 = true := by decide +kernel
theorem kx_wk159_5 : kx_ckr kx_m159 5 = true := by decide +kernel
theorem kx_wk159_6 : kx_ckr kx_m159 6 = true := by decide +kernel
theorem kx_wk159_7 : kx_ckr kx_m159 7 = true := by decide +kernel
theorem kx_wk159_8 : kx_ckr kx_m159 8 = true := by decide +kernel
theorem kx_wk159_9 : kx_ckr kx_m159 9 = true := by decide +kernel
theorem kx_wk159_10 : kx_ckr kx_m159 10 = true := by decide +kernel
theorem kx_wk159_11 : kx_ckr kx_m159 11 = true := by decide +kernel
theorem kx_wk159_12 : kx_ckr kx_m159 12 = true := by decide +kernel
theorem kx_wk159_13 : kx_ckr kx_m159 13 = true := by decide +kernel
theorem kx_wk159 : kx_ckc kx_m159 := fun k hk => match k, hk with
  | 0, _ => kx_wk159_0
  | 1, _ => kx_wk159_1
  | 2, _ => kx_wk159_2
  | 3, _ => kx_wk159_3
  | 4, _ => kx_wk159_4
  | 5, _ => kx_wk159_5
  | 6, _ => kx_wk159_6
  | 7, _ => kx_wk159_7
  | 8, _ => kx_wk159_8
  | 9, _ => kx_wk159_9
  | 10, _ => kx_wk159_10
  | 11, _ => kx_wk159_11
  | 12, _ => kx_wk159_12
  | 13, _ => kx_wk159_13
  | k + 14, h => absurd (show k + 14 < 14 from h) (by omega)
theorem kx_wm159 : kx_okM kx_m159 := ⟨kx_wk159, rfl, Or.inr ⟨List.mem_of_getElem? (i := 1400) (by decide +kernel), by decide +kernel, by decide +kernel, by decide +kernel⟩⟩
theorem kx_wk160_0 : kx_ckr kx_m160 0 = true := by decide +kernel
theorem kx_wk160_1 : kx_ckr kx_m160 1 = true := by decide +kernel
theorem kx_wk160_2 : kx_ckr kx_m160 2 = true := by decide +kernel
theorem kx_wk160_3 : kx_ckr kx_m160 3 = true := by decide +kernel
theorem kx_wk160 : kx_ckc kx_m160 := fun k hk => match k, hk with
  | 0, _ => kx_wk160_0
  | 1, _ => kx_wk160_1
  | 2, _ => kx_wk160_2
  | 3, _ => kx_wk160_3
  | k + 4, h => absurd (show k + 4 < 4 from h) (by omega)
theorem kx_wm160 : kx_okM kx_m160 := ⟨kx_wk160, rfl, Or.inr ⟨List.mem_of_getElem? (i := 1404) (by decide +kernel), by decide +kernel, by decide +kernel, by decide +kernel⟩⟩
theorem kx_wk161_0 : kx_ckr kx_m161 0 = true := by decide +kernel
theorem kx_wk161_1 : kx_ckr kx_m161 1 = true := by decide +kernel
theorem kx_wk161_2 : kx_ckr kx_m161 2 = true := by decide +kernel
theorem kx_wk161_3 : kx_ckr kx_m161 3 = true := by decide +kernel
theorem kx_wk161 : kx_ckc kx_m161 := fun k hk => match k, hk with
  | 0, _ => kx_wk161_0
  | 1, _ => kx_wk161_1
  | 2, _ => kx_wk161_2
  | 3, _ => kx_wk161_3
  | k + 4, h => absurd (show k + 4 < 4 from h) (by omega)
theorem kx_wm161 : kx_okM kx_m161 := ⟨kx_wk161, rfl, Or.inr ⟨List.mem_of_getElem? (i := 1408) (by decide +kernel), by decide +kernel, by decide +kernel, by decide +kernel⟩⟩
theorem kx_wk162_0 : kx_ckr kx_m162 0 = true := by decide +kernel
theorem kx_wk162_1 : kx_ckr kx_m162 1 = true := by decide +kernel
theorem kx_wk162_2 : kx_ckr kx_m162 2 = true := by decide +kernel
theorem kx_wk162_3 : kx_ckr kx_m162 3 = true := by decide +kernel
theorem kx_wk162_4 : kx_ckr kx_m162 4 = true := by decide +kernel
theorem kx_wk162_5 : kx_ckr kx_m162 5 = true := by decide +kernel
theorem kx_wk162_6 : kx_ckr kx_m162 6 = true := by decide +kernel
theorem kx_wk162_7 : kx_ckr kx_m162 7 = true := by decide +kernel
theorem kx_wk162_8 : kx_ckr kx_m162 8 = true := by decide +kernel
theorem kx_wk162_9 : kx_ckr kx_m162 9 = true := by decide +kernel
theorem kx_wk162 : kx_ckc kx_m162 := fun k hk => match k, hk with
  | 0, _ => kx_wk162_0
  | 1, _ => kx_wk162_1
  | 2, _ => kx_wk162_2
  | 3, _ => kx_wk162_3
  | 4, _ => kx_wk162_4
  | 5, _ => kx_wk162_5
  | 6, _ => kx_wk162_6
  | 7, _ => kx_wk162_7
  | 8, _ => kx_wk162_8
  | 9, _ => kx_wk162_9
  | k + 10, h => absurd (show k + 10 < 10 from h) (by omega)
theorem kx_wm162 : kx_okM kx_m162 := ⟨kx_wk162, rfl, Or.inr ⟨List.mem_of_getElem? (i := 1412) (by decide +kernel), by decide +kernel, by decide +kernel, by decide +kernel⟩⟩
theorem kx_wk163_0 : kx_ckr kx_m163 0 = true := by decide +kernel
theorem kx_wk163_1 : kx_ckr kx_m163 1 = true := by decide +kernel
theorem kx_wk163_2 : kx_ckr kx_m163 2 = true := by decide +kernel
theorem kx_wk163_3 : kx_ckr kx_m163 3 = true := by decide +kernel
theorem kx_wk163_4 : kx_ckr kx_m163 4 = true := by decide +kernel
theorem kx_wk163 : kx_ckc kx_m163 := fun k hk => match k, hk with
  | 0, _ => kx_wk163_0
  | 1, _ => kx_wk163_1
  | 2, _ => kx_wk163_2
  | 3, _ => kx_wk163_3
  | 4, _ => kx_wk163_4
  | k + 5, h => absurd (show k + 5 < 5 from h) (by omega)
theorem kx_wm163 : kx_okM kx_m163 := ⟨kx_wk163, rfl, Or.inr ⟨List.mem_of_getElem? (i := 1416) (by decide +kernel), by decide +kernel, by decide +kernel, by decide +kernel⟩⟩
theorem kx_wk164_0 : kx_ckr kx_m164 0 = true := by decide +kernel
theorem kx_wk164_1 : kx_ckr kx_m164 1 = true := by decide +kernel
theorem kx_wk164 : kx_ckc kx_m164 := fun k hk => match k, hk with
  | 0, _ => kx_wk164_0
  | 1, _ => kx_wk164_1
  | k + 2, h => absurd (show k + 2 < 2 from h) (by omega)
theorem kx_wm164 : kx_okM kx_m164 := ⟨kx_wk164, rfl, Or.inr ⟨List.mem_of_getElem? (i := 1420) (by decide +kernel), by decide +kernel, by decide +kernel, by decide +kernel⟩⟩
theorem kx_wk165_0 : kx_ckr kx_m165 0 = true := by decide +kernel
theorem kx_wk165_1 : kx_ckr kx_m165 1 = true := by decide +kernel
theorem kx_wk165_2 : kx_ckr kx_m165 2 = true := by decide +kernel
theorem kx_wk165_3 : kx_ckr kx_m165 3 = true := by decide +kernel
theorem kx_wk165_4 : kx_ckr kx_m165 4 = true := by decide +kernel
theorem kx_wk165_5 : kx_ckr kx_m165 5 = true := by decide +kernel
theorem kx_wk165_6 : kx_ckr kx_m165 6 = true := by decide +kernel
theorem kx_wk165_7 : kx_ckr kx_m165 7 = true := by decide +kernel
theorem kx_wk165_8 : kx_ckr kx_m165 8 = true := by decide +kernel
theorem kx_wk165_9 : kx_ckr kx_m165 9 = true := by decide +kernel
theorem kx_wk165 : kx_ckc kx_m165 := fun k hk => match k, hk with
  | 0, _ => kx_wk165_0
  | 1, _ => kx_wk165_1
  | 2, _ => kx_wk165_2
  | 3, _ => kx_wk165_3
  | 4, _ => kx_wk165_4
  | 5, _ => kx_wk165_5
  | 6, _ => kx_wk165_6
  | 7, _ => kx_wk165_7
  | 8, _ => kx_wk165_8
  | 9, _ => kx_wk165_9
  | k + 10, h => absurd (show k + 10 < 10 from h) (by omega)
theorem kx_wm165 : kx_okM kx_m165 := ⟨kx_wk165, rfl, Or.inr ⟨List.mem_of_getElem? (i := 1424) (by decide +kernel), by decide +kernel, by decide +kernel, by decide +kernel⟩⟩
theorem kx_wk166_0 : kx_ckr kx_m166 0 = true := by decide +kernel
theorem kx_wk166_1 : kx_ckr kx_m166 1 = true := by decide +kernel
theorem kx_wk166_2 : kx_ckr kx_m166 2 = true := by decide +kernel
theorem kx_wk166_3 : kx_ckr kx_m166 3 = true := by decide +kernel
theorem kx_wk166_4 : kx_ckr kx_m166 4 = true := by decide +kernel
theorem kx_wk166_5 : kx_ckr kx_m166 5 = true := by decide +kernel
theorem kx_wk166_6 : kx_ckr kx_m166 6 = true := by decide +kernel
theorem kx_wk166 : kx_ckc kx_m166 := fun k hk => match k, hk with
  | 0, _ => kx_wk166_0
  | 1, _ => kx_wk166_1
  | 2, _ => kx_wk166_2
  | 3, _ => kx_wk166_3
  | 4, _ => kx_wk166_4
  | 5, _ => kx_wk166_5
  | 6, _ => kx_wk166_6
  | k + 7, h => absurd (show k + 7 < 7 from h) (by omega)
theorem kx_wm166 : kx_okM kx_m166 := ⟨kx_wk166, rfl, Or.inr ⟨List.mem_of_getElem? (i := 1428) (by decide +kernel), by decide +kernel, by decide +kernel, by decide +kernel⟩⟩
theorem kx_wk167_0 : kx_ckr kx_m167 0 = true := by decide +kernel
theorem kx_wk167_1 : kx_ckr kx_m167 1 = true := by decide +kernel
theorem kx_wk167_2 : kx_ckr kx_m167 2 = true := by decide +kernel
theorem kx_wk167_3 : kx_ckr kx_m167 3 = true := by decide +kernel
theorem kx_wk167_4 : kx_ckr kx_m167 4 = true := by decide +kernel
theorem kx_wk167 : kx_ckc kx_m167 := fun k hk => match k, hk with
  | 0, _ => kx_wk167_0
  | 1, _ => kx_wk167_1
  | 2, _ => kx_wk167_2
  | 3, _ => kx_wk167_3
  | 4, _ => kx_wk167_4
  | k + 5, h => absurd (show k + 5 < 5 from h) (by omega)
theorem kx_wm167 : kx_okM kx_m167 := ⟨kx_wk167, rfl, Or.inr ⟨List.mem_of_getElem? (i := 1432) (by decide +kernel), by decide +kernel, by decide +kernel, by decide +kernel⟩⟩
theorem kx_wk168_0 : kx_ckr kx_m168 0 = true := by decide +kernel
theorem kx_wk168_1 : kx_ckr kx_m168 1 = true := by decide +kernel
theorem kx_wk168_2 : kx_ckr kx_m168 2 = true := by decide +kernel
theorem kx_wk168 : kx_ckc kx_m168 := fun k hk => match k, hk with
  | 0, _ => kx_wk168_0
  | 1, _ => kx_wk168_1
  | 2, _ => kx_wk168_2
  | k + 3, h => absurd (show k + 3 < 3 from h) (by omega)
theorem kx_wm168 : kx_okM kx_m168 := ⟨kx_wk168, rfl, Or.inr ⟨List.mem_of_getElem? (i := 1436) (by decide +kernel), by decide +kernel, by decide +kernel, by decide +kernel⟩⟩
theorem kx_wk169_0 : kx_ckr kx_m169 0 = true := by decide +kernel
theorem kx_wk169_1 : kx_ckr kx_m169 1 = true := by decide +kernel
theorem kx_wk169_2 : kx_ckr kx_m169 2 = true := by decide +kernel
theorem kx_wk169_3 : kx_ckr kx_m169 3 = true := by decide +kernel
theorem kx_wk169_4 : kx_ckr kx_m169 4 = true := by decide +kernel
theorem kx_wk169_5 : kx_ckr kx_m169 5 = true := by decide +kernel
theorem kx_wk169 : kx_ckc kx_m169 := fun k hk => match k, hk with
  | 0, _ => kx_wk169_0
  | 1, _ => kx_wk169_1
  | 2, _ => kx_wk169_2
  | 3, _ => kx_wk169_3
  | 4, _ => kx_wk169_4
  | 5, _ => kx_wk169_5
  | k + 6, h => absurd (show k + 6 < 6 from h) (by omega)
theorem kx_wm169 : kx_okM kx_m169 := ⟨kx_wk169, rfl, Or.inr ⟨List.mem_of_getElem? (i := 1440) (by decide +kernel), by decide +kernel, by decide +kernel, by decide +kernel⟩⟩
theorem kx_wk170_0 : kx_ckr kx_m170 0 = true := by decide +kernel
theorem kx_wk170_1 : kx_ckr kx_m170 1 = true := by decide +kernel
theorem kx_wk170_2 : kx_ckr kx_m170 2 = true := by decide +kernel
theorem kx_wk170_3 : kx_ckr kx_m170 3 = true := by decide +kernel
theorem kx_wk170_4 : kx_ckr kx_m170 4 = true := by decide +kernel
theorem kx_wk170_5 : kx_ckr kx_m170 5 = true := by decide +kernel
theorem kx_wk170 : kx_ckc kx_m170 := fun k hk => match k, hk with
  | 0, _ => kx_wk170_0
  | 1, _ => kx_wk170_1
  | 2, _ => kx_wk170_2
  | 3, _ => kx_wk170_3
  | 4, _ => kx_wk170_4
  | 5, _ => kx_wk170_5
  | k + 6, h => absurd (show k + 6 < 6 from h) (by omega)
theorem kx_wm170 : kx_okM kx_m170 := ⟨kx_wk170, rfl, Or.inr ⟨List.mem_of_getElem? (i := 1444) (by decide +kernel), by decide +kernel, by decide +kernel, by decide +kernel⟩⟩
theorem kx_wk171_0 : kx_ckr kx_m171 0 = true := by decide +kernel
theorem kx_wk171_1 : kx_ckr kx_m171 1 = true := by decide +kernel
theorem kx_wk171_2 : kx_ckr kx_m171 2 = true := by decide +kernel
theorem kx_wk171_3 : kx_ckr kx_m171 3 = true := by decide +kernel
theorem kx_wk171 : kx_ckc kx_m171 := fun k hk => match k, hk with
  | 0, _ => kx_wk171_0
  | 1, _ => kx_wk171_1
  | 2, _ => kx_wk171_2
  | 3, _ => kx_wk171_3
  | k + 4, h => absurd (show k + 4 < 4 from h) (by omega)
theorem kx_wm171 : kx_okM kx_m171 := ⟨kx_wk171, rfl, Or.inr ⟨List.mem_of_getElem? (i := 1448) (by decide +kernel), by decide +kernel, by decide +kernel, by decide +kernel⟩⟩
theorem kx_wk172_0 : kx_ckr kx_m172 0 = true := by decide +kernel
theorem kx_wk172_1 : kx_ckr kx_m172 1 = true := by decide +kernel
theorem kx_wk172_2 : kx_ckr kx_m172 2 = true := by decide +kernel
theorem kx_wk172_3 : kx_ckr kx_m172 3 = true := by decide +kernel
theorem kx_wk172_4 : kx_ckr kx_m172 4 = true := by decide +kernel
theorem kx_wk172_5 : kx_ckr kx_m172 5 = true := by decide +kernel
theorem kx_wk172_6 : kx_ckr kx_m172 6 = true := by decide +kernel
theorem kx_wk172_7 : kx_ckr kx_m172 7 = true := by decide +kernel
theorem kx_wk172 : kx_ckc kx_m172 := fun k hk => match k, hk with
  | 0, _ => kx_wk172_0
  | 1, _ => kx_wk172_1
  | 2, _ => kx_wk172_2
  | 3, _ => kx_wk172_3
  | 4, _ => kx_wk172_4
  | 5, _ => kx_wk172_5
  | 6, _ => kx_wk172_6
  | 7, _ => kx_wk172_7
  | k + 8, h => absurd (show k + 8 < 8 from h) (by omega)
theorem kx_wm172 : kx_okM kx_m172 := ⟨kx_wk172, rfl, Or.inr ⟨List.mem_of_getElem? (i := 1452) (by decide +kernel), by decide +kernel, by decide +kernel, by decide +kernel⟩⟩
theorem kx_wk173_0 : kx_ckr kx_m173 0 = true := by decide +kernel
theorem kx_wk173_1 : kx_ckr kx_m173 1 = true := by decide +kernel
theorem kx_wk173_2 : kx_ckr kx_m173 2 = true := by decide +kernel
theorem kx_wk173_3 : kx_ckr kx_m173 3 = true := by decide +kernel
theorem kx_wk173 : kx_ckc kx_m173 := fun k hk => match k, hk with
  | 0, _ => kx_wk173_0
  | 1, _ => kx_wk173_1
  | 2, _ => kx_wk173_2
  | 3, _ => kx_wk173_3
  | k + 4, h => absurd (show k + 4 < 4 from h) (by omega)
theorem kx_wm173 : kx_okM kx_m173 := ⟨kx_wk173, rfl, Or.inr ⟨List.mem_of_getElem? (i := 1456) (by decide +kernel), by decide +kernel, by decide +kernel, by decide +kernel⟩⟩
theorem kx_wk174_0 : kx_ckr kx_m174 0 = true := by decide +kernel
theorem kx_wk174_1 : kx_ckr kx_m174 1 = true := by decide +kernel
theorem kx_wk174_2 : kx_ckr kx_m174 2 = true := by decide +kernel
theorem kx_wk174_3 : kx_ckr kx_m174 3 = true := by decide +kernel
theorem kx_wk174_4 : kx_ckr kx_m174 4 = true := by decide +kernel
theorem kx_wk174_5 : kx_ckr kx_m174 5 = true := by decide +kernel
theorem kx_wk174_6 : kx_ckr kx_m174 6 = true := by decide +kernel
theorem kx_wk174_7 : kx_ckr kx_m174 7 = true := by decide +kernel
theorem kx_wk174_8 : kx_ckr kx_m174 8 = true := by decide +kernel
theorem kx_wk174 : kx_ckc kx_m174 := fun k hk => match k, hk with
  | 0, _ => kx_wk174_0
  | 1, _ => kx_wk174_1
  | 2, _ => kx_wk174_2
  | 3, _ => kx_wk174_3
  | 4, _ => kx_wk174_4
  | 5, _ => kx_wk174_5
  | 6, _ => kx_wk174_6
  | 7, _ => kx_wk174_7
  | 8, _ => kx_wk174_8
  | k + 9, h => absurd (show k + 9 < 9 from h) (by omega)
theorem kx_wm174 : kx_okM kx_m174 := ⟨kx_wk174, rfl, Or.inr ⟨List.mem_of_getElem? (i := 1460) (by decide +kernel), by decide +kernel, by decide +kernel, by decide +kernel⟩⟩
theorem kx_wk175_0 : kx_ckr kx_m175 0 = true := by decide +kernel
theorem kx_wk175_1 : kx_ckr kx_m175 1 = true := by decide +kernel
theorem kx_wk175 : kx_ckc kx_m175 := fun k hk => match k, hk with
  | 0, _ => kx_wk175_0
  | 1, _ => kx_wk175_1
  | k + 2, h => absurd (show k + 2 < 2 from h) (by omega)
theorem kx_wm175 : kx_okM kx_m175 := ⟨kx_wk175, rfl, Or.inr ⟨List.mem_of_getElem? (i := 1464) (by decide +kernel), by decide +kernel, by decide +kernel, by decide +kernel⟩⟩
theorem kx_wk176_0 : kx_ckr kx_m176 0 = true := by decide +kernel
theorem kx_wk176_1 : kx_ckr kx_m176 1 = true := by decide +kernel
theorem kx_wk176 : kx_ckc kx_m176 := fun k hk => match k, hk with
  | 0, _ => kx_wk176_0
  | 1, _ => kx_wk176_1
  | k + 2, h => absurd (show k + 2 < 2 from h) (by omega)
theorem kx_wm176 : kx_okM kx_m176 := ⟨kx_wk176, rfl, Or.inr ⟨List.mem_of_getElem? (i := 1468) (by decide +kernel), by decide +kernel, by decide +kernel, by decide +kernel⟩⟩
theorem kx_wk177_0 : kx_ckr kx_m177 0 = true := by decide +kernel
theorem kx_wk177_1 : kx_ckr kx_m177 1 = true := by decide +kernel
theorem kx_wk177 : kx_ckc kx_m177 := fun k hk => match k, hk with
  | 0, _ => kx_wk177_0
  | 1, _ => kx_wk177_1
  | k + 2, h => absurd (show k + 2 < 2 from h) (by omega)
theorem kx_wm177 : kx_okM kx_m177 := ⟨kx_wk177, rfl, Or.inr ⟨List.mem_of_getElem? (i := 1473) (by decide +kernel), by decide +kernel, by decide +kernel, by decide +kernel⟩⟩
theorem kx_wk178_0 : kx_ckr kx_m178 0 = true := by decide +kernel
theorem kx_wk178_1 : kx_ckr kx_m178 1 = true := by decide +kernel
theorem kx_wk178_2 : kx_ckr kx_m178 2 = true := by decide +kernel
theorem kx_wk178 : kx_ckc kx_m178 := fun k hk => match k, hk with
  | 0, _ => kx_wk178_0
  | 1, _ => kx_wk178_1
  | 2, _ => kx_wk178_2
  | k + 3, h => absurd (show k + 3 < 3 from h) (by omega)
theorem kx_wm178 : kx_okM kx_m178 := ⟨kx_wk178, rfl, Or.inr ⟨List.mem_of_getElem? (i := 1479) (by decide +kernel), by decide +kernel, by decide +kernel, by decide +kernel⟩⟩
theorem kx_wk179_0 : kx_ckr kx_m179 0 = true := by decide +kernel
theorem kx_wk179_1 : kx_ckr kx_m179 1 = true := by decide +kernel
theorem kx_wk179_2 : kx_ckr kx_m179 2 = true := by decide +kernel
theorem kx_wk179_3 : kx_ckr kx_m179 3 = true := by decide +kernel
theorem kx_wk179_4 : kx_ckr kx_m179 4 = true := by decide +kernel
theorem kx_wk179_5 : kx_ckr kx_m179 5 = true := by decide +kernel
theorem kx_wk179_6 : kx_ckr kx_m179 6 = true := by decide +kernel
theorem kx_wk179_7 : kx_ckr kx_m179 7 = true := by decide +kernel
theorem kx_wk179_8 : kx_ckr kx_m179 8 = true := by decide +kernel
theorem kx_wk179_9 : kx_ckr kx_m179 9 = true := by decide +kernel
theorem kx_wk179_10 : kx_ckr kx_m179 10 = true := by decide +kernel
theorem kx_wk179 : kx_ckc kx_m179 := fun k hk => match k, hk with
  | 0, _ => kx_wk179_0
  | 1, _ => kx_wk179_1
  | 2, _ => kx_wk179_2
  | 3, _ => kx_wk179_3
  | 4, _ => kx_wk179_4
  | 5, _ => kx_wk179_5
  | 6, _ => kx_wk179_6
  | 7, _ => kx_wk179_7
  | 8, _ => kx_wk179_8
  | 9, _ => kx_wk179_9
  | 10, _ => kx_wk179_10
  | k + 11, h => absurd (show k + 11 < 11 from h) (by omega)
theorem kx_wm179 : kx_okM kx_m179 := ⟨kx_wk179, rfl, Or.inr ⟨List.mem_of_getElem? (i := 1484) (by decide +kernel), by decide +kernel, by decide +kernel, by decide +kernel⟩⟩
theorem kx_wk180_0 : kx_ckr kx_m180 0 = true := by decide +kernel
theorem kx_wk180_1 : kx_ckr kx_m180 1 = true := by decide +kernel
theorem kx_wk180_2 : kx_ckr kx_m180 2 = true := by decide +kernel
theorem kx_wk180_3 : kx_ckr kx_m180 3 = true := by decide +kernel
theorem kx_wk180_4 : kx_ckr kx_m180 4 = true := by decide +kernel
theorem kx_wk180_5 : kx_ckr kx_m180 5 = true := by decide +kernel
theorem kx_wk180 : kx_ckc kx_m180 := fun k hk => match k, hk with
  | 0, _ => kx_wk180_0
  | 1, _ => kx_wk180_1
  | 2, _ => kx_wk180_2
  | 3, _ => kx_wk180_3
  | 4, _ => kx_wk180_4
  | 5, _ => kx_wk180_5
  | k + 6, h => absurd (show k + 6 < 6 from h) (by omega)
theorem kx_wm180 : kx_okM kx_m180 := ⟨kx_wk180, rfl, Or.inr ⟨List.mem_of_getElem? (i := 1493) (by decide +kernel), by decide +kernel, by decide +kernel, by decide +kernel⟩⟩
theorem kx_wk181_0 : kx_ckr kx_m181 0 = true := by decide +kernel
theorem kx_wk181_1 : kx_ckr kx_m181 1 = true := by decide +kernel
theorem kx_wk181_2 : kx_ckr kx_m181 2 = true := by decide +kernel
theorem kx_wk181_3 : kx_ckr kx_m181 3 = true := by decide +kernel
theorem kx_wk181_4 : kx_ckr kx_m181 4 = true := by decide +kernel
theorem kx_wk181_5 : kx_ckr kx_m181 5 = true := by decide +kernel
theorem kx_wk181_6 : kx_ckr kx_m181 6 = true := by decide +kernel
theorem kx_wk181_7 : kx_ckr kx_m181 7 = true := by decide +kernel
theorem kx_wk181 : kx_ckc kx_m181 := fun k hk => match k, hk with
  | 0, _ => kx_wk181_0
  | 1, _ => kx_wk181_1
  | 2, _ => kx_wk181_2
  | 3, _ => kx_wk181_3
  | 4, _ => kx_wk181_4
  | 5, _ => kx_wk181_5
  | 6, _ => kx_wk181_6
  | 7, _ => kx_wk181_7
  | k + 8, h => absurd (show k + 8 < 8 from h) (by omega)
theorem kx_wm181 : kx_okM kx_m181 := ⟨kx_wk181, rfl, Or.inr ⟨List.mem_of_getElem? (i := 1500) (by decide +kernel), by decide +kernel, by decide +kernel, by decide +kernel⟩⟩
theorem kx_wk182_0 : kx_ckr kx_m182 0 = true := by decide +kernel
theorem kx_wk182_1 : kx_ckr kx_m182 1 = true := by decide +kernel
theorem kx_wk182 : kx_ckc kx_m182 := fun k hk => match k, hk with
  | 0, _ => kx_wk182_0
  | 1, _ => kx_wk182_1
  | k + 2, h => absurd (show k + 2 < 2 from h) (by omega)
theorem kx_wm182 : kx_okM kx_m182 := ⟨kx_wk182, rfl, Or.inr ⟨List.mem_of_getElem? (i := 1504) (by decide +kernel), by decide +kernel, by decide +kernel, by decide +kernel⟩⟩
theorem kx_wk183_0 : kx_ckr kx_m183 0 = true := by decide +kernel
theorem kx_wk183_1 : kx_ckr kx_m183 1 = true := by decide +kernel
theorem kx_wk183_2 : kx_ckr kx_m183 2 = true := by decide +kernel
theorem kx_wk183_3 : kx_ckr kx_m183 3 = true := by decide +kernel
theorem kx_wk183 : kx_ckc kx_m183 := fun k hk => match k, hk with
  | 0, _ => kx_wk183_0
  | 1, _ => kx_wk183_1
  | 2, _ => kx_wk183_2
  | 3, _ => kx_wk183_3
  | k + 4, h => absurd (show k + 4 < 4 from h) (by omega)
theorem kx_wm183 : kx_okM kx_m183 := ⟨kx_wk183, rfl, Or.inr ⟨List.mem_of_getElem? (i := 1508) (by decide +kernel), by decide +kernel, by decide +kernel, by decide +kernel⟩⟩
theorem kx_wk184_0 : kx_ckr kx_m184 0 = true := by decide +kernel
theorem kx_wk184_1 : kx_ckr kx_m184 1 = true := by decide +kernel
theorem kx_wk184 : kx_ckc kx_m184 := fun k hk => match k, hk with
  | 0, _ => kx_wk184_0
  | 1, _ => kx_wk184_1
  | k + 2, h => absurd (show k + 2 < 2 from h) (by omega)
theorem kx_wm184 : kx_okM kx_m184 := ⟨kx_wk184, rfl, Or.inr ⟨List.mem_of_getElem? (i := 1512) (by decide +kernel), by decide +kernel, by decide +kernel, by decide +kernel⟩⟩
theorem kx_wk185_0 : kx_ckr kx_m185 0 = true := by decide +kernel
theorem kx_wk185_1 : kx_ckr kx_m185 1 = true := by decide +kernel
theorem kx_wk185 : kx_ckc kx_m185 := fun k hk => match k, hk with
  | 0, _ => kx_wk185_0
  | 1, _ => kx_wk185_1
  | k + 2, h => absurd (show k + 2 < 2 from h) (by omega)
theorem kx_wm185 : kx_okM kx_m185 := ⟨kx_wk185, rfl, Or.inr ⟨List.mem_of_getElem? (i := 1516) (by decide +kernel), by decide +kernel, by decide +kernel, by decide +kernel⟩⟩
theorem kx_wk186_0 : kx_ckr kx_m186 0 = true := by decide +kernel
theorem kx_wk186_1 : kx_ckr kx_m186 1 = true := by decide +kernel
theorem kx_wk186_2 : kx_ckr kx_m186 2 = true := by decide +kernel
theorem kx_wk186_3 : kx_ckr kx_m186 3 = true := by decide +kernel
theorem kx_wk186_4 : kx_ckr kx_m186 4 = true := by decide +kernel
theorem kx_wk186_5 : kx_ckr kx_m186 5 = true := by decide +kernel
theorem kx_wk186_6 : kx_ckr kx_m186 6 = true := by decide +kernel
theorem kx_wk186_7 : kx_ckr kx_m186 7 = true := by decide +kernel
theorem kx_wk186_8 : kx_ckr kx_m186 8 = true := by decide +kernel
theorem kx_wk186_9 : kx_ckr kx_m186 9 = true := by decide +kernel
theorem kx_wk186 : kx_ckc kx_m186 := fun k hk => match k, hk with
  | 0, _ => kx_wk186_0
  | 1, _ => kx_wk186_1
  | 2, _ => kx_wk186_2
  | 3, _ => kx_wk186_3
  | 4, _ => kx_wk186_4
  | 5, _ => kx_wk186_5
  | 6, _ => kx_wk186_6
  | 7, _ => kx_wk186_7
  | 8, _ => kx_wk186_8
  | 9, _ => kx_wk186_9
  | k + 10, h => absurd (show k + 10 < 10 from h) (by omega)
theorem kx_wm186 : kx_okM kx_m186 := ⟨kx_wk186, rfl, Or.inr ⟨List.mem_of_getElem? (i := 1520) (by decide +kernel), by decide +kernel, by decide +kernel, by decide +kernel⟩⟩
theorem kx_wk187_0 : kx_ckr kx_m187 0 = true := by decide +kernel
theorem kx_wk187_1 : kx_ckr kx_m187 1 = true := by decide +kernel
theorem kx_wk187 : kx_ckc kx_m187 := fun k hk => match k, hk with
  | 0, _ => kx_wk187_0
  | 1, _ => kx_wk187_1
  | k + 2, h => absurd (show k + 2 < 2 from h) (by omega)
theorem kx_wm187 : kx_okM kx_m187 := ⟨kx_wk187, rfl, Or.inr ⟨List.mem_of_getElem? (i := 1525) (by decide +kernel), by decide +kernel, by decide +kernel, by decide +kernel⟩⟩
theorem kx_wk188_0 : kx_ckr kx_m188 0 = true := by decide +kernel
theorem kx_wk188_1 : kx_ckr kx_m188 1 = true := by decide +kernel
theorem kx_wk188 : kx_ckc kx_m188 := fun k hk => match k, hk with
  | 0, _ => kx_wk188_0
  | 1, _ => kx_wk188_1
  | k + 2, h => absurd (show k + 2 < 2 from h) (by omega)
theorem kx_wm188 : kx_okM kx_m188 := ⟨kx_wk188, rfl, Or.inr ⟨List.mem_of_getElem? (i := 1533) (by decide +kernel), by decide +kernel, by decide +kernel, by decide +kernel⟩⟩
theorem kx_wk189_0 : kx_ckr kx_m189 0 = true := by decide +kernel
theorem kx_wk189_1 : kx_ckr kx_m189 1 = true := by decide +kernel
theorem kx_wk189 : kx_ckc kx_m189 := fun k hk => match k, hk with
  | 0, _ => kx_wk189_0
  | 1, _ => kx_wk189_1
  | k + 2, h => absurd (show k + 2 < 2 from h) (by omega)
theorem kx_wm189 : kx_okM kx_m189 := ⟨kx_wk189, rfl, Or.inr ⟨List.mem_of_getElem? (i := 1537) (by decide +kernel), by decide +kernel, by decide +kernel, by decide +kernel⟩⟩
theorem kx_wk190_0 : kx_ckr kx_m190 0 = true := by decide +kernel
theorem kx_wk190_1 : kx_ckr kx_m190 1 = true := by decide +kernel
theorem kx_wk190_2 : kx_ckr kx_m190 2 = true := by decide +kernel
theorem kx_wk190_3 : kx_ckr kx_m190 3 = true := by decide +kernel
theorem kx_wk190_4 : kx_ckr kx_m190 4 = true := by decide +kernel
theorem kx_wk190_5 : kx_ckr kx_m190 5 = true := by decide +kernel
theorem kx_wk190_6 : kx_ckr kx_m190 6 = true := by decide +kernel
theorem kx_wk190_7 : kx_ckr kx_m190 7 = true := by decide +kernel
theorem kx_wk190_8 : kx_ckr kx_m190 8 = true := by decide +kernel
theorem kx_wk190_9 : kx_ckr kx_m190 9 = true := by decide +kernel
theorem kx_wk190_10 : kx_ckr kx_m190 10 = true := by decide +kernel
theorem kx_wk190_11 : kx_ckr kx_m190 11 = true := by decide +kernel
theorem kx_wk190_12 : kx_ckr kx_m190 12 = true := by decide +kernel
theorem kx_wk190_13 : kx_ckr kx_m190 13 = true := by decide +kernel
theorem kx_wk190 : kx_ckc kx_m190 := fun k hk => match k, hk with
  | 0, _ => kx_wk190_0
  | 1, _ => kx_wk190_1
  | 2, _ => kx_wk190_2
  | 3, _ => kx_wk190_3
  | 4, _ => kx_wk190_4
  | 5, _ => kx_wk190_5
  | 6, _ => kx_wk190_6
  | 7, _ => kx_wk190_7
  | 8, _ => kx_wk190_8
  | 9, _ => kx_wk190_9
  | 10, _ => kx_wk190_10
  | 11, _ => kx_wk190_11
  | 12, _ => kx_wk190_12
  | 13, _ => kx_wk190_13
  | k + 14, h => absurd (show k + 14 < 14 from h) (by omega)
theorem kx_wm190 : kx_okM kx_m190 := ⟨kx_wk190, rfl, Or.inr ⟨List.mem_of_getElem? (i := 1541) (by decide +kernel), by decide +kernel, by decide +kernel, by decide +kernel⟩⟩
theorem kx_wk191_0 : kx_ckr kx_m191 0 = true := by decide +kernel
theorem kx_wk191_1 : kx_ckr kx_m191 1 = true := by decide +kernel
theorem kx_wk191_2 : kx_ckr kx_m191 2 = true := by decide +kernel
theorem kx_wk191 : kx_ckc kx_m191 := fun k hk => match k, hk with
  | 0, _ => kx_wk191_0
  | 1, _ => kx_wk191_1
  | 2, _ => kx_wk191_2
  | k + 3, h => absurd (show k + 3 < 3 from h) (by omega)
theorem kx_wm191 : kx_okM kx_m191 := ⟨kx_wk191, rfl, Or.inr ⟨List.mem_of_getElem? (i := 1545) (by decide +kernel), by decide +kernel, by decide +kernel, by decide +kernel⟩⟩
theorem kx_wk192_0 : kx_ckr kx_m192 0 = true := by decide +kernel
theorem kx_wk192_1 : kx_ckr kx_m192 1 = true := by decide +kernel
theorem kx_wk192_2 : kx_ckr kx_m192 2 = true := by decide +kernel
theorem kx_wk192_3 : kx_ckr kx_m192 3 = true := by decide +kernel
theorem kx_wk192_4 : kx_ckr kx_m192 4 = true := by decide +kernel
theorem kx_wk192_5 : kx_ckr kx_m192 5 = true := by decide +kernel
theorem kx_wk192_6 : kx_ckr kx_m192 6 = true := by decide +kernel
theorem kx_wk192_7 : kx_ckr kx_m192 7 = true := by decide +kernel
theorem kx_wk192_8 : kx_ckr kx_m192 8 = true := by decide +kernel
theorem kx_wk192_9 : kx_ckr kx_m192 9 = true := by decide +kernel
theorem kx_wk192 : kx_ckc kx_m192 := fun k hk => match k, hk with
  | 0, _ => kx_wk192_0
  | 1, _ => kx_wk192_1
  | 2, _ => kx_wk192_2
  | 3, _ => kx_wk192_3
  | 4, _ => kx_wk192_4
  | 5, _ => kx_wk192_5
  | 6, _ => kx_wk192_6
  | 7, _ => kx_wk192_7
  | 8, _ => kx_wk192_8
  | 9, _ => kx_wk192_9
  | k + 10, h => absurd (show k + 10 < 10 from h) (by omega)
theorem kx_wm192 : kx_okM kx_m192 := ⟨kx_wk192, rfl, Or.inr ⟨List.mem_of_getElem? (i := 1549) (by decide +kernel), by decide +kernel, by decide +kernel, by decide +kernel⟩⟩
theorem kx_wk193_0 : kx_ckr kx_m193 0 = true := by decide +kernel
theorem kx_wk193_1 : kx_ckr kx_m193 1 = true := by decide +kernel
theorem kx_wk193_2 : kx_ckr kx_m193 2 = true := by decide +kernel
theorem kx_wk193_3 : kx_ckr kx_m193 3 = true := by decide +kernel
theorem kx_wk193_4 : kx_ckr kx_m193 4 = true := by decide +kernel
theorem kx_wk193 : kx_ckc kx_m193 := fun k hk => match k, hk with
  | 0, _ => kx_wk193_0
  | 1, _ => kx_wk193_1
  | 2, _ => kx_wk193_2
  | 3, _ => kx_wk193_3
  | 4, _ => kx_wk193_4
  | k + 5, h => absurd (show k + 5 < 5 from h) (by omega)
theorem kx_wm193 : kx_okM kx_m193 := ⟨kx_wk193, rfl, Or.inr ⟨List.mem_of_getElem? (i := 1553) (by decide +kernel), by decide +kernel, by decide +kernel, by decide +kernel⟩⟩
theorem kx_wk194_0 : kx_ckr kx_m194 0 = true := by decide +kernel
theorem kx_wk194_1 : kx_ckr kx_m194 1 = true := by decide +kernel
theorem kx_wk194 : kx_ckc kx_m194 := fun k hk => match k, hk with
  | 0, _ => kx_wk194_0
  | 1, _ => kx_wk194_1
  | k + 2, h => absurd (show k + 2 < 2 from h) (by omega)
theorem kx_wm194 : kx_okM kx_m194 := ⟨kx_wk194, rfl, Or.inr ⟨List.mem_of_getElem? (i := 1557) (by decide +kernel), by decide +kernel, by decide +kernel, by decide +kernel⟩⟩
theorem kx_wk195_0 : kx_ckr kx_m195 0 = true := by decide +kernel
theorem kx_wk195_1 : kx_ckr kx_m195 1 = true := by decide +kernel
theorem kx_wk195_2 : kx_ckr kx_m195 2 = true := by decide +kernel
theorem kx_wk195 : kx_ckc kx_m195 := fun k hk => match k, hk with
  | 0, _ => kx_wk195_0
  | 1, _ => kx_wk195_1
  | 2, _ => kx_wk195_2
  | k + 3, h => absurd (show k + 3 < 3 from h) (by omega)
theorem kx_wm195 : kx_okM kx_m195 := ⟨kx_wk195, rfl, Or.inr ⟨List.mem_of_getElem? (i := 1561) (by decide +kernel), by decide +kernel, by decide +kernel, by decide +kernel⟩⟩
theorem kx_wk196_0 : kx_ckr kx_m196 0 = true := by decide +kernel
theorem kx_wk196_1 : kx_ckr kx_m196 1 = true := by decide +kernel
theorem kx_wk196 : kx_ckc kx_m196 := fun k hk => match k, hk with
  | 0, _ => kx_wk196_0
  | 1, _ => kx_wk196_1
  | k + 2, h => absurd (show k + 2 < 2 from h) (by omega)
theorem kx_wm196 : kx_okM kx_m196 := ⟨kx_wk196, rfl, Or.inr ⟨List.mem_of_getElem? (i := 1565) (by decide +kernel), by decide +kernel, by decide +kernel, by decide +kernel⟩⟩
theorem kx_wk197_0 : kx_ckr kx_m197 0 = true := by decide +kernel
theorem kx_wk197_1 : kx_ckr kx_m197 1 = true := by decide +kernel
theorem kx_wk197_2 : kx_ckr kx_m197 2 = true := by decide +kernel
theorem kx_wk197 : kx_ckc kx_m197 := fun k hk => match k, hk with
  | 0, _ => kx_wk197_0
  | 1, _ => kx_wk197_1
  | 2, _ => kx_wk197_2
  | k + 3, h => absurd (show k + 3 < 3 from h) (by omega)
theorem kx_wm197 : kx_okM kx_m197 := ⟨kx_wk197, rfl, Or.inr ⟨List.mem_of_getElem? (i := 1569) (by decide +kernel), by decide +kernel, by decide +kernel, by decide +kernel⟩⟩
theorem kx_wk198_0 : kx_ckr kx_m198 0 = true := by decide +kernel
theorem kx_wk198_1 : kx_ckr kx_m198 1 = true := by decide +kernel
theorem kx_wk198_2 : kx_ckr kx_m198 2 = true := by decide +kernel
theorem kx_wk198 : kx_ckc kx_m198 := fun k hk => match k, hk with
  | 0, _ => kx_wk198_0
  | 1, _ => kx_wk198_1
  | 2, _ => kx_wk198_2
  | k + 3, h => absurd (show k + 3 < 3 from h) (by omega)
theorem kx_wm198 : kx_okM kx_m198 := ⟨kx_wk198, rfl, Or.inr ⟨List.mem_of_getElem? (i := 386) (by decide +kernel), by decide +kernel, by decide +kernel, by decide +kernel⟩⟩
theorem kx_wk199_0 : kx_ckr kx_m199 0 = true := by decide +kernel
theorem kx_wk199 : kx_ckc kx_m199 := fun k hk => match k, hk with
  | 0, _ => kx_wk199_0
  | k + 1, h => absurd (show k + 1 < 1 from h) (by omega)
theorem kx_wm199 : kx_okM kx_m199 := ⟨kx_wk199, rfl, Or.inr ⟨List.mem_of_getElem? (i := 814) (by decide +kernel), by decide +kernel, by decide +kernel, by decide +kernel⟩⟩
theorem kx_wk200_0 : kx_ckr kx_m200 0 = true := by decide +kernel
theorem kx_wk200_1 : kx_ckr kx_m200 1 = true := by decide +kernel
theorem kx_wk200_2 : kx_ckr kx_m200 2 = true := by decide +kernel
theorem kx_wk200_3 : kx_ckr kx_m200 3 = true := by decide +kernel
theorem kx_wk200_4 : kx_ckr kx_m200 4 = true := by decide +kernel
theorem kx_wk200 : kx_ckc kx_m200 := fun k hk => match k, hk with
  | 0, _ => kx_wk200_0
  | 1, _ => kx_wk200_1
  | 2, _ => kx_wk200_2
  | 3, _ => kx_wk200_3
  | 4, _ => kx_wk200_4
  | k + 5, h => absurd (show k + 5 < 5 from h) (by omega)
theorem kx_wm200 : kx_okM kx_m200 := ⟨kx_wk200, rfl, Or.inr ⟨List.mem_of_getElem? (i := 821) (by decide +kernel), by decide +kernel, by decide +kernel, by decide +kernel⟩⟩
theorem kx_wk201_0 : kx_ckr kx_m201 0 = true := by decide +kernel
theorem kx_wk201_1 : kx_ckr kx_m201 1 = true := by decide +kernel
theorem kx_wk201_2 : kx_ckr kx_m201 2 = true := by decide +kernel
theorem kx_wk201 : kx_ckc kx_m201 := fun k hk => match k, hk with
  | 0, _ => kx_wk201_0
  | 1, _ => kx_wk201_1
  | 2, _ => kx_wk201_2
  | k + 3, h => absurd (show k + 3 < 3 from h) (by omega)
theorem kx_wm201 : kx_okM kx_m201 := ⟨kx_wk201, rfl, Or.inr ⟨List.mem_of_getElem? (i := 825) (by decide +kernel), by decide +kernel, by decide +kernel, by decide +kernel⟩⟩
theorem kx_wk202_0 : kx_ckr kx_m202 0 = true := by decide +kernel
theorem kx_wk202_1 : kx_ckr kx_m202 1 = true := by decide +kernel
theorem kx_wk202_2 : kx_ckr kx_m202 2 = true := by decide +kernel
theorem kx_wk202_3 : kx_ckr kx_m202 3 = true := by decide +kernel
theorem kx_wk202 : kx_ckc kx_m202 := fun k hk => match k, hk with
  | 0, _ => kx_wk202_0
  | 1, _ => kx_wk202_1
  | 2, _ => kx_wk202_2
  | 3, _ => kx_wk202_3
  | k + 4, h => absurd (show k + 4 < 4 from h) (by omega)
theorem kx_wm202 : kx_okM kx_m202 := ⟨kx_wk202, rfl, Or.inr ⟨List.mem_of_getElem? (i := 829) (by decide +kernel), by decide +kernel, by decide +kernel, by decide +kernel⟩⟩
theorem kx_wk203_0 : kx_ckr kx_m203 0 = true := by decide +kernel
theorem kx_wk203_1 : kx_ckr kx_m203 1 = true := by decide +kernel
theorem kx_wk203 : kx_ckc kx_m203 := fun k hk => match k, hk with
  | 0, _ => kx_wk203_0
  | 1, _ => kx_wk203_1
  | k + 2, h => absurd (show k + 2 < 2 from h) (by omega)
theorem kx_wm203 : kx_okM kx_m203 := ⟨kx_wk203, rfl, Or.inr ⟨List.mem_of_getElem? (i := 857) (by decide +kernel), by decide +kernel, by decide +kernel, by decide +kernel⟩⟩
theorem kx_wk204_0 : kx_ckr kx_m204 0 = true := by decide +kernel
theorem kx_wk204_1 : kx_ckr kx_m204 1 = true := by decide +kernel
theorem kx_wk204_2 : kx_ckr kx_m204 2 = true := by decide +kernel
theorem kx_wk204 : kx_ckc kx_m204 := fun k hk => match k, hk with
  | 0, _ => kx_wk204_0
  | 1, _ => kx_wk204_1
  | 2, _ => kx_wk204_2
  | k + 3, h => absurd (show k + 3 < 3 from h) (by omega)
theorem kx_wm204 : kx_okM kx_m204 := ⟨kx_wk204, rfl, Or.inr ⟨List.mem_of_getElem? (i := 929) (by decide +kernel), by decide +kernel, by decide +kernel, by decide +kernel⟩⟩
theorem kx_wk205_0 : kx_ckr kx_m205 0 = true := by decide +kernel
theorem kx_wk205_1 : kx_ckr kx_m205 1 = true := by decide +kernel
theorem kx_wk205_2 : kx_ckr kx_m205 2 = true := by decide +kernel
theorem kx_wk205_3 : kx_ckr kx_m205 3 = true := by decide +kernel
theorem kx_wk205_4 : kx_ckr kx_m205 4 = true := by decide +kernel
theorem kx_wk205_5 : kx_ckr kx_m205 5 = true := by decide +kernel
theorem kx_wk205 : kx_ckc kx_m205 := fun k hk => match k, hk with
  | 0, _ => kx_wk205_0
  | 1, _ => kx_wk205_1
  | 2, _ => kx_wk205_2
  | 3, _ => kx_wk205_3
  | 4, _ => kx_wk205_4
  | 5, _ => kx_wk205_5
  | k + 6, h => absurd (show k + 6 < 6 from h) (by omega)
theorem kx_wm205 : kx_okM kx_m205 := ⟨kx_wk205, rfl, Or.inr ⟨List.mem_of_getElem? (i := 990) (by decide +kernel), by decide +kernel, by decide +kernel, by decide +kernel⟩⟩
theorem kx_wk206_0 : kx_ckr kx_m206 0 = true := by decide +kernel
theorem kx_wk206_1 : kx_ckr kx_m206 1 = true := by decide +kernel
theorem kx_wk206_2 : kx_ckr kx_m206 2 = true := by decide +kernel
theorem kx_wk206_3 : kx_ckr kx_m206 3 = true := by decide +kernel
theorem kx_wk206 : kx_ckc kx_m206 := fun k hk => match k, hk with
  | 0, _ => kx_wk206_0
  | 1, _ => kx_wk206_1
  | 2, _ => kx_wk206_2
  | 3, _ => kx_wk206_3
  | k + 4, h => absurd (show k + 4 < 4 from h) (by omega)
theorem kx_wm206 : kx_okM kx_m206 := ⟨kx_wk206, rfl, Or.inr ⟨List.mem_of_getElem? (i := 1027) (by decide +kernel), by decide +kernel, by decide +kernel, by decide +kernel⟩⟩
theorem kx_wk207_0 : kx_ckr kx_m207 0 = true := by decide +kernel
theorem kx_wk207_1 : kx_ckr kx_m207 1 = true := by decide +kernel
theorem kx_wk207_2 : kx_ckr kx_m207 2 = true := by decide +kernel
theorem kx_wk207 : kx_ckc kx_m207 := fun k hk => match k, hk with
  | 0, _ => kx_wk207_0
  | 1, _ => kx_wk207_1
  | 2, _ => kx_wk207_2
  | k + 3, h => absurd (show k + 3 < 3 from h) (by omega)
theorem kx_wm207 : kx_okM kx_m207 := ⟨kx_wk207, rfl, Or.inr ⟨List.mem_of_getElem? (i := 1074) (by decide +kernel), by decide +kernel, by decide +kernel, by decide +kernel⟩⟩
theorem kx_wk208_0 : kx_ckr kx_m208 0 = true := by decide +kernel
theorem kx_wk208_1 : kx_ckr kx_m208 1 = true := by decide +kernel
theorem kx_wk208 : kx_ckc kx_m208 := fun k hk => match k, hk with
  | 0, _ => kx_wk208_0
  | 1, _ => kx_wk208_1
  | k + 2, h => absurd (show k + 2 < 2 from h) (by omega)
theorem kx_wm208 : kx_okM kx_m208 := ⟨kx_wk208, rfl, Or.inr ⟨List.mem_of_getElem? (i := 1086) (by decide +kernel), by decide +kernel, by decide +kernel, by decide +kernel⟩⟩
theorem kx_wk209_0 : kx_ckr kx_m209 0 = true := by decide +kernel
theorem kx_wk209_1 : kx_ckr kx_m209 1 = true := by decide +kernel
theorem kx_wk209 : kx_ckc kx_m209 := fun k hk => match k, hk with
  | 0, _ => kx_wk209_0
  | 1, _ => kx_wk209_1
  | k + 2, h => absurd (show k + 2 < 2 from h) (by omega)
theorem kx_wm209 : kx_okM kx_m209 := ⟨kx_wk209, rfl, Or.inr ⟨List.mem_of_getElem? (i := 1090) (by decide +kernel), by decide +kernel, by decide +kernel, by decide +kernel⟩⟩
theorem kx_wk210_0 : kx_ckr kx_m210 0 = true := by decide +kernel
theorem kx_wk210_1 : kx_ckr kx_m210 1 = true := by decide +kernel
theorem kx_wk210_2 : kx_ckr kx_m210 2 = true := by decide +kernel
theorem kx_wk210 : kx_ckc kx_m210 := fun k hk => match k, hk with
  | 0, _ => kx_wk210_0
  | 1, _ => kx_wk210_1
  | 2, _ => kx_wk210_2
  | k + 3, h => absurd (show k + 3 < 3 from h) (by omega)
theorem kx_wm210 : kx_okM kx_m210 := ⟨kx_wk210, rfl, Or.inr ⟨List.mem_of_getElem? (i := 1030) (by decide +kernel), by decide +kernel, by decide +kernel, by decide +kernel⟩⟩
theorem kx_wk211_0 : kx_ckr kx_m211 0 = true := by decide +kernel
theorem kx_wk211_1 : kx_ckr kx_m211 1 = true := by decide +kernel
theorem kx_wk211_2 : kx_ckr kx_m211 2 = true := by decide +kernel
theorem kx_wk211_3 : kx_ckr kx_m211 3 = true := by decide +kernel
theorem kx_wk211_4 : kx_ckr kx_m211 4 = true := by decide +kernel
theorem kx_wk211_5 : kx_ckr kx_m211 5 = true := by decide +kernel
theorem kx_wk211_6 : kx_ckr kx_m211 6 = true := by decide +kernel
theorem kx_wk211_7 : kx_ckr kx_m211 7 = true := by decide +kernel
theorem kx_wk211 : kx_ckc kx_m211 := fun k hk => match k, hk with
  | 0, _ => kx_wk211_0
  | 1, _ => kx_wk211_1
  | 2, _ => kx_wk211_2
  | 3, _ => kx_wk211_3
  | 4, _ => kx_wk211_4
  | 5, _ => kx_wk211_5
  | 6, _ => kx_wk211_6
  | 7, _ => kx_wk211_7
  | k + 8, h => absurd (show k + 8 < 8 from h) (by omega)
theorem kx_wm211 : kx_okM kx_m211 := ⟨kx_wk211, rfl, Or.inr ⟨List.mem_of_getElem? (i := 1033) (by decide +kernel), by decide +kernel, by decide +kernel, by decide +kernel⟩⟩
theorem kx_wk212_0 : kx_ckr kx_m212 0 = true := by decide +kernel
theorem kx_wk212 : kx_ckc kx_m212 := fun k hk => match k, hk with
  | 0, _ => kx_wk212_0
  | k + 1, h => absurd (show k + 1 < 1 from h) (by omega)
theorem kx_wm212 : kx_okM kx_m212 := ⟨kx_wk212, rfl, Or.inr ⟨List.mem_of_getElem? (i := 902) (by decide +kernel), by decide +kernel, by decide +kernel, by decide +kernel⟩⟩
theorem kx_wk213_0 : kx_ckr kx_m213 0 = true := by decide +kernel
theorem kx_wk213 : kx_ckc kx_m213 := fun k hk => match k, hk with
  | 0, _ => kx_wk213_0
  | k + 1, h => absurd (show k + 1 < 1 from h) (by omega)
theorem kx_wm213 : kx_okM kx_m213 := ⟨kx_wk213, rfl, Or.inr ⟨List.mem_of_getElem? (i := 943) (by decide +kernel), by decide +kernel, by decide +kernel, by decide +kernel⟩⟩
theorem kx_wk214_0 : kx_ckr kx_m214 0 = true := by decide +kernel
theorem kx_wk214 : kx_ckc kx_m214 := fun k hk => match k, hk with
  | 0, _ => kx_wk214_0
  | k + 1, h => absurd (show k + 1 < 1 from h) (by omega)
theorem kx_wm214 : kx_okM kx_m214 := ⟨kx_wk214, rfl, Or.inr ⟨List.mem_of_getElem? (i := 947) (by decide +kernel), by decide +kernel, by decide +kernel, by decide +kernel⟩⟩
theorem kx_wk215_0 : kx_ckr kx_m215 0 = true := by decide +kernel
theorem kx_wk215_1 : kx_ckr kx_m215 1 = true := by decide +kernel
theorem kx_wk215 : kx_ckc kx_m215 := fun k hk => match k, hk with
  | 0, _ => kx_wk215_0
  | 1, _ => kx_wk215_1
  | k + 2, h => absurd (show k + 2 < 2 from h) (by omega)
theorem kx_wm215 : kx_okM kx_m215 := ⟨kx_wk215, rfl, Or.inr ⟨List.mem_of_getElem? (i := 952) (by decide +kernel), by decide +kernel, by decide +kernel, by decide +kernel⟩⟩
theorem kx_wk216_0 : kx_ckr kx_m216 0 = true := by decide +kernel
theorem kx_wk216_1 : kx_ckr kx_m216 1 = true := by decide +kernel
theorem kx_wk216 : kx_ckc kx_m216 := fun k hk => match k, hk with
  | 0, _ => kx_wk216_0
  | 1, _ => kx_wk216_1
  | k + 2, h => absurd (show k + 2 < 2 from h) (by omega)
theorem kx_wm216 : kx_okM kx_m216 := ⟨kx_wk216, rfl, Or.inr ⟨List.mem_of_getElem? (i := 956) (by decide +kernel), by decide +kernel, by decide +kernel, by decide +kernel⟩⟩
theorem kx_wk217_0 : kx_ckr kx_m217 0 = true := by decide +kernel
theorem kx_wk217_1 : kx_ckr kx_m217 1 = true := by decide +kernel
theorem kx_wk217_2 : kx_ckr kx_m217 2 = true := by decide +kernel
theorem kx_wk217 : kx_ckc kx_m217 := fun k hk => match k, hk with
  | 0, _ => kx_wk217_0
  | 1, _ => kx_wk217_1
  | 2, _ => kx_wk217_2
  | k + 3, h => absurd (show k + 3 < 3 from h) (by omega)
theorem kx_wm217 : kx_okM kx_m217 := ⟨kx_wk217, rfl, Or.inr ⟨List.mem_of_getElem? (i := 1095) (by decide +kernel), by decide +kernel, by decide +kernel, by decide +kernel⟩⟩
theorem kx_wk218_0 : kx_ckr kx_m218 0 = true := by decide +kernel
theorem kx_wk218 : kx_ckc kx_m218 := fun k hk => match k, hk with
  | 0, _ => kx_wk218_0
  | k + 1, h => absurd (show k + 1 < 1 from h) (by omega)
theorem kx_wm218 : kx_okM kx_m218 := ⟨kx_wk218, rfl, Or.inr ⟨List.mem_of_getElem? (i := 383) (by decide +kernel), by decide +kernel, by decide +kernel, by decide +kernel⟩⟩
theorem kx_wk219_0 : kx_ckr kx_m219 0 = true := by decide +kernel
theorem kx_wk219 : kx_ckc kx_m219 := fun k hk => match k, hk with
  | 0, _ => kx_wk219_0
  | k + 1, h => absurd (show k + 1 < 1 from h) (by omega)
theorem kx_wm219 : kx_okM kx_m219 := ⟨kx_wk219, rfl, Or.inr ⟨List.mem_of_getElem? (i := 811) (by decide +kernel), by decide +kernel, by decide +kernel, by decide +kernel⟩⟩
theorem kx_wk220_0 : kx_ckr kx_m220 0 = true := by decide +kernel
theorem kx_wk220 : kx_ckc kx_m220 := fun k hk => match k, hk with
  | 0, _ => kx_wk220_0
  | k + 1, h => absurd (show k + 1 < 1 from h) (by omega)
theorem kx_wm220 : kx_okM kx_m220 := ⟨kx_wk220, rfl, Or.inr ⟨List.mem_of_getElem? (i := 818) (by decide +kernel), by decide +kernel, by decide +kernel, by decide +kernel⟩⟩
theorem kx_wk221_0 : kx_ckr kx_m221 0 = true := by decide +kernel
theorem kx_wk221 : kx_ckc kx_m221 := fun k hk => match k, hk with
  | 0, _ => kx_wk221_0
  | k + 1, h => absurd (show k + 1 < 1 from h) (by omega)
theorem kx_wm221 : kx_okM kx_m221 := ⟨kx_wk221, rfl, Or.inr ⟨List.mem_of_getElem? (i := 926) (by decide +kernel), by decide +kernel, by decide +kernel, by decide +kernel⟩⟩
theorem kx_wk222_0 : kx_ckr kx_m222 0 = true := by decide +kernel
theorem kx_wk222 : kx_ckc kx_m222 := fun k hk => match k, hk with
  | 0, _ => kx_wk222_0
  | k + 1, h => absurd (show k + 1 < 1 from h) (by omega)
theorem kx_wm222 : kx_okM kx_m222 := ⟨kx_wk222, rfl, Or.inr ⟨List.mem_of_getElem? (i := 987) (by decide +kernel), by decide +kernel, by decide +kernel, by decide +kernel⟩⟩
theorem kx_wk223_0 : kx_ckr kx_m223 0 = true := by decide +kernel
theorem kx_wk223 : kx_ckc kx_m223 := fun k hk => match k, hk with
  | 0, _ => kx_wk223_0
  | k + 1, h => absurd (show k + 1 < 1 from h) (by omega)
theorem kx_wm223 : kx_okM kx_m223 := ⟨kx_wk223, rfl, Or.inr ⟨List.mem_of_getElem? (i := 1024) (by decide +kernel), by decide +kernel, by decide +kernel, by decide +kernel⟩⟩
theorem kx_wk224_0 : kx_ckr kx_m224 0 = true := by decide +kernel
theorem kx_wk224 : kx_ckc kx_m224 := fun k hk => match k, hk with
  | 0, _ => kx_wk224_0
  | k + 1, h => absurd (show k + 1 < 1 from h) (by omega)
theorem kx_wm224 : kx_okM kx_m224 := ⟨kx_wk224, rfl, Or.inr ⟨List.mem_of_getElem? (i := 1071) (by decide +kernel), by decide +kernel, by decide +kernel, by decide +kernel⟩⟩
theorem kx_wk225_0 : kx_ckr kx_m225 0 = true := by decide +kernel
theorem kx_wk225 : kx_ckc kx_m225 := fun k hk => match k, hk with
  | 0, _ => kx_wk225_0
  | k + 1, h => absurd (show k + 1 < 1 from h) (by omega)
theorem kx_wm225 : kx_okM kx_m225 := ⟨kx_wk225, rfl, Or.inr ⟨List.mem_of_getElem? (i := 860) (by decide +kernel), by decide +kernel, by decide +kernel, by decide +kernel⟩⟩
theorem kx_wk226_0 : kx_ckr kx_m226 0 = true := by decide +kernel
theorem kx_wk226 : kx_ckc kx_m226 := fun k hk => match k, hk with
  | 0, _ => kx_wk226_0
  | k + 1, h => absurd (show k + 1 < 1 from h) (by omega)
theorem kx_wm226 : kx_okM kx_m226 := ⟨kx_wk226, rfl, Or.inr ⟨List.mem_of_getElem? (i := 959) (by decide +kernel), by decide +kernel, by decide +kernel, by decide +kernel⟩⟩
theorem kx_wk227_0 : kx_ckr kx_m227 0 = true := by decide +kernel
theorem kx_wk227_1 : kx_ckr kx_m227 1 = true := by decide +kernel
theorem kx_wk227_2 : kx_ckr kx_m227 2 = true := by decide +kernel
theorem kx_wk227 : kx_ckc kx_m227 := fun k hk => match k, hk with
  | 0, _ => kx_wk227_0
  | 1, _ => kx_wk227_1
  | 2, _ => kx_wk227_2
  | k + 3, h => absurd (show k + 3 < 3 from h) (by omega)
theorem kx_wm227 : kx_okM kx_m227 := ⟨kx_wk227, rfl, Or.inr ⟨List.mem_of_getElem? (i := 841) (by decide +kernel), by decide +kernel, by decide +kernel, by decide +kernel⟩⟩
theorem kx_wk228_0 : kx_ckr kx_m228 0 = true := by decide +kernel
theorem kx_wk228_1 : kx_ckr kx_m228 1 = true := by decide +kernel
theorem kx_wk228 : kx_ckc kx_m228 := fun k hk => match k, hk with
  | 0, _ => kx_wk228_0
  | 1, _ => kx_wk228_1
  | k + 2, h => absurd (show k + 2 < 2 from h) (by omega)
theorem kx_wm228 : kx_okM kx_m228 := ⟨kx_wk228, rfl, Or.inr ⟨List.mem_of_getElem? (i := 832) (by decide +kernel), by decide +kernel, by decide +kernel, by decide +kernel⟩⟩
theorem kx_wk229_0 : kx_ckr kx_m229 0 = true := by decide +kernel
theorem kx_wk229_1 : kx_ckr kx_m229 1 = true := by decide +kernel
theorem kx_wk229 : kx_ckc kx_m229 := fun k hk => match k, hk with
  | 0, _ => kx_wk229_0
  | 1, _ => kx_wk229_1
  | k + 2, h => absurd (show k + 2 < 2 from h) (by omega)
theorem kx_wm229 : kx_okM kx_m229 := ⟨kx_wk229, rfl, Or.inr ⟨List.mem_of_getElem? (i := 905) (by decide +kernel), by decide +kernel, by decide +kernel, by decide +kernel⟩⟩
theorem kx_wk230_0 : kx_ckr kx_m230 0 = true := by decide +kernel
theorem kx_wk230_1 : kx_ckr kx_m230 1 = true := by decide +kernel
theorem kx_wk230 : kx_ckc kx_m230 := fun k hk => match k, hk with
  | 0, _ => kx_wk230_0
  | 1, _ => kx_wk230_1
  | k + 2, h => absurd (show k + 2 < 2 from h) (by omega)
theorem kx_wm230 : kx_okM kx_m230 := ⟨kx_wk230, rfl, Or.inr ⟨List.mem_of_getElem? (i := 629) (by decide +kernel), by decide +kernel, by decide +kernel, by decide +kernel⟩⟩
theorem kx_wmr0 : ∀ r ∈ [kx_m0, kx_m1, kx_m2, kx_m3, kx_m4, kx_m5, kx_m6, kx_m7, kx_m8, kx_m9, kx_m10, kx_m11, kx_m12, kx_m13, kx_m14, kx_m15], kx_okM r := List.forall_mem_cons.mpr ⟨kx_wm0, List.forall_mem_cons.mpr ⟨kx_wm1, List.forall_mem_cons.mpr ⟨kx_wm2, List.forall_mem_cons.mpr ⟨kx_wm3, List.forall_mem_cons.mpr ⟨kx_wm4, List.forall_mem_cons.mpr ⟨kx_wm5, List.forall_mem_cons.mpr ⟨kx_wm6, List.forall_mem_cons.mpr ⟨kx_wm7, List.forall_mem_cons.mpr ⟨kx_wm8, List.forall_mem_cons.mpr ⟨kx_wm9, List.forall_mem_cons.mpr ⟨kx_wm10, List.forall_mem_cons.mpr ⟨kx_wm11, List.forall_mem_cons.mpr ⟨kx_wm12, List.forall_mem_cons.mpr ⟨kx_wm13, List.forall_mem_cons.mpr ⟨kx_wm14, List.forall_mem_cons.mpr ⟨kx_wm15, fun _ h => absurd h List.not_mem_nil⟩⟩⟩⟩⟩⟩⟩⟩⟩⟩⟩⟩⟩⟩⟩⟩
theorem kx_wmr1 : ∀ r ∈ [kx_m16, kx_m17, kx_m18, kx_m19, kx_m20, kx_m21, kx_m22, kx_m23, kx_m24, kx_m25, kx_m26, kx_m27, kx_m28, kx_m29, kx_m30, kx_m31], kx_okM r := List.forall_mem_cons.mpr ⟨kx_wm16, List.forall_mem_cons.mpr ⟨kx_wm17, List.forall_mem_cons.mpr ⟨kx_wm18, List.forall_mem_cons.mpr ⟨kx_wm19, List.forall_mem_cons.mpr ⟨kx_wm20, List.forall_mem_cons.mpr ⟨kx_wm21, List.forall_mem_cons.mpr ⟨kx_wm22, List.forall_mem_cons.mpr ⟨kx_wm23, List.forall_mem_cons.mpr ⟨kx_wm24, List.forall_mem_cons.mpr ⟨kx_wm25, List.forall_mem_cons.mpr ⟨kx_wm26, List.forall_mem_cons.mpr ⟨kx_wm27, List.forall_mem_cons.mpr ⟨kx_wm28, List.forall_mem_cons.mpr ⟨kx_wm29, List.forall_mem_cons.mpr ⟨kx_wm30, List.forall_mem_cons.mpr ⟨kx_wm31, fun _ h => absurd h List.not_mem_nil⟩⟩⟩⟩⟩⟩⟩⟩⟩⟩⟩⟩⟩⟩⟩⟩
theorem kx_wmr2 : ∀ r ∈ [kx_m32, kx_m33, kx_m34, kx_m35, kx_m36, kx_m37, kx_m38, kx_m39, kx_m40, kx_m41, kx_m42, kx_m43, kx_m44, kx_m45, kx_m46, kx_m47], kx_okM r := List.forall_mem_cons.mpr ⟨kx_wm32, List.forall_mem_cons.mpr ⟨kx_wm33, List.forall_mem_cons.mpr ⟨kx_wm34, List.forall_mem_cons.mpr ⟨kx_wm35, List.forall_mem_cons.mpr ⟨kx_wm36, List.forall_mem_cons.mpr ⟨kx_wm37, List.forall_mem_cons.mpr ⟨kx_wm38, List.forall_mem_cons.mpr ⟨kx_wm39, List.forall_mem_cons.mpr ⟨kx_wm40, List.forall_mem_cons.mpr ⟨kx_wm41, List.forall_mem_cons.mpr ⟨kx_wm42, List.forall_mem_cons.mpr ⟨kx_wm43, List.forall_mem_cons.mpr ⟨kx_wm44, List.forall_mem_cons.mpr ⟨kx_wm45, List.forall_mem_cons.mpr ⟨kx_wm46, List.forall_mem_cons.mpr ⟨kx_wm47, fun _ h => absurd h List.not_mem_nil⟩⟩⟩⟩⟩⟩⟩⟩⟩⟩⟩⟩⟩⟩⟩⟩
theorem kx_wmr3 : ∀ r ∈ [kx_m48, kx_m49, kx_m50, kx_m51, kx_m52, kx_m53, kx_m54, kx_m55, kx_m56, kx_m57, kx_m58, kx_m59, kx_m60, kx_m61, kx_m62, kx_m63], kx_okM r := List.forall_mem_cons.mpr ⟨kx_wm48, List.forall_mem_cons.mpr ⟨kx_wm49, List.forall_mem_cons.mpr ⟨kx_wm50, List.forall_mem_cons.mpr ⟨kx_wm51, List.forall_mem_cons.mpr ⟨kx_wm52, List.forall_mem_cons.mpr ⟨kx_wm53, List.forall_mem_cons.mpr ⟨kx_wm54, List.forall_mem_cons.mpr ⟨kx_wm55, List.forall_mem_cons.mpr ⟨kx_wm56, List.forall_mem_cons.mpr ⟨kx_wm57, List.forall_mem_cons.mpr ⟨kx_wm58, List.forall_mem_cons.mpr ⟨kx_wm59, List.forall_mem_cons.mpr ⟨kx_wm60, List.forall_mem_cons.mpr ⟨kx_wm61, List.forall_mem_cons.mpr ⟨kx_wm62, List.forall_mem_cons.mpr ⟨kx_wm63, fun _ h => absurd h List.not_mem_nil⟩⟩⟩⟩⟩⟩⟩⟩⟩⟩⟩⟩⟩⟩⟩⟩
theorem kx_wmr4 : ∀ r ∈ [kx_m64, kx_m65, kx_m66, kx_m67, kx_m68, kx_m69, kx_m70, kx_m71, kx_m72, kx_m73, kx_m74, kx_m75, kx_m76, kx_m77, kx_m78, kx_m79], kx_okM r := List.forall_mem_cons.mpr ⟨kx_wm64, List.forall_mem_cons.mpr ⟨kx_wm65, List.forall_mem_cons.mpr ⟨kx_wm66, List.forall_mem_cons.mpr ⟨kx_wm67, List.forall_mem_cons.mpr ⟨kx_wm68, List.forall_mem_cons.mpr ⟨kx_wm69, List.forall_mem_cons.mpr ⟨kx_wm70, List.forall_mem_cons.mpr ⟨kx_wm71, List.forall_mem_cons.mpr ⟨kx_wm72, List.forall_mem_cons.mpr ⟨kx_wm73, List.forall_mem_cons.mpr ⟨kx_wm74, List.forall_mem_cons.mpr ⟨kx_wm75, List.forall_mem_cons.mpr ⟨kx_wm76, List.forall_mem_cons.mpr ⟨kx_wm77, List.forall_mem_cons.mpr ⟨kx_wm78, List.forall_mem_cons.mpr ⟨kx_wm79, fun _ h => absurd h List.not_mem_nil⟩⟩⟩⟩⟩⟩⟩⟩⟩⟩⟩⟩⟩⟩⟩⟩
theorem kx_wmr5 : ∀ r ∈ [kx_m80, kx_m81, kx_m82, kx_m83, kx_m84, kx_m85, kx_m86, kx_m87, kx_m88, kx_m89, kx_m90, kx_m91, kx_m92, kx_m93, kx_m94, kx_m95], kx_okM r := List.forall_mem_cons.mpr ⟨kx_wm80, List.forall_mem_cons.mpr ⟨kx_wm81, List.forall_mem_cons.mpr ⟨kx_wm82, List.forall_mem_cons.mpr ⟨kx_wm83, List.forall_mem_cons.mpr ⟨kx_wm84, List.forall_mem_cons.mpr ⟨kx_wm85, List.forall_mem_cons.mpr ⟨kx_wm86, List.forall_mem_cons.mpr ⟨kx_wm87, List.forall_mem_cons.mpr ⟨kx_wm88, List.forall_mem_cons.mpr ⟨kx_wm89, List.forall_mem_cons.mpr ⟨kx_wm90, List.forall_mem_cons.mpr ⟨kx_wm91, List.forall_mem_cons.mpr ⟨kx_wm92, List.forall_mem_cons.mpr ⟨kx_wm93, List.forall_mem_cons.mpr ⟨kx_wm94, List.forall_mem_cons.mpr ⟨kx_wm95, fun _ h => absurd h List.not_mem_nil⟩⟩⟩⟩⟩⟩⟩⟩⟩⟩⟩⟩⟩⟩⟩⟩
theorem kx_wmr6 : ∀ r ∈ [kx_m96, kx_m97, kx_m98, kx_m99, kx_m100, kx_m101, kx_m102, kx_m103, kx_m104, kx_m105, kx_m106, kx_m107, kx_m108, kx_m109, kx_m110, kx_m111], kx_okM r := List.forall_mem_cons.mpr ⟨kx_wm96, List.forall_mem_cons.mpr ⟨kx_wm97, List.forall_mem_cons.mpr ⟨kx_wm98, List.forall_mem_cons.mpr ⟨kx_wm99, List.forall_mem_cons.mpr ⟨kx_wm100, List.forall_mem_cons.mpr ⟨kx_wm101, List.forall_mem_cons.mpr ⟨kx_wm102, List.forall_mem_cons.mpr ⟨kx_wm103, List.forall_mem_cons.mpr ⟨kx_wm104, List.forall_mem_cons.mpr ⟨kx_wm105, List.forall_mem_cons.mpr ⟨kx_wm106, List.forall_mem_cons.mpr ⟨kx_wm107, List.forall_mem_cons.mpr ⟨kx_wm108, List.forall_mem_cons.mpr ⟨kx_wm109, List.forall_mem_cons.mpr ⟨kx_wm110, List.forall_mem_cons.mpr ⟨kx_wm111, fun _ h => absurd h List.not_mem_nil⟩⟩⟩⟩⟩⟩⟩⟩⟩⟩⟩⟩⟩⟩⟩⟩
theorem kx_wmr7 : ∀ r ∈ [kx_m112, kx_m113, kx_m114, kx_m115, kx_m116, kx_m117, kx_m118, kx_m119, kx_m120, kx_m121, kx_m122, kx_m123, kx_m124, kx_m125, kx_m126, kx_m127], kx_okM r := List.forall_mem_cons.mpr ⟨kx_wm112, List.forall_mem_cons.mpr ⟨kx_wm113, List.forall_mem_cons.mpr ⟨kx_wm114, List.forall_mem_cons.mpr ⟨kx_wm115, List.forall_mem_cons.mpr ⟨kx_wm116, List.forall_mem_cons.mpr ⟨kx_wm117, List.forall_mem_cons.mpr ⟨kx_wm118, List.forall_mem_cons.mpr ⟨kx_wm119, List.forall_mem_cons.mpr ⟨kx_wm120, List.forall_mem_cons.mpr ⟨kx_wm121, List.forall_mem_cons.mpr ⟨kx_wm122, List.forall_mem_cons.mpr ⟨kx_wm123, List.forall_mem_cons.mpr ⟨kx_wm124, List.forall_mem_cons.mpr ⟨kx_wm125, List.forall_mem_cons.mpr ⟨kx_wm126, List.forall_mem_cons.mpr ⟨kx_wm127, fun _ h => absurd h List.not_mem_nil⟩⟩⟩⟩⟩⟩⟩⟩⟩⟩⟩⟩⟩⟩⟩⟩
theorem kx_wmr8 : ∀ r ∈ [kx_m128, kx_m129, kx_m130, kx_m131, kx_m132, kx_m133, kx_m134, kx_m135, kx_m136, kx_m137, kx_m138, kx_m139, kx_m140, kx_m141, kx_m142, kx_m143], kx_okM r := List.forall_mem_cons.mpr ⟨kx_wm128, List.forall_mem_cons.mpr ⟨kx_wm129, List.forall_mem_cons.mpr ⟨kx_wm130, List.forall_mem_cons.mpr ⟨kx_wm131, List.forall_mem_cons.mpr ⟨kx_wm132, List.forall_mem_cons.mpr ⟨kx_wm133, List.forall_mem_cons.mpr ⟨kx_wm134, List.forall_mem_cons.mpr ⟨kx_wm135, List.forall_mem_cons.mpr ⟨kx_wm136, List.forall_mem_cons.mpr ⟨kx_wm137, List.forall_mem_cons.mpr ⟨kx_wm138, List.forall_mem_cons.mpr ⟨kx_wm139, List.forall_mem_cons.mpr ⟨kx_wm140, List.forall_mem_cons.mpr ⟨kx_wm141, List.forall_mem_cons.mpr ⟨kx_wm142, List.forall_mem_cons.mpr ⟨kx_wm143, fun _ h => absurd h List.not_mem_nil⟩⟩⟩⟩⟩⟩⟩⟩⟩⟩⟩⟩⟩⟩⟩⟩
theorem kx_wmr9 : ∀ r ∈ [kx_m144, kx_m145, kx_m146, kx_m147, kx_m148, kx_m149, kx_m150, kx_m151, kx_m152, kx_m153, kx_m154, kx_m155, kx_m156, kx_m157, kx_m158, kx_m159], kx_okM r := List.forall_mem_cons.mpr ⟨kx_wm144, List.forall_mem_cons.mpr ⟨kx_wm145, List.forall_mem_cons.mpr ⟨kx_wm146, List.forall_mem_cons.mpr ⟨kx_wm147, List.forall_mem_cons.mpr ⟨kx_wm148, List.forall_mem_cons.mpr ⟨kx_wm149, List.forall_mem_cons.mpr ⟨kx_wm150, List.forall_mem_cons.mpr ⟨kx_wm151, List.forall_mem_cons.mpr ⟨kx_wm152, List.forall_mem_cons.mpr ⟨kx_wm153, List.forall_mem_cons.mpr ⟨kx_wm154, List.forall_mem_cons.mpr ⟨kx_wm155, List.forall_mem_cons.mpr ⟨kx_wm156, List.forall_mem_cons.mpr ⟨kx_wm157, List.forall_mem_cons.mpr ⟨kx_wm158, List.forall_mem_cons.mpr ⟨kx_wm159, fun _ h => absurd h List.not_mem_nil⟩⟩⟩⟩⟩⟩⟩⟩⟩⟩⟩⟩⟩⟩⟩⟩
theorem kx_wmr10 : ∀ r ∈ [kx_m160, kx_m161, kx_m162, kx_m163, kx_m164, kx_m165, kx_m166, kx_m167, kx_m168, kx_m169, kx_m170, kx_m171, kx_m172, kx_m173, kx_m174, kx_m175], kx_okM r := List.forall_mem_cons.mpr ⟨kx_wm160, List.forall_mem_cons.mpr ⟨kx_wm161, List.forall_mem_cons.mpr ⟨kx_wm162, List.forall_mem_cons.mpr ⟨kx_wm163, List.forall_mem_cons.mpr ⟨kx_wm164, List.forall_mem_cons.mpr ⟨kx_wm165, List.forall_mem_cons.mpr ⟨kx_wm166, List.forall_mem_cons.mpr ⟨kx_wm167, List.forall_mem_cons.mpr ⟨kx_wm168, List.forall_mem_cons.mpr ⟨kx_wm169, List.forall_mem_cons.mpr ⟨kx_wm170, List.forall_mem_cons.mpr ⟨kx_wm171, List.forall_mem_cons.mpr ⟨kx_wm172, List.forall_mem_cons.mpr ⟨kx_wm173, List.forall_mem_cons.mpr ⟨kx_wm174, List.forall_mem_cons.mpr ⟨kx_wm175, fun _ h => absurd h List.not_mem_nil⟩⟩⟩⟩⟩⟩⟩⟩⟩⟩⟩⟩⟩⟩⟩⟩
theorem kx_wmr11 : ∀ r ∈ [kx_m176, kx_m177, kx_m178, kx_m179, kx_m180, kx_m181, kx_m182, kx_m183, kx_m184, kx_m185, kx_m186, kx_m187, kx_m188, kx_m189, kx_m190, kx_m191], kx_okM r := List.forall_mem_cons.mpr ⟨kx_wm176, List.forall_mem_cons.mpr ⟨kx_wm177, List.forall_mem_cons.mpr ⟨kx_wm178, List.forall_mem_cons.mpr ⟨kx_wm179, List.forall_mem_cons.mpr ⟨kx_wm180, List.forall_mem_cons.mpr ⟨kx_wm181, List.forall_mem_cons.mpr ⟨kx_wm182, List.forall_mem_cons.mpr ⟨kx_wm183, List.forall_mem_cons.mpr ⟨kx_wm184, List.forall_mem_cons.mpr ⟨kx_wm185, List.forall_mem_cons.mpr ⟨kx_wm186, List.forall_mem_cons.mpr ⟨kx_wm187, List.forall_mem_cons.mpr ⟨kx_wm188, List.forall_mem_cons.mpr ⟨kx_wm189, List.forall_mem_cons.mpr ⟨kx_wm190, List.forall_mem_cons.mpr ⟨kx_wm191, fun _ h => absurd h List.not_mem_nil⟩⟩⟩⟩⟩⟩⟩⟩⟩⟩⟩⟩⟩⟩⟩⟩
theorem kx_wmr12 : ∀ r ∈ [kx_m192, kx_m193, kx_m194, kx_m195, kx_m196, kx_m197, kx_m198, kx_m199, kx_m200, kx_m201, kx_m202, kx_m203, kx_m204, kx_m205, kx_m206, kx_m207], kx_okM r := List.forall_mem_cons.mpr ⟨kx_wm192, List.forall_mem_cons.mpr ⟨kx_wm193, List.forall_mem_cons.mpr ⟨kx_wm194, List.forall_mem_cons.mpr ⟨kx_wm195, List.forall_mem_cons.mpr ⟨kx_wm196, List.forall_mem_cons.mpr ⟨kx_wm197, List.forall_mem_cons.mpr ⟨kx_wm198, List.forall_mem_cons.mpr ⟨kx_wm199, List.forall_mem_cons.mpr ⟨kx_wm200, List.forall_mem_cons.mpr ⟨kx_wm201, List.forall_mem_cons.mpr ⟨kx_wm202, List.forall_mem_cons.mpr ⟨kx_wm203, List.forall_mem_cons.mpr ⟨kx_wm204, List.forall_mem_cons.mpr ⟨kx_wm205, List.forall_mem_cons.mpr ⟨kx_wm206, List.forall_mem_cons.mpr ⟨kx_wm207, fun _ h => absurd h List.not_mem_nil⟩⟩⟩⟩⟩⟩⟩⟩⟩⟩⟩⟩⟩⟩⟩⟩
theorem kx_wmr13 : ∀ r ∈ [kx_m208, kx_m209, kx_m210, kx_m211, kx_m212, kx_m213, kx_m214, kx_m215, kx_m216, kx_m217, kx_m218, kx_m219, kx_m220, kx_m221, kx_m222, kx_m223], kx_okM r := List.forall_mem_cons.mpr ⟨kx_wm208, List.forall_mem_cons.mpr ⟨kx_wm209, List.forall_mem_cons.mpr ⟨kx_wm210, List.forall_mem_cons.mpr ⟨kx_wm211, List.forall_mem_cons.mpr ⟨kx_wm212, List.forall_mem_cons.mpr ⟨kx_wm213, List.forall_mem_cons.mpr ⟨kx_wm214, List.forall_mem_cons.mpr ⟨kx_wm215, List.forall_mem_cons.mpr ⟨kx_wm216, List.forall_mem_cons.mpr ⟨kx_wm217, List.forall_mem_cons.mpr ⟨kx_wm218, List.forall_mem_cons.mpr ⟨kx_wm219, List.forall_mem_cons.mpr ⟨kx_wm220, List.forall_mem_cons.mpr ⟨kx_wm221, List.forall_mem_cons.mpr ⟨kx_wm222, List.forall_mem_cons.mpr ⟨kx_wm223, fun _ h => absurd h List.not_mem_nil⟩⟩⟩⟩⟩⟩⟩⟩⟩⟩⟩⟩⟩⟩⟩⟩
theorem kx_wmr14 : ∀ r ∈ [kx_m224, kx_m225, kx_m226, kx_m227, kx_m228, kx_m229, kx_m230], kx_okM r := List.forall_mem_cons.mpr ⟨kx_wm224, List.forall_mem_cons.mpr ⟨kx_wm225, List.forall_mem_cons.mpr ⟨kx_wm226, List.forall_mem_cons.mpr ⟨kx_wm227, List.forall_mem_cons.mpr ⟨kx_wm228, List.forall_mem_cons.mpr ⟨kx_wm229, List.forall_mem_cons.mpr ⟨kx_wm230, fun _ h => absurd h List.not_mem_nil⟩⟩⟩⟩⟩⟩⟩
theorem kx_wmall : ∀ l ∈ kx_mT, ∀ r ∈ l, kx_okM r := List.forall_mem_cons.mpr ⟨kx_wmr0, List.forall_mem_cons.mpr ⟨kx_wmr1, List.forall_mem_cons.mpr ⟨kx_wmr2, List.forall_mem_cons.mpr ⟨kx_wmr3, List.forall_mem_cons.mpr ⟨kx_wmr4, List.forall_mem_cons.mpr ⟨kx_wmr5, List.forall_mem_cons.mpr ⟨kx_wmr6, List.forall_mem_cons.mpr ⟨kx_wmr7, List.forall_mem_cons.mpr ⟨kx_wmr8, List.forall_mem_cons.mpr ⟨kx_wmr9, List.forall_mem_cons.mpr ⟨kx_wmr10, List.forall_mem_cons.mpr ⟨kx_wmr11, List.forall_mem_cons.mpr ⟨kx_wmr12, List.forall_mem_cons.mpr ⟨kx_wmr13, List.forall_mem_cons.mpr ⟨kx_wmr14, fun _ h => absurd h List.not_mem_nil⟩⟩⟩⟩⟩⟩⟩⟩⟩⟩⟩⟩⟩⟩⟩
theorem kx_wm_ok {i : Nat} {r : kx_R} (h : kx_meth i = some r) : kx_okM r := by
  unfold kx_meth at h
  cases hl : kx_mT[i / 16]? with
  | none => rw [hl] at h; cases h
  | some l => rw [hl] at h; exact kx_wmall l (List.mem_of_getElem? hl) r (List.mem_of_getElem? h)
theorem kx_wu0 : ∀ w ∈ u_ws "KiteWar$Flight" kx_T0 3, w ∈ lw_tbl := List.forall_mem_cons.mpr ⟨List.mem_of_getElem? (i := 331) (by decide +kernel), List.forall_mem_cons.mpr ⟨List.mem_of_getElem? (i := 333) (by decide +kernel), List.forall_mem_cons.mpr ⟨List.mem_of_getElem? (i := 335) (by decide +kernel), fun _ h => absurd h List.not_mem_nil⟩⟩⟩
theorem kx_wn0 : ∀ a, a < 3 → ∀ b, b < 3 → a ≠ b → (kx_T0 a).2.1 ≠ (kx_T0 b).2.1 := by decide +kernel
theorem kx_wt0 : ∀ k, k < 3 → parseFieldDescriptor (kx_T0 k).2.2.1 = some (kx_y0 k) := by decide +kernel
theorem kx_wi0 : Cond.instantiable "KiteWar$Flight" 3 ∈ lw_tbl := List.mem_of_getElem? (i := 318) (by decide +kernel)
theorem kx_wd0 : ∀ k, k < 3 → defaultValue (kx_y0 k) = kx_fd 0 k := by decide +kernel
theorem kx_wu1 : ∀ w ∈ u_ws "KiteWar$History" kx_T1 3, w ∈ lw_tbl := List.forall_mem_cons.mpr ⟨List.mem_of_getElem? (i := 304) (by decide +kernel), List.forall_mem_cons.mpr ⟨List.mem_of_getElem? (i := 306) (by decide +kernel), List.forall_mem_cons.mpr ⟨List.mem_of_getElem? (i := 308) (by decide +kernel), fun _ h => absurd h List.not_mem_nil⟩⟩⟩
theorem kx_wn1 : ∀ a, a < 3 → ∀ b, b < 3 → a ≠ b → (kx_T1 a).2.1 ≠ (kx_T1 b).2.1 := by decide +kernel
theorem kx_wt1 : ∀ k, k < 3 → parseFieldDescriptor (kx_T1 k).2.2.1 = some (kx_y1 k) := by decide +kernel
theorem kx_wi1 : Cond.instantiable "KiteWar$History" 3 ∈ lw_tbl := List.mem_of_getElem? (i := 292) (by decide +kernel)
theorem kx_wd1 : ∀ k, k < 3 → defaultValue (kx_y1 k) = kx_fd 1 k := by decide +kernel
theorem kx_wu2 : ∀ w ∈ u_ws "KiteWar$Kite" kx_T2 13, w ∈ lw_tbl := List.forall_mem_cons.mpr ⟨List.mem_of_getElem? (i := 196) (by decide +kernel), List.forall_mem_cons.mpr ⟨List.mem_of_getElem? (i := 198) (by decide +kernel), List.forall_mem_cons.mpr ⟨List.mem_of_getElem? (i := 200) (by decide +kernel), List.forall_mem_cons.mpr ⟨List.mem_of_getElem? (i := 202) (by decide +kernel), List.forall_mem_cons.mpr ⟨List.mem_of_getElem? (i := 204) (by decide +kernel), List.forall_mem_cons.mpr ⟨List.mem_of_getElem? (i := 206) (by decide +kernel), List.forall_mem_cons.mpr ⟨List.mem_of_getElem? (i := 208) (by decide +kernel), List.forall_mem_cons.mpr ⟨List.mem_of_getElem? (i := 210) (by decide +kernel), List.forall_mem_cons.mpr ⟨List.mem_of_getElem? (i := 212) (by decide +kernel), List.forall_mem_cons.mpr ⟨List.mem_of_getElem? (i := 214) (by decide +kernel), List.forall_mem_cons.mpr ⟨List.mem_of_getElem? (i := 216) (by decide +kernel), List.forall_mem_cons.mpr ⟨List.mem_of_getElem? (i := 218) (by decide +kernel), List.forall_mem_cons.mpr ⟨List.mem_of_getElem? (i := 220) (by decide +kernel), fun _ h => absurd h List.not_mem_nil⟩⟩⟩⟩⟩⟩⟩⟩⟩⟩⟩⟩⟩
theorem kx_wn2 : ∀ a, a < 13 → ∀ b, b < 13 → a ≠ b → (kx_T2 a).2.1 ≠ (kx_T2 b).2.1 := by decide +kernel
theorem kx_wt2 : ∀ k, k < 13 → parseFieldDescriptor (kx_T2 k).2.2.1 = some (kx_y2 k) := by decide +kernel
theorem kx_wi2 : Cond.instantiable "KiteWar$Kite" 13 ∈ lw_tbl := List.mem_of_getElem? (i := 139) (by decide +kernel)
theorem kx_wd2 : ∀ k, k < 13 → defaultValue (kx_y2 k) = kx_fd 2 k := by decide +kernel
theorem kx_wu3 : ∀ w ∈ u_ws "KiteWar$Lines" kx_T3 3, w ∈ lw_tbl := List.forall_mem_cons.mpr ⟨List.mem_of_getElem? (i := 342) (by decide +kernel), List.forall_mem_cons.mpr ⟨List.mem_of_getElem? (i := 344) (by decide +kernel), List.forall_mem_cons.mpr ⟨List.mem_of_getElem? (i := 346) (by decide +kernel), fun _ h => absurd h List.not_mem_nil⟩⟩⟩
theorem kx_wn3 : ∀ a, a < 3 → ∀ b, b < 3 → a ≠ b → (kx_T3 a).2.1 ≠ (kx_T3 b).2.1 := by decide +kernel
theorem kx_wt3 : ∀ k, k < 3 → parseFieldDescriptor (kx_T3 k).2.2.1 = some (kx_y3 k) := by decide +kernel
theorem kx_wi3 : Cond.instantiable "KiteWar$Lines" 3 ∈ lw_tbl := List.mem_of_getElem? (i := 312) (by decide +kernel)
theorem kx_wd3 : ∀ k, k < 3 → defaultValue (kx_y3 k) = kx_fd 3 k := by decide +kernel
theorem kx_wu4 : ∀ w ∈ u_ws "KiteWar$Order" kx_T4 3, w ∈ lw_tbl := List.forall_mem_cons.mpr ⟨List.mem_of_getElem? (i := 424) (by decide +kernel), List.forall_mem_cons.mpr ⟨List.mem_of_getElem? (i := 426) (by decide +kernel), List.forall_mem_cons.mpr ⟨List.mem_of_getElem? (i := 428) (by decide +kernel), fun _ h => absurd h List.not_mem_nil⟩⟩⟩
theorem kx_wn4 : ∀ a, a < 3 → ∀ b, b < 3 → a ≠ b → (kx_T4 a).2.1 ≠ (kx_T4 b).2.1 := by decide +kernel
theorem kx_wt4 : ∀ k, k < 3 → parseFieldDescriptor (kx_T4 k).2.2.1 = some (kx_y4 k) := by decide +kernel
theorem kx_wi4 : Cond.instantiable "KiteWar$Order" 3 ∈ lw_tbl := List.mem_of_getElem? (i := 413) (by decide +kernel)
theorem kx_wd4 : ∀ k, k < 3 → defaultValue (kx_y4 k) = kx_fd 4 k := by decide +kernel
theorem kx_wu5 : ∀ w ∈ u_ws "KiteWar$Orders" kx_T5 5, w ∈ lw_tbl := List.forall_mem_cons.mpr ⟨List.mem_of_getElem? (i := 441) (by decide +kernel), List.forall_mem_cons.mpr ⟨List.mem_of_getElem? (i := 443) (by decide +kernel), List.forall_mem_cons.mpr ⟨List.mem_of_getElem? (i := 445) (by decide +kernel), List.forall_mem_cons.mpr ⟨List.mem_of_getElem? (i := 447) (by decide +kernel), List.forall_mem_cons.mpr ⟨List.mem_of_getElem? (i := 449) (by decide +kernel), fun _ h => absurd h List.not_mem_nil⟩⟩⟩⟩⟩
theorem kx_wn5 : ∀ a, a < 5 → ∀ b, b < 5 → a ≠ b → (kx_T5 a).2.1 ≠ (kx_T5 b).2.1 := by decide +kernel
theorem kx_wt5 : ∀ k, k < 5 → parseFieldDescriptor (kx_T5 k).2.2.1 = some (kx_y5 k) := by decide +kernel
theorem kx_wi5 : Cond.instantiable "KiteWar$Orders" 5 ∈ lw_tbl := List.mem_of_getElem? (i := 374) (by decide +kernel)
theorem kx_wd5 : ∀ k, k < 5 → defaultValue (kx_y5 k) = kx_fd 5 k := by decide +kernel
theorem kx_wu6 : ∀ w ∈ u_ws "KiteWar$State" kx_T6 14, w ∈ lw_tbl := List.forall_mem_cons.mpr ⟨List.mem_of_getElem? (i := 261) (by decide +kernel), List.forall_mem_cons.mpr ⟨List.mem_of_getElem? (i := 263) (by decide +kernel), List.forall_mem_cons.mpr ⟨List.mem_of_getElem? (i := 265) (by decide +kernel), List.forall_mem_cons.mpr ⟨List.mem_of_getElem? (i := 267) (by decide +kernel), List.forall_mem_cons.mpr ⟨List.mem_of_getElem? (i := 269) (by decide +kernel), List.forall_mem_cons.mpr ⟨List.mem_of_getElem? (i := 271) (by decide +kernel), List.forall_mem_cons.mpr ⟨List.mem_of_getElem? (i := 273) (by decide +kernel), List.forall_mem_cons.mpr ⟨List.mem_of_getElem? (i := 275) (by decide +kernel), List.forall_mem_cons.mpr ⟨List.mem_of_getElem? (i := 277) (by decide +kernel), List.forall_mem_cons.mpr ⟨List.mem_of_getElem? (i := 279) (by decide +kernel), List.forall_mem_cons.mpr ⟨List.mem_of_getElem? (i := 281) (by decide +kernel), List.forall_mem_cons.mpr ⟨List.mem_of_getElem? (i := 283) (by decide +kernel), List.forall_mem_cons.mpr ⟨List.mem_of_getElem? (i := 285) (by decide +kernel), List.forall_mem_cons.mpr ⟨List.mem_of_getElem? (i := 287) (by decide +kernel), fun _ h => absurd h List.not_mem_nil⟩⟩⟩⟩⟩⟩⟩⟩⟩⟩⟩⟩⟩⟩
theorem kx_wn6 : ∀ a, a < 14 → ∀ b, b < 14 → a ≠ b → (kx_T6 a).2.1 ≠ (kx_T6 b).2.1 := by decide +kernel
theorem kx_wt6 : ∀ k, k < 14 → parseFieldDescriptor (kx_T6 k).2.2.1 = some (kx_y6 k) := by decide +kernel
theorem kx_wi6 : Cond.instantiable "KiteWar$State" 14 ∈ lw_tbl := List.mem_of_getElem? (i := 103) (by decide +kernel)
theorem kx_wd6 : ∀ k, k < 14 → defaultValue (kx_y6 k) = kx_fd 6 k := by decide +kernel
theorem kx_wu7 : ∀ w ∈ u_ws "KiteWar$Tower" kx_T7 4, w ∈ lw_tbl := List.forall_mem_cons.mpr ⟨List.mem_of_getElem? (i := 128) (by decide +kernel), List.forall_mem_cons.mpr ⟨List.mem_of_getElem? (i := 130) (by decide +kernel), List.forall_mem_cons.mpr ⟨List.mem_of_getElem? (i := 132) (by decide +kernel), List.forall_mem_cons.mpr ⟨List.mem_of_getElem? (i := 134) (by decide +kernel), fun _ h => absurd h List.not_mem_nil⟩⟩⟩⟩
theorem kx_wn7 : ∀ a, a < 4 → ∀ b, b < 4 → a ≠ b → (kx_T7 a).2.1 ≠ (kx_T7 b).2.1 := by decide +kernel
theorem kx_wt7 : ∀ k, k < 4 → parseFieldDescriptor (kx_T7 k).2.2.1 = some (kx_y7 k) := by decide +kernel
theorem kx_wi7 : Cond.instantiable "KiteWar$Tower" 4 ∈ lw_tbl := List.mem_of_getElem? (i := 110) (by decide +kernel)
theorem kx_wd7 : ∀ k, k < 4 → defaultValue (kx_y7 k) = kx_fd 7 k := by decide +kernel
theorem kx_wu8 : ∀ w ∈ u_ws "KiteWar$Umpire" kx_T8 4, w ∈ lw_tbl := List.forall_mem_cons.mpr ⟨List.mem_of_getElem? (i := 363) (by decide +kernel), List.forall_mem_cons.mpr ⟨List.mem_of_getElem? (i := 365) (by decide +kernel), List.forall_mem_cons.mpr ⟨List.mem_of_getElem? (i := 367) (by decide +kernel), List.forall_mem_cons.mpr ⟨List.mem_of_getElem? (i := 369) (by decide +kernel), fun _ h => absurd h List.not_mem_nil⟩⟩⟩⟩
theorem kx_wn8 : ∀ a, a < 4 → ∀ b, b < 4 → a ≠ b → (kx_T8 a).2.1 ≠ (kx_T8 b).2.1 := by decide +kernel
theorem kx_wt8 : ∀ k, k < 4 → parseFieldDescriptor (kx_T8 k).2.2.1 = some (kx_y8 k) := by decide +kernel
theorem kx_wi8 : Cond.instantiable "KiteWar$Umpire" 4 ∈ lw_tbl := List.mem_of_getElem? (i := 350) (by decide +kernel)
theorem kx_wd8 : ∀ k, k < 4 → defaultValue (kx_y8 k) = kx_fd 8 k := by decide +kernel
theorem kx_wu9 : ∀ w ∈ u_ws "KiteWar" kx_T9 11, w ∈ lw_tbl := List.forall_mem_cons.mpr ⟨List.mem_of_getElem? (i := 465) (by decide +kernel), List.forall_mem_cons.mpr ⟨List.mem_of_getElem? (i := 467) (by decide +kernel), List.forall_mem_cons.mpr ⟨List.mem_of_getElem? (i := 469) (by decide +kernel), List.forall_mem_cons.mpr ⟨List.mem_of_getElem? (i := 471) (by decide +kernel), List.forall_mem_cons.mpr ⟨List.mem_of_getElem? (i := 473) (by decide +kernel), List.forall_mem_cons.mpr ⟨List.mem_of_getElem? (i := 475) (by decide +kernel), List.forall_mem_cons.mpr ⟨List.mem_of_getElem? (i := 477) (by decide +kernel), List.forall_mem_cons.mpr ⟨List.mem_of_getElem? (i := 479) (by decide +kernel), List.forall_mem_cons.mpr ⟨List.mem_of_getElem? (i := 481) (by decide +kernel), List.forall_mem_cons.mpr ⟨List.mem_of_getElem? (i := 483) (by decide +kernel), List.forall_mem_cons.mpr ⟨List.mem_of_getElem? (i := 485) (by decide +kernel), fun _ h => absurd h List.not_mem_nil⟩⟩⟩⟩⟩⟩⟩⟩⟩⟩⟩
theorem kx_wn9 : ∀ a, a < 11 → ∀ b, b < 11 → a ≠ b → (kx_T9 a).2.1 ≠ (kx_T9 b).2.1 := by decide +kernel
theorem kx_wt9 : ∀ k, k < 11 → parseFieldDescriptor (kx_T9 k).2.2.1 = some (kx_y9 k) := by decide +kernel
theorem kx_wi9 : Cond.instantiable "KiteWar" 11 ∈ lw_tbl := List.mem_of_getElem? (i := 95) (by decide +kernel)
theorem kx_wd9 : ∀ k, k < 11 → defaultValue (kx_y9 k) = kx_fd 9 k := by decide +kernel
theorem kx_wu10 : ∀ w ∈ u_ws "KiteWarModel" kx_T10 21, w ∈ lw_tbl := List.forall_mem_cons.mpr ⟨List.mem_of_getElem? (i := 1181) (by decide +kernel), List.forall_mem_cons.mpr ⟨List.mem_of_getElem? (i := 1183) (by decide +kernel), List.forall_mem_cons.mpr ⟨List.mem_of_getElem? (i := 1185) (by decide +kernel), List.forall_mem_cons.mpr ⟨List.mem_of_getElem? (i := 1187) (by decide +kernel), List.forall_mem_cons.mpr ⟨List.mem_of_getElem? (i := 1189) (by decide +kernel), List.forall_mem_cons.mpr ⟨List.mem_of_getElem? (i := 1191) (by decide +kernel), List.forall_mem_cons.mpr ⟨List.mem_of_getElem? (i := 1193) (by decide +kernel), List.forall_mem_cons.mpr ⟨List.mem_of_getElem? (i := 1195) (by decide +kernel), List.forall_mem_cons.mpr ⟨List.mem_of_getElem? (i := 1197) (by decide +kernel), List.forall_mem_cons.mpr ⟨List.mem_of_getElem? (i := 1199) (by decide +kernel), List.forall_mem_cons.mpr ⟨List.mem_of_getElem? (i := 1201) (by decide +kernel), List.forall_mem_cons.mpr ⟨List.mem_of_getElem? (i := 1203) (by decide +kernel), List.forall_mem_cons.mpr ⟨List.mem_of_getElem? (i := 1205) (by decide +kernel), List.forall_mem_cons.mpr ⟨List.mem_of_getElem? (i := 1207) (by decide +kernel), List.forall_mem_cons.mpr ⟨List.mem_of_getElem? (i := 1209) (by decide +kernel), List.forall_mem_cons.mpr ⟨List.mem_of_getElem? (i := 1211) (by decide +kernel), List.forall_mem_cons.mpr ⟨List.mem_of_getElem? (i := 1213) (by decide +kernel), List.forall_mem_cons.mpr ⟨List.mem_of_getElem? (i := 1215) (by decide +kernel), List.forall_mem_cons.mpr ⟨List.mem_of_getElem? (i := 1217) (by decide +kernel), List.forall_mem_cons.mpr ⟨List.mem_of_getElem? (i := 1219) (by decide +kernel), List.forall_mem_cons.mpr ⟨List.mem_of_getElem? (i := 1221) (by decide +kernel), fun _ h => absurd h List.not_mem_nil⟩⟩⟩⟩⟩⟩⟩⟩⟩⟩⟩⟩⟩⟩⟩⟩⟩⟩⟩⟩⟩
theorem kx_wn10 : ∀ a, a < 21 → ∀ b, b < 21 → a ≠ b → (kx_T10 a).2.1 ≠ (kx_T10 b).2.1 := by decide +kernel
theorem kx_wt10 : ∀ k, k < 21 → parseFieldDescriptor (kx_T10 k).2.2.1 = some (kx_y10 k) := by decide +kernel
theorem kx_wi10 : Cond.instantiable "KiteWarModel" 21 ∈ lw_tbl := List.mem_of_getElem? (i := 1155) (by decide +kernel)
theorem kx_wd10 : ∀ k, k < 21 → defaultValue (kx_y10 k) = kx_fd 10 k := by decide +kernel
theorem kx_wu11 : ∀ w ∈ u_ws "java/lang/StringBuilder" kx_T11 4, w ∈ lw_tbl := List.forall_mem_cons.mpr ⟨List.mem_of_getElem? (i := 401) (by decide +kernel), List.forall_mem_cons.mpr ⟨List.mem_of_getElem? (i := 403) (by decide +kernel), List.forall_mem_cons.mpr ⟨List.mem_of_getElem? (i := 405) (by decide +kernel), List.forall_mem_cons.mpr ⟨List.mem_of_getElem? (i := 407) (by decide +kernel), fun _ h => absurd h List.not_mem_nil⟩⟩⟩⟩
theorem kx_wn11 : ∀ a, a < 4 → ∀ b, b < 4 → a ≠ b → (kx_T11 a).2.1 ≠ (kx_T11 b).2.1 := by decide +kernel
theorem kx_wt11 : ∀ k, k < 4 → parseFieldDescriptor (kx_T11 k).2.2.1 = some (kx_y11 k) := by decide +kernel
theorem kx_wi11 : Cond.instantiable "java/lang/StringBuilder" 4 ∈ lw_tbl := List.mem_of_getElem? (i := 380) (by decide +kernel)
theorem kx_wd11 : ∀ k, k < 4 → defaultValue (kx_y11 k) = kx_fd 11 k := by decide +kernel
theorem kx_wu : ∀ c : Nat, c < 12 → ∀ w ∈ u_ws (kx_nm c) (fun k => kx_Tf c k) (kx_cn c), w ∈ lw_tbl := by
  intro c hc
  match c, hc with
  | 0, _ => exact kx_wu0
  | 1, _ => exact kx_wu1
  | 2, _ => exact kx_wu2
  | 3, _ => exact kx_wu3
  | 4, _ => exact kx_wu4
  | 5, _ => exact kx_wu5
  | 6, _ => exact kx_wu6
  | 7, _ => exact kx_wu7
  | 8, _ => exact kx_wu8
  | 9, _ => exact kx_wu9
  | 10, _ => exact kx_wu10
  | 11, _ => exact kx_wu11
  | n + 12, h => exact absurd h (by omega)
theorem kx_wnn : ∀ c : Nat, c < 12 → ∀ a, a < kx_cn c → ∀ b, b < kx_cn c → a ≠ b → (kx_Tf c a).2.1 ≠ (kx_Tf c b).2.1 := by
  intro c hc
  match c, hc with
  | 0, _ => exact kx_wn0
  | 1, _ => exact kx_wn1
  | 2, _ => exact kx_wn2
  | 3, _ => exact kx_wn3
  | 4, _ => exact kx_wn4
  | 5, _ => exact kx_wn5
  | 6, _ => exact kx_wn6
  | 7, _ => exact kx_wn7
  | 8, _ => exact kx_wn8
  | 9, _ => exact kx_wn9
  | 10, _ => exact kx_wn10
  | 11, _ => exact kx_wn11
  | n + 12, h => exact absurd h (by omega)
theorem kx_wt : ∀ c : Nat, c < 12 → ∀ k, k < kx_cn c → parseFieldDescriptor (kx_Tf c k).2.2.1 = some (kx_Ty c k) := by
  intro c hc
  match c, hc with
  | 0, _ => exact kx_wt0
  | 1, _ => exact kx_wt1
  | 2, _ => exact kx_wt2
  | 3, _ => exact kx_wt3
  | 4, _ => exact kx_wt4
  | 5, _ => exact kx_wt5
  | 6, _ => exact kx_wt6
  | 7, _ => exact kx_wt7
  | 8, _ => exact kx_wt8
  | 9, _ => exact kx_wt9
  | 10, _ => exact kx_wt10
  | 11, _ => exact kx_wt11
  | n + 12, h => exact absurd h (by omega)
theorem kx_wi : ∀ c : Nat, c < 12 → Cond.instantiable (kx_nm c) (kx_cn c) ∈ lw_tbl := by
  intro c hc
  match c, hc with
  | 0, _ => exact kx_wi0
  | 1, _ => exact kx_wi1
  | 2, _ => exact kx_wi2
  | 3, _ => exact kx_wi3
  | 4, _ => exact kx_wi4
  | 5, _ => exact kx_wi5
  | 6, _ => exact kx_wi6
  | 7, _ => exact kx_wi7
  | 8, _ => exact kx_wi8
  | 9, _ => exact kx_wi9
  | 10, _ => exact kx_wi10
  | 11, _ => exact kx_wi11
  | n + 12, h => exact absurd h (by omega)
theorem kx_wd : ∀ c : Nat, c < 12 → ∀ k, k < kx_cn c → defaultValue (kx_Ty c k) = kx_fd c k := by
  intro c hc
  match c, hc with
  | 0, _ => exact kx_wd0
  | 1, _ => exact kx_wd1
  | 2, _ => exact kx_wd2
  | 3, _ => exact kx_wd3
  | 4, _ => exact kx_wd4
  | 5, _ => exact kx_wd5
  | 6, _ => exact kx_wd6
  | 7, _ => exact kx_wd7
  | 8, _ => exact kx_wd8
  | 9, _ => exact kx_wd9
  | 10, _ => exact kx_wd10
  | 11, _ => exact kx_wd11
  | n + 12, h => exact absurd h (by omega)
theorem kx_wcl : ∀ c : Nat, c < 12 → kx_cl[c]? = some (kx_nm c, (fun k => kx_Tf c k), kx_cn c) := by
  intro c hc
  match c, hc with
  | 0, _ => rfl
  | 1, _ => rfl
  | 2, _ => rfl
  | 3, _ => rfl
  | 4, _ => rfl
  | 5, _ => rfl
  | 6, _ => rfl
  | 7, _ => rfl
  | 8, _ => rfl
  | 9, _ => rfl
  | 10, _ => rfl
  | 11, _ => rfl
  | n + 12, h => exact absurd h (by omega)
theorem kx_w_mmax1 : Cond.static Lib.Math.max.name ∈ lw_tbl := List.mem_of_getElem? (i := 523) (by decide +kernel)
theorem kx_w_mmax2 : Cond.code Lib.Math.max.name Lib.Math.max.code 2 (some .int) ∈ lw_tbl := List.mem_of_getElem? (i := 524) (by decide +kernel)
theorem kx_w_mmin1 : Cond.static Lib.Math.min.name ∈ lw_tbl := List.mem_of_getElem? (i := 585) (by decide +kernel)
theorem kx_w_mmin2 : Cond.code Lib.Math.min.name Lib.Math.min.code 2 (some .int) ∈ lw_tbl := List.mem_of_getElem? (i := 586) (by decide +kernel)
theorem kx_w_mabs1 : Cond.static Lib.Math.abs.name ∈ lw_tbl := List.mem_of_getElem? (i := 520) (by decide +kernel)
theorem kx_w_mabs2 : Cond.code Lib.Math.abs.name Lib.Math.abs.code 1 (some .int) ∈ lw_tbl := List.mem_of_getElem? (i := 521) (by decide +kernel)
theorem kx_w_mini : Cond.initialized "java/lang/Math" ∈ lw_tbl := List.mem_of_getElem? (i := 87) (by decide +kernel)
theorem kx_w_oi1 : Cond.instanceMethod Lib.objectInit ∈ lw_tbl := List.mem_of_getElem? (i := 100) (by decide +kernel)
theorem kx_w_oi2 : Cond.code Lib.objectInit ⟨#[0xb1]⟩ 1 none ∈ lw_tbl := List.mem_of_getElem? (i := 101) (by decide +kernel)
theorem kx_w_ac1 : Cond.native arraycopyName ∈ lw_tbl := List.mem_of_getElem? (i := 852) (by decide +kernel)
theorem kx_w_ac2 : Cond.static arraycopyName ∈ lw_tbl := List.mem_of_getElem? (i := 851) (by decide +kernel)
theorem kx_w_ac3 : Cond.initialized "java/lang/System" ∈ lw_tbl := List.mem_of_getElem? (i := 90) (by decide +kernel)
theorem kx_w_aint : Cond.arrayClass .int ∈ lw_tbl := List.mem_of_getElem? (i := 290) (by decide +kernel)
theorem kx_w_along : Cond.arrayClass .long ∈ lw_tbl := List.mem_of_getElem? (i := 338) (by decide +kernel)
theorem kx_w_abyte : Cond.arrayClass .byte ∈ lw_tbl := List.mem_of_getElem? (i := 410) (by decide +kernel)
theorem kx_w_achar : Cond.arrayClass .char ∈ lw_tbl := List.mem_of_getElem? (i := 1224) (by decide +kernel)
theorem kx_w_aboolean : Cond.arrayClass .boolean ∈ lw_tbl := List.mem_of_getElem? (i := 372) (by decide +kernel)
theorem kx_wp0 : Cond.privateMethod ⟨"java/lang/AbstractStringBuilder", "ensureCapacityInternal", "(I)V"⟩ ∈ lw_tbl ∧ Cond.instanceMethod ⟨"java/lang/AbstractStringBuilder", "ensureCapacityInternal", "(I)V"⟩ ∈ lw_tbl := ⟨List.mem_of_getElem? (i := 823) (by decide +kernel), List.mem_of_getElem? (i := 824) (by decide +kernel)⟩
theorem kx_wp1 : Cond.privateMethod ⟨"java/lang/AbstractStringBuilder", "newCapacity", "(I)I"⟩ ∈ lw_tbl ∧ Cond.instanceMethod ⟨"java/lang/AbstractStringBuilder", "newCapacity", "(I)I"⟩ ∈ lw_tbl := ⟨List.mem_of_getElem? (i := 827) (by decide +kernel), List.mem_of_getElem? (i := 828) (by decide +kernel)⟩
theorem kx_wp2 : Cond.privateMethod ⟨"java/lang/AbstractStringBuilder", "putStringAt", "(ILjava/lang/String;)V"⟩ ∈ lw_tbl ∧ Cond.instanceMethod ⟨"java/lang/AbstractStringBuilder", "putStringAt", "(ILjava/lang/String;)V"⟩ ∈ lw_tbl := ⟨List.mem_of_getElem? (i := 1084) (by decide +kernel), List.mem_of_getElem? (i := 1085) (by decide +kernel)⟩
theorem kx_wp3 : Cond.privateMethod ⟨"java/lang/AbstractStringBuilder", "inflateIfNeededFor", "(Ljava/lang/String;)V"⟩ ∈ lw_tbl ∧ Cond.instanceMethod ⟨"java/lang/AbstractStringBuilder", "inflateIfNeededFor", "(Ljava/lang/String;)V"⟩ ∈ lw_tbl := ⟨List.mem_of_getElem? (i := 1088) (by decide +kernel), List.mem_of_getElem? (i := 1089) (by decide +kernel)⟩
theorem kx_wpz : Cond.selects "java/lang/StringBuilder" ⟨"java/lang/AbstractStringBuilder", "isLatin1", "()Z"⟩ ⟨"java/lang/AbstractStringBuilder", "isLatin1", "()Z"⟩ ∈ lw_tbl := List.mem_of_getElem? (i := 856) (by decide +kernel)
theorem kx_wpp : ∀ y ∈ kx_pv, y.cls = "java/lang/AbstractStringBuilder" ∧ Cond.privateMethod y ∈ lw_tbl ∧ Cond.instanceMethod y ∈ lw_tbl := List.forall_mem_cons.mpr ⟨⟨rfl, kx_wp0⟩, List.forall_mem_cons.mpr ⟨⟨rfl, kx_wp1⟩, List.forall_mem_cons.mpr ⟨⟨rfl, kx_wp2⟩, List.forall_mem_cons.mpr ⟨⟨rfl, kx_wp3⟩, fun _ h => absurd h List.not_mem_nil⟩⟩⟩⟩
