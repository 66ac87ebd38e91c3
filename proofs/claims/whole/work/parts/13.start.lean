/-! what holds at the law's start; written by wip/whole/start.py -/
def kx_F : List Jvm.Cond := flatC narrow_1
abbrev kx_aw (tm : Term) (ty : FieldType) (k : Nat) (xs : List Int32) : Prop := kx_F[k]? = some (Cond.arrayOf tm ty) ∧ kx_F[k + 1]? = some (Cond.eq (Term.length tm) (.int (Int32.ofNat xs.length))) ∧ ∀ j, j < xs.length → kx_F[k + 2 + j]? = some (Cond.eq (Term.elem tm (.int (Int32.ofNat j))) (.int (xs.getD j 0)))
abbrev kx_sq (own : String) (n k : Nat) (xs : List Int32) : Prop := kx_F[k]? = some (Cond.exactly (Term.string own n) "java/lang/String") ∧ kx_F[k + 1]? = some (Cond.eq (Term.field (Term.string own n) "java/lang/String" "coder" "B") (.int 0)) ∧ kx_aw (Term.field (Term.string own n) "java/lang/String" "value" "[B") .byte (k + 2) xs
def kx_tm (c : Nat) : Term := match c with
  | 2 => Term.static "KiteWar$Field" "START" "[I"
  | 3 => Term.static "KiteWar$Field" "ROW" "[I"
  | 4 => Term.static "KiteWar$Field" "SHIFT" "[I"
  | 5 => Term.static "KiteWar$Field" "ROWS_OF_STEP" "[I"
  | 6 => Term.static "KiteWar$Field" "COLUMNS_OF_STEP" "[I"
  | 7 => Term.static "java/lang/Integer" "DigitOnes" "[B"
  | _ => Term.static "java/lang/Integer" "DigitTens" "[B"
theorem kx_tw_2 : kx_aw (Term.static "KiteWar$Field" "START" "[I") .int 44 (kx_ca.getD 2 (99, [])).2 := ⟨by decide +kernel, by decide +kernel, by decide +kernel⟩
theorem kx_tl_2 : Cond.laysStatic "KiteWar$Field" "START" "[I" ∈ lw_tbl ∧ Cond.initialized "KiteWar$Field" ∈ lw_tbl := ⟨List.mem_of_getElem? (i := 504) (by decide +kernel), List.mem_of_getElem? (i := 86) (by decide +kernel)⟩
theorem kx_tw_3 : kx_aw (Term.static "KiteWar$Field" "ROW" "[I") .int 4 (kx_ca.getD 3 (99, [])).2 := ⟨by decide +kernel, by decide +kernel, by decide +kernel⟩
theorem kx_tl_3 : Cond.laysStatic "KiteWar$Field" "ROW" "[I" ∈ lw_tbl ∧ Cond.initialized "KiteWar$Field" ∈ lw_tbl := ⟨List.mem_of_getElem? (i := 502) (by decide +kernel), List.mem_of_getElem? (i := 86) (by decide +kernel)⟩
theorem kx_tw_4 : kx_aw (Term.static "KiteWar$Field" "SHIFT" "[I") .int 55 (kx_ca.getD 4 (99, [])).2 := ⟨by decide +kernel, by decide +kernel, by decide +kernel⟩
theorem kx_tl_4 : Cond.laysStatic "KiteWar$Field" "SHIFT" "[I" ∈ lw_tbl ∧ Cond.initialized "KiteWar$Field" ∈ lw_tbl := ⟨List.mem_of_getElem? (i := 506) (by decide +kernel), List.mem_of_getElem? (i := 86) (by decide +kernel)⟩
theorem kx_tw_5 : kx_aw (Term.static "KiteWar$Field" "ROWS_OF_STEP" "[I") .int 74 (kx_ca.getD 5 (99, [])).2 := ⟨by decide +kernel, by decide +kernel, by decide +kernel⟩
theorem kx_tl_5 : Cond.laysStatic "KiteWar$Field" "ROWS_OF_STEP" "[I" ∈ lw_tbl ∧ Cond.initialized "KiteWar$Field" ∈ lw_tbl := ⟨List.mem_of_getElem? (i := 510) (by decide +kernel), List.mem_of_getElem? (i := 86) (by decide +kernel)⟩
theorem kx_tw_6 : kx_aw (Term.static "KiteWar$Field" "COLUMNS_OF_STEP" "[I") .int 65 (kx_ca.getD 6 (99, [])).2 := ⟨by decide +kernel, by decide +kernel, by decide +kernel⟩
theorem kx_tl_6 : Cond.laysStatic "KiteWar$Field" "COLUMNS_OF_STEP" "[I" ∈ lw_tbl ∧ Cond.initialized "KiteWar$Field" ∈ lw_tbl := ⟨List.mem_of_getElem? (i := 508) (by decide +kernel), List.mem_of_getElem? (i := 86) (by decide +kernel)⟩
theorem kx_tw_7 : kx_aw (Term.static "java/lang/Integer" "DigitOnes" "[B") .byte 87 (kx_ca.getD 7 (99, [])).2 := ⟨by decide +kernel, by decide +kernel, by decide +kernel⟩
theorem kx_tl_7 : Cond.laysStatic "java/lang/Integer" "DigitOnes" "[B" ∈ lw_tbl ∧ Cond.initialized "java/lang/Integer" ∈ lw_tbl := ⟨List.mem_of_getElem? (i := 1035) (by decide +kernel), List.mem_of_getElem? (i := 93) (by decide +kernel)⟩
theorem kx_tw_8 : kx_aw (Term.static "java/lang/Integer" "DigitTens" "[B") .byte 190 (kx_ca.getD 8 (99, [])).2 := ⟨by decide +kernel, by decide +kernel, by decide +kernel⟩
theorem kx_tl_8 : Cond.laysStatic "java/lang/Integer" "DigitTens" "[B" ∈ lw_tbl ∧ Cond.initialized "java/lang/Integer" ∈ lw_tbl := ⟨List.mem_of_getElem? (i := 1037) (by decide +kernel), List.mem_of_getElem? (i := 93) (by decide +kernel)⟩
theorem kx_tw : ∀ c, 2 ≤ c → c < 9 → ∃ k, kx_aw (kx_tm c) (kx_aty (kx_csh c).1) k (kx_ca.getD c (99, [])).2 := by
  intro c h1 h2
  match c, h1, h2 with
  | 2, _, _ => exact ⟨_, kx_tw_2⟩
  | 3, _, _ => exact ⟨_, kx_tw_3⟩
  | 4, _, _ => exact ⟨_, kx_tw_4⟩
  | 5, _, _ => exact ⟨_, kx_tw_5⟩
  | 6, _, _ => exact ⟨_, kx_tw_6⟩
  | 7, _, _ => exact ⟨_, kx_tw_7⟩
  | 8, _, _ => exact ⟨_, kx_tw_8⟩
  | 0, h, _ => omega
  | 1, h, _ => omega
  | c + 9, _, h => omega
theorem kx_tl_c : Cond.laysStatic "java/lang/String" "COMPACT_STRINGS" "Z" ∈ lw_tbl ∧ Cond.initialized "java/lang/String" ∈ lw_tbl := ⟨List.mem_of_getElem? (i := 389) (by decide +kernel), List.mem_of_getElem? (i := 82) (by decide +kernel)⟩
theorem kx_tl_q : Cond.laysStatic "jdk/internal/util/Preconditions" "SIOOBE_FORMATTER" "Ljava/util/function/BiFunction;" ∈ lw_tbl ∧ Cond.initialized "jdk/internal/util/Preconditions" ∈ lw_tbl := ⟨List.mem_of_getElem? (i := 881) (by decide +kernel), List.mem_of_getElem? (i := 92) (by decide +kernel)⟩
theorem kx_n_c : kx_F[2]? = some (Cond.eq (Term.static "java/lang/String" "COMPACT_STRINGS" "Z") (.int 1)) := by decide +kernel
theorem kx_n_q : kx_F[82]? = some (Cond.isRef (Term.static "jdk/internal/util/Preconditions" "SIOOBE_FORMATTER" "Ljava/util/function/BiFunction;")) := by decide +kernel
def kx_sP (i : Nat) : Prop := ∃ own n tx k, kx_srs[i]? = some (own, n, tx, 10 + 2 * i) ∧ kx_sq own n k (kx_cs.getD i []) ∧ Cond.stringRef own n tx ∈ lw_tbl
theorem kx_sw_0 : kx_sq "KiteWar$Orders" 54 340 (kx_cs.getD 0 []) := ⟨by decide +kernel, by decide +kernel, by decide +kernel, by decide +kernel, by decide +kernel⟩
theorem kx_sP_0 : kx_sP 0 := ⟨"KiteWar$Orders", 54, "wind ", 340, rfl, kx_sw_0, List.mem_of_getElem? (i := 935) (by decide +kernel)⟩
theorem kx_sw_1 : kx_sq "KiteWar$Orders" 69 349 (kx_cs.getD 1 []) := ⟨by decide +kernel, by decide +kernel, by decide +kernel, by decide +kernel, by decide +kernel⟩
theorem kx_sP_1 : kx_sP 1 := ⟨"KiteWar$Orders", 69, "turn ", 349, rfl, kx_sw_1, List.mem_of_getElem? (i := 973) (by decide +kernel)⟩
theorem kx_sw_2 : kx_sq "KiteWar$Orders" 74 359 (kx_cs.getD 2 []) := ⟨by decide +kernel, by decide +kernel, by decide +kernel, by decide +kernel, by decide +kernel⟩
theorem kx_sP_2 : kx_sP 2 := ⟨"KiteWar$Orders", 74, "fly ", 359, rfl, kx_sw_2, List.mem_of_getElem? (i := 978) (by decide +kernel)⟩
theorem kx_sw_3 : kx_sq "KiteWar$Orders" 76 369 (kx_cs.getD 3 []) := ⟨by decide +kernel, by decide +kernel, by decide +kernel, by decide +kernel, by decide +kernel⟩
theorem kx_sP_3 : kx_sP 3 := ⟨"KiteWar$Orders", 76, "out", 369, rfl, kx_sw_3, List.mem_of_getElem? (i := 979) (by decide +kernel)⟩
theorem kx_sw_4 : kx_sq "KiteWar$Orders" 78 379 (kx_cs.getD 4 []) := ⟨by decide +kernel, by decide +kernel, by decide +kernel, by decide +kernel, by decide +kernel⟩
theorem kx_sP_4 : kx_sP 4 := ⟨"KiteWar$Orders", 78, "in", 379, rfl, kx_sw_4, List.mem_of_getElem? (i := 980) (by decide +kernel)⟩
theorem kx_sw_5 : kx_sq "KiteWar$Orders" 80 389 (kx_cs.getD 5 []) := ⟨by decide +kernel, by decide +kernel, by decide +kernel, by decide +kernel, by decide +kernel⟩
theorem kx_sP_5 : kx_sP 5 := ⟨"KiteWar$Orders", 80, "right", 389, rfl, kx_sw_5, List.mem_of_getElem? (i := 981) (by decide +kernel)⟩
theorem kx_sw_6 : kx_sq "KiteWar$Orders" 82 403 (kx_cs.getD 6 []) := ⟨by decide +kernel, by decide +kernel, by decide +kernel, by decide +kernel, by decide +kernel⟩
theorem kx_sP_6 : kx_sP 6 := ⟨"KiteWar$Orders", 82, "eft", 403, rfl, kx_sw_6, List.mem_of_getElem? (i := 982) (by decide +kernel)⟩
theorem kx_sw_7 : kx_sq "KiteWar$Orders" 84 416 (kx_cs.getD 7 []) := ⟨by decide +kernel, by decide +kernel, by decide +kernel, by decide +kernel, by decide +kernel⟩
theorem kx_sP_7 : kx_sP 7 := ⟨"KiteWar$Orders", 84, "and", 416, rfl, kx_sw_7, List.mem_of_getElem? (i := 983) (by decide +kernel)⟩
theorem kx_sw_8 : kx_sq "KiteWar" 368 430 (kx_cs.getD 8 []) := ⟨by decide +kernel, by decide +kernel, by decide +kernel, by decide +kernel, by decide +kernel⟩
theorem kx_sP_8 : kx_sP 8 := ⟨"KiteWar", 368, " rest", 430, rfl, kx_sw_8, List.mem_of_getElem? (i := 1067) (by decide +kernel)⟩
theorem kx_sw_9 : kx_sq "KiteWar" 370 447 (kx_cs.getD 9 []) := ⟨by decide +kernel, by decide +kernel, by decide +kernel, by decide +kernel, by decide +kernel⟩
theorem kx_sP_9 : kx_sP 9 := ⟨"KiteWar", 370, " flies ", 447, rfl, kx_sw_9, List.mem_of_getElem? (i := 1098) (by decide +kernel)⟩
theorem kx_sw_10 : kx_sq "KiteWar" 372 467 (kx_cs.getD 10 []) := ⟨by decide +kernel, by decide +kernel, by decide +kernel, by decide +kernel, by decide +kernel⟩
theorem kx_sP_10 : kx_sP 10 := ⟨"KiteWar", 372, " drifts ", 467, rfl, kx_sw_10, List.mem_of_getElem? (i := 1099) (by decide +kernel)⟩
theorem kx_sw_11 : kx_sq "KiteWar" 374 489 (kx_cs.getD 11 []) := ⟨by decide +kernel, by decide +kernel, by decide +kernel, by decide +kernel, by decide +kernel⟩
theorem kx_sP_11 : kx_sP 11 := ⟨"KiteWar", 374, " lost", 489, rfl, kx_sw_11, List.mem_of_getElem? (i := 1100) (by decide +kernel)⟩
theorem kx_sw_12 : kx_sq "KiteWar" 276 509 (kx_cs.getD 12 []) := ⟨by decide +kernel, by decide +kernel, by decide +kernel, by decide +kernel, by decide +kernel⟩
theorem kx_sP_12 : kx_sP 12 := ⟨"KiteWar", 276, " s", 509, rfl, kx_sw_12, List.mem_of_getElem? (i := 1101) (by decide +kernel)⟩
theorem kx_sw_13 : kx_sq "KiteWarModel" 233 527 (kx_cs.getD 13 []) := ⟨by decide +kernel, by decide +kernel, by decide +kernel, by decide +kernel, by decide +kernel⟩
theorem kx_sP_13 : kx_sP 13 := ⟨"KiteWarModel", 233, "ind ", 527, rfl, kx_sw_13, List.mem_of_getElem? (i := 1469) (by decide +kernel)⟩
theorem kx_sw_14 : kx_sq "KiteWarModel" 235 548 (kx_cs.getD 14 []) := ⟨by decide +kernel, by decide +kernel, by decide +kernel, by decide +kernel, by decide +kernel⟩
theorem kx_sP_14 : kx_sP 14 := ⟨"KiteWarModel", 235, "urn ", 548, rfl, kx_sw_14, List.mem_of_getElem? (i := 1480) (by decide +kernel)⟩
theorem kx_sw_15 : kx_sq "KiteWarModel" 213 570 (kx_cs.getD 15 []) := ⟨by decide +kernel, by decide +kernel, by decide +kernel, by decide +kernel, by decide +kernel⟩
theorem kx_sP_15 : kx_sP 15 := ⟨"KiteWarModel", 213, "ly ", 570, rfl, kx_sw_15, List.mem_of_getElem? (i := 1485) (by decide +kernel)⟩
theorem kx_sw_16 : kx_sq "KiteWarModel" 222 592 (kx_cs.getD 16 []) := ⟨by decide +kernel, by decide +kernel, by decide +kernel, by decide +kernel, by decide +kernel⟩
theorem kx_sP_16 : kx_sP 16 := ⟨"KiteWarModel", 222, "ut", 592, rfl, kx_sw_16, List.mem_of_getElem? (i := 1486) (by decide +kernel)⟩
theorem kx_sw_17 : kx_sq "KiteWarModel" 224 614 (kx_cs.getD 17 []) := ⟨by decide +kernel, by decide +kernel, by decide +kernel, by decide +kernel, by decide +kernel⟩
theorem kx_sP_17 : kx_sP 17 := ⟨"KiteWarModel", 224, "ight", 614, rfl, kx_sw_17, List.mem_of_getElem? (i := 1487) (by decide +kernel)⟩
theorem kx_sw_18 : kx_sq "KiteWarModel" 226 639 (kx_cs.getD 18 []) := ⟨by decide +kernel, by decide +kernel, by decide +kernel, by decide +kernel, by decide +kernel⟩
theorem kx_sP_18 : kx_sP 18 := ⟨"KiteWarModel", 226, "ft", 639, rfl, kx_sw_18, List.mem_of_getElem? (i := 1488) (by decide +kernel)⟩
theorem kx_sw_19 : kx_sq "KiteWarModel" 228 663 (kx_cs.getD 19 []) := ⟨by decide +kernel, by decide +kernel, by decide +kernel, by decide +kernel, by decide +kernel⟩
theorem kx_sP_19 : kx_sP 19 := ⟨"KiteWarModel", 228, "and", 663, rfl, kx_sw_19, List.mem_of_getElem? (i := 1489) (by decide +kernel)⟩
theorem kx_sw_20 : kx_sq "KiteWarModel" 274 689 (kx_cs.getD 20 []) := ⟨by decide +kernel, by decide +kernel, by decide +kernel, by decide +kernel, by decide +kernel⟩
theorem kx_sP_20 : kx_sP 20 := ⟨"KiteWarModel", 274, " rest", 689, rfl, kx_sw_20, List.mem_of_getElem? (i := 1521) (by decide +kernel)⟩
theorem kx_sw_21 : kx_sq "KiteWarModel" 280 718 (kx_cs.getD 21 []) := ⟨by decide +kernel, by decide +kernel, by decide +kernel, by decide +kernel, by decide +kernel⟩
theorem kx_sP_21 : kx_sP 21 := ⟨"KiteWarModel", 280, " flies ", 718, rfl, kx_sw_21, List.mem_of_getElem? (i := 1526) (by decide +kernel)⟩
theorem kx_sw_22 : kx_sq "KiteWarModel" 282 750 (kx_cs.getD 22 []) := ⟨by decide +kernel, by decide +kernel, by decide +kernel, by decide +kernel, by decide +kernel⟩
theorem kx_sP_22 : kx_sP 22 := ⟨"KiteWarModel", 282, " drifts ", 750, rfl, kx_sw_22, List.mem_of_getElem? (i := 1527) (by decide +kernel)⟩
theorem kx_sw_23 : kx_sq "KiteWarModel" 284 784 (kx_cs.getD 23 []) := ⟨by decide +kernel, by decide +kernel, by decide +kernel, by decide +kernel, by decide +kernel⟩
theorem kx_sP_23 : kx_sP 23 := ⟨"KiteWarModel", 284, " lost", 784, rfl, kx_sw_23, List.mem_of_getElem? (i := 1528) (by decide +kernel)⟩
theorem kx_sw_24 : kx_sq "KiteWarModel" 286 816 (kx_cs.getD 24 []) := ⟨by decide +kernel, by decide +kernel, by decide +kernel, by decide +kernel, by decide +kernel⟩
theorem kx_sP_24 : kx_sP 24 := ⟨"KiteWarModel", 286, " s", 816, rfl, kx_sw_24, List.mem_of_getElem? (i := 1529) (by decide +kernel)⟩
theorem kx_sP_all : ∀ i, i < 25 → kx_sP i := by
  intro i h
  match i, h with
  | 0, _ => exact kx_sP_0
  | 1, _ => exact kx_sP_1
  | 2, _ => exact kx_sP_2
  | 3, _ => exact kx_sP_3
  | 4, _ => exact kx_sP_4
  | 5, _ => exact kx_sP_5
  | 6, _ => exact kx_sP_6
  | 7, _ => exact kx_sP_7
  | 8, _ => exact kx_sP_8
  | 9, _ => exact kx_sP_9
  | 10, _ => exact kx_sP_10
  | 11, _ => exact kx_sP_11
  | 12, _ => exact kx_sP_12
  | 13, _ => exact kx_sP_13
  | 14, _ => exact kx_sP_14
  | 15, _ => exact kx_sP_15
  | 16, _ => exact kx_sP_16
  | 17, _ => exact kx_sP_17
  | 18, _ => exact kx_sP_18
  | 19, _ => exact kx_sP_19
  | 20, _ => exact kx_sP_20
  | 21, _ => exact kx_sP_21
  | 22, _ => exact kx_sP_22
  | 23, _ => exact kx_sP_23
  | 24, _ => exact kx_sP_24
  | i + 25, h => omega
theorem kx_in_0 : ∃ n, Cond.instantiable (kx_nm 0) n ∈ lw_tbl := ⟨3, List.mem_of_getElem? (i := 318) (by decide +kernel)⟩
theorem kx_in_1 : ∃ n, Cond.instantiable (kx_nm 1) n ∈ lw_tbl := ⟨3, List.mem_of_getElem? (i := 292) (by decide +kernel)⟩
theorem kx_in_2 : ∃ n, Cond.instantiable (kx_nm 2) n ∈ lw_tbl := ⟨13, List.mem_of_getElem? (i := 139) (by decide +kernel)⟩
theorem kx_in_3 : ∃ n, Cond.instantiable (kx_nm 3) n ∈ lw_tbl := ⟨3, List.mem_of_getElem? (i := 312) (by decide +kernel)⟩
theorem kx_in_4 : ∃ n, Cond.instantiable (kx_nm 4) n ∈ lw_tbl := ⟨3, List.mem_of_getElem? (i := 413) (by decide +kernel)⟩
theorem kx_in_5 : ∃ n, Cond.instantiable (kx_nm 5) n ∈ lw_tbl := ⟨5, List.mem_of_getElem? (i := 374) (by decide +kernel)⟩
theorem kx_in_6 : ∃ n, Cond.instantiable (kx_nm 6) n ∈ lw_tbl := ⟨14, List.mem_of_getElem? (i := 103) (by decide +kernel)⟩
theorem kx_in_7 : ∃ n, Cond.instantiable (kx_nm 7) n ∈ lw_tbl := ⟨4, List.mem_of_getElem? (i := 110) (by decide +kernel)⟩
theorem kx_in_8 : ∃ n, Cond.instantiable (kx_nm 8) n ∈ lw_tbl := ⟨4, List.mem_of_getElem? (i := 350) (by decide +kernel)⟩
theorem kx_in_9 : ∃ n, Cond.instantiable (kx_nm 9) n ∈ lw_tbl := ⟨11, List.mem_of_getElem? (i := 95) (by decide +kernel)⟩
theorem kx_in_10 : ∃ n, Cond.instantiable (kx_nm 10) n ∈ lw_tbl := ⟨21, List.mem_of_getElem? (i := 1155) (by decide +kernel)⟩
theorem kx_in_11 : ∃ n, Cond.instantiable (kx_nm 11) n ∈ lw_tbl := ⟨4, List.mem_of_getElem? (i := 380) (by decide +kernel)⟩
theorem kx_ins : ∀ c, c < 12 → ∃ n, Cond.instantiable (kx_nm c) n ∈ lw_tbl := by
  intro c h
  match c, h with
  | 0, _ => exact kx_in_0
  | 1, _ => exact kx_in_1
  | 2, _ => exact kx_in_2
  | 3, _ => exact kx_in_3
  | 4, _ => exact kx_in_4
  | 5, _ => exact kx_in_5
  | 6, _ => exact kx_in_6
  | 7, _ => exact kx_in_7
  | 8, _ => exact kx_in_8
  | 9, _ => exact kx_in_9
  | 10, _ => exact kx_in_10
  | 11, _ => exact kx_in_11
  | c + 12, h => omega
theorem kx_ac_101 : Cond.arrayClass .int ∈ lw_tbl := List.mem_of_getElem? (i := 290) (by decide +kernel)
theorem kx_ac_102 : Cond.arrayClass .long ∈ lw_tbl := List.mem_of_getElem? (i := 338) (by decide +kernel)
theorem kx_ac_103 : Cond.arrayClass .byte ∈ lw_tbl := List.mem_of_getElem? (i := 410) (by decide +kernel)
theorem kx_ac_104 : Cond.arrayClass .char ∈ lw_tbl := List.mem_of_getElem? (i := 1224) (by decide +kernel)
theorem kx_ac_105 : Cond.arrayClass .boolean ∈ lw_tbl := List.mem_of_getElem? (i := 372) (by decide +kernel)
theorem kx_ac_110 : Cond.arrayOver (.object "KiteWar$Tower") ∈ lw_tbl := List.mem_of_getElem? (i := 109) (by decide +kernel)
theorem kx_ac_111 : Cond.arrayOver (.object "KiteWar$Kite") ∈ lw_tbl := List.mem_of_getElem? (i := 138) (by decide +kernel)
theorem kx_ac_112 : Cond.arrayOver (.object "KiteWar$State") ∈ lw_tbl := List.mem_of_getElem? (i := 298) (by decide +kernel)
theorem kx_ac_113 : Cond.arrayOver (.object "KiteWar$Order") ∈ lw_tbl := List.mem_of_getElem? (i := 412) (by decide +kernel)
theorem kx_nl_0 : Cond.methodLinkNest "KiteWar$State" 17 ⟨"KiteWar$Tower", "<init>", "()V"⟩ "KiteWar" ∈ lw_tbl := List.mem_of_getElem? (i := 111) (by decide +kernel)
theorem kx_nl_1 : Cond.methodLinkNest "KiteWar$State" 24 ⟨"KiteWar$Kite", "<init>", "()V"⟩ "KiteWar" ∈ lw_tbl := List.mem_of_getElem? (i := 140) (by decide +kernel)
theorem kx_nl_2 : Cond.methodLinkNest "KiteWar$Lines" 17 ⟨"KiteWar$Flight", "<init>", "()V"⟩ "KiteWar" ∈ lw_tbl := List.mem_of_getElem? (i := 319) (by decide +kernel)
theorem kx_nl_3 : Cond.methodLinkNest "KiteWar$Umpire" 20 ⟨"KiteWar$Flight", "<init>", "()V"⟩ "KiteWar" ∈ lw_tbl := List.mem_of_getElem? (i := 358) (by decide +kernel)
theorem kx_nl_4 : Cond.methodLinkNest "KiteWar$Orders" 24 ⟨"KiteWar$Order", "<init>", "()V"⟩ "KiteWar" ∈ lw_tbl := List.mem_of_getElem? (i := 414) (by decide +kernel)
theorem kx_nl : ∀ e ∈ kx_nst, Cond.methodLinkNest e.1 e.2.1 e.2.2.1 e.2.2.2 ∈ lw_tbl := List.forall_mem_cons.mpr ⟨kx_nl_0, List.forall_mem_cons.mpr ⟨kx_nl_1, List.forall_mem_cons.mpr ⟨kx_nl_2, List.forall_mem_cons.mpr ⟨kx_nl_3, List.forall_mem_cons.mpr ⟨kx_nl_4, fun _ h => absurd h List.not_mem_nil⟩⟩⟩⟩⟩
theorem kx_aw_T {args : Array Value} {s : State} (hF : ∀ w ∈ kx_F, w.before args s = true) {tm : Term} {ty : FieldType} {k : Nat} {xs : List Int32} (hw : kx_aw tm ty k xs) (hN : xs.length < 2 ^ 31) {A : Nat → Prop} (hA : ∀ a : Nat, a < s.heap.size → ¬ A a) : ∃ t : Nat, tm.eval args s none [] s = some (.ref t) ∧ va_T ty t xs.length (fun j => .int (xs.getD j 0)) A s s.heap :=
  va_Tof hN (hF _ (List.mem_of_getElem? hw.1)) (va_eqt (hF _ (List.mem_of_getElem? hw.2.1))) (fun j hj => va_eqt (hF _ (List.mem_of_getElem? (hw.2.2 j hj)))) hA
theorem kx_sq_S {args : Array Value} {s : State} (hF : ∀ w ∈ kx_F, w.before args s = true) {own : String} {n k : Nat} {xs : List Int32} (hw : kx_sq own n k xs) (hN : xs.length < 2 ^ 31) {A : Nat → Prop} (hA : ∀ a : Nat, a < s.heap.size → ¬ A a) : ∃ q : Nat × Nat, (Term.string own n).eval args s none [] s = some (.ref q.1) ∧ va_O "java/lang/String" q.1 A s s.heap ∧ va_OF "java/lang/String" "coder" "B" (.int 0) q.1 A s s.heap ∧ va_OF "java/lang/String" "value" "[B" (.ref q.2) q.1 A s s.heap ∧ va_T .byte q.2 xs.length (fun j => .int (xs.getD j 0)) A s s.heap := by
  obtain ⟨a, c, cA, kA, q1, q2, q3, q4, q5, q6, -⟩ := Cond.exactly_spec (args := args) (first := s) (o := none) (s := s) (idx := []) (hF _ (List.mem_of_getElem? hw.1))
  obtain ⟨t, ht, hT⟩ := kx_aw_T hF hw.2.2 hN hA
  exact ⟨(a, t), q1, ⟨cA, q3, q5, by rw [q6]; exact q2, hA a (Array.getElem?_eq_some_iff.mp q3).1⟩, vk_OFof q1 (va_eqt (hF _ (List.mem_of_getElem? hw.2.1))) hA, vk_OFof q1 ht hA, hT⟩
theorem kx_arC {args : Array Value} {s : State} {ty : FieldType} (h : (Cond.arrayClass ty).before args s = true) (hty : ∀ C, ty ≠ .object C) : ∃ a : ClassId, ArrOfT s a ty ∧ va_RA s a ty := by
  obtain ⟨cA, kA, comp, h1, h2, h3⟩ := Cond.arrayClass_spec h
  refine ⟨cA, fun n z => ⟨fun k h => (by cases h), kA, h2, comp, h3⟩, ?_⟩
  cases ty <;> first | exact absurd rfl (hty _) | exact h1
theorem kx_arO {args : Array Value} {s : State} {C : String} (h : (Cond.arrayOver (.object C)).before args s = true) : ∃ a : ClassId, ArrOfT s a (.object C) ∧ va_RA s a (.object C) := by
  obtain ⟨comp, cA, kA, f1, -, f2, f3, f4⟩ := Cond.arrayOver_spec h
  exact ⟨cA, fun n z => ⟨fun k h => (by cases h), kA, f2, comp, f3⟩, kA, comp, f2, f3, f1, f4⟩
theorem kx_arr_at {args : Array Value} {s : State} (hts : ∀ w ∈ lw_tbl, w.before args s = true) (t : Nat) : ∃ a : ClassId, t ∈ kx_ks → ArrOfT s a (kx_aty t) ∧ va_RA s a (kx_aty t) := by
  by_cases ht : t ∈ kx_ks
  · have ht2 : t = 101 ∨ t = 102 ∨ t = 103 ∨ t = 104 ∨ t = 105 ∨ t = 110 ∨ t = 111 ∨ t = 112 ∨ t = 113 := by simpa [kx_ks] using ht
    rcases ht2 with rfl | rfl | rfl | rfl | rfl | rfl | rfl | rfl | rfl
    · obtain ⟨a, h⟩ := kx_arC (hts _ kx_ac_101) (fun C h => by cases h); exact ⟨a, fun _ => h⟩
    · obtain ⟨a, h⟩ := kx_arC (hts _ kx_ac_102) (fun C h => by cases h); exact ⟨a, fun _ => h⟩
    · obtain ⟨a, h⟩ := kx_arC (hts _ kx_ac_103) (fun C h => by cases h); exact ⟨a, fun _ => h⟩
    · obtain ⟨a, h⟩ := kx_arC (hts _ kx_ac_104) (fun C h => by cases h); exact ⟨a, fun _ => h⟩
    · obtain ⟨a, h⟩ := kx_arC (hts _ kx_ac_105) (fun C h => by cases h); exact ⟨a, fun _ => h⟩
    · obtain ⟨a, h⟩ := kx_arO (hts _ kx_ac_110); exact ⟨a, fun _ => h⟩
    · obtain ⟨a, h⟩ := kx_arO (hts _ kx_ac_111); exact ⟨a, fun _ => h⟩
    · obtain ⟨a, h⟩ := kx_arO (hts _ kx_ac_112); exact ⟨a, fun _ => h⟩
    · obtain ⟨a, h⟩ := kx_arO (hts _ kx_ac_113); exact ⟨a, fun _ => h⟩
  · exact ⟨0, fun h => absurd h ht⟩
theorem kx_tb_at {args : Array Value} {s : State} (hts : ∀ w ∈ lw_tbl, w.before args s = true) : ∀ w ∈ kx_tb, w.before args s = true := by
  intro w hw
  rcases List.mem_append.mp hw with h | h
  · obtain ⟨y, hy, rfl⟩ := List.mem_map.mp h
    obtain ⟨hc, hpr, hin⟩ := kx_wpp y hy
    obtain ⟨c, r0, m0, hSB, -, hnm0, -, k0, hk0, hni⟩ := Cond.selects_spec (hts _ kx_wpz)
    obtain ⟨mk, methM, hnamed, hmethM, -, -⟩ := Cond.instanceMethod_spec (hts _ hin)
    have hfound : s.methodFound? y.cls y.name y.desc = some mk := State.methodFound?_of_named hnamed (by rw [hc]; exact ⟨by decide, by decide⟩)
    have hcls : m0.cls = mk.cls := by
      have h1 := findClass_of_methodNamed hnm0
      have h2 := findClass_of_methodNamed hnamed
      rw [hc] at h2
      exact Option.some.inj (h1.symm.trans h2)
    have hsel : selectMethod {} s.vm c mk = .method mk := selectMethod_private hmethM (Cond.privateMethod_at (hts _ hpr) mk methM hnamed hmethM)
    rw [hcls] at hk0
    simp only [Cond.before, Cond.holds, Cond.value, hSB, hfound, hnamed, hsel, hk0]
    simp
    exact hni
  · exact hts w (List.mem_filter.mp h).1
def kx_M0 (L : Nat) (xs : Nat → Int32) : kx_M := (fun _ => (99, 0), fun _ _ => .null, 0, 0, (L, xs))
theorem kx_at {p : Program} {s : State} {m : MethodId} {meth : Method} {c : Code} {b L : Nat} {xs : Nat → Int32} (C0 : lw_At p s m meth c b L xs) : ∃ (D : va_G) (cst : Nat → Value) (cA : Nat → ClassId), kx_G D cst s.heap.size cA s.heap L xs s ∧ cst 1 = .ref b := by
  obtain ⟨-, -, -, -, -, hts, hX, hb, -, hgn⟩ := C0
  have hn : narrow_1.before #[Value.ref b] s = true := by
    rw [Cond.before_and, Bool.and_eq_true] at hgn
    exact hgn.2
  have hF : ∀ w ∈ kx_F, w.before #[Value.ref b] s = true := flat_of_before narrow_1 hn
  have hA : ∀ a : Nat, a < s.heap.size → ¬ s.heap.size ≤ a := fun a h => Nat.not_le.mpr h
  have hK : ∀ c : Nat, ∃ d : ClassId × (Nat → Nat), c < 12 → u_Kn s (kx_nm c) (fun k => kx_Tf c k) (kx_cn c) d.1 d.2 := by
    intro c
    by_cases hc : c < 12
    · obtain ⟨n, hn⟩ := kx_ins c hc
      obtain ⟨cC, iS, h⟩ := u_known (C := kx_nm c) (T := fun k => kx_Tf c k) (N := kx_cn c) hts (kx_wu c hc) (hts _ hn)
      exact ⟨(cC, iS), fun _ => h⟩
    · exact ⟨(0, fun _ => 0), fun h => absurd h hc⟩
  obtain ⟨fK, hfK⟩ := Classical.axiomOfChoice hK
  obtain ⟨fA, hfA⟩ := Classical.axiomOfChoice (kx_arr_at hts)
  have hT : ∀ c : Nat, ∃ t : Nat, 2 ≤ c → c < 9 → (kx_tm c).eval #[Value.ref b] s none [] s = some (.ref t) ∧ va_T (kx_aty (kx_csh c).1) t (kx_csh c).2 (fun k => kx_cdt c k) (fun q => s.heap.size ≤ q) s s.heap := by
    intro c
    by_cases hc : 2 ≤ c ∧ c < 9
    · obtain ⟨k, hk⟩ := kx_tw c hc.1 hc.2
      have hlen : (kx_ca.getD c (99, [])).2.length < 2 ^ 31 := by
        have : ∀ c : Nat, c < 9 → (kx_ca.getD c (99, [])).2.length < 2 ^ 31 := by decide
        exact this c hc.2
      obtain ⟨t, h1, h2⟩ := kx_aw_T hF hk hlen hA
      refine ⟨t, fun _ _ => ⟨h1, ?_⟩⟩
      have e1 : (kx_csh c).2 = (kx_ca.getD c (99, [])).2.length := by unfold kx_csh; rw [if_pos (by omega)]
      have e2 : (fun k => kx_cdt c k) = fun j => Value.int ((kx_ca.getD c (99, [])).2.getD j 0) := by funext j; unfold kx_cdt; rw [if_pos (by omega)]
      rw [e1, e2]
      exact h2
    · exact ⟨0, fun h1 h2 => absurd ⟨h1, h2⟩ hc⟩
  obtain ⟨fT, hfT⟩ := Classical.axiomOfChoice hT
  have hS : ∀ i : Nat, ∃ q : Nat × Nat, i < 25 → ∃ own n tx, kx_srs[i]? = some (own, n, tx, 10 + 2 * i) ∧ Cond.stringRef own n tx ∈ lw_tbl ∧ (Term.string own n).eval #[Value.ref b] s none [] s = some (.ref q.1) ∧ va_O "java/lang/String" q.1 (fun q => s.heap.size ≤ q) s s.heap ∧ va_OF "java/lang/String" "coder" "B" (.int 0) q.1 (fun q => s.heap.size ≤ q) s s.heap ∧ va_OF "java/lang/String" "value" "[B" (.ref q.2) q.1 (fun q => s.heap.size ≤ q) s s.heap ∧ va_T .byte q.2 (kx_cs.getD i []).length (fun j => .int ((kx_cs.getD i []).getD j 0)) (fun q => s.heap.size ≤ q) s s.heap := by
    intro i
    by_cases hi : i < 25
    · obtain ⟨own, n, tx, k, h1, h2, h3⟩ := kx_sP_all i hi
      have hlen : (kx_cs.getD i []).length < 2 ^ 31 := by
        have : ∀ c : Nat, c < 25 → (kx_cs.getD c []).length < 2 ^ 31 := by decide
        exact this i hi
      obtain ⟨q, g1, g2⟩ := kx_sq_S hF h2 hlen hA
      exact ⟨q, fun _ => ⟨own, n, tx, h1, h3, g1, g2⟩⟩
    · exact ⟨(0, 0), fun h => absurd h hi⟩
  obtain ⟨fS, hfS⟩ := Classical.axiomOfChoice hS
  have hq0 : ∃ v0 : Value, (v0 = .null ∨ ∃ t, v0 = .ref t) ∧ va_Z "jdk/internal/util/Preconditions" "SIOOBE_FORMATTER" "Ljava/util/function/BiFunction;" v0 (fun q => s.heap.size ≤ q) s s.heap := by
    rcases va_Zqof (hts _ kx_tl_q.1) (hts _ kx_tl_q.2) (hF _ (List.mem_of_getElem? kx_n_q)) hA with h | ⟨t, h⟩
    · exact ⟨_, Or.inl rfl, h⟩
    · exact ⟨_, Or.inr ⟨t, rfl⟩, h⟩
  obtain ⟨v0, hv0, hZ0⟩ := hq0
  have hcs : ∃ cst : Nat → Value, cst 0 = v0 ∧ cst 1 = .ref b ∧ (∀ c, 2 ≤ c → c < 9 → cst c = .ref (fT c)) ∧ (∀ i, cst (10 + 2 * i) = .ref (fS i).1) ∧ (∀ i, cst (11 + 2 * i) = .ref (fS i).2) ∧ ∀ c, cst c = .null ∨ ∃ t, cst c = .ref t := by
    refine ⟨fun c => if c = 0 then v0 else if c = 1 then .ref b else if c < 9 then .ref (fT c) else if c % 2 = 0 then .ref (fS ((c - 10) / 2)).1 else .ref (fS ((c - 11) / 2)).2, rfl, rfl, fun c h1 h2 => ?_, fun i => ?_, fun i => ?_, fun c => ?_⟩
    · dsimp only
      rw [if_neg (by omega), if_neg (by omega), if_pos h2]
    · dsimp only
      rw [if_neg (by omega), if_neg (by omega), if_neg (by omega), if_pos (by omega), show (10 + 2 * i - 10) / 2 = i by omega]
    · dsimp only
      rw [if_neg (by omega), if_neg (by omega), if_neg (by omega), if_neg (by omega), show (11 + 2 * i - 11) / 2 = i by omega]
    · dsimp only
      split
      · exact hv0
      · split
        · exact Or.inr ⟨_, rfl⟩
        · split
          · exact Or.inr ⟨_, rfl⟩
          · split <;> exact Or.inr ⟨_, rfl⟩
  obtain ⟨cst, c0, c1, cT, cS1, cS2, cn⟩ := hcs
  have hcs25 : kx_cs.length = 25 := rfl
  have hca9 : kx_ca.length = 9 := rfl
  refine ⟨(fun c => (fK c).1, fun c => (fK c).2), cst, fA, ⟨fun c hc => hfK c hc, fun t ht => hfA t ht, cn, ⟨b, c1, hb, hX⟩, ?_, ?_, ?_, ?_, fun e he => va_Nw.of rfl (hts _ (kx_nl e he)), ?_, rfl⟩, c1⟩
  · intro c h2 hk
    by_cases h9 : c < 9
    · exact ⟨_, cT c h2 h9, (hfT c h2 h9).2⟩
    · have hk2 := hk
      unfold kx_csh at hk2
      by_cases h10 : c < 10
      · have : c = 9 := by omega
        subst this
        exact absurd hk (by decide)
      · rw [if_neg h10] at hk2
        by_cases hb2 : 10 + 2 * kx_cs.length ≤ c
        · rw [if_pos hb2] at hk2
          exact absurd hk2 (by decide)
        · rw [if_neg hb2] at hk2
          by_cases he : c % 2 = 0
          · rw [if_pos he] at hk2
            exact absurd hk2 (by decide)
          · obtain ⟨own, n, tx, g1, g2, g3, g4, g5, g6, g7⟩ := hfS ((c - 11) / 2) (by omega)
            have e0 : c = 11 + 2 * ((c - 11) / 2) := by omega
            have e1 : kx_csh c = (103, (kx_cs.getD ((c - 11) / 2) []).length) := by unfold kx_csh; rw [if_neg h10, if_neg hb2, if_neg he]
            have e2 : (fun k => kx_cdt c k) = fun j => Value.int ((kx_cs.getD ((c - 11) / 2) []).getD j 0) := by funext j; unfold kx_cdt; rw [if_neg h10, if_neg he]
            refine ⟨(fS ((c - 11) / 2)).2, ?_, ?_⟩
            · have := cS2 ((c - 11) / 2)
              rwa [← e0] at this
            · rw [e1, e2]
              exact g7
  · intro c h2 hk
    have hk2 := hk
    unfold kx_csh at hk2
    by_cases h10 : c < 10
    · exfalso
      have : ∀ c : Nat, c < 10 → (kx_csh c).1 ≠ 12 := by decide
      exact this c h10 hk
    · rw [if_neg h10] at hk2
      by_cases hb2 : 10 + 2 * kx_cs.length ≤ c
      · rw [if_pos hb2] at hk2
        exact absurd hk2 (by decide)
      · rw [if_neg hb2] at hk2
        by_cases he : c % 2 = 0
        · obtain ⟨own, n, tx, g1, g2, g3, g4, g5, g6, g7⟩ := hfS ((c - 10) / 2) (by omega)
          have e0 : c = 10 + 2 * ((c - 10) / 2) := by omega
          have e3 : c + 1 = 11 + 2 * ((c - 10) / 2) := by omega
          have e1 := cS1 ((c - 10) / 2)
          have e2 := cS2 ((c - 10) / 2)
          rw [← e0] at e1
          rw [← e3] at e2
          exact ⟨_, e1, g4, g5, by rw [e2]; exact g6⟩
        · rw [if_neg he] at hk2
          exact absurd (show (103 : Nat) = 12 from hk2) (by decide)
  · intro e he
    have hz : ∀ (c : Nat) (C n d : String), 2 ≤ c → c < 9 → kx_tm c = Term.static C n d → Cond.laysStatic C n d ∈ lw_tbl → Cond.initialized C ∈ lw_tbl → va_Z C n d (kx_v cst s.heap.size (.retAddr c)) (fun q => s.heap.size ≤ q) s s.heap := by
      intro c C n d h1 h2 h3 h4 h5
      have h6 := (hfT c h1 h2).1
      rw [h3] at h6
      show va_Z C n d (cst c) _ _ _
      rw [cT c h1 h2]
      exact va_Zof (hts _ h4) (hts _ h5) h6 hA
    unfold kx_sts at he
    simp only [List.mem_cons, List.not_mem_nil, or_false] at he
    rcases he with rfl | rfl | rfl | rfl | rfl | rfl | rfl | rfl | rfl
    · exact hz 2 _ _ _ (by decide) (by decide) rfl kx_tl_2.1 kx_tl_2.2
    · exact hz 3 _ _ _ (by decide) (by decide) rfl kx_tl_3.1 kx_tl_3.2
    · exact hz 4 _ _ _ (by decide) (by decide) rfl kx_tl_4.1 kx_tl_4.2
    · exact hz 5 _ _ _ (by decide) (by decide) rfl kx_tl_5.1 kx_tl_5.2
    · exact hz 6 _ _ _ (by decide) (by decide) rfl kx_tl_6.1 kx_tl_6.2
    · exact hz 7 _ _ _ (by decide) (by decide) rfl kx_tl_7.1 kx_tl_7.2
    · exact hz 8 _ _ _ (by decide) (by decide) rfl kx_tl_8.1 kx_tl_8.2
    · exact va_Zof (hts _ kx_tl_c.1) (hts _ kx_tl_c.2) (va_eqi (hF _ (List.mem_of_getElem? kx_n_c))) hA
    · show va_Z _ _ _ (cst 0) _ _ _
      rw [c0]
      exact hZ0
  · intro e he
    obtain ⟨i, hi⟩ := List.mem_iff_getElem?.mp he
    have hlt : i < 25 := (List.getElem?_eq_some_iff.mp hi).1
    obtain ⟨own, n, tx, g1, g2, g3, -⟩ := hfS i hlt
    cases hi.symm.trans g1
    exact ⟨_, cS1 i, vk_R.of (hts _ g2) g3⟩
  · intro C hC
    simp only [kx_ao, List.mem_cons, List.not_mem_nil, or_false] at hC
    rcases hC with rfl | rfl | rfl | rfl
    · exact va_AO.of (hts _ kx_ac_110)
    · exact va_AO.of (hts _ kx_ac_111)
    · exact va_AO.of (hts _ kx_ac_112)
    · exact va_AO.of (hts _ kx_ac_113)
theorem kx_Rep0 {D : va_G} {cst : Nat → Value} {cA : Nat → ClassId} {H : Heap} {L : Nat} {xs : Nat → Int32} : kx_Rep D cst H.size cA H L xs (kx_M0 L xs) H :=
  ⟨rfl, fun _ _ => rfl, fun a ha => absurd ha (Nat.not_lt_zero a), fun _ _ => rfl, rfl, rfl⟩
theorem kx_lw_end {below : List Frame} {b : Nat} {s t : State} {D : va_G} {cst : Nat → Value} {cA : Nat → ClassId} {L : Nat} {xs : Nat → Int32} {M' : kx_M} (hc : kx_nx M' ≤ 600000 ∧ kx_sl M' ≤ 7302250) (h : kx_MQ D cst s.heap.size cA s.heap L xs below #[Value.ref b] s 0 0 (some (.int 1)) M' t) : lw_Z below #[Value.ref b] s t := by
  obtain ⟨o, h1, h2, ⟨h3, -⟩, Lc, ⟨hv, hW, hs⟩, hL⟩ := h
  refine ⟨o, h1, h2, h3, lw_closed (d0 := s.drawn) (Drawn.sameBut.refl s.drawn lw_cs) hv hW ?_⟩
  obtain ⟨g1, g2, g3, g4, g5, g6⟩ := hs
  refine ⟨g1, g2, Nat.le_trans g3 (Nat.add_le_add_left (Nat.le_trans (Nat.sub_le _ _) hc.1) _), g4, Nat.le_trans g5 (Nat.le_trans (Nat.sub_le _ _) hc.2), fun a c ha => ?_⟩
  obtain ⟨c', k1, k2, k3, k4⟩ := g6 a c ha
  refine ⟨c', k1, k2, k3, fun i _ => k4 i (fun z => ?_)⟩
  have h7 := hL _ z
  have h8 : a < s.heap.size := (Array.getElem?_eq_some_iff.mp ha).1
  exact absurd h7 (Nat.not_le.mpr h8)
/-- the claim's walk out of a run of the engine -/
theorem kx_start {p : Program} {e : Env} {s : State} {m : MethodId} {below : List Frame} {meth : Method} {c : Code} (l : Launch) {b L : Nat} {xs : Nat → Int32} (C0 : lw_At p s m meth c b L xs)
    {n : Nat} {M' : kx_M} (hr : kx_run n 0 (kx_en 0 [.retAddr 1] (kx_M0 L xs)) = some (some (.int 1), M')) (hc : kx_nx M' ≤ 600000 ∧ kx_sl M' ≤ 7302250) : W p l e room_1 s m #[Value.ref b] below meth c s.heap [] 0 0 (lw_Z below #[Value.ref b] s) (entryFrame m ([Value.ref b] : List Value).toArray 8) := by
  obtain ⟨D, cst, cA, hG, c1⟩ := kx_at C0
  have C1 := C0
  obtain ⟨g1, g2, g3, g4, g5, g6, g7, g8, g9, g10⟩ := C0
  have X : kx_Cx D cst s.heap.size cA s.heap L xs p room_1 s m #[Value.ref b] meth c kx_m0 := ⟨g1, g2, g4, g5, kx_tb_at g6, hG, g3, g9, fun h => absurd h (by decide), kx_wm_ok (i := 0) rfl, Nat.le_refl _, by decide, by decide⟩
  obtain ⟨-, sim⟩ := kx_sim (D := D) (cst := cst) (sz := s.heap.size) (cA := cA) (H0 := s.heap) (sL := L) (sX := xs) (l := l) n 0 _ _ _ _ _ _ hr
  have hw := sim kx_m0 rfl (e := e) (below := below) X (n0 := 0) (s0 := 0) ⟨Nat.zero_le _, Nat.zero_le _⟩ (by exact hc) s.heap _ [] kx_Rep0 (kx_ent_LR X.w3 (r := kx_m0) (As := [.retAddr 1]) (by decide)) (fun q hq => by cases hq)
  have hw2 : W p l e room_1 s m #[Value.ref b] below meth c s.heap [] 0 0 (kx_MQ D cst s.heap.size cA s.heap L xs below #[Value.ref b] s 0 0 (some (.int 1)) M') (entryFrame m ([Value.ref b] : List Value).toArray 8) := by
    refine W.eq ?_ hw
    have e1 : ([Value.retAddr 1] : List Value).map (kx_v cst s.heap.size) = [Value.ref b] := by
      show [cst 1] = _
      rw [c1]
    rw [e1]
    exact lg_entry_eq m [Value.ref b] 8
  intro T hT X'
  obtain ⟨t, a1, b1⟩ := hw2 T hT X'
  exact ⟨t, a1, kx_lw_end hc b1⟩

