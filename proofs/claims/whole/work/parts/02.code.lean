/-! The pure tables: decoded code, links, fields; written by wip/whole/emit.py out of the printed texts. -/
abbrev kx_I : Type := Instr × Nat
def kx_ix (T : List (List (Option kx_I))) (n : Nat) : Option kx_I := match T[n / 16]? with
  | some r => match r[n % 16]? with
    | some (some q) => some q
    | _ => none
  | none => none
def kx_find {α : Type} : List (Nat × α) → Nat → Option α
  | [], _ => none
  | (k, r) :: t, n => bif Nat.beq n k then some r else kx_find t n
def kx_look {α : Type} (T : List (List (Nat × α))) (k n : Nat) : Option α := match T[k]? with
  | some l => kx_find l n
  | none => none
def kx_on : List String := ["KiteWarLaw", "KiteWar", "KiteWar$Field", "KiteWar$Flight", "KiteWar$History", "KiteWar$Kite", "KiteWar$Lines", "KiteWar$Order", "KiteWar$Orders", "KiteWar$State", "KiteWar$Tower", "KiteWar$Umpire", "KiteWarModel", "java/lang/AbstractStringBuilder", "java/lang/Integer", "java/lang/String", "java/lang/StringBuilder", "java/lang/StringLatin1", "java/util/Arrays", "jdk/internal/util/ArraysSupport", "jdk/internal/util/Preconditions", "java/lang/Math"]
def kx_T0 : u_T := fun k => match k with
  | 0 => ("KiteWar$Flight", "direction", "I", false)
  | 1 => ("KiteWar$Flight", "length", "I", false)
  | _ => ("KiteWar$Flight", "isDone", "Z", false)
def kx_y0 : Nat → FieldType := fun k => match k with
  | 0 => .int
  | 1 => .int
  | _ => .boolean
def kx_T1 : u_T := fun k => match k with
  | 0 => ("KiteWar$History", "states", "[LKiteWar$State;", true)
  | 1 => ("KiteWar$History", "next", "I", false)
  | _ => ("KiteWar$History", "count", "I", false)
def kx_y1 : Nat → FieldType := fun k => match k with
  | 0 => .array (.object "KiteWar$State")
  | 1 => .int
  | _ => .int
def kx_T2 : u_T := fun k => match k with
  | 0 => ("KiteWar$Kite", "side", "I", false)
  | 1 => ("KiteWar$Kite", "tower", "I", false)
  | 2 => ("KiteWar$Kite", "home", "I", false)
  | 3 => ("KiteWar$Kite", "reach", "I", false)
  | 4 => ("KiteWar$Kite", "how", "I", false)
  | 5 => ("KiteWar$Kite", "direction", "I", false)
  | 6 => ("KiteWar$Kite", "length", "I", false)
  | 7 => ("KiteWar$Kite", "hexagon", "I", false)
  | 8 => ("KiteWar$Kite", "strength", "I", false)
  | 9 => ("KiteWar$Kite", "cuts", "I", false)
  | 10 => ("KiteWar$Kite", "linesCut", "I", false)
  | 11 => ("KiteWar$Kite", "move", "I", false)
  | _ => ("KiteWar$Kite", "moveDirection", "I", false)
def kx_y2 : Nat → FieldType := fun k => match k with
  | 0 => .int
  | 1 => .int
  | 2 => .int
  | 3 => .int
  | 4 => .int
  | 5 => .int
  | 6 => .int
  | 7 => .int
  | 8 => .int
  | 9 => .int
  | 10 => .int
  | 11 => .int
  | _ => .int
def kx_T3 : u_T := fun k => match k with
  | 0 => ("KiteWar$Lines", "covered", "[J", true)
  | 1 => ("KiteWar$Lines", "flight", "LKiteWar$Flight;", true)
  | _ => ("KiteWar$Lines", "told", "[I", true)
def kx_y3 : Nat → FieldType := fun k => match k with
  | 0 => .array (.long)
  | 1 => .object "KiteWar$Flight"
  | _ => .array (.int)
def kx_T4 : u_T := fun k => match k with
  | 0 => ("KiteWar$Order", "kind", "I", false)
  | 1 => ("KiteWar$Order", "first", "I", false)
  | _ => ("KiteWar$Order", "second", "I", false)
def kx_y4 : Nat → FieldType := fun k => match k with
  | 0 => .int
  | 1 => .int
  | _ => .int
def kx_T5 : u_T := fun k => match k with
  | 0 => ("KiteWar$Orders", "text", "Ljava/lang/StringBuilder;", true)
  | 1 => ("KiteWar$Orders", "all", "[LKiteWar$Order;", true)
  | 2 => ("KiteWar$Orders", "count", "I", false)
  | 3 => ("KiteWar$Orders", "at", "I", false)
  | _ => ("KiteWar$Orders", "isWrong", "Z", false)
def kx_y5 : Nat → FieldType := fun k => match k with
  | 0 => .object "java/lang/StringBuilder"
  | 1 => .array (.object "KiteWar$Order")
  | 2 => .int
  | 3 => .int
  | _ => .boolean
def kx_T6 : u_T := fun k => match k with
  | 0 => ("KiteWar$State", "turnNumber", "I", false)
  | 1 => ("KiteWar$State", "towers", "[LKiteWar$Tower;", true)
  | 2 => ("KiteWar$State", "towerCount", "I", false)
  | 3 => ("KiteWar$State", "kites", "[LKiteWar$Kite;", true)
  | 4 => ("KiteWar$State", "kiteCount", "I", false)
  | 5 => ("KiteWar$State", "windDirections", "[I", true)
  | 6 => ("KiteWar$State", "windForces", "[I", true)
  | 7 => ("KiteWar$State", "windCount", "I", false)
  | 8 => ("KiteWar$State", "points", "[I", true)
  | 9 => ("KiteWar$State", "cuts", "I", false)
  | 10 => ("KiteWar$State", "strainCuts", "I", false)
  | 11 => ("KiteWar$State", "takenByOwn", "I", false)
  | 12 => ("KiteWar$State", "takenByOther", "I", false)
  | _ => ("KiteWar$State", "movesNotDone", "I", false)
def kx_y6 : Nat → FieldType := fun k => match k with
  | 0 => .int
  | 1 => .array (.object "KiteWar$Tower")
  | 2 => .int
  | 3 => .array (.object "KiteWar$Kite")
  | 4 => .int
  | 5 => .array (.int)
  | 6 => .array (.int)
  | 7 => .int
  | 8 => .array (.int)
  | 9 => .int
  | 10 => .int
  | 11 => .int
  | 12 => .int
  | _ => .int
def kx_T7 : u_T := fun k => match k with
  | 0 => ("KiteWar$Tower", "side", "I", false)
  | 1 => ("KiteWar$Tower", "hexagon", "I", false)
  | 2 => ("KiteWar$Tower", "reach", "I", false)
  | _ => ("KiteWar$Tower", "taken", "I", false)
def kx_y7 : Nat → FieldType := fun k => match k with
  | 0 => .int
  | 1 => .int
  | 2 => .int
  | _ => .int
def kx_T8 : u_T := fun k => match k with
  | 0 => ("KiteWar$Umpire", "lines", "LKiteWar$Lines;", true)
  | 1 => ("KiteWar$Umpire", "flight", "LKiteWar$Flight;", true)
  | 2 => ("KiteWar$Umpire", "isCut", "[Z", true)
  | _ => ("KiteWar$Umpire", "cutByIt", "[I", true)
def kx_y8 : Nat → FieldType := fun k => match k with
  | 0 => .object "KiteWar$Lines"
  | 1 => .object "KiteWar$Flight"
  | 2 => .array (.boolean)
  | _ => .array (.int)
def kx_T9 : u_T := fun k => match k with
  | 0 => ("KiteWar", "now", "LKiteWar$State;", true)
  | 1 => ("KiteWar", "before", "LKiteWar$State;", true)
  | 2 => ("KiteWar", "saved", "LKiteWar$State;", true)
  | 3 => ("KiteWar", "hasSaved", "Z", false)
  | 4 => ("KiteWar", "history", "LKiteWar$History;", true)
  | 5 => ("KiteWar", "umpire", "LKiteWar$Umpire;", true)
  | 6 => ("KiteWar", "lines", "LKiteWar$Lines;", true)
  | 7 => ("KiteWar", "orders", "LKiteWar$Orders;", true)
  | 8 => ("KiteWar", "line", "Ljava/lang/StringBuilder;", true)
  | 9 => ("KiteWar", "latestReason", "I", false)
  | _ => ("KiteWar", "latestDetail", "I", false)
def kx_y9 : Nat → FieldType := fun k => match k with
  | 0 => .object "KiteWar$State"
  | 1 => .object "KiteWar$State"
  | 2 => .object "KiteWar$State"
  | 3 => .boolean
  | 4 => .object "KiteWar$History"
  | 5 => .object "KiteWar$Umpire"
  | 6 => .object "KiteWar$Lines"
  | 7 => .object "KiteWar$Orders"
  | 8 => .object "java/lang/StringBuilder"
  | 9 => .int
  | _ => .int
def kx_T10 : u_T := fun k => match k with
  | 0 => ("KiteWarModel", "g", "[I", true)
  | 1 => ("KiteWarModel", "kept", "[I", true)
  | 2 => ("KiteWarModel", "saved", "[I", true)
  | 3 => ("KiteWarModel", "before", "[I", true)
  | 4 => ("KiteWarModel", "spare", "[I", true)
  | 5 => ("KiteWarModel", "isSaved", "Z", false)
  | 6 => ("KiteWarModel", "changes", "I", false)
  | 7 => ("KiteWarModel", "isWithin", "Z", false)
  | 8 => ("KiteWarModel", "why", "I", false)
  | 9 => ("KiteWarModel", "detail", "I", false)
  | 10 => ("KiteWarModel", "input", "[I", true)
  | 11 => ("KiteWarModel", "length", "I", false)
  | 12 => ("KiteWarModel", "signs", "[C", true)
  | 13 => ("KiteWarModel", "signMany", "I", false)
  | 14 => ("KiteWarModel", "reached", "[I", true)
  | 15 => ("KiteWarModel", "cutBy", "[I", true)
  | 16 => ("KiteWarModel", "isCut", "[I", true)
  | 17 => ("KiteWarModel", "toldPairs", "[I", true)
  | 18 => ("KiteWarModel", "at", "I", false)
  | 19 => ("KiteWarModel", "told", "[I", true)
  | _ => ("KiteWarModel", "toldMany", "I", false)
def kx_y10 : Nat → FieldType := fun k => match k with
  | 0 => .array (.int)
  | 1 => .array (.int)
  | 2 => .array (.int)
  | 3 => .array (.int)
  | 4 => .array (.int)
  | 5 => .boolean
  | 6 => .int
  | 7 => .boolean
  | 8 => .int
  | 9 => .int
  | 10 => .array (.int)
  | 11 => .int
  | 12 => .array (.char)
  | 13 => .int
  | 14 => .array (.int)
  | 15 => .array (.int)
  | 16 => .array (.int)
  | 17 => .array (.int)
  | 18 => .int
  | 19 => .array (.int)
  | _ => .int
def kx_T11 : u_T := fun k => match k with
  | 0 => ("java/lang/AbstractStringBuilder", "value", "[B", false)
  | 1 => ("java/lang/AbstractStringBuilder", "coder", "B", false)
  | 2 => ("java/lang/AbstractStringBuilder", "maybeLatin1", "Z", false)
  | _ => ("java/lang/AbstractStringBuilder", "count", "I", false)
def kx_y11 : Nat → FieldType := fun k => match k with
  | 0 => .array (.byte)
  | 1 => .byte
  | 2 => .boolean
  | _ => .int
abbrev kx_cl : List vw_C := [("KiteWar$Flight", kx_T0, 3), ("KiteWar$History", kx_T1, 3), ("KiteWar$Kite", kx_T2, 13), ("KiteWar$Lines", kx_T3, 3), ("KiteWar$Order", kx_T4, 3), ("KiteWar$Orders", kx_T5, 5), ("KiteWar$State", kx_T6, 14), ("KiteWar$Tower", kx_T7, 4), ("KiteWar$Umpire", kx_T8, 4), ("KiteWar", kx_T9, 11), ("KiteWarModel", kx_T10, 21), ("java/lang/StringBuilder", kx_T11, 4)]
/-- the slots of a new object that hold a number (0); the others hold null -/
def kx_nums : List (List Nat) := [[0, 1, 2], [1, 2], [0, 1, 2, 3, 4, 5, 6, 7, 8, 9, 10, 11, 12], [], [0, 1, 2], [2, 3, 4], [0, 2, 4, 7, 9, 10, 11, 12, 13], [0, 1, 2, 3], [], [3, 9, 10], [5, 6, 7, 8, 9, 11, 13, 18, 20], [1, 2, 3]]
def kx_fd (c k : Nat) : Value := if k ∈ kx_nums.getD c [] then .int 0 else .null
def kx_cn (c : Nat) : Nat := ([3, 3, 13, 3, 3, 5, 14, 4, 4, 11, 21, 4] : List Nat).getD c 0
def kx_fldT : List (List (Nat × (Nat × Nat × Nat))) := [[],
  [(10, (9, 0, 4)), (16, (9, 1, 4)), (19, (9, 2, 4)), (22, (9, 3, 1)), (29, (9, 4, 4)), (36, (9, 6, 4)), (43, (9, 5, 4)), (50, (9, 7, 4)), (57, (9, 8, 4)), (61, (9, 9, 0)), (65, (9, 10, 0)), (105, (6, 7, 0)), (108, (6, 0, 0)), (120, (6, 1, 5)), (124, (7, 0, 0)), (129, (7, 1, 0)), (132, (7, 2, 0)), (141, (7, 3, 0)), (147, (6, 3, 5)), (151, (2, 0, 0)), (154, (2, 1, 0)), (157, (2, 4, 0)), (160, (2, 5, 0)), (163, (2, 6, 0)), (166, (2, 7, 0)), (167, (2, 8, 0)), (170, (2, 9, 0)), (173, (2, 10, 0)), (188, (2, 11, 0)), (191, (2, 12, 0)), (200, (6, 4, 0)), (225, (6, 2, 0)), (228, (5, 0, 5)), (245, (5, 4, 1)), (248, (5, 3, 0)), (251, (5, 2, 0)), (254, (5, 1, 5)), (291, (6, 8, 5)), (294, (6, 9, 0)), (295, (6, 10, 0)), (298, (6, 11, 0)), (301, (6, 12, 0)), (304, (6, 13, 0)), (307, (1, 2, 0)), (347, (4, 0, 0)), (352, (4, 1, 0)), (355, (4, 2, 0)), (376, (2, 2, 0)), (379, (2, 3, 0))],
  [],
  [(9, (2, 5, 0)), (15, (0, 0, 0)), (18, (2, 6, 0)), (21, (0, 1, 0)), (26, (2, 3, 0)), (29, (2, 2, 0)), (38, (0, 2, 1)), (42, (2, 11, 0)), (44, (2, 12, 0))],
  [(11, (1, 0, 4)), (18, (1, 1, 0)), (26, (1, 2, 0))],
  [(9, (2, 0, 0)), (15, (2, 1, 0)), (18, (2, 2, 0)), (21, (2, 3, 0)), (24, (2, 4, 0)), (27, (2, 5, 0)), (30, (2, 6, 0)), (33, (2, 7, 0)), (36, (2, 8, 0)), (39, (2, 9, 0)), (42, (2, 10, 0)), (45, (2, 11, 0)), (48, (2, 12, 0))],
  [(9, (3, 0, 4)), (18, (3, 1, 4)), (22, (3, 2, 4)), (26, (6, 4, 0)), (32, (6, 3, 5)), (36, (2, 2, 0)), (41, (2, 5, 0)), (44, (2, 6, 0)), (55, (0, 0, 0)), (56, (0, 1, 0)), (67, (2, 0, 0))],
  [],
  [(12, (5, 0, 4)), (20, (5, 1, 4)), (25, (5, 3, 0)), (29, (5, 4, 1)), (33, (5, 2, 0)), (51, (4, 0, 0)), (63, (4, 1, 0)), (66, (4, 2, 0))],
  [(11, (6, 1, 4)), (20, (6, 3, 4)), (25, (6, 5, 4)), (29, (6, 6, 4)), (32, (6, 8, 4)), (35, (6, 0, 0)), (39, (6, 2, 0)), (46, (6, 4, 0)), (52, (6, 7, 0)), (55, (6, 9, 0)), (58, (6, 10, 0)), (61, (6, 11, 0)), (64, (6, 12, 0)), (67, (6, 13, 0)), (70, (7, 0, 0)), (73, (7, 1, 0)), (76, (7, 2, 0)), (79, (2, 0, 0)), (80, (2, 1, 0)), (83, (2, 2, 0)), (86, (2, 3, 0)), (87, (2, 7, 0)), (88, (2, 8, 0)), (97, (2, 4, 0)), (100, (2, 11, 0))],
  [(7, (7, 0, 0)), (13, (7, 1, 0)), (16, (7, 2, 0)), (19, (7, 3, 0))],
  [(12, (8, 0, 4)), (21, (8, 1, 4)), (25, (8, 2, 4)), (29, (8, 3, 4)), (33, (6, 0, 0)), (46, (6, 9, 0)), (69, (6, 4, 0)), (72, (6, 3, 5)), (76, (2, 11, 0)), (85, (6, 13, 0)), (88, (0, 2, 1)), (92, (0, 0, 0)), (95, (0, 1, 0)), (105, (2, 4, 0)), (108, (2, 5, 0)), (109, (2, 8, 0)), (118, (2, 6, 0)), (122, (6, 10, 0)), (132, (2, 10, 0)), (135, (6, 8, 5)), (138, (2, 0, 0)), (141, (2, 7, 0)), (153, (6, 1, 5)), (161, (7, 3, 0)), (166, (7, 0, 0)), (167, (6, 11, 0)), (170, (6, 12, 0))],
  [(7, (10, 0, 4)), (13, (10, 1, 4)), (16, (10, 2, 4)), (19, (10, 3, 4)), (22, (10, 4, 4)), (25, (10, 10, 4)), (28, (10, 12, 4)), (32, (10, 14, 4)), (35, (10, 15, 4)), (38, (10, 16, 4)), (41, (10, 17, 4)), (44, (10, 19, 4)), (47, (10, 8, 0)), (51, (10, 9, 0)), (54, (10, 7, 1)), (58, (10, 6, 0)), (192, (10, 11, 0)), (195, (10, 18, 0)), (230, (10, 20, 0)), (259, (10, 13, 0)), (291, (10, 5, 1))],
  [(15, (11, 0, 3)), (22, (11, 1, 2)), (73, (11, 2, 1)), (79, (11, 3, 0))],
  [],
  [(9, (12, 0, 9)), (15, (12, 1, 9))],
  [],
  [],
  [],
  [],
  [],
  []]
def kx_staT : List (List (Nat × Value)) := [[],
  [(262, .retAddr 2)],
  [(11, .retAddr 3), (15, .retAddr 2), (18, .retAddr 4), (21, .retAddr 6), (24, .retAddr 5)],
  [],
  [],
  [],
  [],
  [],
  [],
  [],
  [],
  [],
  [],
  [(18, .int 1)],
  [(83, .retAddr 7), (87, .retAddr 8)],
  [(38, .int 1), (1053, .retAddr 0)],
  [],
  [],
  [],
  [],
  [],
  []]
def kx_calT : List (List (Nat × (Nat × Nat × Nat × Nat))) := [[(9, (5, 1, 0, 0)), (12, (5, 112, 0, 0)), (13, (3, 2, 2, 9)), (17, (3, 113, 2, 10)), (18, (3, 4, 2, 9)), (21, (3, 120, 2, 10)), (22, (3, 5, 2, 9)), (25, (3, 125, 2, 10)), (26, (3, 6, 3, 9)), (30, (3, 126, 3, 10)), (31, (3, 11, 2, 9)), (34, (3, 133, 2, 10)), (35, (3, 14, 2, 9)), (38, (3, 139, 2, 10)), (39, (3, 16, 1, 9)), (43, (3, 140, 1, 10)), (44, (3, 17, 2, 9)), (47, (3, 143, 2, 10)), (48, (3, 18, 2, 9)), (51, (3, 144, 2, 10)), (52, (3, 20, 3, 9)), (55, (3, 147, 3, 10)), (56, (3, 23, 1, 9)), (60, (3, 149, 1, 10)), (61, (3, 25, 2, 9)), (64, (3, 150, 2, 10)), (65, (3, 26, 1, 9)), (68, (3, 151, 1, 10)), (69, (3, 28, 0, 9)), (73, (3, 163, 0, 10)), (74, (3, 29, 0, 9)), (77, (3, 165, 0, 10)), (78, (3, 30, 2, 9)), (81, (3, 166, 2, 10)), (82, (3, 31, 1, 9)), (85, (3, 167, 1, 10)), (86, (3, 34, 2, 9)), (89, (3, 170, 2, 10)), (90, (3, 35, 1, 9)), (93, (3, 171, 1, 10)), (94, (3, 36, 0, 9)), (97, (3, 172, 0, 10)), (98, (3, 38, 1, 9)), (101, (3, 181, 1, 10)), (102, (3, 40, 1, 9)), (105, (3, 186, 1, 10)), (106, (3, 42, 1, 9)), (109, (3, 188, 1, 10)), (110, (3, 43, 1, 9)), (113, (3, 189, 1, 10)), (114, (3, 44, 1, 9)), (117, (3, 190, 1, 10)), (118, (3, 45, 0, 9)), (121, (3, 192, 0, 10)), (122, (3, 47, 0, 9)), (126, (3, 193, 0, 10)), (127, (3, 48, 0, 9)), (131, (3, 194, 0, 10)), (132, (3, 49, 0, 9)), (135, (3, 195, 0, 10)), (136, (3, 50, 0, 9)), (139, (3, 196, 0, 10)), (140, (3, 51, 0, 9)), (143, (3, 197, 0, 10))],
  [(1, (7, 0, 0, 0)), (9, (5, 87, 0, 0)), (28, (5, 60, 0, 0)), (35, (5, 69, 0, 0)), (42, (5, 103, 0, 0)), (49, (5, 79, 0, 0)), (56, (5, 218, 0, 0)), (68, (4, 52, 1, 0)), (74, (4, 3, 1, 0)), (77, (4, 53, 3, 0)), (81, (4, 54, 2, 0)), (85, (4, 55, 2, 0)), (88, (3, 88, 1, 6)), (92, (3, 7, 3, 9)), (95, (3, 10, 1, 9)), (99, (3, 12, 2, 9)), (102, (3, 15, 2, 9)), (111, (3, 95, 1, 6)), (114, (3, 96, 1, 6)), (117, (3, 13, 1, 9)), (135, (3, 92, 1, 6)), (138, (3, 97, 1, 6)), (144, (3, 19, 1, 9)), (176, (3, 21, 3, 9)), (179, (3, 24, 1, 9)), (182, (4, 8, 1, 0)), (185, (3, 9, 2, 9)), (194, (3, 27, 1, 9)), (197, (3, 73, 1, 3)), (203, (3, 72, 3, 3)), (207, (3, 74, 0, 3)), (210, (3, 75, 2, 3)), (214, (3, 70, 1, 3)), (217, (4, 32, 2, 0)), (221, (3, 33, 3, 9)), (231, (3, 219, 0, 11)), (234, (3, 220, 1, 11)), (238, (3, 80, 0, 5)), (241, (3, 222, 1, 11)), (258, (3, 37, 1, 9)), (266, (3, 39, 1, 9)), (269, (3, 223, 1, 11)), (272, (3, 41, 1, 9)), (278, (3, 224, 1, 11)), (281, (3, 221, 1, 11)), (285, (3, 100, 1, 6)), (288, (3, 98, 1, 6)), (308, (4, 46, 1, 0)), (312, (3, 62, 1, 1)), (315, (3, 63, 0, 1)), (318, (3, 61, 1, 1)), (321, (3, 89, 1, 6)), (324, (3, 90, 1, 6)), (327, (3, 91, 3, 6)), (330, (3, 93, 2, 6)), (333, (3, 94, 2, 6)), (336, (4, 22, 2, 0)), (340, (3, 66, 0, 2)), (343, (3, 104, 1, 8)), (358, (3, 76, 2, 3)), (361, (3, 99, 1, 6)), (364, (3, 77, 2, 3))],
  [(27, (4, 52, 1, 0)), (31, (22, 0, 0, 0)), (37, (20, 0, 0, 0)), (41, (4, 56, 1, 0)), (45, (4, 53, 3, 0))],
  [(3, (7, 0, 0, 0)), (22, (3, 59, 1, 0)), (32, (4, 53, 3, 0))],
  [(3, (7, 0, 0, 0)), (17, (5, 87, 0, 0)), (22, (3, 88, 1, 6)), (29, (21, 0, 0, 0))],
  [(3, (7, 0, 0, 0)), (51, (4, 53, 3, 0))],
  [(3, (7, 0, 0, 0)), (17, (6, 57, 0, 0)), (47, (4, 71, 3, 0)), (51, (3, 58, 1, 0)), (57, (4, 53, 3, 0)), (63, (3, 76, 2, 3))],
  [(1, (7, 0, 0, 0))],
  [(3, (7, 0, 0, 0)), (11, (5, 218, 0, 0)), (24, (6, 78, 0, 0)), (36, (3, 81, 1, 5)), (40, (3, 219, 0, 11)), (44, (3, 84, 1, 5)), (48, (3, 82, 0, 5)), (56, (3, 83, 1, 5)), (60, (3, 85, 0, 5)), (71, (3, 86, 1, 5)), (86, (3, 221, 1, 11)), (90, (3, 213, 0, 12)), (93, (3, 215, 1, 12))],
  [(3, (7, 0, 0, 0)), (17, (6, 101, 0, 0)), (24, (6, 64, 0, 0)), (42, (3, 102, 1, 7)), (49, (3, 65, 1, 2)), (91, (4, 230, 2, 0))],
  [(1, (7, 0, 0, 0))],
  [(3, (7, 0, 0, 0)), (11, (5, 69, 0, 0)), (20, (6, 57, 0, 0)), (39, (3, 96, 1, 6)), (43, (3, 95, 1, 6)), (49, (3, 105, 1, 8)), (53, (3, 106, 3, 8)), (57, (3, 107, 1, 8)), (60, (3, 108, 1, 8)), (63, (3, 109, 1, 8)), (66, (3, 110, 3, 8)), (81, (3, 58, 1, 0)), (98, (3, 67, 2, 2)), (102, (3, 66, 0, 2)), (112, (20, 0, 0, 0)), (119, (3, 68, 0, 2)), (125, (3, 70, 1, 3)), (128, (3, 72, 3, 3)), (144, (4, 53, 3, 0)), (150, (3, 89, 1, 6)), (157, (3, 111, 3, 8))],
  [(1, (7, 0, 0, 0)), (61, (4, 132, 4, 0)), (65, (4, 115, 3, 0)), (69, (4, 119, 1, 0)), (73, (4, 118, 1, 0)), (76, (4, 117, 1, 0)), (79, (4, 116, 2, 0)), (83, (4, 114, 1, 0)), (87, (4, 122, 1, 0)), (90, (4, 123, 1, 0)), (93, (4, 124, 2, 0)), (96, (4, 121, 2, 0)), (99, (3, 136, 2, 10)), (102, (3, 128, 2, 10)), (105, (3, 127, 1, 10)), (108, (3, 129, 2, 10)), (111, (3, 130, 1, 10)), (114, (3, 131, 1, 10)), (118, (3, 134, 1, 10)), (121, (3, 135, 2, 10)), (125, (3, 137, 3, 10)), (129, (3, 138, 1, 10)), (133, (3, 141, 1, 10)), (136, (3, 142, 1, 10)), (139, (3, 145, 1, 10)), (142, (3, 146, 1, 10)), (145, (3, 148, 1, 10)), (148, (4, 156, 3, 0)), (152, (3, 155, 3, 10)), (155, (3, 154, 1, 10)), (158, (3, 161, 2, 10)), (162, (3, 160, 2, 10)), (165, (3, 158, 1, 10)), (168, (3, 153, 0, 10)), (171, (3, 157, 0, 10)), (174, (3, 159, 0, 10)), (177, (3, 162, 1, 10)), (180, (3, 152, 0, 10)), (183, (3, 164, 0, 10)), (186, (3, 168, 2, 10)), (189, (3, 169, 2, 10)), (198, (3, 176, 0, 10)), (202, (3, 213, 0, 12)), (206, (3, 215, 1, 12)), (210, (3, 175, 1, 10)), (215, (3, 177, 1, 10)), (219, (3, 178, 1, 10)), (237, (3, 179, 1, 10)), (240, (3, 174, 0, 10)), (244, (3, 139, 2, 10)), (247, (3, 151, 1, 10)), (250, (3, 147, 3, 10)), (253, (3, 173, 0, 10)), (256, (3, 180, 1, 10)), (262, (3, 182, 1, 10)), (265, (3, 183, 1, 10)), (268, (3, 184, 1, 10)), (271, (3, 185, 1, 10)), (276, (3, 187, 1, 10)), (288, (3, 191, 1, 10))],
  [(3, (7, 0, 0, 0)), (32, (3, 213, 0, 12)), (40, (3, 214, 0, 12)), (83, (9, 203, 0, 11)), (100, (9, 201, 1, 11)), (104, (9, 202, 1, 11)), (108, (4, 227, 2, 0)), (114, (4, 228, 3, 0)), (138, (21, 0, 0, 0)), (144, (4, 212, 2, 0)), (191, (4, 225, 1, 0)), (208, (9, 208, 2, 11)), (245, (4, 210, 1, 0)), (248, (4, 211, 3, 0)), (397, (9, 209, 1, 11)), (399, (3, 217, 3, 12))],
  [],
  [(212, (10, 0, 0, 0)), (335, (3, 214, 0, 12)), (492, (3, 216, 0, 12)), (495, (4, 226, 2, 0)), (1059, (4, 229, 3, 0))],
  [(1, (5, 198, 1, 0)), (29, (8, 207, 1, 11)), (50, (8, 200, 1, 11)), (53, (8, 206, 1, 11)), (329, (8, 204, 1, 11)), (333, (8, 205, 1, 11)), (343, (8, 199, 0, 11))],
  [(9, (4, 212, 2, 0))],
  [(150, (10, 0, 0, 0)), (304, (21, 0, 0, 0))],
  [(194, (20, 0, 0, 0))],
  [],
  []]
def kx_clsT : List (List (Nat × (Nat × Nat))) := [[(7, (9, 0)), (10, (10, 0))],
  [(7, (6, 0)), (26, (1, 0)), (33, (3, 0)), (40, (8, 0)), (47, (5, 0)), (54, (11, 0))],
  [],
  [],
  [(9, (6, 112))],
  [],
  [(15, (0, 0))],
  [],
  [(9, (11, 0)), (18, (4, 113))],
  [(9, (7, 110)), (18, (2, 111))],
  [],
  [(9, (3, 0)), (18, (0, 0))],
  [],
  [],
  [],
  [],
  [],
  [],
  [],
  [],
  [],
  []]
def kx_conT : List (List (Nat × Value)) := [[],
  [(276, .retAddr 34), (368, .retAddr 26), (370, .retAddr 28), (372, .retAddr 30), (374, .retAddr 32)],
  [],
  [],
  [],
  [],
  [],
  [],
  [(54, .retAddr 10), (69, .retAddr 12), (74, .retAddr 14), (76, .retAddr 16), (78, .retAddr 18), (80, .retAddr 20), (82, .retAddr 22), (84, .retAddr 24)],
  [],
  [],
  [],
  [(213, .retAddr 40), (222, .retAddr 42), (224, .retAddr 44), (226, .retAddr 46), (228, .retAddr 48), (233, .retAddr 36), (235, .retAddr 38), (274, .retAddr 50), (280, .retAddr 52), (282, .retAddr 54), (284, .retAddr 56), (286, .retAddr 58)],
  [(39, .int (2147483647))],
  [],
  [],
  [],
  [],
  [],
  [(200, .int (2147483639))],
  [],
  []]
abbrev kx_R : Type := MethodName × ByteArray × Nat × Option FieldType × List (List (Option kx_I)) × Nat × Nat × Nat × List Nat
/-- KiteWarLaw.law([I)Z -/
def kx_t0 : List (List (Option kx_I)) := [[some (.new 7, 3), none, none, some (.dup, 1), some (.invokespecial 9, 3), none, none, some (.astore_n 1, 1), some (.new 10, 3), none, none, some (.dup, 1), some (.invokespecial 12, 3), none, none, some (.astore_n 2, 1)],
  [some (.iconst 0, 1), some (.istore_n 3, 1), some (.iload_n 3, 1), some (.aload_n 0, 1), some (.arraylength, 1), some (.iconst 4, 1), some (.isub, 1), some (.if_icmp .gt 1008, 3), none, none, some (.aload_n 0, 1), some (.iload_n 3, 1), some (.iaload, 1), some (.bipush 31, 2), none, some (.iand, 1)],
  [some (.tableswitch 993 0 30 #[140, 173, 206, 239, 282, 315, 348, 387, 420, 453, 496, 519, 552, 575, 588, 601, 634, 657, 690, 713, 726, 749, 772, 795, 834, 857, 870, 911, 954, 967, 980], 140), none, none, none, none, none, none, none, none, none, none, none, none, none, none, none],
  [none, none, none, none, none, none, none, none, none, none, none, none, none, none, none, none],
  [none, none, none, none, none, none, none, none, none, none, none, none, none, none, none, none],
  [none, none, none, none, none, none, none, none, none, none, none, none, none, none, none, none],
  [none, none, none, none, none, none, none, none, none, none, none, none, none, none, none, none],
  [none, none, none, none, none, none, none, none, none, none, none, none, none, none, none, none],
  [none, none, none, none, none, none, none, none, none, none, none, none, none, none, none, none],
  [none, none, none, none, none, none, none, none, none, none, none, none, none, none, none, none],
  [none, none, none, none, none, none, none, none, none, none, none, none, some (.aload_n 1, 1), some (.aload_n 0, 1), some (.iload_n 3, 1), some (.iconst 1, 1)],
  [some (.iadd, 1), some (.iaload, 1), some (.aload_n 0, 1), some (.iload_n 3, 1), some (.iconst 2, 1), some (.iadd, 1), some (.iaload, 1), some (.invokevirtual 13, 3), none, none, some (.aload_n 2, 1), some (.aload_n 0, 1), some (.iload_n 3, 1), some (.iconst 1, 1), some (.iadd, 1), some (.iaload, 1)],
  [some (.aload_n 0, 1), some (.iload_n 3, 1), some (.iconst 2, 1), some (.iadd, 1), some (.iaload, 1), some (.invokevirtual 17, 3), none, none, some (.if_icmp .eq 825, 3), none, none, some (.iconst 0, 1), some (.ireturn, 1), some (.aload_n 1, 1), some (.aload_n 0, 1), some (.iload_n 3, 1)],
  [some (.iconst 1, 1), some (.iadd, 1), some (.iaload, 1), some (.aload_n 0, 1), some (.iload_n 3, 1), some (.iconst 2, 1), some (.iadd, 1), some (.iaload, 1), some (.invokevirtual 18, 3), none, none, some (.aload_n 2, 1), some (.aload_n 0, 1), some (.iload_n 3, 1), some (.iconst 1, 1), some (.iadd, 1)],
  [some (.iaload, 1), some (.aload_n 0, 1), some (.iload_n 3, 1), some (.iconst 2, 1), some (.iadd, 1), some (.iaload, 1), some (.invokevirtual 21, 3), none, none, some (.if_icmp .eq 792, 3), none, none, some (.iconst 0, 1), some (.ireturn, 1), some (.aload_n 1, 1), some (.aload_n 0, 1)],
  [some (.iload_n 3, 1), some (.iconst 1, 1), some (.iadd, 1), some (.iaload, 1), some (.aload_n 0, 1), some (.iload_n 3, 1), some (.iconst 2, 1), some (.iadd, 1), some (.iaload, 1), some (.invokevirtual 22, 3), none, none, some (.aload_n 2, 1), some (.aload_n 0, 1), some (.iload_n 3, 1), some (.iconst 1, 1)],
  [some (.iadd, 1), some (.iaload, 1), some (.aload_n 0, 1), some (.iload_n 3, 1), some (.iconst 2, 1), some (.iadd, 1), some (.iaload, 1), some (.invokevirtual 25, 3), none, none, some (.if_icmp .eq 759, 3), none, none, some (.iconst 0, 1), some (.ireturn, 1), some (.aload_n 1, 1)],
  [some (.aload_n 0, 1), some (.iload_n 3, 1), some (.iconst 1, 1), some (.iadd, 1), some (.iaload, 1), some (.aload_n 0, 1), some (.iload_n 3, 1), some (.iconst 2, 1), some (.iadd, 1), some (.iaload, 1), some (.aload_n 0, 1), some (.iload_n 3, 1), some (.iconst 3, 1), some (.iadd, 1), some (.iaload, 1), some (.invokevirtual 26, 3)],
  [none, none, some (.aload_n 2, 1), some (.aload_n 0, 1), some (.iload_n 3, 1), some (.iconst 1, 1), some (.iadd, 1), some (.iaload, 1), some (.aload_n 0, 1), some (.iload_n 3, 1), some (.iconst 2, 1), some (.iadd, 1), some (.iaload, 1), some (.aload_n 0, 1), some (.iload_n 3, 1), some (.iconst 3, 1)],
  [some (.iadd, 1), some (.iaload, 1), some (.invokevirtual 30, 3), none, none, some (.if_icmp .eq 716, 3), none, none, some (.iconst 0, 1), some (.ireturn, 1), some (.aload_n 1, 1), some (.aload_n 0, 1), some (.iload_n 3, 1), some (.iconst 1, 1), some (.iadd, 1), some (.iaload, 1)],
  [some (.aload_n 0, 1), some (.iload_n 3, 1), some (.iconst 2, 1), some (.iadd, 1), some (.iaload, 1), some (.invokevirtual 31, 3), none, none, some (.aload_n 2, 1), some (.aload_n 0, 1), some (.iload_n 3, 1), some (.iconst 1, 1), some (.iadd, 1), some (.iaload, 1), some (.aload_n 0, 1), some (.iload_n 3, 1)],
  [some (.iconst 2, 1), some (.iadd, 1), some (.iaload, 1), some (.invokevirtual 34, 3), none, none, some (.if_icmp .eq 683, 3), none, none, some (.iconst 0, 1), some (.ireturn, 1), some (.aload_n 1, 1), some (.aload_n 0, 1), some (.iload_n 3, 1), some (.iconst 1, 1), some (.iadd, 1)],
  [some (.iaload, 1), some (.aload_n 0, 1), some (.iload_n 3, 1), some (.iconst 2, 1), some (.iadd, 1), some (.iaload, 1), some (.invokevirtual 35, 3), none, none, some (.aload_n 2, 1), some (.aload_n 0, 1), some (.iload_n 3, 1), some (.iconst 1, 1), some (.iadd, 1), some (.iaload, 1), some (.aload_n 0, 1)],
  [some (.iload_n 3, 1), some (.iconst 2, 1), some (.iadd, 1), some (.iaload, 1), some (.invokevirtual 38, 3), none, none, some (.if_icmp .eq 650, 3), none, none, some (.iconst 0, 1), some (.ireturn, 1), some (.aload_n 1, 1), some (.aload_n 0, 1), some (.iload_n 3, 1), some (.iconst 1, 1)],
  [some (.iadd, 1), some (.iaload, 1), some (.ifCond .eq 7, 3), none, none, some (.iconst 1, 1), some (.goto 4, 3), none, none, some (.iconst 0, 1), some (.invokevirtual 39, 3), none, none, some (.aload_n 2, 1), some (.aload_n 0, 1), some (.iload_n 3, 1)],
  [some (.iconst 1, 1), some (.iadd, 1), some (.iaload, 1), some (.ifCond .eq 7, 3), none, none, some (.iconst 1, 1), some (.goto 4, 3), none, none, some (.iconst 0, 1), some (.invokevirtual 43, 3), none, none, some (.if_icmp .eq 611, 3), none],
  [none, some (.iconst 0, 1), some (.ireturn, 1), some (.aload_n 1, 1), some (.aload_n 0, 1), some (.iload_n 3, 1), some (.iconst 1, 1), some (.iadd, 1), some (.iaload, 1), some (.aload_n 0, 1), some (.iload_n 3, 1), some (.iconst 2, 1), some (.iadd, 1), some (.iaload, 1), some (.invokevirtual 44, 3), none],
  [none, some (.aload_n 2, 1), some (.aload_n 0, 1), some (.iload_n 3, 1), some (.iconst 1, 1), some (.iadd, 1), some (.iaload, 1), some (.aload_n 0, 1), some (.iload_n 3, 1), some (.iconst 2, 1), some (.iadd, 1), some (.iaload, 1), some (.invokevirtual 47, 3), none, none, some (.if_icmp .eq 578, 3)],
  [none, none, some (.iconst 0, 1), some (.ireturn, 1), some (.aload_n 1, 1), some (.aload_n 0, 1), some (.iload_n 3, 1), some (.iconst 1, 1), some (.iadd, 1), some (.iaload, 1), some (.aload_n 0, 1), some (.iload_n 3, 1), some (.iconst 2, 1), some (.iadd, 1), some (.iaload, 1), some (.invokevirtual 48, 3)],
  [none, none, some (.aload_n 2, 1), some (.aload_n 0, 1), some (.iload_n 3, 1), some (.iconst 1, 1), some (.iadd, 1), some (.iaload, 1), some (.aload_n 0, 1), some (.iload_n 3, 1), some (.iconst 2, 1), some (.iadd, 1), some (.iaload, 1), some (.invokevirtual 51, 3), none, none],
  [some (.if_icmp .eq 545, 3), none, none, some (.iconst 0, 1), some (.ireturn, 1), some (.aload_n 1, 1), some (.aload_n 0, 1), some (.iload_n 3, 1), some (.iconst 1, 1), some (.iadd, 1), some (.iaload, 1), some (.aload_n 0, 1), some (.iload_n 3, 1), some (.iconst 2, 1), some (.iadd, 1), some (.iaload, 1)],
  [some (.aload_n 0, 1), some (.iload_n 3, 1), some (.iconst 3, 1), some (.iadd, 1), some (.iaload, 1), some (.invokevirtual 52, 3), none, none, some (.aload_n 2, 1), some (.aload_n 0, 1), some (.iload_n 3, 1), some (.iconst 1, 1), some (.iadd, 1), some (.iaload, 1), some (.aload_n 0, 1), some (.iload_n 3, 1)],
  [some (.iconst 2, 1), some (.iadd, 1), some (.iaload, 1), some (.aload_n 0, 1), some (.iload_n 3, 1), some (.iconst 3, 1), some (.iadd, 1), some (.iaload, 1), some (.invokevirtual 55, 3), none, none, some (.if_icmp .eq 502, 3), none, none, some (.iconst 0, 1), some (.ireturn, 1)],
  [some (.aload_n 1, 1), some (.aload_n 0, 1), some (.iload_n 3, 1), some (.iconst 1, 1), some (.iadd, 1), some (.iaload, 1), some (.invokevirtual 56, 3), none, none, some (.aload_n 2, 1), some (.aload_n 0, 1), some (.iload_n 3, 1), some (.iconst 1, 1), some (.iadd, 1), some (.iaload, 1), some (.invokevirtual 60, 3)],
  [none, none, some (.if_icmp .eq 479, 3), none, none, some (.iconst 0, 1), some (.ireturn, 1), some (.aload_n 1, 1), some (.aload_n 0, 1), some (.iload_n 3, 1), some (.iconst 1, 1), some (.iadd, 1), some (.iaload, 1), some (.aload_n 0, 1), some (.iload_n 3, 1), some (.iconst 2, 1)],
  [some (.iadd, 1), some (.iaload, 1), some (.invokevirtual 61, 3), none, none, some (.aload_n 2, 1), some (.aload_n 0, 1), some (.iload_n 3, 1), some (.iconst 1, 1), some (.iadd, 1), some (.iaload, 1), some (.aload_n 0, 1), some (.iload_n 3, 1), some (.iconst 2, 1), some (.iadd, 1), some (.iaload, 1)],
  [some (.invokevirtual 64, 3), none, none, some (.if_icmp .eq 446, 3), none, none, some (.iconst 0, 1), some (.ireturn, 1), some (.aload_n 1, 1), some (.aload_n 0, 1), some (.iload_n 3, 1), some (.iconst 1, 1), some (.iadd, 1), some (.iaload, 1), some (.invokevirtual 65, 3), none],
  [none, some (.aload_n 2, 1), some (.aload_n 0, 1), some (.iload_n 3, 1), some (.iconst 1, 1), some (.iadd, 1), some (.iaload, 1), some (.invokevirtual 68, 3), none, none, some (.if_icmp .eq 423, 3), none, none, some (.iconst 0, 1), some (.ireturn, 1), some (.aload_n 1, 1)],
  [some (.invokevirtual 69, 3), none, none, some (.aload_n 2, 1), some (.invokevirtual 73, 3), none, none, some (.if_icmp .eq 410, 3), none, none, some (.iconst 0, 1), some (.ireturn, 1), some (.aload_n 1, 1), some (.invokevirtual 74, 3), none, none],
  [some (.aload_n 2, 1), some (.invokevirtual 77, 3), none, none, some (.if_icmp .eq 397, 3), none, none, some (.iconst 0, 1), some (.ireturn, 1), some (.aload_n 1, 1), some (.aload_n 0, 1), some (.iload_n 3, 1), some (.iconst 1, 1), some (.iadd, 1), some (.iaload, 1), some (.aload_n 0, 1)],
  [some (.iload_n 3, 1), some (.iconst 2, 1), some (.iadd, 1), some (.iaload, 1), some (.invokevirtual 78, 3), none, none, some (.aload_n 2, 1), some (.aload_n 0, 1), some (.iload_n 3, 1), some (.iconst 1, 1), some (.iadd, 1), some (.iaload, 1), some (.aload_n 0, 1), some (.iload_n 3, 1), some (.iconst 2, 1)],
  [some (.iadd, 1), some (.iaload, 1), some (.invokevirtual 81, 3), none, none, some (.if_icmp .eq 364, 3), none, none, some (.iconst 0, 1), some (.ireturn, 1), some (.aload_n 1, 1), some (.aload_n 0, 1), some (.iload_n 3, 1), some (.iconst 1, 1), some (.iadd, 1), some (.iaload, 1)],
  [some (.invokevirtual 82, 3), none, none, some (.aload_n 2, 1), some (.aload_n 0, 1), some (.iload_n 3, 1), some (.iconst 1, 1), some (.iadd, 1), some (.iaload, 1), some (.invokevirtual 85, 3), none, none, some (.if_icmp .eq 341, 3), none, none, some (.iconst 0, 1)],
  [some (.ireturn, 1), some (.aload_n 1, 1), some (.aload_n 0, 1), some (.iload_n 3, 1), some (.iconst 1, 1), some (.iadd, 1), some (.iaload, 1), some (.aload_n 0, 1), some (.iload_n 3, 1), some (.iconst 2, 1), some (.iadd, 1), some (.iaload, 1), some (.invokevirtual 86, 3), none, none, some (.aload_n 2, 1)],
  [some (.aload_n 0, 1), some (.iload_n 3, 1), some (.iconst 1, 1), some (.iadd, 1), some (.iaload, 1), some (.aload_n 0, 1), some (.iload_n 3, 1), some (.iconst 2, 1), some (.iadd, 1), some (.iaload, 1), some (.invokevirtual 89, 3), none, none, some (.if_icmp .eq 308, 3), none, none],
  [some (.iconst 0, 1), some (.ireturn, 1), some (.aload_n 1, 1), some (.aload_n 0, 1), some (.iload_n 3, 1), some (.iconst 1, 1), some (.iadd, 1), some (.iaload, 1), some (.invokevirtual 90, 3), none, none, some (.aload_n 2, 1), some (.aload_n 0, 1), some (.iload_n 3, 1), some (.iconst 1, 1), some (.iadd, 1)],
  [some (.iaload, 1), some (.invokevirtual 93, 3), none, none, some (.if_icmp .eq 285, 3), none, none, some (.iconst 0, 1), some (.ireturn, 1), some (.aload_n 1, 1), some (.invokevirtual 94, 3), none, none, some (.aload_n 2, 1), some (.invokevirtual 97, 3), none],
  [none, some (.if_icmp .eq 272, 3), none, none, some (.iconst 0, 1), some (.ireturn, 1), some (.aload_n 1, 1), some (.aload_n 0, 1), some (.iload_n 3, 1), some (.iconst 1, 1), some (.iadd, 1), some (.iaload, 1), some (.invokevirtual 98, 3), none, none, some (.aload_n 2, 1)],
  [some (.aload_n 0, 1), some (.iload_n 3, 1), some (.iconst 1, 1), some (.iadd, 1), some (.iaload, 1), some (.invokevirtual 101, 3), none, none, some (.if_icmp .eq 249, 3), none, none, some (.iconst 0, 1), some (.ireturn, 1), some (.aload_n 1, 1), some (.aload_n 0, 1), some (.iload_n 3, 1)],
  [some (.iconst 1, 1), some (.iadd, 1), some (.iaload, 1), some (.invokevirtual 102, 3), none, none, some (.aload_n 2, 1), some (.aload_n 0, 1), some (.iload_n 3, 1), some (.iconst 1, 1), some (.iadd, 1), some (.iaload, 1), some (.invokevirtual 105, 3), none, none, some (.if_icmp .eq 226, 3)],
  [none, none, some (.iconst 0, 1), some (.ireturn, 1), some (.aload_n 1, 1), some (.aload_n 0, 1), some (.iload_n 3, 1), some (.iconst 1, 1), some (.iadd, 1), some (.iaload, 1), some (.invokevirtual 106, 3), none, none, some (.aload_n 2, 1), some (.aload_n 0, 1), some (.iload_n 3, 1)],
  [some (.iconst 1, 1), some (.iadd, 1), some (.iaload, 1), some (.invokevirtual 109, 3), none, none, some (.if_icmp .eq 203, 3), none, none, some (.iconst 0, 1), some (.ireturn, 1), some (.aload_n 1, 1), some (.aload_n 0, 1), some (.iload_n 3, 1), some (.iconst 1, 1), some (.iadd, 1)],
  [some (.iaload, 1), some (.ifCond .eq 7, 3), none, none, some (.iconst 1, 1), some (.goto 4, 3), none, none, some (.iconst 0, 1), some (.invokevirtual 110, 3), none, none, some (.aload_n 2, 1), some (.aload_n 0, 1), some (.iload_n 3, 1), some (.iconst 1, 1)],
  [some (.iadd, 1), some (.iaload, 1), some (.ifCond .eq 7, 3), none, none, some (.iconst 1, 1), some (.goto 4, 3), none, none, some (.iconst 0, 1), some (.invokevirtual 113, 3), none, none, some (.if_icmp .eq 164, 3), none, none],
  [some (.iconst 0, 1), some (.ireturn, 1), some (.aload_n 1, 1), some (.aload_n 0, 1), some (.iload_n 3, 1), some (.iconst 1, 1), some (.iadd, 1), some (.iaload, 1), some (.invokevirtual 114, 3), none, none, some (.aload_n 2, 1), some (.aload_n 0, 1), some (.iload_n 3, 1), some (.iconst 1, 1), some (.iadd, 1)],
  [some (.iaload, 1), some (.invokevirtual 117, 3), none, none, some (.if_icmp .eq 141, 3), none, none, some (.iconst 0, 1), some (.ireturn, 1), some (.aload_n 1, 1), some (.invokevirtual 118, 3), none, none, some (.aload_n 2, 1), some (.invokevirtual 121, 3), none],
  [none, some (.if_icmp .eq 128, 3), none, none, some (.iconst 0, 1), some (.ireturn, 1), some (.aload_n 1, 1), some (.invokevirtual 122, 3), none, none, some (.dstore 4, 2), none, some (.aload_n 2, 1), some (.invokevirtual 126, 3), none, none],
  [some (.dstore 6, 2), none, some (.dload 4, 2), none, some (.dload 6, 2), none, some (.dcmp .l, 1), some (.ifCond .eq 21, 3), none, none, some (.dload 4, 2), none, some (.dload 4, 2), none, some (.dcmp .l, 1), some (.ifCond .eq 11, 3)],
  [none, none, some (.dload 6, 2), none, some (.dload 6, 2), none, some (.dcmp .l, 1), some (.ifCond .ne 5, 3), none, none, some (.iconst 0, 1), some (.ireturn, 1), some (.goto 85, 3), none, none, some (.aload_n 1, 1)],
  [some (.invokevirtual 127, 3), none, none, some (.f2d, 1), some (.dstore 4, 2), none, some (.aload_n 2, 1), some (.invokevirtual 131, 3), none, none, some (.f2d, 1), some (.dstore 6, 2), none, some (.dload 4, 2), none, some (.dload 6, 2)],
  [none, some (.dcmp .l, 1), some (.ifCond .eq 21, 3), none, none, some (.dload 4, 2), none, some (.dload 4, 2), none, some (.dcmp .l, 1), some (.ifCond .eq 11, 3), none, none, some (.dload 6, 2), none, some (.dload 6, 2)],
  [none, some (.dcmp .l, 1), some (.ifCond .ne 5, 3), none, none, some (.iconst 0, 1), some (.ireturn, 1), some (.goto 42, 3), none, none, some (.aload_n 1, 1), some (.invokevirtual 132, 3), none, none, some (.aload_n 2, 1), some (.invokevirtual 135, 3)],
  [none, none, some (.if_icmp .eq 31, 3), none, none, some (.iconst 0, 1), some (.ireturn, 1), some (.aload_n 1, 1), some (.invokevirtual 136, 3), none, none, some (.aload_n 2, 1), some (.invokevirtual 139, 3), none, none, some (.if_icmp .eq 18, 3)],
  [none, none, some (.iconst 0, 1), some (.ireturn, 1), some (.aload_n 1, 1), some (.invokevirtual 140, 3), none, none, some (.aload_n 2, 1), some (.invokevirtual 143, 3), none, none, some (.if_icmp .eq 5, 3), none, none, some (.iconst 0, 1)],
  [some (.ireturn, 1), some (.iinc 3 4, 3), none, none, some (.goto (-1010), 3), none, none, some (.iconst 1, 1), some (.ireturn, 1), none, none, none, none, none, none, none]]
def kx_m0 : kx_R := (⟨"KiteWarLaw", "law", "([I)Z"⟩, code, 8, Option.some Jvm.ClassFile.FieldType.boolean, kx_t0, 0, 13, 310, [5, 7])
/-- KiteWar.<init>()V -/
def kx_t1 : List (List (Option kx_I)) := [[some (.aload_n 0, 1), some (.invokespecial 1, 3), none, none, some (.aload_n 0, 1), some (.new 7, 3), none, none, some (.dup, 1), some (.invokespecial 9, 3), none, none, some (.putfield 10, 3), none, none, some (.aload_n 0, 1)],
  [some (.new 7, 3), none, none, some (.dup, 1), some (.invokespecial 9, 3), none, none, some (.putfield 16, 3), none, none, some (.aload_n 0, 1), some (.new 7, 3), none, none, some (.dup, 1), some (.invokespecial 9, 3)],
  [none, none, some (.putfield 19, 3), none, none, some (.aload_n 0, 1), some (.iconst 0, 1), some (.putfield 22, 3), none, none, some (.aload_n 0, 1), some (.new 26, 3), none, none, some (.dup, 1), some (.invokespecial 28, 3)],
  [none, none, some (.putfield 29, 3), none, none, some (.aload_n 0, 1), some (.new 33, 3), none, none, some (.dup, 1), some (.invokespecial 35, 3), none, none, some (.putfield 36, 3), none, none],
  [some (.aload_n 0, 1), some (.new 40, 3), none, none, some (.dup, 1), some (.invokespecial 42, 3), none, none, some (.putfield 43, 3), none, none, some (.aload_n 0, 1), some (.new 47, 3), none, none, some (.dup, 1)],
  [some (.invokespecial 49, 3), none, none, some (.putfield 50, 3), none, none, some (.aload_n 0, 1), some (.new 54, 3), none, none, some (.dup, 1), some (.invokespecial 56, 3), none, none, some (.putfield 57, 3), none],
  [none, some (.aload_n 0, 1), some (.bipush (-15), 2), none, some (.putfield 61, 3), none, none, some (.aload_n 0, 1), some (.bipush (-15), 2), none, some (.putfield 65, 3), none, none, some (.return_, 1), none, none]]
def kx_m1 : kx_R := (⟨"KiteWar", "<init>", "()V"⟩, prog_1_method_1_code, 1, Option.none, kx_t1, 1, 4, 102, [])
/-- KiteWar.beside(II)I -/
def kx_t2 : List (List (Option kx_I)) := [[some (.iload_n 1, 1), some (.invokestatic 68, 3), none, none, some (.ifCond .ne 6, 3), none, none, some (.bipush (-11), 2), none, some (.ireturn, 1), some (.iload_n 2, 1), some (.invokestatic 74, 3), none, none, some (.ifCond .ne 6, 3), none],
  [none, some (.bipush (-12), 2), none, some (.ireturn, 1), some (.iload_n 1, 1), some (.iload_n 2, 1), some (.iconst 1, 1), some (.invokestatic 77, 3), none, none, some (.istore_n 3, 1), some (.iload_n 3, 1), some (.iconst (-1), 1), some (.if_icmp .ne 8, 3), none, none],
  [some (.bipush (-15), 2), none, some (.goto 4, 3), none, none, some (.iload_n 3, 1), some (.ireturn, 1), none, none, none, none, none, none, none, none, none]]
def kx_m2 : kx_R := (⟨"KiteWar", "beside", "(II)I"⟩, prog_1_method_2_code, 4, Option.some Jvm.ClassFile.FieldType.int, kx_t2, 1, 2, 67, [])
/-- KiteWar.isDirection(I)Z -/
def kx_t3 : List (List (Option kx_I)) := [[some (.iload_n 0, 1), some (.ifCond .lt 13, 3), none, none, some (.iload_n 0, 1), some (.bipush 6, 2), none, some (.if_icmp .ge 7, 3), none, none, some (.iconst 1, 1), some (.goto 4, 3), none, none, some (.iconst 0, 1), some (.ireturn, 1)]]
def kx_m3 : kx_R := (⟨"KiteWar", "isDirection", "(I)Z"⟩, prog_1_method_34_code, 1, Option.some Jvm.ClassFile.FieldType.boolean, kx_t3, 1, 1, 40, [])
/-- KiteWar.apart(II)I -/
def kx_t4 : List (List (Option kx_I)) := [[some (.iload_n 1, 1), some (.invokestatic 68, 3), none, none, some (.ifCond .eq 10, 3), none, none, some (.iload_n 2, 1), some (.invokestatic 68, 3), none, none, some (.ifCond .ne 6, 3), none, none, some (.bipush (-11), 2), none],
  [some (.ireturn, 1), some (.iload_n 1, 1), some (.iload_n 2, 1), some (.invokestatic 81, 3), none, none, some (.ireturn, 1), none, none, none, none, none, none, none, none, none]]
def kx_m4 : kx_R := (⟨"KiteWar", "apart", "(II)I"⟩, prog_1_method_3_code, 3, Option.some Jvm.ClassFile.FieldType.int, kx_t4, 1, 3, 87, [])
/-- KiteWar.apartAgain(II)I -/
def kx_t5 : List (List (Option kx_I)) := [[some (.iload_n 1, 1), some (.invokestatic 68, 3), none, none, some (.ifCond .eq 10, 3), none, none, some (.iload_n 2, 1), some (.invokestatic 68, 3), none, none, some (.ifCond .ne 6, 3), none, none, some (.bipush (-11), 2), none],
  [some (.ireturn, 1), some (.iload_n 1, 1), some (.iload_n 2, 1), some (.invokestatic 85, 3), none, none, some (.ireturn, 1), none, none, none, none, none, none, none, none, none]]
def kx_m5 : kx_R := (⟨"KiteWar", "apartAgain", "(II)I"⟩, prog_1_method_4_code, 3, Option.some Jvm.ClassFile.FieldType.int, kx_t5, 1, 4, 117, [])
/-- KiteWar.tower(III)I -/
def kx_t6 : List (List (Option kx_I)) := [[some (.aload_n 0, 1), some (.getfield 16, 3), none, none, some (.aload_n 0, 1), some (.getfield 10, 3), none, none, some (.invokevirtual 88, 3), none, none, some (.aload_n 0, 1), some (.aload_n 0, 1), some (.iload_n 1, 1), some (.iload_n 2, 1), some (.iload_n 3, 1)],
  [some (.invokevirtual 92, 3), none, none, some (.invokevirtual 95, 3), none, none, some (.ireturn, 1), none, none, none, none, none, none, none, none, none]]
def kx_m6 : kx_R := (⟨"KiteWar", "tower", "(III)I"⟩, prog_1_method_5_code, 4, Option.some Jvm.ClassFile.FieldType.int, kx_t6, 1, 5, 125, [])
/-- KiteWar.buildTower(III)I -/
def kx_t7 : List (List (Option kx_I)) := [[some (.iload_n 1, 1), some (.invokestatic 182, 3), none, none, some (.ifCond .eq 10, 3), none, none, some (.iload_n 2, 1), some (.invokestatic 68, 3), none, none, some (.ifCond .ne 6, 3), none, none, some (.bipush (-11), 2), none],
  [some (.ireturn, 1), some (.iload_n 3, 1), some (.iconst 1, 1), some (.if_icmp .lt 8, 3), none, none, some (.iload_n 3, 1), some (.iconst 4, 1), some (.if_icmp .le 6, 3), none, none, some (.bipush (-12), 2), none, some (.ireturn, 1), some (.aload_n 0, 1), some (.getfield 10, 3)],
  [none, none, some (.iload_n 2, 1), some (.invokevirtual 321, 3), none, none, some (.istore 4, 2), none, some (.iload 4, 2), none, some (.ifCond .lt 11, 3), none, none, some (.aload_n 0, 1), some (.iconst 2, 1), some (.iload 4, 2)],
  [none, some (.invokevirtual 185, 3), none, none, some (.ireturn, 1), some (.aload_n 0, 1), some (.getfield 10, 3), none, none, some (.iload_n 1, 1), some (.invokevirtual 324, 3), none, none, some (.iconst 3, 1), some (.if_icmp .lt 10, 3), none],
  [none, some (.aload_n 0, 1), some (.iconst 1, 1), some (.iconst 3, 1), some (.invokevirtual 185, 3), none, none, some (.ireturn, 1), some (.aload_n 0, 1), some (.getfield 10, 3), none, none, some (.iload_n 1, 1), some (.iload_n 2, 1), some (.iload_n 3, 1), some (.invokevirtual 327, 3)],
  [none, none, some (.ireturn, 1), none, none, none, none, none, none, none, none, none, none, none, none, none]]
def kx_m7 : kx_R := (⟨"KiteWar", "buildTower", "(III)I"⟩, prog_1_method_39_code, 5, Option.some Jvm.ClassFile.FieldType.int, kx_t7, 1, 2, 64, [])
/-- KiteWar.isSide(I)Z -/
def kx_t8 : List (List (Option kx_I)) := [[some (.iload_n 0, 1), some (.ifCond .eq 8, 3), none, none, some (.iload_n 0, 1), some (.iconst 1, 1), some (.if_icmp .ne 7, 3), none, none, some (.iconst 1, 1), some (.goto 4, 3), none, none, some (.iconst 0, 1), some (.ireturn, 1), none]]
def kx_m8 : kx_R := (⟨"KiteWar", "isSide", "(I)Z"⟩, prog_1_method_33_code, 1, Option.some Jvm.ClassFile.FieldType.boolean, kx_t8, 1, 1, 40, [])
/-- KiteWar.refuse(II)I -/
def kx_t9 : List (List (Option kx_I)) := [[some (.aload_n 0, 1), some (.iload_n 1, 1), some (.putfield 61, 3), none, none, some (.aload_n 0, 1), some (.iload_n 2, 1), some (.putfield 65, 3), none, none, some (.bipush (-14), 2), none, some (.ireturn, 1), none, none, none]]
def kx_m9 : kx_R := (⟨"KiteWar", "refuse", "(II)I"⟩, prog_1_method_38_code, 3, Option.some Jvm.ClassFile.FieldType.int, kx_t9, 1, 1, 40, [])
/-- KiteWar.settled(I)I -/
def kx_t10 : List (List (Option kx_I)) := [[some (.iload_n 1, 1), some (.ifCond .lt 14, 3), none, none, some (.aload_n 0, 1), some (.getfield 29, 3), none, none, some (.aload_n 0, 1), some (.getfield 16, 3), none, none, some (.invokevirtual 318, 3), none, none, some (.iload_n 1, 1)],
  [some (.ireturn, 1), none, none, none, none, none, none, none, none, none, none, none, none, none, none, none]]
def kx_m10 : kx_R := (⟨"KiteWar", "settled", "(I)I"⟩, prog_1_method_37_code, 2, Option.some Jvm.ClassFile.FieldType.int, kx_t10, 1, 4, 104, [])
/-- KiteWar.kite(II)I -/
def kx_t11 : List (List (Option kx_I)) := [[some (.aload_n 0, 1), some (.getfield 16, 3), none, none, some (.aload_n 0, 1), some (.getfield 10, 3), none, none, some (.invokevirtual 88, 3), none, none, some (.aload_n 0, 1), some (.aload_n 0, 1), some (.iload_n 1, 1), some (.iload_n 2, 1), some (.invokevirtual 99, 3)],
  [none, none, some (.invokevirtual 95, 3), none, none, some (.ireturn, 1), none, none, none, none, none, none, none, none, none, none]]
def kx_m11 : kx_R := (⟨"KiteWar", "kite", "(II)I"⟩, prog_1_method_6_code, 3, Option.some Jvm.ClassFile.FieldType.int, kx_t11, 1, 5, 125, [])
/-- KiteWar.bringKite(II)I -/
def kx_t12 : List (List (Option kx_I)) := [[some (.aload_n 0, 1), some (.iload_n 1, 1), some (.invokevirtual 117, 3), none, none, some (.ifCond .ne 6, 3), none, none, some (.bipush (-11), 2), none, some (.ireturn, 1), some (.iload_n 2, 1), some (.iconst 1, 1), some (.if_icmp .lt 9, 3), none, none],
  [some (.iload_n 2, 1), some (.bipush 9, 2), none, some (.if_icmp .le 6, 3), none, none, some (.bipush (-12), 2), none, some (.ireturn, 1), some (.aload_n 0, 1), some (.getfield 10, 3), none, none, some (.iload_n 1, 1), some (.invokevirtual 135, 3), none],
  [none, some (.iconst 2, 1), some (.if_icmp .lt 10, 3), none, none, some (.aload_n 0, 1), some (.iconst 1, 1), some (.iconst 2, 1), some (.invokevirtual 185, 3), none, none, some (.ireturn, 1), some (.aload_n 0, 1), some (.getfield 10, 3), none, none],
  [some (.iload_n 1, 1), some (.iload_n 2, 1), some (.invokevirtual 330, 3), none, none, some (.ireturn, 1), none, none, none, none, none, none, none, none, none, none]]
def kx_m12 : kx_R := (⟨"KiteWar", "bringKite", "(II)I"⟩, prog_1_method_40_code, 3, Option.some Jvm.ClassFile.FieldType.int, kx_t12, 1, 2, 63, [])
/-- KiteWar.isTower(I)Z -/
def kx_t13 : List (List (Option kx_I)) := [[some (.iload_n 1, 1), some (.ifCond .lt 18, 3), none, none, some (.iload_n 1, 1), some (.aload_n 0, 1), some (.getfield 10, 3), none, none, some (.getfield 225, 3), none, none, some (.if_icmp .ge 7, 3), none, none, some (.iconst 1, 1)],
  [some (.goto 4, 3), none, none, some (.iconst 0, 1), some (.ireturn, 1), none, none, none, none, none, none, none, none, none, none, none]]
def kx_m13 : kx_R := (⟨"KiteWar", "isTower", "(I)Z"⟩, prog_1_method_35_code, 2, Option.some Jvm.ClassFile.FieldType.boolean, kx_t13, 1, 1, 40, [])
/-- KiteWar.wind(II)I -/
def kx_t14 : List (List (Option kx_I)) := [[some (.aload_n 0, 1), some (.getfield 16, 3), none, none, some (.aload_n 0, 1), some (.getfield 10, 3), none, none, some (.invokevirtual 88, 3), none, none, some (.aload_n 0, 1), some (.aload_n 0, 1), some (.iload_n 1, 1), some (.iload_n 2, 1), some (.invokevirtual 102, 3)],
  [none, none, some (.invokevirtual 95, 3), none, none, some (.ireturn, 1), none, none, none, none, none, none, none, none, none, none]]
def kx_m14 : kx_R := (⟨"KiteWar", "wind", "(II)I"⟩, prog_1_method_7_code, 3, Option.some Jvm.ClassFile.FieldType.int, kx_t14, 1, 5, 125, [])
/-- KiteWar.tellWind(II)I -/
def kx_t15 : List (List (Option kx_I)) := [[some (.iload_n 1, 1), some (.invokestatic 74, 3), none, none, some (.ifCond .eq 12, 3), none, none, some (.iload_n 2, 1), some (.ifCond .lt 8, 3), none, none, some (.iload_n 2, 1), some (.iconst 3, 1), some (.if_icmp .le 6, 3), none, none],
  [some (.bipush (-12), 2), none, some (.ireturn, 1), some (.aload_n 0, 1), some (.getfield 10, 3), none, none, some (.getfield 105, 3), none, none, some (.bipush 6, 2), none, some (.if_icmp .lt 11, 3), none, none, some (.aload_n 0, 1)],
  [some (.iconst 1, 1), some (.bipush 6, 2), none, some (.invokevirtual 185, 3), none, none, some (.ireturn, 1), some (.aload_n 0, 1), some (.getfield 10, 3), none, none, some (.iload_n 1, 1), some (.iload_n 2, 1), some (.invokevirtual 333, 3), none, none],
  [some (.ireturn, 1), none, none, none, none, none, none, none, none, none, none, none, none, none, none, none]]
def kx_m15 : kx_R := (⟨"KiteWar", "tellWind", "(II)I"⟩, prog_1_method_41_code, 3, Option.some Jvm.ClassFile.FieldType.int, kx_t15, 1, 2, 62, [])
/-- KiteWar.windNow(Z)I -/
def kx_t16 : List (List (Option kx_I)) := [[some (.aload_n 0, 1), some (.getfield 10, 3), none, none, some (.getfield 105, 3), none, none, some (.ifCond .ne 6, 3), none, none, some (.bipush (-15), 2), none, some (.ireturn, 1), some (.iload_n 1, 1), some (.ifCond .eq 20, 3), none],
  [none, some (.aload_n 0, 1), some (.getfield 10, 3), none, none, some (.aload_n 0, 1), some (.getfield 10, 3), none, none, some (.getfield 108, 3), none, none, some (.invokevirtual 111, 3), none, none, some (.goto 17, 3)],
  [none, none, some (.aload_n 0, 1), some (.getfield 10, 3), none, none, some (.aload_n 0, 1), some (.getfield 10, 3), none, none, some (.getfield 108, 3), none, none, some (.invokevirtual 114, 3), none, none],
  [some (.ireturn, 1), none, none, none, none, none, none, none, none, none, none, none, none, none, none, none]]
def kx_m16 : kx_R := (⟨"KiteWar", "windNow", "(Z)I"⟩, prog_1_method_8_code, 2, Option.some Jvm.ClassFile.FieldType.int, kx_t16, 1, 3, 83, [])
/-- KiteWar.towerOf(II)I -/
def kx_t17 : List (List (Option kx_I)) := [[some (.aload_n 0, 1), some (.iload_n 1, 1), some (.invokevirtual 117, 3), none, none, some (.ifCond .ne 6, 3), none, none, some (.bipush (-11), 2), none, some (.ireturn, 1), some (.aload_n 0, 1), some (.getfield 10, 3), none, none, some (.getfield 120, 3)],
  [none, none, some (.iload_n 1, 1), some (.aaload, 1), some (.astore_n 3, 1), some (.iload_n 2, 1), some (.tableswitch 76 0 5 #[38, 43, 48, 53, 62, 71], 38), none, none, none, none, none, none, none, none, none],
  [none, none, none, none, none, none, none, none, none, none, none, none, none, none, none, none],
  [none, none, none, none, none, none, none, none, none, none, none, none, some (.aload_n 3, 1), some (.getfield 124, 3), none, none],
  [some (.ireturn, 1), some (.aload_n 3, 1), some (.getfield 129, 3), none, none, some (.ireturn, 1), some (.aload_n 3, 1), some (.getfield 132, 3), none, none, some (.ireturn, 1), some (.aload_n 0, 1), some (.getfield 10, 3), none, none, some (.iload_n 1, 1)],
  [some (.invokevirtual 135, 3), none, none, some (.ireturn, 1), some (.aload_n 0, 1), some (.getfield 10, 3), none, none, some (.iload_n 1, 1), some (.invokevirtual 138, 3), none, none, some (.ireturn, 1), some (.aload_n 3, 1), some (.getfield 141, 3), none],
  [none, some (.ireturn, 1), some (.bipush (-12), 2), none, some (.ireturn, 1), none, none, none, none, none, none, none, none, none, none, none]]
def kx_m17 : kx_R := (⟨"KiteWar", "towerOf", "(II)I"⟩, prog_1_method_9_code, 4, Option.some Jvm.ClassFile.FieldType.int, kx_t17, 1, 2, 63, [])
/-- KiteWar.kiteOf(II)I -/
def kx_t18 : List (List (Option kx_I)) := [[some (.aload_n 0, 1), some (.iload_n 1, 1), some (.invokevirtual 144, 3), none, none, some (.ifCond .ne 6, 3), none, none, some (.bipush (-11), 2), none, some (.ireturn, 1), some (.aload_n 0, 1), some (.getfield 10, 3), none, none, some (.getfield 147, 3)],
  [none, none, some (.iload_n 1, 1), some (.aaload, 1), some (.astore_n 3, 1), some (.iload_n 2, 1), some (.tableswitch 121 0 8 #[50, 55, 60, 65, 83, 88, 106, 111, 116], 50), none, none, none, none, none, none, none, none, none],
  [none, none, none, none, none, none, none, none, none, none, none, none, none, none, none, none],
  [none, none, none, none, none, none, none, none, none, none, none, none, none, none, none, none],
  [none, none, none, none, none, none, none, none, some (.aload_n 3, 1), some (.getfield 151, 3), none, none, some (.ireturn, 1), some (.aload_n 3, 1), some (.getfield 154, 3), none],
  [none, some (.ireturn, 1), some (.aload_n 3, 1), some (.getfield 157, 3), none, none, some (.ireturn, 1), some (.aload_n 3, 1), some (.getfield 157, 3), none, none, some (.iconst 1, 1), some (.if_icmp .ne 10, 3), none, none, some (.aload_n 3, 1)],
  [some (.getfield 160, 3), none, none, some (.goto 5, 3), none, none, some (.bipush (-15), 2), none, some (.ireturn, 1), some (.aload_n 3, 1), some (.getfield 163, 3), none, none, some (.ireturn, 1), some (.aload_n 3, 1), some (.getfield 157, 3)],
  [none, none, some (.iconst 3, 1), some (.if_icmp .ne 8, 3), none, none, some (.bipush (-15), 2), none, some (.goto 7, 3), none, none, some (.aload_n 3, 1), some (.getfield 166, 3), none, none, some (.ireturn, 1)],
  [some (.aload_n 3, 1), some (.getfield 167, 3), none, none, some (.ireturn, 1), some (.aload_n 3, 1), some (.getfield 170, 3), none, none, some (.ireturn, 1), some (.aload_n 3, 1), some (.getfield 173, 3), none, none, some (.ireturn, 1), some (.bipush (-12), 2)],
  [none, some (.ireturn, 1), none, none, none, none, none, none, none, none, none, none, none, none, none, none]]
def kx_m18 : kx_R := (⟨"KiteWar", "kiteOf", "(II)I"⟩, prog_1_method_10_code, 4, Option.some Jvm.ClassFile.FieldType.int, kx_t18, 1, 2, 61, [])
/-- KiteWar.isKite(I)Z -/
def kx_t19 : List (List (Option kx_I)) := [[some (.iload_n 1, 1), some (.ifCond .lt 18, 3), none, none, some (.iload_n 1, 1), some (.aload_n 0, 1), some (.getfield 10, 3), none, none, some (.getfield 200, 3), none, none, some (.if_icmp .ge 7, 3), none, none, some (.iconst 1, 1)],
  [some (.goto 4, 3), none, none, some (.iconst 0, 1), some (.ireturn, 1), none, none, none, none, none, none, none, none, none, none, none]]
def kx_m19 : kx_R := (⟨"KiteWar", "isKite", "(I)Z"⟩, prog_1_method_36_code, 2, Option.some Jvm.ClassFile.FieldType.boolean, kx_t19, 1, 1, 40, [])
/-- KiteWar.slip(III)I -/
def kx_t20 : List (List (Option kx_I)) := [[some (.aload_n 0, 1), some (.getfield 16, 3), none, none, some (.aload_n 0, 1), some (.getfield 10, 3), none, none, some (.invokevirtual 88, 3), none, none, some (.aload_n 0, 1), some (.aload_n 0, 1), some (.iload_n 1, 1), some (.iload_n 2, 1), some (.iload_n 3, 1)],
  [some (.invokevirtual 176, 3), none, none, some (.invokevirtual 95, 3), none, none, some (.ireturn, 1), none, none, none, none, none, none, none, none, none]]
def kx_m20 : kx_R := (⟨"KiteWar", "slip", "(III)I"⟩, prog_1_method_11_code, 4, Option.some Jvm.ClassFile.FieldType.int, kx_t20, 1, 5, 125, [])
/-- KiteWar.writeSlip(III)I -/
def kx_t21 : List (List (Option kx_I)) := [[some (.aload_n 0, 1), some (.iload_n 1, 1), some (.invokevirtual 144, 3), none, none, some (.ifCond .ne 6, 3), none, none, some (.bipush (-11), 2), none, some (.ireturn, 1), some (.iload_n 2, 1), some (.iload_n 3, 1), some (.invokestatic 336, 3), none, none],
  [some (.ifCond .ne 6, 3), none, none, some (.bipush (-12), 2), none, some (.ireturn, 1), some (.aload_n 0, 1), some (.getfield 10, 3), none, none, some (.getfield 147, 3), none, none, some (.iload_n 1, 1), some (.aaload, 1), some (.astore 4, 2)],
  [none, some (.aload 4, 2), none, some (.getfield 157, 3), none, none, some (.iconst 2, 1), some (.if_icmp .eq 12, 3), none, none, some (.aload 4, 2), none, some (.getfield 157, 3), none, none, some (.iconst 3, 1)],
  [some (.if_icmp .ne 14, 3), none, none, some (.aload_n 0, 1), some (.iconst 5, 1), some (.aload 4, 2), none, some (.getfield 157, 3), none, none, some (.invokevirtual 185, 3), none, none, some (.ireturn, 1), some (.aload 4, 2), none],
  [some (.getfield 157, 3), none, none, some (.ifCond .eq 19, 3), none, none, some (.iload_n 2, 1), some (.iconst 1, 1), some (.if_icmp .ne 14, 3), none, none, some (.aload_n 0, 1), some (.iconst 3, 1), some (.aload 4, 2), none, some (.getfield 157, 3)],
  [none, none, some (.invokevirtual 185, 3), none, none, some (.ireturn, 1), some (.aload 4, 2), none, some (.getfield 157, 3), none, none, some (.ifCond .ne 15, 3), none, none, some (.iload_n 2, 1), some (.iconst 1, 1)],
  [some (.if_icmp .eq 10, 3), none, none, some (.aload_n 0, 1), some (.iconst 4, 1), some (.iload_n 1, 1), some (.invokevirtual 185, 3), none, none, some (.ireturn, 1), some (.aload 4, 2), none, some (.iload_n 2, 1), some (.putfield 188, 3), none, none],
  [some (.aload 4, 2), none, some (.iload_n 3, 1), some (.putfield 191, 3), none, none, some (.aload_n 0, 1), some (.getfield 10, 3), none, none, some (.aload 4, 2), none, some (.getfield 151, 3), none, none, some (.invokevirtual 288, 3)],
  [none, none, some (.ireturn, 1), none, none, none, none, none, none, none, none, none, none, none, none, none]]
def kx_m21 : kx_R := (⟨"KiteWar", "writeSlip", "(III)I"⟩, prog_1_method_42_code, 5, Option.some Jvm.ClassFile.FieldType.int, kx_t21, 1, 3, 81, [])
/-- KiteWar.isMove(II)Z -/
def kx_t22 : List (List (Option kx_I)) := [[some (.iload_n 0, 1), some (.iconst 1, 1), some (.if_icmp .ne 8, 3), none, none, some (.iload_n 1, 1), some (.invokestatic 74, 3), none, none, some (.ireturn, 1), some (.iload_n 0, 1), some (.iconst 1, 1), some (.if_icmp .le 17, 3), none, none, some (.iload_n 0, 1)],
  [some (.bipush 6, 2), none, some (.if_icmp .gt 11, 3), none, none, some (.iload_n 1, 1), some (.ifCond .ne 7, 3), none, none, some (.iconst 1, 1), some (.goto 4, 3), none, none, some (.iconst 0, 1), some (.ireturn, 1), none]]
def kx_m22 : kx_R := (⟨"KiteWar", "isMove", "(II)Z"⟩, prog_1_method_43_code, 2, Option.some Jvm.ClassFile.FieldType.boolean, kx_t22, 1, 2, 60, [])
/-- KiteWar.tear(I)I -/
def kx_t23 : List (List (Option kx_I)) := [[some (.aload_n 0, 1), some (.getfield 16, 3), none, none, some (.aload_n 0, 1), some (.getfield 10, 3), none, none, some (.invokevirtual 88, 3), none, none, some (.aload_n 0, 1), some (.aload_n 0, 1), some (.iload_n 1, 1), some (.invokevirtual 179, 3), none],
  [none, some (.invokevirtual 95, 3), none, none, some (.ireturn, 1), none, none, none, none, none, none, none, none, none, none, none]]
def kx_m23 : kx_R := (⟨"KiteWar", "tear", "(I)I"⟩, prog_1_method_12_code, 2, Option.some Jvm.ClassFile.FieldType.int, kx_t23, 1, 5, 125, [])
/-- KiteWar.tearSlip(I)I -/
def kx_t24 : List (List (Option kx_I)) := [[some (.aload_n 0, 1), some (.iload_n 1, 1), some (.invokevirtual 144, 3), none, none, some (.ifCond .ne 6, 3), none, none, some (.bipush (-11), 2), none, some (.ireturn, 1), some (.aload_n 0, 1), some (.getfield 10, 3), none, none, some (.getfield 147, 3)],
  [none, none, some (.iload_n 1, 1), some (.aaload, 1), some (.astore_n 2, 1), some (.aload_n 2, 1), some (.getfield 188, 3), none, none, some (.istore_n 3, 1), some (.iload_n 3, 1), some (.ifCond .ne 11, 3), none, none, some (.aload_n 0, 1), some (.bipush 7, 2)],
  [none, some (.iload_n 1, 1), some (.invokevirtual 185, 3), none, none, some (.ireturn, 1), some (.aload_n 2, 1), some (.invokevirtual 340, 3), none, none, some (.iload_n 3, 1), some (.ireturn, 1), none, none, none, none]]
def kx_m24 : kx_R := (⟨"KiteWar", "tearSlip", "(I)I"⟩, prog_1_method_44_code, 4, Option.some Jvm.ClassFile.FieldType.int, kx_t24, 1, 2, 62, [])
/-- KiteWar.seen(II)I -/
def kx_t25 : List (List (Option kx_I)) := [[some (.iload_n 1, 1), some (.invokestatic 182, 3), none, none, some (.ifCond .eq 11, 3), none, none, some (.aload_n 0, 1), some (.iload_n 2, 1), some (.invokevirtual 144, 3), none, none, some (.ifCond .ne 6, 3), none, none, some (.bipush (-11), 2)],
  [none, some (.ireturn, 1), some (.aload_n 0, 1), some (.getfield 10, 3), none, none, some (.getfield 147, 3), none, none, some (.iload_n 2, 1), some (.aaload, 1), some (.astore_n 3, 1), some (.aload_n 3, 1), some (.getfield 151, 3), none, none],
  [some (.iload_n 1, 1), some (.if_icmp .eq 11, 3), none, none, some (.aload_n 0, 1), some (.bipush 6, 2), none, some (.iload_n 2, 1), some (.invokevirtual 185, 3), none, none, some (.ireturn, 1), some (.aload_n 3, 1), some (.getfield 188, 3), none, none],
  [some (.ifCond .ne 11, 3), none, none, some (.aload_n 0, 1), some (.bipush 7, 2), none, some (.iload_n 2, 1), some (.invokevirtual 185, 3), none, none, some (.ireturn, 1), some (.aload_n 3, 1), some (.getfield 188, 3), none, none, some (.bipush 10, 2)],
  [none, some (.aload_n 3, 1), some (.getfield 191, 3), none, none, some (.imul, 1), some (.iadd, 1), some (.ireturn, 1), none, none, none, none, none, none, none, none]]
def kx_m25 : kx_R := (⟨"KiteWar", "seen", "(II)I"⟩, prog_1_method_13_code, 4, Option.some Jvm.ClassFile.FieldType.int, kx_t25, 1, 2, 62, [])
/-- KiteWar.turn(I)I -/
def kx_t26 : List (List (Option kx_I)) := [[some (.aload_n 0, 1), some (.getfield 16, 3), none, none, some (.aload_n 0, 1), some (.getfield 10, 3), none, none, some (.invokevirtual 88, 3), none, none, some (.aload_n 0, 1), some (.aload_n 0, 1), some (.iload_n 1, 1), some (.invokevirtual 194, 3), none],
  [none, some (.invokevirtual 95, 3), none, none, some (.ireturn, 1), none, none, none, none, none, none, none, none, none, none, none]]
def kx_m26 : kx_R := (⟨"KiteWar", "turn", "(I)I"⟩, prog_1_method_14_code, 2, Option.some Jvm.ClassFile.FieldType.int, kx_t26, 1, 7, 187, [])
/-- KiteWar.passTurns(I)I -/
def kx_t27 : List (List (Option kx_I)) := [[some (.iload_n 1, 1), some (.iconst 1, 1), some (.if_icmp .lt 9, 3), none, none, some (.iload_n 1, 1), some (.bipush 9, 2), none, some (.if_icmp .le 6, 3), none, none, some (.bipush (-12), 2), none, some (.ireturn, 1), some (.iconst 0, 1), some (.istore_n 2, 1)],
  [some (.iconst 0, 1), some (.istore_n 3, 1), some (.iload_n 3, 1), some (.iload_n 1, 1), some (.if_icmp .ge 23, 3), none, none, some (.iload_n 2, 1), some (.aload_n 0, 1), some (.getfield 43, 3), none, none, some (.aload_n 0, 1), some (.getfield 10, 3), none, none],
  [some (.invokevirtual 343, 3), none, none, some (.iadd, 1), some (.istore_n 2, 1), some (.iinc 3 1, 3), none, none, some (.goto (-22), 3), none, none, some (.iload_n 2, 1), some (.ireturn, 1), none, none, none]]
def kx_m27 : kx_R := (⟨"KiteWar", "passTurns", "(I)I"⟩, prog_1_method_45_code, 4, Option.some Jvm.ClassFile.FieldType.int, kx_t27, 1, 6, 164, [])
/-- KiteWar.crossings()I -/
def kx_t28 : List (List (Option kx_I)) := [[some (.aload_n 0, 1), some (.getfield 36, 3), none, none, some (.aload_n 0, 1), some (.getfield 10, 3), none, none, some (.invokevirtual 197, 3), none, none, some (.iconst 0, 1), some (.istore_n 1, 1), some (.iconst 0, 1), some (.istore_n 2, 1), some (.iload_n 2, 1)],
  [some (.aload_n 0, 1), some (.getfield 10, 3), none, none, some (.getfield 200, 3), none, none, some (.if_icmp .ge 49, 3), none, none, some (.iload_n 2, 1), some (.iconst 1, 1), some (.iadd, 1), some (.istore_n 3, 1), some (.iload_n 3, 1), some (.aload_n 0, 1)],
  [some (.getfield 10, 3), none, none, some (.getfield 200, 3), none, none, some (.if_icmp .ge 28, 3), none, none, some (.aload_n 0, 1), some (.getfield 36, 3), none, none, some (.aload_n 0, 1), some (.getfield 10, 3), none],
  [none, some (.iload_n 2, 1), some (.iload_n 3, 1), some (.invokevirtual 203, 3), none, none, some (.ifCond .eq 6, 3), none, none, some (.iinc 1 1, 3), none, none, some (.iinc 3 1, 3), none, none, some (.goto (-33), 3)],
  [none, none, some (.iinc 2 1, 3), none, none, some (.goto (-54), 3), none, none, some (.iload_n 1, 1), some (.ireturn, 1), none, none, none, none, none, none]]
def kx_m28 : kx_R := (⟨"KiteWar", "crossings", "()I"⟩, prog_1_method_15_code, 4, Option.some Jvm.ClassFile.FieldType.int, kx_t28, 1, 4, 116, [])
/-- KiteWar.crossingsAgain()I -/
def kx_t29 : List (List (Option kx_I)) := [[some (.aload_n 0, 1), some (.getfield 36, 3), none, none, some (.aload_n 0, 1), some (.getfield 10, 3), none, none, some (.invokevirtual 197, 3), none, none, some (.aload_n 0, 1), some (.getfield 36, 3), none, none, some (.invokevirtual 207, 3)],
  [none, none, some (.iconst 0, 1), some (.istore_n 1, 1), some (.iconst 0, 1), some (.istore_n 2, 1), some (.iload_n 2, 1), some (.bipush 37, 2), none, some (.if_icmp .ge 24, 3), none, none, some (.iload_n 1, 1), some (.aload_n 0, 1), some (.getfield 36, 3), none],
  [none, some (.aload_n 0, 1), some (.getfield 10, 3), none, none, some (.iload_n 2, 1), some (.invokevirtual 210, 3), none, none, some (.iadd, 1), some (.istore_n 1, 1), some (.iinc 2 1, 3), none, none, some (.goto (-24), 3), none],
  [none, some (.iload_n 1, 1), some (.ireturn, 1), none, none, none, none, none, none, none, none, none, none, none, none, none]]
def kx_m29 : kx_R := (⟨"KiteWar", "crossingsAgain", "()I"⟩, prog_1_method_16_code, 3, Option.some Jvm.ClassFile.FieldType.int, kx_t29, 1, 4, 116, [])
/-- KiteWar.driftsTo(II)I -/
def kx_t30 : List (List (Option kx_I)) := [[some (.aload_n 0, 1), some (.iload_n 1, 1), some (.invokevirtual 144, 3), none, none, some (.ifCond .ne 6, 3), none, none, some (.bipush (-11), 2), none, some (.ireturn, 1), some (.iload_n 2, 1), some (.ifCond .lt 9, 3), none, none, some (.iload_n 2, 1)],
  [some (.bipush 9, 2), none, some (.if_icmp .le 6, 3), none, none, some (.bipush (-12), 2), none, some (.ireturn, 1), some (.aload_n 0, 1), some (.getfield 10, 3), none, none, some (.getfield 147, 3), none, none, some (.iload_n 1, 1)],
  [some (.aaload, 1), some (.astore_n 3, 1), some (.aload_n 3, 1), some (.getfield 157, 3), none, none, some (.iconst 2, 1), some (.if_icmp .eq 6, 3), none, none, some (.bipush (-15), 2), none, some (.ireturn, 1), some (.aload_n 3, 1), some (.getfield 166, 3), none],
  [none, some (.istore 4, 2), none, some (.iconst 0, 1), some (.istore 5, 2), none, some (.iload 5, 2), none, some (.iload_n 2, 1), some (.if_icmp .ge 46, 3), none, none, some (.aload_n 0, 1), some (.getfield 10, 3), none, none],
  [some (.getfield 108, 3), none, none, some (.iload 5, 2), none, some (.iadd, 1), some (.istore 6, 2), none, some (.iload 4, 2), none, some (.aload_n 0, 1), some (.getfield 10, 3), none, none, some (.iload 6, 2), none],
  [some (.invokevirtual 114, 3), none, none, some (.aload_n 0, 1), some (.getfield 10, 3), none, none, some (.iload 6, 2), none, some (.invokevirtual 111, 3), none, none, some (.invokestatic 77, 3), none, none, some (.istore 4, 2)],
  [none, some (.iinc 5 1, 3), none, none, some (.goto (-46), 3), none, none, some (.iload 4, 2), none, some (.iconst (-1), 1), some (.if_icmp .ne 8, 3), none, none, some (.bipush (-15), 2), none, some (.goto 5, 3)],
  [none, none, some (.iload 4, 2), none, some (.ireturn, 1), none, none, none, none, none, none, none, none, none, none, none]]
def kx_m30 : kx_R := (⟨"KiteWar", "driftsTo", "(II)I"⟩, prog_1_method_17_code, 7, Option.some Jvm.ClassFile.FieldType.int, kx_t30, 1, 3, 83, [])
/-- KiteWar.bestDirection(I)I -/
def kx_t31 : List (List (Option kx_I)) := [[some (.aload_n 0, 1), some (.iload_n 1, 1), some (.invokevirtual 117, 3), none, none, some (.ifCond .ne 6, 3), none, none, some (.bipush (-11), 2), none, some (.ireturn, 1), some (.aload_n 0, 1), some (.getfield 36, 3), none, none, some (.aload_n 0, 1)],
  [some (.getfield 10, 3), none, none, some (.invokevirtual 214, 3), none, none, some (.aload_n 0, 1), some (.getfield 10, 3), none, none, some (.getfield 120, 3), none, none, some (.iload_n 1, 1), some (.aaload, 1), some (.astore_n 2, 1)],
  [some (.iconst 0, 1), some (.istore_n 3, 1), some (.iconst (-1), 1), some (.istore 4, 2), none, some (.iconst 0, 1), some (.istore 5, 2), none, some (.iconst 0, 1), some (.istore 6, 2), none, some (.iload 6, 2), none, some (.bipush 6, 2), none, some (.if_icmp .ge 60, 3)],
  [none, none, some (.aload_n 2, 1), some (.iload 6, 2), none, some (.invokestatic 217, 3), none, none, some (.istore 7, 2), none, some (.aload_n 0, 1), some (.aload_n 2, 1), some (.iload 6, 2), none, some (.iload 7, 2), none],
  [some (.invokevirtual 221, 3), none, none, some (.istore 8, 2), none, some (.iload 7, 2), none, some (.iload 4, 2), none, some (.if_icmp .gt 17, 3), none, none, some (.iload 7, 2), none, some (.iload 4, 2), none],
  [some (.if_icmp .ne 21, 3), none, none, some (.iload 8, 2), none, some (.iload 5, 2), none, some (.if_icmp .ge 14, 3), none, none, some (.iload 6, 2), none, some (.istore_n 3, 1), some (.iload 7, 2), none, some (.istore 4, 2)],
  [none, some (.iload 8, 2), none, some (.istore 5, 2), none, some (.iinc 6 1, 3), none, none, some (.goto (-61), 3), none, none, some (.iload_n 3, 1), some (.ireturn, 1), none, none, none]]
def kx_m31 : kx_R := (⟨"KiteWar", "bestDirection", "(I)I"⟩, prog_1_method_18_code, 9, Option.some Jvm.ClassFile.FieldType.int, kx_t31, 1, 4, 116, [])
/-- KiteWar.longestLine(LKiteWar$Tower;I)I -/
def kx_t32 : List (List (Option kx_I)) := [[some (.aload_n 0, 1), some (.getfield 132, 3), none, none, some (.istore_n 2, 1), some (.iload_n 2, 1), some (.ifCond .le 22, 3), none, none, some (.aload_n 0, 1), some (.getfield 129, 3), none, none, some (.iload_n 1, 1), some (.iload_n 2, 1), some (.invokestatic 77, 3)],
  [none, none, some (.iconst (-1), 1), some (.if_icmp .ne 9, 3), none, none, some (.iinc 2 (-1), 3), none, none, some (.goto (-20), 3), none, none, some (.iload_n 2, 1), some (.ireturn, 1), none, none]]
def kx_m32 : kx_R := (⟨"KiteWar", "longestLine", "(LKiteWar$Tower;I)I"⟩, prog_1_method_47_code, 3, Option.some Jvm.ClassFile.FieldType.int, kx_t32, 1, 2, 67, [])
/-- KiteWar.linesOfOthersOn(LKiteWar$Tower;II)I -/
def kx_t33 : List (List (Option kx_I)) := [[some (.iconst 0, 1), some (.istore 4, 2), none, some (.iconst 1, 1), some (.istore 5, 2), none, some (.iload 5, 2), none, some (.iload_n 3, 1), some (.if_icmp .gt 79, 3), none, none, some (.aload_n 1, 1), some (.getfield 129, 3), none, none],
  [some (.iload_n 2, 1), some (.iload 5, 2), none, some (.invokestatic 77, 3), none, none, some (.istore 6, 2), none, some (.iconst 0, 1), some (.istore 7, 2), none, some (.iload 7, 2), none, some (.aload_n 0, 1), some (.getfield 10, 3), none],
  [none, some (.getfield 200, 3), none, none, some (.if_icmp .ge 46, 3), none, none, some (.aload_n 0, 1), some (.getfield 10, 3), none, none, some (.getfield 147, 3), none, none, some (.iload 7, 2), none],
  [some (.aaload, 1), some (.getfield 151, 3), none, none, some (.aload_n 1, 1), some (.getfield 124, 3), none, none, some (.if_icmp .eq 20, 3), none, none, some (.aload_n 0, 1), some (.getfield 36, 3), none, none, some (.iload 7, 2)],
  [none, some (.iload 6, 2), none, some (.invokevirtual 358, 3), none, none, some (.ifCond .eq 6, 3), none, none, some (.iinc 4 1, 3), none, none, some (.iinc 7 1, 3), none, none, some (.goto (-52), 3)],
  [none, none, some (.iinc 5 1, 3), none, none, some (.goto (-79), 3), none, none, some (.iload 4, 2), none, some (.ireturn, 1), none, none, none, none, none]]
def kx_m33 : kx_R := (⟨"KiteWar", "linesOfOthersOn", "(LKiteWar$Tower;II)I"⟩, prog_1_method_48_code, 8, Option.some Jvm.ClassFile.FieldType.int, kx_t33, 1, 2, 67, [])
/-- KiteWar.nearest(II)I -/
def kx_t34 : List (List (Option kx_I)) := [[some (.iload_n 1, 1), some (.invokestatic 182, 3), none, none, some (.ifCond .eq 10, 3), none, none, some (.iload_n 2, 1), some (.invokestatic 68, 3), none, none, some (.ifCond .ne 6, 3), none, none, some (.bipush (-11), 2), none],
  [some (.ireturn, 1), some (.bipush (-15), 2), none, some (.istore_n 3, 1), some (.bipush 37, 2), none, some (.istore 4, 2), none, some (.iconst 0, 1), some (.istore 5, 2), none, some (.iload 5, 2), none, some (.aload_n 0, 1), some (.getfield 10, 3), none],
  [none, some (.getfield 225, 3), none, none, some (.if_icmp .ge 55, 3), none, none, some (.aload_n 0, 1), some (.getfield 10, 3), none, none, some (.getfield 120, 3), none, none, some (.iload 5, 2), none],
  [some (.aaload, 1), some (.astore 6, 2), none, some (.aload 6, 2), none, some (.getfield 129, 3), none, none, some (.iload_n 2, 1), some (.invokestatic 81, 3), none, none, some (.istore 7, 2), none, some (.aload 6, 2), none],
  [some (.getfield 124, 3), none, none, some (.iload_n 1, 1), some (.if_icmp .ne 17, 3), none, none, some (.iload 7, 2), none, some (.iload 4, 2), none, some (.if_icmp .ge 10, 3), none, none, some (.iload 5, 2), none],
  [some (.istore_n 3, 1), some (.iload 7, 2), none, some (.istore 4, 2), none, some (.iinc 5 1, 3), none, none, some (.goto (-61), 3), none, none, some (.iload_n 3, 1), some (.ireturn, 1), none, none, none]]
def kx_m34 : kx_R := (⟨"KiteWar", "nearest", "(II)I"⟩, prog_1_method_19_code, 8, Option.some Jvm.ClassFile.FieldType.int, kx_t34, 1, 3, 87, [])
/-- KiteWar.append(I)I -/
def kx_t35 : List (List (Option kx_I)) := [[some (.iload_n 1, 1), some (.bipush 32, 2), none, some (.if_icmp .lt 9, 3), none, none, some (.iload_n 1, 1), some (.bipush 126, 2), none, some (.if_icmp .le 6, 3), none, none, some (.bipush (-12), 2), none, some (.ireturn, 1), some (.aload_n 0, 1)],
  [some (.getfield 50, 3), none, none, some (.getfield 228, 3), none, none, some (.invokevirtual 231, 3), none, none, some (.bipush 60, 2), none, some (.if_icmp .lt 6, 3), none, none, some (.bipush (-13), 2), none],
  [some (.ireturn, 1), some (.aload_n 0, 1), some (.getfield 50, 3), none, none, some (.getfield 228, 3), none, none, some (.iload_n 1, 1), some (.i2c, 1), some (.invokevirtual 234, 3), none, none, some (.pop, 1), some (.aload_n 0, 1), some (.getfield 50, 3)],
  [none, none, some (.getfield 228, 3), none, none, some (.invokevirtual 231, 3), none, none, some (.ireturn, 1), none, none, none, none, none, none, none]]
def kx_m35 : kx_R := (⟨"KiteWar", "append", "(I)I"⟩, prog_1_method_20_code, 2, Option.some Jvm.ClassFile.FieldType.int, kx_t35, 1, 6, 152, [])
/-- KiteWar.run()I -/
def kx_t36 : List (List (Option kx_I)) := [[some (.aload_n 0, 1), some (.getfield 50, 3), none, none, some (.invokevirtual 238, 3), none, none, some (.aload_n 0, 1), some (.getfield 50, 3), none, none, some (.getfield 228, 3), none, none, some (.iconst 0, 1), some (.invokevirtual 241, 3)],
  [none, none, some (.aload_n 0, 1), some (.getfield 50, 3), none, none, some (.getfield 245, 3), none, none, some (.ifCond .eq 15, 3), none, none, some (.sipush (-1000), 3), none, none, some (.aload_n 0, 1)],
  [some (.getfield 50, 3), none, none, some (.getfield 248, 3), none, none, some (.isub, 1), some (.ireturn, 1), some (.aload_n 0, 1), some (.getfield 16, 3), none, none, some (.aload_n 0, 1), some (.getfield 10, 3), none, none],
  [some (.invokevirtual 88, 3), none, none, some (.iconst 0, 1), some (.istore_n 1, 1), some (.iload_n 1, 1), some (.aload_n 0, 1), some (.getfield 50, 3), none, none, some (.getfield 251, 3), none, none, some (.if_icmp .ge 44, 3), none, none],
  [some (.aload_n 0, 1), some (.aload_n 0, 1), some (.getfield 50, 3), none, none, some (.getfield 254, 3), none, none, some (.iload_n 1, 1), some (.aaload, 1), some (.invokevirtual 258, 3), none, none, some (.ifCond .ge 22, 3), none, none],
  [some (.aload_n 0, 1), some (.getfield 10, 3), none, none, some (.aload_n 0, 1), some (.getfield 16, 3), none, none, some (.invokevirtual 88, 3), none, none, some (.aload_n 0, 1), some (.bipush 8, 2), none, some (.iload_n 1, 1), some (.invokevirtual 185, 3)],
  [none, none, some (.ireturn, 1), some (.iinc 1 1, 3), none, none, some (.goto (-49), 3), none, none, some (.aload_n 0, 1), some (.aload_n 0, 1), some (.getfield 50, 3), none, none, some (.getfield 251, 3), none],
  [none, some (.invokevirtual 95, 3), none, none, some (.ireturn, 1), none, none, none, none, none, none, none, none, none, none, none]]
def kx_m36 : kx_R := (⟨"KiteWar", "run", "()I"⟩, prog_1_method_21_code, 2, Option.some Jvm.ClassFile.FieldType.int, kx_t36, 1, 11, 253, [])
/-- KiteWar.carryOut(LKiteWar$Order;)I -/
def kx_t37 : List (List (Option kx_I)) := [[some (.aload_n 1, 1), some (.getfield 347, 3), none, none, some (.lookupswitch 50 #[(7, 28), (8, 41)], 28), none, none, none, none, none, none, none, none, none, none, none],
  [none, none, none, none, none, none, none, none, none, none, none, none, none, none, none, none],
  [some (.aload_n 0, 1), some (.aload_n 1, 1), some (.getfield 352, 3), none, none, some (.aload_n 1, 1), some (.getfield 355, 3), none, none, some (.invokevirtual 102, 3), none, none, some (.ireturn, 1), some (.aload_n 0, 1), some (.aload_n 1, 1), some (.getfield 352, 3)],
  [none, none, some (.invokevirtual 194, 3), none, none, some (.ireturn, 1), some (.aload_n 0, 1), some (.aload_n 1, 1), some (.getfield 352, 3), none, none, some (.aload_n 1, 1), some (.getfield 347, 3), none, none, some (.aload_n 1, 1)],
  [some (.getfield 355, 3), none, none, some (.invokevirtual 176, 3), none, none, some (.ireturn, 1), none, none, none, none, none, none, none, none, none]]
def kx_m37 : kx_R := (⟨"KiteWar", "carryOut", "(LKiteWar$Order;)I"⟩, prog_1_method_46_code, 2, Option.some Jvm.ClassFile.FieldType.int, kx_t37, 1, 7, 187, [])
/-- KiteWar.tell(I)I -/
def kx_t38 : List (List (Option kx_I)) := [[some (.iload_n 1, 1), some (.ifCond .lt 9, 3), none, none, some (.iload_n 1, 1), some (.bipush 7, 2), none, some (.if_icmp .lt 6, 3), none, none, some (.bipush (-11), 2), none, some (.ireturn, 1), some (.aload_n 0, 1), some (.getfield 36, 3), none],
  [none, some (.aload_n 0, 1), some (.getfield 10, 3), none, none, some (.invokevirtual 214, 3), none, none, some (.aload_n 0, 1), some (.getfield 57, 3), none, none, some (.iconst 0, 1), some (.invokevirtual 241, 3), none, none],
  [some (.getstatic 262, 3), none, none, some (.iload_n 1, 1), some (.iaload, 1), some (.istore_n 2, 1), some (.iload_n 2, 1), some (.istore_n 3, 1), some (.iload_n 3, 1), some (.getstatic 262, 3), none, none, some (.iload_n 1, 1), some (.iconst 1, 1), some (.iadd, 1), some (.iaload, 1)],
  [some (.if_icmp .ge 29, 3), none, none, some (.iload_n 3, 1), some (.iload_n 2, 1), some (.if_icmp .le 13, 3), none, none, some (.aload_n 0, 1), some (.getfield 57, 3), none, none, some (.bipush 32, 2), none, some (.invokevirtual 234, 3), none],
  [none, some (.pop, 1), some (.aload_n 0, 1), some (.iload_n 3, 1), some (.invokevirtual 266, 3), none, none, some (.iinc 3 1, 3), none, none, some (.goto (-34), 3), none, none, some (.aload_n 0, 1), some (.getfield 57, 3), none],
  [none, some (.invokevirtual 231, 3), none, none, some (.ireturn, 1), none, none, none, none, none, none, none, none, none, none, none]]
def kx_m38 : kx_R := (⟨"KiteWar", "tell", "(I)I"⟩, prog_1_method_22_code, 4, Option.some Jvm.ClassFile.FieldType.int, kx_t38, 1, 7, 177, [])
/-- KiteWar.writeSign(I)V -/
def kx_t39 : List (List (Option kx_I)) := [[some (.aload_n 0, 1), some (.getfield 10, 3), none, none, some (.iload_n 1, 1), some (.invokevirtual 321, 3), none, none, some (.istore_n 2, 1), some (.aload_n 0, 1), some (.getfield 10, 3), none, none, some (.iload_n 1, 1), some (.invokevirtual 361, 3), none],
  [none, some (.istore_n 3, 1), some (.iload_n 2, 1), some (.ifCond .lt 36, 3), none, none, some (.aload_n 0, 1), some (.getfield 57, 3), none, none, some (.aload_n 0, 1), some (.getfield 10, 3), none, none, some (.getfield 120, 3), none],
  [none, some (.iload_n 2, 1), some (.aaload, 1), some (.getfield 124, 3), none, none, some (.ifCond .ne 8, 3), none, none, some (.bipush 65, 2), none, some (.goto 5, 3), none, none, some (.bipush 66, 2), none],
  [some (.invokevirtual 234, 3), none, none, some (.pop, 1), some (.goto 49, 3), none, none, some (.iload_n 3, 1), some (.ifCond .lt 15, 3), none, none, some (.aload_n 0, 1), some (.getfield 57, 3), none, none, some (.iload_n 3, 1)],
  [some (.invokevirtual 269, 3), none, none, some (.pop, 1), some (.goto 33, 3), none, none, some (.aload_n 0, 1), some (.getfield 57, 3), none, none, some (.aload_n 0, 1), some (.getfield 36, 3), none, none, some (.aload_n 0, 1)],
  [some (.getfield 10, 3), none, none, some (.iload_n 1, 1), some (.invokevirtual 364, 3), none, none, some (.ifCond .eq 8, 3), none, none, some (.bipush 43, 2), none, some (.goto 5, 3), none, none, some (.bipush 46, 2)],
  [none, some (.invokevirtual 234, 3), none, none, some (.pop, 1), some (.return_, 1), none, none, none, none, none, none, none, none, none, none]]
def kx_m39 : kx_R := (⟨"KiteWar", "writeSign", "(I)V"⟩, prog_1_method_49_code, 4, Option.none, kx_t39, 1, 6, 154, [])
/-- KiteWar.tellKite(I)I -/
def kx_t40 : List (List (Option kx_I)) := [[some (.aload_n 0, 1), some (.iload_n 1, 1), some (.invokevirtual 144, 3), none, none, some (.ifCond .ne 6, 3), none, none, some (.bipush (-11), 2), none, some (.ireturn, 1), some (.aload_n 0, 1), some (.getfield 10, 3), none, none, some (.getfield 147, 3)],
  [none, none, some (.iload_n 1, 1), some (.aaload, 1), some (.astore_n 2, 1), some (.aload_n 0, 1), some (.getfield 57, 3), none, none, some (.iconst 0, 1), some (.invokevirtual 241, 3), none, none, some (.aload_n 0, 1), some (.getfield 57, 3), none],
  [none, some (.bipush 107, 2), none, some (.invokevirtual 234, 3), none, none, some (.pop, 1), some (.aload_n 0, 1), some (.getfield 57, 3), none, none, some (.iload_n 1, 1), some (.invokevirtual 269, 3), none, none, some (.pop, 1)],
  [some (.aload_n 0, 1), some (.aload_n 2, 1), some (.invokevirtual 272, 3), none, none, some (.aload_n 2, 1), some (.getfield 157, 3), none, none, some (.iconst 3, 1), some (.if_icmp .eq 26, 3), none, none, some (.aload_n 0, 1), some (.getfield 57, 3), none],
  [none, some (.ldc_w 276, 3), none, none, some (.invokevirtual 278, 3), none, none, some (.pop, 1), some (.aload_n 0, 1), some (.getfield 57, 3), none, none, some (.aload_n 2, 1), some (.getfield 167, 3), none, none],
  [some (.invokevirtual 269, 3), none, none, some (.pop, 1), some (.aload_n 0, 1), some (.getfield 57, 3), none, none, some (.invokevirtual 231, 3), none, none, some (.ireturn, 1), none, none, none, none]]
def kx_m40 : kx_R := (⟨"KiteWar", "tellKite", "(I)I"⟩, prog_1_method_23_code, 3, Option.some Jvm.ClassFile.FieldType.int, kx_t40, 1, 7, 175, [])
/-- KiteWar.writeHow(LKiteWar$Kite;)V -/
def kx_t41 : List (List (Option kx_I)) := [[some (.aload_n 1, 1), some (.getfield 157, 3), none, none, some (.tableswitch 116 0 2 #[28, 42, 90], 28), none, none, none, none, none, none, none, none, none, none, none],
  [none, none, none, none, none, none, none, none, none, none, none, none, none, none, none, none],
  [some (.aload_n 0, 1), some (.getfield 57, 3), none, none, some (.ldc_w 368, 3), none, none, some (.invokevirtual 278, 3), none, none, some (.pop, 1), some (.goto 88, 3), none, none, some (.aload_n 0, 1), some (.getfield 57, 3)],
  [none, none, some (.ldc_w 370, 3), none, none, some (.invokevirtual 278, 3), none, none, some (.pop, 1), some (.aload_n 0, 1), some (.getfield 57, 3), none, none, some (.aload_n 1, 1), some (.getfield 160, 3), none],
  [none, some (.invokevirtual 269, 3), none, none, some (.pop, 1), some (.aload_n 0, 1), some (.getfield 57, 3), none, none, some (.bipush 120, 2), none, some (.invokevirtual 234, 3), none, none, some (.pop, 1), some (.aload_n 0, 1)],
  [some (.getfield 57, 3), none, none, some (.aload_n 1, 1), some (.getfield 163, 3), none, none, some (.invokevirtual 269, 3), none, none, some (.pop, 1), some (.goto 40, 3), none, none, some (.aload_n 0, 1), some (.getfield 57, 3)],
  [none, none, some (.ldc_w 372, 3), none, none, some (.invokevirtual 278, 3), none, none, some (.pop, 1), some (.aload_n 0, 1), some (.getfield 57, 3), none, none, some (.aload_n 1, 1), some (.getfield 166, 3), none],
  [none, some (.invokevirtual 269, 3), none, none, some (.pop, 1), some (.goto 14, 3), none, none, some (.aload_n 0, 1), some (.getfield 57, 3), none, none, some (.ldc_w 374, 3), none, none, some (.invokevirtual 278, 3)],
  [none, none, some (.pop, 1), some (.return_, 1), none, none, none, none, none, none, none, none, none, none, none, none]]
def kx_m41 : kx_R := (⟨"KiteWar", "writeHow", "(LKiteWar$Kite;)V"⟩, prog_1_method_50_code, 2, Option.none, kx_t41, 1, 6, 154, [])
/-- KiteWar.character(I)I -/
def kx_t42 : List (List (Option kx_I)) := [[some (.iload_n 1, 1), some (.ifCond .lt 14, 3), none, none, some (.iload_n 1, 1), some (.aload_n 0, 1), some (.getfield 57, 3), none, none, some (.invokevirtual 231, 3), none, none, some (.if_icmp .lt 6, 3), none, none, some (.bipush (-11), 2)],
  [none, some (.ireturn, 1), some (.aload_n 0, 1), some (.getfield 57, 3), none, none, some (.iload_n 1, 1), some (.invokevirtual 281, 3), none, none, some (.ireturn, 1), none, none, none, none, none]]
def kx_m42 : kx_R := (⟨"KiteWar", "character", "(I)I"⟩, prog_1_method_24_code, 2, Option.some Jvm.ClassFile.FieldType.int, kx_t42, 1, 5, 128, [])
/-- KiteWar.reason(Z)I -/
def kx_t43 : List (List (Option kx_I)) := [[some (.iload_n 1, 1), some (.ifCond .eq 10, 3), none, none, some (.aload_n 0, 1), some (.getfield 65, 3), none, none, some (.goto 7, 3), none, none, some (.aload_n 0, 1), some (.getfield 61, 3), none, none, some (.ireturn, 1)]]
def kx_m43 : kx_R := (⟨"KiteWar", "reason", "(Z)I"⟩, prog_1_method_25_code, 2, Option.some Jvm.ClassFile.FieldType.int, kx_t43, 1, 1, 40, [])
/-- KiteWar.account(I)I -/
def kx_t44 : List (List (Option kx_I)) := [[some (.iload_n 1, 1), some (.tableswitch 252 0 17 #[87, 95, 103, 111, 120, 129, 138, 147, 165, 173, 183, 193, 201, 209, 217, 225, 233, 244], 87), none, none, none, none, none, none, none, none, none, none, none, none, none, none],
  [none, none, none, none, none, none, none, none, none, none, none, none, none, none, none, none],
  [none, none, none, none, none, none, none, none, none, none, none, none, none, none, none, none],
  [none, none, none, none, none, none, none, none, none, none, none, none, none, none, none, none],
  [none, none, none, none, none, none, none, none, none, none, none, none, none, none, none, none],
  [none, none, none, none, none, none, none, none, some (.aload_n 0, 1), some (.getfield 10, 3), none, none, some (.getfield 108, 3), none, none, some (.ireturn, 1)],
  [some (.aload_n 0, 1), some (.getfield 10, 3), none, none, some (.getfield 225, 3), none, none, some (.ireturn, 1), some (.aload_n 0, 1), some (.getfield 10, 3), none, none, some (.getfield 200, 3), none, none, some (.ireturn, 1)],
  [some (.aload_n 0, 1), some (.getfield 10, 3), none, none, some (.iconst 0, 1), some (.invokevirtual 285, 3), none, none, some (.ireturn, 1), some (.aload_n 0, 1), some (.getfield 10, 3), none, none, some (.iconst 1, 1), some (.invokevirtual 285, 3), none],
  [none, some (.ireturn, 1), some (.aload_n 0, 1), some (.getfield 10, 3), none, none, some (.iconst 2, 1), some (.invokevirtual 285, 3), none, none, some (.ireturn, 1), some (.aload_n 0, 1), some (.getfield 10, 3), none, none, some (.iconst 3, 1)],
  [some (.invokevirtual 285, 3), none, none, some (.ireturn, 1), some (.aload_n 0, 1), some (.getfield 10, 3), none, none, some (.iconst 0, 1), some (.invokevirtual 288, 3), none, none, some (.aload_n 0, 1), some (.getfield 10, 3), none, none],
  [some (.iconst 1, 1), some (.invokevirtual 288, 3), none, none, some (.iadd, 1), some (.ireturn, 1), some (.aload_n 0, 1), some (.getfield 10, 3), none, none, some (.getfield 105, 3), none, none, some (.ireturn, 1), some (.aload_n 0, 1), some (.getfield 10, 3)],
  [none, none, some (.getfield 291, 3), none, none, some (.iconst 0, 1), some (.iaload, 1), some (.ireturn, 1), some (.aload_n 0, 1), some (.getfield 10, 3), none, none, some (.getfield 291, 3), none, none, some (.iconst 1, 1)],
  [some (.iaload, 1), some (.ireturn, 1), some (.aload_n 0, 1), some (.getfield 10, 3), none, none, some (.getfield 294, 3), none, none, some (.ireturn, 1), some (.aload_n 0, 1), some (.getfield 10, 3), none, none, some (.getfield 295, 3), none],
  [none, some (.ireturn, 1), some (.aload_n 0, 1), some (.getfield 10, 3), none, none, some (.getfield 298, 3), none, none, some (.ireturn, 1), some (.aload_n 0, 1), some (.getfield 10, 3), none, none, some (.getfield 301, 3), none],
  [none, some (.ireturn, 1), some (.aload_n 0, 1), some (.getfield 10, 3), none, none, some (.getfield 304, 3), none, none, some (.ireturn, 1), some (.aload_n 0, 1), some (.getfield 50, 3), none, none, some (.getfield 228, 3), none],
  [none, some (.invokevirtual 231, 3), none, none, some (.ireturn, 1), some (.aload_n 0, 1), some (.getfield 29, 3), none, none, some (.getfield 307, 3), none, none, some (.ireturn, 1), some (.bipush (-12), 2), none, some (.ireturn, 1)]]
def kx_m44 : kx_R := (⟨"KiteWar", "account", "(I)I"⟩, prog_1_method_26_code, 2, Option.some Jvm.ClassFile.FieldType.int, kx_t44, 1, 3, 80, [])
/-- KiteWar.isBalanced()I -/
def kx_t45 : List (List (Option kx_I)) := [[some (.iconst 0, 1), some (.istore_n 1, 1), some (.iload_n 1, 1), some (.aload_n 0, 1), some (.getfield 10, 3), none, none, some (.getfield 200, 3), none, none, some (.if_icmp .ge 26, 3), none, none, some (.aload_n 0, 1), some (.getfield 10, 3), none],
  [none, some (.getfield 147, 3), none, none, some (.iload_n 1, 1), some (.aaload, 1), some (.invokestatic 308, 3), none, none, some (.ifCond .ne 5, 3), none, none, some (.iconst 0, 1), some (.ireturn, 1), some (.iinc 1 1, 3), none],
  [none, some (.goto (-31), 3), none, none, some (.aload_n 0, 1), some (.getfield 10, 3), none, none, some (.iconst 3, 1), some (.invokevirtual 285, 3), none, none, some (.aload_n 0, 1), some (.getfield 10, 3), none, none],
  [some (.getfield 301, 3), none, none, some (.isub, 1), some (.istore_n 1, 1), some (.aload_n 0, 1), some (.getfield 10, 3), none, none, some (.getfield 298, 3), none, none, some (.aload_n 0, 1), some (.getfield 10, 3), none, none],
  [some (.getfield 301, 3), none, none, some (.iadd, 1), some (.istore_n 2, 1), some (.aload_n 0, 1), some (.getfield 10, 3), none, none, some (.getfield 294, 3), none, none, some (.aload_n 0, 1), some (.getfield 10, 3), none, none],
  [some (.iconst 2, 1), some (.invokevirtual 285, 3), none, none, some (.iload_n 2, 1), some (.iadd, 1), some (.iload_n 1, 1), some (.iadd, 1), some (.if_icmp .ne 7, 3), none, none, some (.iconst 1, 1), some (.goto 4, 3), none, none, some (.iconst 0, 1)],
  [some (.ireturn, 1), none, none, none, none, none, none, none, none, none, none, none, none, none, none, none]]
def kx_m45 : kx_R := (⟨"KiteWar", "isBalanced", "()I"⟩, prog_1_method_27_code, 3, Option.some Jvm.ClassFile.FieldType.int, kx_t45, 1, 3, 88, [])
/-- KiteWar.isSound(LKiteWar$Kite;)Z -/
def kx_t46 : List (List (Option kx_I)) := [[some (.aload_n 0, 1), some (.getfield 157, 3), none, none, some (.iconst 1, 1), some (.if_icmp .ne 56, 3), none, none, some (.aload_n 0, 1), some (.getfield 376, 3), none, none, some (.aload_n 0, 1), some (.getfield 160, 3), none, none],
  [some (.aload_n 0, 1), some (.getfield 163, 3), none, none, some (.invokestatic 77, 3), none, none, some (.istore_n 1, 1), some (.aload_n 0, 1), some (.getfield 163, 3), none, none, some (.iconst 1, 1), some (.if_icmp .lt 30, 3), none, none],
  [some (.aload_n 0, 1), some (.getfield 163, 3), none, none, some (.aload_n 0, 1), some (.getfield 379, 3), none, none, some (.if_icmp .gt 19, 3), none, none, some (.iload_n 1, 1), some (.iconst (-1), 1), some (.if_icmp .eq 14, 3), none, none],
  [some (.aload_n 0, 1), some (.getfield 167, 3), none, none, some (.ifCond .lt 7, 3), none, none, some (.iconst 1, 1), some (.goto 4, 3), none, none, some (.iconst 0, 1), some (.ireturn, 1), some (.aload_n 0, 1), some (.getfield 157, 3), none],
  [none, some (.ifCond .ne 10, 3), none, none, some (.aload_n 0, 1), some (.getfield 167, 3), none, none, some (.ifCond .lt 7, 3), none, none, some (.iconst 1, 1), some (.goto 4, 3), none, none, some (.iconst 0, 1)],
  [some (.ireturn, 1), none, none, none, none, none, none, none, none, none, none, none, none, none, none, none]]
def kx_m46 : kx_R := (⟨"KiteWar", "isSound", "(LKiteWar$Kite;)Z"⟩, prog_1_method_51_code, 2, Option.some Jvm.ClassFile.FieldType.boolean, kx_t46, 1, 2, 67, [])
/-- KiteWar.meanStrength()D -/
def kx_t47 : List (List (Option kx_I)) := [[some (.iconst 0, 1), some (.istore_n 1, 1), some (.iconst 0, 1), some (.istore_n 2, 1), some (.iconst 0, 1), some (.istore_n 3, 1), some (.iload_n 3, 1), some (.aload_n 0, 1), some (.getfield 10, 3), none, none, some (.getfield 200, 3), none, none, some (.if_icmp .ge 43, 3), none],
  [none, some (.aload_n 0, 1), some (.getfield 10, 3), none, none, some (.getfield 147, 3), none, none, some (.iload_n 3, 1), some (.aaload, 1), some (.getfield 157, 3), none, none, some (.iconst 3, 1), some (.if_icmp .eq 21, 3), none],
  [none, some (.iload_n 1, 1), some (.aload_n 0, 1), some (.getfield 10, 3), none, none, some (.getfield 147, 3), none, none, some (.iload_n 3, 1), some (.aaload, 1), some (.getfield 167, 3), none, none, some (.iadd, 1), some (.istore_n 1, 1)],
  [some (.iinc 2 1, 3), none, none, some (.iinc 3 1, 3), none, none, some (.goto (-48), 3), none, none, some (.iload_n 2, 1), some (.ifCond .ne 7, 3), none, none, some (.dconst 0, 1), some (.goto 8, 3), none],
  [none, some (.iload_n 1, 1), some (.i2d, 1), some (.iload_n 2, 1), some (.i2d, 1), some (.ddiv, 1), some (.dreturn, 1), none, none, none, none, none, none, none, none, none]]
def kx_m47 : kx_R := (⟨"KiteWar", "meanStrength", "()D"⟩, prog_1_method_28_code, 4, Option.some Jvm.ClassFile.FieldType.double, kx_t47, 1, 1, 40, [])
/-- KiteWar.lostShare()F -/
def kx_t48 : List (List (Option kx_I)) := [[some (.aload_n 0, 1), some (.getfield 10, 3), none, none, some (.getfield 200, 3), none, none, some (.ifCond .ne 5, 3), none, none, some (.fconst 0, 1), some (.freturn, 1), some (.aload_n 0, 1), some (.getfield 10, 3), none, none],
  [some (.iconst 3, 1), some (.invokevirtual 285, 3), none, none, some (.i2f, 1), some (.aload_n 0, 1), some (.getfield 10, 3), none, none, some (.getfield 200, 3), none, none, some (.i2f, 1), some (.fdiv, 1), some (.freturn, 1), none]]
def kx_m48 : kx_R := (⟨"KiteWar", "lostShare", "()F"⟩, prog_1_method_29_code, 1, Option.some Jvm.ClassFile.FieldType.float, kx_t48, 1, 2, 63, [])
/-- KiteWar.undo()I -/
def kx_t49 : List (List (Option kx_I)) := [[some (.aload_n 0, 1), some (.getfield 29, 3), none, none, some (.getfield 307, 3), none, none, some (.ifCond .ne 6, 3), none, none, some (.bipush (-15), 2), none, some (.ireturn, 1), some (.aload_n 0, 1), some (.getfield 29, 3), none],
  [none, some (.aload_n 0, 1), some (.getfield 10, 3), none, none, some (.invokevirtual 312, 3), none, none, some (.aload_n 0, 1), some (.getfield 29, 3), none, none, some (.getfield 307, 3), none, none, some (.ireturn, 1)]]
def kx_m49 : kx_R := (⟨"KiteWar", "undo", "()I"⟩, prog_1_method_30_code, 1, Option.some Jvm.ClassFile.FieldType.int, kx_t49, 1, 4, 104, [])
/-- KiteWar.save()I -/
def kx_t50 : List (List (Option kx_I)) := [[some (.aload_n 0, 1), some (.getfield 19, 3), none, none, some (.aload_n 0, 1), some (.getfield 10, 3), none, none, some (.invokevirtual 88, 3), none, none, some (.aload_n 0, 1), some (.iconst 1, 1), some (.putfield 22, 3), none, none],
  [some (.aload_n 0, 1), some (.getfield 10, 3), none, none, some (.getfield 200, 3), none, none, some (.ireturn, 1), none, none, none, none, none, none, none, none]]
def kx_m50 : kx_R := (⟨"KiteWar", "save", "()I"⟩, prog_1_method_31_code, 1, Option.some Jvm.ClassFile.FieldType.int, kx_t50, 1, 3, 83, [])
/-- KiteWar.restore()I -/
def kx_t51 : List (List (Option kx_I)) := [[some (.aload_n 0, 1), some (.getfield 22, 3), none, none, some (.ifCond .ne 6, 3), none, none, some (.bipush (-15), 2), none, some (.ireturn, 1), some (.aload_n 0, 1), some (.getfield 10, 3), none, none, some (.aload_n 0, 1), some (.getfield 19, 3)],
  [none, none, some (.invokevirtual 88, 3), none, none, some (.aload_n 0, 1), some (.getfield 29, 3), none, none, some (.invokevirtual 315, 3), none, none, some (.aload_n 0, 1), some (.getfield 10, 3), none, none],
  [some (.getfield 200, 3), none, none, some (.ireturn, 1), none, none, none, none, none, none, none, none, none, none, none, none]]
def kx_m51 : kx_R := (⟨"KiteWar", "restore", "()I"⟩, prog_1_method_32_code, 1, Option.some Jvm.ClassFile.FieldType.int, kx_t51, 1, 3, 83, [])
/-- KiteWar$Field.has(I)Z -/
def kx_t52 : List (List (Option kx_I)) := [[some (.iload_n 0, 1), some (.ifCond .lt 13, 3), none, none, some (.iload_n 0, 1), some (.bipush 37, 2), none, some (.if_icmp .ge 7, 3), none, none, some (.iconst 1, 1), some (.goto 4, 3), none, none, some (.iconst 0, 1), some (.ireturn, 1)]]
def kx_m52 : kx_R := (⟨"KiteWar$Field", "has", "(I)Z"⟩, prog_2_method_2_code, 1, Option.some Jvm.ClassFile.FieldType.boolean, kx_t52, 2, 1, 40, [])
/-- KiteWar$Field.walk(III)I -/
def kx_t53 : List (List (Option kx_I)) := [[some (.iload_n 0, 1), some (.ifCond .lt 19, 3), none, none, some (.iload_n 0, 1), some (.bipush 37, 2), none, some (.if_icmp .ge 13, 3), none, none, some (.iload_n 1, 1), some (.ifCond .lt 9, 3), none, none, some (.iload_n 1, 1), some (.bipush 6, 2)],
  [none, some (.if_icmp .lt 5, 3), none, none, some (.iconst (-1), 1), some (.ireturn, 1), some (.getstatic 11, 3), none, none, some (.iload_n 0, 1), some (.iaload, 1), some (.istore_n 3, 1), some (.iload_n 0, 1), some (.getstatic 15, 3), none, none],
  [some (.iload_n 3, 1), some (.iaload, 1), some (.isub, 1), some (.getstatic 18, 3), none, none, some (.iload_n 3, 1), some (.iaload, 1), some (.isub, 1), some (.iload_n 2, 1), some (.getstatic 21, 3), none, none, some (.iload_n 1, 1), some (.iaload, 1), some (.imul, 1)],
  [some (.iadd, 1), some (.istore 4, 2), none, some (.iload_n 3, 1), some (.iload_n 2, 1), some (.getstatic 24, 3), none, none, some (.iload_n 1, 1), some (.iaload, 1), some (.imul, 1), some (.iadd, 1), some (.istore 5, 2), none, some (.iload 5, 2), none],
  [some (.ifCond .lt 10, 3), none, none, some (.iload 5, 2), none, some (.bipush 7, 2), none, some (.if_icmp .lt 5, 3), none, none, some (.iconst (-1), 1), some (.ireturn, 1), some (.iload 4, 2), none, some (.getstatic 18, 3), none],
  [none, some (.iload 5, 2), none, some (.iaload, 1), some (.iadd, 1), some (.istore 6, 2), none, some (.getstatic 15, 3), none, none, some (.iload 5, 2), none, some (.iaload, 1), some (.iload 6, 2), none, some (.iadd, 1)],
  [some (.istore 7, 2), none, some (.iload 6, 2), none, some (.ifCond .lt 16, 3), none, none, some (.iload 7, 2), none, some (.getstatic 15, 3), none, none, some (.iload 5, 2), none, some (.iconst 1, 1), some (.iadd, 1)],
  [some (.iaload, 1), some (.if_icmp .lt 7, 3), none, none, some (.iconst (-1), 1), some (.goto 5, 3), none, none, some (.iload 7, 2), none, some (.ireturn, 1), none, none, none, none, none]]
def kx_m53 : kx_R := (⟨"KiteWar$Field", "walk", "(III)I"⟩, prog_2_method_3_code, 8, Option.some Jvm.ClassFile.FieldType.int, kx_t53, 2, 1, 40, [])
/-- KiteWar$Field.distance(II)I -/
def kx_t54 : List (List (Option kx_I)) := [[some (.iload_n 0, 1), some (.invokestatic 27, 3), none, none, some (.ifCond .eq 10, 3), none, none, some (.iload_n 1, 1), some (.invokestatic 27, 3), none, none, some (.ifCond .ne 5, 3), none, none, some (.iconst (-1), 1), some (.ireturn, 1)],
  [some (.getstatic 11, 3), none, none, some (.iload_n 0, 1), some (.iaload, 1), some (.istore_n 2, 1), some (.getstatic 11, 3), none, none, some (.iload_n 1, 1), some (.iaload, 1), some (.istore_n 3, 1), some (.iload_n 0, 1), some (.getstatic 15, 3), none, none],
  [some (.iload_n 2, 1), some (.iaload, 1), some (.isub, 1), some (.getstatic 18, 3), none, none, some (.iload_n 2, 1), some (.iaload, 1), some (.isub, 1), some (.istore 4, 2), none, some (.iload_n 1, 1), some (.getstatic 15, 3), none, none, some (.iload_n 3, 1)],
  [some (.iaload, 1), some (.isub, 1), some (.getstatic 18, 3), none, none, some (.iload_n 3, 1), some (.iaload, 1), some (.isub, 1), some (.istore 5, 2), none, some (.iload_n 3, 1), some (.iload_n 2, 1), some (.isub, 1), some (.istore 6, 2), none, some (.iload 5, 2)],
  [none, some (.iload 4, 2), none, some (.isub, 1), some (.istore 7, 2), none, some (.iload 6, 2), none, some (.iload 7, 2), none, some (.iadd, 1), some (.invokestatic 31, 3), none, none, some (.iload 6, 2), none],
  [some (.invokestatic 31, 3), none, none, some (.iload 7, 2), none, some (.invokestatic 31, 3), none, none, some (.invokestatic 37, 3), none, none, some (.invokestatic 37, 3), none, none, some (.ireturn, 1), none]]
def kx_m54 : kx_R := (⟨"KiteWar$Field", "distance", "(II)I"⟩, prog_2_method_4_code, 8, Option.some Jvm.ClassFile.FieldType.int, kx_t54, 2, 2, 60, [])
/-- KiteWar$Field.stepsByNeighbours(II)I -/
def kx_t55 : List (List (Option kx_I)) := [[some (.iload_n 0, 1), some (.invokestatic 27, 3), none, none, some (.ifCond .eq 10, 3), none, none, some (.iload_n 1, 1), some (.invokestatic 27, 3), none, none, some (.ifCond .ne 5, 3), none, none, some (.iconst (-1), 1), some (.ireturn, 1)],
  [some (.lconst 1, 1), some (.iload_n 0, 1), some (.lshl, 1), some (.lstore_n 2, 1), some (.iconst 0, 1), some (.istore 4, 2), none, some (.iload 4, 2), none, some (.bipush 37, 2), none, some (.if_icmp .ge 24, 3), none, none, some (.lload_n 2, 1), some (.iload_n 1, 1)],
  [some (.lshr, 1), some (.lconst 1, 1), some (.land, 1), some (.lconst 0, 1), some (.lcmp, 1), some (.ifCond .ne 14, 3), none, none, some (.lload_n 2, 1), some (.invokestatic 41, 3), none, none, some (.lstore_n 2, 1), some (.iinc 4 1, 3), none, none],
  [some (.goto (-25), 3), none, none, some (.iload 4, 2), none, some (.ireturn, 1), none, none, none, none, none, none, none, none, none, none]]
def kx_m55 : kx_R := (⟨"KiteWar$Field", "stepsByNeighbours", "(II)I"⟩, prog_2_method_5_code, 5, Option.some Jvm.ClassFile.FieldType.int, kx_t55, 2, 3, 93, [3])
/-- KiteWar$Field.withNeighbours(J)J -/
def kx_t56 : List (List (Option kx_I)) := [[some (.lload_n 0, 1), some (.lstore_n 2, 1), some (.iconst 0, 1), some (.istore 4, 2), none, some (.iload 4, 2), none, some (.bipush 37, 2), none, some (.if_icmp .ge 63, 3), none, none, some (.lload_n 0, 1), some (.iload 4, 2), none, some (.lshr, 1)],
  [some (.lconst 1, 1), some (.land, 1), some (.lconst 0, 1), some (.lcmp, 1), some (.ifCond .eq 46, 3), none, none, some (.iconst 0, 1), some (.istore 5, 2), none, some (.iload 5, 2), none, some (.bipush 6, 2), none, some (.if_icmp .ge 36, 3), none],
  [none, some (.iload 4, 2), none, some (.iload 5, 2), none, some (.iconst 1, 1), some (.invokestatic 45, 3), none, none, some (.istore 6, 2), none, some (.lload_n 2, 1), some (.iload 6, 2), none, some (.iconst (-1), 1), some (.if_icmp .ne 7, 3)],
  [none, none, some (.lconst 0, 1), some (.goto 7, 3), none, none, some (.lconst 1, 1), some (.iload 6, 2), none, some (.lshl, 1), some (.lor, 1), some (.lstore_n 2, 1), some (.iinc 5 1, 3), none, none, some (.goto (-37), 3)],
  [none, none, some (.iinc 4 1, 3), none, none, some (.goto (-64), 3), none, none, some (.lload_n 2, 1), some (.lreturn, 1), none, none, none, none, none, none]]
def kx_m56 : kx_R := (⟨"KiteWar$Field", "withNeighbours", "(J)J"⟩, prog_2_method_6_code, 7, Option.some Jvm.ClassFile.FieldType.long, kx_t56, 2, 2, 67, [1, 3])
/-- KiteWar$Flight.<init>()V -/
def kx_t57 : List (List (Option kx_I)) := [[some (.aload_n 0, 1), some (.invokespecial 3, 3), none, none, some (.return_, 1), none, none, none, none, none, none, none, none, none, none, none]]
def kx_m57 : kx_R := (⟨"KiteWar$Flight", "<init>", "()V"⟩, prog_3_method_1_code, 1, Option.none, kx_t57, 3, 1, 40, [])
/-- KiteWar$Flight.plan(LKiteWar$Kite;)V -/
def kx_t58 : List (List (Option kx_I)) := [[some (.aload_n 0, 1), some (.aload_n 1, 1), some (.getfield 9, 3), none, none, some (.putfield 15, 3), none, none, some (.aload_n 0, 1), some (.aload_n 1, 1), some (.getfield 18, 3), none, none, some (.putfield 21, 3), none, none],
  [some (.aload_n 0, 1), some (.aload_n 1, 1), some (.invokevirtual 22, 3), none, none, some (.aload_n 0, 1), some (.aload_n 0, 1), some (.getfield 21, 3), none, none, some (.aload_n 1, 1), some (.getfield 26, 3), none, none, some (.if_icmp .gt 26, 3), none],
  [none, some (.aload_n 1, 1), some (.getfield 29, 3), none, none, some (.aload_n 0, 1), some (.getfield 15, 3), none, none, some (.aload_n 0, 1), some (.getfield 21, 3), none, none, some (.invokestatic 32, 3), none, none],
  [some (.iconst (-1), 1), some (.if_icmp .eq 7, 3), none, none, some (.iconst 1, 1), some (.goto 4, 3), none, none, some (.iconst 0, 1), some (.putfield 38, 3), none, none, some (.aload_n 0, 1), some (.getfield 38, 3), none, none],
  [some (.ifCond .ne 19, 3), none, none, some (.aload_n 0, 1), some (.aload_n 1, 1), some (.getfield 9, 3), none, none, some (.putfield 15, 3), none, none, some (.aload_n 0, 1), some (.aload_n 1, 1), some (.getfield 18, 3), none, none],
  [some (.putfield 21, 3), none, none, some (.return_, 1), none, none, none, none, none, none, none, none, none, none, none, none]]
def kx_m58 : kx_R := (⟨"KiteWar$Flight", "plan", "(LKiteWar$Kite;)V"⟩, prog_3_method_2_code, 2, Option.none, kx_t58, 3, 2, 67, [])
/-- KiteWar$Flight.move(LKiteWar$Kite;)V -/
def kx_t59 : List (List (Option kx_I)) := [[some (.aload_n 1, 1), some (.getfield 42, 3), none, none, some (.tableswitch 139 1 6 #[40, 56, 69, 82, 107, 131], 40), none, none, none, none, none, none, none, none, none, none, none],
  [none, none, none, none, none, none, none, none, none, none, none, none, none, none, none, none],
  [none, none, none, none, none, none, none, none, none, none, none, none, some (.aload_n 0, 1), some (.aload_n 1, 1), some (.getfield 44, 3), none],
  [none, some (.putfield 15, 3), none, none, some (.aload_n 0, 1), some (.iconst 1, 1), some (.putfield 21, 3), none, none, some (.goto 86, 3), none, none, some (.aload_n 0, 1), some (.dup, 1), some (.getfield 21, 3), none],
  [none, some (.iconst 1, 1), some (.iadd, 1), some (.putfield 21, 3), none, none, some (.goto 73, 3), none, none, some (.aload_n 0, 1), some (.dup, 1), some (.getfield 21, 3), none, none, some (.iconst 1, 1), some (.isub, 1)],
  [some (.putfield 21, 3), none, none, some (.goto 60, 3), none, none, some (.aload_n 0, 1), some (.aload_n 0, 1), some (.getfield 15, 3), none, none, some (.iconst 5, 1), some (.if_icmp .ne 7, 3), none, none, some (.iconst 0, 1)],
  [some (.goto 9, 3), none, none, some (.aload_n 0, 1), some (.getfield 15, 3), none, none, some (.iconst 1, 1), some (.iadd, 1), some (.putfield 15, 3), none, none, some (.goto 35, 3), none, none, some (.aload_n 0, 1)],
  [some (.aload_n 0, 1), some (.getfield 15, 3), none, none, some (.ifCond .ne 7, 3), none, none, some (.iconst 5, 1), some (.goto 9, 3), none, none, some (.aload_n 0, 1), some (.getfield 15, 3), none, none, some (.iconst 1, 1)],
  [some (.isub, 1), some (.putfield 15, 3), none, none, some (.goto 11, 3), none, none, some (.aload_n 0, 1), some (.iconst 0, 1), some (.putfield 21, 3), none, none, some (.goto 3, 3), none, none, some (.return_, 1)]]
def kx_m59 : kx_R := (⟨"KiteWar$Flight", "move", "(LKiteWar$Kite;)V"⟩, prog_3_method_3_code, 2, Option.none, kx_t59, 3, 1, 40, [])
/-- KiteWar$History.<init>()V -/
def kx_t60 : List (List (Option kx_I)) := [[some (.aload_n 0, 1), some (.invokespecial 3, 3), none, none, some (.aload_n 0, 1), some (.bipush 8, 2), none, some (.anewarray 9, 3), none, none, some (.putfield 11, 3), none, none, some (.iconst 0, 1), some (.istore_n 1, 1), some (.iload_n 1, 1)],
  [some (.bipush 8, 2), none, some (.if_icmp .ge 22, 3), none, none, some (.aload_n 0, 1), some (.getfield 11, 3), none, none, some (.iload_n 1, 1), some (.new 9, 3), none, none, some (.dup, 1), some (.invokespecial 17, 3), none],
  [none, some (.aastore, 1), some (.iinc 1 1, 3), none, none, some (.goto (-22), 3), none, none, some (.return_, 1), none, none, none, none, none, none, none]]
def kx_m60 : kx_R := (⟨"KiteWar$History", "<init>", "()V"⟩, prog_4_method_1_code, 2, Option.none, kx_t60, 4, 3, 81, [])
/-- KiteWar$History.add(LKiteWar$State;)V -/
def kx_t61 : List (List (Option kx_I)) := [[some (.aload_n 0, 1), some (.getfield 11, 3), none, none, some (.aload_n 0, 1), some (.getfield 18, 3), none, none, some (.aaload, 1), some (.aload_n 1, 1), some (.invokevirtual 22, 3), none, none, some (.aload_n 0, 1), some (.aload_n 0, 1), some (.getfield 18, 3)],
  [none, none, some (.bipush 7, 2), none, some (.if_icmp .ne 7, 3), none, none, some (.iconst 0, 1), some (.goto 9, 3), none, none, some (.aload_n 0, 1), some (.getfield 18, 3), none, none, some (.iconst 1, 1)],
  [some (.iadd, 1), some (.putfield 18, 3), none, none, some (.aload_n 0, 1), some (.bipush 8, 2), none, some (.aload_n 0, 1), some (.getfield 26, 3), none, none, some (.iconst 1, 1), some (.iadd, 1), some (.invokestatic 29, 3), none, none],
  [some (.putfield 26, 3), none, none, some (.return_, 1), none, none, none, none, none, none, none, none, none, none, none, none]]
def kx_m61 : kx_R := (⟨"KiteWar$History", "add", "(LKiteWar$State;)V"⟩, prog_4_method_2_code, 2, Option.none, kx_t61, 4, 3, 83, [])
/-- KiteWar$History.takeBack(LKiteWar$State;)V -/
def kx_t62 : List (List (Option kx_I)) := [[some (.aload_n 0, 1), some (.getfield 26, 3), none, none, some (.ifCond .le 48, 3), none, none, some (.aload_n 0, 1), some (.aload_n 0, 1), some (.getfield 18, 3), none, none, some (.ifCond .ne 8, 3), none, none, some (.bipush 7, 2)],
  [none, some (.goto 9, 3), none, none, some (.aload_n 0, 1), some (.getfield 18, 3), none, none, some (.iconst 1, 1), some (.isub, 1), some (.putfield 18, 3), none, none, some (.aload_n 1, 1), some (.aload_n 0, 1), some (.getfield 11, 3)],
  [none, none, some (.aload_n 0, 1), some (.getfield 18, 3), none, none, some (.aaload, 1), some (.invokevirtual 22, 3), none, none, some (.aload_n 0, 1), some (.dup, 1), some (.getfield 26, 3), none, none, some (.iconst 1, 1)],
  [some (.isub, 1), some (.putfield 26, 3), none, none, some (.return_, 1), none, none, none, none, none, none, none, none, none, none, none]]
def kx_m62 : kx_R := (⟨"KiteWar$History", "takeBack", "(LKiteWar$State;)V"⟩, prog_4_method_3_code, 2, Option.none, kx_t62, 4, 3, 83, [])
/-- KiteWar$History.forget()V -/
def kx_t63 : List (List (Option kx_I)) := [[some (.aload_n 0, 1), some (.iconst 0, 1), some (.putfield 26, 3), none, none, some (.return_, 1), none, none, none, none, none, none, none, none, none, none]]
def kx_m63 : kx_R := (⟨"KiteWar$History", "forget", "()V"⟩, prog_4_method_4_code, 1, Option.none, kx_t63, 4, 1, 40, [])
/-- KiteWar$Kite.<init>()V -/
def kx_t64 : List (List (Option kx_I)) := [[some (.aload_n 0, 1), some (.invokespecial 3, 3), none, none, some (.return_, 1), none, none, none, none, none, none, none, none, none, none, none]]
def kx_m64 : kx_R := (⟨"KiteWar$Kite", "<init>", "()V"⟩, prog_5_method_1_code, 1, Option.none, kx_t64, 5, 1, 40, [])
/-- KiteWar$Kite.copyFrom(LKiteWar$Kite;)V -/
def kx_t65 : List (List (Option kx_I)) := [[some (.aload_n 0, 1), some (.aload_n 1, 1), some (.getfield 9, 3), none, none, some (.putfield 9, 3), none, none, some (.aload_n 0, 1), some (.aload_n 1, 1), some (.getfield 15, 3), none, none, some (.putfield 15, 3), none, none],
  [some (.aload_n 0, 1), some (.aload_n 1, 1), some (.getfield 18, 3), none, none, some (.putfield 18, 3), none, none, some (.aload_n 0, 1), some (.aload_n 1, 1), some (.getfield 21, 3), none, none, some (.putfield 21, 3), none, none],
  [some (.aload_n 0, 1), some (.aload_n 1, 1), some (.getfield 24, 3), none, none, some (.putfield 24, 3), none, none, some (.aload_n 0, 1), some (.aload_n 1, 1), some (.getfield 27, 3), none, none, some (.putfield 27, 3), none, none],
  [some (.aload_n 0, 1), some (.aload_n 1, 1), some (.getfield 30, 3), none, none, some (.putfield 30, 3), none, none, some (.aload_n 0, 1), some (.aload_n 1, 1), some (.getfield 33, 3), none, none, some (.putfield 33, 3), none, none],
  [some (.aload_n 0, 1), some (.aload_n 1, 1), some (.getfield 36, 3), none, none, some (.putfield 36, 3), none, none, some (.aload_n 0, 1), some (.aload_n 1, 1), some (.getfield 39, 3), none, none, some (.putfield 39, 3), none, none],
  [some (.aload_n 0, 1), some (.aload_n 1, 1), some (.getfield 42, 3), none, none, some (.putfield 42, 3), none, none, some (.aload_n 0, 1), some (.aload_n 1, 1), some (.getfield 45, 3), none, none, some (.putfield 45, 3), none, none],
  [some (.aload_n 0, 1), some (.aload_n 1, 1), some (.getfield 48, 3), none, none, some (.putfield 48, 3), none, none, some (.return_, 1), none, none, none, none, none, none, none]]
def kx_m65 : kx_R := (⟨"KiteWar$Kite", "copyFrom", "(LKiteWar$Kite;)V"⟩, prog_5_method_2_code, 2, Option.none, kx_t65, 5, 1, 40, [])
/-- KiteWar$Kite.forgetSlip()V -/
def kx_t66 : List (List (Option kx_I)) := [[some (.aload_n 0, 1), some (.iconst 0, 1), some (.putfield 45, 3), none, none, some (.aload_n 0, 1), some (.iconst 0, 1), some (.putfield 48, 3), none, none, some (.return_, 1), none, none, none, none, none]]
def kx_m66 : kx_R := (⟨"KiteWar$Kite", "forgetSlip", "()V"⟩, prog_5_method_3_code, 1, Option.none, kx_t66, 5, 1, 40, [])
/-- KiteWar$Kite.holdAt(II)V -/
def kx_t67 : List (List (Option kx_I)) := [[some (.aload_n 0, 1), some (.iload_n 2, 1), some (.ifCond .le 7, 3), none, none, some (.iconst 1, 1), some (.goto 4, 3), none, none, some (.iconst 0, 1), some (.putfield 24, 3), none, none, some (.aload_n 0, 1), some (.iload_n 2, 1), some (.ifCond .le 7, 3)],
  [none, none, some (.iload_n 1, 1), some (.goto 4, 3), none, none, some (.iconst 0, 1), some (.putfield 27, 3), none, none, some (.aload_n 0, 1), some (.iload_n 2, 1), some (.putfield 30, 3), none, none, some (.aload_n 0, 1)],
  [some (.aload_n 0, 1), some (.getfield 18, 3), none, none, some (.iload_n 1, 1), some (.iload_n 2, 1), some (.invokestatic 51, 3), none, none, some (.putfield 33, 3), none, none, some (.return_, 1), none, none, none]]
def kx_m67 : kx_R := (⟨"KiteWar$Kite", "holdAt", "(II)V"⟩, prog_5_method_4_code, 3, Option.none, kx_t67, 5, 2, 67, [])
/-- KiteWar$Kite.loseLine()V -/
def kx_t68 : List (List (Option kx_I)) := [[some (.aload_n 0, 1), some (.iconst 2, 1), some (.putfield 24, 3), none, none, some (.aload_n 0, 1), some (.iconst 0, 1), some (.putfield 27, 3), none, none, some (.aload_n 0, 1), some (.iconst 0, 1), some (.putfield 30, 3), none, none, some (.aload_n 0, 1)],
  [some (.dup, 1), some (.getfield 39, 3), none, none, some (.iconst 1, 1), some (.iadd, 1), some (.putfield 39, 3), none, none, some (.return_, 1), none, none, none, none, none, none]]
def kx_m68 : kx_R := (⟨"KiteWar$Kite", "loseLine", "()V"⟩, prog_5_method_5_code, 1, Option.none, kx_t68, 5, 1, 40, [])
/-- KiteWar$Lines.<init>()V -/
def kx_t69 : List (List (Option kx_I)) := [[some (.aload_n 0, 1), some (.invokespecial 3, 3), none, none, some (.aload_n 0, 1), some (.bipush 12, 2), none, some (.newarray .long, 2), none, some (.putfield 9, 3), none, none, some (.aload_n 0, 1), some (.new 15, 3), none, none],
  [some (.dup, 1), some (.invokespecial 17, 3), none, none, some (.putfield 18, 3), none, none, some (.aload_n 0, 1), some (.bipush 12, 2), none, some (.newarray .int, 2), none, some (.putfield 22, 3), none, none, some (.return_, 1)]]
def kx_m69 : kx_R := (⟨"KiteWar$Lines", "<init>", "()V"⟩, prog_6_method_1_code, 1, Option.none, kx_t69, 6, 2, 60, [])
/-- KiteWar$Lines.drawAsTheyAre(LKiteWar$State;)V -/
def kx_t70 : List (List (Option kx_I)) := [[some (.iconst 0, 1), some (.istore_n 2, 1), some (.iload_n 2, 1), some (.aload_n 1, 1), some (.getfield 26, 3), none, none, some (.if_icmp .ge 37, 3), none, none, some (.aload_n 1, 1), some (.getfield 32, 3), none, none, some (.iload_n 2, 1), some (.aaload, 1)],
  [some (.astore_n 3, 1), some (.aload_n 0, 1), some (.getfield 9, 3), none, none, some (.iload_n 2, 1), some (.aload_n 3, 1), some (.getfield 36, 3), none, none, some (.aload_n 3, 1), some (.getfield 41, 3), none, none, some (.aload_n 3, 1), some (.getfield 44, 3)],
  [none, none, some (.invokestatic 47, 3), none, none, some (.lastore, 1), some (.iinc 2 1, 3), none, none, some (.goto (-39), 3), none, none, some (.return_, 1), none, none, none]]
def kx_m70 : kx_R := (⟨"KiteWar$Lines", "drawAsTheyAre", "(LKiteWar$State;)V"⟩, prog_6_method_2_code, 4, Option.none, kx_t70, 6, 3, 93, [])
/-- KiteWar$Lines.hexagonsOf(III)J -/
def kx_t71 : List (List (Option kx_I)) := [[some (.lconst 0, 1), some (.lstore_n 3, 1), some (.iconst 1, 1), some (.istore 5, 2), none, some (.iload 5, 2), none, some (.iload_n 2, 1), some (.if_icmp .gt 35, 3), none, none, some (.iload_n 0, 1), some (.iload_n 1, 1), some (.iload 5, 2), none, some (.invokestatic 57, 3)],
  [none, none, some (.istore 6, 2), none, some (.lload_n 3, 1), some (.iload 6, 2), none, some (.iconst (-1), 1), some (.if_icmp .ne 7, 3), none, none, some (.lconst 0, 1), some (.goto 7, 3), none, none, some (.lconst 1, 1)],
  [some (.iload 6, 2), none, some (.lshl, 1), some (.lor, 1), some (.lstore_n 3, 1), some (.iinc 5 1, 3), none, none, some (.goto (-35), 3), none, none, some (.lload_n 3, 1), some (.lreturn, 1), none, none, none]]
def kx_m71 : kx_R := (⟨"KiteWar$Lines", "hexagonsOf", "(III)J"⟩, prog_6_method_4_code, 7, Option.some Jvm.ClassFile.FieldType.long, kx_t71, 6, 2, 67, [4])
/-- KiteWar$Lines.doCross(LKiteWar$State;II)Z -/
def kx_t72 : List (List (Option kx_I)) := [[some (.aload_n 1, 1), some (.getfield 32, 3), none, none, some (.iload_n 2, 1), some (.aaload, 1), some (.getfield 67, 3), none, none, some (.aload_n 1, 1), some (.getfield 32, 3), none, none, some (.iload_n 3, 1), some (.aaload, 1), some (.getfield 67, 3)],
  [none, none, some (.if_icmp .eq 7, 3), none, none, some (.iconst 1, 1), some (.goto 4, 3), none, none, some (.iconst 0, 1), some (.istore 4, 2), none, some (.iload 4, 2), none, some (.ifCond .eq 25, 3), none],
  [none, some (.aload_n 0, 1), some (.getfield 9, 3), none, none, some (.iload_n 2, 1), some (.laload, 1), some (.aload_n 0, 1), some (.getfield 9, 3), none, none, some (.iload_n 3, 1), some (.laload, 1), some (.land, 1), some (.lconst 0, 1), some (.lcmp, 1)],
  [some (.ifCond .eq 7, 3), none, none, some (.iconst 1, 1), some (.goto 4, 3), none, none, some (.iconst 0, 1), some (.ireturn, 1), none, none, none, none, none, none, none]]
def kx_m72 : kx_R := (⟨"KiteWar$Lines", "doCross", "(LKiteWar$State;II)Z"⟩, prog_6_method_7_code, 5, Option.some Jvm.ClassFile.FieldType.boolean, kx_t72, 6, 1, 40, [])
/-- KiteWar$Lines.drawBySlips(LKiteWar$State;)V -/
def kx_t73 : List (List (Option kx_I)) := [[some (.iconst 0, 1), some (.istore_n 2, 1), some (.iload_n 2, 1), some (.aload_n 1, 1), some (.getfield 26, 3), none, none, some (.if_icmp .ge 51, 3), none, none, some (.aload_n 1, 1), some (.getfield 32, 3), none, none, some (.iload_n 2, 1), some (.aaload, 1)],
  [some (.astore_n 3, 1), some (.aload_n 0, 1), some (.getfield 18, 3), none, none, some (.aload_n 3, 1), some (.invokevirtual 51, 3), none, none, some (.aload_n 0, 1), some (.getfield 9, 3), none, none, some (.iload_n 2, 1), some (.aload_n 3, 1), some (.getfield 36, 3)],
  [none, none, some (.aload_n 0, 1), some (.getfield 18, 3), none, none, some (.getfield 55, 3), none, none, some (.aload_n 0, 1), some (.getfield 18, 3), none, none, some (.getfield 56, 3), none, none],
  [some (.invokestatic 47, 3), none, none, some (.lastore, 1), some (.iinc 2 1, 3), none, none, some (.goto (-53), 3), none, none, some (.return_, 1), none, none, none, none, none]]
def kx_m73 : kx_R := (⟨"KiteWar$Lines", "drawBySlips", "(LKiteWar$State;)V"⟩, prog_6_method_3_code, 4, Option.none, kx_t73, 6, 3, 93, [])
/-- KiteWar$Lines.forgetPairs()V -/
def kx_t74 : List (List (Option kx_I)) := [[some (.iconst 0, 1), some (.istore_n 1, 1), some (.iload_n 1, 1), some (.bipush 12, 2), none, some (.if_icmp .ge 16, 3), none, none, some (.aload_n 0, 1), some (.getfield 22, 3), none, none, some (.iload_n 1, 1), some (.iconst 0, 1), some (.iastore, 1), some (.iinc 1 1, 3)],
  [none, none, some (.goto (-16), 3), none, none, some (.return_, 1), none, none, none, none, none, none, none, none, none, none]]
def kx_m74 : kx_R := (⟨"KiteWar$Lines", "forgetPairs", "()V"⟩, prog_6_method_8_code, 2, Option.none, kx_t74, 6, 1, 40, [])
/-- KiteWar$Lines.newPairsIn(LKiteWar$State;I)I -/
def kx_t75 : List (List (Option kx_I)) := [[some (.iconst 0, 1), some (.istore_n 3, 1), some (.iconst 0, 1), some (.istore 4, 2), none, some (.iload 4, 2), none, some (.aload_n 1, 1), some (.getfield 26, 3), none, none, some (.if_icmp .ge 132, 3), none, none, some (.aload_n 0, 1), some (.iload 4, 2)],
  [none, some (.iload_n 2, 1), some (.invokevirtual 63, 3), none, none, some (.ifCond .ne 6, 3), none, none, some (.goto 113, 3), none, none, some (.iload 4, 2), none, some (.iconst 1, 1), some (.iadd, 1), some (.istore 5, 2)],
  [none, some (.iload 5, 2), none, some (.aload_n 1, 1), some (.getfield 26, 3), none, none, some (.if_icmp .ge 98, 3), none, none, some (.aload_n 1, 1), some (.getfield 32, 3), none, none, some (.iload 4, 2), none],
  [some (.aaload, 1), some (.getfield 67, 3), none, none, some (.aload_n 1, 1), some (.getfield 32, 3), none, none, some (.iload 5, 2), none, some (.aaload, 1), some (.getfield 67, 3), none, none, some (.if_icmp .eq 7, 3), none],
  [none, some (.iconst 1, 1), some (.goto 4, 3), none, none, some (.iconst 0, 1), some (.istore 6, 2), none, some (.aload_n 0, 1), some (.getfield 22, 3), none, none, some (.iload 4, 2), none, some (.iaload, 1), some (.iload 5, 2)],
  [none, some (.ishr, 1), some (.iconst 1, 1), some (.iand, 1), some (.ifCond .ne 7, 3), none, none, some (.iconst 1, 1), some (.goto 4, 3), none, none, some (.iconst 0, 1), some (.istore 7, 2), none, some (.iload 6, 2), none],
  [some (.ifCond .eq 35, 3), none, none, some (.iload 7, 2), none, some (.ifCond .eq 30, 3), none, none, some (.aload_n 0, 1), some (.iload 5, 2), none, some (.iload_n 2, 1), some (.invokevirtual 63, 3), none, none, some (.ifCond .eq 20, 3)],
  [none, none, some (.aload_n 0, 1), some (.getfield 22, 3), none, none, some (.iload 4, 2), none, some (.dup2, 1), some (.iaload, 1), some (.iconst 1, 1), some (.iload 5, 2), none, some (.ishl, 1), some (.ior, 1), some (.iastore, 1)],
  [some (.iinc 3 1, 3), none, none, some (.iinc 5 1, 3), none, none, some (.goto (-101), 3), none, none, some (.iinc 4 1, 3), none, none, some (.goto (-135), 3), none, none, some (.iload_n 3, 1)],
  [some (.ireturn, 1), none, none, none, none, none, none, none, none, none, none, none, none, none, none, none]]
def kx_m75 : kx_R := (⟨"KiteWar$Lines", "newPairsIn", "(LKiteWar$State;I)I"⟩, prog_6_method_9_code, 8, Option.some Jvm.ClassFile.FieldType.int, kx_t75, 6, 2, 62, [])
/-- KiteWar$Lines.doesCover(II)Z -/
def kx_t76 : List (List (Option kx_I)) := [[some (.aload_n 0, 1), some (.getfield 9, 3), none, none, some (.iload_n 1, 1), some (.laload, 1), some (.iload_n 2, 1), some (.lshr, 1), some (.lconst 1, 1), some (.land, 1), some (.lconst 0, 1), some (.lcmp, 1), some (.ifCond .eq 7, 3), none, none, some (.iconst 1, 1)],
  [some (.goto 4, 3), none, none, some (.iconst 0, 1), some (.ireturn, 1), none, none, none, none, none, none, none, none, none, none, none]]
def kx_m76 : kx_R := (⟨"KiteWar$Lines", "doesCover", "(II)Z"⟩, prog_6_method_5_code, 3, Option.some Jvm.ClassFile.FieldType.boolean, kx_t76, 6, 1, 40, [])
/-- KiteWar$Lines.isCovered(LKiteWar$State;I)Z -/
def kx_t77 : List (List (Option kx_I)) := [[some (.iconst 0, 1), some (.istore_n 3, 1), some (.iload_n 3, 1), some (.aload_n 1, 1), some (.getfield 26, 3), none, none, some (.if_icmp .ge 20, 3), none, none, some (.aload_n 0, 1), some (.iload_n 3, 1), some (.iload_n 2, 1), some (.invokevirtual 63, 3), none, none],
  [some (.ifCond .eq 5, 3), none, none, some (.iconst 1, 1), some (.ireturn, 1), some (.iinc 3 1, 3), none, none, some (.goto (-22), 3), none, none, some (.iconst 0, 1), some (.ireturn, 1), none, none, none]]
def kx_m77 : kx_R := (⟨"KiteWar$Lines", "isCovered", "(LKiteWar$State;I)Z"⟩, prog_6_method_6_code, 4, Option.some Jvm.ClassFile.FieldType.boolean, kx_t77, 6, 2, 62, [])
/-- KiteWar$Order.<init>()V -/
def kx_t78 : List (List (Option kx_I)) := [[some (.aload_n 0, 1), some (.invokespecial 1, 3), none, none, some (.return_, 1), none, none, none, none, none, none, none, none, none, none, none]]
def kx_m78 : kx_R := (⟨"KiteWar$Order", "<init>", "()V"⟩, prog_7_method_1_code, 1, Option.none, kx_t78, 7, 1, 40, [])
/-- KiteWar$Orders.<init>()V -/
def kx_t79 : List (List (Option kx_I)) := [[some (.aload_n 0, 1), some (.invokespecial 3, 3), none, none, some (.aload_n 0, 1), some (.new 9, 3), none, none, some (.dup, 1), some (.invokespecial 11, 3), none, none, some (.putfield 12, 3), none, none, some (.aload_n 0, 1)],
  [some (.bipush 13, 2), none, some (.anewarray 18, 3), none, none, some (.putfield 20, 3), none, none, some (.iconst 0, 1), some (.istore_n 1, 1), some (.iload_n 1, 1), some (.bipush 13, 2), none, some (.if_icmp .ge 22, 3), none, none],
  [some (.aload_n 0, 1), some (.getfield 20, 3), none, none, some (.iload_n 1, 1), some (.new 18, 3), none, none, some (.dup, 1), some (.invokespecial 24, 3), none, none, some (.aastore, 1), some (.iinc 1 1, 3), none, none],
  [some (.goto (-22), 3), none, none, some (.return_, 1), none, none, none, none, none, none, none, none, none, none, none, none]]
def kx_m79 : kx_R := (⟨"KiteWar$Orders", "<init>", "()V"⟩, prog_8_method_1_code, 2, Option.none, kx_t79, 8, 3, 81, [])
/-- KiteWar$Orders.readAll()V -/
def kx_t80 : List (List (Option kx_I)) := [[some (.aload_n 0, 1), some (.iconst 0, 1), some (.putfield 25, 3), none, none, some (.aload_n 0, 1), some (.iconst 0, 1), some (.putfield 29, 3), none, none, some (.aload_n 0, 1), some (.iconst 0, 1), some (.putfield 33, 3), none, none, some (.aload_n 0, 1)],
  [some (.getfield 33, 3), none, none, some (.bipush 13, 2), none, some (.if_icmp .ge 57, 3), none, none, some (.aload_n 0, 1), some (.aload_n 0, 1), some (.getfield 20, 3), none, none, some (.aload_n 0, 1), some (.getfield 33, 3), none],
  [none, some (.aaload, 1), some (.invokevirtual 36, 3), none, none, some (.aload_n 0, 1), some (.dup, 1), some (.getfield 33, 3), none, none, some (.iconst 1, 1), some (.iadd, 1), some (.putfield 33, 3), none, none, some (.aload_n 0, 1)],
  [some (.getfield 29, 3), none, none, some (.ifCond .ne 17, 3), none, none, some (.aload_n 0, 1), some (.getfield 25, 3), none, none, some (.aload_n 0, 1), some (.getfield 12, 3), none, none, some (.invokevirtual 40, 3), none],
  [none, some (.if_icmp .ne 4, 3), none, none, some (.return_, 1), some (.aload_n 0, 1), some (.bipush 59, 2), none, some (.invokevirtual 44, 3), none, none, some (.goto (-60), 3), none, none, some (.aload_n 0, 1), some (.iconst 1, 1)],
  [some (.putfield 29, 3), none, none, some (.return_, 1), none, none, none, none, none, none, none, none, none, none, none, none]]
def kx_m80 : kx_R := (⟨"KiteWar$Orders", "readAll", "()V"⟩, prog_8_method_2_code, 1, Option.none, kx_t80, 8, 10, 233, [])
/-- KiteWar$Orders.readOne(LKiteWar$Order;)V -/
def kx_t81 : List (List (Option kx_I)) := [[some (.aload_n 0, 1), some (.invokevirtual 48, 3), none, none, some (.lookupswitch 93 #[(116, 65), (119, 28)], 28), none, none, none, none, none, none, none, none, none, none, none],
  [none, none, none, none, none, none, none, none, none, none, none, none, none, none, none, none],
  [some (.aload_n 1, 1), some (.bipush 7, 2), none, some (.putfield 51, 3), none, none, some (.aload_n 0, 1), some (.ldc 54, 2), none, some (.invokevirtual 56, 3), none, none, some (.aload_n 1, 1), some (.aload_n 0, 1), some (.invokevirtual 60, 3), none],
  [none, some (.putfield 63, 3), none, none, some (.aload_n 0, 1), some (.bipush 42, 2), none, some (.invokevirtual 44, 3), none, none, some (.aload_n 1, 1), some (.aload_n 0, 1), some (.invokevirtual 60, 3), none, none, some (.putfield 66, 3)],
  [none, none, some (.goto 55, 3), none, none, some (.aload_n 1, 1), some (.bipush 8, 2), none, some (.putfield 51, 3), none, none, some (.aload_n 0, 1), some (.ldc 69, 2), none, some (.invokevirtual 56, 3), none],
  [none, some (.aload_n 1, 1), some (.aload_n 0, 1), some (.invokevirtual 60, 3), none, none, some (.putfield 63, 3), none, none, some (.aload_n 1, 1), some (.iconst 0, 1), some (.putfield 66, 3), none, none, some (.goto 27, 3), none],
  [none, some (.aload_n 1, 1), some (.aload_n 0, 1), some (.invokevirtual 60, 3), none, none, some (.putfield 63, 3), none, none, some (.aload_n 0, 1), some (.bipush 32, 2), none, some (.invokevirtual 44, 3), none, none, some (.aload_n 1, 1)],
  [some (.iconst 0, 1), some (.putfield 66, 3), none, none, some (.aload_n 0, 1), some (.aload_n 1, 1), some (.invokevirtual 71, 3), none, none, some (.return_, 1), none, none, none, none, none, none]]
def kx_m81 : kx_R := (⟨"KiteWar$Orders", "readOne", "(LKiteWar$Order;)V"⟩, prog_8_method_3_code, 2, Option.none, kx_t81, 8, 9, 212, [])
/-- KiteWar$Orders.ahead()I -/
def kx_t82 : List (List (Option kx_I)) := [[some (.aload_n 0, 1), some (.getfield 25, 3), none, none, some (.aload_n 0, 1), some (.getfield 12, 3), none, none, some (.invokevirtual 40, 3), none, none, some (.if_icmp .ge 17, 3), none, none, some (.aload_n 0, 1), some (.getfield 12, 3)],
  [none, none, some (.aload_n 0, 1), some (.getfield 25, 3), none, none, some (.invokevirtual 86, 3), none, none, some (.goto 4, 3), none, none, some (.iconst (-1), 1), some (.ireturn, 1), none, none]]
def kx_m82 : kx_R := (⟨"KiteWar$Orders", "ahead", "()I"⟩, prog_8_method_5_code, 1, Option.some Jvm.ClassFile.FieldType.int, kx_t82, 8, 5, 128, [])
/-- KiteWar$Orders.expectWord(Ljava/lang/String;)V -/
def kx_t83 : List (List (Option kx_I)) := [[some (.iconst 0, 1), some (.istore_n 2, 1), some (.iload_n 2, 1), some (.aload_n 1, 1), some (.invokevirtual 90, 3), none, none, some (.if_icmp .ge 18, 3), none, none, some (.aload_n 0, 1), some (.aload_n 1, 1), some (.iload_n 2, 1), some (.invokevirtual 93, 3), none, none],
  [some (.invokevirtual 44, 3), none, none, some (.iinc 2 1, 3), none, none, some (.goto (-20), 3), none, none, some (.return_, 1), none, none, none, none, none, none]]
def kx_m83 : kx_R := (⟨"KiteWar$Orders", "expectWord", "(Ljava/lang/String;)V"⟩, prog_8_method_7_code, 3, Option.none, kx_t83, 8, 7, 169, [])
/-- KiteWar$Orders.expect(C)V -/
def kx_t84 : List (List (Option kx_I)) := [[some (.aload_n 0, 1), some (.getfield 29, 3), none, none, some (.ifCond .ne 24, 3), none, none, some (.aload_n 0, 1), some (.invokevirtual 48, 3), none, none, some (.iload_n 1, 1), some (.if_icmp .ne 16, 3), none, none, some (.aload_n 0, 1)],
  [some (.dup, 1), some (.getfield 25, 3), none, none, some (.iconst 1, 1), some (.iadd, 1), some (.putfield 25, 3), none, none, some (.goto 8, 3), none, none, some (.aload_n 0, 1), some (.iconst 1, 1), some (.putfield 29, 3), none],
  [none, some (.return_, 1), none, none, none, none, none, none, none, none, none, none, none, none, none, none]]
def kx_m84 : kx_R := (⟨"KiteWar$Orders", "expect", "(C)V"⟩, prog_8_method_6_code, 2, Option.none, kx_t84, 8, 6, 148, [])
/-- KiteWar$Orders.expectDigit()I -/
def kx_t85 : List (List (Option kx_I)) := [[some (.aload_n 0, 1), some (.invokevirtual 48, 3), none, none, some (.istore_n 1, 1), some (.aload_n 0, 1), some (.getfield 29, 3), none, none, some (.ifCond .ne 15, 3), none, none, some (.iload_n 1, 1), some (.bipush 48, 2), none, some (.if_icmp .lt 9, 3)],
  [none, none, some (.iload_n 1, 1), some (.bipush 57, 2), none, some (.if_icmp .le 10, 3), none, none, some (.aload_n 0, 1), some (.iconst 1, 1), some (.putfield 29, 3), none, none, some (.iconst 0, 1), some (.ireturn, 1), some (.aload_n 0, 1)],
  [some (.dup, 1), some (.getfield 25, 3), none, none, some (.iconst 1, 1), some (.iadd, 1), some (.putfield 25, 3), none, none, some (.iload_n 1, 1), some (.bipush 48, 2), none, some (.isub, 1), some (.ireturn, 1), none, none]]
def kx_m85 : kx_R := (⟨"KiteWar$Orders", "expectDigit", "()I"⟩, prog_8_method_8_code, 2, Option.some Jvm.ClassFile.FieldType.int, kx_t85, 8, 6, 148, [])
/-- KiteWar$Orders.readMove(LKiteWar$Order;)V -/
def kx_t86 : List (List (Option kx_I)) := [[some (.aload_n 0, 1), some (.invokevirtual 48, 3), none, none, some (.tableswitch 179 102 114 #[68, 179, 179, 104, 179, 179, 132, 179, 179, 90, 179, 179, 118], 68), none, none, none, none, none, none, none, none, none, none, none],
  [none, none, none, none, none, none, none, none, none, none, none, none, none, none, none, none],
  [none, none, none, none, none, none, none, none, none, none, none, none, none, none, none, none],
  [none, none, none, none, none, none, none, none, none, none, none, none, none, none, none, none],
  [none, none, none, none, none, none, none, none, some (.aload_n 1, 1), some (.iconst 1, 1), some (.putfield 51, 3), none, none, some (.aload_n 0, 1), some (.ldc 74, 2), none],
  [some (.invokevirtual 56, 3), none, none, some (.aload_n 1, 1), some (.aload_n 0, 1), some (.invokevirtual 60, 3), none, none, some (.putfield 66, 3), none, none, some (.goto 97, 3), none, none, some (.aload_n 1, 1), some (.iconst 2, 1)],
  [some (.putfield 51, 3), none, none, some (.aload_n 0, 1), some (.ldc 76, 2), none, some (.invokevirtual 56, 3), none, none, some (.goto 83, 3), none, none, some (.aload_n 1, 1), some (.iconst 3, 1), some (.putfield 51, 3), none],
  [none, some (.aload_n 0, 1), some (.ldc 78, 2), none, some (.invokevirtual 56, 3), none, none, some (.goto 69, 3), none, none, some (.aload_n 1, 1), some (.iconst 5, 1), some (.putfield 51, 3), none, none, some (.aload_n 0, 1)],
  [some (.ldc 80, 2), none, some (.invokevirtual 56, 3), none, none, some (.goto 55, 3), none, none, some (.aload_n 0, 1), some (.bipush 108, 2), none, some (.invokevirtual 44, 3), none, none, some (.aload_n 1, 1), some (.aload_n 0, 1)],
  [some (.invokevirtual 48, 3), none, none, some (.bipush 101, 2), none, some (.if_icmp .ne 7, 3), none, none, some (.iconst 4, 1), some (.goto 5, 3), none, none, some (.bipush 6, 2), none, some (.putfield 51, 3), none],
  [none, some (.aload_n 0, 1), some (.aload_n 1, 1), some (.getfield 51, 3), none, none, some (.iconst 4, 1), some (.if_icmp .ne 8, 3), none, none, some (.ldc 82, 2), none, some (.goto 5, 3), none, none, some (.ldc 84, 2)],
  [none, some (.invokevirtual 56, 3), none, none, some (.goto 8, 3), none, none, some (.aload_n 0, 1), some (.iconst 1, 1), some (.putfield 29, 3), none, none, some (.return_, 1), none, none, none]]
def kx_m86 : kx_R := (⟨"KiteWar$Orders", "readMove", "(LKiteWar$Order;)V"⟩, prog_8_method_4_code, 2, Option.none, kx_t86, 8, 8, 191, [])
/-- KiteWar$State.<init>()V -/
def kx_t87 : List (List (Option kx_I)) := [[some (.aload_n 0, 1), some (.invokespecial 3, 3), none, none, some (.aload_n 0, 1), some (.bipush 6, 2), none, some (.anewarray 9, 3), none, none, some (.putfield 11, 3), none, none, some (.iconst 0, 1), some (.istore_n 1, 1), some (.iload_n 1, 1)],
  [some (.bipush 6, 2), none, some (.if_icmp .ge 22, 3), none, none, some (.aload_n 0, 1), some (.getfield 11, 3), none, none, some (.iload_n 1, 1), some (.new 9, 3), none, none, some (.dup, 1), some (.invokespecial 17, 3), none],
  [none, some (.aastore, 1), some (.iinc 1 1, 3), none, none, some (.goto (-22), 3), none, none, some (.aload_n 0, 1), some (.bipush 12, 2), none, some (.anewarray 18, 3), none, none, some (.putfield 20, 3), none],
  [none, some (.iconst 0, 1), some (.istore_n 1, 1), some (.iload_n 1, 1), some (.bipush 12, 2), none, some (.if_icmp .ge 22, 3), none, none, some (.aload_n 0, 1), some (.getfield 20, 3), none, none, some (.iload_n 1, 1), some (.new 18, 3), none],
  [none, some (.dup, 1), some (.invokespecial 24, 3), none, none, some (.aastore, 1), some (.iinc 1 1, 3), none, none, some (.goto (-22), 3), none, none, some (.aload_n 0, 1), some (.bipush 6, 2), none, some (.newarray .int, 2)],
  [none, some (.putfield 25, 3), none, none, some (.aload_n 0, 1), some (.bipush 6, 2), none, some (.newarray .int, 2), none, some (.putfield 29, 3), none, none, some (.aload_n 0, 1), some (.iconst 2, 1), some (.newarray .int, 2), none],
  [some (.putfield 32, 3), none, none, some (.return_, 1), none, none, none, none, none, none, none, none, none, none, none, none]]
def kx_m87 : kx_R := (⟨"KiteWar$State", "<init>", "()V"⟩, prog_9_method_1_code, 2, Option.none, kx_t87, 9, 2, 60, [])
/-- KiteWar$State.copyFrom(LKiteWar$State;)V -/
def kx_t88 : List (List (Option kx_I)) := [[some (.aload_n 0, 1), some (.aload_n 1, 1), some (.getfield 35, 3), none, none, some (.putfield 35, 3), none, none, some (.aload_n 0, 1), some (.aload_n 1, 1), some (.getfield 39, 3), none, none, some (.putfield 39, 3), none, none],
  [some (.iconst 0, 1), some (.istore_n 2, 1), some (.iload_n 2, 1), some (.bipush 6, 2), none, some (.if_icmp .ge 24, 3), none, none, some (.aload_n 0, 1), some (.getfield 11, 3), none, none, some (.iload_n 2, 1), some (.aaload, 1), some (.aload_n 1, 1), some (.getfield 11, 3)],
  [none, none, some (.iload_n 2, 1), some (.aaload, 1), some (.invokevirtual 42, 3), none, none, some (.iinc 2 1, 3), none, none, some (.goto (-24), 3), none, none, some (.aload_n 0, 1), some (.aload_n 1, 1), some (.getfield 46, 3)],
  [none, none, some (.putfield 46, 3), none, none, some (.iconst 0, 1), some (.istore_n 2, 1), some (.iload_n 2, 1), some (.bipush 12, 2), none, some (.if_icmp .ge 24, 3), none, none, some (.aload_n 0, 1), some (.getfield 20, 3), none],
  [none, some (.iload_n 2, 1), some (.aaload, 1), some (.aload_n 1, 1), some (.getfield 20, 3), none, none, some (.iload_n 2, 1), some (.aaload, 1), some (.invokevirtual 49, 3), none, none, some (.iinc 2 1, 3), none, none, some (.goto (-24), 3)],
  [none, none, some (.aload_n 0, 1), some (.aload_n 1, 1), some (.getfield 52, 3), none, none, some (.putfield 52, 3), none, none, some (.iconst 0, 1), some (.istore_n 2, 1), some (.iload_n 2, 1), some (.bipush 6, 2), none, some (.if_icmp .ge 33, 3)],
  [none, none, some (.aload_n 0, 1), some (.getfield 25, 3), none, none, some (.iload_n 2, 1), some (.aload_n 1, 1), some (.getfield 25, 3), none, none, some (.iload_n 2, 1), some (.iaload, 1), some (.iastore, 1), some (.aload_n 0, 1), some (.getfield 29, 3)],
  [none, none, some (.iload_n 2, 1), some (.aload_n 1, 1), some (.getfield 29, 3), none, none, some (.iload_n 2, 1), some (.iaload, 1), some (.iastore, 1), some (.iinc 2 1, 3), none, none, some (.goto (-33), 3), none, none],
  [some (.aload_n 0, 1), some (.getfield 32, 3), none, none, some (.iconst 0, 1), some (.aload_n 1, 1), some (.getfield 32, 3), none, none, some (.iconst 0, 1), some (.iaload, 1), some (.iastore, 1), some (.aload_n 0, 1), some (.getfield 32, 3), none, none],
  [some (.iconst 1, 1), some (.aload_n 1, 1), some (.getfield 32, 3), none, none, some (.iconst 1, 1), some (.iaload, 1), some (.iastore, 1), some (.aload_n 0, 1), some (.aload_n 1, 1), some (.getfield 55, 3), none, none, some (.putfield 55, 3), none, none],
  [some (.aload_n 0, 1), some (.aload_n 1, 1), some (.getfield 58, 3), none, none, some (.putfield 58, 3), none, none, some (.aload_n 0, 1), some (.aload_n 1, 1), some (.getfield 61, 3), none, none, some (.putfield 61, 3), none, none],
  [some (.aload_n 0, 1), some (.aload_n 1, 1), some (.getfield 64, 3), none, none, some (.putfield 64, 3), none, none, some (.aload_n 0, 1), some (.aload_n 1, 1), some (.getfield 67, 3), none, none, some (.putfield 67, 3), none, none],
  [some (.return_, 1), none, none, none, none, none, none, none, none, none, none, none, none, none, none, none]]
def kx_m88 : kx_R := (⟨"KiteWar$State", "copyFrom", "(LKiteWar$State;)V"⟩, prog_9_method_2_code, 3, Option.none, kx_t88, 9, 2, 61, [])
/-- KiteWar$State.towerIn(I)I -/
def kx_t89 : List (List (Option kx_I)) := [[some (.iconst 0, 1), some (.istore_n 2, 1), some (.iload_n 2, 1), some (.aload_n 0, 1), some (.getfield 39, 3), none, none, some (.if_icmp .ge 24, 3), none, none, some (.aload_n 0, 1), some (.getfield 11, 3), none, none, some (.iload_n 2, 1), some (.aaload, 1)],
  [some (.getfield 73, 3), none, none, some (.iload_n 1, 1), some (.if_icmp .ne 5, 3), none, none, some (.iload_n 2, 1), some (.ireturn, 1), some (.iinc 2 1, 3), none, none, some (.goto (-26), 3), none, none, some (.iconst (-1), 1)],
  [some (.ireturn, 1), none, none, none, none, none, none, none, none, none, none, none, none, none, none, none]]
def kx_m89 : kx_R := (⟨"KiteWar$State", "towerIn", "(I)I"⟩, prog_9_method_8_code, 3, Option.some Jvm.ClassFile.FieldType.int, kx_t89, 9, 1, 40, [])
/-- KiteWar$State.towersOf(I)I -/
def kx_t90 : List (List (Option kx_I)) := [[some (.iconst 0, 1), some (.istore_n 2, 1), some (.iconst 0, 1), some (.istore_n 3, 1), some (.iload_n 3, 1), some (.aload_n 0, 1), some (.getfield 39, 3), none, none, some (.if_icmp .ge 30, 3), none, none, some (.iload_n 2, 1), some (.aload_n 0, 1), some (.getfield 11, 3), none],
  [none, some (.iload_n 3, 1), some (.aaload, 1), some (.getfield 70, 3), none, none, some (.iload_n 1, 1), some (.if_icmp .ne 7, 3), none, none, some (.iconst 1, 1), some (.goto 4, 3), none, none, some (.iconst 0, 1), some (.iadd, 1)],
  [some (.istore_n 2, 1), some (.iinc 3 1, 3), none, none, some (.goto (-32), 3), none, none, some (.iload_n 2, 1), some (.ireturn, 1), none, none, none, none, none, none, none]]
def kx_m90 : kx_R := (⟨"KiteWar$State", "towersOf", "(I)I"⟩, prog_9_method_10_code, 4, Option.some Jvm.ClassFile.FieldType.int, kx_t90, 9, 1, 40, [])
/-- KiteWar$State.addTower(III)I -/
def kx_t91 : List (List (Option kx_I)) := [[some (.aload_n 0, 1), some (.getfield 39, 3), none, none, some (.bipush 6, 2), none, some (.if_icmp .lt 6, 3), none, none, some (.bipush (-11), 2), none, some (.ireturn, 1), some (.aload_n 0, 1), some (.getfield 11, 3), none, none],
  [some (.aload_n 0, 1), some (.getfield 39, 3), none, none, some (.aaload, 1), some (.astore 4, 2), none, some (.aload 4, 2), none, some (.iload_n 1, 1), some (.putfield 70, 3), none, none, some (.aload 4, 2), none, some (.iload_n 2, 1)],
  [some (.putfield 73, 3), none, none, some (.aload 4, 2), none, some (.iload_n 3, 1), some (.putfield 76, 3), none, none, some (.aload_n 0, 1), some (.dup, 1), some (.getfield 39, 3), none, none, some (.iconst 1, 1), some (.iadd, 1)],
  [some (.putfield 39, 3), none, none, some (.aload_n 0, 1), some (.getfield 39, 3), none, none, some (.iconst 1, 1), some (.isub, 1), some (.ireturn, 1), none, none, none, none, none, none]]
def kx_m91 : kx_R := (⟨"KiteWar$State", "addTower", "(III)I"⟩, prog_9_method_3_code, 5, Option.some Jvm.ClassFile.FieldType.int, kx_t91, 9, 1, 40, [])
/-- KiteWar$State.kitesAt(I)I -/
def kx_t92 : List (List (Option kx_I)) := [[some (.iconst 0, 1), some (.istore_n 2, 1), some (.iconst 0, 1), some (.istore_n 3, 1), some (.iload_n 3, 1), some (.aload_n 0, 1), some (.getfield 46, 3), none, none, some (.if_icmp .ge 30, 3), none, none, some (.iload_n 2, 1), some (.aload_n 0, 1), some (.getfield 20, 3), none],
  [none, some (.iload_n 3, 1), some (.aaload, 1), some (.getfield 80, 3), none, none, some (.iload_n 1, 1), some (.if_icmp .ne 7, 3), none, none, some (.iconst 1, 1), some (.goto 4, 3), none, none, some (.iconst 0, 1), some (.iadd, 1)],
  [some (.istore_n 2, 1), some (.iinc 3 1, 3), none, none, some (.goto (-32), 3), none, none, some (.iload_n 2, 1), some (.ireturn, 1), none, none, none, none, none, none, none]]
def kx_m92 : kx_R := (⟨"KiteWar$State", "kitesAt", "(I)I"⟩, prog_9_method_11_code, 4, Option.some Jvm.ClassFile.FieldType.int, kx_t92, 9, 1, 40, [])
/-- KiteWar$State.addKite(II)I -/
def kx_t93 : List (List (Option kx_I)) := [[some (.iload_n 1, 1), some (.ifCond .lt 20, 3), none, none, some (.iload_n 1, 1), some (.aload_n 0, 1), some (.getfield 39, 3), none, none, some (.if_icmp .ge 12, 3), none, none, some (.aload_n 0, 1), some (.getfield 46, 3), none, none],
  [some (.bipush 12, 2), none, some (.if_icmp .lt 6, 3), none, none, some (.bipush (-11), 2), none, some (.ireturn, 1), some (.aload_n 0, 1), some (.getfield 20, 3), none, none, some (.aload_n 0, 1), some (.getfield 46, 3), none, none],
  [some (.aaload, 1), some (.astore_n 3, 1), some (.aload_n 3, 1), some (.aload_n 0, 1), some (.getfield 11, 3), none, none, some (.iload_n 1, 1), some (.aaload, 1), some (.getfield 70, 3), none, none, some (.putfield 79, 3), none, none, some (.aload_n 3, 1)],
  [some (.iload_n 1, 1), some (.putfield 80, 3), none, none, some (.aload_n 3, 1), some (.aload_n 0, 1), some (.getfield 11, 3), none, none, some (.iload_n 1, 1), some (.aaload, 1), some (.getfield 73, 3), none, none, some (.putfield 83, 3), none],
  [none, some (.aload_n 3, 1), some (.aload_n 0, 1), some (.getfield 11, 3), none, none, some (.iload_n 1, 1), some (.aaload, 1), some (.getfield 76, 3), none, none, some (.putfield 86, 3), none, none, some (.aload_n 3, 1), some (.aload_n 0, 1)],
  [some (.getfield 11, 3), none, none, some (.iload_n 1, 1), some (.aaload, 1), some (.getfield 73, 3), none, none, some (.putfield 87, 3), none, none, some (.aload_n 3, 1), some (.iload_n 2, 1), some (.putfield 88, 3), none, none],
  [some (.aload_n 0, 1), some (.dup, 1), some (.getfield 46, 3), none, none, some (.iconst 1, 1), some (.iadd, 1), some (.putfield 46, 3), none, none, some (.aload_n 0, 1), some (.getfield 46, 3), none, none, some (.iconst 1, 1), some (.isub, 1)],
  [some (.ireturn, 1), none, none, none, none, none, none, none, none, none, none, none, none, none, none, none]]
def kx_m93 : kx_R := (⟨"KiteWar$State", "addKite", "(II)I"⟩, prog_9_method_4_code, 4, Option.some Jvm.ClassFile.FieldType.int, kx_t93, 9, 1, 40, [])
/-- KiteWar$State.addWind(II)I -/
def kx_t94 : List (List (Option kx_I)) := [[some (.aload_n 0, 1), some (.getfield 52, 3), none, none, some (.bipush 6, 2), none, some (.if_icmp .lt 6, 3), none, none, some (.bipush (-11), 2), none, some (.ireturn, 1), some (.aload_n 0, 1), some (.getfield 25, 3), none, none],
  [some (.aload_n 0, 1), some (.getfield 52, 3), none, none, some (.iload_n 1, 1), some (.iastore, 1), some (.aload_n 0, 1), some (.getfield 29, 3), none, none, some (.aload_n 0, 1), some (.getfield 52, 3), none, none, some (.iload_n 2, 1), some (.iastore, 1)],
  [some (.aload_n 0, 1), some (.dup, 1), some (.getfield 52, 3), none, none, some (.iconst 1, 1), some (.iadd, 1), some (.putfield 52, 3), none, none, some (.aload_n 0, 1), some (.getfield 52, 3), none, none, some (.ireturn, 1), none]]
def kx_m94 : kx_R := (⟨"KiteWar$State", "addWind", "(II)I"⟩, prog_9_method_5_code, 3, Option.some Jvm.ClassFile.FieldType.int, kx_t94, 9, 1, 40, [])
/-- KiteWar$State.forceAt(I)I -/
def kx_t95 : List (List (Option kx_I)) := [[some (.aload_n 0, 1), some (.getfield 52, 3), none, none, some (.ifCond .gt 7, 3), none, none, some (.iconst 0, 1), some (.goto 16, 3), none, none, some (.aload_n 0, 1), some (.getfield 29, 3), none, none, some (.iload_n 1, 1)],
  [some (.aload_n 0, 1), some (.getfield 52, 3), none, none, some (.invokestatic 91, 3), none, none, some (.iaload, 1), some (.ireturn, 1), none, none, none, none, none, none, none]]
def kx_m95 : kx_R := (⟨"KiteWar$State", "forceAt", "(I)I"⟩, prog_9_method_7_code, 2, Option.some Jvm.ClassFile.FieldType.int, kx_t95, 9, 2, 62, [])
/-- KiteWar$State.directionAt(I)I -/
def kx_t96 : List (List (Option kx_I)) := [[some (.aload_n 0, 1), some (.getfield 52, 3), none, none, some (.ifCond .gt 7, 3), none, none, some (.iconst 0, 1), some (.goto 16, 3), none, none, some (.aload_n 0, 1), some (.getfield 25, 3), none, none, some (.iload_n 1, 1)],
  [some (.aload_n 0, 1), some (.getfield 52, 3), none, none, some (.invokestatic 91, 3), none, none, some (.iaload, 1), some (.ireturn, 1), none, none, none, none, none, none, none]]
def kx_m96 : kx_R := (⟨"KiteWar$State", "directionAt", "(I)I"⟩, prog_9_method_6_code, 2, Option.some Jvm.ClassFile.FieldType.int, kx_t96, 9, 2, 62, [])
/-- KiteWar$State.flyingFrom(I)I -/
def kx_t97 : List (List (Option kx_I)) := [[some (.iconst 0, 1), some (.istore_n 2, 1), some (.iconst 0, 1), some (.istore_n 3, 1), some (.iload_n 3, 1), some (.aload_n 0, 1), some (.getfield 46, 3), none, none, some (.if_icmp .ge 43, 3), none, none, some (.iload_n 2, 1), some (.aload_n 0, 1), some (.getfield 20, 3), none],
  [none, some (.iload_n 3, 1), some (.aaload, 1), some (.getfield 80, 3), none, none, some (.iload_n 1, 1), some (.if_icmp .ne 20, 3), none, none, some (.aload_n 0, 1), some (.getfield 20, 3), none, none, some (.iload_n 3, 1), some (.aaload, 1)],
  [some (.getfield 97, 3), none, none, some (.iconst 1, 1), some (.if_icmp .ne 7, 3), none, none, some (.iconst 1, 1), some (.goto 4, 3), none, none, some (.iconst 0, 1), some (.iadd, 1), some (.istore_n 2, 1), some (.iinc 3 1, 3), none],
  [none, some (.goto (-45), 3), none, none, some (.iload_n 2, 1), some (.ireturn, 1), none, none, none, none, none, none, none, none, none, none]]
def kx_m97 : kx_R := (⟨"KiteWar$State", "flyingFrom", "(I)I"⟩, prog_9_method_12_code, 4, Option.some Jvm.ClassFile.FieldType.int, kx_t97, 9, 1, 40, [])
/-- KiteWar$State.slipsOf(I)I -/
def kx_t98 : List (List (Option kx_I)) := [[some (.iconst 0, 1), some (.istore_n 2, 1), some (.iconst 0, 1), some (.istore_n 3, 1), some (.iload_n 3, 1), some (.aload_n 0, 1), some (.getfield 46, 3), none, none, some (.if_icmp .ge 42, 3), none, none, some (.iload_n 2, 1), some (.aload_n 0, 1), some (.getfield 20, 3), none],
  [none, some (.iload_n 3, 1), some (.aaload, 1), some (.getfield 79, 3), none, none, some (.iload_n 1, 1), some (.if_icmp .ne 19, 3), none, none, some (.aload_n 0, 1), some (.getfield 20, 3), none, none, some (.iload_n 3, 1), some (.aaload, 1)],
  [some (.getfield 100, 3), none, none, some (.ifCond .eq 7, 3), none, none, some (.iconst 1, 1), some (.goto 4, 3), none, none, some (.iconst 0, 1), some (.iadd, 1), some (.istore_n 2, 1), some (.iinc 3 1, 3), none, none],
  [some (.goto (-44), 3), none, none, some (.iload_n 2, 1), some (.ireturn, 1), none, none, none, none, none, none, none, none, none, none, none]]
def kx_m98 : kx_R := (⟨"KiteWar$State", "slipsOf", "(I)I"⟩, prog_9_method_14_code, 4, Option.some Jvm.ClassFile.FieldType.int, kx_t98, 9, 1, 40, [])
/-- KiteWar$State.kiteIn(I)I -/
def kx_t99 : List (List (Option kx_I)) := [[some (.iconst 0, 1), some (.istore_n 2, 1), some (.iload_n 2, 1), some (.aload_n 0, 1), some (.getfield 46, 3), none, none, some (.if_icmp .ge 60, 3), none, none, some (.aload_n 0, 1), some (.getfield 20, 3), none, none, some (.iload_n 2, 1), some (.aaload, 1)],
  [some (.getfield 97, 3), none, none, some (.iconst 1, 1), some (.if_icmp .eq 16, 3), none, none, some (.aload_n 0, 1), some (.getfield 20, 3), none, none, some (.iload_n 2, 1), some (.aaload, 1), some (.getfield 97, 3), none, none],
  [some (.iconst 2, 1), some (.if_icmp .ne 7, 3), none, none, some (.iconst 1, 1), some (.goto 4, 3), none, none, some (.iconst 0, 1), some (.istore_n 3, 1), some (.iload_n 3, 1), some (.ifCond .eq 18, 3), none, none, some (.aload_n 0, 1), some (.getfield 20, 3)],
  [none, none, some (.iload_n 2, 1), some (.aaload, 1), some (.getfield 87, 3), none, none, some (.iload_n 1, 1), some (.if_icmp .ne 5, 3), none, none, some (.iload_n 2, 1), some (.ireturn, 1), some (.iinc 2 1, 3), none, none],
  [some (.goto (-62), 3), none, none, some (.iconst (-1), 1), some (.ireturn, 1), none, none, none, none, none, none, none, none, none, none, none]]
def kx_m99 : kx_R := (⟨"KiteWar$State", "kiteIn", "(I)I"⟩, prog_9_method_9_code, 4, Option.some Jvm.ClassFile.FieldType.int, kx_t99, 9, 1, 40, [])
/-- KiteWar$State.kitesThat(I)I -/
def kx_t100 : List (List (Option kx_I)) := [[some (.iconst 0, 1), some (.istore_n 2, 1), some (.iconst 0, 1), some (.istore_n 3, 1), some (.iload_n 3, 1), some (.aload_n 0, 1), some (.getfield 46, 3), none, none, some (.if_icmp .ge 30, 3), none, none, some (.iload_n 2, 1), some (.aload_n 0, 1), some (.getfield 20, 3), none],
  [none, some (.iload_n 3, 1), some (.aaload, 1), some (.getfield 97, 3), none, none, some (.iload_n 1, 1), some (.if_icmp .ne 7, 3), none, none, some (.iconst 1, 1), some (.goto 4, 3), none, none, some (.iconst 0, 1), some (.iadd, 1)],
  [some (.istore_n 2, 1), some (.iinc 3 1, 3), none, none, some (.goto (-32), 3), none, none, some (.iload_n 2, 1), some (.ireturn, 1), none, none, none, none, none, none, none]]
def kx_m100 : kx_R := (⟨"KiteWar$State", "kitesThat", "(I)I"⟩, prog_9_method_13_code, 4, Option.some Jvm.ClassFile.FieldType.int, kx_t100, 9, 1, 40, [])
/-- KiteWar$Tower.<init>()V -/
def kx_t101 : List (List (Option kx_I)) := [[some (.aload_n 0, 1), some (.invokespecial 1, 3), none, none, some (.return_, 1), none, none, none, none, none, none, none, none, none, none, none]]
def kx_m101 : kx_R := (⟨"KiteWar$Tower", "<init>", "()V"⟩, prog_10_method_1_code, 1, Option.none, kx_t101, 10, 1, 40, [])
/-- KiteWar$Tower.copyFrom(LKiteWar$Tower;)V -/
def kx_t102 : List (List (Option kx_I)) := [[some (.aload_n 0, 1), some (.aload_n 1, 1), some (.getfield 7, 3), none, none, some (.putfield 7, 3), none, none, some (.aload_n 0, 1), some (.aload_n 1, 1), some (.getfield 13, 3), none, none, some (.putfield 13, 3), none, none],
  [some (.aload_n 0, 1), some (.aload_n 1, 1), some (.getfield 16, 3), none, none, some (.putfield 16, 3), none, none, some (.aload_n 0, 1), some (.aload_n 1, 1), some (.getfield 19, 3), none, none, some (.putfield 19, 3), none, none],
  [some (.return_, 1), none, none, none, none, none, none, none, none, none, none, none, none, none, none, none]]
def kx_m102 : kx_R := (⟨"KiteWar$Tower", "copyFrom", "(LKiteWar$Tower;)V"⟩, prog_10_method_2_code, 2, Option.none, kx_t102, 10, 1, 40, [])
/-- KiteWar$Umpire.<init>()V -/
def kx_t103 : List (List (Option kx_I)) := [[some (.aload_n 0, 1), some (.invokespecial 3, 3), none, none, some (.aload_n 0, 1), some (.new 9, 3), none, none, some (.dup, 1), some (.invokespecial 11, 3), none, none, some (.putfield 12, 3), none, none, some (.aload_n 0, 1)],
  [some (.new 18, 3), none, none, some (.dup, 1), some (.invokespecial 20, 3), none, none, some (.putfield 21, 3), none, none, some (.aload_n 0, 1), some (.bipush 12, 2), none, some (.newarray .boolean, 2), none, some (.putfield 25, 3)],
  [none, none, some (.aload_n 0, 1), some (.bipush 12, 2), none, some (.newarray .int, 2), none, some (.putfield 29, 3), none, none, some (.return_, 1), none, none, none, none, none]]
def kx_m103 : kx_R := (⟨"KiteWar$Umpire", "<init>", "()V"⟩, prog_11_method_1_code, 1, Option.none, kx_t103, 11, 3, 80, [])
/-- KiteWar$Umpire.passOne(LKiteWar$State;)I -/
def kx_t104 : List (List (Option kx_I)) := [[some (.aload_n 1, 1), some (.aload_n 1, 1), some (.getfield 33, 3), none, none, some (.invokevirtual 39, 3), none, none, some (.istore_n 2, 1), some (.aload_n 1, 1), some (.aload_n 1, 1), some (.getfield 33, 3), none, none, some (.invokevirtual 43, 3), none],
  [none, some (.istore_n 3, 1), some (.aload_n 1, 1), some (.getfield 46, 3), none, none, some (.istore 4, 2), none, some (.aload_n 0, 1), some (.aload_n 1, 1), some (.invokevirtual 49, 3), none, none, some (.aload_n 0, 1), some (.aload_n 1, 1), some (.iload_n 2, 1)],
  [some (.iload_n 3, 1), some (.invokevirtual 53, 3), none, none, some (.aload_n 0, 1), some (.aload_n 1, 1), some (.invokevirtual 57, 3), none, none, some (.aload_n 0, 1), some (.aload_n 1, 1), some (.invokevirtual 60, 3), none, none, some (.aload_n 0, 1), some (.aload_n 1, 1)],
  [some (.invokevirtual 63, 3), none, none, some (.aload_n 0, 1), some (.aload_n 1, 1), some (.iload_n 2, 1), some (.iload_n 3, 1), some (.invokevirtual 66, 3), none, none, some (.aload_n 1, 1), some (.dup, 1), some (.getfield 33, 3), none, none, some (.iconst 1, 1)],
  [some (.iadd, 1), some (.putfield 33, 3), none, none, some (.aload_n 1, 1), some (.getfield 46, 3), none, none, some (.iload 4, 2), none, some (.isub, 1), some (.ireturn, 1), none, none, none, none]]
def kx_m104 : kx_R := (⟨"KiteWar$Umpire", "passOne", "(LKiteWar$State;)I"⟩, prog_11_method_2_code, 5, Option.some Jvm.ClassFile.FieldType.int, kx_t104, 11, 5, 140, [])
/-- KiteWar$Umpire.carryOutSlips(LKiteWar$State;)V -/
def kx_t105 : List (List (Option kx_I)) := [[some (.iconst 0, 1), some (.istore_n 2, 1), some (.iload_n 2, 1), some (.aload_n 1, 1), some (.getfield 69, 3), none, none, some (.if_icmp .ge 77, 3), none, none, some (.aload_n 1, 1), some (.getfield 72, 3), none, none, some (.iload_n 2, 1), some (.aaload, 1)],
  [some (.astore_n 3, 1), some (.aload_n 3, 1), some (.getfield 76, 3), none, none, some (.ifCond .eq 57, 3), none, none, some (.aload_n 0, 1), some (.getfield 21, 3), none, none, some (.aload_n 3, 1), some (.invokevirtual 81, 3), none, none],
  [some (.aload_n 1, 1), some (.dup, 1), some (.getfield 85, 3), none, none, some (.aload_n 0, 1), some (.getfield 21, 3), none, none, some (.getfield 88, 3), none, none, some (.ifCond .eq 7, 3), none, none, some (.iconst 0, 1)],
  [some (.goto 4, 3), none, none, some (.iconst 1, 1), some (.iadd, 1), some (.putfield 85, 3), none, none, some (.aload_n 3, 1), some (.aload_n 0, 1), some (.getfield 21, 3), none, none, some (.getfield 92, 3), none, none],
  [some (.aload_n 0, 1), some (.getfield 21, 3), none, none, some (.getfield 95, 3), none, none, some (.invokevirtual 98, 3), none, none, some (.aload_n 3, 1), some (.invokevirtual 102, 3), none, none, some (.iinc 2 1, 3), none],
  [none, some (.goto (-79), 3), none, none, some (.return_, 1), none, none, none, none, none, none, none, none, none, none, none]]
def kx_m105 : kx_R := (⟨"KiteWar$Umpire", "carryOutSlips", "(LKiteWar$State;)V"⟩, prog_11_method_3_code, 4, Option.none, kx_t105, 11, 3, 89, [])
/-- KiteWar$Umpire.blow(LKiteWar$State;II)V -/
def kx_t106 : List (List (Option kx_I)) := [[some (.iconst 0, 1), some (.istore 4, 2), none, some (.iload 4, 2), none, some (.aload_n 1, 1), some (.getfield 69, 3), none, none, some (.if_icmp .ge 94, 3), none, none, some (.aload_n 1, 1), some (.getfield 72, 3), none, none],
  [some (.iload 4, 2), none, some (.aaload, 1), some (.astore 5, 2), none, some (.aload 5, 2), none, some (.getfield 105, 3), none, none, some (.iconst 1, 1), some (.if_icmp .eq 6, 3), none, none, some (.goto 67, 3), none],
  [none, some (.aload 5, 2), none, some (.getfield 108, 3), none, none, some (.iload_n 2, 1), some (.if_icmp .ne 22, 3), none, none, some (.aload 5, 2), none, some (.iconst 0, 1), some (.aload 5, 2), none, some (.getfield 109, 3)],
  [none, none, some (.iload_n 3, 1), some (.isub, 1), some (.invokestatic 112, 3), none, none, some (.putfield 109, 3), none, none, some (.goto 39, 3), none, none, some (.iload_n 3, 1), some (.iconst 2, 1), some (.if_icmp .lt 34, 3)],
  [none, none, some (.aload 5, 2), none, some (.getfield 108, 3), none, none, some (.iload_n 2, 1), some (.iconst 3, 1), some (.iadd, 1), some (.bipush 6, 2), none, some (.irem, 1), some (.if_icmp .ne 20, 3), none, none],
  [some (.aload 5, 2), none, some (.aload 5, 2), none, some (.getfield 108, 3), none, none, some (.aload 5, 2), none, some (.getfield 118, 3), none, none, some (.iconst 1, 1), some (.isub, 1), some (.invokevirtual 98, 3), none],
  [none, some (.iinc 4 1, 3), none, none, some (.goto (-97), 3), none, none, some (.return_, 1), none, none, none, none, none, none, none, none]]
def kx_m106 : kx_R := (⟨"KiteWar$Umpire", "blow", "(LKiteWar$State;II)V"⟩, prog_11_method_4_code, 6, Option.none, kx_t106, 11, 3, 89, [])
/-- KiteWar$Umpire.cutStrained(LKiteWar$State;)V -/
def kx_t107 : List (List (Option kx_I)) := [[some (.iconst 0, 1), some (.istore_n 2, 1), some (.iload_n 2, 1), some (.aload_n 1, 1), some (.getfield 69, 3), none, none, some (.if_icmp .ge 55, 3), none, none, some (.aload_n 1, 1), some (.getfield 72, 3), none, none, some (.iload_n 2, 1), some (.aaload, 1)],
  [some (.astore_n 3, 1), some (.aload_n 3, 1), some (.getfield 105, 3), none, none, some (.iconst 1, 1), some (.if_icmp .ne 34, 3), none, none, some (.aload_n 3, 1), some (.getfield 109, 3), none, none, some (.ifCond .gt 27, 3), none, none],
  [some (.aload_n 3, 1), some (.invokevirtual 119, 3), none, none, some (.aload_n 1, 1), some (.dup, 1), some (.getfield 46, 3), none, none, some (.iconst 1, 1), some (.iadd, 1), some (.putfield 46, 3), none, none, some (.aload_n 1, 1), some (.dup, 1)],
  [some (.getfield 122, 3), none, none, some (.iconst 1, 1), some (.iadd, 1), some (.putfield 122, 3), none, none, some (.iinc 2 1, 3), none, none, some (.goto (-57), 3), none, none, some (.return_, 1), none]]
def kx_m107 : kx_R := (⟨"KiteWar$Umpire", "cutStrained", "(LKiteWar$State;)V"⟩, prog_11_method_5_code, 4, Option.none, kx_t107, 11, 2, 60, [])
/-- KiteWar$Umpire.findCrossed(LKiteWar$State;)V -/
def kx_t108 : List (List (Option kx_I)) := [[some (.aload_n 0, 1), some (.getfield 12, 3), none, none, some (.aload_n 1, 1), some (.invokevirtual 125, 3), none, none, some (.iconst 0, 1), some (.istore_n 2, 1), some (.iload_n 2, 1), some (.bipush 12, 2), none, some (.if_icmp .ge 23, 3), none, none],
  [some (.aload_n 0, 1), some (.getfield 25, 3), none, none, some (.iload_n 2, 1), some (.iconst 0, 1), some (.bastore, 1), some (.aload_n 0, 1), some (.getfield 29, 3), none, none, some (.iload_n 2, 1), some (.iconst 0, 1), some (.iastore, 1), some (.iinc 2 1, 3), none],
  [none, some (.goto (-23), 3), none, none, some (.iconst 0, 1), some (.istore_n 2, 1), some (.iload_n 2, 1), some (.aload_n 1, 1), some (.getfield 69, 3), none, none, some (.if_icmp .ge 88, 3), none, none, some (.iconst 0, 1), some (.istore_n 3, 1)],
  [some (.iload_n 3, 1), some (.aload_n 1, 1), some (.getfield 69, 3), none, none, some (.if_icmp .ge 72, 3), none, none, some (.aload_n 1, 1), some (.getfield 72, 3), none, none, some (.iload_n 2, 1), some (.aaload, 1), some (.getfield 109, 3), none],
  [none, some (.aload_n 1, 1), some (.getfield 72, 3), none, none, some (.iload_n 3, 1), some (.aaload, 1), some (.getfield 109, 3), none, none, some (.if_icmp .lt 7, 3), none, none, some (.iconst 1, 1), some (.goto 4, 3), none],
  [none, some (.iconst 0, 1), some (.istore 4, 2), none, some (.iload 4, 2), none, some (.ifCond .eq 33, 3), none, none, some (.aload_n 0, 1), some (.getfield 12, 3), none, none, some (.aload_n 1, 1), some (.iload_n 2, 1), some (.iload_n 3, 1)],
  [some (.invokevirtual 128, 3), none, none, some (.ifCond .eq 20, 3), none, none, some (.aload_n 0, 1), some (.getfield 25, 3), none, none, some (.iload_n 3, 1), some (.iconst 1, 1), some (.bastore, 1), some (.aload_n 0, 1), some (.getfield 29, 3), none],
  [none, some (.iload_n 2, 1), some (.dup2, 1), some (.iaload, 1), some (.iconst 1, 1), some (.iadd, 1), some (.iastore, 1), some (.iinc 3 1, 3), none, none, some (.goto (-74), 3), none, none, some (.iinc 2 1, 3), none, none],
  [some (.goto (-90), 3), none, none, some (.return_, 1), none, none, none, none, none, none, none, none, none, none, none, none]]
def kx_m108 : kx_R := (⟨"KiteWar$Umpire", "findCrossed", "(LKiteWar$State;)V"⟩, prog_11_method_6_code, 5, Option.none, kx_t108, 11, 4, 116, [])
/-- KiteWar$Umpire.cutCrossed(LKiteWar$State;)V -/
def kx_t109 : List (List (Option kx_I)) := [[some (.iconst 0, 1), some (.istore_n 2, 1), some (.iload_n 2, 1), some (.aload_n 1, 1), some (.getfield 69, 3), none, none, some (.if_icmp .ge 100, 3), none, none, some (.aload_n 1, 1), some (.getfield 72, 3), none, none, some (.iload_n 2, 1), some (.aaload, 1)],
  [some (.astore_n 3, 1), some (.aload_n 3, 1), some (.dup, 1), some (.getfield 132, 3), none, none, some (.aload_n 0, 1), some (.getfield 29, 3), none, none, some (.iload_n 2, 1), some (.iaload, 1), some (.iadd, 1), some (.putfield 132, 3), none, none],
  [some (.aload_n 0, 1), some (.getfield 25, 3), none, none, some (.iload_n 2, 1), some (.baload, 1), some (.ifCond .eq 35, 3), none, none, some (.aload_n 3, 1), some (.invokevirtual 119, 3), none, none, some (.aload_n 1, 1), some (.dup, 1), some (.getfield 46, 3)],
  [none, none, some (.iconst 1, 1), some (.iadd, 1), some (.putfield 46, 3), none, none, some (.aload_n 1, 1), some (.getfield 135, 3), none, none, some (.iconst 1, 1), some (.aload_n 3, 1), some (.getfield 138, 3), none, none],
  [some (.isub, 1), some (.dup2, 1), some (.iaload, 1), some (.iconst 2, 1), some (.iadd, 1), some (.iastore, 1), some (.goto 31, 3), none, none, some (.aload_n 0, 1), some (.getfield 29, 3), none, none, some (.iload_n 2, 1), some (.iaload, 1), some (.ifCond .le 22, 3)],
  [none, none, some (.aload_n 3, 1), some (.iconst 1, 1), some (.aload_n 3, 1), some (.getfield 109, 3), none, none, some (.aload_n 0, 1), some (.getfield 29, 3), none, none, some (.iload_n 2, 1), some (.iaload, 1), some (.isub, 1), some (.invokestatic 112, 3)],
  [none, none, some (.putfield 109, 3), none, none, some (.iinc 2 1, 3), none, none, some (.goto (-102), 3), none, none, some (.return_, 1), none, none, none, none]]
def kx_m109 : kx_R := (⟨"KiteWar$Umpire", "cutCrossed", "(LKiteWar$State;)V"⟩, prog_11_method_7_code, 4, Option.none, kx_t109, 11, 2, 60, [])
/-- KiteWar$Umpire.drift(LKiteWar$State;II)V -/
def kx_t110 : List (List (Option kx_I)) := [[some (.iconst 0, 1), some (.istore 4, 2), none, some (.iload 4, 2), none, some (.aload_n 1, 1), some (.getfield 69, 3), none, none, some (.if_icmp .ge 93, 3), none, none, some (.aload_n 1, 1), some (.getfield 72, 3), none, none],
  [some (.iload 4, 2), none, some (.aaload, 1), some (.astore 5, 2), none, some (.aload 5, 2), none, some (.getfield 105, 3), none, none, some (.iconst 2, 1), some (.if_icmp .eq 6, 3), none, none, some (.goto 66, 3), none],
  [none, some (.aload 5, 2), none, some (.aload 5, 2), none, some (.getfield 141, 3), none, none, some (.iload_n 2, 1), some (.iload_n 3, 1), some (.invokestatic 144, 3), none, none, some (.putfield 141, 3), none, none],
  [some (.aload_n 1, 1), some (.aload 5, 2), none, some (.getfield 141, 3), none, none, some (.invokevirtual 150, 3), none, none, some (.istore 6, 2), none, some (.aload 5, 2), none, some (.getfield 141, 3), none, none],
  [some (.iconst (-1), 1), some (.if_icmp .ne 12, 3), none, none, some (.aload 5, 2), none, some (.iconst 3, 1), some (.putfield 105, 3), none, none, some (.goto 22, 3), none, none, some (.iload 6, 2), none, some (.ifCond .lt 17, 3)],
  [none, none, some (.aload_n 0, 1), some (.aload_n 1, 1), some (.aload 5, 2), none, some (.aload_n 1, 1), some (.getfield 153, 3), none, none, some (.iload 6, 2), none, some (.aaload, 1), some (.invokevirtual 157, 3), none, none],
  [some (.iinc 4 1, 3), none, none, some (.goto (-96), 3), none, none, some (.return_, 1), none, none, none, none, none, none, none, none, none]]
def kx_m110 : kx_R := (⟨"KiteWar$Umpire", "drift", "(LKiteWar$State;II)V"⟩, prog_11_method_8_code, 7, Option.none, kx_t110, 11, 4, 112, [])
/-- KiteWar$Umpire.take(LKiteWar$State;LKiteWar$Kite;LKiteWar$Tower;)V -/
def kx_t111 : List (List (Option kx_I)) := [[some (.aload_n 3, 1), some (.dup, 1), some (.getfield 161, 3), none, none, some (.iconst 1, 1), some (.iadd, 1), some (.putfield 161, 3), none, none, some (.aload_n 3, 1), some (.getfield 166, 3), none, none, some (.aload_n 2, 1), some (.getfield 138, 3)],
  [none, none, some (.if_icmp .ne 27, 3), none, none, some (.aload_n 1, 1), some (.dup, 1), some (.getfield 167, 3), none, none, some (.iconst 1, 1), some (.iadd, 1), some (.putfield 167, 3), none, none, some (.aload_n 2, 1)],
  [some (.iconst 1, 1), some (.putfield 109, 3), none, none, some (.aload_n 2, 1), some (.iconst 0, 1), some (.iconst 0, 1), some (.invokevirtual 98, 3), none, none, some (.goto 31, 3), none, none, some (.aload_n 1, 1), some (.dup, 1), some (.getfield 170, 3)],
  [none, none, some (.iconst 1, 1), some (.iadd, 1), some (.putfield 170, 3), none, none, some (.aload_n 2, 1), some (.iconst 3, 1), some (.putfield 105, 3), none, none, some (.aload_n 1, 1), some (.getfield 135, 3), none, none],
  [some (.aload_n 3, 1), some (.getfield 166, 3), none, none, some (.dup2, 1), some (.iaload, 1), some (.iconst 3, 1), some (.iadd, 1), some (.iastore, 1), some (.return_, 1), none, none, none, none, none, none]]
def kx_m111 : kx_R := (⟨"KiteWar$Umpire", "take", "(LKiteWar$State;LKiteWar$Kite;LKiteWar$Tower;)V"⟩, prog_11_method_9_code, 4, Option.none, kx_t111, 11, 3, 89, [])
/-- KiteWarModel.<init>()V -/
def kx_t112 : List (List (Option kx_I)) := [[some (.aload_n 0, 1), some (.invokespecial 1, 3), none, none, some (.aload_n 0, 1), some (.sipush 167, 3), none, none, some (.newarray .int, 2), none, some (.putfield 7, 3), none, none, some (.aload_n 0, 1), some (.sipush 1336, 3), none],
  [none, some (.newarray .int, 2), none, some (.putfield 13, 3), none, none, some (.aload_n 0, 1), some (.sipush 167, 3), none, none, some (.newarray .int, 2), none, some (.putfield 16, 3), none, none, some (.aload_n 0, 1)],
  [some (.sipush 167, 3), none, none, some (.newarray .int, 2), none, some (.putfield 19, 3), none, none, some (.aload_n 0, 1), some (.sipush 167, 3), none, none, some (.newarray .int, 2), none, some (.putfield 22, 3), none],
  [none, some (.aload_n 0, 1), some (.bipush 60, 2), none, some (.newarray .int, 2), none, some (.putfield 25, 3), none, none, some (.aload_n 0, 1), some (.bipush 40, 2), none, some (.newarray .char, 2), none, some (.putfield 28, 3), none],
  [none, some (.aload_n 0, 1), some (.bipush 37, 2), none, some (.newarray .int, 2), none, some (.putfield 32, 3), none, none, some (.aload_n 0, 1), some (.bipush 12, 2), none, some (.newarray .int, 2), none, some (.putfield 35, 3), none],
  [none, some (.aload_n 0, 1), some (.bipush 12, 2), none, some (.newarray .int, 2), none, some (.putfield 38, 3), none, none, some (.aload_n 0, 1), some (.sipush 144, 3), none, none, some (.newarray .int, 2), none, some (.putfield 41, 3)],
  [none, none, some (.aload_n 0, 1), some (.bipush 96, 2), none, some (.newarray .int, 2), none, some (.putfield 44, 3), none, none, some (.return_, 1), none, none, none, none, none]]
def kx_m112 : kx_R := (⟨"KiteWarModel", "<init>", "()V"⟩, prog_13_method_1_code, 1, Option.none, kx_t112, 12, 1, 40, [])
/-- KiteWarModel.beside(II)I -/
def kx_t113 : List (List (Option kx_I)) := [[some (.iload_n 1, 1), some (.invokestatic 83, 3), none, none, some (.ifCond .ne 6, 3), none, none, some (.bipush (-11), 2), none, some (.ireturn, 1), some (.iload_n 2, 1), some (.iconst 0, 1), some (.iconst 5, 1), some (.invokestatic 65, 3), none, none],
  [some (.ifCond .ne 6, 3), none, none, some (.bipush (-12), 2), none, some (.ireturn, 1), some (.iload_n 1, 1), some (.iload_n 2, 1), some (.invokestatic 79, 3), none, none, some (.istore_n 3, 1), some (.iload_n 3, 1), some (.ifCond .ge 8, 3), none, none],
  [some (.bipush (-15), 2), none, some (.goto 4, 3), none, none, some (.iload_n 3, 1), some (.ireturn, 1), none, none, none, none, none, none, none, none, none]]
def kx_m113 : kx_R := (⟨"KiteWarModel", "beside", "(II)I"⟩, prog_13_method_14_code, 4, Option.some Jvm.ClassFile.FieldType.int, kx_t113, 12, 5, 130, [])
/-- KiteWarModel.isHexagon(I)Z -/
def kx_t114 : List (List (Option kx_I)) := [[some (.iload_n 0, 1), some (.iconst 0, 1), some (.bipush 36, 2), none, some (.invokestatic 65, 3), none, none, some (.ireturn, 1), none, none, none, none, none, none, none, none]]
def kx_m114 : kx_R := (⟨"KiteWarModel", "isHexagon", "(I)Z"⟩, prog_13_method_8_code, 1, Option.some Jvm.ClassFile.FieldType.boolean, kx_t114, 12, 2, 62, [])
/-- KiteWarModel.in(III)Z -/
def kx_t115 : List (List (Option kx_I)) := [[some (.iload_n 0, 1), some (.iload_n 1, 1), some (.if_icmp .lt 12, 3), none, none, some (.iload_n 0, 1), some (.iload_n 2, 1), some (.if_icmp .gt 7, 3), none, none, some (.iconst 1, 1), some (.goto 4, 3), none, none, some (.iconst 0, 1), some (.ireturn, 1)]]
def kx_m115 : kx_R := (⟨"KiteWarModel", "in", "(III)Z"⟩, prog_13_method_3_code, 3, Option.some Jvm.ClassFile.FieldType.boolean, kx_t115, 12, 1, 40, [])
/-- KiteWarModel.goes(II)I -/
def kx_t116 : List (List (Option kx_I)) := [[some (.iload_n 0, 1), some (.invokestatic 76, 3), none, none, some (.istore_n 2, 1), some (.iload_n 0, 1), some (.iload_n 2, 1), some (.invokestatic 73, 3), none, none, some (.isub, 1), some (.istore_n 3, 1), some (.iload_n 1, 1), some (.ifCond .eq 8, 3), none, none],
  [some (.iload_n 1, 1), some (.iconst 3, 1), some (.if_icmp .ne 43, 3), none, none, some (.iload_n 3, 1), some (.iload_n 1, 1), some (.ifCond .ne 7, 3), none, none, some (.iconst 1, 1), some (.goto 4, 3), none, none, some (.iconst (-1), 1), some (.iadd, 1)],
  [some (.istore 4, 2), none, some (.iload 4, 2), none, some (.iconst 0, 1), some (.iload_n 2, 1), some (.invokestatic 69, 3), none, none, some (.iconst 1, 1), some (.isub, 1), some (.invokestatic 65, 3), none, none, some (.ifCond .eq 13, 3), none],
  [none, some (.iload_n 2, 1), some (.invokestatic 73, 3), none, none, some (.iload 4, 2), none, some (.iadd, 1), some (.goto 4, 3), none, none, some (.iconst (-1), 1), some (.ireturn, 1), some (.iload_n 2, 1), some (.iload_n 1, 1), some (.iconst 3, 1)],
  [some (.if_icmp .ge 7, 3), none, none, some (.iconst (-1), 1), some (.goto 4, 3), none, none, some (.iconst 1, 1), some (.iadd, 1), some (.istore 4, 2), none, some (.iload 4, 2), none, some (.iconst 0, 1), some (.bipush 6, 2), none],
  [some (.invokestatic 65, 3), none, none, some (.ifCond .ne 5, 3), none, none, some (.iconst (-1), 1), some (.ireturn, 1), some (.iload_n 1, 1), some (.iconst 2, 1), some (.if_icmp .eq 8, 3), none, none, some (.iload_n 1, 1), some (.iconst 4, 1), some (.if_icmp .ne 7, 3)],
  [none, none, some (.iconst 1, 1), some (.goto 4, 3), none, none, some (.iconst 0, 1), some (.istore 5, 2), none, some (.iload 4, 2), none, some (.invokestatic 69, 3), none, none, some (.iload_n 2, 1), some (.invokestatic 69, 3)],
  [none, none, some (.if_icmp .le 7, 3), none, none, some (.iconst 1, 1), some (.goto 4, 3), none, none, some (.iconst 0, 1), some (.istore 6, 2), none, some (.iload_n 3, 1), some (.iload 6, 2), none, some (.ifCond .eq 16, 3)],
  [none, none, some (.iload 5, 2), none, some (.ifCond .eq 7, 3), none, none, some (.iconst 0, 1), some (.goto 17, 3), none, none, some (.iconst 1, 1), some (.goto 13, 3), none, none, some (.iload 5, 2)],
  [none, some (.ifCond .eq 7, 3), none, none, some (.iconst (-1), 1), some (.goto 4, 3), none, none, some (.iconst 0, 1), some (.iadd, 1), some (.istore 7, 2), none, some (.iload 7, 2), none, some (.iconst 0, 1), some (.iload 4, 2)],
  [none, some (.invokestatic 69, 3), none, none, some (.iconst 1, 1), some (.isub, 1), some (.invokestatic 65, 3), none, none, some (.ifCond .eq 14, 3), none, none, some (.iload 4, 2), none, some (.invokestatic 73, 3), none],
  [none, some (.iload 7, 2), none, some (.iadd, 1), some (.goto 4, 3), none, none, some (.iconst (-1), 1), some (.ireturn, 1), none, none, none, none, none, none, none]]
def kx_m116 : kx_R := (⟨"KiteWarModel", "goes", "(II)I"⟩, prog_13_method_12_code, 8, Option.some Jvm.ClassFile.FieldType.int, kx_t116, 12, 4, 103, [])
/-- KiteWarModel.rowOf(I)I -/
def kx_t117 : List (List (Option kx_I)) := [[some (.iconst 0, 1), some (.istore_n 1, 1), some (.iload_n 1, 1), some (.invokestatic 73, 3), none, none, some (.iload_n 1, 1), some (.invokestatic 69, 3), none, none, some (.iadd, 1), some (.iload_n 0, 1), some (.if_icmp .gt 9, 3), none, none, some (.iinc 1 1, 3)],
  [none, none, some (.goto (-16), 3), none, none, some (.iload_n 1, 1), some (.ireturn, 1), none, none, none, none, none, none, none, none, none]]
def kx_m117 : kx_R := (⟨"KiteWarModel", "rowOf", "(I)I"⟩, prog_13_method_11_code, 2, Option.some Jvm.ClassFile.FieldType.int, kx_t117, 12, 3, 82, [])
/-- KiteWarModel.startOf(I)I -/
def kx_t118 : List (List (Option kx_I)) := [[some (.iconst 0, 1), some (.istore_n 1, 1), some (.iconst 0, 1), some (.istore_n 2, 1), some (.iload_n 2, 1), some (.iload_n 0, 1), some (.if_icmp .ge 16, 3), none, none, some (.iload_n 1, 1), some (.iload_n 2, 1), some (.invokestatic 69, 3), none, none, some (.iadd, 1), some (.istore_n 1, 1)],
  [some (.iinc 2 1, 3), none, none, some (.goto (-15), 3), none, none, some (.iload_n 1, 1), some (.ireturn, 1), none, none, none, none, none, none, none, none]]
def kx_m118 : kx_R := (⟨"KiteWarModel", "startOf", "(I)I"⟩, prog_13_method_10_code, 3, Option.some Jvm.ClassFile.FieldType.int, kx_t118, 12, 2, 60, [])
/-- KiteWarModel.lengthOf(I)I -/
def kx_t119 : List (List (Option kx_I)) := [[some (.iload_n 0, 1), some (.iconst 4, 1), some (.if_icmp .ge 9, 3), none, none, some (.iconst 4, 1), some (.iload_n 0, 1), some (.iadd, 1), some (.goto 7, 3), none, none, some (.bipush 10, 2), none, some (.iload_n 0, 1), some (.isub, 1), some (.ireturn, 1)]]
def kx_m119 : kx_R := (⟨"KiteWarModel", "lengthOf", "(I)I"⟩, prog_13_method_9_code, 1, Option.some Jvm.ClassFile.FieldType.int, kx_t119, 12, 1, 40, [])
/-- KiteWarModel.apart(II)I -/
def kx_t120 : List (List (Option kx_I)) := [[some (.iload_n 1, 1), some (.invokestatic 83, 3), none, none, some (.ifCond .eq 18, 3), none, none, some (.iload_n 2, 1), some (.invokestatic 83, 3), none, none, some (.ifCond .eq 11, 3), none, none, some (.iload_n 1, 1), some (.iload_n 2, 1)],
  [some (.invokestatic 96, 3), none, none, some (.goto 5, 3), none, none, some (.bipush (-11), 2), none, some (.ireturn, 1), none, none, none, none, none, none, none]]
def kx_m120 : kx_R := (⟨"KiteWarModel", "apart", "(II)I"⟩, prog_13_method_18_code, 3, Option.some Jvm.ClassFile.FieldType.int, kx_t120, 12, 6, 148, [])
/-- KiteWarModel.far(II)I -/
def kx_t121 : List (List (Option kx_I)) := [[some (.iload_n 0, 1), some (.invokestatic 76, 3), none, none, some (.iload_n 1, 1), some (.invokestatic 76, 3), none, none, some (.isub, 1), some (.istore_n 2, 1), some (.iload_n 0, 1), some (.invokestatic 87, 3), none, none, some (.iload_n 1, 1), some (.invokestatic 87, 3)],
  [none, none, some (.isub, 1), some (.istore_n 3, 1), some (.iload_n 3, 1), some (.iload_n 2, 1), some (.isub, 1), some (.istore 4, 2), none, some (.iload_n 2, 1), some (.invokestatic 90, 3), none, none, some (.iload_n 3, 1), some (.invokestatic 90, 3), none],
  [none, some (.invokestatic 93, 3), none, none, some (.iload 4, 2), none, some (.invokestatic 90, 3), none, none, some (.invokestatic 93, 3), none, none, some (.ireturn, 1), none, none, none]]
def kx_m121 : kx_R := (⟨"KiteWarModel", "far", "(II)I"⟩, prog_13_method_16_code, 5, Option.some Jvm.ClassFile.FieldType.int, kx_t121, 12, 5, 124, [])
/-- KiteWarModel.slantOf(I)I -/
def kx_t122 : List (List (Option kx_I)) := [[some (.iload_n 0, 1), some (.invokestatic 76, 3), none, none, some (.istore_n 1, 1), some (.iload_n 0, 1), some (.iload_n 1, 1), some (.invokestatic 73, 3), none, none, some (.isub, 1), some (.iload_n 1, 1), some (.iconst 3, 1), some (.if_icmp .le 9, 3), none, none],
  [some (.iload_n 1, 1), some (.iconst 3, 1), some (.isub, 1), some (.goto 4, 3), none, none, some (.iconst 0, 1), some (.iadd, 1), some (.ireturn, 1), none, none, none, none, none, none, none]]
def kx_m122 : kx_R := (⟨"KiteWarModel", "slantOf", "(I)I"⟩, prog_13_method_15_code, 2, Option.some Jvm.ClassFile.FieldType.int, kx_t122, 12, 4, 103, [])
/-- KiteWarModel.size(I)I -/
def kx_t123 : List (List (Option kx_I)) := [[some (.iload_n 0, 1), some (.ifCond .ge 8, 3), none, none, some (.iload_n 0, 1), some (.ineg, 1), some (.goto 4, 3), none, none, some (.iload_n 0, 1), some (.ireturn, 1), none, none, none, none, none]]
def kx_m123 : kx_R := (⟨"KiteWarModel", "size", "(I)I"⟩, prog_13_method_17_code, 1, Option.some Jvm.ClassFile.FieldType.int, kx_t123, 12, 1, 40, [])
/-- KiteWarModel.more(II)I -/
def kx_t124 : List (List (Option kx_I)) := [[some (.iload_n 0, 1), some (.iload_n 1, 1), some (.if_icmp .le 7, 3), none, none, some (.iload_n 0, 1), some (.goto 4, 3), none, none, some (.iload_n 1, 1), some (.ireturn, 1), none, none, none, none, none]]
def kx_m124 : kx_R := (⟨"KiteWarModel", "more", "(II)I"⟩, prog_13_method_5_code, 2, Option.some Jvm.ClassFile.FieldType.int, kx_t124, 12, 1, 40, [])
/-- KiteWarModel.apartAgain(II)I -/
def kx_t125 : List (List (Option kx_I)) := [[some (.iload_n 1, 1), some (.invokestatic 83, 3), none, none, some (.ifCond .eq 10, 3), none, none, some (.iload_n 2, 1), some (.invokestatic 83, 3), none, none, some (.ifCond .ne 6, 3), none, none, some (.bipush (-11), 2), none],
  [some (.ireturn, 1), some (.iconst 0, 1), some (.istore_n 3, 1), some (.iload_n 3, 1), some (.bipush 37, 2), none, some (.if_icmp .ge 25, 3), none, none, some (.aload_n 0, 1), some (.getfield 32, 3), none, none, some (.iload_n 3, 1), some (.iload_n 3, 1), some (.iload_n 1, 1)],
  [some (.if_icmp .ne 7, 3), none, none, some (.iconst 0, 1), some (.goto 4, 3), none, none, some (.iconst (-1), 1), some (.iastore, 1), some (.iinc 3 1, 3), none, none, some (.goto (-25), 3), none, none, some (.iconst 0, 1)],
  [some (.istore_n 3, 1), some (.aload_n 0, 1), some (.getfield 32, 3), none, none, some (.iload_n 2, 1), some (.iaload, 1), some (.ifCond .ge 86, 3), none, none, some (.iconst 0, 1), some (.istore 4, 2), none, some (.iload 4, 2), none, some (.bipush 37, 2)],
  [none, some (.if_icmp .ge 70, 3), none, none, some (.iconst 0, 1), some (.istore 5, 2), none, some (.iload 5, 2), none, some (.bipush 6, 2), none, some (.if_icmp .ge 54, 3), none, none, some (.aload_n 0, 1), some (.getfield 32, 3)],
  [none, none, some (.iload 4, 2), none, some (.iaload, 1), some (.iload_n 3, 1), some (.if_icmp .ne 43, 3), none, none, some (.iload 4, 2), none, some (.iload 5, 2), none, some (.invokestatic 79, 3), none, none],
  [some (.istore 6, 2), none, some (.iload 6, 2), none, some (.ifCond .lt 23, 3), none, none, some (.aload_n 0, 1), some (.getfield 32, 3), none, none, some (.iload 6, 2), none, some (.iaload, 1), some (.ifCond .ge 13, 3), none],
  [none, some (.aload_n 0, 1), some (.getfield 32, 3), none, none, some (.iload 6, 2), none, some (.iload_n 3, 1), some (.iconst 1, 1), some (.iadd, 1), some (.iastore, 1), some (.iinc 5 1, 3), none, none, some (.goto (-55), 3), none],
  [none, some (.iinc 4 1, 3), none, none, some (.goto (-71), 3), none, none, some (.iinc 3 1, 3), none, none, some (.goto (-89), 3), none, none, some (.aload_n 0, 1), some (.getfield 32, 3), none],
  [none, some (.iload_n 2, 1), some (.iaload, 1), some (.ireturn, 1), none, none, none, none, none, none, none, none, none, none, none, none]]
def kx_m125 : kx_R := (⟨"KiteWarModel", "apartAgain", "(II)I"⟩, prog_13_method_19_code, 7, Option.some Jvm.ClassFile.FieldType.int, kx_t125, 12, 5, 130, [])
/-- KiteWarModel.tower(III)I -/
def kx_t126 : List (List (Option kx_I)) := [[some (.iload_n 1, 1), some (.iconst 0, 1), some (.iconst 1, 1), some (.invokestatic 65, 3), none, none, some (.ifCond .eq 10, 3), none, none, some (.iload_n 2, 1), some (.invokestatic 83, 3), none, none, some (.ifCond .ne 6, 3), none, none],
  [some (.bipush (-11), 2), none, some (.ireturn, 1), some (.iload_n 3, 1), some (.iconst 1, 1), some (.iconst 4, 1), some (.invokestatic 65, 3), none, none, some (.ifCond .ne 6, 3), none, none, some (.bipush (-12), 2), none, some (.ireturn, 1), some (.aload_n 0, 1)],
  [some (.iload_n 2, 1), some (.invokevirtual 105, 3), none, none, some (.ifCond .lt 14, 3), none, none, some (.aload_n 0, 1), some (.iconst 2, 1), some (.aload_n 0, 1), some (.iload_n 2, 1), some (.invokevirtual 105, 3), none, none, some (.invokevirtual 108, 3), none],
  [none, some (.ireturn, 1), some (.aload_n 0, 1), some (.iload_n 1, 1), some (.invokevirtual 111, 3), none, none, some (.iconst 3, 1), some (.if_icmp .ne 10, 3), none, none, some (.aload_n 0, 1), some (.iconst 1, 1), some (.iconst 3, 1), some (.invokevirtual 108, 3), none],
  [none, some (.ireturn, 1), some (.aload_n 0, 1), some (.aload_n 0, 1), some (.getfield 7, 3), none, none, some (.invokevirtual 114, 3), none, none, some (.bipush 11, 2), none, some (.iconst 4, 1), some (.aload_n 0, 1), some (.getfield 7, 3), none],
  [none, some (.iconst 1, 1), some (.iaload, 1), some (.imul, 1), some (.iadd, 1), some (.istore 4, 2), none, some (.aload_n 0, 1), some (.getfield 7, 3), none, none, some (.iload 4, 2), none, some (.iload_n 1, 1), some (.iastore, 1), some (.aload_n 0, 1)],
  [some (.getfield 7, 3), none, none, some (.iload 4, 2), none, some (.iconst 1, 1), some (.iadd, 1), some (.iload_n 2, 1), some (.iastore, 1), some (.aload_n 0, 1), some (.getfield 7, 3), none, none, some (.iload 4, 2), none, some (.iconst 2, 1)],
  [some (.iadd, 1), some (.iload_n 3, 1), some (.iastore, 1), some (.aload_n 0, 1), some (.getfield 7, 3), none, none, some (.iload 4, 2), none, some (.iconst 3, 1), some (.iadd, 1), some (.iconst 0, 1), some (.iastore, 1), some (.aload_n 0, 1), some (.getfield 7, 3), none],
  [none, some (.iconst 1, 1), some (.dup2, 1), some (.iaload, 1), some (.iconst 1, 1), some (.iadd, 1), some (.iastore, 1), some (.aload_n 0, 1), some (.getfield 7, 3), none, none, some (.iconst 1, 1), some (.iaload, 1), some (.iconst 1, 1), some (.isub, 1), some (.ireturn, 1)]]
def kx_m126 : kx_R := (⟨"KiteWarModel", "tower", "(III)I"⟩, prog_13_method_29_code, 5, Option.some Jvm.ClassFile.FieldType.int, kx_t126, 12, 3, 86, [])
/-- KiteWarModel.towerAt(I)I -/
def kx_t127 : List (List (Option kx_I)) := [[some (.iconst 0, 1), some (.istore_n 2, 1), some (.iload_n 2, 1), some (.aload_n 0, 1), some (.getfield 7, 3), none, none, some (.iconst 1, 1), some (.iaload, 1), some (.if_icmp .ge 21, 3), none, none, some (.aload_n 0, 1), some (.iload_n 2, 1), some (.iconst 1, 1), some (.invokevirtual 102, 3)],
  [none, none, some (.iload_n 1, 1), some (.if_icmp .ne 5, 3), none, none, some (.iload_n 2, 1), some (.ireturn, 1), some (.iinc 2 1, 3), none, none, some (.goto (-25), 3), none, none, some (.iconst (-1), 1), some (.ireturn, 1)]]
def kx_m127 : kx_R := (⟨"KiteWarModel", "towerAt", "(I)I"⟩, prog_13_method_26_code, 3, Option.some Jvm.ClassFile.FieldType.int, kx_t127, 12, 2, 62, [])
/-- KiteWarModel.ofTower(II)I -/
def kx_t128 : List (List (Option kx_I)) := [[some (.aload_n 0, 1), some (.getfield 7, 3), none, none, some (.bipush 11, 2), none, some (.iconst 4, 1), some (.iload_n 1, 1), some (.imul, 1), some (.iadd, 1), some (.iload_n 2, 1), some (.iadd, 1), some (.iaload, 1), some (.ireturn, 1), none, none]]
def kx_m128 : kx_R := (⟨"KiteWarModel", "ofTower", "(II)I"⟩, prog_13_method_22_code, 3, Option.some Jvm.ClassFile.FieldType.int, kx_t128, 12, 1, 40, [])
/-- KiteWarModel.refuses(II)I -/
def kx_t129 : List (List (Option kx_I)) := [[some (.aload_n 0, 1), some (.iload_n 1, 1), some (.putfield 47, 3), none, none, some (.aload_n 0, 1), some (.iload_n 2, 1), some (.putfield 51, 3), none, none, some (.bipush (-14), 2), none, some (.ireturn, 1), none, none, none]]
def kx_m129 : kx_R := (⟨"KiteWarModel", "refuses", "(II)I"⟩, prog_13_method_2_code, 3, Option.some Jvm.ClassFile.FieldType.int, kx_t129, 12, 1, 40, [])
/-- KiteWarModel.towersOf(I)I -/
def kx_t130 : List (List (Option kx_I)) := [[some (.iconst 0, 1), some (.istore_n 2, 1), some (.iconst 0, 1), some (.istore_n 3, 1), some (.iload_n 3, 1), some (.aload_n 0, 1), some (.getfield 7, 3), none, none, some (.iconst 1, 1), some (.iaload, 1), some (.if_icmp .ge 27, 3), none, none, some (.iload_n 2, 1), some (.aload_n 0, 1)],
  [some (.iload_n 3, 1), some (.iconst 0, 1), some (.invokevirtual 102, 3), none, none, some (.iload_n 1, 1), some (.if_icmp .ne 7, 3), none, none, some (.iconst 1, 1), some (.goto 4, 3), none, none, some (.iconst 0, 1), some (.iadd, 1), some (.istore_n 2, 1)],
  [some (.iinc 3 1, 3), none, none, some (.goto (-31), 3), none, none, some (.iload_n 2, 1), some (.ireturn, 1), none, none, none, none, none, none, none, none]]
def kx_m130 : kx_R := (⟨"KiteWarModel", "towersOf", "(I)I"⟩, prog_13_method_27_code, 4, Option.some Jvm.ClassFile.FieldType.int, kx_t130, 12, 2, 62, [])
/-- KiteWarModel.keeps([I)V -/
def kx_t131 : List (List (Option kx_I)) := [[some (.aload_n 0, 1), some (.getfield 54, 3), none, none, some (.ifCond .eq 4, 3), none, none, some (.return_, 1), some (.aload_n 0, 1), some (.getfield 58, 3), none, none, some (.bipush 8, 2), none, some (.if_icmp .ne 44, 3), none],
  [none, some (.iconst 0, 1), some (.istore_n 2, 1), some (.iload_n 2, 1), some (.sipush 1169, 3), none, none, some (.if_icmp .ge 25, 3), none, none, some (.aload_n 0, 1), some (.getfield 13, 3), none, none, some (.iload_n 2, 1), some (.aload_n 0, 1)],
  [some (.getfield 13, 3), none, none, some (.iload_n 2, 1), some (.sipush 167, 3), none, none, some (.iadd, 1), some (.iaload, 1), some (.iastore, 1), some (.iinc 2 1, 3), none, none, some (.goto (-26), 3), none, none],
  [some (.aload_n 0, 1), some (.dup, 1), some (.getfield 58, 3), none, none, some (.iconst 1, 1), some (.isub, 1), some (.putfield 58, 3), none, none, some (.aload_n 1, 1), some (.iconst 0, 1), some (.aload_n 0, 1), some (.getfield 13, 3), none, none],
  [some (.sipush 167, 3), none, none, some (.aload_n 0, 1), some (.getfield 58, 3), none, none, some (.imul, 1), some (.invokestatic 61, 3), none, none, some (.aload_n 0, 1), some (.dup, 1), some (.getfield 58, 3), none, none],
  [some (.iconst 1, 1), some (.iadd, 1), some (.putfield 58, 3), none, none, some (.return_, 1), none, none, none, none, none, none, none, none, none, none]]
def kx_m131 : kx_R := (⟨"KiteWarModel", "keeps", "([I)V"⟩, prog_13_method_7_code, 3, Option.none, kx_t131, 12, 2, 64, [])
/-- KiteWarModel.copies([II[II)V -/
def kx_t132 : List (List (Option kx_I)) := [[some (.iconst 0, 1), some (.istore 4, 2), none, some (.iload 4, 2), none, some (.sipush 167, 3), none, none, some (.if_icmp .ge 21, 3), none, none, some (.aload_n 2, 1), some (.iload_n 3, 1), some (.iload 4, 2), none, some (.iadd, 1)],
  [some (.aload_n 0, 1), some (.iload_n 1, 1), some (.iload 4, 2), none, some (.iadd, 1), some (.iaload, 1), some (.iastore, 1), some (.iinc 4 1, 3), none, none, some (.goto (-23), 3), none, none, some (.return_, 1), none, none]]
def kx_m132 : kx_R := (⟨"KiteWarModel", "copies", "([II[II)V"⟩, prog_13_method_6_code, 5, Option.none, kx_t132, 12, 1, 40, [])
/-- KiteWarModel.kite(II)I -/
def kx_t133 : List (List (Option kx_I)) := [[some (.aload_n 0, 1), some (.iload_n 1, 1), some (.invokevirtual 118, 3), none, none, some (.ifCond .ne 6, 3), none, none, some (.bipush (-11), 2), none, some (.ireturn, 1), some (.iload_n 2, 1), some (.iconst 1, 1), some (.bipush 9, 2), none, some (.invokestatic 65, 3)],
  [none, none, some (.ifCond .ne 6, 3), none, none, some (.bipush (-12), 2), none, some (.ireturn, 1), some (.aload_n 0, 1), some (.iload_n 1, 1), some (.iconst 0, 1), some (.invokevirtual 121, 3), none, none, some (.iconst 2, 1), some (.if_icmp .ne 10, 3)],
  [none, none, some (.aload_n 0, 1), some (.iconst 1, 1), some (.iconst 2, 1), some (.invokevirtual 108, 3), none, none, some (.ireturn, 1), some (.aload_n 0, 1), some (.aload_n 0, 1), some (.getfield 7, 3), none, none, some (.invokevirtual 114, 3), none],
  [none, some (.aload_n 0, 1), some (.getfield 7, 3), none, none, some (.iconst 2, 1), some (.iaload, 1), some (.istore_n 3, 1), some (.aload_n 0, 1), some (.getfield 7, 3), none, none, some (.iconst 2, 1), some (.dup2, 1), some (.iaload, 1), some (.iconst 1, 1)],
  [some (.iadd, 1), some (.iastore, 1), some (.iconst 0, 1), some (.istore 4, 2), none, some (.iload 4, 2), none, some (.bipush 10, 2), none, some (.if_icmp .ge 17, 3), none, none, some (.aload_n 0, 1), some (.iload_n 3, 1), some (.iload 4, 2), none],
  [some (.iconst 0, 1), some (.invokevirtual 125, 3), none, none, some (.iinc 4 1, 3), none, none, some (.goto (-18), 3), none, none, some (.aload_n 0, 1), some (.iload_n 3, 1), some (.iconst 0, 1), some (.iload_n 1, 1), some (.invokevirtual 125, 3), none],
  [none, some (.aload_n 0, 1), some (.iload_n 3, 1), some (.iconst 5, 1), some (.iload_n 2, 1), some (.invokevirtual 125, 3), none, none, some (.aload_n 0, 1), some (.iload_n 3, 1), some (.invokevirtual 129, 3), none, none, some (.iload_n 3, 1), some (.ireturn, 1), none]]
def kx_m133 : kx_R := (⟨"KiteWarModel", "kite", "(II)I"⟩, prog_13_method_30_code, 5, Option.some Jvm.ClassFile.FieldType.int, kx_t133, 12, 3, 86, [])
/-- KiteWarModel.isTower(I)Z -/
def kx_t134 : List (List (Option kx_I)) := [[some (.iload_n 1, 1), some (.iconst 0, 1), some (.aload_n 0, 1), some (.getfield 7, 3), none, none, some (.iconst 1, 1), some (.iaload, 1), some (.iconst 1, 1), some (.isub, 1), some (.invokestatic 65, 3), none, none, some (.ireturn, 1), none, none]]
def kx_m134 : kx_R := (⟨"KiteWarModel", "isTower", "(I)Z"⟩, prog_13_method_20_code, 2, Option.some Jvm.ClassFile.FieldType.boolean, kx_t134, 12, 2, 62, [])
/-- KiteWarModel.kitesOf(IZ)I -/
def kx_t135 : List (List (Option kx_I)) := [[some (.iconst 0, 1), some (.istore_n 3, 1), some (.iconst 0, 1), some (.istore 4, 2), none, some (.iload 4, 2), none, some (.aload_n 0, 1), some (.getfield 7, 3), none, none, some (.iconst 2, 1), some (.iaload, 1), some (.if_icmp .ge 43, 3), none, none],
  [some (.iload_n 3, 1), some (.aload_n 0, 1), some (.iload 4, 2), none, some (.iconst 0, 1), some (.invokevirtual 99, 3), none, none, some (.iload_n 1, 1), some (.if_icmp .ne 22, 3), none, none, some (.iload_n 2, 1), some (.ifCond .eq 14, 3), none, none],
  [some (.aload_n 0, 1), some (.iload 4, 2), none, some (.iconst 1, 1), some (.invokevirtual 99, 3), none, none, some (.iconst 1, 1), some (.if_icmp .ne 7, 3), none, none, some (.iconst 1, 1), some (.goto 4, 3), none, none, some (.iconst 0, 1)],
  [some (.iadd, 1), some (.istore_n 3, 1), some (.iinc 4 1, 3), none, none, some (.goto (-48), 3), none, none, some (.iload_n 3, 1), some (.ireturn, 1), none, none, none, none, none, none]]
def kx_m135 : kx_R := (⟨"KiteWarModel", "kitesOf", "(IZ)I"⟩, prog_13_method_28_code, 5, Option.some Jvm.ClassFile.FieldType.int, kx_t135, 12, 2, 62, [])
/-- KiteWarModel.of(II)I -/
def kx_t136 : List (List (Option kx_I)) := [[some (.aload_n 0, 1), some (.getfield 7, 3), none, none, some (.bipush 35, 2), none, some (.bipush 10, 2), none, some (.iload_n 1, 1), some (.imul, 1), some (.iadd, 1), some (.iload_n 2, 1), some (.iadd, 1), some (.iaload, 1), some (.ireturn, 1), none]]
def kx_m136 : kx_R := (⟨"KiteWarModel", "of", "(II)I"⟩, prog_13_method_23_code, 3, Option.some Jvm.ClassFile.FieldType.int, kx_t136, 12, 1, 40, [])
/-- KiteWarModel.lays(III)V -/
def kx_t137 : List (List (Option kx_I)) := [[some (.aload_n 0, 1), some (.getfield 7, 3), none, none, some (.bipush 35, 2), none, some (.bipush 10, 2), none, some (.iload_n 1, 1), some (.imul, 1), some (.iadd, 1), some (.iload_n 2, 1), some (.iadd, 1), some (.iload_n 3, 1), some (.iastore, 1), some (.return_, 1)]]
def kx_m137 : kx_R := (⟨"KiteWarModel", "lays", "(III)V"⟩, prog_13_method_24_code, 4, Option.none, kx_t137, 12, 1, 40, [])
/-- KiteWarModel.rests(I)V -/
def kx_t138 : List (List (Option kx_I)) := [[some (.aload_n 0, 1), some (.iload_n 1, 1), some (.iconst 1, 1), some (.iconst 0, 1), some (.invokevirtual 125, 3), none, none, some (.aload_n 0, 1), some (.iload_n 1, 1), some (.iconst 2, 1), some (.iconst 0, 1), some (.invokevirtual 125, 3), none, none, some (.aload_n 0, 1), some (.iload_n 1, 1)],
  [some (.iconst 3, 1), some (.iconst 0, 1), some (.invokevirtual 125, 3), none, none, some (.aload_n 0, 1), some (.iload_n 1, 1), some (.iconst 4, 1), some (.aload_n 0, 1), some (.aload_n 0, 1), some (.iload_n 1, 1), some (.iconst 0, 1), some (.invokevirtual 99, 3), none, none, some (.iconst 1, 1)],
  [some (.invokevirtual 102, 3), none, none, some (.invokevirtual 125, 3), none, none, some (.return_, 1), none, none, none, none, none, none, none, none, none]]
def kx_m138 : kx_R := (⟨"KiteWarModel", "rests", "(I)V"⟩, prog_13_method_37_code, 2, Option.none, kx_t138, 12, 2, 63, [])
/-- KiteWarModel.wind(II)I -/
def kx_t139 : List (List (Option kx_I)) := [[some (.iload_n 1, 1), some (.iconst 0, 1), some (.iconst 5, 1), some (.invokestatic 65, 3), none, none, some (.ifCond .eq 12, 3), none, none, some (.iload_n 2, 1), some (.iconst 0, 1), some (.iconst 3, 1), some (.invokestatic 65, 3), none, none, some (.ifCond .ne 6, 3)],
  [none, none, some (.bipush (-12), 2), none, some (.ireturn, 1), some (.aload_n 0, 1), some (.getfield 7, 3), none, none, some (.iconst 3, 1), some (.iaload, 1), some (.bipush 6, 2), none, some (.if_icmp .ne 11, 3), none, none],
  [some (.aload_n 0, 1), some (.iconst 1, 1), some (.bipush 6, 2), none, some (.invokevirtual 108, 3), none, none, some (.ireturn, 1), some (.aload_n 0, 1), some (.aload_n 0, 1), some (.getfield 7, 3), none, none, some (.invokevirtual 114, 3), none, none],
  [some (.aload_n 0, 1), some (.getfield 7, 3), none, none, some (.sipush 155, 3), none, none, some (.iconst 2, 1), some (.aload_n 0, 1), some (.getfield 7, 3), none, none, some (.iconst 3, 1), some (.iaload, 1), some (.imul, 1), some (.iadd, 1)],
  [some (.iload_n 1, 1), some (.iastore, 1), some (.aload_n 0, 1), some (.getfield 7, 3), none, none, some (.sipush 155, 3), none, none, some (.iconst 2, 1), some (.aload_n 0, 1), some (.getfield 7, 3), none, none, some (.iconst 3, 1), some (.iaload, 1)],
  [some (.imul, 1), some (.iadd, 1), some (.iconst 1, 1), some (.iadd, 1), some (.iload_n 2, 1), some (.iastore, 1), some (.aload_n 0, 1), some (.getfield 7, 3), none, none, some (.iconst 3, 1), some (.dup2, 1), some (.iaload, 1), some (.iconst 1, 1), some (.iadd, 1), some (.iastore, 1)],
  [some (.aload_n 0, 1), some (.getfield 7, 3), none, none, some (.iconst 3, 1), some (.iaload, 1), some (.ireturn, 1), none, none, none, none, none, none, none, none, none]]
def kx_m139 : kx_R := (⟨"KiteWarModel", "wind", "(II)I"⟩, prog_13_method_31_code, 3, Option.some Jvm.ClassFile.FieldType.int, kx_t139, 12, 3, 86, [])
/-- KiteWarModel.windNow(Z)I -/
def kx_t140 : List (List (Option kx_I)) := [[some (.aload_n 0, 1), some (.getfield 7, 3), none, none, some (.iconst 3, 1), some (.iaload, 1), some (.ifCond .ne 8, 3), none, none, some (.bipush (-15), 2), none, some (.goto 30, 3), none, none, some (.iload_n 1, 1), some (.ifCond .eq 16, 3)],
  [none, none, some (.aload_n 0, 1), some (.aload_n 0, 1), some (.getfield 7, 3), none, none, some (.iconst 0, 1), some (.iaload, 1), some (.invokevirtual 133, 3), none, none, some (.goto 13, 3), none, none, some (.aload_n 0, 1)],
  [some (.aload_n 0, 1), some (.getfield 7, 3), none, none, some (.iconst 0, 1), some (.iaload, 1), some (.invokevirtual 136, 3), none, none, some (.ireturn, 1), none, none, none, none, none, none]]
def kx_m140 : kx_R := (⟨"KiteWarModel", "windNow", "(Z)I"⟩, prog_13_method_34_code, 2, Option.some Jvm.ClassFile.FieldType.int, kx_t140, 12, 2, 61, [])
/-- KiteWarModel.force(I)I -/
def kx_t141 : List (List (Option kx_I)) := [[some (.aload_n 0, 1), some (.getfield 7, 3), none, none, some (.iconst 3, 1), some (.iaload, 1), some (.ifCond .ne 7, 3), none, none, some (.iconst 0, 1), some (.goto 24, 3), none, none, some (.aload_n 0, 1), some (.getfield 7, 3), none],
  [none, some (.sipush 155, 3), none, none, some (.iconst 2, 1), some (.iload_n 1, 1), some (.aload_n 0, 1), some (.getfield 7, 3), none, none, some (.iconst 3, 1), some (.iaload, 1), some (.irem, 1), some (.imul, 1), some (.iadd, 1), some (.iconst 1, 1)],
  [some (.iadd, 1), some (.iaload, 1), some (.ireturn, 1), none, none, none, none, none, none, none, none, none, none, none, none, none]]
def kx_m141 : kx_R := (⟨"KiteWarModel", "force", "(I)I"⟩, prog_13_method_33_code, 2, Option.some Jvm.ClassFile.FieldType.int, kx_t141, 12, 1, 40, [])
/-- KiteWarModel.windWay(I)I -/
def kx_t142 : List (List (Option kx_I)) := [[some (.aload_n 0, 1), some (.getfield 7, 3), none, none, some (.iconst 3, 1), some (.iaload, 1), some (.ifCond .ne 7, 3), none, none, some (.iconst 0, 1), some (.goto 22, 3), none, none, some (.aload_n 0, 1), some (.getfield 7, 3), none],
  [none, some (.sipush 155, 3), none, none, some (.iconst 2, 1), some (.iload_n 1, 1), some (.aload_n 0, 1), some (.getfield 7, 3), none, none, some (.iconst 3, 1), some (.iaload, 1), some (.irem, 1), some (.imul, 1), some (.iadd, 1), some (.iaload, 1)],
  [some (.ireturn, 1), none, none, none, none, none, none, none, none, none, none, none, none, none, none, none]]
def kx_m142 : kx_R := (⟨"KiteWarModel", "windWay", "(I)I"⟩, prog_13_method_32_code, 2, Option.some Jvm.ClassFile.FieldType.int, kx_t142, 12, 1, 40, [])
/-- KiteWarModel.towerOf(II)I -/
def kx_t143 : List (List (Option kx_I)) := [[some (.aload_n 0, 1), some (.iload_n 1, 1), some (.invokevirtual 118, 3), none, none, some (.ifCond .ne 6, 3), none, none, some (.bipush (-11), 2), none, some (.ireturn, 1), some (.iload_n 2, 1), some (.tableswitch 68 0 5 #[40, 40, 40, 47, 54, 61], 40), none, none, none],
  [none, none, none, none, none, none, none, none, none, none, none, none, none, none, none, none],
  [none, none, none, none, none, none, none, none, none, none, none, none, none, none, none, none],
  [none, none, none, none, some (.aload_n 0, 1), some (.iload_n 1, 1), some (.iload_n 2, 1), some (.invokevirtual 102, 3), none, none, some (.ireturn, 1), some (.aload_n 0, 1), some (.iload_n 1, 1), some (.iconst 0, 1), some (.invokevirtual 121, 3), none],
  [none, some (.ireturn, 1), some (.aload_n 0, 1), some (.iload_n 1, 1), some (.iconst 1, 1), some (.invokevirtual 121, 3), none, none, some (.ireturn, 1), some (.aload_n 0, 1), some (.iload_n 1, 1), some (.iconst 3, 1), some (.invokevirtual 102, 3), none, none, some (.ireturn, 1)],
  [some (.bipush (-12), 2), none, some (.ireturn, 1), none, none, none, none, none, none, none, none, none, none, none, none, none]]
def kx_m143 : kx_R := (⟨"KiteWarModel", "towerOf", "(II)I"⟩, prog_13_method_35_code, 3, Option.some Jvm.ClassFile.FieldType.int, kx_t143, 12, 3, 86, [])
/-- KiteWarModel.kiteOf(II)I -/
def kx_t144 : List (List (Option kx_I)) := [[some (.aload_n 0, 1), some (.iload_n 1, 1), some (.invokevirtual 139, 3), none, none, some (.ifCond .ne 6, 3), none, none, some (.bipush (-11), 2), none, some (.ireturn, 1), some (.iload_n 2, 1), some (.tableswitch 146 0 8 #[52, 58, 65, 72, 94, 101, 123, 130, 138], 52), none, none, none],
  [none, none, none, none, none, none, none, none, none, none, none, none, none, none, none, none],
  [none, none, none, none, none, none, none, none, none, none, none, none, none, none, none, none],
  [none, none, none, none, none, none, none, none, none, none, none, none, none, none, none, none],
  [some (.aload_n 0, 1), some (.iload_n 1, 1), some (.invokevirtual 142, 3), none, none, some (.ireturn, 1), some (.aload_n 0, 1), some (.iload_n 1, 1), some (.iconst 0, 1), some (.invokevirtual 99, 3), none, none, some (.ireturn, 1), some (.aload_n 0, 1), some (.iload_n 1, 1), some (.iconst 1, 1)],
  [some (.invokevirtual 99, 3), none, none, some (.ireturn, 1), some (.aload_n 0, 1), some (.iload_n 1, 1), some (.iconst 1, 1), some (.invokevirtual 99, 3), none, none, some (.iconst 1, 1), some (.if_icmp .ne 12, 3), none, none, some (.aload_n 0, 1), some (.iload_n 1, 1)],
  [some (.iconst 2, 1), some (.invokevirtual 99, 3), none, none, some (.goto 5, 3), none, none, some (.bipush (-15), 2), none, some (.ireturn, 1), some (.aload_n 0, 1), some (.iload_n 1, 1), some (.iconst 3, 1), some (.invokevirtual 99, 3), none, none],
  [some (.ireturn, 1), some (.aload_n 0, 1), some (.iload_n 1, 1), some (.iconst 1, 1), some (.invokevirtual 99, 3), none, none, some (.iconst 3, 1), some (.if_icmp .ne 8, 3), none, none, some (.bipush (-15), 2), none, some (.goto 9, 3), none, none],
  [some (.aload_n 0, 1), some (.iload_n 1, 1), some (.iconst 4, 1), some (.invokevirtual 99, 3), none, none, some (.ireturn, 1), some (.aload_n 0, 1), some (.iload_n 1, 1), some (.iconst 5, 1), some (.invokevirtual 99, 3), none, none, some (.ireturn, 1), some (.aload_n 0, 1), some (.iload_n 1, 1)],
  [some (.bipush 6, 2), none, some (.invokevirtual 99, 3), none, none, some (.ireturn, 1), some (.aload_n 0, 1), some (.iload_n 1, 1), some (.bipush 7, 2), none, some (.invokevirtual 99, 3), none, none, some (.ireturn, 1), some (.bipush (-12), 2), none],
  [some (.ireturn, 1), none, none, none, none, none, none, none, none, none, none, none, none, none, none, none]]
def kx_m144 : kx_R := (⟨"KiteWarModel", "kiteOf", "(II)I"⟩, prog_13_method_36_code, 3, Option.some Jvm.ClassFile.FieldType.int, kx_t144, 12, 3, 83, [])
/-- KiteWarModel.isKite(I)Z -/
def kx_t145 : List (List (Option kx_I)) := [[some (.iload_n 1, 1), some (.iconst 0, 1), some (.aload_n 0, 1), some (.getfield 7, 3), none, none, some (.iconst 2, 1), some (.iaload, 1), some (.iconst 1, 1), some (.isub, 1), some (.invokestatic 65, 3), none, none, some (.ireturn, 1), none, none]]
def kx_m145 : kx_R := (⟨"KiteWarModel", "isKite", "(I)Z"⟩, prog_13_method_21_code, 2, Option.some Jvm.ClassFile.FieldType.boolean, kx_t145, 12, 2, 62, [])
/-- KiteWarModel.sideOf(I)I -/
def kx_t146 : List (List (Option kx_I)) := [[some (.aload_n 0, 1), some (.aload_n 0, 1), some (.iload_n 1, 1), some (.iconst 0, 1), some (.invokevirtual 99, 3), none, none, some (.iconst 0, 1), some (.invokevirtual 102, 3), none, none, some (.ireturn, 1), none, none, none, none]]
def kx_m146 : kx_R := (⟨"KiteWarModel", "sideOf", "(I)I"⟩, prog_13_method_25_code, 2, Option.some Jvm.ClassFile.FieldType.int, kx_t146, 12, 2, 62, [])
/-- KiteWarModel.slip(III)I -/
def kx_t147 : List (List (Option kx_I)) := [[some (.aload_n 0, 1), some (.iload_n 1, 1), some (.invokevirtual 139, 3), none, none, some (.ifCond .ne 6, 3), none, none, some (.bipush (-11), 2), none, some (.ireturn, 1), some (.iload_n 2, 1), some (.iconst 1, 1), some (.bipush 6, 2), none, some (.invokestatic 65, 3)],
  [none, none, some (.ifCond .eq 21, 3), none, none, some (.iload_n 3, 1), some (.iconst 0, 1), some (.iload_n 2, 1), some (.iconst 1, 1), some (.if_icmp .ne 7, 3), none, none, some (.iconst 5, 1), some (.goto 4, 3), none, none],
  [some (.iconst 0, 1), some (.invokestatic 65, 3), none, none, some (.ifCond .ne 6, 3), none, none, some (.bipush (-12), 2), none, some (.ireturn, 1), some (.aload_n 0, 1), some (.iload_n 1, 1), some (.iconst 1, 1), some (.invokevirtual 99, 3), none, none],
  [some (.istore 4, 2), none, some (.iload 4, 2), none, some (.iconst 2, 1), some (.if_icmp .eq 9, 3), none, none, some (.iload 4, 2), none, some (.iconst 3, 1), some (.if_icmp .ne 11, 3), none, none, some (.aload_n 0, 1), some (.iconst 5, 1)],
  [some (.iload 4, 2), none, some (.invokevirtual 108, 3), none, none, some (.ireturn, 1), some (.iload_n 2, 1), some (.iconst 1, 1), some (.if_icmp .ne 17, 3), none, none, some (.iload 4, 2), none, some (.iconst 1, 1), some (.if_icmp .ne 11, 3), none],
  [none, some (.aload_n 0, 1), some (.iconst 3, 1), some (.iload 4, 2), none, some (.invokevirtual 108, 3), none, none, some (.ireturn, 1), some (.iload_n 2, 1), some (.iconst 1, 1), some (.if_icmp .le 15, 3), none, none, some (.iload 4, 2), none],
  [some (.ifCond .ne 10, 3), none, none, some (.aload_n 0, 1), some (.iconst 4, 1), some (.iload_n 1, 1), some (.invokevirtual 108, 3), none, none, some (.ireturn, 1), some (.aload_n 0, 1), some (.aload_n 0, 1), some (.getfield 7, 3), none, none, some (.invokevirtual 114, 3)],
  [none, none, some (.aload_n 0, 1), some (.iload_n 1, 1), some (.bipush 8, 2), none, some (.iload_n 2, 1), some (.invokevirtual 125, 3), none, none, some (.aload_n 0, 1), some (.iload_n 1, 1), some (.bipush 9, 2), none, some (.iload_n 3, 1), some (.invokevirtual 125, 3)],
  [none, none, some (.aload_n 0, 1), some (.aload_n 0, 1), some (.iload_n 1, 1), some (.invokevirtual 142, 3), none, none, some (.invokevirtual 145, 3), none, none, some (.ireturn, 1), none, none, none, none]]
def kx_m147 : kx_R := (⟨"KiteWarModel", "slip", "(III)I"⟩, prog_13_method_39_code, 5, Option.some Jvm.ClassFile.FieldType.int, kx_t147, 12, 4, 106, [])
/-- KiteWarModel.slips(I)I -/
def kx_t148 : List (List (Option kx_I)) := [[some (.iconst 0, 1), some (.istore_n 2, 1), some (.iconst 0, 1), some (.istore_n 3, 1), some (.iload_n 3, 1), some (.aload_n 0, 1), some (.getfield 7, 3), none, none, some (.iconst 2, 1), some (.iaload, 1), some (.if_icmp .ge 40, 3), none, none, some (.iload_n 2, 1), some (.aload_n 0, 1)],
  [some (.iload_n 3, 1), some (.bipush 8, 2), none, some (.invokevirtual 99, 3), none, none, some (.ifCond .le 20, 3), none, none, some (.iload_n 1, 1), some (.ifCond .lt 12, 3), none, none, some (.aload_n 0, 1), some (.iload_n 3, 1), some (.invokevirtual 142, 3)],
  [none, none, some (.iload_n 1, 1), some (.if_icmp .ne 7, 3), none, none, some (.iconst 1, 1), some (.goto 4, 3), none, none, some (.iconst 0, 1), some (.iadd, 1), some (.istore_n 2, 1), some (.iinc 3 1, 3), none, none],
  [some (.goto (-44), 3), none, none, some (.iload_n 2, 1), some (.ireturn, 1), none, none, none, none, none, none, none, none, none, none, none]]
def kx_m148 : kx_R := (⟨"KiteWarModel", "slips", "(I)I"⟩, prog_13_method_38_code, 4, Option.some Jvm.ClassFile.FieldType.int, kx_t148, 12, 3, 83, [])
/-- KiteWarModel.tear(I)I -/
def kx_t149 : List (List (Option kx_I)) := [[some (.aload_n 0, 1), some (.iload_n 1, 1), some (.invokevirtual 139, 3), none, none, some (.ifCond .ne 6, 3), none, none, some (.bipush (-11), 2), none, some (.ireturn, 1), some (.aload_n 0, 1), some (.iload_n 1, 1), some (.bipush 8, 2), none, some (.invokevirtual 99, 3)],
  [none, none, some (.istore_n 2, 1), some (.iload_n 2, 1), some (.ifCond .ne 11, 3), none, none, some (.aload_n 0, 1), some (.bipush 7, 2), none, some (.iload_n 1, 1), some (.invokevirtual 108, 3), none, none, some (.ireturn, 1), some (.aload_n 0, 1)],
  [some (.aload_n 0, 1), some (.getfield 7, 3), none, none, some (.invokevirtual 114, 3), none, none, some (.aload_n 0, 1), some (.iload_n 1, 1), some (.bipush 8, 2), none, some (.iconst 0, 1), some (.invokevirtual 125, 3), none, none, some (.aload_n 0, 1)],
  [some (.iload_n 1, 1), some (.bipush 9, 2), none, some (.iconst 0, 1), some (.invokevirtual 125, 3), none, none, some (.iload_n 2, 1), some (.ireturn, 1), none, none, none, none, none, none, none]]
def kx_m149 : kx_R := (⟨"KiteWarModel", "tear", "(I)I"⟩, prog_13_method_40_code, 3, Option.some Jvm.ClassFile.FieldType.int, kx_t149, 12, 3, 86, [])
/-- KiteWarModel.seen(II)I -/
def kx_t150 : List (List (Option kx_I)) := [[some (.iload_n 1, 1), some (.iconst 0, 1), some (.iconst 1, 1), some (.invokestatic 65, 3), none, none, some (.ifCond .eq 11, 3), none, none, some (.aload_n 0, 1), some (.iload_n 2, 1), some (.invokevirtual 139, 3), none, none, some (.ifCond .ne 6, 3), none],
  [none, some (.bipush (-11), 2), none, some (.ireturn, 1), some (.aload_n 0, 1), some (.iload_n 2, 1), some (.invokevirtual 142, 3), none, none, some (.iload_n 1, 1), some (.if_icmp .eq 11, 3), none, none, some (.aload_n 0, 1), some (.bipush 6, 2), none],
  [some (.iload_n 2, 1), some (.invokevirtual 108, 3), none, none, some (.ireturn, 1), some (.aload_n 0, 1), some (.iload_n 2, 1), some (.bipush 8, 2), none, some (.invokevirtual 99, 3), none, none, some (.ifCond .ne 13, 3), none, none, some (.aload_n 0, 1)],
  [some (.bipush 7, 2), none, some (.iload_n 2, 1), some (.invokevirtual 108, 3), none, none, some (.goto 21, 3), none, none, some (.aload_n 0, 1), some (.iload_n 2, 1), some (.bipush 8, 2), none, some (.invokevirtual 99, 3), none, none],
  [some (.bipush 10, 2), none, some (.aload_n 0, 1), some (.iload_n 2, 1), some (.bipush 9, 2), none, some (.invokevirtual 99, 3), none, none, some (.imul, 1), some (.iadd, 1), some (.ireturn, 1), none, none, none, none]]
def kx_m150 : kx_R := (⟨"KiteWarModel", "seen", "(II)I"⟩, prog_13_method_41_code, 3, Option.some Jvm.ClassFile.FieldType.int, kx_t150, 12, 3, 83, [])
/-- KiteWarModel.turn(I)I -/
def kx_t151 : List (List (Option kx_I)) := [[some (.iload_n 1, 1), some (.iconst 1, 1), some (.bipush 9, 2), none, some (.invokestatic 65, 3), none, none, some (.ifCond .ne 6, 3), none, none, some (.bipush (-12), 2), none, some (.ireturn, 1), some (.aload_n 0, 1), some (.aload_n 0, 1), some (.getfield 7, 3)],
  [none, none, some (.invokevirtual 114, 3), none, none, some (.aload_n 0, 1), some (.getfield 7, 3), none, none, some (.bipush 6, 2), none, some (.iaload, 1), some (.istore_n 2, 1), some (.iconst 0, 1), some (.istore_n 3, 1), some (.iload_n 3, 1)],
  [some (.iload_n 1, 1), some (.if_icmp .ge 13, 3), none, none, some (.aload_n 0, 1), some (.invokevirtual 180, 3), none, none, some (.iinc 3 1, 3), none, none, some (.goto (-12), 3), none, none, some (.aload_n 0, 1), some (.getfield 7, 3)],
  [none, none, some (.bipush 6, 2), none, some (.iaload, 1), some (.iload_n 2, 1), some (.isub, 1), some (.ireturn, 1), none, none, none, none, none, none, none, none]]
def kx_m151 : kx_R := (⟨"KiteWarModel", "turn", "(I)I"⟩, prog_13_method_52_code, 4, Option.some Jvm.ClassFile.FieldType.int, kx_t151, 12, 10, 243, [])
/-- KiteWarModel.turns()V -/
def kx_t152 : List (List (Option kx_I)) := [[some (.aload_n 0, 1), some (.invokevirtual 168, 3), none, none, some (.aload_n 0, 1), some (.invokevirtual 171, 3), none, none, some (.iconst 0, 1), some (.istore_n 1, 1), some (.iload_n 1, 1), some (.aload_n 0, 1), some (.getfield 7, 3), none, none, some (.iconst 2, 1)],
  [some (.iaload, 1), some (.if_icmp .ge 47, 3), none, none, some (.aload_n 0, 1), some (.iload_n 1, 1), some (.iconst 1, 1), some (.invokevirtual 99, 3), none, none, some (.iconst 1, 1), some (.if_icmp .ne 31, 3), none, none, some (.aload_n 0, 1), some (.iload_n 1, 1)],
  [some (.iconst 5, 1), some (.invokevirtual 99, 3), none, none, some (.ifCond .le 6, 3), none, none, some (.goto 19, 3), none, none, some (.aload_n 0, 1), some (.iload_n 1, 1), some (.invokevirtual 165, 3), none, none, some (.aload_n 0, 1)],
  [some (.getfield 7, 3), none, none, some (.bipush 7, 2), none, some (.dup2, 1), some (.iaload, 1), some (.iconst 1, 1), some (.iadd, 1), some (.iastore, 1), some (.iinc 1 1, 3), none, none, some (.goto (-51), 3), none, none],
  [some (.aload_n 0, 1), some (.invokevirtual 174, 3), none, none, some (.iconst 0, 1), some (.istore_n 1, 1), some (.iload_n 1, 1), some (.aload_n 0, 1), some (.getfield 7, 3), none, none, some (.iconst 2, 1), some (.iaload, 1), some (.if_icmp .ge 24, 3), none, none],
  [some (.aload_n 0, 1), some (.iload_n 1, 1), some (.iconst 1, 1), some (.invokevirtual 99, 3), none, none, some (.iconst 2, 1), some (.if_icmp .ne 8, 3), none, none, some (.aload_n 0, 1), some (.iload_n 1, 1), some (.invokevirtual 177, 3), none, none, some (.iinc 1 1, 3)],
  [none, none, some (.goto (-28), 3), none, none, some (.aload_n 0, 1), some (.getfield 7, 3), none, none, some (.iconst 0, 1), some (.dup2, 1), some (.iaload, 1), some (.iconst 1, 1), some (.iadd, 1), some (.iastore, 1), some (.return_, 1)]]
def kx_m152 : kx_R := (⟨"KiteWarModel", "turns", "()V"⟩, prog_13_method_51_code, 2, Option.none, kx_t152, 12, 9, 222, [])
/-- KiteWarModel.slipsGo()V -/
def kx_t153 : List (List (Option kx_I)) := [[some (.iconst 0, 1), some (.istore_n 1, 1), some (.iload_n 1, 1), some (.aload_n 0, 1), some (.getfield 7, 3), none, none, some (.iconst 2, 1), some (.iaload, 1), some (.if_icmp .ge 57, 3), none, none, some (.aload_n 0, 1), some (.iload_n 1, 1), some (.bipush 8, 2), none],
  [some (.invokevirtual 99, 3), none, none, some (.ifCond .ne 6, 3), none, none, some (.goto 38, 3), none, none, some (.aload_n 0, 1), some (.iload_n 1, 1), some (.invokevirtual 155, 3), none, none, some (.ifCond .ne 14, 3), none],
  [none, some (.aload_n 0, 1), some (.getfield 7, 3), none, none, some (.bipush 10, 2), none, some (.dup2, 1), some (.iaload, 1), some (.iconst 1, 1), some (.iadd, 1), some (.iastore, 1), some (.aload_n 0, 1), some (.iload_n 1, 1), some (.bipush 8, 2), none],
  [some (.iconst 0, 1), some (.invokevirtual 125, 3), none, none, some (.aload_n 0, 1), some (.iload_n 1, 1), some (.bipush 9, 2), none, some (.iconst 0, 1), some (.invokevirtual 125, 3), none, none, some (.iinc 1 1, 3), none, none, some (.goto (-61), 3)],
  [none, none, some (.return_, 1), none, none, none, none, none, none, none, none, none, none, none, none, none]]
def kx_m153 : kx_R := (⟨"KiteWarModel", "slipsGo", "()V"⟩, prog_13_method_44_code, 2, Option.none, kx_t153, 12, 8, 201, [])
/-- KiteWarModel.moves(I)Z -/
def kx_t154 : List (List (Option kx_I)) := [[some (.aload_n 0, 1), some (.iload_n 1, 1), some (.iconst 2, 1), some (.invokevirtual 99, 3), none, none, some (.istore_n 2, 1), some (.aload_n 0, 1), some (.iload_n 1, 1), some (.iconst 3, 1), some (.invokevirtual 99, 3), none, none, some (.istore_n 3, 1), some (.aload_n 0, 1), some (.iload_n 1, 1)],
  [some (.bipush 8, 2), none, some (.invokevirtual 99, 3), none, none, some (.tableswitch 95 1 5 #[35, 49, 59, 69, 82], 35), none, none, none, none, none, none, none, none, none, none],
  [none, none, none, none, none, none, none, none, none, none, none, none, none, none, none, none],
  [none, none, none, none, none, none, none, none, some (.aload_n 0, 1), some (.iload_n 1, 1), some (.aload_n 0, 1), some (.iload_n 1, 1), some (.bipush 9, 2), none, some (.invokevirtual 99, 3), none],
  [none, some (.iconst 1, 1), some (.invokevirtual 152, 3), none, none, some (.ireturn, 1), some (.aload_n 0, 1), some (.iload_n 1, 1), some (.iload_n 2, 1), some (.iload_n 3, 1), some (.iconst 1, 1), some (.iadd, 1), some (.invokevirtual 152, 3), none, none, some (.ireturn, 1)],
  [some (.aload_n 0, 1), some (.iload_n 1, 1), some (.iload_n 2, 1), some (.iload_n 3, 1), some (.iconst 1, 1), some (.isub, 1), some (.invokevirtual 152, 3), none, none, some (.ireturn, 1), some (.aload_n 0, 1), some (.iload_n 1, 1), some (.iload_n 2, 1), some (.iconst 1, 1), some (.iadd, 1), some (.bipush 6, 2)],
  [none, some (.irem, 1), some (.iload_n 3, 1), some (.invokevirtual 152, 3), none, none, some (.ireturn, 1), some (.aload_n 0, 1), some (.iload_n 1, 1), some (.iload_n 2, 1), some (.iconst 5, 1), some (.iadd, 1), some (.bipush 6, 2), none, some (.irem, 1), some (.iload_n 3, 1)],
  [some (.invokevirtual 152, 3), none, none, some (.ireturn, 1), some (.aload_n 0, 1), some (.iload_n 1, 1), some (.iload_n 2, 1), some (.iconst 0, 1), some (.invokevirtual 152, 3), none, none, some (.ireturn, 1), none, none, none, none]]
def kx_m154 : kx_R := (⟨"KiteWarModel", "moves", "(I)Z"⟩, prog_13_method_43_code, 4, Option.some Jvm.ClassFile.FieldType.boolean, kx_t154, 12, 7, 178, [])
/-- KiteWarModel.flies(III)Z -/
def kx_t155 : List (List (Option kx_I)) := [[some (.iload_n 3, 1), some (.ifCond .ne 10, 3), none, none, some (.aload_n 0, 1), some (.iload_n 1, 1), some (.invokevirtual 129, 3), none, none, some (.iconst 1, 1), some (.ireturn, 1), some (.aload_n 0, 1), some (.aload_n 0, 1), some (.iload_n 1, 1), some (.iconst 0, 1), some (.invokevirtual 99, 3)],
  [none, none, some (.iconst 1, 1), some (.invokevirtual 102, 3), none, none, some (.iload_n 2, 1), some (.iload_n 3, 1), some (.invokestatic 148, 3), none, none, some (.istore 4, 2), none, some (.iload 4, 2), none, some (.ifCond .lt 18, 3)],
  [none, none, some (.iload_n 3, 1), some (.aload_n 0, 1), some (.aload_n 0, 1), some (.iload_n 1, 1), some (.iconst 0, 1), some (.invokevirtual 99, 3), none, none, some (.iconst 2, 1), some (.invokevirtual 102, 3), none, none, some (.if_icmp .le 5, 3), none],
  [none, some (.iconst 0, 1), some (.ireturn, 1), some (.aload_n 0, 1), some (.iload_n 1, 1), some (.iconst 1, 1), some (.iconst 1, 1), some (.invokevirtual 125, 3), none, none, some (.aload_n 0, 1), some (.iload_n 1, 1), some (.iconst 2, 1), some (.iload_n 2, 1), some (.invokevirtual 125, 3), none],
  [none, some (.aload_n 0, 1), some (.iload_n 1, 1), some (.iconst 3, 1), some (.iload_n 3, 1), some (.invokevirtual 125, 3), none, none, some (.aload_n 0, 1), some (.iload_n 1, 1), some (.iconst 4, 1), some (.iload 4, 2), none, some (.invokevirtual 125, 3), none, none],
  [some (.iconst 1, 1), some (.ireturn, 1), none, none, none, none, none, none, none, none, none, none, none, none, none, none]]
def kx_m155 : kx_R := (⟨"KiteWarModel", "flies", "(III)Z"⟩, prog_13_method_42_code, 5, Option.some Jvm.ClassFile.FieldType.boolean, kx_t155, 12, 6, 154, [])
/-- KiteWarModel.goesFar(III)I -/
def kx_t156 : List (List (Option kx_I)) := [[some (.iload_n 0, 1), some (.istore_n 3, 1), some (.iconst 0, 1), some (.istore 4, 2), none, some (.iload 4, 2), none, some (.iload_n 2, 1), some (.if_icmp .ge 19, 3), none, none, some (.iload_n 3, 1), some (.ifCond .lt 15, 3), none, none, some (.iload_n 3, 1)],
  [some (.iload_n 1, 1), some (.invokestatic 79, 3), none, none, some (.istore_n 3, 1), some (.iinc 4 1, 3), none, none, some (.goto (-19), 3), none, none, some (.iload_n 3, 1), some (.ireturn, 1), none, none, none]]
def kx_m156 : kx_R := (⟨"KiteWarModel", "goesFar", "(III)I"⟩, prog_13_method_13_code, 5, Option.some Jvm.ClassFile.FieldType.int, kx_t156, 12, 5, 130, [])
/-- KiteWarModel.windBlows()V -/
def kx_t157 : List (List (Option kx_I)) := [[some (.aload_n 0, 1), some (.aload_n 0, 1), some (.getfield 7, 3), none, none, some (.iconst 0, 1), some (.iaload, 1), some (.invokevirtual 136, 3), none, none, some (.istore_n 1, 1), some (.aload_n 0, 1), some (.aload_n 0, 1), some (.getfield 7, 3), none, none],
  [some (.iconst 0, 1), some (.iaload, 1), some (.invokevirtual 133, 3), none, none, some (.istore_n 2, 1), some (.iconst 0, 1), some (.istore_n 3, 1), some (.iload_n 3, 1), some (.aload_n 0, 1), some (.getfield 7, 3), none, none, some (.iconst 2, 1), some (.iaload, 1), some (.if_icmp .ge 93, 3)],
  [none, none, some (.aload_n 0, 1), some (.iload_n 3, 1), some (.iconst 1, 1), some (.invokevirtual 99, 3), none, none, some (.iconst 1, 1), some (.if_icmp .eq 6, 3), none, none, some (.goto 74, 3), none, none, some (.aload_n 0, 1)],
  [some (.iload_n 3, 1), some (.iconst 2, 1), some (.invokevirtual 99, 3), none, none, some (.iload_n 1, 1), some (.if_icmp .ne 24, 3), none, none, some (.aload_n 0, 1), some (.iload_n 3, 1), some (.iconst 5, 1), some (.iconst 0, 1), some (.aload_n 0, 1), some (.iload_n 3, 1), some (.iconst 5, 1)],
  [some (.invokevirtual 99, 3), none, none, some (.iload_n 2, 1), some (.isub, 1), some (.invokestatic 93, 3), none, none, some (.invokevirtual 125, 3), none, none, some (.goto 43, 3), none, none, some (.iload_n 2, 1), some (.iconst 2, 1)],
  [some (.if_icmp .lt 38, 3), none, none, some (.aload_n 0, 1), some (.iload_n 3, 1), some (.iconst 2, 1), some (.invokevirtual 99, 3), none, none, some (.iload_n 1, 1), some (.iconst 3, 1), some (.iadd, 1), some (.bipush 6, 2), none, some (.irem, 1), some (.if_icmp .ne 23, 3)],
  [none, none, some (.aload_n 0, 1), some (.iload_n 3, 1), some (.aload_n 0, 1), some (.iload_n 3, 1), some (.iconst 2, 1), some (.invokevirtual 99, 3), none, none, some (.aload_n 0, 1), some (.iload_n 3, 1), some (.iconst 3, 1), some (.invokevirtual 99, 3), none, none],
  [some (.iconst 1, 1), some (.isub, 1), some (.invokevirtual 152, 3), none, none, some (.pop, 1), some (.iinc 3 1, 3), none, none, some (.goto (-97), 3), none, none, some (.return_, 1), none, none, none]]
def kx_m157 : kx_R := (⟨"KiteWarModel", "windBlows", "()V"⟩, prog_13_method_45_code, 4, Option.none, kx_t157, 12, 7, 178, [])
/-- KiteWarModel.cuts(I)V -/
def kx_t158 : List (List (Option kx_I)) := [[some (.aload_n 0, 1), some (.iload_n 1, 1), some (.iconst 1, 1), some (.iconst 2, 1), some (.invokevirtual 125, 3), none, none, some (.aload_n 0, 1), some (.iload_n 1, 1), some (.iconst 2, 1), some (.iconst 0, 1), some (.invokevirtual 125, 3), none, none, some (.aload_n 0, 1), some (.iload_n 1, 1)],
  [some (.iconst 3, 1), some (.iconst 0, 1), some (.invokevirtual 125, 3), none, none, some (.aload_n 0, 1), some (.iload_n 1, 1), some (.bipush 6, 2), none, some (.aload_n 0, 1), some (.iload_n 1, 1), some (.bipush 6, 2), none, some (.invokevirtual 99, 3), none, none],
  [some (.iconst 1, 1), some (.iadd, 1), some (.invokevirtual 125, 3), none, none, some (.aload_n 0, 1), some (.getfield 7, 3), none, none, some (.bipush 6, 2), none, some (.dup2, 1), some (.iaload, 1), some (.iconst 1, 1), some (.iadd, 1), some (.iastore, 1)],
  [some (.return_, 1), none, none, none, none, none, none, none, none, none, none, none, none, none, none, none]]
def kx_m158 : kx_R := (⟨"KiteWarModel", "cuts", "(I)V"⟩, prog_13_method_46_code, 2, Option.none, kx_t158, 12, 2, 63, [])
/-- KiteWarModel.linesCross()V -/
def kx_t159 : List (List (Option kx_I)) := [[some (.iconst 0, 1), some (.istore_n 1, 1), some (.iload_n 1, 1), some (.aload_n 0, 1), some (.getfield 7, 3), none, none, some (.iconst 2, 1), some (.iaload, 1), some (.if_icmp .ge 100, 3), none, none, some (.aload_n 0, 1), some (.getfield 35, 3), none, none],
  [some (.iload_n 1, 1), some (.iconst 0, 1), some (.iastore, 1), some (.aload_n 0, 1), some (.getfield 38, 3), none, none, some (.iload_n 1, 1), some (.iconst 0, 1), some (.iastore, 1), some (.iconst 0, 1), some (.istore_n 2, 1), some (.iload_n 2, 1), some (.aload_n 0, 1), some (.getfield 7, 3), none],
  [none, some (.iconst 2, 1), some (.iaload, 1), some (.if_icmp .ge 68, 3), none, none, some (.aload_n 0, 1), some (.iload_n 1, 1), some (.iload_n 2, 1), some (.invokevirtual 162, 3), none, none, some (.ifCond .ne 6, 3), none, none, some (.goto 50, 3)],
  [none, none, some (.aload_n 0, 1), some (.iload_n 1, 1), some (.iconst 5, 1), some (.invokevirtual 99, 3), none, none, some (.aload_n 0, 1), some (.iload_n 2, 1), some (.iconst 5, 1), some (.invokevirtual 99, 3), none, none, some (.if_icmp .lt 13, 3), none],
  [none, some (.aload_n 0, 1), some (.getfield 35, 3), none, none, some (.iload_n 1, 1), some (.dup2, 1), some (.iaload, 1), some (.iconst 1, 1), some (.iadd, 1), some (.iastore, 1), some (.aload_n 0, 1), some (.iload_n 2, 1), some (.iconst 5, 1), some (.invokevirtual 99, 3), none],
  [none, some (.aload_n 0, 1), some (.iload_n 1, 1), some (.iconst 5, 1), some (.invokevirtual 99, 3), none, none, some (.if_icmp .lt 10, 3), none, none, some (.aload_n 0, 1), some (.getfield 38, 3), none, none, some (.iload_n 1, 1), some (.iconst 1, 1)],
  [some (.iastore, 1), some (.iinc 2 1, 3), none, none, some (.goto (-72), 3), none, none, some (.iinc 1 1, 3), none, none, some (.goto (-104), 3), none, none, some (.iconst 0, 1), some (.istore_n 1, 1), some (.iload_n 1, 1)],
  [some (.aload_n 0, 1), some (.getfield 7, 3), none, none, some (.iconst 2, 1), some (.iaload, 1), some (.if_icmp .ge 95, 3), none, none, some (.aload_n 0, 1), some (.iload_n 1, 1), some (.bipush 7, 2), none, some (.aload_n 0, 1), some (.iload_n 1, 1), some (.bipush 7, 2)],
  [none, some (.invokevirtual 99, 3), none, none, some (.aload_n 0, 1), some (.getfield 35, 3), none, none, some (.iload_n 1, 1), some (.iaload, 1), some (.iadd, 1), some (.invokevirtual 125, 3), none, none, some (.aload_n 0, 1), some (.getfield 38, 3)],
  [none, none, some (.iload_n 1, 1), some (.iaload, 1), some (.ifCond .ne 38, 3), none, none, some (.aload_n 0, 1), some (.getfield 35, 3), none, none, some (.iload_n 1, 1), some (.iaload, 1), some (.ifCond .le 50, 3), none, none],
  [some (.aload_n 0, 1), some (.iload_n 1, 1), some (.iconst 5, 1), some (.iconst 1, 1), some (.aload_n 0, 1), some (.iload_n 1, 1), some (.iconst 5, 1), some (.invokevirtual 99, 3), none, none, some (.aload_n 0, 1), some (.getfield 35, 3), none, none, some (.iload_n 1, 1), some (.iaload, 1)],
  [some (.isub, 1), some (.invokestatic 93, 3), none, none, some (.invokevirtual 125, 3), none, none, some (.goto 24, 3), none, none, some (.aload_n 0, 1), some (.getfield 7, 3), none, none, some (.iconst 5, 1), some (.aload_n 0, 1)],
  [some (.iload_n 1, 1), some (.invokevirtual 142, 3), none, none, some (.isub, 1), some (.dup2, 1), some (.iaload, 1), some (.iconst 2, 1), some (.iadd, 1), some (.iastore, 1), some (.aload_n 0, 1), some (.iload_n 1, 1), some (.invokevirtual 165, 3), none, none, some (.iinc 1 1, 3)],
  [none, none, some (.goto (-99), 3), none, none, some (.return_, 1), none, none, none, none, none, none, none, none, none, none]]
def kx_m159 : kx_R := (⟨"KiteWarModel", "linesCross", "()V"⟩, prog_13_method_49_code, 3, Option.none, kx_t159, 12, 8, 200, [])
/-- KiteWarModel.areCrossed(II)Z -/
def kx_t160 : List (List (Option kx_I)) := [[some (.aload_n 0, 1), some (.iload_n 1, 1), some (.invokevirtual 142, 3), none, none, some (.aload_n 0, 1), some (.iload_n 2, 1), some (.invokevirtual 142, 3), none, none, some (.if_icmp .ne 5, 3), none, none, some (.iconst 0, 1), some (.ireturn, 1), some (.iconst 0, 1)],
  [some (.istore_n 3, 1), some (.iload_n 3, 1), some (.bipush 37, 2), none, some (.if_icmp .ge 29, 3), none, none, some (.aload_n 0, 1), some (.iload_n 1, 1), some (.iload_n 3, 1), some (.invokevirtual 158, 3), none, none, some (.ifCond .eq 14, 3), none, none],
  [some (.aload_n 0, 1), some (.iload_n 2, 1), some (.iload_n 3, 1), some (.invokevirtual 158, 3), none, none, some (.ifCond .eq 5, 3), none, none, some (.iconst 1, 1), some (.ireturn, 1), some (.iinc 3 1, 3), none, none, some (.goto (-29), 3), none],
  [none, some (.iconst 0, 1), some (.ireturn, 1), none, none, none, none, none, none, none, none, none, none, none, none, none]]
def kx_m160 : kx_R := (⟨"KiteWarModel", "areCrossed", "(II)Z"⟩, prog_13_method_48_code, 4, Option.some Jvm.ClassFile.FieldType.boolean, kx_t160, 12, 7, 177, [])
/-- KiteWarModel.covers(II)Z -/
def kx_t161 : List (List (Option kx_I)) := [[some (.aload_n 0, 1), some (.iload_n 1, 1), some (.iconst 1, 1), some (.invokevirtual 99, 3), none, none, some (.iconst 1, 1), some (.if_icmp .eq 5, 3), none, none, some (.iconst 0, 1), some (.ireturn, 1), some (.iconst 1, 1), some (.istore_n 3, 1), some (.iload_n 3, 1), some (.aload_n 0, 1)],
  [some (.iload_n 1, 1), some (.iconst 3, 1), some (.invokevirtual 99, 3), none, none, some (.if_icmp .gt 36, 3), none, none, some (.aload_n 0, 1), some (.aload_n 0, 1), some (.iload_n 1, 1), some (.iconst 0, 1), some (.invokevirtual 99, 3), none, none, some (.iconst 1, 1)],
  [some (.invokevirtual 102, 3), none, none, some (.aload_n 0, 1), some (.iload_n 1, 1), some (.iconst 2, 1), some (.invokevirtual 99, 3), none, none, some (.iload_n 3, 1), some (.invokestatic 148, 3), none, none, some (.iload_n 2, 1), some (.if_icmp .ne 5, 3), none],
  [none, some (.iconst 1, 1), some (.ireturn, 1), some (.iinc 3 1, 3), none, none, some (.goto (-40), 3), none, none, some (.iconst 0, 1), some (.ireturn, 1), none, none, none, none, none]]
def kx_m161 : kx_R := (⟨"KiteWarModel", "covers", "(II)Z"⟩, prog_13_method_47_code, 4, Option.some Jvm.ClassFile.FieldType.boolean, kx_t161, 12, 6, 154, [])
/-- KiteWarModel.drift(I)V -/
def kx_t162 : List (List (Option kx_I)) := [[some (.aload_n 0, 1), some (.iload_n 1, 1), some (.iconst 4, 1), some (.invokevirtual 99, 3), none, none, some (.aload_n 0, 1), some (.aload_n 0, 1), some (.getfield 7, 3), none, none, some (.iconst 0, 1), some (.iaload, 1), some (.invokevirtual 136, 3), none, none],
  [some (.aload_n 0, 1), some (.aload_n 0, 1), some (.getfield 7, 3), none, none, some (.iconst 0, 1), some (.iaload, 1), some (.invokevirtual 133, 3), none, none, some (.invokestatic 148, 3), none, none, some (.istore_n 2, 1), some (.iload_n 2, 1), some (.ifCond .ge 11, 3)],
  [none, none, some (.aload_n 0, 1), some (.iload_n 1, 1), some (.iconst 1, 1), some (.iconst 3, 1), some (.invokevirtual 125, 3), none, none, some (.return_, 1), some (.aload_n 0, 1), some (.iload_n 1, 1), some (.iconst 4, 1), some (.iload_n 2, 1), some (.invokevirtual 125, 3), none],
  [none, some (.aload_n 0, 1), some (.iload_n 2, 1), some (.invokevirtual 105, 3), none, none, some (.istore_n 3, 1), some (.iload_n 3, 1), some (.ifCond .ge 4, 3), none, none, some (.return_, 1), some (.aload_n 0, 1), some (.getfield 7, 3), none, none],
  [some (.bipush 11, 2), none, some (.iconst 4, 1), some (.iload_n 3, 1), some (.imul, 1), some (.iadd, 1), some (.iconst 3, 1), some (.iadd, 1), some (.dup2, 1), some (.iaload, 1), some (.iconst 1, 1), some (.iadd, 1), some (.iastore, 1), some (.aload_n 0, 1), some (.iload_n 3, 1), some (.iconst 0, 1)],
  [some (.invokevirtual 102, 3), none, none, some (.aload_n 0, 1), some (.iload_n 1, 1), some (.invokevirtual 142, 3), none, none, some (.if_icmp .ne 27, 3), none, none, some (.aload_n 0, 1), some (.iload_n 1, 1), some (.invokevirtual 129, 3), none, none],
  [some (.aload_n 0, 1), some (.iload_n 1, 1), some (.iconst 5, 1), some (.iconst 1, 1), some (.invokevirtual 125, 3), none, none, some (.aload_n 0, 1), some (.getfield 7, 3), none, none, some (.bipush 8, 2), none, some (.dup2, 1), some (.iaload, 1), some (.iconst 1, 1)],
  [some (.iadd, 1), some (.iastore, 1), some (.return_, 1), some (.aload_n 0, 1), some (.iload_n 1, 1), some (.iconst 1, 1), some (.iconst 3, 1), some (.invokevirtual 125, 3), none, none, some (.aload_n 0, 1), some (.getfield 7, 3), none, none, some (.bipush 9, 2), none],
  [some (.dup2, 1), some (.iaload, 1), some (.iconst 1, 1), some (.iadd, 1), some (.iastore, 1), some (.aload_n 0, 1), some (.getfield 7, 3), none, none, some (.iconst 4, 1), some (.aload_n 0, 1), some (.iload_n 3, 1), some (.iconst 0, 1), some (.invokevirtual 102, 3), none, none],
  [some (.iadd, 1), some (.dup2, 1), some (.iaload, 1), some (.iconst 3, 1), some (.iadd, 1), some (.iastore, 1), some (.return_, 1), none, none, none, none, none, none, none, none, none]]
def kx_m162 : kx_R := (⟨"KiteWarModel", "drift", "(I)V"⟩, prog_13_method_50_code, 4, Option.none, kx_t162, 12, 6, 154, [])
/-- KiteWarModel.crossings()I -/
def kx_t163 : List (List (Option kx_I)) := [[some (.aload_n 0, 1), some (.invokevirtual 183, 3), none, none, some (.iconst 0, 1), some (.istore_n 1, 1), some (.iconst 0, 1), some (.istore_n 2, 1), some (.iload_n 2, 1), some (.aload_n 0, 1), some (.getfield 7, 3), none, none, some (.iconst 2, 1), some (.iaload, 1), some (.if_icmp .ge 39, 3)],
  [none, none, some (.iconst 0, 1), some (.istore_n 3, 1), some (.iload_n 3, 1), some (.iload_n 2, 1), some (.if_icmp .ge 26, 3), none, none, some (.iload_n 1, 1), some (.aload_n 0, 1), some (.iload_n 2, 1), some (.iload_n 3, 1), some (.invokevirtual 162, 3), none, none],
  [some (.ifCond .eq 7, 3), none, none, some (.iconst 1, 1), some (.goto 4, 3), none, none, some (.iconst 0, 1), some (.iadd, 1), some (.istore_n 1, 1), some (.iinc 3 1, 3), none, none, some (.goto (-25), 3), none, none],
  [some (.iinc 2 1, 3), none, none, some (.goto (-43), 3), none, none, some (.aload_n 0, 1), some (.getfield 22, 3), none, none, some (.iconst 0, 1), some (.aload_n 0, 1), some (.getfield 7, 3), none, none, some (.iconst 0, 1)],
  [some (.invokestatic 61, 3), none, none, some (.iload_n 1, 1), some (.ireturn, 1), none, none, none, none, none, none, none, none, none, none, none]]
def kx_m163 : kx_R := (⟨"KiteWarModel", "crossings", "()I"⟩, prog_13_method_54_code, 4, Option.some Jvm.ClassFile.FieldType.int, kx_t163, 12, 10, 242, [])
/-- KiteWarModel.thinks()V -/
def kx_t164 : List (List (Option kx_I)) := [[some (.aload_n 0, 1), some (.getfield 7, 3), none, none, some (.iconst 0, 1), some (.aload_n 0, 1), some (.getfield 22, 3), none, none, some (.iconst 0, 1), some (.invokestatic 61, 3), none, none, some (.aload_n 0, 1), some (.invokevirtual 168, 3), none],
  [none, some (.return_, 1), none, none, none, none, none, none, none, none, none, none, none, none, none, none]]
def kx_m164 : kx_R := (⟨"KiteWarModel", "thinks", "()V"⟩, prog_13_method_53_code, 1, Option.none, kx_t164, 12, 9, 222, [])
/-- KiteWarModel.crossingsAgain()I -/
def kx_t165 : List (List (Option kx_I)) := [[some (.aload_n 0, 1), some (.invokevirtual 183, 3), none, none, some (.iconst 0, 1), some (.istore_n 1, 1), some (.iconst 0, 1), some (.istore_n 2, 1), some (.iload_n 2, 1), some (.sipush 144, 3), none, none, some (.if_icmp .ge 16, 3), none, none, some (.aload_n 0, 1)],
  [some (.getfield 41, 3), none, none, some (.iload_n 2, 1), some (.iconst 0, 1), some (.iastore, 1), some (.iinc 2 1, 3), none, none, some (.goto (-17), 3), none, none, some (.iconst 0, 1), some (.istore_n 2, 1), some (.iload_n 2, 1), some (.bipush 37, 2)],
  [none, some (.if_icmp .ge 110, 3), none, none, some (.iconst 0, 1), some (.istore_n 3, 1), some (.iload_n 3, 1), some (.aload_n 0, 1), some (.getfield 7, 3), none, none, some (.iconst 2, 1), some (.iaload, 1), some (.if_icmp .ge 92, 3), none, none],
  [some (.iconst 0, 1), some (.istore 4, 2), none, some (.iload 4, 2), none, some (.iload_n 3, 1), some (.if_icmp .ge 77, 3), none, none, some (.aload_n 0, 1), some (.iload_n 3, 1), some (.iload_n 2, 1), some (.invokevirtual 158, 3), none, none, some (.ifCond .eq 68, 3)],
  [none, none, some (.aload_n 0, 1), some (.iload_n 3, 1), some (.invokevirtual 142, 3), none, none, some (.aload_n 0, 1), some (.iload 4, 2), none, some (.invokevirtual 142, 3), none, none, some (.if_icmp .eq 48, 3), none, none],
  [some (.aload_n 0, 1), some (.iload 4, 2), none, some (.iload_n 2, 1), some (.invokevirtual 158, 3), none, none, some (.ifCond .eq 38, 3), none, none, some (.aload_n 0, 1), some (.getfield 41, 3), none, none, some (.bipush 12, 2), none],
  [some (.iload_n 3, 1), some (.imul, 1), some (.iload 4, 2), none, some (.iadd, 1), some (.iaload, 1), some (.iconst 1, 1), some (.if_icmp .ne 6, 3), none, none, some (.goto 19, 3), none, none, some (.aload_n 0, 1), some (.getfield 41, 3), none],
  [none, some (.bipush 12, 2), none, some (.iload_n 3, 1), some (.imul, 1), some (.iload 4, 2), none, some (.iadd, 1), some (.iconst 1, 1), some (.iastore, 1), some (.iinc 1 1, 3), none, none, some (.iinc 4 1, 3), none, none],
  [some (.goto (-77), 3), none, none, some (.iinc 3 1, 3), none, none, some (.goto (-96), 3), none, none, some (.iinc 2 1, 3), none, none, some (.goto (-110), 3), none, none, some (.aload_n 0, 1)],
  [some (.getfield 22, 3), none, none, some (.iconst 0, 1), some (.aload_n 0, 1), some (.getfield 7, 3), none, none, some (.iconst 0, 1), some (.invokestatic 61, 3), none, none, some (.iload_n 1, 1), some (.ireturn, 1), none, none]]
def kx_m165 : kx_R := (⟨"KiteWarModel", "crossingsAgain", "()I"⟩, prog_13_method_55_code, 5, Option.some Jvm.ClassFile.FieldType.int, kx_t165, 12, 10, 242, [])
/-- KiteWarModel.driftsTo(II)I -/
def kx_t166 : List (List (Option kx_I)) := [[some (.aload_n 0, 1), some (.iload_n 1, 1), some (.invokevirtual 139, 3), none, none, some (.ifCond .ne 6, 3), none, none, some (.bipush (-11), 2), none, some (.ireturn, 1), some (.iload_n 2, 1), some (.iconst 0, 1), some (.bipush 9, 2), none, some (.invokestatic 65, 3)],
  [none, none, some (.ifCond .ne 6, 3), none, none, some (.bipush (-12), 2), none, some (.ireturn, 1), some (.aload_n 0, 1), some (.iload_n 1, 1), some (.iconst 1, 1), some (.invokevirtual 99, 3), none, none, some (.iconst 2, 1), some (.if_icmp .eq 6, 3)],
  [none, none, some (.bipush (-15), 2), none, some (.ireturn, 1), some (.aload_n 0, 1), some (.iload_n 1, 1), some (.iconst 4, 1), some (.invokevirtual 99, 3), none, none, some (.istore_n 3, 1), some (.iconst 0, 1), some (.istore 4, 2), none, some (.iload 4, 2)],
  [none, some (.iload_n 2, 1), some (.if_icmp .ge 44, 3), none, none, some (.iload_n 3, 1), some (.ifCond .lt 40, 3), none, none, some (.iload_n 3, 1), some (.aload_n 0, 1), some (.aload_n 0, 1), some (.getfield 7, 3), none, none, some (.iconst 0, 1)],
  [some (.iaload, 1), some (.iload 4, 2), none, some (.iadd, 1), some (.invokevirtual 136, 3), none, none, some (.aload_n 0, 1), some (.aload_n 0, 1), some (.getfield 7, 3), none, none, some (.iconst 0, 1), some (.iaload, 1), some (.iload 4, 2), none],
  [some (.iadd, 1), some (.invokevirtual 133, 3), none, none, some (.invokestatic 148, 3), none, none, some (.istore_n 3, 1), some (.iinc 4 1, 3), none, none, some (.goto (-44), 3), none, none, some (.iload_n 3, 1), some (.ifCond .ge 8, 3)],
  [none, none, some (.bipush (-15), 2), none, some (.goto 4, 3), none, none, some (.iload_n 3, 1), some (.ireturn, 1), none, none, none, none, none, none, none]]
def kx_m166 : kx_R := (⟨"KiteWarModel", "driftsTo", "(II)I"⟩, prog_13_method_56_code, 5, Option.some Jvm.ClassFile.FieldType.int, kx_t166, 12, 6, 154, [])
/-- KiteWarModel.bestDirection(I)I -/
def kx_t167 : List (List (Option kx_I)) := [[some (.aload_n 0, 1), some (.iload_n 1, 1), some (.invokevirtual 118, 3), none, none, some (.ifCond .ne 6, 3), none, none, some (.bipush (-11), 2), none, some (.ireturn, 1), some (.iconst 0, 1), some (.istore_n 2, 1), some (.iconst 1, 1), some (.istore_n 3, 1), some (.iload_n 3, 1)],
  [some (.bipush 6, 2), none, some (.if_icmp .ge 51, 3), none, none, some (.aload_n 0, 1), some (.iload_n 1, 1), some (.iload_n 3, 1), some (.invokevirtual 186, 3), none, none, some (.aload_n 0, 1), some (.iload_n 1, 1), some (.iload_n 2, 1), some (.invokevirtual 186, 3), none],
  [none, some (.isub, 1), some (.istore 4, 2), none, some (.iload 4, 2), none, some (.ifCond .gt 23, 3), none, none, some (.iload 4, 2), none, some (.ifCond .ne 20, 3), none, none, some (.aload_n 0, 1), some (.iload_n 1, 1)],
  [some (.iload_n 3, 1), some (.invokevirtual 189, 3), none, none, some (.aload_n 0, 1), some (.iload_n 1, 1), some (.iload_n 2, 1), some (.invokevirtual 189, 3), none, none, some (.if_icmp .ge 5, 3), none, none, some (.iload_n 3, 1), some (.istore_n 2, 1), some (.iinc 3 1, 3)],
  [none, none, some (.goto (-51), 3), none, none, some (.iload_n 2, 1), some (.ireturn, 1), none, none, none, none, none, none, none, none, none]]
def kx_m167 : kx_R := (⟨"KiteWarModel", "bestDirection", "(I)I"⟩, prog_13_method_59_code, 5, Option.some Jvm.ClassFile.FieldType.int, kx_t167, 12, 8, 203, [])
/-- KiteWarModel.longest(II)I -/
def kx_t168 : List (List (Option kx_I)) := [[some (.iconst 0, 1), some (.istore_n 3, 1), some (.iload_n 3, 1), some (.aload_n 0, 1), some (.iload_n 1, 1), some (.iconst 2, 1), some (.invokevirtual 102, 3), none, none, some (.if_icmp .ge 25, 3), none, none, some (.aload_n 0, 1), some (.iload_n 1, 1), some (.iconst 1, 1), some (.invokevirtual 102, 3)],
  [none, none, some (.iload_n 2, 1), some (.iload_n 3, 1), some (.iconst 1, 1), some (.iadd, 1), some (.invokestatic 148, 3), none, none, some (.ifCond .lt 9, 3), none, none, some (.iinc 3 1, 3), none, none, some (.goto (-29), 3)],
  [none, none, some (.iload_n 3, 1), some (.ireturn, 1), none, none, none, none, none, none, none, none, none, none, none, none]]
def kx_m168 : kx_R := (⟨"KiteWarModel", "longest", "(II)I"⟩, prog_13_method_57_code, 4, Option.some Jvm.ClassFile.FieldType.int, kx_t168, 12, 6, 154, [])
/-- KiteWarModel.inTheWay(II)I -/
def kx_t169 : List (List (Option kx_I)) := [[some (.iconst 0, 1), some (.istore_n 3, 1), some (.iconst 1, 1), some (.istore 4, 2), none, some (.iload 4, 2), none, some (.aload_n 0, 1), some (.iload_n 1, 1), some (.iload_n 2, 1), some (.invokevirtual 186, 3), none, none, some (.if_icmp .gt 77, 3), none, none],
  [some (.aload_n 0, 1), some (.iload_n 1, 1), some (.iconst 1, 1), some (.invokevirtual 102, 3), none, none, some (.iload_n 2, 1), some (.iload 4, 2), none, some (.invokestatic 148, 3), none, none, some (.istore 5, 2), none, some (.iconst 0, 1), some (.istore 6, 2)],
  [none, some (.iload 6, 2), none, some (.aload_n 0, 1), some (.getfield 7, 3), none, none, some (.iconst 2, 1), some (.iaload, 1), some (.if_icmp .ge 43, 3), none, none, some (.iload_n 3, 1), some (.aload_n 0, 1), some (.iload 6, 2), none],
  [some (.invokevirtual 142, 3), none, none, some (.aload_n 0, 1), some (.iload_n 1, 1), some (.iconst 0, 1), some (.invokevirtual 102, 3), none, none, some (.if_icmp .eq 18, 3), none, none, some (.aload_n 0, 1), some (.iload 6, 2), none, some (.iload 5, 2)],
  [none, some (.invokevirtual 158, 3), none, none, some (.ifCond .eq 7, 3), none, none, some (.iconst 1, 1), some (.goto 4, 3), none, none, some (.iconst 0, 1), some (.iadd, 1), some (.istore_n 3, 1), some (.iinc 6 1, 3), none],
  [none, some (.goto (-48), 3), none, none, some (.iinc 4 1, 3), none, none, some (.goto (-82), 3), none, none, some (.iload_n 3, 1), some (.ireturn, 1), none, none, none, none]]
def kx_m169 : kx_R := (⟨"KiteWarModel", "inTheWay", "(II)I"⟩, prog_13_method_58_code, 7, Option.some Jvm.ClassFile.FieldType.int, kx_t169, 12, 7, 177, [])
/-- KiteWarModel.nearest(II)I -/
def kx_t170 : List (List (Option kx_I)) := [[some (.iload_n 1, 1), some (.iconst 0, 1), some (.iconst 1, 1), some (.invokestatic 65, 3), none, none, some (.ifCond .eq 10, 3), none, none, some (.iload_n 2, 1), some (.invokestatic 83, 3), none, none, some (.ifCond .ne 6, 3), none, none],
  [some (.bipush (-11), 2), none, some (.ireturn, 1), some (.iconst (-1), 1), some (.istore_n 3, 1), some (.iconst 0, 1), some (.istore 4, 2), none, some (.iload 4, 2), none, some (.aload_n 0, 1), some (.getfield 7, 3), none, none, some (.iconst 1, 1), some (.iaload, 1)],
  [some (.if_icmp .ge 51, 3), none, none, some (.aload_n 0, 1), some (.iload 4, 2), none, some (.iconst 0, 1), some (.invokevirtual 102, 3), none, none, some (.iload_n 1, 1), some (.if_icmp .ne 34, 3), none, none, some (.iload_n 3, 1), some (.ifCond .lt 27, 3)],
  [none, none, some (.aload_n 0, 1), some (.iload 4, 2), none, some (.iconst 1, 1), some (.invokevirtual 102, 3), none, none, some (.iload_n 2, 1), some (.invokestatic 96, 3), none, none, some (.aload_n 0, 1), some (.iload_n 3, 1), some (.iconst 1, 1)],
  [some (.invokevirtual 102, 3), none, none, some (.iload_n 2, 1), some (.invokestatic 96, 3), none, none, some (.if_icmp .ge 6, 3), none, none, some (.iload 4, 2), none, some (.istore_n 3, 1), some (.iinc 4 1, 3), none, none],
  [some (.goto (-56), 3), none, none, some (.iload_n 3, 1), some (.ifCond .ge 8, 3), none, none, some (.bipush (-15), 2), none, some (.goto 4, 3), none, none, some (.iload_n 3, 1), some (.ireturn, 1), none, none]]
def kx_m170 : kx_R := (⟨"KiteWarModel", "nearest", "(II)I"⟩, prog_13_method_60_code, 5, Option.some Jvm.ClassFile.FieldType.int, kx_t170, 12, 6, 148, [])
/-- KiteWarModel.append(I)I -/
def kx_t171 : List (List (Option kx_I)) := [[some (.iload_n 1, 1), some (.bipush 32, 2), none, some (.bipush 126, 2), none, some (.invokestatic 65, 3), none, none, some (.ifCond .ne 6, 3), none, none, some (.bipush (-12), 2), none, some (.ireturn, 1), some (.aload_n 0, 1), some (.getfield 192, 3)],
  [none, none, some (.bipush 60, 2), none, some (.if_icmp .ne 6, 3), none, none, some (.bipush (-13), 2), none, some (.ireturn, 1), some (.aload_n 0, 1), some (.getfield 25, 3), none, none, some (.aload_n 0, 1), some (.getfield 192, 3)],
  [none, none, some (.iload_n 1, 1), some (.iastore, 1), some (.aload_n 0, 1), some (.dup, 1), some (.getfield 192, 3), none, none, some (.iconst 1, 1), some (.iadd, 1), some (.putfield 192, 3), none, none, some (.aload_n 0, 1), some (.getfield 192, 3)],
  [none, none, some (.ireturn, 1), none, none, none, none, none, none, none, none, none, none, none, none, none]]
def kx_m171 : kx_R := (⟨"KiteWarModel", "append", "(I)I"⟩, prog_13_method_61_code, 2, Option.some Jvm.ClassFile.FieldType.int, kx_t171, 12, 2, 62, [])
/-- KiteWarModel.run()I -/
def kx_t172 : List (List (Option kx_I)) := [[some (.aload_n 0, 1), some (.invokevirtual 253, 3), none, none, some (.istore_n 1, 1), some (.aload_n 0, 1), some (.iconst 0, 1), some (.putfield 192, 3), none, none, some (.iload_n 1, 1), some (.ifCond .ne 12, 3), none, none, some (.sipush (-1000), 3), none],
  [none, some (.aload_n 0, 1), some (.getfield 195, 3), none, none, some (.isub, 1), some (.ireturn, 1), some (.aload_n 0, 1), some (.getfield 7, 3), none, none, some (.iconst 0, 1), some (.aload_n 0, 1), some (.getfield 19, 3), none, none],
  [some (.iconst 0, 1), some (.invokestatic 61, 3), none, none, some (.aload_n 0, 1), some (.iconst 1, 1), some (.putfield 54, 3), none, none, some (.iconst 0, 1), some (.istore_n 2, 1), some (.iconst 0, 1), some (.istore_n 3, 1), some (.iload_n 2, 1), some (.aload_n 0, 1), some (.getfield 230, 3)],
  [none, none, some (.if_icmp .ge 21, 3), none, none, some (.iload_n 3, 1), some (.ifCond .lt 17, 3), none, none, some (.aload_n 0, 1), some (.iconst 3, 1), some (.iload_n 2, 1), some (.imul, 1), some (.invokevirtual 256, 3), none, none],
  [some (.istore_n 3, 1), some (.iinc 2 1, 3), none, none, some (.goto (-23), 3), none, none, some (.aload_n 0, 1), some (.iconst 0, 1), some (.putfield 54, 3), none, none, some (.iload_n 3, 1), some (.ifCond .lt 16, 3), none, none],
  [some (.aload_n 0, 1), some (.aload_n 0, 1), some (.getfield 19, 3), none, none, some (.invokevirtual 114, 3), none, none, some (.aload_n 0, 1), some (.getfield 230, 3), none, none, some (.ireturn, 1), some (.aload_n 0, 1), some (.getfield 19, 3), none],
  [none, some (.iconst 0, 1), some (.aload_n 0, 1), some (.getfield 7, 3), none, none, some (.iconst 0, 1), some (.invokestatic 61, 3), none, none, some (.aload_n 0, 1), some (.bipush 8, 2), none, some (.iload_n 2, 1), some (.iconst 1, 1), some (.isub, 1)],
  [some (.invokevirtual 108, 3), none, none, some (.ireturn, 1), none, none, none, none, none, none, none, none, none, none, none, none]]
def kx_m172 : kx_R := (⟨"KiteWarModel", "run", "()I"⟩, prog_13_method_70_code, 4, Option.some Jvm.ClassFile.FieldType.int, kx_t172, 12, 12, 287, [])
/-- KiteWarModel.isText()Z -/
def kx_t173 : List (List (Option kx_I)) := [[some (.aload_n 0, 1), some (.iconst 0, 1), some (.putfield 195, 3), none, none, some (.aload_n 0, 1), some (.iconst 0, 1), some (.putfield 230, 3), none, none, some (.aload_n 0, 1), some (.invokevirtual 240, 3), none, none, some (.ifCond .ne 5, 3), none],
  [none, some (.iconst 0, 1), some (.ireturn, 1), some (.aload_n 0, 1), some (.dup, 1), some (.getfield 230, 3), none, none, some (.iconst 1, 1), some (.iadd, 1), some (.putfield 230, 3), none, none, some (.aload_n 0, 1), some (.bipush 59, 2), none],
  [some (.invokevirtual 210, 3), none, none, some (.ifCond .ne (-25), 3), none, none, some (.aload_n 0, 1), some (.getfield 195, 3), none, none, some (.aload_n 0, 1), some (.getfield 192, 3), none, none, some (.if_icmp .ne 7, 3), none],
  [none, some (.iconst 1, 1), some (.goto 4, 3), none, none, some (.iconst 0, 1), some (.ireturn, 1), none, none, none, none, none, none, none, none, none]]
def kx_m173 : kx_R := (⟨"KiteWarModel", "isText", "()Z"⟩, prog_13_method_68_code, 1, Option.some Jvm.ClassFile.FieldType.boolean, kx_t173, 12, 8, 189, [])
/-- KiteWarModel.orderHere()Z -/
def kx_t174 : List (List (Option kx_I)) := [[some (.iconst 3, 1), some (.aload_n 0, 1), some (.getfield 230, 3), none, none, some (.imul, 1), some (.istore_n 1, 1), some (.aload_n 0, 1), some (.bipush 119, 2), none, some (.invokevirtual 210, 3), none, none, some (.ifCond .eq 55, 3), none, none],
  [some (.aload_n 0, 1), some (.getfield 44, 3), none, none, some (.iload_n 1, 1), some (.bipush 7, 2), none, some (.iastore, 1), some (.aload_n 0, 1), some (.ldc 233, 2), none, some (.invokevirtual 215, 3), none, none, some (.ifCond .eq 36, 3), none],
  [none, some (.aload_n 0, 1), some (.iload_n 1, 1), some (.iconst 1, 1), some (.iadd, 1), some (.invokevirtual 219, 3), none, none, some (.ifCond .eq 26, 3), none, none, some (.aload_n 0, 1), some (.bipush 42, 2), none, some (.invokevirtual 210, 3), none],
  [none, some (.ifCond .eq 17, 3), none, none, some (.aload_n 0, 1), some (.iload_n 1, 1), some (.iconst 2, 1), some (.iadd, 1), some (.invokevirtual 219, 3), none, none, some (.ifCond .eq 7, 3), none, none, some (.iconst 1, 1), some (.goto 4, 3)],
  [none, none, some (.iconst 0, 1), some (.ireturn, 1), some (.aload_n 0, 1), some (.bipush 116, 2), none, some (.invokevirtual 210, 3), none, none, some (.ifCond .eq 36, 3), none, none, some (.aload_n 0, 1), some (.getfield 44, 3), none],
  [none, some (.iload_n 1, 1), some (.bipush 8, 2), none, some (.iastore, 1), some (.aload_n 0, 1), some (.ldc 235, 2), none, some (.invokevirtual 215, 3), none, none, some (.ifCond .eq 17, 3), none, none, some (.aload_n 0, 1), some (.iload_n 1, 1)],
  [some (.iconst 1, 1), some (.iadd, 1), some (.invokevirtual 219, 3), none, none, some (.ifCond .eq 7, 3), none, none, some (.iconst 1, 1), some (.goto 4, 3), none, none, some (.iconst 0, 1), some (.ireturn, 1), some (.aload_n 0, 1), some (.iload_n 1, 1)],
  [some (.iconst 1, 1), some (.iadd, 1), some (.invokevirtual 219, 3), none, none, some (.ifCond .eq 24, 3), none, none, some (.aload_n 0, 1), some (.bipush 32, 2), none, some (.invokevirtual 210, 3), none, none, some (.ifCond .eq 15, 3), none],
  [none, some (.aload_n 0, 1), some (.iload_n 1, 1), some (.invokevirtual 237, 3), none, none, some (.ifCond .eq 7, 3), none, none, some (.iconst 1, 1), some (.goto 4, 3), none, none, some (.iconst 0, 1), some (.ireturn, 1), none]]
def kx_m174 : kx_R := (⟨"KiteWarModel", "orderHere", "()Z"⟩, prog_13_method_67_code, 2, Option.some Jvm.ClassFile.FieldType.boolean, kx_t174, 12, 7, 168, [])
/-- KiteWarModel.skips(I)Z -/
def kx_t175 : List (List (Option kx_I)) := [[some (.aload_n 0, 1), some (.invokevirtual 198, 3), none, none, some (.iload_n 1, 1), some (.if_icmp .eq 5, 3), none, none, some (.iconst 0, 1), some (.ireturn, 1), some (.aload_n 0, 1), some (.dup, 1), some (.getfield 195, 3), none, none, some (.iconst 1, 1)],
  [some (.iadd, 1), some (.putfield 195, 3), none, none, some (.iconst 1, 1), some (.ireturn, 1), none, none, none, none, none, none, none, none, none, none]]
def kx_m175 : kx_R := (⟨"KiteWarModel", "skips", "(I)Z"⟩, prog_13_method_63_code, 2, Option.some Jvm.ClassFile.FieldType.boolean, kx_t175, 12, 2, 60, [])
/-- KiteWarModel.here()I -/
def kx_t176 : List (List (Option kx_I)) := [[some (.aload_n 0, 1), some (.getfield 195, 3), none, none, some (.aload_n 0, 1), some (.getfield 192, 3), none, none, some (.if_icmp .ge 15, 3), none, none, some (.aload_n 0, 1), some (.getfield 25, 3), none, none, some (.aload_n 0, 1)],
  [some (.getfield 195, 3), none, none, some (.iaload, 1), some (.goto 4, 3), none, none, some (.iconst (-1), 1), some (.ireturn, 1), none, none, none, none, none, none, none]]
def kx_m176 : kx_R := (⟨"KiteWarModel", "here", "()I"⟩, prog_13_method_62_code, 1, Option.some Jvm.ClassFile.FieldType.int, kx_t176, 12, 1, 40, [])
/-- KiteWarModel.skipsAll(Ljava/lang/String;)Z -/
def kx_t177 : List (List (Option kx_I)) := [[some (.iconst 0, 1), some (.istore_n 2, 1), some (.iload_n 2, 1), some (.aload_n 1, 1), some (.invokevirtual 202, 3), none, none, some (.if_icmp .ge 23, 3), none, none, some (.aload_n 0, 1), some (.aload_n 1, 1), some (.iload_n 2, 1), some (.invokevirtual 206, 3), none, none],
  [some (.invokevirtual 210, 3), none, none, some (.ifCond .ne 5, 3), none, none, some (.iconst 0, 1), some (.ireturn, 1), some (.iinc 2 1, 3), none, none, some (.goto (-25), 3), none, none, some (.iconst 1, 1), some (.ireturn, 1)]]
def kx_m177 : kx_R := (⟨"KiteWarModel", "skipsAll", "(Ljava/lang/String;)Z"⟩, prog_13_method_64_code, 3, Option.some Jvm.ClassFile.FieldType.boolean, kx_t177, 12, 5, 125, [])
/-- KiteWarModel.figure(I)Z -/
def kx_t178 : List (List (Option kx_I)) := [[some (.aload_n 0, 1), some (.invokevirtual 198, 3), none, none, some (.bipush 48, 2), none, some (.bipush 57, 2), none, some (.invokestatic 65, 3), none, none, some (.ifCond .ne 5, 3), none, none, some (.iconst 0, 1), some (.ireturn, 1)],
  [some (.aload_n 0, 1), some (.getfield 44, 3), none, none, some (.iload_n 1, 1), some (.aload_n 0, 1), some (.invokevirtual 198, 3), none, none, some (.bipush 48, 2), none, some (.isub, 1), some (.iastore, 1), some (.aload_n 0, 1), some (.dup, 1), some (.getfield 195, 3)],
  [none, none, some (.iconst 1, 1), some (.iadd, 1), some (.putfield 195, 3), none, none, some (.iconst 1, 1), some (.ireturn, 1), none, none, none, none, none, none, none]]
def kx_m178 : kx_R := (⟨"KiteWarModel", "figure", "(I)Z"⟩, prog_13_method_65_code, 2, Option.some Jvm.ClassFile.FieldType.boolean, kx_t178, 12, 2, 62, [])
/-- KiteWarModel.moveHere(I)Z -/
def kx_t179 : List (List (Option kx_I)) := [[some (.aload_n 0, 1), some (.getfield 44, 3), none, none, some (.iload_n 1, 1), some (.iconst 2, 1), some (.iadd, 1), some (.iconst 0, 1), some (.iastore, 1), some (.aload_n 0, 1), some (.bipush 102, 2), none, some (.invokevirtual 210, 3), none, none, some (.ifCond .eq 35, 3)],
  [none, none, some (.aload_n 0, 1), some (.getfield 44, 3), none, none, some (.iload_n 1, 1), some (.iconst 1, 1), some (.iastore, 1), some (.aload_n 0, 1), some (.ldc 213, 2), none, some (.invokevirtual 215, 3), none, none, some (.ifCond .eq 17, 3)],
  [none, none, some (.aload_n 0, 1), some (.iload_n 1, 1), some (.iconst 2, 1), some (.iadd, 1), some (.invokevirtual 219, 3), none, none, some (.ifCond .eq 7, 3), none, none, some (.iconst 1, 1), some (.goto 4, 3), none, none],
  [some (.iconst 0, 1), some (.ireturn, 1), some (.aload_n 0, 1), some (.bipush 111, 2), none, some (.invokevirtual 210, 3), none, none, some (.ifCond .eq 17, 3), none, none, some (.aload_n 0, 1), some (.getfield 44, 3), none, none, some (.iload_n 1, 1)],
  [some (.iconst 2, 1), some (.iastore, 1), some (.aload_n 0, 1), some (.ldc 222, 2), none, some (.invokevirtual 215, 3), none, none, some (.ireturn, 1), some (.aload_n 0, 1), some (.bipush 105, 2), none, some (.invokevirtual 210, 3), none, none, some (.ifCond .eq 17, 3)],
  [none, none, some (.aload_n 0, 1), some (.getfield 44, 3), none, none, some (.iload_n 1, 1), some (.iconst 3, 1), some (.iastore, 1), some (.aload_n 0, 1), some (.bipush 110, 2), none, some (.invokevirtual 210, 3), none, none, some (.ireturn, 1)],
  [some (.aload_n 0, 1), some (.bipush 114, 2), none, some (.invokevirtual 210, 3), none, none, some (.ifCond .eq 17, 3), none, none, some (.aload_n 0, 1), some (.getfield 44, 3), none, none, some (.iload_n 1, 1), some (.iconst 5, 1), some (.iastore, 1)],
  [some (.aload_n 0, 1), some (.ldc 224, 2), none, some (.invokevirtual 215, 3), none, none, some (.ireturn, 1), some (.aload_n 0, 1), some (.bipush 108, 2), none, some (.invokevirtual 210, 3), none, none, some (.ifCond .ne 5, 3), none, none],
  [some (.iconst 0, 1), some (.ireturn, 1), some (.aload_n 0, 1), some (.getfield 44, 3), none, none, some (.iload_n 1, 1), some (.aload_n 0, 1), some (.invokevirtual 198, 3), none, none, some (.bipush 101, 2), none, some (.if_icmp .ne 7, 3), none, none],
  [some (.iconst 4, 1), some (.goto 5, 3), none, none, some (.bipush 6, 2), none, some (.iastore, 1), some (.aload_n 0, 1), some (.bipush 101, 2), none, some (.invokevirtual 210, 3), none, none, some (.ifCond .eq 12, 3), none, none],
  [some (.aload_n 0, 1), some (.ldc 226, 2), none, some (.invokevirtual 215, 3), none, none, some (.goto 9, 3), none, none, some (.aload_n 0, 1), some (.ldc 228, 2), none, some (.invokevirtual 215, 3), none, none, some (.ireturn, 1)]]
def kx_m179 : kx_R := (⟨"KiteWarModel", "moveHere", "(I)Z"⟩, prog_13_method_66_code, 2, Option.some Jvm.ClassFile.FieldType.boolean, kx_t179, 12, 6, 147, [])
/-- KiteWarModel.carries(I)I -/
def kx_t180 : List (List (Option kx_I)) := [[some (.aload_n 0, 1), some (.getfield 44, 3), none, none, some (.iload_n 1, 1), some (.iaload, 1), some (.lookupswitch 60 #[(7, 26), (8, 47)], 26), none, none, none, none, none, none, none, none, none],
  [none, none, none, none, none, none, none, none, none, none, none, none, none, none, none, none],
  [some (.aload_n 0, 1), some (.aload_n 0, 1), some (.getfield 44, 3), none, none, some (.iload_n 1, 1), some (.iconst 1, 1), some (.iadd, 1), some (.iaload, 1), some (.aload_n 0, 1), some (.getfield 44, 3), none, none, some (.iload_n 1, 1), some (.iconst 2, 1), some (.iadd, 1)],
  [some (.iaload, 1), some (.invokevirtual 244, 3), none, none, some (.ireturn, 1), some (.aload_n 0, 1), some (.aload_n 0, 1), some (.getfield 44, 3), none, none, some (.iload_n 1, 1), some (.iconst 1, 1), some (.iadd, 1), some (.iaload, 1), some (.invokevirtual 247, 3), none],
  [none, some (.ireturn, 1), some (.aload_n 0, 1), some (.aload_n 0, 1), some (.getfield 44, 3), none, none, some (.iload_n 1, 1), some (.iconst 1, 1), some (.iadd, 1), some (.iaload, 1), some (.aload_n 0, 1), some (.getfield 44, 3), none, none, some (.iload_n 1, 1)],
  [some (.iaload, 1), some (.aload_n 0, 1), some (.getfield 44, 3), none, none, some (.iload_n 1, 1), some (.iconst 2, 1), some (.iadd, 1), some (.iaload, 1), some (.invokevirtual 250, 3), none, none, some (.ireturn, 1), none, none, none]]
def kx_m180 : kx_R := (⟨"KiteWarModel", "carries", "(I)I"⟩, prog_13_method_69_code, 2, Option.some Jvm.ClassFile.FieldType.int, kx_t180, 12, 11, 266, [])
/-- KiteWarModel.tell(I)I -/
def kx_t181 : List (List (Option kx_I)) := [[some (.iload_n 1, 1), some (.iconst 0, 1), some (.bipush 6, 2), none, some (.invokestatic 65, 3), none, none, some (.ifCond .ne 6, 3), none, none, some (.bipush (-11), 2), none, some (.ireturn, 1), some (.aload_n 0, 1), some (.iconst 0, 1), some (.putfield 259, 3)],
  [none, none, some (.iconst 0, 1), some (.istore_n 2, 1), some (.iload_n 2, 1), some (.iload_n 1, 1), some (.invokestatic 69, 3), none, none, some (.if_icmp .ge 93, 3), none, none, some (.iload_n 1, 1), some (.invokestatic 73, 3), none, none],
  [some (.iload_n 2, 1), some (.iadd, 1), some (.istore_n 3, 1), some (.iload_n 2, 1), some (.ifCond .le 9, 3), none, none, some (.aload_n 0, 1), some (.bipush 32, 2), none, some (.invokevirtual 262, 3), none, none, some (.aload_n 0, 1), some (.iload_n 3, 1), some (.invokevirtual 105, 3)],
  [none, none, some (.ifCond .lt 23, 3), none, none, some (.aload_n 0, 1), some (.bipush 65, 2), none, some (.aload_n 0, 1), some (.aload_n 0, 1), some (.iload_n 3, 1), some (.invokevirtual 105, 3), none, none, some (.iconst 0, 1), some (.invokevirtual 102, 3)],
  [none, none, some (.iadd, 1), some (.invokevirtual 262, 3), none, none, some (.goto 42, 3), none, none, some (.aload_n 0, 1), some (.iload_n 3, 1), some (.invokevirtual 265, 3), none, none, some (.ifCond .lt 15, 3), none],
  [none, some (.aload_n 0, 1), some (.aload_n 0, 1), some (.iload_n 3, 1), some (.invokevirtual 265, 3), none, none, some (.invokevirtual 268, 3), none, none, some (.goto 22, 3), none, none, some (.aload_n 0, 1), some (.aload_n 0, 1), some (.iload_n 3, 1)],
  [some (.invokevirtual 271, 3), none, none, some (.ifCond .eq 8, 3), none, none, some (.bipush 43, 2), none, some (.goto 5, 3), none, none, some (.bipush 46, 2), none, some (.invokevirtual 262, 3), none, none],
  [some (.iinc 2 1, 3), none, none, some (.goto (-95), 3), none, none, some (.aload_n 0, 1), some (.getfield 259, 3), none, none, some (.ireturn, 1), none, none, none, none, none]]
def kx_m181 : kx_R := (⟨"KiteWarModel", "tell", "(I)I"⟩, prog_13_method_76_code, 4, Option.some Jvm.ClassFile.FieldType.int, kx_t181, 12, 8, 199, [])
/-- KiteWarModel.writes(I)V -/
def kx_t182 : List (List (Option kx_I)) := [[some (.aload_n 0, 1), some (.getfield 28, 3), none, none, some (.aload_n 0, 1), some (.getfield 259, 3), none, none, some (.iload_n 1, 1), some (.i2c, 1), some (.castore, 1), some (.aload_n 0, 1), some (.dup, 1), some (.getfield 259, 3), none, none],
  [some (.iconst 1, 1), some (.iadd, 1), some (.putfield 259, 3), none, none, some (.return_, 1), none, none, none, none, none, none, none, none, none, none]]
def kx_m182 : kx_R := (⟨"KiteWarModel", "writes", "(I)V"⟩, prog_13_method_71_code, 2, Option.none, kx_t182, 12, 1, 40, [])
/-- KiteWarModel.lowestAt(I)I -/
def kx_t183 : List (List (Option kx_I)) := [[some (.iconst 0, 1), some (.istore_n 2, 1), some (.iload_n 2, 1), some (.aload_n 0, 1), some (.getfield 7, 3), none, none, some (.iconst 2, 1), some (.iaload, 1), some (.if_icmp .ge 41, 3), none, none, some (.aload_n 0, 1), some (.iload_n 2, 1), some (.iconst 1, 1), some (.invokevirtual 99, 3)],
  [none, none, some (.iconst 1, 1), some (.if_icmp .eq 13, 3), none, none, some (.aload_n 0, 1), some (.iload_n 2, 1), some (.iconst 1, 1), some (.invokevirtual 99, 3), none, none, some (.iconst 2, 1), some (.if_icmp .ne 15, 3), none, none],
  [some (.aload_n 0, 1), some (.iload_n 2, 1), some (.iconst 4, 1), some (.invokevirtual 99, 3), none, none, some (.iload_n 1, 1), some (.if_icmp .ne 5, 3), none, none, some (.iload_n 2, 1), some (.ireturn, 1), some (.iinc 2 1, 3), none, none, some (.goto (-45), 3)],
  [none, none, some (.iconst (-1), 1), some (.ireturn, 1), none, none, none, none, none, none, none, none, none, none, none, none]]
def kx_m183 : kx_R := (⟨"KiteWarModel", "lowestAt", "(I)I"⟩, prog_13_method_74_code, 3, Option.some Jvm.ClassFile.FieldType.int, kx_t183, 12, 2, 62, [])
/-- KiteWarModel.writesNumber(I)V -/
def kx_t184 : List (List (Option kx_I)) := [[some (.iload_n 1, 1), some (.bipush 9, 2), none, some (.if_icmp .le 14, 3), none, none, some (.aload_n 0, 1), some (.bipush 48, 2), none, some (.iload_n 1, 1), some (.bipush 10, 2), none, some (.idiv, 1), some (.iadd, 1), some (.invokevirtual 262, 3), none],
  [none, some (.aload_n 0, 1), some (.bipush 48, 2), none, some (.iload_n 1, 1), some (.bipush 10, 2), none, some (.irem, 1), some (.iadd, 1), some (.invokevirtual 262, 3), none, none, some (.return_, 1), none, none, none]]
def kx_m184 : kx_R := (⟨"KiteWarModel", "writesNumber", "(I)V"⟩, prog_13_method_72_code, 2, Option.none, kx_t184, 12, 2, 61, [])
/-- KiteWarModel.isCovered(I)Z -/
def kx_t185 : List (List (Option kx_I)) := [[some (.iconst 0, 1), some (.istore_n 2, 1), some (.iload_n 2, 1), some (.aload_n 0, 1), some (.getfield 7, 3), none, none, some (.iconst 2, 1), some (.iaload, 1), some (.if_icmp .ge 20, 3), none, none, some (.aload_n 0, 1), some (.iload_n 2, 1), some (.iload_n 1, 1), some (.invokevirtual 158, 3)],
  [none, none, some (.ifCond .eq 5, 3), none, none, some (.iconst 1, 1), some (.ireturn, 1), some (.iinc 2 1, 3), none, none, some (.goto (-24), 3), none, none, some (.iconst 0, 1), some (.ireturn, 1), none]]
def kx_m185 : kx_R := (⟨"KiteWarModel", "isCovered", "(I)Z"⟩, prog_13_method_75_code, 3, Option.some Jvm.ClassFile.FieldType.boolean, kx_t185, 12, 7, 177, [])
/-- KiteWarModel.tellKite(I)I -/
def kx_t186 : List (List (Option kx_I)) := [[some (.aload_n 0, 1), some (.iload_n 1, 1), some (.invokevirtual 139, 3), none, none, some (.ifCond .ne 6, 3), none, none, some (.bipush (-11), 2), none, some (.ireturn, 1), some (.aload_n 0, 1), some (.iconst 0, 1), some (.putfield 259, 3), none, none],
  [some (.aload_n 0, 1), some (.bipush 107, 2), none, some (.invokevirtual 262, 3), none, none, some (.aload_n 0, 1), some (.iload_n 1, 1), some (.invokevirtual 268, 3), none, none, some (.aload_n 0, 1), some (.iload_n 1, 1), some (.iconst 1, 1), some (.invokevirtual 99, 3), none],
  [none, some (.tableswitch 93 0 2 #[27, 37, 73], 27), none, none, none, none, none, none, none, none, none, none, none, none, none, none],
  [none, none, none, none, none, none, none, none, none, none, none, none, some (.aload_n 0, 1), some (.ldc_w 274, 3), none, none],
  [some (.invokevirtual 276, 3), none, none, some (.goto 71, 3), none, none, some (.aload_n 0, 1), some (.ldc_w 280, 3), none, none, some (.invokevirtual 276, 3), none, none, some (.aload_n 0, 1), some (.aload_n 0, 1), some (.iload_n 1, 1)],
  [some (.iconst 2, 1), some (.invokevirtual 99, 3), none, none, some (.invokevirtual 268, 3), none, none, some (.aload_n 0, 1), some (.bipush 120, 2), none, some (.invokevirtual 262, 3), none, none, some (.aload_n 0, 1), some (.aload_n 0, 1), some (.iload_n 1, 1)],
  [some (.iconst 3, 1), some (.invokevirtual 99, 3), none, none, some (.invokevirtual 268, 3), none, none, some (.goto 35, 3), none, none, some (.aload_n 0, 1), some (.ldc_w 282, 3), none, none, some (.invokevirtual 276, 3), none],
  [none, some (.aload_n 0, 1), some (.aload_n 0, 1), some (.iload_n 1, 1), some (.iconst 4, 1), some (.invokevirtual 99, 3), none, none, some (.invokevirtual 268, 3), none, none, some (.goto 15, 3), none, none, some (.aload_n 0, 1), some (.ldc_w 284, 3)],
  [none, none, some (.invokevirtual 276, 3), none, none, some (.aload_n 0, 1), some (.getfield 259, 3), none, none, some (.ireturn, 1), some (.aload_n 0, 1), some (.ldc_w 286, 3), none, none, some (.invokevirtual 276, 3), none],
  [none, some (.aload_n 0, 1), some (.aload_n 0, 1), some (.iload_n 1, 1), some (.iconst 5, 1), some (.invokevirtual 99, 3), none, none, some (.invokevirtual 268, 3), none, none, some (.aload_n 0, 1), some (.getfield 259, 3), none, none, some (.ireturn, 1)]]
def kx_m186 : kx_R := (⟨"KiteWarModel", "tellKite", "(I)I"⟩, prog_13_method_77_code, 2, Option.some Jvm.ClassFile.FieldType.int, kx_t186, 12, 6, 147, [])
/-- KiteWarModel.writesText(Ljava/lang/String;)V -/
def kx_t187 : List (List (Option kx_I)) := [[some (.iconst 0, 1), some (.istore_n 2, 1), some (.iload_n 2, 1), some (.aload_n 1, 1), some (.invokevirtual 202, 3), none, none, some (.if_icmp .ge 18, 3), none, none, some (.aload_n 0, 1), some (.aload_n 1, 1), some (.iload_n 2, 1), some (.invokevirtual 206, 3), none, none],
  [some (.invokevirtual 262, 3), none, none, some (.iinc 2 1, 3), none, none, some (.goto (-20), 3), none, none, some (.return_, 1), none, none, none, none, none, none]]
def kx_m187 : kx_R := (⟨"KiteWarModel", "writesText", "(Ljava/lang/String;)V"⟩, prog_13_method_73_code, 3, Option.none, kx_t187, 12, 5, 125, [])
/-- KiteWarModel.character(I)I -/
def kx_t188 : List (List (Option kx_I)) := [[some (.iload_n 1, 1), some (.iconst 0, 1), some (.aload_n 0, 1), some (.getfield 259, 3), none, none, some (.iconst 1, 1), some (.isub, 1), some (.invokestatic 65, 3), none, none, some (.ifCond .eq 12, 3), none, none, some (.aload_n 0, 1), some (.getfield 28, 3)],
  [none, none, some (.iload_n 1, 1), some (.caload, 1), some (.goto 5, 3), none, none, some (.bipush (-11), 2), none, some (.ireturn, 1), none, none, none, none, none, none]]
def kx_m188 : kx_R := (⟨"KiteWarModel", "character", "(I)I"⟩, prog_13_method_78_code, 2, Option.some Jvm.ClassFile.FieldType.int, kx_t188, 12, 2, 62, [])
/-- KiteWarModel.reason(Z)I -/
def kx_t189 : List (List (Option kx_I)) := [[some (.aload_n 0, 1), some (.getfield 47, 3), none, none, some (.ifCond .ne 8, 3), none, none, some (.bipush (-15), 2), none, some (.goto 18, 3), none, none, some (.iload_n 1, 1), some (.ifCond .eq 10, 3), none, none],
  [some (.aload_n 0, 1), some (.getfield 51, 3), none, none, some (.goto 7, 3), none, none, some (.aload_n 0, 1), some (.getfield 47, 3), none, none, some (.ireturn, 1), none, none, none, none]]
def kx_m189 : kx_R := (⟨"KiteWarModel", "reason", "(Z)I"⟩, prog_13_method_79_code, 2, Option.some Jvm.ClassFile.FieldType.int, kx_t189, 12, 1, 40, [])
/-- KiteWarModel.account(I)I -/
def kx_t190 : List (List (Option kx_I)) := [[some (.iload_n 1, 1), some (.tableswitch 209 0 17 #[87, 94, 101, 108, 114, 120, 126, 132, 138, 145, 152, 159, 167, 175, 183, 191, 199, 204], 87), none, none, none, none, none, none, none, none, none, none, none, none, none, none],
  [none, none, none, none, none, none, none, none, none, none, none, none, none, none, none, none],
  [none, none, none, none, none, none, none, none, none, none, none, none, none, none, none, none],
  [none, none, none, none, none, none, none, none, none, none, none, none, none, none, none, none],
  [none, none, none, none, none, none, none, none, none, none, none, none, none, none, none, none],
  [none, none, none, none, none, none, none, none, some (.aload_n 0, 1), some (.getfield 7, 3), none, none, some (.iconst 0, 1), some (.iaload, 1), some (.ireturn, 1), some (.aload_n 0, 1)],
  [some (.getfield 7, 3), none, none, some (.iconst 1, 1), some (.iaload, 1), some (.ireturn, 1), some (.aload_n 0, 1), some (.getfield 7, 3), none, none, some (.iconst 2, 1), some (.iaload, 1), some (.ireturn, 1), some (.aload_n 0, 1), some (.iconst 0, 1), some (.invokevirtual 288, 3)],
  [none, none, some (.ireturn, 1), some (.aload_n 0, 1), some (.iconst 1, 1), some (.invokevirtual 288, 3), none, none, some (.ireturn, 1), some (.aload_n 0, 1), some (.iconst 2, 1), some (.invokevirtual 288, 3), none, none, some (.ireturn, 1), some (.aload_n 0, 1)],
  [some (.iconst 3, 1), some (.invokevirtual 288, 3), none, none, some (.ireturn, 1), some (.aload_n 0, 1), some (.iconst (-1), 1), some (.invokevirtual 145, 3), none, none, some (.ireturn, 1), some (.aload_n 0, 1), some (.getfield 7, 3), none, none, some (.iconst 3, 1)],
  [some (.iaload, 1), some (.ireturn, 1), some (.aload_n 0, 1), some (.getfield 7, 3), none, none, some (.iconst 4, 1), some (.iaload, 1), some (.ireturn, 1), some (.aload_n 0, 1), some (.getfield 7, 3), none, none, some (.iconst 5, 1), some (.iaload, 1), some (.ireturn, 1)],
  [some (.aload_n 0, 1), some (.getfield 7, 3), none, none, some (.bipush 6, 2), none, some (.iaload, 1), some (.ireturn, 1), some (.aload_n 0, 1), some (.getfield 7, 3), none, none, some (.bipush 7, 2), none, some (.iaload, 1), some (.ireturn, 1)],
  [some (.aload_n 0, 1), some (.getfield 7, 3), none, none, some (.bipush 8, 2), none, some (.iaload, 1), some (.ireturn, 1), some (.aload_n 0, 1), some (.getfield 7, 3), none, none, some (.bipush 9, 2), none, some (.iaload, 1), some (.ireturn, 1)],
  [some (.aload_n 0, 1), some (.getfield 7, 3), none, none, some (.bipush 10, 2), none, some (.iaload, 1), some (.ireturn, 1), some (.aload_n 0, 1), some (.getfield 192, 3), none, none, some (.ireturn, 1), some (.aload_n 0, 1), some (.getfield 58, 3), none],
  [none, some (.ireturn, 1), some (.bipush (-12), 2), none, some (.ireturn, 1), none, none, none, none, none, none, none, none, none, none, none]]
def kx_m190 : kx_R := (⟨"KiteWarModel", "account", "(I)I"⟩, prog_13_method_81_code, 2, Option.some Jvm.ClassFile.FieldType.int, kx_t190, 12, 4, 106, [])
/-- KiteWarModel.many(I)I -/
def kx_t191 : List (List (Option kx_I)) := [[some (.iconst 0, 1), some (.istore_n 2, 1), some (.iconst 0, 1), some (.istore_n 3, 1), some (.iload_n 3, 1), some (.aload_n 0, 1), some (.getfield 7, 3), none, none, some (.iconst 2, 1), some (.iaload, 1), some (.if_icmp .ge 27, 3), none, none, some (.iload_n 2, 1), some (.aload_n 0, 1)],
  [some (.iload_n 3, 1), some (.iconst 1, 1), some (.invokevirtual 99, 3), none, none, some (.iload_n 1, 1), some (.if_icmp .ne 7, 3), none, none, some (.iconst 1, 1), some (.goto 4, 3), none, none, some (.iconst 0, 1), some (.iadd, 1), some (.istore_n 2, 1)],
  [some (.iinc 3 1, 3), none, none, some (.goto (-31), 3), none, none, some (.iload_n 2, 1), some (.ireturn, 1), none, none, none, none, none, none, none, none]]
def kx_m191 : kx_R := (⟨"KiteWarModel", "many", "(I)I"⟩, prog_13_method_80_code, 4, Option.some Jvm.ClassFile.FieldType.int, kx_t191, 12, 2, 62, [])
/-- KiteWarModel.isBalanced()I -/
def kx_t192 : List (List (Option kx_I)) := [[some (.iconst 0, 1), some (.istore_n 1, 1), some (.iload_n 1, 1), some (.aload_n 0, 1), some (.getfield 7, 3), none, none, some (.iconst 2, 1), some (.iaload, 1), some (.if_icmp .ge 101, 3), none, none, some (.aload_n 0, 1), some (.iload_n 1, 1), some (.iconst 1, 1), some (.invokevirtual 99, 3)],
  [none, none, some (.iconst 1, 1), some (.if_icmp .ne 7, 3), none, none, some (.iconst 1, 1), some (.goto 4, 3), none, none, some (.iconst 0, 1), some (.istore_n 2, 1), some (.iload_n 2, 1), some (.ifCond .eq 64, 3), none, none],
  [some (.aload_n 0, 1), some (.iload_n 1, 1), some (.iconst 3, 1), some (.invokevirtual 99, 3), none, none, some (.iconst 1, 1), some (.aload_n 0, 1), some (.aload_n 0, 1), some (.iload_n 1, 1), some (.iconst 0, 1), some (.invokevirtual 99, 3), none, none, some (.iconst 2, 1), some (.invokevirtual 102, 3)],
  [none, none, some (.invokestatic 65, 3), none, none, some (.ifCond .eq 38, 3), none, none, some (.aload_n 0, 1), some (.aload_n 0, 1), some (.iload_n 1, 1), some (.iconst 0, 1), some (.invokevirtual 99, 3), none, none, some (.iconst 1, 1)],
  [some (.invokevirtual 102, 3), none, none, some (.aload_n 0, 1), some (.iload_n 1, 1), some (.iconst 2, 1), some (.invokevirtual 99, 3), none, none, some (.aload_n 0, 1), some (.iload_n 1, 1), some (.iconst 3, 1), some (.invokevirtual 99, 3), none, none, some (.invokestatic 148, 3)],
  [none, none, some (.aload_n 0, 1), some (.iload_n 1, 1), some (.iconst 4, 1), some (.invokevirtual 99, 3), none, none, some (.if_icmp .eq 5, 3), none, none, some (.iconst 0, 1), some (.ireturn, 1), some (.aload_n 0, 1), some (.iload_n 1, 1), some (.iconst 5, 1)],
  [some (.invokevirtual 99, 3), none, none, some (.ifCond .ge 5, 3), none, none, some (.iconst 0, 1), some (.ireturn, 1), some (.iinc 1 1, 3), none, none, some (.goto (-105), 3), none, none, some (.aload_n 0, 1), some (.getfield 7, 3)],
  [none, none, some (.bipush 6, 2), none, some (.iaload, 1), some (.aload_n 0, 1), some (.iconst 2, 1), some (.invokevirtual 288, 3), none, none, some (.aload_n 0, 1), some (.iconst 3, 1), some (.invokevirtual 288, 3), none, none, some (.iadd, 1)],
  [some (.aload_n 0, 1), some (.getfield 7, 3), none, none, some (.bipush 8, 2), none, some (.iaload, 1), some (.iadd, 1), some (.if_icmp .ne 7, 3), none, none, some (.iconst 1, 1), some (.goto 4, 3), none, none, some (.iconst 0, 1)],
  [some (.ireturn, 1), none, none, none, none, none, none, none, none, none, none, none, none, none, none, none]]
def kx_m192 : kx_R := (⟨"KiteWarModel", "isBalanced", "()I"⟩, prog_13_method_82_code, 3, Option.some Jvm.ClassFile.FieldType.int, kx_t192, 12, 6, 154, [])
/-- KiteWarModel.meanStrength()D -/
def kx_t193 : List (List (Option kx_I)) := [[some (.iconst 0, 1), some (.istore_n 1, 1), some (.aload_n 0, 1), some (.getfield 7, 3), none, none, some (.iconst 2, 1), some (.iaload, 1), some (.aload_n 0, 1), some (.iconst 3, 1), some (.invokevirtual 288, 3), none, none, some (.isub, 1), some (.istore_n 2, 1), some (.iconst 0, 1)],
  [some (.istore_n 3, 1), some (.iload_n 3, 1), some (.aload_n 0, 1), some (.getfield 7, 3), none, none, some (.iconst 2, 1), some (.iaload, 1), some (.if_icmp .ge 32, 3), none, none, some (.iload_n 1, 1), some (.aload_n 0, 1), some (.iload_n 3, 1), some (.iconst 1, 1), some (.invokevirtual 99, 3)],
  [none, none, some (.iconst 3, 1), some (.if_icmp .ne 7, 3), none, none, some (.iconst 0, 1), some (.goto 9, 3), none, none, some (.aload_n 0, 1), some (.iload_n 3, 1), some (.iconst 5, 1), some (.invokevirtual 99, 3), none, none],
  [some (.iadd, 1), some (.istore_n 1, 1), some (.iinc 3 1, 3), none, none, some (.goto (-36), 3), none, none, some (.iload_n 2, 1), some (.ifCond .ne 7, 3), none, none, some (.dconst 0, 1), some (.goto 8, 3), none, none],
  [some (.iload_n 1, 1), some (.i2d, 1), some (.iload_n 2, 1), some (.i2d, 1), some (.ddiv, 1), some (.dreturn, 1), none, none, none, none, none, none, none, none, none, none]]
def kx_m193 : kx_R := (⟨"KiteWarModel", "meanStrength", "()D"⟩, prog_13_method_83_code, 4, Option.some Jvm.ClassFile.FieldType.double, kx_t193, 12, 3, 85, [])
/-- KiteWarModel.lostShare()F -/
def kx_t194 : List (List (Option kx_I)) := [[some (.aload_n 0, 1), some (.getfield 7, 3), none, none, some (.iconst 2, 1), some (.iaload, 1), some (.ifCond .ne 7, 3), none, none, some (.fconst 0, 1), some (.goto 17, 3), none, none, some (.aload_n 0, 1), some (.iconst 3, 1), some (.invokevirtual 288, 3)],
  [none, none, some (.i2f, 1), some (.aload_n 0, 1), some (.getfield 7, 3), none, none, some (.iconst 2, 1), some (.iaload, 1), some (.i2f, 1), some (.fdiv, 1), some (.freturn, 1), none, none, none, none]]
def kx_m194 : kx_R := (⟨"KiteWarModel", "lostShare", "()F"⟩, prog_13_method_84_code, 1, Option.some Jvm.ClassFile.FieldType.float, kx_t194, 12, 3, 85, [])
/-- KiteWarModel.undo()I -/
def kx_t195 : List (List (Option kx_I)) := [[some (.aload_n 0, 1), some (.getfield 58, 3), none, none, some (.ifCond .ne 6, 3), none, none, some (.bipush (-15), 2), none, some (.ireturn, 1), some (.aload_n 0, 1), some (.dup, 1), some (.getfield 58, 3), none, none, some (.iconst 1, 1)],
  [some (.isub, 1), some (.putfield 58, 3), none, none, some (.aload_n 0, 1), some (.getfield 13, 3), none, none, some (.sipush 167, 3), none, none, some (.aload_n 0, 1), some (.getfield 58, 3), none, none, some (.imul, 1)],
  [some (.aload_n 0, 1), some (.getfield 7, 3), none, none, some (.iconst 0, 1), some (.invokestatic 61, 3), none, none, some (.aload_n 0, 1), some (.getfield 58, 3), none, none, some (.ireturn, 1), none, none, none]]
def kx_m195 : kx_R := (⟨"KiteWarModel", "undo", "()I"⟩, prog_13_method_85_code, 1, Option.some Jvm.ClassFile.FieldType.int, kx_t195, 12, 2, 64, [])
/-- KiteWarModel.save()I -/
def kx_t196 : List (List (Option kx_I)) := [[some (.aload_n 0, 1), some (.iconst 1, 1), some (.putfield 291, 3), none, none, some (.aload_n 0, 1), some (.getfield 7, 3), none, none, some (.iconst 0, 1), some (.aload_n 0, 1), some (.getfield 16, 3), none, none, some (.iconst 0, 1), some (.invokestatic 61, 3)],
  [none, none, some (.aload_n 0, 1), some (.getfield 7, 3), none, none, some (.iconst 2, 1), some (.iaload, 1), some (.ireturn, 1), none, none, none, none, none, none, none]]
def kx_m196 : kx_R := (⟨"KiteWarModel", "save", "()I"⟩, prog_13_method_86_code, 1, Option.some Jvm.ClassFile.FieldType.int, kx_t196, 12, 2, 64, [])
/-- KiteWarModel.restore()I -/
def kx_t197 : List (List (Option kx_I)) := [[some (.aload_n 0, 1), some (.getfield 291, 3), none, none, some (.ifCond .ne 6, 3), none, none, some (.bipush (-15), 2), none, some (.ireturn, 1), some (.aload_n 0, 1), some (.getfield 16, 3), none, none, some (.iconst 0, 1), some (.aload_n 0, 1)],
  [some (.getfield 7, 3), none, none, some (.iconst 0, 1), some (.invokestatic 61, 3), none, none, some (.aload_n 0, 1), some (.iconst 0, 1), some (.putfield 58, 3), none, none, some (.aload_n 0, 1), some (.getfield 7, 3), none, none],
  [some (.iconst 2, 1), some (.iaload, 1), some (.ireturn, 1), none, none, none, none, none, none, none, none, none, none, none, none, none]]
def kx_m197 : kx_R := (⟨"KiteWarModel", "restore", "()I"⟩, prog_13_method_87_code, 1, Option.some Jvm.ClassFile.FieldType.int, kx_t197, 12, 2, 64, [])
/-- java/lang/AbstractStringBuilder.<init>(I)V -/
def kx_t198 : List (List (Option kx_I)) := [[some (.aload_n 0, 1), some (.invokespecial 3, 3), none, none, some (.getstatic 18, 3), none, none, some (.ifCond .eq 18, 3), none, none, some (.aload_n 0, 1), some (.iload_n 1, 1), some (.newarray .byte, 2), none, some (.putfield 15, 3), none],
  [none, some (.aload_n 0, 1), some (.iconst 0, 1), some (.putfield 22, 3), none, none, some (.goto 16, 3), none, none, some (.aload_n 0, 1), some (.iload_n 1, 1), some (.invokestatic 26, 3), none, none, some (.putfield 15, 3), none],
  [none, some (.aload_n 0, 1), some (.iconst 1, 1), some (.putfield 22, 3), none, none, some (.return_, 1), none, none, none, none, none, none, none, none, none]]
def kx_m198 : kx_R := (⟨"java/lang/AbstractStringBuilder", "<init>", "(I)V"⟩, prog_14_method_2_code, 2, Option.none, kx_t198, 13, 1, 40, [])
/-- java/lang/AbstractStringBuilder.length()I -/
def kx_t199 : List (List (Option kx_I)) := [[some (.aload_n 0, 1), some (.getfield 79, 3), none, none, some (.ireturn, 1), none, none, none, none, none, none, none, none, none, none, none]]
def kx_m199 : kx_R := (⟨"java/lang/AbstractStringBuilder", "length", "()I"⟩, prog_14_method_6_code, 1, Option.some Jvm.ClassFile.FieldType.int, kx_t199, 13, 1, 40, [])
/-- java/lang/AbstractStringBuilder.append(C)Ljava/lang/AbstractStringBuilder; -/
def kx_t200 : List (List (Option kx_I)) := [[some (.aload_n 0, 1), some (.aload_n 0, 1), some (.getfield 79, 3), none, none, some (.iconst 1, 1), some (.iadd, 1), some (.invokevirtual 100, 3), none, none, some (.aload_n 0, 1), some (.invokevirtual 83, 3), none, none, some (.ifCond .eq 31, 3), none],
  [none, some (.iload_n 1, 1), some (.invokestatic 191, 3), none, none, some (.ifCond .eq 24, 3), none, none, some (.aload_n 0, 1), some (.getfield 15, 3), none, none, some (.aload_n 0, 1), some (.dup, 1), some (.getfield 79, 3), none],
  [none, some (.dup_x1, 1), some (.iconst 1, 1), some (.iadd, 1), some (.putfield 79, 3), none, none, some (.iload_n 1, 1), some (.i2b, 1), some (.bastore, 1), some (.goto 33, 3), none, none, some (.aload_n 0, 1), some (.invokevirtual 83, 3), none],
  [none, some (.ifCond .eq 7, 3), none, none, some (.aload_n 0, 1), some (.invokevirtual 195, 3), none, none, some (.aload_n 0, 1), some (.getfield 15, 3), none, none, some (.aload_n 0, 1), some (.dup, 1), some (.getfield 79, 3), none],
  [none, some (.dup_x1, 1), some (.iconst 1, 1), some (.iadd, 1), some (.putfield 79, 3), none, none, some (.iload_n 1, 1), some (.invokestatic 197, 3), none, none, some (.aload_n 0, 1), some (.areturn, 1), none, none, none]]
def kx_m200 : kx_R := (⟨"java/lang/AbstractStringBuilder", "append", "(C)Ljava/lang/AbstractStringBuilder;"⟩, prog_14_method_31_code, 2, Option.some (Jvm.ClassFile.FieldType.object "java/lang/AbstractStringBuilder"), kx_t200, 13, 4, 110, [])
/-- java/lang/AbstractStringBuilder.ensureCapacityInternal(I)V -/
def kx_t201 : List (List (Option kx_I)) := [[some (.aload_n 0, 1), some (.getfield 15, 3), none, none, some (.arraylength, 1), some (.aload_n 0, 1), some (.getfield 22, 3), none, none, some (.ishr, 1), some (.istore_n 2, 1), some (.iload_n 1, 1), some (.iload_n 2, 1), some (.isub, 1), some (.ifCond .le 24, 3), none],
  [none, some (.aload_n 0, 1), some (.aload_n 0, 1), some (.getfield 15, 3), none, none, some (.aload_n 0, 1), some (.iload_n 1, 1), some (.invokevirtual 104, 3), none, none, some (.aload_n 0, 1), some (.getfield 22, 3), none, none, some (.ishl, 1)],
  [some (.invokestatic 108, 3), none, none, some (.putfield 15, 3), none, none, some (.return_, 1), none, none, none, none, none, none, none, none, none]]
def kx_m201 : kx_R := (⟨"java/lang/AbstractStringBuilder", "ensureCapacityInternal", "(I)V"⟩, prog_14_method_9_code, 3, Option.none, kx_t201, 13, 3, 88, [])
/-- java/lang/AbstractStringBuilder.newCapacity(I)I -/
def kx_t202 : List (List (Option kx_I)) := [[some (.aload_n 0, 1), some (.getfield 15, 3), none, none, some (.arraylength, 1), some (.istore_n 2, 1), some (.iload_n 1, 1), some (.aload_n 0, 1), some (.getfield 22, 3), none, none, some (.ishl, 1), some (.istore_n 3, 1), some (.iload_n 3, 1), some (.iload_n 2, 1), some (.isub, 1)],
  [some (.istore 4, 2), none, some (.iload_n 2, 1), some (.iload 4, 2), none, some (.iload_n 2, 1), some (.iconst 2, 1), some (.aload_n 0, 1), some (.getfield 22, 3), none, none, some (.ishl, 1), some (.iadd, 1), some (.invokestatic 114, 3), none, none],
  [some (.istore 5, 2), none, some (.iload 5, 2), none, some (.ldc 39, 2), none, some (.if_icmp .ne 13, 3), none, none, some (.new 120, 3), none, none, some (.dup, 1), some (.ldc 122, 2), none, some (.invokespecial 124, 3)],
  [none, none, none, some (.iload 5, 2), none, some (.aload_n 0, 1), some (.getfield 22, 3), none, none, some (.ishr, 1), some (.ireturn, 1), none, none, none, none, none]]
def kx_m202 : kx_R := (⟨"java/lang/AbstractStringBuilder", "newCapacity", "(I)I"⟩, prog_14_method_10_code, 6, Option.some Jvm.ClassFile.FieldType.int, kx_t202, 13, 2, 63, [])
/-- java/lang/AbstractStringBuilder.isLatin1()Z -/
def kx_t203 : List (List (Option kx_I)) := [[some (.getstatic 18, 3), none, none, some (.ifCond .eq 14, 3), none, none, some (.aload_n 0, 1), some (.getfield 22, 3), none, none, some (.ifCond .ne 7, 3), none, none, some (.iconst 1, 1), some (.goto 4, 3), none],
  [none, some (.iconst 0, 1), some (.ireturn, 1), none, none, none, none, none, none, none, none, none, none, none, none, none]]
def kx_m203 : kx_R := (⟨"java/lang/AbstractStringBuilder", "isLatin1", "()Z"⟩, prog_14_method_68_code, 1, Option.some Jvm.ClassFile.FieldType.boolean, kx_t203, 13, 1, 40, [])
/-- java/lang/AbstractStringBuilder.charAt(I)C -/
def kx_t204 : List (List (Option kx_I)) := [[some (.aload_n 0, 1), some (.getfield 22, 3), none, none, some (.istore_n 2, 1), some (.aload_n 0, 1), some (.getfield 15, 3), none, none, some (.astore_n 3, 1), some (.aload_n 0, 1), some (.getfield 79, 3), none, none, some (.aload_n 3, 1), some (.arraylength, 1)],
  [some (.iload_n 2, 1), some (.ishr, 1), some (.invokestatic 138, 3), none, none, some (.istore 4, 2), none, some (.iload_n 1, 1), some (.iload 4, 2), none, some (.invokestatic 144, 3), none, none, some (.iload_n 2, 1), some (.ifCond .ne 12, 3), none],
  [none, some (.aload_n 3, 1), some (.iload_n 1, 1), some (.baload, 1), some (.sipush 255, 3), none, none, some (.iand, 1), some (.i2c, 1), some (.ireturn, 1), some (.aload_n 3, 1), some (.iload_n 1, 1), some (.invokestatic 148, 3), none, none, some (.ireturn, 1)]]
def kx_m204 : kx_R := (⟨"java/lang/AbstractStringBuilder", "charAt", "(I)C"⟩, prog_14_method_14_code, 5, Option.some Jvm.ClassFile.FieldType.char, kx_t204, 13, 3, 83, [])
/-- java/lang/AbstractStringBuilder.setLength(I)V -/
def kx_t205 : List (List (Option kx_I)) := [[some (.iload_n 1, 1), some (.ifCond .ge 12, 3), none, none, some (.new 129, 3), none, none, some (.dup, 1), some (.iload_n 1, 1), some (.invokespecial 131, 3), none, none, none, some (.aload_n 0, 1), some (.iload_n 1, 1), some (.invokevirtual 100, 3)],
  [none, none, some (.aload_n 0, 1), some (.getfield 79, 3), none, none, some (.iload_n 1, 1), some (.if_icmp .ge 40, 3), none, none, some (.aload_n 0, 1), some (.invokevirtual 83, 3), none, none, some (.ifCond .eq 18, 3), none],
  [none, some (.aload_n 0, 1), some (.getfield 15, 3), none, none, some (.aload_n 0, 1), some (.getfield 79, 3), none, none, some (.iload_n 1, 1), some (.invokestatic 133, 3), none, none, some (.goto 31, 3), none, none],
  [some (.aload_n 0, 1), some (.getfield 15, 3), none, none, some (.aload_n 0, 1), some (.getfield 79, 3), none, none, some (.iload_n 1, 1), some (.invokestatic 137, 3), none, none, some (.goto 16, 3), none, none, some (.aload_n 0, 1)],
  [some (.getfield 79, 3), none, none, some (.iload_n 1, 1), some (.if_icmp .le 8, 3), none, none, some (.aload_n 0, 1), some (.iconst 1, 1), some (.putfield 73, 3), none, none, some (.aload_n 0, 1), some (.iload_n 1, 1), some (.putfield 79, 3), none],
  [none, some (.return_, 1), none, none, none, none, none, none, none, none, none, none, none, none, none, none]]
def kx_m205 : kx_R := (⟨"java/lang/AbstractStringBuilder", "setLength", "(I)V"⟩, prog_14_method_13_code, 2, Option.none, kx_t205, 13, 4, 110, [])
/-- java/lang/AbstractStringBuilder.append(I)Ljava/lang/AbstractStringBuilder; -/
def kx_t206 : List (List (Option kx_I)) := [[some (.aload_n 0, 1), some (.getfield 79, 3), none, none, some (.istore_n 2, 1), some (.iload_n 2, 1), some (.iload_n 1, 1), some (.invokestatic 245, 3), none, none, some (.iadd, 1), some (.istore_n 3, 1), some (.aload_n 0, 1), some (.iload_n 3, 1), some (.invokevirtual 100, 3), none],
  [none, some (.aload_n 0, 1), some (.invokevirtual 83, 3), none, none, some (.ifCond .eq 16, 3), none, none, some (.iload_n 1, 1), some (.iload_n 3, 1), some (.aload_n 0, 1), some (.getfield 15, 3), none, none, some (.invokestatic 248, 3), none],
  [none, some (.pop, 1), some (.goto 14, 3), none, none, some (.iload_n 1, 1), some (.iload_n 2, 1), some (.iload_n 3, 1), some (.aload_n 0, 1), some (.getfield 15, 3), none, none, some (.invokestatic 251, 3), none, none, some (.pop, 1)],
  [some (.aload_n 0, 1), some (.iload_n 3, 1), some (.putfield 79, 3), none, none, some (.aload_n 0, 1), some (.areturn, 1), none, none, none, none, none, none, none, none, none]]
def kx_m206 : kx_R := (⟨"java/lang/AbstractStringBuilder", "append", "(I)Ljava/lang/AbstractStringBuilder;"⟩, prog_14_method_32_code, 4, Option.some (Jvm.ClassFile.FieldType.object "java/lang/AbstractStringBuilder"), kx_t206, 13, 4, 110, [])
/-- java/lang/AbstractStringBuilder.append(Ljava/lang/String;)Ljava/lang/AbstractStringBuilder; -/
def kx_t207 : List (List (Option kx_I)) := [[some (.aload_n 1, 1), some (.ifnonnull 8, 3), none, none, some (.aload_n 0, 1), some (.invokevirtual 204, 3), none, none, some (.areturn, 1), some (.aload_n 1, 1), some (.invokevirtual 32, 3), none, none, some (.istore_n 2, 1), some (.aload_n 0, 1), some (.aload_n 0, 1)],
  [some (.getfield 79, 3), none, none, some (.iload_n 2, 1), some (.iadd, 1), some (.invokevirtual 100, 3), none, none, some (.aload_n 0, 1), some (.aload_n 0, 1), some (.getfield 79, 3), none, none, some (.aload_n 1, 1), some (.invokevirtual 208, 3), none],
  [none, some (.aload_n 0, 1), some (.dup, 1), some (.getfield 79, 3), none, none, some (.iload_n 2, 1), some (.iadd, 1), some (.putfield 79, 3), none, none, some (.aload_n 0, 1), some (.areturn, 1), none, none, none]]
def kx_m207 : kx_R := (⟨"java/lang/AbstractStringBuilder", "append", "(Ljava/lang/String;)Ljava/lang/AbstractStringBuilder;"⟩, prog_14_method_22_code, 3, Option.some (Jvm.ClassFile.FieldType.object "java/lang/AbstractStringBuilder"), kx_t207, 13, 4, 110, [])
/-- java/lang/AbstractStringBuilder.putStringAt(ILjava/lang/String;)V -/
def kx_t208 : List (List (Option kx_I)) := [[some (.aload_n 0, 1), some (.aload_n 2, 1), some (.invokevirtual 397, 3), none, none, some (.aload_n 2, 1), some (.aload_n 0, 1), some (.getfield 15, 3), none, none, some (.iload_n 1, 1), some (.aload_n 0, 1), some (.getfield 22, 3), none, none, some (.invokevirtual 399, 3)],
  [none, none, some (.return_, 1), none, none, none, none, none, none, none, none, none, none, none, none, none]]
def kx_m208 : kx_R := (⟨"java/lang/AbstractStringBuilder", "putStringAt", "(ILjava/lang/String;)V"⟩, prog_14_method_73_code, 3, Option.none, kx_t208, 13, 3, 83, [])
/-- java/lang/AbstractStringBuilder.inflateIfNeededFor(Ljava/lang/String;)V -/
def kx_t209 : List (List (Option kx_I)) := [[some (.getstatic 18, 3), none, none, some (.ifCond .eq 18, 3), none, none, some (.aload_n 0, 1), some (.getfield 22, 3), none, none, some (.aload_n 1, 1), some (.invokevirtual 40, 3), none, none, some (.if_icmp .eq 7, 3), none],
  [none, some (.aload_n 0, 1), some (.invokevirtual 195, 3), none, none, some (.return_, 1), none, none, none, none, none, none, none, none, none, none]]
def kx_m209 : kx_R := (⟨"java/lang/AbstractStringBuilder", "inflateIfNeededFor", "(Ljava/lang/String;)V"⟩, prog_14_method_71_code, 2, Option.none, kx_t209, 13, 2, 60, [])
/-- java/lang/Integer.stringSize(I)I -/
def kx_t210 : List (List (Option kx_I)) := [[some (.iconst 1, 1), some (.istore_n 1, 1), some (.iload_n 0, 1), some (.ifCond .lt 8, 3), none, none, some (.iconst 0, 1), some (.istore_n 1, 1), some (.iload_n 0, 1), some (.ineg, 1), some (.istore_n 0, 1), some (.bipush (-10), 2), none, some (.istore_n 2, 1), some (.iconst 1, 1), some (.istore_n 3, 1)],
  [some (.iload_n 3, 1), some (.bipush 10, 2), none, some (.if_icmp .ge 23, 3), none, none, some (.iload_n 0, 1), some (.iload_n 2, 1), some (.if_icmp .le 7, 3), none, none, some (.iload_n 3, 1), some (.iload_n 1, 1), some (.iadd, 1), some (.ireturn, 1), some (.bipush 10, 2)],
  [none, some (.iload_n 2, 1), some (.imul, 1), some (.istore_n 2, 1), some (.iinc 3 1, 3), none, none, some (.goto (-23), 3), none, none, some (.bipush 10, 2), none, some (.iload_n 1, 1), some (.iadd, 1), some (.ireturn, 1), none]]
def kx_m210 : kx_R := (⟨"java/lang/Integer", "stringSize", "(I)I"⟩, prog_16_method_13_code, 4, Option.some Jvm.ClassFile.FieldType.int, kx_t210, 14, 1, 40, [])
/-- java/lang/Integer.getChars(II[B)I -/
def kx_t211 : List (List (Option kx_I)) := [[some (.iload_n 1, 1), some (.istore 5, 2), none, some (.iload_n 0, 1), some (.ifCond .ge 7, 3), none, none, some (.iconst 1, 1), some (.goto 4, 3), none, none, some (.iconst 0, 1), some (.istore 6, 2), none, some (.iload 6, 2), none],
  [some (.ifCond .ne 6, 3), none, none, some (.iload_n 0, 1), some (.ineg, 1), some (.istore_n 0, 1), some (.iload_n 0, 1), some (.bipush (-100), 2), none, some (.if_icmp .gt 47, 3), none, none, some (.iload_n 0, 1), some (.bipush 100, 2), none, some (.idiv, 1)],
  [some (.istore_n 3, 1), some (.iload_n 3, 1), some (.bipush 100, 2), none, some (.imul, 1), some (.iload_n 0, 1), some (.isub, 1), some (.istore 4, 2), none, some (.iload_n 3, 1), some (.istore_n 0, 1), some (.aload_n 2, 1), some (.iinc 5 (-1), 3), none, none, some (.iload 5, 2)],
  [none, some (.getstatic 83, 3), none, none, some (.iload 4, 2), none, some (.baload, 1), some (.bastore, 1), some (.aload_n 2, 1), some (.iinc 5 (-1), 3), none, none, some (.iload 5, 2), none, some (.getstatic 87, 3), none],
  [none, some (.iload 4, 2), none, some (.baload, 1), some (.bastore, 1), some (.goto (-47), 3), none, none, some (.aload_n 2, 1), some (.iinc 5 (-1), 3), none, none, some (.iload 5, 2), none, some (.getstatic 83, 3), none],
  [none, some (.iload_n 0, 1), some (.ineg, 1), some (.baload, 1), some (.bastore, 1), some (.iload_n 0, 1), some (.bipush (-9), 2), none, some (.if_icmp .ge 16, 3), none, none, some (.aload_n 2, 1), some (.iinc 5 (-1), 3), none, none, some (.iload 5, 2)],
  [none, some (.getstatic 87, 3), none, none, some (.iload_n 0, 1), some (.ineg, 1), some (.baload, 1), some (.bastore, 1), some (.iload 6, 2), none, some (.ifCond .eq 12, 3), none, none, some (.aload_n 2, 1), some (.iinc 5 (-1), 3), none],
  [none, some (.iload 5, 2), none, some (.bipush 45, 2), none, some (.bastore, 1), some (.iload 5, 2), none, some (.ireturn, 1), none, none, none, none, none, none, none]]
def kx_m211 : kx_R := (⟨"java/lang/Integer", "getChars", "(II[B)I"⟩, prog_16_method_12_code, 7, Option.some Jvm.ClassFile.FieldType.int, kx_t211, 14, 1, 40, [])
/-- java/lang/String.checkIndex(II)V -/
def kx_t212 : List (List (Option kx_I)) := [[some (.iload_n 0, 1), some (.iload_n 1, 1), some (.getstatic 1053, 3), none, none, some (.invokestatic 1059, 3), none, none, some (.pop, 1), some (.return_, 1), none, none, none, none, none, none]]
def kx_m212 : kx_R := (⟨"java/lang/String", "checkIndex", "(II)V"⟩, prog_18_method_155_code, 2, Option.none, kx_t212, 15, 2, 62, [])
/-- java/lang/String.length()I -/
def kx_t213 : List (List (Option kx_I)) := [[some (.aload_n 0, 1), some (.getfield 9, 3), none, none, some (.arraylength, 1), some (.aload_n 0, 1), some (.invokevirtual 335, 3), none, none, some (.ishr, 1), some (.ireturn, 1), none, none, none, none, none]]
def kx_m213 : kx_R := (⟨"java/lang/String", "length", "()I"⟩, prog_18_method_54_code, 1, Option.some Jvm.ClassFile.FieldType.int, kx_t213, 15, 2, 60, [])
/-- java/lang/String.coder()B -/
def kx_t214 : List (List (Option kx_I)) := [[some (.getstatic 38, 3), none, none, some (.ifCond .eq 10, 3), none, none, some (.aload_n 0, 1), some (.getfield 15, 3), none, none, some (.goto 4, 3), none, none, some (.iconst 1, 1), some (.ireturn, 1), none]]
def kx_m214 : kx_R := (⟨"java/lang/String", "coder", "()B"⟩, prog_18_method_152_code, 1, Option.some Jvm.ClassFile.FieldType.byte, kx_t214, 15, 1, 40, [])
/-- java/lang/String.charAt(I)C -/
def kx_t215 : List (List (Option kx_I)) := [[some (.aload_n 0, 1), some (.invokevirtual 492, 3), none, none, some (.ifCond .eq 12, 3), none, none, some (.aload_n 0, 1), some (.getfield 9, 3), none, none, some (.iload_n 1, 1), some (.invokestatic 495, 3), none, none, some (.ireturn, 1)],
  [some (.aload_n 0, 1), some (.getfield 9, 3), none, none, some (.iload_n 1, 1), some (.invokestatic 498, 3), none, none, some (.ireturn, 1), none, none, none, none, none, none, none]]
def kx_m215 : kx_R := (⟨"java/lang/String", "charAt", "(I)C"⟩, prog_18_method_56_code, 2, Option.some Jvm.ClassFile.FieldType.char, kx_t215, 15, 4, 104, [])
/-- java/lang/String.isLatin1()Z -/
def kx_t216 : List (List (Option kx_I)) := [[some (.getstatic 38, 3), none, none, some (.ifCond .eq 14, 3), none, none, some (.aload_n 0, 1), some (.getfield 15, 3), none, none, some (.ifCond .ne 7, 3), none, none, some (.iconst 1, 1), some (.goto 4, 3), none],
  [none, some (.iconst 0, 1), some (.ireturn, 1), none, none, none, none, none, none, none, none, none, none, none, none, none]]
def kx_m216 : kx_R := (⟨"java/lang/String", "isLatin1", "()Z"⟩, prog_18_method_154_code, 1, Option.some Jvm.ClassFile.FieldType.boolean, kx_t216, 15, 1, 40, [])
/-- java/lang/String.getBytes([BIB)V -/
def kx_t217 : List (List (Option kx_I)) := [[some (.aload_n 0, 1), some (.invokevirtual 335, 3), none, none, some (.iload_n 3, 1), some (.if_icmp .ne 23, 3), none, none, some (.aload_n 0, 1), some (.getfield 9, 3), none, none, some (.iconst 0, 1), some (.aload_n 1, 1), some (.iload_n 2, 1), some (.iload_n 3, 1)],
  [some (.ishl, 1), some (.aload_n 0, 1), some (.getfield 9, 3), none, none, some (.arraylength, 1), some (.invokestatic 212, 3), none, none, some (.goto 18, 3), none, none, some (.aload_n 0, 1), some (.getfield 9, 3), none, none],
  [some (.iconst 0, 1), some (.aload_n 1, 1), some (.iload_n 2, 1), some (.aload_n 0, 1), some (.getfield 9, 3), none, none, some (.arraylength, 1), some (.invokestatic 106, 3), none, none, some (.return_, 1), none, none, none, none]]
def kx_m217 : kx_R := (⟨"java/lang/String", "getBytes", "([BIB)V"⟩, prog_18_method_147_code, 4, Option.none, kx_t217, 15, 2, 60, [])
/-- java/lang/StringBuilder.<init>()V -/
def kx_t218 : List (List (Option kx_I)) := [[some (.aload_n 0, 1), some (.bipush 16, 2), none, some (.invokespecial 1, 3), none, none, some (.return_, 1), none, none, none, none, none, none, none, none, none]]
def kx_m218 : kx_R := (⟨"java/lang/StringBuilder", "<init>", "()V"⟩, prog_19_method_1_code, 1, Option.none, kx_t218, 16, 2, 61, [])
/-- java/lang/StringBuilder.length()I -/
def kx_t219 : List (List (Option kx_I)) := [[some (.aload_n 0, 1), some (.invokespecial 343, 3), none, none, some (.ireturn, 1), none, none, none, none, none, none, none, none, none, none, none]]
def kx_m219 : kx_R := (⟨"java/lang/StringBuilder", "length", "()I"⟩, prog_19_method_93_code, 1, Option.some Jvm.ClassFile.FieldType.int, kx_t219, 16, 2, 60, [])
/-- java/lang/StringBuilder.append(C)Ljava/lang/StringBuilder; -/
def kx_t220 : List (List (Option kx_I)) := [[some (.aload_n 0, 1), some (.iload_n 1, 1), some (.invokespecial 50, 3), none, none, some (.pop, 1), some (.aload_n 0, 1), some (.areturn, 1), none, none, none, none, none, none, none, none]]
def kx_m220 : kx_R := (⟨"java/lang/StringBuilder", "append", "(C)Ljava/lang/StringBuilder;"⟩, prog_19_method_14_code, 2, Option.some (Jvm.ClassFile.FieldType.object "java/lang/StringBuilder"), kx_t220, 16, 5, 131, [])
/-- java/lang/StringBuilder.charAt(I)C -/
def kx_t221 : List (List (Option kx_I)) := [[some (.aload_n 0, 1), some (.iload_n 1, 1), some (.invokespecial 329, 3), none, none, some (.ireturn, 1), none, none, none, none, none, none, none, none, none, none]]
def kx_m221 : kx_R := (⟨"java/lang/StringBuilder", "charAt", "(I)C"⟩, prog_19_method_88_code, 2, Option.some Jvm.ClassFile.FieldType.char, kx_t221, 16, 4, 107, [])
/-- java/lang/StringBuilder.setLength(I)V -/
def kx_t222 : List (List (Option kx_I)) := [[some (.aload_n 0, 1), some (.iload_n 1, 1), some (.invokespecial 333, 3), none, none, some (.return_, 1), none, none, none, none, none, none, none, none, none, none]]
def kx_m222 : kx_R := (⟨"java/lang/StringBuilder", "setLength", "(I)V"⟩, prog_19_method_89_code, 2, Option.none, kx_t222, 16, 5, 131, [])
/-- java/lang/StringBuilder.append(I)Ljava/lang/StringBuilder; -/
def kx_t223 : List (List (Option kx_I)) := [[some (.aload_n 0, 1), some (.iload_n 1, 1), some (.invokespecial 53, 3), none, none, some (.pop, 1), some (.aload_n 0, 1), some (.areturn, 1), none, none, none, none, none, none, none, none]]
def kx_m223 : kx_R := (⟨"java/lang/StringBuilder", "append", "(I)Ljava/lang/StringBuilder;"⟩, prog_19_method_15_code, 2, Option.some (Jvm.ClassFile.FieldType.object "java/lang/StringBuilder"), kx_t223, 16, 5, 133, [])
/-- java/lang/StringBuilder.append(Ljava/lang/String;)Ljava/lang/StringBuilder; -/
def kx_t224 : List (List (Option kx_I)) := [[some (.aload_n 0, 1), some (.aload_n 1, 1), some (.invokespecial 29, 3), none, none, some (.pop, 1), some (.aload_n 0, 1), some (.areturn, 1), none, none, none, none, none, none, none, none]]
def kx_m224 : kx_R := (⟨"java/lang/StringBuilder", "append", "(Ljava/lang/String;)Ljava/lang/StringBuilder;"⟩, prog_19_method_7_code, 2, Option.some (Jvm.ClassFile.FieldType.object "java/lang/StringBuilder"), kx_t224, 16, 5, 132, [])
/-- java/lang/StringLatin1.canEncode(C)Z -/
def kx_t225 : List (List (Option kx_I)) := [[some (.iload_n 0, 1), some (.sipush 255, 3), none, none, some (.if_icmp .gt 7, 3), none, none, some (.iconst 1, 1), some (.goto 4, 3), none, none, some (.iconst 0, 1), some (.ireturn, 1), none, none, none]]
def kx_m225 : kx_R := (⟨"java/lang/StringLatin1", "canEncode", "(C)Z"⟩, prog_20_method_3_code, 1, Option.some Jvm.ClassFile.FieldType.boolean, kx_t225, 17, 1, 40, [])
/-- java/lang/StringLatin1.charAt([BI)C -/
def kx_t226 : List (List (Option kx_I)) := [[some (.iload_n 1, 1), some (.aload_n 0, 1), some (.arraylength, 1), some (.invokestatic 9, 3), none, none, some (.aload_n 0, 1), some (.iload_n 1, 1), some (.baload, 1), some (.sipush 255, 3), none, none, some (.iand, 1), some (.i2c, 1), some (.ireturn, 1), none]]
def kx_m226 : kx_R := (⟨"java/lang/StringLatin1", "charAt", "([BI)C"⟩, prog_20_method_2_code, 2, Option.some Jvm.ClassFile.FieldType.char, kx_t226, 17, 3, 83, [])
/-- java/util/Arrays.copyOf([BI)[B -/
def kx_t227 : List (List (Option kx_I)) := [[some (.iload_n 1, 1), some (.aload_n 0, 1), some (.arraylength, 1), some (.if_icmp .ne 11, 3), none, none, some (.aload_n 0, 1), some (.invokevirtual 310, 3), none, none, none, none, none, some (.areturn, 1), some (.iload_n 1, 1), some (.newarray .byte, 2)],
  [none, some (.astore_n 2, 1), some (.aload_n 0, 1), some (.iconst 0, 1), some (.aload_n 2, 1), some (.iconst 0, 1), some (.aload_n 0, 1), some (.arraylength, 1), some (.iload_n 1, 1), some (.invokestatic 304, 3), none, none, some (.invokestatic 150, 3), none, none, some (.aload_n 2, 1)],
  [some (.areturn, 1), none, none, none, none, none, none, none, none, none, none, none, none, none, none, none]]
def kx_m227 : kx_R := (⟨"java/util/Arrays", "copyOf", "([BI)[B"⟩, prog_23_method_121_code, 3, Option.some (Jvm.ClassFile.FieldType.array Jvm.ClassFile.FieldType.byte), kx_t227, 18, 1, 40, [])
/-- jdk/internal/util/ArraysSupport.newLength(III)I -/
def kx_t228 : List (List (Option kx_I)) := [[some (.iload_n 0, 1), some (.iload_n 1, 1), some (.iload_n 2, 1), some (.invokestatic 194, 3), none, none, some (.iadd, 1), some (.istore_n 3, 1), some (.iconst 0, 1), some (.iload_n 3, 1), some (.if_icmp .ge 11, 3), none, none, some (.iload_n 3, 1), some (.ldc 200, 2), none],
  [some (.if_icmp .gt 5, 3), none, none, some (.iload_n 3, 1), some (.ireturn, 1), some (.iload_n 0, 1), some (.iload_n 1, 1), some (.invokestatic 201, 3), none, none, some (.ireturn, 1), none, none, none, none, none]]
def kx_m228 : kx_R := (⟨"jdk/internal/util/ArraysSupport", "newLength", "(III)I"⟩, prog_24_method_27_code, 4, Option.some Jvm.ClassFile.FieldType.int, kx_t228, 19, 1, 40, [])
/-- jdk/internal/util/Preconditions.checkIndex(IILjava/util/function/BiFunction;)I -/
def kx_t229 : List (List (Option kx_I)) := [[some (.iload_n 0, 1), some (.ifCond .lt 8, 3), none, none, some (.iload_n 0, 1), some (.iload_n 1, 1), some (.if_icmp .lt 10, 3), none, none, some (.aload_n 2, 1), some (.iload_n 0, 1), some (.iload_n 1, 1), some (.invokestatic 95, 3), none, none, none],
  [some (.iload_n 0, 1), some (.ireturn, 1), none, none, none, none, none, none, none, none, none, none, none, none, none, none]]
def kx_m229 : kx_R := (⟨"jdk/internal/util/Preconditions", "checkIndex", "(IILjava/util/function/BiFunction;)I"⟩, prog_25_method_11_code, 3, Option.some Jvm.ClassFile.FieldType.int, kx_t229, 20, 1, 40, [])
/-- java/lang/Math.floorMod(II)I -/
def kx_t230 : List (List (Option kx_I)) := [[some (.iload_n 0, 1), some (.iload_n 1, 1), some (.irem, 1), some (.istore_n 2, 1), some (.iload_n 0, 1), some (.iload_n 1, 1), some (.ixor, 1), some (.ifCond .ge 11, 3), none, none, some (.iload_n 2, 1), some (.ifCond .eq 7, 3), none, none, some (.iload_n 2, 1), some (.iload_n 1, 1)],
  [some (.iadd, 1), some (.ireturn, 1), some (.iload_n 2, 1), some (.ireturn, 1), none, none, none, none, none, none, none, none, none, none, none, none]]
def kx_m230 : kx_R := (⟨"java/lang/Math", "floorMod", "(II)I"⟩, prog_17_method_50_code, 3, Option.some Jvm.ClassFile.FieldType.int, kx_t230, 21, 1, 40, [])
def kx_mT : List (List kx_R) := [[kx_m0, kx_m1, kx_m2, kx_m3, kx_m4, kx_m5, kx_m6, kx_m7, kx_m8, kx_m9, kx_m10, kx_m11, kx_m12, kx_m13, kx_m14, kx_m15],
  [kx_m16, kx_m17, kx_m18, kx_m19, kx_m20, kx_m21, kx_m22, kx_m23, kx_m24, kx_m25, kx_m26, kx_m27, kx_m28, kx_m29, kx_m30, kx_m31],
  [kx_m32, kx_m33, kx_m34, kx_m35, kx_m36, kx_m37, kx_m38, kx_m39, kx_m40, kx_m41, kx_m42, kx_m43, kx_m44, kx_m45, kx_m46, kx_m47],
  [kx_m48, kx_m49, kx_m50, kx_m51, kx_m52, kx_m53, kx_m54, kx_m55, kx_m56, kx_m57, kx_m58, kx_m59, kx_m60, kx_m61, kx_m62, kx_m63],
  [kx_m64, kx_m65, kx_m66, kx_m67, kx_m68, kx_m69, kx_m70, kx_m71, kx_m72, kx_m73, kx_m74, kx_m75, kx_m76, kx_m77, kx_m78, kx_m79],
  [kx_m80, kx_m81, kx_m82, kx_m83, kx_m84, kx_m85, kx_m86, kx_m87, kx_m88, kx_m89, kx_m90, kx_m91, kx_m92, kx_m93, kx_m94, kx_m95],
  [kx_m96, kx_m97, kx_m98, kx_m99, kx_m100, kx_m101, kx_m102, kx_m103, kx_m104, kx_m105, kx_m106, kx_m107, kx_m108, kx_m109, kx_m110, kx_m111],
  [kx_m112, kx_m113, kx_m114, kx_m115, kx_m116, kx_m117, kx_m118, kx_m119, kx_m120, kx_m121, kx_m122, kx_m123, kx_m124, kx_m125, kx_m126, kx_m127],
  [kx_m128, kx_m129, kx_m130, kx_m131, kx_m132, kx_m133, kx_m134, kx_m135, kx_m136, kx_m137, kx_m138, kx_m139, kx_m140, kx_m141, kx_m142, kx_m143],
  [kx_m144, kx_m145, kx_m146, kx_m147, kx_m148, kx_m149, kx_m150, kx_m151, kx_m152, kx_m153, kx_m154, kx_m155, kx_m156, kx_m157, kx_m158, kx_m159],
  [kx_m160, kx_m161, kx_m162, kx_m163, kx_m164, kx_m165, kx_m166, kx_m167, kx_m168, kx_m169, kx_m170, kx_m171, kx_m172, kx_m173, kx_m174, kx_m175],
  [kx_m176, kx_m177, kx_m178, kx_m179, kx_m180, kx_m181, kx_m182, kx_m183, kx_m184, kx_m185, kx_m186, kx_m187, kx_m188, kx_m189, kx_m190, kx_m191],
  [kx_m192, kx_m193, kx_m194, kx_m195, kx_m196, kx_m197, kx_m198, kx_m199, kx_m200, kx_m201, kx_m202, kx_m203, kx_m204, kx_m205, kx_m206, kx_m207],
  [kx_m208, kx_m209, kx_m210, kx_m211, kx_m212, kx_m213, kx_m214, kx_m215, kx_m216, kx_m217, kx_m218, kx_m219, kx_m220, kx_m221, kx_m222, kx_m223],
  [kx_m224, kx_m225, kx_m226, kx_m227, kx_m228, kx_m229, kx_m230]]
def kx_meth (i : Nat) : Option kx_R := match kx_mT[i / 16]? with
  | some r => r[i % 16]?
  | none => none
/-- the constant rows: numbers of const objects 2 to 8 -/
def kx_ca : List (Nat × List Int32) := [(99, []), (99, []), (101, [0, 4, 9, 15, 22, 28, 33, 37]), (101, [0, 0, 0, 0, 1, 1, 1, 1, 1, 2, 2, 2, 2, 2, 2, 3, 3, 3, 3, 3, 3, 3, 4, 4, 4, 4, 4, 4, 5, 5, 5, 5, 5, 6, 6, 6, 6]), (101, [0, 1, 2, 3, 3, 3, 3]), (101, [0, (-1), (-1), 0, 1, 1]), (101, [1, 1, 0, (-1), (-1), 0]), (103, [48, 49, 50, 51, 52, 53, 54, 55, 56, 57, 48, 49, 50, 51, 52, 53, 54, 55, 56, 57, 48, 49, 50, 51, 52, 53, 54, 55, 56, 57, 48, 49, 50, 51, 52, 53, 54, 55, 56, 57, 48, 49, 50, 51, 52, 53, 54, 55, 56, 57, 48, 49, 50, 51, 52, 53, 54, 55, 56, 57, 48, 49, 50, 51, 52, 53, 54, 55, 56, 57, 48, 49, 50, 51, 52, 53, 54, 55, 56, 57, 48, 49, 50, 51, 52, 53, 54, 55, 56, 57, 48, 49, 50, 51, 52, 53, 54, 55, 56, 57]), (103, [48, 48, 48, 48, 48, 48, 48, 48, 48, 48, 49, 49, 49, 49, 49, 49, 49, 49, 49, 49, 50, 50, 50, 50, 50, 50, 50, 50, 50, 50, 51, 51, 51, 51, 51, 51, 51, 51, 51, 51, 52, 52, 52, 52, 52, 52, 52, 52, 52, 52, 53, 53, 53, 53, 53, 53, 53, 53, 53, 53, 54, 54, 54, 54, 54, 54, 54, 54, 54, 54, 55, 55, 55, 55, 55, 55, 55, 55, 55, 55, 56, 56, 56, 56, 56, 56, 56, 56, 56, 56, 57, 57, 57, 57, 57, 57, 57, 57, 57, 57])]
def kx_cs : List (List Int32) := [[119, 105, 110, 100, 32], [116, 117, 114, 110, 32], [102, 108, 121, 32], [111, 117, 116], [105, 110], [114, 105, 103, 104, 116], [101, 102, 116], [97, 110, 100], [32, 114, 101, 115, 116], [32, 102, 108, 105, 101, 115, 32], [32, 100, 114, 105, 102, 116, 115, 32], [32, 108, 111, 115, 116], [32, 115], [105, 110, 100, 32], [117, 114, 110, 32], [108, 121, 32], [117, 116], [105, 103, 104, 116], [102, 116], [97, 110, 100], [32, 114, 101, 115, 116], [32, 102, 108, 105, 101, 115, 32], [32, 100, 114, 105, 102, 116, 115, 32], [32, 108, 111, 115, 116], [32, 115]]
/-- shapes of the const objects (c = 1 is the script, kept elsewhere) -/
def kx_csh (c : Nat) : Nat × Nat := if c < 10 then ((kx_ca.getD c (99, [])).1, (kx_ca.getD c (99, [])).2.length) else if 10 + 2 * kx_cs.length ≤ c then (99, 0) else if c % 2 = 0 then (12, 2) else (103, (kx_cs.getD ((c - 11) / 2) []).length)
def kx_cdt (c k : Nat) : Value := if c < 10 then .int ((kx_ca.getD c (99, [])).2.getD k 0) else if c % 2 = 0 then (if k = 0 then .retAddr (c + 1) else .int 0) else .int ((kx_cs.getD ((c - 11) / 2) []).getD k 0)
