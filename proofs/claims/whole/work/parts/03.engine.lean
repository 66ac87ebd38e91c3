/-! THE PURE ENGINE: a small interpreter of the claim's bytecode over a memory of numbered cells. Part 05 and on tie it to the machine; the contracts behind speak of it alone. -/
abbrev kx_L : Type := List (Option Value)
/-- shapes (kind, size), contents, how many cells, how many slots, the script (length, numbers) -/
abbrev kx_M : Type := (Nat → Nat × Nat) × (Nat → Nat → Value) × Nat × Nat × (Nat × (Nat → Int32))
def kx_sh (M : kx_M) (a : Nat) : Nat × Nat := M.1 a
def kx_dt (M : kx_M) (a k : Nat) : Value := M.2.1 a k
def kx_nx (M : kx_M) : Nat := M.2.2.1
def kx_sl (M : kx_M) : Nat := M.2.2.2.1
def kx_scL (M : kx_M) : Nat := M.2.2.2.2.1
def kx_scX (M : kx_M) : Nat → Int32 := M.2.2.2.2.2
def kx_put (M : kx_M) (a k : Nat) (v : Value) : kx_M := (M.1, fun b j => if b = a ∧ j = k then v else M.2.1 b j, M.2.2)
def kx_new (M : kx_M) (t n : Nat) (z : Nat → Value) : kx_M := (fun b => if b = M.2.2.1 then (t, n) else M.1 b, fun b j => if b = M.2.2.1 then z j else M.2.1 b j, M.2.2.1 + 1, M.2.2.2.1 + n, M.2.2.2.2)
/-- n values of f from sp on, written to the row a from dp on -/
def kx_cpy (M : kx_M) (f : Nat → Value) (sp a dp n : Nat) : kx_M := (M.1, fun b j => if b = a ∧ dp ≤ j ∧ j < dp + n then f (sp + (j - dp)) else M.2.1 b j, M.2.2)
/-- shape and contents of what a value refers to -/
def kx_rs (M : kx_M) : Value → Option (Nat × Nat)
  | .ref a => some (kx_sh M a)
  | .retAddr c => if c = 0 then none else if c = 1 then some (101, kx_scL M) else some (kx_csh c)
  | _ => none
def kx_rd (M : kx_M) : Value → Nat → Value
  | .ref a, k => kx_dt M a k
  | .retAddr c, k => if c = 1 then .int (kx_scX M k) else kx_cdt c k
  | _, _ => .null
abbrev kx_C : Type := Nat × kx_L × List Value × kx_M
abbrev kx_A : Type := kx_C ⊕ ((Nat × List Value × kx_C) ⊕ (Option Value × kx_M))
def kx_to (pc : Nat) (L : kx_L) (st : List Value) (M : kx_M) : Option kx_A := some (.inl (pc, L, st, M))
def kx_go (pc : Nat) (o : Int) : Nat := ((pc : Int) + o).toNat
def kx_ref (v : Value) : Bool := match v with
  | .ref _ => true
  | .null => true
  | .retAddr _ => true
  | _ => false
/-- a reference in the memory itself, or null -/
def kx_rfn (v : Value) : Bool := match v with
  | .ref _ => true
  | .null => true
  | _ => false
def kx_ldi (L : kx_L) (n : Nat) (k : Int32 → Option kx_A) : Option kx_A := match L[n]? with
  | some (some (.int x)) => k x
  | _ => none
def kx_ldl (L : kx_L) (n : Nat) (k : Int64 → Option kx_A) : Option kx_A := match L[n]? with
  | some (some (.long x)) => k x
  | _ => none
def kx_ldd (L : kx_L) (n : Nat) (k : UInt64 → Option kx_A) : Option kx_A := match L[n]? with
  | some (some (.double x)) => k x
  | _ => none
def kx_lda (L : kx_L) (n : Nat) (k : Value → Option kx_A) : Option kx_A := match L[n]? with
  | some (some v) => if kx_ref v = true then k v else none
  | _ => none
/-- storing a value of one slot at n; of two -/
def kx_s1 (mk : List Nat) (L : kx_L) (n : Nat) (v : Value) (k : kx_L → Option kx_A) : Option kx_A := if n ∈ mk ∨ L.length ≤ n then none else k (L.set n (some v))
def kx_s2 (mk : List Nat) (L : kx_L) (n : Nat) (v : Value) (k : kx_L → Option kx_A) : Option kx_A := if n ∈ mk ∨ n + 1 ∉ mk ∨ L.length ≤ n + 1 then none else k ((L.set n (some v)).set (n + 1) none)
/-- the entry of a method: its arguments as locals -/
def kx_args : List Value → kx_L
  | [] => []
  | .long x :: r => some (.long x) :: none :: kx_args r
  | .double x :: r => some (.double x) :: none :: kx_args r
  | v :: r => some v :: kx_args r
def kx_ent (n : Nat) (As : List Value) : kx_L := kx_args As ++ List.replicate (n - (kx_args As).length) none
/-- the second halves of longs among a method's parameters are known to its table -/
def kx_mko (mk : List Nat) : Nat → kx_L → Bool
  | _, [] => true
  | n, some v :: t => (Nat.beq v.category 1 || mk.contains (n + 1)) && kx_mko mk (n + 1) t
  | n, none :: t => kx_mko mk (n + 1) t
def kx_fits (r : kx_R) (As : List Value) : Bool := Nat.ble (kx_args As).length r.2.2.1 && kx_mko r.2.2.2.2.2.2.2.2 0 (kx_args As)
def kx_cat (st : List Value) : Nat := (st.map fun v => v.category).sum
/-- may a value be put into a field of this kind: 0 int, 1 boolean, 2 byte, 3 reference, 4 final reference of the class itself (in its constructor alone) -/
def kx_fit (c : Nat) (v : Value) : Bool := match c, v with
  | 0, .int _ => true
  | 1, .int x => x == 0 || x == 1
  | 2, .int x => x == x.toInt8.toInt32
  | 3, .ref _ => true
  | 3, .null => true
  | 4, .ref _ => true
  | 4, .null => true
  | _, _ => false
/-- a call of method j with n parameters behind a receiver (rc: the kind that it must have), or static -/
def kx_inv (fr lo pc : Nat) (L : kx_L) (st : List Value) (M : kx_M) (q : Nat × Nat × Nat × Nat) (ok : Nat → Bool) : Option kx_A := match kx_meth q.2.1 with
  | none => none
  | some r =>
    let As := (st.take q.2.2.1).reverse
    let rest := st.drop q.2.2.1
    if ok q.1 = false ∨ st.length < q.2.2.1 ∨ ¬ (r.2.2.2.2.2.2.1 + 1 ≤ fr ∧ 8 + (r.2.2.1 + 11) + r.2.2.2.2.2.2.2.1 ≤ lo) then none
    else if q.1 = 4 then (if kx_cat rest ≤ 8 ∧ kx_fits r As = true then some (.inr (.inl (q.2.1, As, (pc + 3, L, rest, M)))) else none)
    else match rest with
      | v :: r2 => if kx_cat r2 ≤ 8 ∧ kx_fits r (v :: As) = true ∧ (if q.1 = 5 ∨ q.1 = 6 then (match v with | .ref _ => true | _ => false) else ((kx_rs M v).map (·.1) == some q.2.2.2)) = true then some (.inr (.inl (q.2.1, v :: As, (pc + 3, L, r2, M)))) else none
      | [] => none
def kx_arr (t : Nat) (i : Int32) (sh : Option (Nat × Nat)) : Bool := match sh with
  | some (t', n) => Nat.beq t t' && decide (0 ≤ i) && Nat.blt i.toNatClampNeg n
  | none => false
/-- stores go to the memory's own cells alone -/
def kx_own (M : kx_M) (t : Nat) (i : Int32) (v : Value) (k : Nat → Nat → Option kx_A) : Option kx_A := match v with
  | .ref a => if kx_arr t i (some (kx_sh M a)) = true then k a i.toNatClampNeg else none
  | _ => none
def kx_acopy (fr lo pc : Nat) (L : kx_L) (M : kx_M) (st : List Value) : Option kx_A := match st with
  | .int n :: .int dp :: .ref a :: .int sp :: v :: r =>
    if 1 ≤ fr ∧ kx_cat r + 20 ≤ lo ∧ 0 ≤ n ∧ 0 ≤ dp ∧ 0 ≤ sp ∧ (kx_sh M a).1 = 103 ∧ (kx_rs M v).map (·.1) = some 103 ∧ dp.toNatClampNeg + n.toNatClampNeg ≤ (kx_sh M a).2 ∧ sp.toNatClampNeg + n.toNatClampNeg ≤ ((kx_rs M v).getD (0, 0)).2 ∧ v ≠ .ref a
      then kx_to (pc + 3) L r (kx_cpy M (kx_rd M v) sp.toNatClampNeg a dp.toNatClampNeg n.toNatClampNeg) else none
  | _ => none
/-- Math.max, min, abs of ints -/
def kx_math (fr lo pc : Nat) (L : kx_L) (M : kx_M) (k : Nat) (st : List Value) : Option kx_A := match st with
  | .int y :: .int x :: r => if k = 22 then (if 1 ≤ fr ∧ kx_cat (.int x :: r) + 13 ≤ lo then kx_to (pc + 3) L (.int (if 0 ≤ y then y else 0 - y) :: .int x :: r) M else none)
      else if 1 ≤ fr ∧ kx_cat r + 13 ≤ lo then kx_to (pc + 3) L (.int (if k = 20 then (if x < y then y else x) else (if y < x then y else x)) :: r) M else none
  | .int y :: r => if k = 22 ∧ 1 ≤ fr ∧ kx_cat r + 13 ≤ lo then kx_to (pc + 3) L (.int (if 0 ≤ y then y else 0 - y) :: r) M else none
  | _ => none
def kx_swt (pc : Nat) (d lo hi : Int) (offs : Array Int) (x : Int32) : Nat := if x.toInt < lo ∨ hi < x.toInt then kx_go pc d else match offs[(x.toInt - lo).toNat]? with
  | some o => kx_go pc o
  | none => kx_go pc d
def kx_hold (c : ClassFile.Cond) (x y : Int32) : Bool := match c with
  | .eq => decide (x = y)
  | .ne => decide (¬ x = y)
  | .lt => decide (x < y)
  | .ge => decide (y ≤ x)
  | .gt => decide (y < x)
  | .le => decide (x ≤ y)
def kx_dup2 (st : List Value) (k : List Value → Option kx_A) : Option kx_A := match st with
  | .long x :: r => k (.long x :: .long x :: r)
  | .double x :: r => k (.double x :: .double x :: r)
  | v :: w :: r => if v.category = 1 ∧ w.category = 1 then k (v :: w :: v :: w :: r) else none
  | _ => none
def kx_bin (st : List Value) (f : Int32 → Int32 → Option Int32) (k : List Value → Option kx_A) : Option kx_A := match st with
  | .int y :: .int x :: r => (match f x y with
    | some z => k (.int z :: r)
    | none => none)
  | _ => none
def kx_un (st : List Value) (f : Int32 → Value) (k : List Value → Option kx_A) : Option kx_A := match st with
  | .int x :: r => k (f x :: r)
  | _ => none
def kx_binl (st : List Value) (f : Int64 → Int64 → Value) (k : List Value → Option kx_A) : Option kx_A := match st with
  | .long y :: .long x :: r => k (f x y :: r)
  | _ => none
def kx_shl (st : List Value) (f : Int64 → Int32 → Int64) (k : List Value → Option kx_A) : Option kx_A := match st with
  | .int y :: .long x :: r => k (.long (f x y) :: r)
  | _ => none
def kx_ret1 (rt : Option FieldType) (st : List Value) (M : kx_M) : Option kx_A := match st, rt with
  | [.int v], some ty => if narrow ty (.int v) = .int v then some (.inr (.inr (some (.int v), M))) else none
  | _, _ => none
/-- one instruction; mk: the second halves of longs among the locals, o: the class, rt: what is returned -/
def kx_exe (mk : List Nat) (o : Nat) (rt : Option FieldType) (fr lo : Nat) (init : Bool) (pc : Nat) (L : kx_L) (st : List Value) (M : kx_M) (I : Instr) : Option kx_A := match I with
  | .aload n => kx_lda L n fun v => kx_to (pc + 2) L (v :: st) M
  | .aload_n n => kx_lda L n fun v => kx_to (pc + 1) L (v :: st) M
  | .iload n => kx_ldi L n fun x => kx_to (pc + 2) L (.int x :: st) M
  | .iload_n n => kx_ldi L n fun x => kx_to (pc + 1) L (.int x :: st) M
  | .lload n => kx_ldl L n fun x => kx_to (pc + 2) L (.long x :: st) M
  | .lload_n n => kx_ldl L n fun x => kx_to (pc + 1) L (.long x :: st) M
  | .dload n => kx_ldd L n fun x => kx_to (pc + 2) L (.double x :: st) M
  | .istore n => (match st with
    | .int x :: r => kx_s1 mk L n (.int x) fun L' => kx_to (pc + 2) L' r M
    | _ => none)
  | .istore_n n => (match st with
    | .int x :: r => kx_s1 mk L n (.int x) fun L' => kx_to (pc + 1) L' r M
    | _ => none)
  | .astore n => (match st with
    | v :: r => if kx_ref v = true then kx_s1 mk L n v fun L' => kx_to (pc + 2) L' r M else none
    | _ => none)
  | .astore_n n => (match st with
    | v :: r => if kx_ref v = true then kx_s1 mk L n v fun L' => kx_to (pc + 1) L' r M else none
    | _ => none)
  | .lstore n => (match st with
    | .long x :: r => kx_s2 mk L n (.long x) fun L' => kx_to (pc + 2) L' r M
    | _ => none)
  | .lstore_n n => (match st with
    | .long x :: r => kx_s2 mk L n (.long x) fun L' => kx_to (pc + 1) L' r M
    | _ => none)
  | .dstore n => (match st with
    | .double x :: r => kx_s2 mk L n (.double x) fun L' => kx_to (pc + 2) L' r M
    | _ => none)
  | .iconst n => kx_to (pc + 1) L (.int (Int32.ofInt n) :: st) M
  | .bipush n => kx_to (pc + 2) L (.int (Int8.ofInt n).toInt32 :: st) M
  | .sipush n => kx_to (pc + 3) L (.int (Int16.ofInt n).toInt32 :: st) M
  | .lconst n => kx_to (pc + 1) L (.long (Int64.ofNat n) :: st) M
  | .fconst n => if n = 0 then kx_to (pc + 1) L (.float FP.fconst0 :: st) M else none
  | .dconst n => if n = 0 then kx_to (pc + 1) L (.double FP.dconst0 :: st) M else none
  | .ldc n => (match kx_look kx_conT o n with
    | some v => kx_to (pc + 2) L (v :: st) M
    | none => none)
  | .ldc_w n => (match kx_look kx_conT o n with
    | some v => kx_to (pc + 3) L (v :: st) M
    | none => none)
  | .iadd => kx_bin st (fun x y => some (x + y)) fun s => kx_to (pc + 1) L s M
  | .isub => kx_bin st (fun x y => some (x - y)) fun s => kx_to (pc + 1) L s M
  | .imul => kx_bin st (fun x y => some (x * y)) fun s => kx_to (pc + 1) L s M
  | .idiv => kx_bin st (fun x y => if y = 0 then none else some (x / y)) fun s => kx_to (pc + 1) L s M
  | .irem => kx_bin st (fun x y => if y = 0 then none else some (x - x / y * y)) fun s => kx_to (pc + 1) L s M
  | .ishl => kx_bin st (fun x y => some (x <<< (y &&& 31))) fun s => kx_to (pc + 1) L s M
  | .ishr => kx_bin st (fun x y => some (x >>> (y &&& 31))) fun s => kx_to (pc + 1) L s M
  | .iand => kx_bin st (fun x y => some (x &&& y)) fun s => kx_to (pc + 1) L s M
  | .ior => kx_bin st (fun x y => some (x ||| y)) fun s => kx_to (pc + 1) L s M
  | .ixor => kx_bin st (fun x y => some (x ^^^ y)) fun s => kx_to (pc + 1) L s M
  | .ineg => kx_un st (fun x => .int (-x)) fun s => kx_to (pc + 1) L s M
  | .i2b => kx_un st (fun x => .int x.toInt8.toInt32) fun s => kx_to (pc + 1) L s M
  | .i2c => kx_un st (fun x => .int (x.toUInt32 % 65536).toInt32) fun s => kx_to (pc + 1) L s M
  | .i2d => kx_un st (fun x => .double (FP.i2d x)) fun s => kx_to (pc + 1) L s M
  | .i2f => kx_un st (fun x => .float (FP.i2f x)) fun s => kx_to (pc + 1) L s M
  | .f2d => (match st with
    | .float x :: r => if FP.f2d x &&& 0x7fffffffffffffff ≤ 0x7ff0000000000000 then kx_to (pc + 1) L (.double (FP.f2d x) :: r) M else none
    | _ => none)
  | .ddiv => (match st with
    | .double y :: .double x :: r => if FP.ddiv x y &&& 0x7fffffffffffffff ≤ 0x7ff0000000000000 then kx_to (pc + 1) L (.double (FP.ddiv x y) :: r) M else none
    | _ => none)
  | .fdiv => (match st with
    | .float y :: .float x :: r => if FP.fdiv x y &&& 0x7fffffff ≤ 0x7f800000 then kx_to (pc + 1) L (.float (FP.fdiv x y) :: r) M else none
    | _ => none)
  | .dcmp op => (match st with
    | .double y :: .double x :: r => kx_to (pc + 1) L (.int (Op.cmpValue (FP.dcmp x y) op) :: r) M
    | _ => none)
  | .lshl => kx_shl st (fun x y => x <<< (y.toInt64 &&& 63)) fun s => kx_to (pc + 1) L s M
  | .lshr => kx_shl st (fun x y => x >>> (y.toInt64 &&& 63)) fun s => kx_to (pc + 1) L s M
  | .land => kx_binl st (fun x y => .long (x &&& y)) fun s => kx_to (pc + 1) L s M
  | .lor => kx_binl st (fun x y => .long (x ||| y)) fun s => kx_to (pc + 1) L s M
  | .lcmp => kx_binl st (fun x y => .int (lg_cmp x y)) fun s => kx_to (pc + 1) L s M
  | .dup => (match st with
    | v :: r => if v.category = 1 then kx_to (pc + 1) L (v :: v :: r) M else none
    | _ => none)
  | .dup_x1 => (match st with
    | v :: w :: r => if v.category = 1 ∧ w.category = 1 then kx_to (pc + 1) L (v :: w :: v :: r) M else none
    | _ => none)
  | .dup2 => kx_dup2 st fun s => kx_to (pc + 1) L s M
  | .pop => (match st with
    | v :: r => if v.category = 1 then kx_to (pc + 1) L r M else none
    | _ => none)
  | .iinc n k => kx_ldi L n fun x => kx_s1 mk L n (.int (x + Int32.ofInt k)) fun L' => kx_to (pc + 3) L' st M
  | .goto k => kx_to (kx_go pc k) L st M
  | .ifCond c k => (match st with
    | .int x :: r => if kx_hold c x 0 = true then kx_to (kx_go pc k) L r M else kx_to (pc + 3) L r M
    | _ => none)
  | .if_icmp c k => (match st with
    | .int y :: .int x :: r => if kx_hold c x y = true then kx_to (kx_go pc k) L r M else kx_to (pc + 3) L r M
    | _ => none)
  | .ifnonnull k => (match st with
    | .ref _ :: r => kx_to (kx_go pc k) L r M
    | .retAddr c :: r => if (kx_rs M (.retAddr c)).map (·.1) = some 12 then kx_to (kx_go pc k) L r M else none
    | .null :: r => kx_to (pc + 3) L r M
    | _ => none)
  | .tableswitch d lo hi offs => (match st with
    | .int x :: r => kx_to (kx_swt pc d lo hi offs x) L r M
    | _ => none)
  | .lookupswitch d ps => (match st with
    | .int x :: r => kx_to (kx_go pc (Op.lookupswitch.offset ps.toList d x.toInt)) L r M
    | _ => none)
  | .getfield n => (match kx_look kx_fldT o n, st with
    | some q, v :: r => if (kx_rs M v).map (·.1) = some q.1 then kx_to (pc + 3) L (kx_rd M v q.2.1 :: r) M else none
    | _, _ => none)
  | .putfield n => (match kx_look kx_fldT o n, st with
    | some q, v :: .ref a :: r => if (kx_sh M a).1 = q.1 ∧ kx_fit q.2.2 v = true ∧ (q.2.2 = 4 → init = true) then kx_to (pc + 3) L r (kx_put M a q.2.1 v) else none
    | _, _ => none)
  | .getstatic n => (match kx_look kx_staT o n with
    | some v => kx_to (pc + 3) L (v :: st) M
    | none => none)
  | .invokevirtual n => (match kx_look kx_calT o n with
    | some q => kx_inv fr lo pc L st M q fun k => Nat.beq k 3 || Nat.beq k 9
    | none => none)
  | .invokestatic n => (match kx_look kx_calT o n with
    | some q => if q.1 = 10 then kx_acopy fr lo pc L M st else if 20 ≤ q.1 ∧ q.1 ≤ 22 then kx_math fr lo pc L M q.1 st else kx_inv fr lo pc L st M q fun k => Nat.beq k 4
    | none => none)
  | .invokespecial n => (match kx_look kx_calT o n with
    | some q => if q.1 = 7 then (match st with
        | .ref _ :: r => if 1 ≤ fr ∧ kx_cat r + 12 ≤ lo then kx_to (pc + 3) L r M else none
        | _ => none) else kx_inv fr lo pc L st M q fun k => Nat.beq k 5 || Nat.beq k 6 || Nat.beq k 8
    | none => none)
  | .new n => (match kx_look kx_clsT o n with
    | some q => kx_to (pc + 3) L (.ref (kx_nx M) :: st) (kx_new M q.1 (kx_cn q.1) (kx_fd q.1))
    | none => none)
  | .anewarray n => (match kx_look kx_clsT o n, st with
    | some q, .int x :: r => if 0 ≤ x ∧ x < 100000 ∧ q.2 ≠ 0 then kx_to (pc + 3) L (.ref (kx_nx M) :: r) (kx_new M q.2 x.toNatClampNeg fun _ => .null) else none
    | _, _ => none)
  | .newarray t => (match st with
    | .int x :: r => if 0 ≤ x ∧ x < 100000 then (match t with
        | .int => kx_to (pc + 2) L (.ref (kx_nx M) :: r) (kx_new M 101 x.toNatClampNeg fun _ => .int 0)
        | .long => kx_to (pc + 2) L (.ref (kx_nx M) :: r) (kx_new M 102 x.toNatClampNeg fun _ => .long 0)
        | .byte => kx_to (pc + 2) L (.ref (kx_nx M) :: r) (kx_new M 103 x.toNatClampNeg fun _ => .int 0)
        | .char => kx_to (pc + 2) L (.ref (kx_nx M) :: r) (kx_new M 104 x.toNatClampNeg fun _ => .int 0)
        | .boolean => kx_to (pc + 2) L (.ref (kx_nx M) :: r) (kx_new M 105 x.toNatClampNeg fun _ => .int 0)
        | _ => none) else none
    | _ => none)
  | .arraylength => (match st with
    | v :: r => (match kx_rs M v with
      | some (t, n) => if 100 < t then kx_to (pc + 1) L (.int (Int32.ofNat n) :: r) M else none
      | none => none)
    | _ => none)
  | .iaload => (match st with
    | .int i :: v :: r => if kx_arr 101 i (kx_rs M v) = true then kx_to (pc + 1) L (kx_rd M v i.toNatClampNeg :: r) M else none
    | _ => none)
  | .laload => (match st with
    | .int i :: v :: r => if kx_arr 102 i (kx_rs M v) = true then kx_to (pc + 1) L (kx_rd M v i.toNatClampNeg :: r) M else none
    | _ => none)
  | .baload => (match st with
    | .int i :: v :: r => if (kx_arr 103 i (kx_rs M v) || kx_arr 105 i (kx_rs M v)) = true then kx_to (pc + 1) L (kx_rd M v i.toNatClampNeg :: r) M else none
    | _ => none)
  | .caload => (match st with
    | .int i :: v :: r => if kx_arr 104 i (kx_rs M v) = true then kx_to (pc + 1) L (kx_rd M v i.toNatClampNeg :: r) M else none
    | _ => none)
  | .aaload => (match st with
    | .int i :: .ref a :: r => if 109 < (kx_sh M a).1 ∧ kx_arr (kx_sh M a).1 i (some (kx_sh M a)) = true ∧ kx_rfn (kx_dt M a i.toNatClampNeg) = true then kx_to (pc + 1) L (kx_dt M a i.toNatClampNeg :: r) M else none
    | _ => none)
  | .iastore => (match st with
    | .int x :: .int i :: v :: r => kx_own M 101 i v fun a j => kx_to (pc + 1) L r (kx_put M a j (.int x))
    | _ => none)
  | .lastore => (match st with
    | .long x :: .int i :: v :: r => kx_own M 102 i v fun a j => kx_to (pc + 1) L r (kx_put M a j (.long x))
    | _ => none)
  | .bastore => (match st with
    | .int x :: .int i :: .ref a :: r => if (kx_sh M a).1 = 103 then kx_own M 103 i (.ref a) fun a j => kx_to (pc + 1) L r (kx_put M a j (.int x.toInt8.toInt32))
      else if x = 0 ∨ x = 1 then kx_own M 105 i (.ref a) fun a j => kx_to (pc + 1) L r (kx_put M a j (.int x)) else none
    | _ => none)
  | .castore => (match st with
    | .int x :: .int i :: v :: r => kx_own M 104 i v fun a j => kx_to (pc + 1) L r (kx_put M a j (.int (x.toUInt32 % 65536).toInt32))
    | _ => none)
  | .aastore => (match st with
    | .ref b :: .int i :: .ref a :: r => if 109 < (kx_sh M a).1 ∧ ((kx_sh M a).1 = 110 ∧ (kx_sh M b).1 = 7 ∨ (kx_sh M a).1 = 111 ∧ (kx_sh M b).1 = 2 ∨ (kx_sh M a).1 = 112 ∧ (kx_sh M b).1 = 6 ∨ (kx_sh M a).1 = 113 ∧ (kx_sh M b).1 = 4) then kx_own M (kx_sh M a).1 i (.ref a) fun a j => kx_to (pc + 1) L r (kx_put M a j (.ref b)) else none
    | _ => none)
  | .ireturn => kx_ret1 rt st M
  | .lreturn => (match st with
    | [.long v] => if rt = some .long then some (.inr (.inr (some (.long v), M))) else none
    | _ => none)
  | .dreturn => (match st with
    | [.double v] => if rt = some .double then some (.inr (.inr (some (.double v), M))) else none
    | _ => none)
  | .freturn => (match st with
    | [.float v] => if rt = some .float then some (.inr (.inr (some (.float v), M))) else none
    | _ => none)
  | .areturn => (match st, rt with
    | [.ref v], some (.object _) => some (.inr (.inr (some (.ref v), M)))
    | [.ref v], some (.array _) => some (.inr (.inr (some (.ref v), M)))
    | _, _ => none)
  | .return_ => (match st with
    | [] => if rt = none then some (.inr (.inr (none, M))) else none
    | _ => none)
  | _ => none
def kx_act (i pc : Nat) (L : kx_L) (st : List Value) (M : kx_M) : Option kx_A := match kx_meth i with
  | none => none
  | some r => match kx_ix r.2.2.2.2.1 pc with
    | none => none
    | some I => kx_exe r.2.2.2.2.2.2.2.2 r.2.2.2.2.2.1 r.2.2.2.1 r.2.2.2.2.2.2.1 r.2.2.2.2.2.2.2.1 (r.1.name == "<init>") pc L st M I.1
/-- a method's first frame -/
def kx_en (j : Nat) (As : List Value) (M : kx_M) : kx_C := (0, kx_ent (match kx_meth j with | some r => r.2.2.1 | none => 0) As, [], M)
def kx_run : Nat → Nat → kx_C → Option (Option Value × kx_M)
  | 0, _, _ => none
  | n + 1, i, c => match kx_act i c.1 c.2.1 c.2.2.1 c.2.2.2 with
    | none => none
    | some (.inl c') => kx_run n i c'
    | some (.inr (.inl q)) => (match kx_run n q.1 (kx_en q.1 q.2.1 q.2.2.2.2.2) with
      | none => none
      | some (v, M') => kx_run n i (q.2.2.1, q.2.2.2.1, v.toList ++ q.2.2.2.2.1, M'))
    | some (.inr (.inr r)) => some r
theorem kx_run_mono : ∀ (n : Nat) (i : Nat) (c : kx_C) (r : Option Value × kx_M), kx_run n i c = some r → kx_run (n + 1) i c = some r := by
  intro n
  induction n with
  | zero => intro i c r h; cases h
  | succ n ih =>
    intro i c r h
    rw [kx_run] at h ⊢
    cases ha : kx_act i c.1 c.2.1 c.2.2.1 c.2.2.2 with
    | none => rw [ha] at h; cases h
    | some A =>
      rw [ha] at h
      rcases A with c' | q | r'
      · exact ih _ _ _ h
      · dsimp only at h ⊢
        cases hc : kx_run n q.1 (kx_en q.1 q.2.1 q.2.2.2.2.2) with
        | none => rw [hc] at h; cases h
        | some vm =>
          rw [hc] at h
          rw [ih _ _ _ hc]
          exact ih _ _ _ h
      · exact h
theorem kx_run_le {n m : Nat} (h : n ≤ m) {i : Nat} {c : kx_C} {r : Option Value × kx_M} (hr : kx_run n i c = some r) : kx_run m i c = some r := by
  induction h with
  | refl => exact hr
  | step _ ih => exact kx_run_mono _ _ _ _ ih
theorem kx_run_det {n m i : Nat} {c : kx_C} {r r' : Option Value × kx_M} (h : kx_run n i c = some r) (h' : kx_run m i c = some r') : r = r' := by
  have a := kx_run_le (Nat.le_max_left n m) h
  have b := kx_run_le (Nat.le_max_right n m) h'
  exact Option.some.inj (a.symm.trans b)
/-- what a run comes to, none if it doesn't come to an end -/
noncomputable def kx_D (i pc : Nat) (L : kx_L) (st : List Value) (M : kx_M) : Option (Option Value × kx_M) :=
  @dite _ (∃ r n, kx_run n i (pc, L, st, M) = some r) (Classical.propDecidable _) (fun h => some (Classical.choose h)) (fun _ => none)
theorem kx_D_of {n i pc : Nat} {L : kx_L} {st : List Value} {M : kx_M} {r : Option Value × kx_M} (h : kx_run n i (pc, L, st, M) = some r) : kx_D i pc L st M = some r := by
  have hx : ∃ r n, kx_run n i (pc, L, st, M) = some r := ⟨r, n, h⟩
  unfold kx_D
  rw [dif_pos hx]
  obtain ⟨m, hm⟩ := Classical.choose_spec hx
  rw [kx_run_det hm h]
theorem kx_D_run {i pc : Nat} {L : kx_L} {st : List Value} {M : kx_M} {r : Option Value × kx_M} (h : kx_D i pc L st M = some r) : ∃ n, kx_run n i (pc, L, st, M) = some r := by
  unfold kx_D at h
  by_cases hx : ∃ r n, kx_run n i (pc, L, st, M) = some r
  · rw [dif_pos hx] at h
    obtain ⟨m, hm⟩ := Classical.choose_spec hx
    rw [Option.some.inj h] at hm
    exact ⟨m, hm⟩
  · rw [dif_neg hx] at h
    cases h
theorem kx_D_none {i pc : Nat} {L : kx_L} {st : List Value} {M : kx_M} (h : ∀ n r, ¬ kx_run n i (pc, L, st, M) = some r) : kx_D i pc L st M = none := by
  cases hd : kx_D i pc L st M with
  | none => rfl
  | some r =>
    obtain ⟨n, hn⟩ := kx_D_run hd
    exact absurd hn (h n r)
theorem kx_D_next {i pc pc' : Nat} {L L' : kx_L} {st st' : List Value} {M M' : kx_M} (h : kx_act i pc L st M = some (.inl (pc', L', st', M'))) : kx_D i pc L st M = kx_D i pc' L' st' M' := by
  cases hd : kx_D i pc' L' st' M' with
  | some r =>
    obtain ⟨n, hn⟩ := kx_D_run hd
    refine kx_D_of (n := n + 1) ?_
    rw [kx_run]
    dsimp only
    rw [h]
    exact hn
  | none =>
    refine kx_D_none fun n r hn => ?_
    cases n with
    | zero => cases hn
    | succ n =>
      rw [kx_run] at hn
      dsimp only at hn
      rw [h] at hn
      dsimp only at hn
      rw [kx_D_of hn] at hd
      cases hd
theorem kx_D_ret {i pc : Nat} {L : kx_L} {st : List Value} {M : kx_M} {r : Option Value × kx_M} (h : kx_act i pc L st M = some (.inr (.inr r))) : kx_D i pc L st M = some r := by
  refine kx_D_of (n := 1) ?_
  rw [kx_run]
  dsimp only
  rw [h]
/-- a method from its entry -/
noncomputable def kx_call (j : Nat) (As : List Value) (M : kx_M) : Option (Option Value × kx_M) := kx_D j (kx_en j As M).1 (kx_en j As M).2.1 [] M
theorem kx_D_call {i pc j pc' : Nat} {L L' : kx_L} {st st' As : List Value} {M M' : kx_M} (h : kx_act i pc L st M = some (.inr (.inl (j, As, (pc', L', st', M'))))) :
    kx_D i pc L st M = (kx_call j As M').bind fun r => kx_D i pc' L' (r.1.toList ++ st') r.2 := by
  cases hc : kx_call j As M' with
  | none =>
    show _ = none
    refine kx_D_none fun n r hn => ?_
    cases n with
    | zero => cases hn
    | succ n =>
      rw [kx_run] at hn
      dsimp only at hn
      rw [h] at hn
      dsimp only at hn
      cases hk : kx_run n j (kx_en j As M') with
      | none => rw [hk] at hn; cases hn
      | some vm =>
        have hq : kx_call j As M' = some vm := kx_D_of (n := n) hk
        rw [hq] at hc
        cases hc
  | some vm =>
    obtain ⟨v, M2⟩ := vm
    obtain ⟨n1, hn1⟩ := kx_D_run (show kx_D j (kx_en j As M').1 (kx_en j As M').2.1 [] M' = some (v, M2) from hc)
    show _ = kx_D i pc' L' (v.toList ++ st') M2
    cases hd : kx_D i pc' L' (v.toList ++ st') M2 with
    | some r =>
      obtain ⟨n2, hn2⟩ := kx_D_run hd
      refine kx_D_of (n := max n1 n2 + 1) ?_
      rw [kx_run]
      dsimp only
      rw [h]
      dsimp only
      have e1 : kx_run (max n1 n2) j (kx_en j As M') = some (v, M2) := kx_run_le (Nat.le_max_left _ _) hn1
      rw [e1]
      exact kx_run_le (Nat.le_max_right _ _) hn2
    | none =>
      refine kx_D_none fun n r hn => ?_
      cases n with
      | zero => cases hn
      | succ n =>
        rw [kx_run] at hn
        dsimp only at hn
        rw [h] at hn
        dsimp only at hn
        cases hk : kx_run n j (kx_en j As M') with
        | none => rw [hk] at hn; cases hn
        | some vm =>
          rw [hk] at hn
          have e := kx_run_det (c := kx_en j As M') hk hn1
          subst e
          dsimp only at hn
          rw [kx_D_of hn] at hd
          cases hd
