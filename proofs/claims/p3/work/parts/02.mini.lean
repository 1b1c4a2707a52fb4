/-! MINI: a small machine over numbered cells; its runs are runs of the real one (03 and on). A reference .ref k is cell k; from 1000000 on: things that stand outside (String constants). -/
section YDefs
abbrev y_C : Type := (FieldType × Nat × (Nat → Int32)) ⊕ (Nat × List Value)
/-- the cells; how many cells and slots have been made -/
abbrev y_M : Type := List y_C × Nat × Nat
abbrev y_L : Type := List (Nat × Value)
/-- returned, or threw the cell; the memory -/
abbrev y_R : Type := (Option Value ⊕ Nat) × y_M
abbrev y_F : Type := Nat × y_L × List Value × y_M
def y_set (ls : y_L) (i : Nat) (v : Value) : y_L := (i, v) :: ls.filter (fun q => !(q.1 == i) && !(q.1 + 1 == i && q.2.category == 2))
def y_set2 (ls : y_L) (i : Nat) (v : Value) : y_L := (i, v) :: ls.filter (fun q => !(q.1 == i) && (!(q.1 == i + 1) && !(q.1 + 1 == i && q.2.category == 2)))
def y_get : y_L → Nat → Option Value
  | [], _ => none
  | (j, v) :: r, i => if j = i then some v else y_get r i
def y_ok (n : Nat) : Value → Bool
  | .ref k => Nat.blt k n || Nat.ble 1000000 k
  | _ => true
def y_oks (n : Nat) (vs : List Value) : Bool := vs.all (y_ok n)
def y_okL (n : Nat) (ls : y_L) : Bool := ls.all (fun q => y_ok n q.2)
def y_okC (n : Nat) : y_C → Bool
  | .inl _ => true
  | .inr (_, fs) => y_oks n fs
def y_okM (M : List y_C) : Bool := M.all (y_okC M.length)
/-- the program's tables, for one class: fields (class, place, final, type), classes to make (number, first fields), constants, statics -/
abbrev y_T : Type := (Nat → Option (Nat × Nat × Bool × FieldType)) × (Nat → Option (Nat × List Value)) × (Nat → Option Value) × (Nat → Option Value)
def y_fits : FieldType → Value → Bool
  | .int, .int _ => true
  | .object _, .ref _ => true
  | .object _, .null => true
  | .array _, .ref _ => true
  | .array _, .null => true
  | _, _ => false
def y_jump (pc : Nat) (off : Int) : Option Nat := match (pc : Int) + off with
  | .ofNat t => some t
  | .negSucc _ => none
def y_go (pc : Nat) (off : Int) (len : Nat) (b : Bool) (ls : y_L) (st : List Value) (M : y_M) : Option y_F := match y_jump pc off with
  | some t => some (cond b t (pc + len), ls, st, M)
  | none => none
def y_cmp (c : ClassFile.Cond) (x y : Int32) : Bool := match c with
  | .eq => decide (x = y)
  | .ne => !decide (x = y)
  | .lt => decide (x < y)
  | .ge => decide (y ≤ x)
  | .gt => decide (y < x)
  | .le => decide (x ≤ y)
def y_int (f : Int32 → Int32) (pc : Nat) (ls : y_L) (st : List Value) (M : y_M) : Option y_F := match st with
  | .int x :: r => some (pc + 1, ls, .int (f x) :: r, M)
  | _ => none
def y_int2 (f : Int32 → Int32 → Int32) (pc : Nat) (ls : y_L) (st : List Value) (M : y_M) : Option y_F := match st with
  | .int y :: .int x :: r => some (pc + 1, ls, .int (f x y) :: r, M)
  | _ => none
def y_long2 (f : Int64 → Int64 → Int64) (pc : Nat) (ls : y_L) (st : List Value) (M : y_M) : Option y_F := match st with
  | .long y :: .long x :: r => some (pc + 1, ls, .long (f x y) :: r, M)
  | _ => none
def y_longI (f : Int64 → Int32 → Int64) (pc : Nat) (ls : y_L) (st : List Value) (M : y_M) : Option y_F := match st with
  | .int y :: .long x :: r => some (pc + 1, ls, .long (f x y) :: r, M)
  | _ => none
def y_load (i len pc : Nat) (ls : y_L) (st : List Value) (M : y_M) : Option y_F := match y_get ls i with
  | some v => some (pc + len, ls, v :: st, M)
  | none => none
def y_inB (i : Int32) (n : Nat) : Bool := !(decide (i < 0)) && Nat.blt i.toNatClampNeg n
def y_len : Instr → Nat
  | .bipush _ => 2
  | .iload _ => 2
  | .lload _ => 2
  | .aload _ => 2
  | .istore _ => 2
  | .lstore _ => 2
  | .astore _ => 2
  | .ldc _ => 2
  | .newarray _ => 2
  | .sipush _ => 3
  | .iinc _ _ => 3
  | .ifCond _ _ => 3
  | .if_icmp _ _ => 3
  | .ifnull _ => 3
  | .ifnonnull _ => 3
  | .goto _ => 3
  | .getfield _ => 3
  | .putfield _ => 3
  | .getstatic _ => 3
  | .ldc_w _ => 3
  | .ldc2_w _ => 3
  | .new _ => 3
  | .invokevirtual _ => 3
  | .invokestatic _ => 3
  | .invokespecial _ => 3
  | _ => 1
def y_loadI (i len pc : Nat) (ls : y_L) (st : List Value) (M : y_M) : Option y_F := match y_get ls i with
  | some (.int x) => some (pc + len, ls, .int x :: st, M)
  | _ => none
def y_loadL (i len pc : Nat) (ls : y_L) (st : List Value) (M : y_M) : Option y_F := match y_get ls i with
  | some (.long x) => some (pc + len, ls, .long x :: st, M)
  | _ => none
def y_loadA (i len pc : Nat) (ls : y_L) (st : List Value) (M : y_M) : Option y_F := match y_get ls i with
  | some (.ref x) => some (pc + len, ls, .ref x :: st, M)
  | some .null => some (pc + len, ls, .null :: st, M)
  | _ => none
def y_storeI (nL i len pc : Nat) (ls : y_L) (st : List Value) (M : y_M) : Option y_F := match st with
  | .int x :: r => if i < nL then some (pc + len, y_set ls i (.int x), r, M) else none
  | _ => none
def y_storeL (nL i len pc : Nat) (ls : y_L) (st : List Value) (M : y_M) : Option y_F := match st with
  | .long x :: r => if i + 1 < nL then some (pc + len, y_set2 ls i (.long x), r, M) else none
  | _ => none
def y_storeA (nL i len pc : Nat) (ls : y_L) (st : List Value) (M : y_M) : Option y_F := match st with
  | .ref x :: r => if i < nL then some (pc + len, y_set ls i (.ref x), r, M) else none
  | .null :: r => if i < nL then some (pc + len, y_set ls i .null, r, M) else none
  | _ => none
def y_inc (nL i : Nat) (n : Int) (pc : Nat) (ls : y_L) (st : List Value) (M : y_M) : Option y_F := match y_get ls i with
  | some (.int x) => if i < nL then some (pc + 3, y_set ls i (.int (x + Int32.ofInt n)), st, M) else none
  | _ => none
def y_br1 (cnd : ClassFile.Cond) (off : Int) (pc : Nat) (ls : y_L) (st : List Value) (M : y_M) : Option y_F := match st with
  | .int x :: r => y_go pc off 3 (y_cmp cnd x 0) ls r M
  | _ => none
def y_br2 (cnd : ClassFile.Cond) (off : Int) (pc : Nat) (ls : y_L) (st : List Value) (M : y_M) : Option y_F := match st with
  | .int y :: .int x :: r => y_go pc off 3 (y_cmp cnd x y) ls r M
  | _ => none
def y_brN (b : Bool) (off : Int) (pc : Nat) (ls : y_L) (st : List Value) (M : y_M) : Option y_F := match st with
  | .null :: r => y_go pc off 3 b ls r M
  | .ref _ :: r => y_go pc off 3 (!b) ls r M
  | _ => none
/-- the instructions that touch no cell -/
def y_pure (nL : Nat) (i : Instr) (pc : Nat) (ls : y_L) (st : List Value) (M : y_M) : Option y_F := match i with
  | .iconst n => some (pc + 1, ls, .int (Int32.ofInt n) :: st, M)
  | .bipush n => some (pc + 2, ls, .int (Int8.ofInt n).toInt32 :: st, M)
  | .sipush n => some (pc + 3, ls, .int (Int16.ofInt n).toInt32 :: st, M)
  | .lconst n => some (pc + 1, ls, .long (Int64.ofNat n.val) :: st, M)
  | .iload_n k => y_loadI k.val 1 pc ls st M
  | .iload k => y_loadI k 2 pc ls st M
  | .lload_n k => y_loadL k.val 1 pc ls st M
  | .lload k => y_loadL k 2 pc ls st M
  | .aload_n k => y_loadA k.val 1 pc ls st M
  | .aload k => y_loadA k 2 pc ls st M
  | .istore_n k => y_storeI nL k.val 1 pc ls st M
  | .istore k => y_storeI nL k 2 pc ls st M
  | .lstore_n k => y_storeL nL k.val 1 pc ls st M
  | .lstore k => y_storeL nL k 2 pc ls st M
  | .astore_n k => y_storeA nL k.val 1 pc ls st M
  | .astore k => y_storeA nL k 2 pc ls st M
  | .iinc k n => y_inc nL k n pc ls st M
  | .iadd => y_int2 (fun x y => x + y) pc ls st M
  | .isub => y_int2 (fun x y => x - y) pc ls st M
  | .imul => y_int2 (fun x y => x * y) pc ls st M
  | .iand => y_int2 (fun x y => x &&& y) pc ls st M
  | .ior => y_int2 (fun x y => x ||| y) pc ls st M
  | .ixor => y_int2 (fun x y => x ^^^ y) pc ls st M
  | .ishl => y_int2 (fun x y => x <<< (y &&& 31)) pc ls st M
  | .ishr => y_int2 (fun x y => x >>> (y &&& 31)) pc ls st M
  | .iushr => y_int2 (fun x y => (x.toUInt32 >>> (y.toUInt32 &&& Int32.toUInt32 31)).toInt32) pc ls st M
  | .ineg => y_int (fun x => -x) pc ls st M
  | .i2b => y_int (fun x => x.toInt8.toInt32) pc ls st M
  | .i2c => y_int (fun x => (x.toUInt32 % 65536).toInt32) pc ls st M
  | .ladd => y_long2 (fun x y => x + y) pc ls st M
  | .lsub => y_long2 (fun x y => x - y) pc ls st M
  | .lmul => y_long2 (fun x y => x * y) pc ls st M
  | .land => y_long2 (fun x y => x &&& y) pc ls st M
  | .lor => y_long2 (fun x y => x ||| y) pc ls st M
  | .lushr => y_longI (fun x y => (x.toUInt64 >>> (y.toInt64.toUInt64 &&& Int64.toUInt64 63)).toInt64) pc ls st M
  | .lshl => y_longI (fun x y => x <<< (y.toInt64 &&& 63)) pc ls st M
  | .lneg => (match st with
    | .long x :: r => some (pc + 1, ls, .long (-x) :: r, M)
    | _ => none)
  | .i2l => (match st with
    | .int x :: r => some (pc + 1, ls, .long x.toInt64 :: r, M)
    | _ => none)
  | .l2i => (match st with
    | .long x :: r => some (pc + 1, ls, .int x.toInt32 :: r, M)
    | _ => none)
  | .lcmp => (match st with
    | .long y :: .long x :: r => some (pc + 1, ls, .int (lg_cmp x y) :: r, M)
    | _ => none)
  | .dup => (match st with
    | .int x :: r => some (pc + 1, ls, .int x :: .int x :: r, M)
    | .ref x :: r => some (pc + 1, ls, .ref x :: .ref x :: r, M)
    | _ => none)
  | .pop => (match st with
    | .int _ :: r => some (pc + 1, ls, r, M)
    | .ref _ :: r => some (pc + 1, ls, r, M)
    | _ => none)
  | .ifCond cnd off => y_br1 cnd off pc ls st M
  | .if_icmp cnd off => y_br2 cnd off pc ls st M
  | .ifnull off => y_brN true off pc ls st M
  | .ifnonnull off => y_brN false off pc ls st M
  | .goto off => y_go pc off 3 true ls st M
  | _ => none
def y_switch (dflt lo hi : Int) (offs : Array Int) (pc : Nat) (ls : y_L) (st : List Value) (M : y_M) : Option y_F := match st with
  | .int x :: r => if x.toInt < lo ∨ hi < x.toInt then y_go pc dflt 0 true ls r M else (match offs[(x.toInt - lo).toNat]? with
    | some off => y_go pc off 0 true ls r M
    | none => none)
  | _ => none
end YDefs
