/-! RUN: the small machine's run, with calls and throws. -/
section YRun
/-- tables: instructions by method and pc; fields, classes, constants, calls by method and pool number; of a method: its locals, whether it is a constructor, its result; its handlers by pc -/
abbrev y_P : Type := (Nat → Nat → Option (Instr × Nat)) × (Nat → Nat → Option (Nat × Nat × Nat × FieldType)) × (Nat → Nat → Option (Nat × List Value)) × (Nat → Nat → Option Value) × (Nat → Nat → Option (Nat × Nat × Nat × Nat)) × (Nat → Nat × Bool × Option FieldType) × (Nat → Nat → Option (Nat × Nat)) × (Nat → Option y_C) × (Nat → Nat → Option (Nat × Nat))
abbrev y_ins (P : y_P) : Nat → Nat → Option (Instr × Nat) := P.1
abbrev y_fld (P : y_P) : Nat → Nat → Option (Nat × Nat × Nat × FieldType) := P.2.1
abbrev y_cls (P : y_P) : Nat → Nat → Option (Nat × List Value) := P.2.2.1
abbrev y_con (P : y_P) : Nat → Nat → Option Value := P.2.2.2.1
abbrev y_cal (P : y_P) : Nat → Nat → Option (Nat × Nat × Nat × Nat) := P.2.2.2.2.1
abbrev y_met (P : y_P) : Nat → Nat × Bool × Option FieldType := P.2.2.2.2.2.1
abbrev y_han (P : y_P) : Nat → Nat → Option (Nat × Nat) := P.2.2.2.2.2.2.1
/-- what stands outside -/
abbrev y_far0 (P : y_P) : Nat → Option y_C := P.2.2.2.2.2.2.2.1
/-- exceptions that are made: by method and pool number, the class and the constructor's pool number -/
abbrev y_exc (P : y_P) : Nat → Nat → Option (Nat × Nat) := P.2.2.2.2.2.2.2.2
def y_cell (P : y_P) (mi : Nat) (i : Instr) (pc : Nat) (ls : y_L) (st : List Value) (M : y_M) : Option y_F := match i with
  | .getfield idx => y_getf (y_fld P mi) idx pc ls st M
  | .putfield idx => y_putf (y_met P mi).2.1 (y_fld P mi) idx pc ls st M
  | .iaload => y_ald .int pc ls st M
  | .baload => y_ald .byte pc ls st M
  | .iastore => y_ast .int pc ls st M
  | .bastore => y_ast .byte pc ls st M
  | .arraylength => y_alen pc ls st M
  | .new idx => y_new (y_cls P mi) idx pc ls st M
  | .newarray .int => y_newa .int pc ls st M
  | .newarray .byte => y_newa .byte pc ls st M
  | .ldc idx => (match y_con P mi (2 * idx) with
    | some (.int v) => some (pc + 2, ls, .int v :: st, M)
    | _ => none)
  | .ldc_w idx => (match y_con P mi (2 * idx) with
    | some (.int v) => some (pc + 3, ls, .int v :: st, M)
    | _ => none)
  | .ldc2_w idx => (match y_con P mi (2 * idx) with
    | some (.long v) => some (pc + 3, ls, .long v :: st, M)
    | _ => none)
  | .tableswitch d lo hi offs => y_switch d lo hi offs pc ls st M
  | _ => y_pure (y_met P mi).1 i pc ls st M
def y_narB (ty : FieldType) (v : Int32) : Bool := match ty with
  | .int => true
  | .boolean => decide (v &&& 1 = v)
  | .byte => decide (v.toInt8.toInt32 = v)
  | .char => decide (v.toUInt32.toUInt16.toUInt32.toInt32 = v)
  | _ => false
def y_words (st : List Value) : Nat := (st.map fun v => v.category).sum
/-- the receiver of a call of kind 0 is a cell of that class -/
def y_recv (ci : Nat) (as : List Value) (Ms : List y_C) : Bool := match as with
  | .ref a :: _ => (match Ms[a]? with
    | some (.inr (cj, _)) => Nat.beq ci cj
    | _ => false)
  | _ => false
def y_isRef (as : List Value) : Bool := match as with
  | .ref _ :: _ => true
  | _ => false
/-- arraycopy between two arrays of ints -/
def y_copy (st : List Value) (M : y_M) : Option (List Value × y_M) := match st with
  | .int n :: .int dp :: .ref a1 :: .int sp :: .ref a0 :: t => (match M.1[a0]?, M.1[a1]? with
    | some (.inl (.int, n0, f)), some (.inl (.int, n1, g)) => (match !decide (sp < 0) && !decide (dp < 0) && !decide (n < 0) && Nat.ble (sp.toNatClampNeg + n.toNatClampNeg) n0 && Nat.ble (dp.toNatClampNeg + n.toNatClampNeg) n1 with
      | true => some (t, (M.1.set a1 (.inl (.int, n1, va_cpy f g sp.toNatClampNeg dp.toNatClampNeg n.toNatClampNeg)), M.2))
      | false => none)
    | _, _ => none)
  | _ => none
/-- a new exception by its constructor: new, dup, invokespecial -/
def y_mkE (P : y_P) (mi : Nat) (i : Instr) (pc : Nat) (ls : y_L) (st : List Value) (M : y_M) : Option y_F := match i with
  | .new idx => (match y_exc P mi idx, y_ins P mi (pc + 3), y_ins P mi (pc + 4) with
    | some (cE, ic), some (.dup, _), some (.invokespecial ic', _) => (match Nat.beq ic ic' && y_wf ls st M.1 && Nat.ble (y_words st) 6 with
      | true => some (pc + 7, ls, .ref M.1.length :: st, (M.1 ++ [.inr (cE, [])], M.2.1 + 1, M.2.2 + 6))
      | false => none)
    | _, _, _ => none)
  | _ => none
/-- the receiver of a call of kind 4 stands outside -/
def y_recvO (O : Nat → Option y_C) (ci : Nat) (as : List Value) : Bool := match as with
  | .ref a :: _ => (match O a with
    | some (.inr (cj, _)) => Nat.beq ci cj
    | _ => false)
  | _ => false
/-- Math.min of longs, Math.max and Math.min of ints -/
def y_math (cm : Nat) (st : List Value) : Option (Value × List Value) := match cm, st with
  | 0, .long y :: .long x :: t => some (.long (if y < x then y else x), t)
  | 1, .int y :: .int x :: t => some (.int (if x < y then y else x), t)
  | 2, .int y :: .int x :: t => some (.int (if y < x then y else x), t)
  | _, _ => none
theorem y_math_spec {cm : Nat} {st t : List Value} {v : Value} (h : y_math cm st = some (v, t)) : (cm = 0 ∧ ∃ x y : Int64, st = .long y :: .long x :: t ∧ v = .long (if y < x then y else x)) ∨ (cm = 1 ∧ ∃ x y : Int32, st = .int y :: .int x :: t ∧ v = .int (if x < y then y else x)) ∨ (cm = 2 ∧ ∃ x y : Int32, st = .int y :: .int x :: t ∧ v = .int (if y < x then y else x)) := by
  unfold y_math at h
  split at h
  · cases h; exact Or.inl ⟨rfl, _, _, rfl, rfl⟩
  · cases h; exact Or.inr (Or.inl ⟨rfl, _, _, rfl, rfl⟩)
  · cases h; exact Or.inr (Or.inr ⟨rfl, _, _, rfl, rfl⟩)
  · cases h
def y_mname : Nat → MethodName
  | 0 => Lib.MathLoose.min_long.x
  | 1 => Lib.Math.max.name
  | _ => Lib.Math.min.name
/-- kinds: 4 virtual on a thing outside, 0 virtual on a cell, 1 static, 2 a constructor of ours, 3 Object's constructor; the method, how many values it takes (the receiver too), the receiver's class -/
def y_call (P : y_P) (go : Nat → Nat → y_F → Option y_R) (d mi kd idx pc : Nat) (ls : y_L) (st : List Value) (M : y_M) : Option y_R := match y_cal P mi idx with
  | none => none
  | some (kind, cm, k, ci) =>
    if kind = 3 then (match st with
      | .ref _ :: t => if kd = 2 ∧ y_words t ≤ 8 then go d mi (pc + 3, ls, t, M) else none
      | _ => none)
    else if kind = 5 then (match y_math cm st with
      | some (v, t) => if kd = 1 ∧ y_words t ≤ 8 then go d mi (pc + 3, ls, v :: t, M) else none
      | none => none)
    else if kind = 6 then (match y_copy st M with
      | some (t, M') => if kd = 1 ∧ y_words t ≤ 8 then go d mi (pc + 3, ls, t, M') else none
      | none => none)
    else if (kind = kd ∨ (kind = 4 ∧ kd = 0)) ∧ k ≤ st.length ∧ y_words (st.drop k) ≤ 8 ∧ y_wf ls (st.drop k) M.1 = true ∧ (lg_sl (st.take k).reverse).length ≤ (y_met P cm).1 ∧ (kind = 0 → y_recv ci (st.take k).reverse M.1 = true) ∧ (kind = 2 → y_isRef (st.take k).reverse = true) ∧ (kind = 4 → y_recvO (y_far0 P) ci (st.take k).reverse = true) then (match d with
      | 0 => none
      | d' + 1 => (match go d' cm (0, lv_args 0 (st.take k).reverse, [], M) with
        | none => none
        | some (.inl v, M') => go d mi (pc + 3, ls, v.toList ++ st.drop k, M')
        | some (.inr a, M') => (match y_han P mi pc with
          | none => some (.inr a, M')
          | some (h, cE) => (match M'.1[a]? with
            | some (.inr (cj, _)) => if cE = cj then go d mi (h, ls, [.ref a], M') else none
            | _ => none))))
    else none
def y_one (P : y_P) (go : Nat → Nat → y_F → Option y_R) (d mi : Nat) (F : y_F) : Option y_R := match F with
  | (pc, ls, st, M) => (match y_ins P mi pc with
    | none => none
    | some (i, len) => (match i with
      | .ireturn => (match st, (y_met P mi).2.2 with
        | [.int v], some ty => if y_narB ty v = true then some (.inl (some (.int v)), M) else none
        | _, _ => none)
      | .lreturn => (match st, (y_met P mi).2.2 with
        | [.long v], some .long => some (.inl (some (.long v)), M)
        | _, _ => none)
      | .return_ => (match st, (y_met P mi).2.2 with
        | [], none => some (.inl none, M)
        | _, _ => none)
      | .athrow => (match st, y_han P mi pc with
        | .ref a :: _, none => some (.inr a, M)
        | _, _ => none)
      | .invokevirtual idx => y_call P go d mi 0 idx pc ls st M
      | .invokestatic idx => y_call P go d mi 1 idx pc ls st M
      | .invokespecial idx => y_call P go d mi 2 idx pc ls st M
      | _ => (match y_cell P mi i pc ls st M with
        | some F' => go d mi F'
        | none => (match y_outs (y_far0 P) (y_fld P mi) (y_con P mi) i pc ls st M with
          | some F' => go d mi F'
          | none => (match y_mkE P mi i pc ls st M with
            | some F' => go d mi F'
            | none => none)))))
noncomputable def y_run (P : y_P) (n : Nat) : Nat → Nat → y_F → Option y_R := Nat.rec (motive := fun _ => Nat → Nat → y_F → Option y_R) (fun _ _ _ => none) (fun _ go => y_one P go) n
theorem y_run_s (P : y_P) (n d mi : Nat) (F : y_F) : y_run P (n + 1) d mi F = y_one P (y_run P n) d mi F := rfl
end YRun
