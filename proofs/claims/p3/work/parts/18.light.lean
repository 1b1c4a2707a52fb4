/-! LIGHT: the small machine once more, without the checks that a fit memory keeps of itself, and over any form of arrays; its runs are runs of the small machine. -/
section QDefs
abbrev q_C (ρ : Type) : Type := (FieldType × Nat × ρ) ⊕ (Nat × List Value)
abbrev q_M (ρ : Type) : Type := List (q_C ρ) × Nat × Nat
abbrev q_R (ρ : Type) : Type := (Option Value ⊕ Nat) × q_M ρ
abbrev q_F (ρ : Type) : Type := Nat × y_L × List Value × q_M ρ
/-- arrays: read, write, all 0, copied -/
abbrev q_K (ρ : Type) : Type := (ρ → Nat → Int32) × (ρ → Nat → Int32 → ρ) × ρ × (ρ → ρ → Nat → Nat → Nat → Option ρ)
variable {ρ : Type}
def q_law (K : q_K ρ) : Prop := (∀ f i v, K.1 (K.2.1 f i v) = upd (K.1 f) i v) ∧ (K.1 K.2.2.1 = fun _ => 0) ∧ (∀ f g a b n h, K.2.2.2 f g a b n = some h → K.1 h = va_cpy (K.1 f) (K.1 g) a b n)
def q_aC (K : q_K ρ) : q_C ρ → y_C
  | .inl (ty, n, f) => .inl (ty, n, K.1 f)
  | .inr x => .inr x
def q_aM (K : q_K ρ) (M : q_M ρ) : y_M := (M.1.map (q_aC K), M.2)
def q_aF (K : q_K ρ) (F : q_F ρ) : y_F := (F.1, F.2.1, F.2.2.1, q_aM K F.2.2.2)
def q_aR (K : q_K ρ) (R : q_R ρ) : y_R := (R.1, q_aM K R.2)
def q_D0 : y_M := ([], 0, 0)
def q_lift (M : q_M ρ) (o : Option y_F) : Option (q_F ρ) := match o with
  | some F => some (F.1, F.2.1, F.2.2.1, M)
  | none => none
def q_getf (fld : Nat → Option (Nat × Nat × Nat × FieldType)) (idx pc : Nat) (ls : y_L) (st : List Value) (M : q_M ρ) : Option (q_F ρ) := match st with
  | .ref a :: t => (match M.1[a]?, fld idx with
    | some (.inr (ci, fs)), some (cj, k, _, _) => (match Nat.beq ci cj, fs[k]? with
      | true, some v => some (pc + 3, ls, v :: t, M)
      | _, _ => none)
    | _, _ => none)
  | _ => none
def q_putf (ini : Bool) (fld : Nat → Option (Nat × Nat × Nat × FieldType)) (idx pc : Nat) (ls : y_L) (st : List Value) (M : q_M ρ) : Option (q_F ρ) := match st with
  | v :: .ref a :: t => (match M.1[a]?, fld idx with
    | some (.inr (ci, fs)), some (cj, k, fin, ty) => (match Nat.beq ci cj && (Nat.beq fin 0 || (Nat.beq fin 1 && ini)) && y_fits ty v && Nat.blt k fs.length with
      | true => some (pc + 3, ls, t, (M.1.set a (.inr (ci, fs.set k v)), M.2))
      | false => none)
    | _, _ => none)
  | _ => none
def q_ald (K : q_K ρ) (ty : FieldType) (pc : Nat) (ls : y_L) (st : List Value) (M : q_M ρ) : Option (q_F ρ) := match st with
  | .int i :: .ref a :: t => (match M.1[a]? with
    | some (.inl (ty', n, f)) => (match y_tyEq ty ty' && y_inB i n with
      | true => some (pc + 1, ls, .int (K.1 f i.toNatClampNeg) :: t, M)
      | false => none)
    | _ => none)
  | _ => none
def q_ast (K : q_K ρ) (ty : FieldType) (pc : Nat) (ls : y_L) (st : List Value) (M : q_M ρ) : Option (q_F ρ) := match st with
  | .int x :: .int i :: .ref a :: t => (match M.1[a]? with
    | some (.inl (ty', n, f)) => (match y_tyEq ty ty' && y_inB i n with
      | true => some (pc + 1, ls, t, (M.1.set a (.inl (ty', n, K.2.1 f i.toNatClampNeg (vp_nar ty x))), M.2))
      | false => none)
    | _ => none)
  | _ => none
def q_alen (pc : Nat) (ls : y_L) (st : List Value) (M : q_M ρ) : Option (q_F ρ) := match st with
  | .ref a :: t => (match M.1[a]? with
    | some (.inl (ty, n, _)) => (match y_tyEq ty ty with
      | true => some (pc + 1, ls, .int (Int32.ofNat n) :: t, M)
      | false => none)
    | _ => none)
  | _ => none
def q_new (ci : Nat) (fs : List Value) (pc : Nat) (ls : y_L) (st : List Value) (M : q_M ρ) : Option (q_F ρ) := match y_oks 0 fs && Nat.blt (M.1.length + 1) 1000000 with
  | true => some (pc + 3, ls, .ref M.1.length :: st, (M.1 ++ [.inr (ci, fs)], M.2.1 + 1, M.2.2 + fs.length))
  | false => none
def q_newa (K : q_K ρ) (ty : FieldType) (pc : Nat) (ls : y_L) (st : List Value) (M : q_M ρ) : Option (q_F ρ) := match st with
  | .int n :: t => (match y_tyEq ty ty && !decide (n < 0) && Nat.ble n.toNatClampNeg 134217728 && Nat.blt (M.1.length + 1) 1000000 with
    | true => some (pc + 2, ls, .ref M.1.length :: t, (M.1 ++ [.inl (ty, n.toNatClampNeg, K.2.2.1)], M.2.1 + 1, M.2.2 + n.toNatClampNeg))
    | false => none)
  | _ => none
def q_mkE (P : y_P) (mi idx pc : Nat) (ls : y_L) (st : List Value) (M : q_M ρ) : Option (q_F ρ) := match y_exc P mi idx, y_ins P mi (pc + 3), y_ins P mi (pc + 4) with
  | some (cE, ic), some (.dup, _), some (.invokespecial ic', _) => (match Nat.beq ic ic' && Nat.ble (y_words st) 6 && Nat.blt (M.1.length + 1) 1000000 with
    | true => some (pc + 7, ls, .ref M.1.length :: st, (M.1 ++ [.inr (cE, [])], M.2.1 + 1, M.2.2 + 6))
    | false => none)
  | _, _, _ => none
def q_out1 : List Value → Bool
  | .ref a :: _ => Nat.ble 1000000 a
  | _ => false
def q_out2 : List Value → Bool
  | _ :: .ref a :: _ => Nat.ble 1000000 a
  | _ => false
def q_outC (P : y_P) (mi : Nat) (i : Instr) (pc : Nat) (ls : y_L) (st : List Value) (M : q_M ρ) : Option (q_F ρ) := match y_outs (y_far0 P) (y_fld P mi) (y_con P mi) i pc ls st q_D0 with
  | some F => (match y_oks 0 (F.2.2.1.take 1) with
    | true => some (F.1, F.2.1, F.2.2.1, M)
    | false => none)
  | none => none
def q_other (K : q_K ρ) (P : y_P) (mi : Nat) (i : Instr) (pc : Nat) (ls : y_L) (st : List Value) (M : q_M ρ) : Option (q_F ρ) := match i with
  | .getfield idx => cond (q_out1 st) (q_outC P mi (.getfield idx) pc ls st M) (q_getf (y_fld P mi) idx pc ls st M)
  | .putfield idx => q_putf (y_met P mi).2.1 (y_fld P mi) idx pc ls st M
  | .iaload => cond (q_out2 st) (q_outC P mi .iaload pc ls st M) (q_ald K .int pc ls st M)
  | .baload => cond (q_out2 st) (q_outC P mi .baload pc ls st M) (q_ald K .byte pc ls st M)
  | .iastore => q_ast K .int pc ls st M
  | .bastore => q_ast K .byte pc ls st M
  | .arraylength => cond (q_out1 st) (q_outC P mi .arraylength pc ls st M) (q_alen pc ls st M)
  | .new idx => (match y_cls P mi idx with
    | some (ci, fs) => q_new ci fs pc ls st M
    | none => q_mkE P mi idx pc ls st M)
  | .newarray .int => q_newa K .int pc ls st M
  | .newarray .byte => q_newa K .byte pc ls st M
  | .ldc idx => (match y_con P mi (2 * idx) with
    | some (.int v) => some (pc + 2, ls, .int v :: st, M)
    | _ => q_outC P mi (.ldc idx) pc ls st M)
  | .ldc_w idx => (match y_con P mi (2 * idx) with
    | some (.int v) => some (pc + 3, ls, .int v :: st, M)
    | _ => none)
  | .ldc2_w idx => (match y_con P mi (2 * idx) with
    | some (.long v) => some (pc + 3, ls, .long v :: st, M)
    | _ => none)
  | .getstatic idx => q_outC P mi (.getstatic idx) pc ls st M
  | .tableswitch d lo hi offs => q_lift M (y_switch d lo hi offs pc ls st q_D0)
  | _ => q_lift M (y_pure (y_met P mi).1 i pc ls st q_D0)
def q_recv (ci : Nat) (as : List Value) (Ms : List (q_C ρ)) : Bool := match as with
  | .ref a :: _ => (match Ms[a]? with
    | some (.inr (cj, _)) => Nat.beq ci cj
    | _ => false)
  | _ => false
def q_copy (K : q_K ρ) (st : List Value) (M : q_M ρ) : Option (List Value × q_M ρ) := match st with
  | .int n :: .int dp :: .ref a1 :: .int sp :: .ref a0 :: t => (match M.1[a0]?, M.1[a1]? with
    | some (.inl (.int, n0, f)), some (.inl (.int, n1, g)) => (match !decide (sp < 0) && !decide (dp < 0) && !decide (n < 0) && Nat.ble (sp.toNatClampNeg + n.toNatClampNeg) n0 && Nat.ble (dp.toNatClampNeg + n.toNatClampNeg) n1 with
      | true => (match K.2.2.2 f g sp.toNatClampNeg dp.toNatClampNeg n.toNatClampNeg with
        | some h => some (t, (M.1.set a1 (.inl (.int, n1, h)), M.2))
        | none => none)
      | false => none)
    | _, _ => none)
  | _ => none
def q_fitB (P : y_P) (kind kd cm k ci : Nat) (st : List Value) (M : q_M ρ) : Bool :=
  (Nat.beq kind kd || (Nat.beq kind 4 && Nat.beq kd 0)) && Nat.ble k st.length && Nat.ble (y_words (st.drop k)) 8 && Nat.ble (lg_sl (st.take k).reverse).length (y_met P cm).1 &&
    (bif Nat.beq kind 0 then q_recv ci (st.take k).reverse M.1 else bif Nat.beq kind 2 then y_isRef (st.take k).reverse else bif Nat.beq kind 4 then y_recvO (y_far0 P) ci (st.take k).reverse else true)
def q_call (K : q_K ρ) (P : y_P) (go : Nat → Nat → q_F ρ → Option (q_R ρ)) (d mi kd idx pc : Nat) (ls : y_L) (st : List Value) (M : q_M ρ) : Option (q_R ρ) := match y_cal P mi idx with
  | none => none
  | some (kind, cm, k, ci) =>
    bif Nat.beq kind 3 then (match st with
      | .ref _ :: t => bif Nat.beq kd 2 && Nat.ble (y_words t) 8 then go d mi (pc + 3, ls, t, M) else none
      | _ => none)
    else bif Nat.beq kind 5 then (match y_math cm st with
      | some (v, t) => bif Nat.beq kd 1 && Nat.ble (y_words t) 8 then go d mi (pc + 3, ls, v :: t, M) else none
      | none => none)
    else bif Nat.beq kind 6 then (match q_copy K st M with
      | some (t, M') => bif Nat.beq kd 1 && Nat.ble (y_words t) 8 then go d mi (pc + 3, ls, t, M') else none
      | none => none)
    else bif q_fitB P kind kd cm k ci st M then (match d with
      | 0 => none
      | d' + 1 => (match go d' cm (0, lv_args 0 (st.take k).reverse, [], M) with
        | none => none
        | some (.inl v, M') => go d mi (pc + 3, ls, v.toList ++ st.drop k, M')
        | some (.inr a, M') => (match y_han P mi pc with
          | none => some (.inr a, M')
          | some (h, cE) => (match M'.1[a]? with
            | some (.inr (cj, _)) => bif Nat.beq cE cj then go d mi (h, ls, [.ref a], M') else none
            | _ => none))))
    else none
def q_one (K : q_K ρ) (P : y_P) (go : Nat → Nat → q_F ρ → Option (q_R ρ)) (d mi : Nat) (F : q_F ρ) : Option (q_R ρ) := match F with
  | (pc, ls, st, M) => (match y_ins P mi pc with
    | none => none
    | some (i, _) => (match i with
      | .ireturn => (match st, (y_met P mi).2.2 with
        | [.int v], some ty => bif y_narB ty v then some (.inl (some (.int v)), M) else none
        | _, _ => none)
      | .lreturn => (match st, (y_met P mi).2.2 with
        | [.long v], some .long => some (.inl (some (.long v)), M)
        | _, _ => none)
      | .return_ => (match st, (y_met P mi).2.2 with
        | [], none => some (.inl none, M)
        | _, _ => none)
      | .athrow => (match st, y_han P mi pc with
        | .ref a :: _, none => some (.inr a, M)
        | _, _ => none)
      | .invokevirtual idx => q_call K P go d mi 0 idx pc ls st M
      | .invokestatic idx => q_call K P go d mi 1 idx pc ls st M
      | .invokespecial idx => q_call K P go d mi 2 idx pc ls st M
      | _ => (match q_other K P mi i pc ls st M with
        | some F' => go d mi F'
        | none => none)))
noncomputable def q_run (K : q_K ρ) (P : y_P) (n : Nat) : Nat → Nat → q_F ρ → Option (q_R ρ) := Nat.rec (motive := fun _ => Nat → Nat → q_F ρ → Option (q_R ρ)) (fun _ _ _ => none) (fun _ go => q_one K P go) n
theorem q_run_s (K : q_K ρ) (P : y_P) (n d mi : Nat) (F : q_F ρ) : q_run K P (n + 1) d mi F = q_one K P (q_run K P n) d mi F := rfl
end QDefs
