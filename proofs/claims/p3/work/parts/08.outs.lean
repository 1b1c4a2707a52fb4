/-! OUTS: what stands outside the small machine's memory and is read alone: String constants, their bytes, statics. -/
section YOuts
def y_outs (O : Nat → Option y_C) (fld : Nat → Option (Nat × Nat × Nat × FieldType)) (con : Nat → Option Value) (i : Instr) (pc : Nat) (ls : y_L) (st : List Value) (M : y_M) : Option y_F := match i with
  | .getfield idx => (match st with
    | .ref a :: t => (match O a, fld idx with
      | some (.inr (ci, fs)), some (cj, k, _, _) => (match Nat.beq ci cj, fs[k]? with
        | true, some v => some (pc + 3, ls, v :: t, M)
        | _, _ => none)
      | _, _ => none)
    | _ => none)
  | .baload => (match st with
    | .int ix :: .ref a :: t => (match O a with
      | some (.inl (.byte, n, f)) => (match y_inB ix n with
        | true => some (pc + 1, ls, .int (f ix.toNatClampNeg) :: t, M)
        | false => none)
      | _ => none)
    | _ => none)
  | .iaload => (match st with
    | .int ix :: .ref a :: t => (match O a with
      | some (.inl (.int, n, f)) => (match y_inB ix n with
        | true => some (pc + 1, ls, .int (f ix.toNatClampNeg) :: t, M)
        | false => none)
      | _ => none)
    | _ => none)
  | .arraylength => (match st with
    | .ref a :: t => (match O a with
      | some (.inl (.byte, n, _)) => some (pc + 1, ls, .int (Int32.ofNat n) :: t, M)
      | some (.inl (.int, n, _)) => some (pc + 1, ls, .int (Int32.ofNat n) :: t, M)
      | _ => none)
    | _ => none)
  | .ldc idx => (match con (2 * idx) with
    | some (.ref a) => some (pc + 2, ls, .ref a :: st, M)
    | _ => none)
  | .getstatic idx => (match con (2 * idx + 1) with
    | some (.int v) => some (pc + 3, ls, .int v :: st, M)
    | some (.retAddr k) => some (pc + 3, ls, .retAddr k :: st, M)
    | _ => none)
  | _ => none
def y_far : Value → Bool
  | .ref k => Nat.ble 1000000 k
  | _ => true
variable {p : Program} {l : Launch} {e : Env} {R : Room} {s : State} {m : MethodId} {args : Array Value} {below : List Frame} {meth : Method} {c : Code} {Q : State → Prop}
variable {D : va_G} {cl : List vw_C} {kA : FieldType → ClassId} {A : Nat → Prop} {r0 : Nat → Nat} {n0 c0 s0 nL : Nat} {cc : ByteArray} {own : String}
def y_OutOk (s : State) (args : Array Value) (own : String) (A : Nat → Prop) (r0 : Nat → Nat) (O : Nat → Option y_C) (fld : Nat → Option (Nat × Nat × Nat × FieldType)) (con : Nat → Option Value) : Prop :=
  (∀ (a ci : Nat) (fs : List Value) (idx k fin : Nat) (ty : FieldType) (v : Value), O a = some (.inr (ci, fs)) → fld idx = some (ci, k, fin, ty) → fs[k]? = some v → 1000000 ≤ a ∧ y_far v = true ∧ ∃ o n d ref, va_OF o n d (y_tv r0 v) (r0 a) A s s.heap ∧ (Cond.fieldLink own idx ref n d).before args s = true ∧ ∀ x, s.fieldFound? o n d = some x → s.fieldFound? ref n d = some x) ∧
  (∀ (a n : Nat) (f : Nat → Int32) (ty : FieldType), O a = some (.inl (ty, n, f)) → 1000000 ≤ a ∧ va_T ty (r0 a) n (fun j => .int (f j)) A s s.heap) ∧
  (∀ (idx a : Nat), con (2 * idx) = some (.ref a) → 1000000 ≤ a ∧ ∃ tx, vk_R own idx tx (r0 a) s) ∧
  (∀ (idx : Nat) (v : Value), con (2 * idx + 1) = some v → y_far v = true ∧ ∃ C n d ref, va_Z C n d (y_tv r0 v) A s s.heap ∧ (Cond.fieldLink own idx ref n d).before args s = true ∧ ∀ x, s.fieldFound? C n d = some x → s.fieldFound? ref n d = some x)
theorem y_far_tv {r : Nat → Nat} (hE : y_Ext r0 n0 r) {v : Value} (h : y_far v = true) : y_tv r v = y_tv r0 v := by
  cases v with
  | ref k => exact congrArg Value.ref (hE k (Or.inr (Nat.ble_eq.mp h)))
  | retAddr k => exact y_tv_op (hE _ (Or.inr (by omega)))
  | _ => rfl
theorem y_outsW (hx : p.tables.exec = Jvm.exec) (hb : c.code = cc) (hown : s.vm.findClass own = some m.cls) {O : Nat → Option y_C} {fld : Nat → Option (Nat × Nat × Nat × FieldType)} {con : Nat → Option Value} (hO : y_OutOk s args own A r0 O fld con)
    {i : Instr} {len pc : Nat} {ls : y_L} {st : List Value} {M : y_M} {F : y_F} (hdg : decode cc pc = .ok (i, len)) (hlen : len = y_len i) (h : y_outs O fld con i pc ls st M = some F)
    (kk : y_Wd p l e R s m args below meth c D cl kA A r0 n0 c0 s0 nL Q F) : y_Wd p l e R s m args below meth c D cl kA A r0 n0 c0 s0 nL Q (pc, ls, st, M) := by
  subst hlen
  obtain ⟨o1, o2, o3, o4⟩ := hO
  intro r H locs la hE hn hc hs hw hS hl
  unfold y_outs at h
  split at h
  · split at h
    case h_2 => cases h
    rename_i a t
    split at h
    case h_2 => cases h
    rename_i ci fs cj k fin ty hM hf
    split at h
    case h_2 => cases h
    rename_i v hbq hv
    cases h
    have hci : ci = cj := Nat.eq_of_beq_eq_true hbq
    subst hci
    obtain ⟨h1, h2, on, nn, dn, rn, h3, h4, h5⟩ := o1 a ci fs _ k fin ty v hM hf hv
    have key := kk r H locs la hE hn hc hs hw hS hl
    have e1 : y_ts r (v :: t) = y_tv r0 v :: y_ts r t := by
      show y_tv r v :: y_ts r t = _
      rw [y_far_tv hE h2]
    dsimp only at key
    rw [e1] at key
    have e2 : y_ts r (Value.ref a :: t) = Value.ref (r0 a) :: y_ts r t := by
      show Value.ref (r a) :: y_ts r t = _
      rw [hE a (Or.inr h1)]
    dsimp only
    rw [e2]
    exact vk_getf hx hb h3 hS hown h4 h5 hdg key
  · split at h
    case h_2 => cases h
    rename_i ix a t
    split at h
    case h_2 => cases h
    rename_i n f hM
    split at h
    case h_2 => cases h
    rename_i hbq
    cases h
    obtain ⟨h1, h2⟩ := o2 a n f _ hM
    have e2 : y_ts r (Value.int ix :: Value.ref a :: t) = Value.int ix :: Value.ref (r0 a) :: y_ts r t := by
      show Value.int ix :: Value.ref (r a) :: y_ts r t = _
      rw [hE a (Or.inr h1)]
    dsimp only
    rw [e2]
    exact va_tb hx hb h2 hS (y_inB_ok hbq) rfl hdg (kk r H locs la hE hn hc hs hw hS hl)
  · split at h
    case h_2 => cases h
    rename_i ix a t
    split at h
    case h_2 => cases h
    rename_i n f hM
    split at h
    case h_2 => cases h
    rename_i hbq
    cases h
    obtain ⟨h1, h2⟩ := o2 a n f _ hM
    have e2 : y_ts r (Value.int ix :: Value.ref a :: t) = Value.int ix :: Value.ref (r0 a) :: y_ts r t := by
      show Value.int ix :: Value.ref (r a) :: y_ts r t = _
      rw [hE a (Or.inr h1)]
    dsimp only
    rw [e2]
    exact va_ti hx hb h2 hS (y_inB_ok hbq) rfl hdg (kk r H locs la hE hn hc hs hw hS hl)
  · split at h
    case h_2 => cases h
    rename_i a t
    split at h
    case h_3 => cases h
    all_goals
      rename_i n f hM
      cases h
      obtain ⟨h1, h2⟩ := o2 a n f _ hM
      have e2 : y_ts r (Value.ref a :: t) = Value.ref (r0 a) :: y_ts r t := by
        show Value.ref (r a) :: y_ts r t = _
        rw [hE a (Or.inr h1)]
      dsimp only
      rw [e2]
      exact va_tlen hx hb h2 hS rfl hdg (kk r H locs la hE hn hc hs hw hS hl)
  · split at h
    case h_2 => cases h
    rename_i a hcn
    cases h
    obtain ⟨h1, tx, h2⟩ := o3 _ a hcn
    have key := kk r H locs la hE hn hc hs hw hS hl
    have e1 : y_ts r (Value.ref a :: st) = Value.ref (r0 a) :: y_ts r st := by
      show Value.ref (r a) :: y_ts r st = _
      rw [hE a (Or.inr h1)]
    dsimp only at key
    rw [e1] at key
    exact va_ldcS hx hb hown h2 hdg key
  · split at h
    case h_3 => cases h
    · rename_i v hcn
      cases h
      obtain ⟨-, C, nn, dn, rn, h3, h4, h5⟩ := o4 _ _ hcn
      exact va_gets hx hb h3 hS hown h4 h5 hdg (kk r H locs la hE hn hc hs hw hS hl)
    · rename_i k hcn
      cases h
      obtain ⟨-, C, nn, dn, rn, h3, h4, h5⟩ := o4 _ _ hcn
      have key := kk r H locs la hE hn hc hs hw hS hl
      have e1 : y_ts r (Value.retAddr k :: st) = y_tv r0 (.retAddr k) :: y_ts r st := by
        show y_tv r (.retAddr k) :: y_ts r st = _
        rw [y_tv_op (hE _ (Or.inr (by omega)))]
      dsimp only at key
      rw [e1] at key
      exact va_gets hx hb h3 hS hown h4 h5 hdg key
  · cases h
end YOuts
