/-! CELLS: the small machine's instructions on its own cells, and that they are sound. -/
section YCells
def y_getf (fld : Nat → Option (Nat × Nat × Nat × FieldType)) (idx pc : Nat) (ls : y_L) (st : List Value) (M : y_M) : Option y_F := match st with
  | .ref a :: t => (match M.1[a]?, fld idx with
    | some (.inr (ci, fs)), some (cj, k, _, _) => (match Nat.beq ci cj, fs[k]? with
      | true, some v => some (pc + 3, ls, v :: t, M)
      | _, _ => none)
    | _, _ => none)
  | _ => none
def y_putf (ini : Bool) (fld : Nat → Option (Nat × Nat × Nat × FieldType)) (idx pc : Nat) (ls : y_L) (st : List Value) (M : y_M) : Option y_F := match st with
  | v :: .ref a :: t => (match M.1[a]?, fld idx with
    | some (.inr (ci, fs)), some (cj, k, fin, ty) => (match Nat.beq ci cj && (Nat.beq fin 0 || (Nat.beq fin 1 && ini)) && y_fits ty v && Nat.blt k fs.length with
      | true => some (pc + 3, ls, t, (M.1.set a (.inr (ci, fs.set k v)), M.2))
      | false => none)
    | _, _ => none)
  | _ => none
def y_tyEq : FieldType → FieldType → Bool
  | .int, .int => true
  | .byte, .byte => true
  | _, _ => false
def y_ald (ty : FieldType) (pc : Nat) (ls : y_L) (st : List Value) (M : y_M) : Option y_F := match st with
  | .int i :: .ref a :: t => (match M.1[a]? with
    | some (.inl (ty', n, f)) => (match y_tyEq ty ty' && y_inB i n with
      | true => some (pc + 1, ls, .int (f i.toNatClampNeg) :: t, M)
      | false => none)
    | _ => none)
  | _ => none
def y_ast (ty : FieldType) (pc : Nat) (ls : y_L) (st : List Value) (M : y_M) : Option y_F := match st with
  | .int x :: .int i :: .ref a :: t => (match M.1[a]? with
    | some (.inl (ty', n, f)) => (match y_tyEq ty ty' && y_inB i n with
      | true => some (pc + 1, ls, t, (M.1.set a (.inl (ty', n, upd f i.toNatClampNeg (vp_nar ty x))), M.2))
      | false => none)
    | _ => none)
  | _ => none
def y_alen (pc : Nat) (ls : y_L) (st : List Value) (M : y_M) : Option y_F := match st with
  | .ref a :: t => (match M.1[a]? with
    | some (.inl (ty, n, _)) => (match y_tyEq ty ty with
      | true => some (pc + 1, ls, .int (Int32.ofNat n) :: t, M)
      | false => none)
    | _ => none)
  | _ => none
/-- nothing here names a cell that isn't there -/
def y_wf (ls : y_L) (st : List Value) (Ms : List y_C) : Bool := Nat.blt Ms.length 1000000 && y_oks Ms.length st && y_okL Ms.length ls && y_okM Ms
def y_new (cls : Nat → Option (Nat × List Value)) (idx pc : Nat) (ls : y_L) (st : List Value) (M : y_M) : Option y_F := match cls idx with
  | some (ci, fs) => (match y_wf ls st M.1 && y_oks 0 fs with
    | true => some (pc + 3, ls, .ref M.1.length :: st, (M.1 ++ [.inr (ci, fs)], M.2.1 + 1, M.2.2 + fs.length))
    | false => none)
  | none => none
def y_newa (ty : FieldType) (pc : Nat) (ls : y_L) (st : List Value) (M : y_M) : Option y_F := match st with
  | .int n :: t => (match y_wf ls t M.1 && y_tyEq ty ty && !decide (n < 0) && Nat.ble n.toNatClampNeg 134217728 with
    | true => some (pc + 2, ls, .ref M.1.length :: t, (M.1 ++ [.inl (ty, n.toNatClampNeg, fun _ => 0)], M.2.1 + 1, M.2.2 + n.toNatClampNeg))
    | false => none)
  | _ => none
end YCells
section YCellsW
variable {p : Program} {l : Launch} {e : Env} {R : Room} {s : State} {m : MethodId} {args : Array Value} {below : List Frame} {meth : Method} {c : Code} {Q : State → Prop}
variable {D : va_G} {cl : List vw_C} {kA : FieldType → ClassId} {A : Nat → Prop} {r0 : Nat → Nat} {n0 c0 s0 nL : Nat} {cc : ByteArray} {own : String} {Ts : List Cond}
/-- what the tables say of the fields that the class 'own' names -/
def y_FldOk (s : State) (args : Array Value) (own : String) (Ts : List Cond) (cl : List vw_C) (fld : Nat → Option (Nat × Nat × Nat × FieldType)) : Prop :=
  ∀ (idx ci k fin : Nat) (ty : FieldType) (C : String) (T : u_T) (N : Nat), fld idx = some (ci, k, fin, ty) → cl[ci]? = some (C, T, N) → ∃ (ty0 : Nat → FieldType), k < N ∧ (∀ w ∈ u_ws C T N, w ∈ Ts) ∧
    (∀ j, j < N → parseFieldDescriptor (T j).2.2.1 = some (ty0 j)) ∧ (∀ a, a < N → ∀ b, b < N → a ≠ b → (T a).2.1 ≠ (T b).2.1) ∧ ty0 k = ty ∧ (fin = 0 → (T k).2.2.2 = false) ∧ (fin = 1 → (T k).2.2.2 = true ∧ (T k).1 = own) ∧
    ((Cond.fieldLink own idx (T k).1 (T k).2.1 (T k).2.2.1).before args s = true ∨ (fin ≠ 1 ∧ ∃ host, (Cond.fieldLinkNest own idx (T k).1 (T k).2.1 (T k).2.2.1 host).before args s = true))
theorem y_fits_ok {r : Nat → Nat} {ty : FieldType} {v : Value} (h : y_fits ty v = true) : narrow ty (y_tv r v) = y_tv r v ∧ fits ty (y_tv r v) = true := by
  cases ty <;> cases v <;> first | (exact ⟨rfl, rfl⟩) | (cases h)
theorem y_ts_set {r : Nat → Nat} {fs : List Value} {k : Nat} {v : Value} : (y_ts r fs).set k (y_tv r v) = y_ts r (fs.set k v) := by
  unfold y_ts
  rw [List.map_set]
theorem y_getfW (hx : p.tables.exec = Jvm.exec) (hb : c.code = cc) (hts : ∀ w ∈ Ts, w.before args s = true) (hown : s.vm.findClass own = some m.cls) {tys : List (ClassId × FieldType)} (hK : va_K D cl tys s) {fld : Nat → Option (Nat × Nat × Nat × FieldType)} (hfld : y_FldOk s args own Ts cl fld)
    {idx pc : Nat} {ls : y_L} {st : List Value} {M : y_M} {F : y_F} (hdg : decode cc pc = .ok (.getfield idx, 3)) (h : y_getf fld idx pc ls st M = some F)
    (kk : y_Wd p l e R s m args below meth c D cl kA A r0 n0 c0 s0 nL Q F) : y_Wd p l e R s m args below meth c D cl kA A r0 n0 c0 s0 nL Q (pc, ls, st, M) := by
  intro r H locs la hE hn hc hs hw hS hl
  unfold y_getf at h
  split at h
  case h_2 => cases h
  rename_i a t
  split at h
  case h_2 => cases h
  rename_i ci fs cj k fin ty hM hf
  split at h
  case h_2 => cases h
  rename_i v hbq hv
  cases h
  have hci : ci = cj := Nat.eq_of_beq_eq_true hbq
  subst hci
  obtain ⟨⟨C, T, N⟩, h1, -⟩ := hw.1 a _ (y_ws_at hM)
  obtain ⟨ty0, h2, h3, h4, h5, h6, h7, h8, h9⟩ := hfld idx ci k fin ty C T N hf h1
  have hv' : (y_ts r fs)[k]? = some (y_tv r v) := by
    unfold y_ts
    rw [List.getElem?_map, hv]
    rfl
  rcases h9 with h9 | ⟨-, host, h9⟩
  · exact va_get (ci := ci) (fs := y_ts r fs) hx hb hts h3 hown hK hw.1 a (y_ws_at hM) h1 k h2 h9 (fun _ q => q) (v := y_tv r v) hv' hdg (kk r H locs la hE hn hc hs hw hS hl)
  · exact va_getN (ci := ci) (fs := y_ts r fs) hx hb hts h3 hown hK hw.1 a (y_ws_at hM) h1 k h2 h9 (fun _ q => q) (v := y_tv r v) hv' hdg (kk r H locs la hE hn hc hs hw hS hl)
theorem y_putfW (hx : p.tables.exec = Jvm.exec) (hb : c.code = cc) (hts : ∀ w ∈ Ts, w.before args s = true) (hown : s.vm.findClass own = some m.cls) {tys : List (ClassId × FieldType)} (hK : va_K D cl tys s) {ini : Bool} (hini : ini = true → meth.name = "<init>") {fld : Nat → Option (Nat × Nat × Nat × FieldType)} (hfld : y_FldOk s args own Ts cl fld)
    {idx pc : Nat} {ls : y_L} {st : List Value} {M : y_M} {F : y_F} (hdg : decode cc pc = .ok (.putfield idx, 3)) (h : y_putf ini fld idx pc ls st M = some F)
    (kk : y_Wd p l e R s m args below meth c D cl kA A r0 n0 c0 s0 nL Q F) : y_Wd p l e R s m args below meth c D cl kA A r0 n0 c0 s0 nL Q (pc, ls, st, M) := by
  intro r H locs la hE hn hc hs hw hS hl
  unfold y_putf at h
  split at h
  case h_2 => cases h
  rename_i v a t
  split at h
  case h_2 => cases h
  rename_i ci fs cj k fin ty hM hf
  split at h
  case h_2 => cases h
  rename_i hbq
  cases h
  simp only [Bool.and_eq_true, Bool.or_eq_true] at hbq
  obtain ⟨⟨⟨hb1, hb2⟩, hb3⟩, hb4⟩ := hbq
  have hci : ci = cj := Nat.eq_of_beq_eq_true hb1
  subst hci
  have hkl : k < fs.length := Nat.blt_eq.mp hb4
  have hkl' : k < (y_ts r fs).length := by unfold y_ts; rw [List.length_map]; exact hkl
  obtain ⟨⟨C, T, N⟩, h1, -⟩ := hw.1 a _ (y_ws_at hM)
  obtain ⟨ty0, h2, h3, h4, h5, h6, h7, h8, h9⟩ := hfld idx ci k fin ty C T N hf h1
  obtain ⟨g1, g2⟩ := y_fits_ok (r := r) hb3
  have hset : ∀ H1 : Heap, va_P D cl ((y_ws r kA M.1).set a (r a, .inr (ci, (y_ts r fs).set k (y_tv r v)))) H1 → va_P D cl (y_ws r kA (M.1.set a (.inr (ci, fs.set k v)))) H1 := fun H1 q => by
    rw [← y_ws_set]; rw [y_ts_set] at q; exact q
  have hsetD : va_D A ((y_ws r kA M.1).set a (r a, .inr (ci, (y_ts r fs).set k (y_tv r v)))) → va_D A (y_ws r kA (M.1.set a (.inr (ci, fs.set k v)))) := fun q => by
    rw [← y_ws_set]; rw [y_ts_set] at q; exact q
  have hn' : n0 ≤ (M.1.set a (.inr (ci, fs.set k v))).length := by rw [List.length_set]; exact hn
  rcases hb2 with hz | ⟨hz, hi⟩
  · rcases h9 with h9 | ⟨-, host, h9⟩
    · exact va_put (ci := ci) (fs := y_ts r fs) (v := y_tv r v) (ty := ty) hx hb hts h3 ty0 h4 h5 hown hK hw.1 hw.2 hS a (y_ws_at hM) h1 k h2 h9 (fun _ q => q) (h7 (Nat.eq_of_beq_eq_true hz)) (by rw [h4 k h2, h6]) g1 g2 hkl' hdg
        (fun H1 locs1 q1 q2 q3 => kk r H1 locs1 la hE hn' hc hs ⟨hset H1 q1, hsetD q2⟩ q3 hl)
    · exact va_putN (ci := ci) (fs := y_ts r fs) (v := y_tv r v) (ty := ty) hx hb hts h3 ty0 h4 h5 hown hK hw.1 hw.2 hS a (y_ws_at hM) h1 k h2 h9 (fun _ q => q) (h7 (Nat.eq_of_beq_eq_true hz)) (by rw [h4 k h2, h6]) g1 g2 hkl' hdg
        (fun H1 locs1 q1 q2 q3 => kk r H1 locs1 la hE hn' hc hs ⟨hset H1 q1, hsetD q2⟩ q3 hl)
  · obtain ⟨f1, f2⟩ := h8 (Nat.eq_of_beq_eq_true hz)
    have h9 := h9.resolve_right (fun q => q.1 (Nat.eq_of_beq_eq_true hz))
    exact va_putF (ci := ci) (fs := y_ts r fs) (v := y_tv r v) (ty := ty) hx hb hts h3 ty0 h4 h5 hown hK hw.1 hw.2 hS a (y_ws_at hM) h1 k h2 h9 (fun _ q => q) f1 (hini hi) f2 (by rw [h4 k h2, h6]) g1 g2 hkl' hdg
      (fun H1 locs1 q1 q2 q3 => kk r H1 locs1 la hE hn' hc hs ⟨hset H1 q1, hsetD q2⟩ q3 hl)
theorem y_inB_ok {i : Int32} {n : Nat} (h : y_inB i n = true) : vp_in i n := by
  unfold y_inB at h
  simp only [Bool.and_eq_true, Bool.not_eq_true', decide_eq_false_iff_not] at h
  have h2 := Nat.blt_eq.mp h.2
  intro q
  rcases q with q | q
  · exact h.1 q
  · omega
theorem y_tyEq_ok {a b : FieldType} (h : y_tyEq a b = true) : a = b ∧ (a = .int ∨ a = .byte) := by
  cases a <;> cases b <;> first | (exact ⟨rfl, Or.inl rfl⟩) | (exact ⟨rfl, Or.inr rfl⟩) | (cases h)
theorem y_aldW (hx : p.tables.exec = Jvm.exec) (hb : c.code = cc) {tys : List (ClassId × FieldType)} (hK : va_K D cl tys s) (ht0 : tys[0]? = some (kA .int, .int)) (ht1 : tys[1]? = some (kA .byte, .byte)) {ty : FieldType} {i : Instr} (hi : (ty = .int ∧ i = .iaload) ∨ (ty = .byte ∧ i = .baload))
    {pc : Nat} {ls : y_L} {st : List Value} {M : y_M} {F : y_F} (hdg : decode cc pc = .ok (i, 1)) (h : y_ald ty pc ls st M = some F)
    (kk : y_Wd p l e R s m args below meth c D cl kA A r0 n0 c0 s0 nL Q F) : y_Wd p l e R s m args below meth c D cl kA A r0 n0 c0 s0 nL Q (pc, ls, st, M) := by
  intro r H locs la hE hn hc hs hw hS hl
  unfold y_ald at h
  split at h
  case h_2 => cases h
  rename_i ix a t
  split at h
  case h_2 => cases h
  rename_i ty' n f hM
  split at h
  case h_2 => cases h
  rename_i hbq
  cases h
  simp only [Bool.and_eq_true] at hbq
  obtain ⟨e1, -⟩ := y_tyEq_ok hbq.1
  subst e1
  have hin := y_inB_ok hbq.2
  rcases hi with ⟨rfl, rfl⟩ | ⟨rfl, rfl⟩
  · exact va_iald hx hb hK hw.1 a 0 (y_ws_at hM) ht0 hin hdg (kk r H locs la hE hn hc hs hw hS hl)
  · exact va_bald hx hb hK hw.1 a 1 (y_ws_at hM) ht1 hin hdg (kk r H locs la hE hn hc hs hw hS hl)
theorem y_astW (hx : p.tables.exec = Jvm.exec) (hb : c.code = cc) {tys : List (ClassId × FieldType)} (hK : va_K D cl tys s) (ht0 : tys[0]? = some (kA .int, .int)) (ht1 : tys[1]? = some (kA .byte, .byte)) {ty : FieldType} {i : Instr} (hi : (ty = .int ∧ i = .iastore) ∨ (ty = .byte ∧ i = .bastore))
    {pc : Nat} {ls : y_L} {st : List Value} {M : y_M} {F : y_F} (hdg : decode cc pc = .ok (i, 1)) (h : y_ast ty pc ls st M = some F)
    (kk : y_Wd p l e R s m args below meth c D cl kA A r0 n0 c0 s0 nL Q F) : y_Wd p l e R s m args below meth c D cl kA A r0 n0 c0 s0 nL Q (pc, ls, st, M) := by
  intro r H locs la hE hn hc hs hw hS hl
  unfold y_ast at h
  split at h
  case h_2 => cases h
  rename_i x ix a t
  split at h
  case h_2 => cases h
  rename_i ty' n f hM
  split at h
  case h_2 => cases h
  rename_i hbq
  cases h
  simp only [Bool.and_eq_true] at hbq
  obtain ⟨e1, -⟩ := y_tyEq_ok hbq.1
  subst e1
  have hin := y_inB_ok hbq.2
  have hn' : n0 ≤ (M.1.set a (.inl (ty, n, upd f ix.toNatClampNeg (vp_nar ty x)))).length := by rw [List.length_set]; exact hn
  rcases hi with ⟨rfl, rfl⟩ | ⟨rfl, rfl⟩
  · refine va_iast hx hb hK hw.1 hw.2 hS a 0 (y_ws_at hM) ht0 hin hdg (fun H1 locs1 q1 q2 q3 => kk r H1 locs1 la hE hn' hc hs ?_ q3 hl)
    show va_P D cl (y_ws r kA (M.1.set a (.inl (.int, n, upd f ix.toNatClampNeg x)))) H1 ∧ va_D A (y_ws r kA (M.1.set a (.inl (.int, n, upd f ix.toNatClampNeg x))))
    rw [← y_ws_set]
    exact ⟨q1, q2⟩
  · refine va_bast hx hb hK hw.1 hw.2 hS a 1 (y_ws_at hM) ht1 hin hdg (fun H1 locs1 q1 q2 q3 => kk r H1 locs1 la hE hn' hc hs ?_ q3 hl)
    show va_P D cl (y_ws r kA (M.1.set a (.inl (.byte, n, upd f ix.toNatClampNeg (vp_nar .byte x))))) H1 ∧ va_D A (y_ws r kA (M.1.set a (.inl (.byte, n, upd f ix.toNatClampNeg (vp_nar .byte x)))))
    rw [← y_ws_set]
    exact ⟨q1, q2⟩
theorem y_alenW (hx : p.tables.exec = Jvm.exec) (hb : c.code = cc) {tys : List (ClassId × FieldType)} (hK : va_K D cl tys s) (ht0 : tys[0]? = some (kA .int, .int)) (ht1 : tys[1]? = some (kA .byte, .byte))
    {pc : Nat} {ls : y_L} {st : List Value} {M : y_M} {F : y_F} (hdg : decode cc pc = .ok (.arraylength, 1)) (h : y_alen pc ls st M = some F)
    (kk : y_Wd p l e R s m args below meth c D cl kA A r0 n0 c0 s0 nL Q F) : y_Wd p l e R s m args below meth c D cl kA A r0 n0 c0 s0 nL Q (pc, ls, st, M) := by
  intro r H locs la hE hn hc hs hw hS hl
  unfold y_alen at h
  split at h
  case h_2 => cases h
  rename_i a t
  split at h
  case h_2 => cases h
  rename_i ty n f hM
  split at h
  case h_2 => cases h
  rename_i hbq
  cases h
  rcases (y_tyEq_ok hbq).2 with rfl | rfl
  · exact va_alen hx hb hK hw.1 a 0 (y_ws_at hM) ht0 rfl hdg (kk r H locs la hE hn hc hs hw hS hl)
  · exact va_alen hx hb hK hw.1 a 1 (y_ws_at hM) ht1 rfl hdg (kk r H locs la hE hn hc hs hw hS hl)
end YCellsW
