/-! SOUND: what the small machine runs, the real one runs. -/
section YSound
variable {p : Program} {l : Launch} {e : Env} {R : Room} {s : State} {m : MethodId} {args : Array Value} {below : List Frame} {meth : Method} {c : Code}
theorem y_mono {H : Heap} {locs : List Loc} {cells slots : Nat} {Q Q' : State → Prop} {g : JFrame} (hq : ∀ t, Q t → Q' t) (h : W p l e R s m args below meth c H locs cells slots Q g) : W p l e R s m args below meth c H locs cells slots Q' g := fun T hT X => by
  obtain ⟨t, a, b⟩ := h T hT X
  exact ⟨t, a, hq t b⟩
/-- the end of a method's walk, with both ends -/
def y_Z (below : List Frame) (args : Array Value) (s : State) (mc ms : Nat) (free : Addr → Prop) (Qc : Array Value → State → Outcome → State → Prop) : State → Prop := fun t =>
  ∃ o, t.status = .running ∧ Ended t below o ∧ Qc args s o t ∧ ∃ L, x_End s t L mc ms ∧ ∀ q ∈ L, free q.base
theorem y_Z_of {mc ms : Nat} {free : Addr → Prop} {Qc : Array Value → State → Outcome → State → Prop} : ∀ t, MQ below Qc args s mc ms free t → y_Z below args s mc ms free Qc t := fun _ ⟨o, h1, h2, h3, L, h4, h5⟩ => ⟨o, h1, h2, h3, L, h4.2, h5⟩
theorem x_metW {y : MethodName} {S : Spec} {Pc : Array Value → State → Prop} {Qc : Array Value → State → Outcome → State → Prop} {mc ms : Nat} {free : Addr → Prop} {cc : ByteArray} {maxL : Nat} {ret : Option FieldType}
    (hy : plainName y.cls = true) (hspec : ∀ (args : Array Value) (s : State) (m : MethodId), S.pre.before args s = true → s.methodNamed? y = some m → ∃ meth c, s.vm.method? m = some meth ∧ meth.code = some c ∧ c.code = cc ∧ c.maxLocals = maxL ∧ meth.sig.returnType = ret ∧ meth.locks = false)
    (body : ∀ p e s m args below meth c s₁, BodyLoose p l y S cc maxL ret e s m args below meth c s₁ → c.maxLocals = maxL → Pc args s →
      W p l e S.room s m args below meth c s.heap [] 0 0 (y_Z below args s mc ms free Qc) (entryFrame m args maxL)) : x_Met l y S Pc Qc mc ms free := by
  refine MetFree.of_bodyS (code := cc) (maxLocals := maxL) (ret := ret) hy hspec ?_
  intro p e s m args below meth c s₁ B hml hP _
  have hh0 : s₁.heap = s.heap := by rw [B.state]; rfl
  obtain ⟨t, a1, o, b1, b2, b3⟩ := body p e s m args below meth c s₁ B hml hP s₁ hh0 (Stand.of_body B)
  exact ⟨t, o, a1, b1, b2, b3⟩
/-- how a run's end looks in the machine -/
def y_end (D : va_G) (cl : List vw_C) (kA : FieldType → ClassId) (A : Nat → Prop) (r0 : Nat → Nat) (n0 : Nat) (res : y_R) (st : State) (o : Outcome) (t : State) : Prop :=
  ∃ r, y_Ext r0 n0 r ∧ y_World D cl kA A r res.2.1 t.heap ∧ va_F A st t ∧ match res.1 with
    | .inl v => o = .returned (v.map (y_tv r))
    | .inr a => o = .threw (r a)
/-- the head word of a method -/
def y_w0 (P : y_P) (nm : Nat → MethodName) (cd : Nat → ByteArray) (hh : Nat → List (Nat × Nat × Nat × Nat)) (mi : Nat) : Cond := match hh mi with
  | [] => .code (nm mi) (cd mi) (y_met P mi).1 (y_met P mi).2.2
  | h => .codeWith (nm mi) (cd mi) (y_met P mi).1 (y_met P mi).2.2 h
/-- a method's own things, where its walk stands -/
def y_Here (P : y_P) (nm : Nat → MethodName) (cd : Nat → ByteArray) (hh : Nat → List (Nat × Nat × Nat × Nat)) (Ts : List Cond) (X : State → Prop) (A : Nat → Prop) (mi : Nat) (p : Program) (s : State) (m : MethodId) (args : Array Value) (meth : Method) (c : Code) : Prop :=
  p.tables.exec = Jvm.exec ∧ c.code = cd mi ∧ c.maxLocals = (y_met P mi).1 ∧ s.vm.findClass (nm mi).cls = some m.cls ∧ (∀ w ∈ Ts, w.before args s = true) ∧ X s ∧ meth.sig.returnType = (y_met P mi).2.2 ∧ meth.locks = false ∧ meth.name = (nm mi).name ∧
  c.exceptionTable.toList.map (fun h => (h.startPc, h.endPc, h.handlerPc, h.catchType)) = hh mi ∧ (∀ q, s.heap.size ≤ q → A q)
def y_ConOk (s : State) (args : Array Value) (own : String) (con : Nat → Option Value) : Prop :=
  (∀ (idx : Nat) (v : Int32), con (2 * idx) = some (.int v) → (Cond.constant own idx v).before args s = true) ∧
  (∀ (idx : Nat) (v : Int64), con (2 * idx) = some (.long v) → (Cond.constantLong own idx v).before args s = true)
def y_CalOk (P : y_P) (nm : Nat → MethodName) (hh : Nat → List (Nat × Nat × Nat × Nat)) (cl : List vw_C) (A : Nat → Prop) (ρ : Nat → Nat) (mi : Nat) (s : State) (args : Array Value) : Prop :=
  ∀ (idx kind cm k ci : Nat), y_cal P mi idx = some (kind, cm, k, ci) →
    (kind = 3 → (Cond.methodLink (nm mi).cls idx objectInit).before args s = true ∧ (Cond.instanceMethod objectInit).before args s = true ∧ (Cond.code objectInit ⟨#[0xb1]⟩ 1 none).before args s = true) ∧
    (kind = 5 → (Cond.methodLink (nm mi).cls idx (y_mname cm)).before args s = true ∧ (Cond.static (y_mname cm)).before args s = true ∧ (Cond.initialized "java/lang/Math").before args s = true ∧ (cm = 0 → (Cond.code Lib.MathLoose.min_long.x Lib.MathLoose.min_long.code 4 (some .long)).before args s = true) ∧ (cm = 1 → (Cond.code Lib.Math.max.name Lib.Math.max.code 2 (some .int)).before args s = true) ∧ (cm = 2 → (Cond.code Lib.Math.min.name Lib.Math.min.code 2 (some .int)).before args s = true)) ∧
    (kind = 6 → (Cond.methodLink (nm mi).cls idx arraycopyName).before args s = true ∧ (Cond.native arraycopyName).before args s = true ∧ (Cond.static arraycopyName).before args s = true ∧ (Cond.initialized "java/lang/System").before args s = true) ∧
    (kind = 0 → (∃ (C : String) (T : u_T) (N : Nat), cl[ci]? = some (C, T, N) ∧ (Cond.selects C (nm cm) (nm cm)).before args s = true) ∧ (Cond.methodLink (nm mi).cls idx (nm cm)).before args s = true ∧ (Cond.instanceMethod (nm cm)).before args s = true ∧ ∀ sig, parseMethodDescriptor (nm cm).desc = some sig → k = sig.parameters.length + 1) ∧
    (kind = 4 → (∃ (C : String), (Cond.selects C (nm cm) (nm cm)).before args s = true ∧ ∀ (a : Nat) (fs : List Value), y_far0 P a = some (.inr (ci, fs)) → 1000000 ≤ a ∧ va_O C (ρ a) A s s.heap) ∧ (Cond.methodLink (nm mi).cls idx (nm cm)).before args s = true ∧ (Cond.instanceMethod (nm cm)).before args s = true ∧ ∀ sig, parseMethodDescriptor (nm cm).desc = some sig → k = sig.parameters.length + 1) ∧
    (kind = 1 → hh cm = [] ∧ ((Cond.methodLink (nm mi).cls idx (nm cm)).before args s = true ∨ ∃ host, (Cond.methodLinkNest (nm mi).cls idx (nm cm) host).before args s = true) ∧ (Cond.static (nm cm)).before args s = true ∧ ∀ sig, parseMethodDescriptor (nm cm).desc = some sig → k = sig.parameters.length) ∧
    (kind = 2 → hh cm = [] ∧ (y_met P cm).2.2 = none ∧ (nm cm).name = "<init>" ∧ ((Cond.methodLink (nm mi).cls idx (nm cm)).before args s = true ∨ ∃ host, (Cond.methodLinkNest (nm mi).cls idx (nm cm) host).before args s = true) ∧ (Cond.instanceMethod (nm cm)).before args s = true ∧ ∀ sig, parseMethodDescriptor (nm cm).desc = some sig → k = sig.parameters.length + 1)
def y_room (d mc ms : Nat) : Room := { frames := d + 8, cells := mc, slots := ms, locals := 256 + 64 * d }
/-- all that the tables, the words and the world must give -/
def y_Sys (P : y_P) (nm : Nat → MethodName) (cd : Nat → ByteArray) (hh : Nat → List (Nat × Nat × Nat × Nat)) (Ts : List Cond) (X : State → Prop) (D : va_G) (cl : List vw_C) (kA : FieldType → ClassId) (tys : List (ClassId × FieldType)) (A : Nat → Prop) (ρ : Nat → Nat) : Prop :=
  (∀ (mi pc len : Nat) (i : Instr), y_ins P mi pc = some (i, len) → decode (cd mi) pc = .ok (i, len) ∧ (len = y_len i ∨ ∃ d lo hi o, i = .tableswitch d lo hi o)) ∧
  (∀ (mi : Nat) (s : State) (args : Array Value), X s → (∀ w ∈ Ts, w.before args s = true) → y_FldOk s args (nm mi).cls Ts cl (y_fld P mi) ∧ y_ClsOk s args (nm mi).cls Ts cl (y_cls P mi) ∧ y_OutOk s args (nm mi).cls A ρ (y_far0 P) (y_fld P mi) (y_con P mi) ∧ y_ConOk s args (nm mi).cls (y_con P mi) ∧ y_CalOk P nm hh cl A ρ mi s args) ∧
  (∀ (s : State) (args : Array Value), X s → (∀ w ∈ Ts, w.before args s = true) → va_K D cl tys s ∧ tys[0]? = some (kA .int, .int) ∧ tys[1]? = some (kA .byte, .byte) ∧ s.vm.findClass ("[" ++ FieldType.int.toString) = some (kA .int) ∧ s.vm.findClass ("[" ++ FieldType.byte.toString) = some (kA .byte) ∧ (Cond.arrayClass .int).before args s = true ∧ (Cond.arrayClass .byte).before args s = true) ∧
  (∀ (s U : State), X s → s.WarmedH U.vm → s.heap.size ≤ U.heap.size → (∀ q, q < s.heap.size → ¬ A q → U.heap[q]? = s.heap[q]?) → X U) ∧
  (∀ (mi idx kind cm k ci : Nat), y_cal P mi idx = some (kind, cm, k, ci) → kind ≠ 3 ∧ kind ≠ 5 ∧ kind ≠ 6 → y_w0 P nm cd hh cm ∈ Ts ∧ Cond.initialized (nm cm).cls ∈ Ts ∧ plainName (nm cm).cls = true ∧ ((nm cm).cls ≠ "java/lang/invoke/MethodHandle" ∧ (nm cm).cls ≠ "java/lang/invoke/VarHandle") ∧ (y_met P cm).1 ≤ 45) ∧
  (∀ w ∈ Ts, (w.onTables && w.keeps) = true ∨ ∃ ty, w = .arrayClass ty) ∧
  (∀ mi, (y_met P mi).2.1 = true → (nm mi).name = "<init>") ∧
  (∀ mi pc, y_han P mi pc = none → ∀ h ∈ hh mi, ¬ (h.1 ≤ pc ∧ pc < h.2.1)) ∧
  (∀ (mi pc h cE : Nat) (s : State) (args : Array Value), X s → (∀ w ∈ Ts, w.before args s = true) → y_han P mi pc = some (h, cE) → ∃ (t1 t2 ty : Nat) (rest : List (Nat × Nat × Nat × Nat)) (C : String) (T : u_T) (N : Nat), hh mi = (t1, t2, h, ty) :: rest ∧ t1 ≤ pc ∧ pc < t2 ∧ ty ≠ 0 ∧ (Cond.classLink (nm mi).cls ty C).before args s = true ∧ cl[cE]? = some (C, T, N)) ∧
  (∀ (mi idx cE ic : Nat) (s : State) (args : Array Value), X s → (∀ w ∈ Ts, w.before args s = true) → y_exc P mi idx = some (cE, ic) → ∃ (C : String) (T : u_T) (names : List String), cl[cE]? = some (C, T, 0) ∧ Bundle.fit C = true ∧ (∀ n ∈ names, Bundle.fit n = true) ∧ names.length ≤ 3 ∧ (∀ a ∈ Bundle.ownAtoms0 (nm mi).cls ic C names, a.before args s = true) ∧ (∃ vz, va_Z Bundle.tN "UNASSIGNED_STACK" Bundle.steD vz A s s.heap) ∧ (Cond.classLink (nm mi).cls idx C).before args s = true ∧ (Cond.initialized C).before args s = true)
/-- runs of 'go' are sound -/
def y_Snd (P : y_P) (nm : Nat → MethodName) (cd : Nat → ByteArray) (hh : Nat → List (Nat × Nat × Nat × Nat)) (Ts : List Cond) (X : State → Prop) (D : va_G) (cl : List vw_C) (kA : FieldType → ClassId) (A : Nat → Prop) (ρ : Nat → Nat) (l : Launch) (go : Nat → Nat → y_F → Option y_R) : Prop :=
  ∀ (d mi : Nat) (F : y_F) (res : y_R), go d mi F = some res → ∀ (p : Program) (e : Env) (R : Room) (s : State) (m : MethodId) (args : Array Value) (below : List Frame) (meth : Method) (c : Code), y_Here P nm cd hh Ts X A mi p s m args meth c → d + 8 ≤ R.frames → 256 + 64 * d ≤ R.locals →
    ∀ (r0 : Nat → Nat) (n0 c0 s0 : Nat), (∀ k, 1000000 ≤ k → r0 k = ρ k) → res.2.2.1 - c0 ≤ R.cells → res.2.2.2 - s0 ≤ R.slots →
    y_Wd p l e R s m args below meth c D cl kA A r0 n0 c0 s0 (y_met P mi).1 (y_Z below args s (res.2.2.1 - c0) (res.2.2.2 - s0) A (fun _ st o t => y_end D cl kA A r0 n0 res st o t)) F
def y_Pc (X : State → Prop) (D : va_G) (cl : List vw_C) (kA : FieldType → ClassId) (A : Nat → Prop) (r : Nat → Nat) (as : List Value) (M : y_M) : Array Value → State → Prop := fun v U =>
  v = (y_ts r as).toArray ∧ X U ∧ y_World D cl kA A r M.1 U.heap ∧ ∀ q, U.heap.size ≤ q → A q
theorem y_tL_args (r : Nat → Nat) : ∀ (as : List Value) (i : Nat), lv_args i (y_ts r as) = y_tL r (lv_args i as)
  | [], _ => rfl
  | v :: t, i => by
    show (i, y_tv r v) :: lv_args (if (y_tv r v).category = 2 then i + 2 else i + 1) (y_ts r t) = (i, y_tv r v) :: y_tL r (lv_args (if v.category = 2 then i + 2 else i + 1) t)
    rw [y_tv_cat, y_tL_args r t]
theorem y_sl_len (r : Nat → Nat) : ∀ (as : List Value), (lg_sl (y_ts r as)).length = (lg_sl as).length
  | [] => rfl
  | v :: t => by
    show (lg_sl (y_tv r v :: y_ts r t)).length = (lg_sl (v :: t)).length
    have ih := y_sl_len r t
    unfold lg_sl at ih ⊢
    rw [List.flatMap_cons, List.flatMap_cons, List.length_append, List.length_append, ih, y_tv_cat]
    by_cases h : v.category = 2
    · simp [h]
    · simp [h]
theorem y_words_ts (r : Nat → Nat) : ∀ (st : List Value), ((y_ts r st).map fun v => v.category).sum = y_words st := by
  intro st
  unfold y_ts y_words
  rw [List.map_map]
  congr 1
  apply List.map_congr_left
  intro v _
  exact y_tv_cat r v
variable {P : y_P} {nm : Nat → MethodName} {cd : Nat → ByteArray} {hh : Nat → List (Nat × Nat × Nat × Nat)} {Ts : List Cond} {X : State → Prop} {D : va_G} {cl : List vw_C} {kA : FieldType → ClassId} {tys : List (ClassId × FieldType)} {A : Nat → Prop} {ρ : Nat → Nat} {go : Nat → Nat → y_F → Option y_R}
theorem y_w0_spec {mi : Nat} {a : Array Value} {U : State} (h : (y_w0 P nm cd hh mi).before a U = true) : ∃ m meth c, U.methodNamed? (nm mi) = some m ∧ U.vm.method? m = some meth ∧ meth.code = some c ∧ c.code = cd mi ∧ c.maxLocals = (y_met P mi).1 ∧ meth.sig.returnType = (y_met P mi).2.2 ∧ meth.locks = false ∧
    c.exceptionTable.toList.map (fun h => (h.startPc, h.endPc, h.handlerPc, h.catchType)) = hh mi ∧ parseMethodDescriptor (nm mi).desc = some meth.sig := by
  unfold y_w0 at h
  split at h
  · rename_i hn
    obtain ⟨m, hm⟩ := Cond.code_named h
    obtain ⟨meth, c, h1, h2, h3, h4, h5, h6, h7, h8⟩ := Cond.code_spec hm h
    refine ⟨m, meth, c, hm, h1, h2, h3, h4, h5, h6, ?_, h8⟩
    have : c.exceptionTable.toList = [] := by
      have h9 : c.exceptionTable = #[] := Array.isEmpty_iff.mp h7
      rw [h9]
    rw [this, hn]
    rfl
  · obtain ⟨m, meth, c, h1, h2, h3, h4, h5, h6, h7, h8, h9⟩ := Cond.codeWith_spec h
    exact ⟨m, meth, c, h1, h2, h3, h4, h5, h7, h8, h6, h9⟩
theorem y_callee (hSys : y_Sys P nm cd hh Ts X D cl kA tys A ρ) (hgo : y_Snd P nm cd hh Ts X D cl kA A ρ l go) {mi idx kind cm k ci d' : Nat} (hcal : y_cal P mi idx = some (kind, cm, k, ci)) (hk3 : kind ≠ 3 ∧ kind ≠ 5 ∧ kind ≠ 6) {as : List Value} {M : y_M} {res1 : y_R} (hrun : go d' cm (0, lv_args 0 as, [], M) = some res1) (hM : y_le M res1.2)
    (hlen : (lg_sl as).length ≤ (y_met P cm).1) (hts : ∀ w ∈ Ts, w.before args s = true) {r : Nat → Nat} (hr : ∀ k, 1000000 ≤ k → r k = ρ k) (hd : d' + 1 + 8 ≤ R.frames) (hlo : 256 + 64 * (d' + 1) ≤ R.locals) :
    x_Callee l R s (nm cm) (headSpec (y_w0 P nm cd hh cm :: Ts) (y_room d' (res1.2.2.1 - M.2.1) (res1.2.2.2 - M.2.2))) (y_met P cm).1 (y_Pc X D cl kA A r as M) (fun _ st o t => y_end D cl kA A r M.1.length res1 st o t) (res1.2.2.1 - M.2.1) (res1.2.2.2 - M.2.2) A := by
  obtain ⟨S1, S2, S3, S4, S5, S6, S7, S8, S9, S10⟩ := hSys
  obtain ⟨g1, g2, g3, g4, g5⟩ := S5 mi idx kind cm k ci hcal hk3
  have hgood : ∀ w ∈ y_w0 P nm cd hh cm :: Ts, w ∈ Ts := fun w hw => by
    rcases List.mem_cons.mp hw with rfl | hw
    · exact g1
    · exact hw
  refine ⟨?_, ?_, rfl, rfl, by show d' + 8 + 1 ≤ R.frames; omega, by show 8 + ((y_met P cm).1 + 11) + (256 + 64 * d') ≤ R.locals; omega, ?_, ?_, ?_, g4, ?_⟩
  · refine x_metW (cc := cd cm) (maxL := (y_met P cm).1) (ret := (y_met P cm).2.2) g3 ?_ ?_
    · intro a U mk hpre hn
      obtain ⟨m, meth, c, h1, h2, h3, h4, h5, h6, h7, -, -⟩ := y_w0_spec (atoms_spec (ws := y_w0 P nm cd hh cm :: Ts) hpre _ List.mem_cons_self)
      cases hn.symm.trans h1
      exact ⟨meth, c, h2, h3, h4, h5, h6, h7⟩
    · intro p e s m args below meth c s₁ B hml hP
      obtain ⟨rfl, hXs, hw, hA⟩ := hP
      have hts2 := atoms_spec (ws := y_w0 P nm cd hh cm :: Ts) B.pre
      obtain ⟨m', meth', c', h1, h2, h3, h4, h5, h6, h7, h8, -⟩ := y_w0_spec (hts2 _ List.mem_cons_self)
      cases B.named.symm.trans h1
      cases B.method.symm.trans h2
      cases (Stand.of_body B).code.symm.trans h3
      have hHere : y_Here P nm cd hh Ts X A cm p s m (y_ts r as).toArray meth c := ⟨B.exec, B.bytes, hml, findClass_of_methodNamed B.named, fun w hw => hts2 w (List.mem_cons_of_mem _ hw), hXs, B.returns, B.notSynchronized, (name_of_methodNamed B.named B.method).1, h8, hA⟩
      have hl := lv_entry (y_ts r as) (n := (y_met P cm).1) (by rw [y_sl_len]; exact hlen)
      rw [y_tL_args] at hl
      rw [lg_entry_eq]
      have key := hgo d' cm _ res1 hrun p e (y_room d' (res1.2.2.1 - M.2.1) (res1.2.2.2 - M.2.2)) s m (y_ts r as).toArray below meth c hHere (Nat.le_refl _) (Nat.le_refl _) r M.1.length M.2.1 M.2.2 hr (Nat.le_refl _) (Nat.le_refl _) r s.heap [] _ (fun _ _ => rfl) (Nat.le_refl _) (Nat.le_refl _) (Nat.le_refl _) hw va_S.rf hl
      dsimp only at key
      rw [Nat.sub_self, Nat.sub_self] at key
      exact key
  · intro a U g mk h
    obtain ⟨h1, h2, h3, h4⟩ := h
    exact ⟨h1, S4 U (U.calling g mk a) h2 (State.WarmedH.refl U) (Nat.le_refl _) (fun _ _ _ => rfl), h3, h4⟩
  · intro a' U hW
    exact atoms_intro fun w hw => word_at hW (S6 w (hgood w hw)) (hts w (hgood w hw))
  · intro U mk hW hn
    obtain ⟨m, meth, c, h1, h2, h3, h4, h5, -⟩ := y_w0_spec (word_at (a' := args) hW (S6 _ g1) (hts _ g1))
    cases hn.symm.trans h1
    exact ⟨meth, c, h2, h3, h5⟩
  · intro a' U hW
    exact word_at hW (S6 _ g2) (hts _ g2)
  · intro mk methY hn hm
    obtain ⟨m, meth, c, h1, h2, -, -, -, -, -, -, h9⟩ := y_w0_spec (hts _ g1)
    cases hn.symm.trans h1
    cases hm.symm.trans h2
    exact h9
end YSound
