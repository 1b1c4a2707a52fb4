section
/-! ENDS: a callee that returns or throws; calls with both ends. -/
section XEnds
/-- nothing moved but the frames, the tables' warmth, the slots L, and at most k new cells of n slots -/
def x_End (first t : State) (L : List Loc) (k n : Nat) : Prop := first.WarmedH t.vm ∧ first.sameButNew ({ t with vm := first.vm } : State) L k n
/-- a contract with both ends -/
def x_Met (l : Launch) (y : MethodName) (S : Spec) (Pc : Array Value → State → Prop) (Qc : Array Value → State → Outcome → State → Prop) (mc ms : Nat) (free : Addr → Prop) : Prop :=
  MetFree l y S Pc (fun _ _ _ _ _ => True) (fun a st o t => Qc a st o t ∧ ∃ L, x_End st t L mc ms ∧ ∀ q ∈ L, free q.base)
/-- the caller's state behind the callee's end: it goes on, or the note stands over its frame -/
def x_after (U : State) (g : JFrame) (len : Nat) (o : Outcome) : State := match o with
  | .returned v => U.setTop { g with pc := g.pc + len, stack := v.toList ++ g.stack }
  | .threw x => (U.setTop g).pushFrame (.throwing x)
def x_Back (l : Launch) (R : Room) (p : Program) (e : Env) (below : List Frame) (s : State) (sargs : Array Value) (y : MethodName) (len W : Nat)
    (Pre : Pt → Array Value → Prop) (Post : Pt → Array Value → Outcome → Pt → Prop) : Prop :=
  ∀ (m : MethodId) (meth : Method) (c : Code) (A : Pt) (g : JFrame) (ig : Instr) (mk : MethodId) (a : Array Value),
    Stand p l e R s m sargs below meth c A.U A.locs A.cells A.slots → g.method = m → g.locals.size = c.maxLocals → decode c.code g.pc = .ok (ig, len) →
    2 * g.monitorRoom + (g.stack.map fun v => v.category).sum ≤ W → A.U.methodNamed? y = some mk → Pre A a →
    ∃ (o : Outcome) (B : Pt), Stand p l e R s m sargs below meth c B.U B.locs B.cells B.slots ∧ Post A a o B ∧
      Steps p.tables e below (doInvoke e (A.U.setTop g) [] mk a).1 (x_after B.U g len o)
variable {l : Launch} {R : Room} {p : Program} {e : Env} {below : List Frame} {s : State} {sargs : Array Value} {y : MethodName} {len W : Nat}
def x_Pre (R : Room) (mc ms : Nat) (Pc : Array Value → State → Prop) : Pt → Array Value → Prop := fun A a => A.cells + mc ≤ R.cells ∧ A.slots + ms ≤ R.slots ∧ Pc a A.U
def x_Post (Qc : Array Value → State → Outcome → State → Prop) (mc ms : Nat) (free : Addr → Prop) : Pt → Array Value → Outcome → Pt → Prop := fun A a o B =>
  ∃ (g : JFrame) (mk : MethodId) (t : State) (L : List Loc), B.U.heap = t.heap ∧ B.U.vm = t.vm ∧ Qc a (A.U.calling g mk a) o t ∧ B.locs = A.locs ++ L ∧ (∀ q ∈ L, free q.base) ∧ B.cells = A.cells + mc ∧ B.slots = A.slots + ms
theorem x_back {S : Spec} {Pc : Array Value → State → Prop} {Qc : Array Value → State → Outcome → State → Prop} {mc ms maxL : Nat} {free : Addr → Prop}
    (hM : x_Met l y S Pc Qc mc ms free) (hblind : FrameBlind Pc) (hrc : S.room.cells = mc) (hrs : S.room.slots = ms)
    (hframes : S.room.frames + 1 ≤ R.frames) (hlocals : W + (maxL + 11) + S.room.locals ≤ R.locals)
    (hpre : ∀ (a' : Array Value) (U : State), s.WarmedH U.vm → S.pre.before a' U = true)
    (hcode : ∀ (U : State) (mk : MethodId), s.WarmedH U.vm → U.methodNamed? y = some mk → ∃ methY cY, U.vm.method? mk = some methY ∧ methY.code = some cY ∧ cY.maxLocals = maxL)
    (hinit : ∀ (a' : Array Value) (U : State), s.WarmedH U.vm → (Cond.initialized y.cls).before a' U = true) :
    x_Back l R p e below s sargs y len W (x_Pre R mc ms Pc) (x_Post Qc mc ms free) := by
  intro m meth c A g ig mk a X hg hsize hdg hW hn hp
  obtain ⟨U, Ls, c0, s0⟩ := A
  obtain ⟨hp1, hp2, hp3⟩ := hp
  dsimp only [Pt.U, Pt.locs, Pt.cells, Pt.slots] at hp1 hp2 hp3 X hn ⊢
  obtain ⟨methY, cY, hmY, hcY, hlY⟩ := hcode U mk X.warmed hn
  obtain ⟨kY, hkY, -⟩ := className_of_methodNamed hn
  have hinitY : kY.init = .initialized := Cond.initialized_spec (findClass_of_methodNamed hn) hkY (hinit a U X.warmed)
  have h : At U g.method c below := by rw [hg]; exact X.here
  have happ : S.appliesLoose y e.platform (U.calling g mk a) = true :=
    Spec.appliesLoose_calling (g := g) h hdg hn hkY hinitY
      (X.room_calling (g := g) (R' := S.room) hsize hmY hcY hframes (by rw [hlY]; omega) (by rw [hrc]; exact hp1) (by rw [hrs]; exact hp2)) (hpre a U X.warmed)
  obtain ⟨mid, hmid⟩ := h.above
  have hfr : (U.setTop g).frames = (.java g :: mid) ++ below := by rw [State.frames_setTop' g h.top, hmid]; rfl
  obtain ⟨o, s₂, hsteps, -, hend, hq⟩ := Steps.callFree hM p X.admits X.cas X.clock (acts := []) hfr happ (hblind _ _ _ _ hp3) trivial
  have hq' : Qc a (U.calling g mk a) o s₂ ∧ ∃ L, x_End (U.calling g mk a) s₂ L mc ms ∧ ∀ q ∈ L, free q.base := hq
  rw [State.frames_setTop' g h.top] at hend
  obtain ⟨hqc, L, ⟨hW₂, e2, q2, q3, q4, q5, q6⟩, hL⟩ := hq'
  have e3 : s₂ = ({ (U.calling g mk a).setFrames s₂.frames with heap := s₂.heap, slotsUsed := s₂.slotsUsed } : State).setVm s₂.vm := by
    have : s₂ = ({ s₂ with vm := (U.calling g mk a).vm } : State).setVm s₂.vm := rfl
    rw [e2] at this
    exact this
  have hW' : U.WarmedH s₂.vm := hW₂
  obtain ⟨g₀, hg0⟩ := Option.isSome_iff_exists.mp h.top
  obtain ⟨r, hr⟩ := State.topJava?_eq_some.mp hg0
  have hr' : (({ U with heap := s₂.heap, slotsUsed := s₂.slotsUsed } : State).setVm s₂.vm).frames = .java g₀ :: r := hr
  have hsame : U.sameButNew ({ U with heap := s₂.heap, slotsUsed := s₂.slotsUsed } : State) L mc ms := by
    refine ⟨?_, q2, q3, q4, q5, q6⟩
    obtain ⟨t, ht, -⟩ := State.frames_cons hr
    show ({ U with heap := s₂.heap, slotsUsed := s₂.slotsUsed } : State) = { U.setFrames U.frames with heap := s₂.heap, slotsUsed := s₂.slotsUsed }
    rw [State.setFrames_self ht]
  have hs₂ : s₂ = x_after (({ U with heap := s₂.heap, slotsUsed := s₂.slotsUsed } : State).setVm s₂.vm) g len o := by
    cases o with
    | returned v =>
      obtain ⟨c₂, i₂, len₂, hc₂, hd₂, hf₂⟩ := hend
      have hcc : c₂ = c := by
        have h1 : s₂.code? g.method = U.code? g.method := by
          rw [State.code?_eq, State.code?_eq, hW'.alike.method?]
        exact Option.some.inj (hc₂.symm.trans (h1.trans h.code))
      subst hcc
      have hlen : len₂ = len := by rw [hdg] at hd₂; cases hd₂; rfl
      subst hlen
      refine e3.trans ?_
      rw [hf₂, State.calling_eq h.top, State.setFrames_setFrames]
      show _ = State.setTop _ _
      rw [State.setTop_of_frames _ hr', hr]
      rfl
    | threw v =>
      have hf₂ : s₂.frames = .throwing v :: .java g :: U.frames.tail := hend
      refine e3.trans ?_
      rw [hf₂, State.calling_eq h.top, State.setFrames_setFrames]
      show _ = State.pushFrame (State.setTop _ _) _
      rw [State.pushFrame, State.frames_setTop _ hr', State.setTop_of_frames _ hr', State.setFrames_setFrames, hr]
      rfl
  subst hg
  refine ⟨o, ⟨(({ U with heap := s₂.heap, slotsUsed := s₂.slotsUsed } : State).setVm s₂.vm), Ls ++ L, c0 + mc, s0 + ms⟩,
    ⟨X.admits, X.cas, X.clock, X.frames, X.room, X.hears, X.method, X.code, (X.here.setHeapUsed s₂.heap s₂.slotsUsed).setVm hW'.alike, X.tail, State.WarmedH.trans X.warmed hW', X.limits, X.bytes, X.same.trans (hsame.setVm s.vm)⟩,
    ⟨g, mk, s₂, L, rfl, rfl, hqc, rfl, hL, rfl, rfl⟩, ?_⟩
  show Steps p.tables e below _ (x_after (({ U with heap := s₂.heap, slotsUsed := s₂.slotsUsed } : State).setVm s₂.vm) g len o)
  rw [← hs₂]
  exact hsteps
end XEnds
end
section
/-! MINI: a small machine over numbered cells; its runs are runs of the real one (03 and on). A reference .ref k is cell k; from 1000000 on: things that stand outside (String constants). -/
section YDefs
abbrev y_C : Type := (FieldType × Nat × (Nat → Int32)) ⊕ (Nat × List Value)
/-- the cells; how many cells and slots have been made -/
abbrev y_M : Type := List y_C × Nat × Nat
abbrev y_L : Type := List (Nat × Value)
/-- returned, or threw the cell; the memory -/
abbrev y_R : Type := (Option Value ⊕ Nat) × y_M
abbrev y_F : Type := Nat × y_L × List Value × y_M
def y_set (ls : y_L) (i : Nat) (v : Value) : y_L := (i, v) :: ls.filter (fun q => !(q.1 == i) && !(q.1 + 1 == i && q.2.category == 2))
def y_set2 (ls : y_L) (i : Nat) (v : Value) : y_L := (i, v) :: ls.filter (fun q => !(q.1 == i) && (!(q.1 == i + 1) && !(q.1 + 1 == i && q.2.category == 2)))
def y_get : y_L → Nat → Option Value
  | [], _ => none
  | (j, v) :: r, i => if j = i then some v else y_get r i
def y_ok (n : Nat) : Value → Bool
  | .ref k => Nat.blt k n || Nat.ble 1000000 k
  | _ => true
def y_oks (n : Nat) (vs : List Value) : Bool := vs.all (y_ok n)
def y_okL (n : Nat) (ls : y_L) : Bool := ls.all (fun q => y_ok n q.2)
def y_okC (n : Nat) : y_C → Bool
  | .inl _ => true
  | .inr (_, fs) => y_oks n fs
def y_okM (M : List y_C) : Bool := M.all (y_okC M.length)
/-- the program's tables, for one class: fields (class, place, final, type), classes to make (number, first fields), constants, statics -/
abbrev y_T : Type := (Nat → Option (Nat × Nat × Bool × FieldType)) × (Nat → Option (Nat × List Value)) × (Nat → Option Value) × (Nat → Option Value)
def y_fits : FieldType → Value → Bool
  | .int, .int _ => true
  | .object _, .ref _ => true
  | .object _, .null => true
  | .array _, .ref _ => true
  | .array _, .null => true
  | _, _ => false
def y_jump (pc : Nat) (off : Int) : Option Nat := match (pc : Int) + off with
  | .ofNat t => some t
  | .negSucc _ => none
def y_go (pc : Nat) (off : Int) (len : Nat) (b : Bool) (ls : y_L) (st : List Value) (M : y_M) : Option y_F := match y_jump pc off with
  | some t => some (cond b t (pc + len), ls, st, M)
  | none => none
def y_cmp (c : ClassFile.Cond) (x y : Int32) : Bool := match c with
  | .eq => decide (x = y)
  | .ne => !decide (x = y)
  | .lt => decide (x < y)
  | .ge => decide (y ≤ x)
  | .gt => decide (y < x)
  | .le => decide (x ≤ y)
def y_int (f : Int32 → Int32) (pc : Nat) (ls : y_L) (st : List Value) (M : y_M) : Option y_F := match st with
  | .int x :: r => some (pc + 1, ls, .int (f x) :: r, M)
  | _ => none
def y_int2 (f : Int32 → Int32 → Int32) (pc : Nat) (ls : y_L) (st : List Value) (M : y_M) : Option y_F := match st with
  | .int y :: .int x :: r => some (pc + 1, ls, .int (f x y) :: r, M)
  | _ => none
def y_long2 (f : Int64 → Int64 → Int64) (pc : Nat) (ls : y_L) (st : List Value) (M : y_M) : Option y_F := match st with
  | .long y :: .long x :: r => some (pc + 1, ls, .long (f x y) :: r, M)
  | _ => none
def y_longI (f : Int64 → Int32 → Int64) (pc : Nat) (ls : y_L) (st : List Value) (M : y_M) : Option y_F := match st with
  | .int y :: .long x :: r => some (pc + 1, ls, .long (f x y) :: r, M)
  | _ => none
def y_load (i len pc : Nat) (ls : y_L) (st : List Value) (M : y_M) : Option y_F := match y_get ls i with
  | some v => some (pc + len, ls, v :: st, M)
  | none => none
def y_inB (i : Int32) (n : Nat) : Bool := !(decide (i < 0)) && Nat.blt i.toNatClampNeg n
def y_len : Instr → Nat
  | .bipush _ => 2
  | .iload _ => 2
  | .lload _ => 2
  | .aload _ => 2
  | .istore _ => 2
  | .lstore _ => 2
  | .astore _ => 2
  | .ldc _ => 2
  | .newarray _ => 2
  | .sipush _ => 3
  | .iinc _ _ => 3
  | .ifCond _ _ => 3
  | .if_icmp _ _ => 3
  | .ifnull _ => 3
  | .ifnonnull _ => 3
  | .goto _ => 3
  | .getfield _ => 3
  | .putfield _ => 3
  | .getstatic _ => 3
  | .ldc_w _ => 3
  | .ldc2_w _ => 3
  | .new _ => 3
  | .invokevirtual _ => 3
  | .invokestatic _ => 3
  | .invokespecial _ => 3
  | _ => 1
def y_loadI (i len pc : Nat) (ls : y_L) (st : List Value) (M : y_M) : Option y_F := match y_get ls i with
  | some (.int x) => some (pc + len, ls, .int x :: st, M)
  | _ => none
def y_loadL (i len pc : Nat) (ls : y_L) (st : List Value) (M : y_M) : Option y_F := match y_get ls i with
  | some (.long x) => some (pc + len, ls, .long x :: st, M)
  | _ => none
def y_loadA (i len pc : Nat) (ls : y_L) (st : List Value) (M : y_M) : Option y_F := match y_get ls i with
  | some (.ref x) => some (pc + len, ls, .ref x :: st, M)
  | some .null => some (pc + len, ls, .null :: st, M)
  | _ => none
def y_storeI (nL i len pc : Nat) (ls : y_L) (st : List Value) (M : y_M) : Option y_F := match st with
  | .int x :: r => if i < nL then some (pc + len, y_set ls i (.int x), r, M) else none
  | _ => none
def y_storeL (nL i len pc : Nat) (ls : y_L) (st : List Value) (M : y_M) : Option y_F := match st with
  | .long x :: r => if i + 1 < nL then some (pc + len, y_set2 ls i (.long x), r, M) else none
  | _ => none
def y_storeA (nL i len pc : Nat) (ls : y_L) (st : List Value) (M : y_M) : Option y_F := match st with
  | .ref x :: r => if i < nL then some (pc + len, y_set ls i (.ref x), r, M) else none
  | .null :: r => if i < nL then some (pc + len, y_set ls i .null, r, M) else none
  | _ => none
def y_inc (nL i : Nat) (n : Int) (pc : Nat) (ls : y_L) (st : List Value) (M : y_M) : Option y_F := match y_get ls i with
  | some (.int x) => if i < nL then some (pc + 3, y_set ls i (.int (x + Int32.ofInt n)), st, M) else none
  | _ => none
def y_br1 (cnd : ClassFile.Cond) (off : Int) (pc : Nat) (ls : y_L) (st : List Value) (M : y_M) : Option y_F := match st with
  | .int x :: r => y_go pc off 3 (y_cmp cnd x 0) ls r M
  | _ => none
def y_br2 (cnd : ClassFile.Cond) (off : Int) (pc : Nat) (ls : y_L) (st : List Value) (M : y_M) : Option y_F := match st with
  | .int y :: .int x :: r => y_go pc off 3 (y_cmp cnd x y) ls r M
  | _ => none
def y_brN (b : Bool) (off : Int) (pc : Nat) (ls : y_L) (st : List Value) (M : y_M) : Option y_F := match st with
  | .null :: r => y_go pc off 3 b ls r M
  | .ref _ :: r => y_go pc off 3 (!b) ls r M
  | _ => none
/-- the instructions that touch no cell -/
def y_pure (nL : Nat) (i : Instr) (pc : Nat) (ls : y_L) (st : List Value) (M : y_M) : Option y_F := match i with
  | .iconst n => some (pc + 1, ls, .int (Int32.ofInt n) :: st, M)
  | .bipush n => some (pc + 2, ls, .int (Int8.ofInt n).toInt32 :: st, M)
  | .sipush n => some (pc + 3, ls, .int (Int16.ofInt n).toInt32 :: st, M)
  | .lconst n => some (pc + 1, ls, .long (Int64.ofNat n.val) :: st, M)
  | .iload_n k => y_loadI k.val 1 pc ls st M
  | .iload k => y_loadI k 2 pc ls st M
  | .lload_n k => y_loadL k.val 1 pc ls st M
  | .lload k => y_loadL k 2 pc ls st M
  | .aload_n k => y_loadA k.val 1 pc ls st M
  | .aload k => y_loadA k 2 pc ls st M
  | .istore_n k => y_storeI nL k.val 1 pc ls st M
  | .istore k => y_storeI nL k 2 pc ls st M
  | .lstore_n k => y_storeL nL k.val 1 pc ls st M
  | .lstore k => y_storeL nL k 2 pc ls st M
  | .astore_n k => y_storeA nL k.val 1 pc ls st M
  | .astore k => y_storeA nL k 2 pc ls st M
  | .iinc k n => y_inc nL k n pc ls st M
  | .iadd => y_int2 (fun x y => x + y) pc ls st M
  | .isub => y_int2 (fun x y => x - y) pc ls st M
  | .imul => y_int2 (fun x y => x * y) pc ls st M
  | .iand => y_int2 (fun x y => x &&& y) pc ls st M
  | .ior => y_int2 (fun x y => x ||| y) pc ls st M
  | .ixor => y_int2 (fun x y => x ^^^ y) pc ls st M
  | .ishl => y_int2 (fun x y => x <<< (y &&& 31)) pc ls st M
  | .ishr => y_int2 (fun x y => x >>> (y &&& 31)) pc ls st M
  | .iushr => y_int2 (fun x y => (x.toUInt32 >>> (y.toUInt32 &&& Int32.toUInt32 31)).toInt32) pc ls st M
  | .ineg => y_int (fun x => -x) pc ls st M
  | .i2b => y_int (fun x => x.toInt8.toInt32) pc ls st M
  | .i2c => y_int (fun x => (x.toUInt32 % 65536).toInt32) pc ls st M
  | .ladd => y_long2 (fun x y => x + y) pc ls st M
  | .lsub => y_long2 (fun x y => x - y) pc ls st M
  | .lmul => y_long2 (fun x y => x * y) pc ls st M
  | .land => y_long2 (fun x y => x &&& y) pc ls st M
  | .lor => y_long2 (fun x y => x ||| y) pc ls st M
  | .lushr => y_longI (fun x y => (x.toUInt64 >>> (y.toInt64.toUInt64 &&& Int64.toUInt64 63)).toInt64) pc ls st M
  | .lshl => y_longI (fun x y => x <<< (y.toInt64 &&& 63)) pc ls st M
  | .lneg => (match st with
    | .long x :: r => some (pc + 1, ls, .long (-x) :: r, M)
    | _ => none)
  | .i2l => (match st with
    | .int x :: r => some (pc + 1, ls, .long x.toInt64 :: r, M)
    | _ => none)
  | .l2i => (match st with
    | .long x :: r => some (pc + 1, ls, .int x.toInt32 :: r, M)
    | _ => none)
  | .lcmp => (match st with
    | .long y :: .long x :: r => some (pc + 1, ls, .int (lg_cmp x y) :: r, M)
    | _ => none)
  | .dup => (match st with
    | .int x :: r => some (pc + 1, ls, .int x :: .int x :: r, M)
    | .ref x :: r => some (pc + 1, ls, .ref x :: .ref x :: r, M)
    | _ => none)
  | .pop => (match st with
    | .int _ :: r => some (pc + 1, ls, r, M)
    | .ref _ :: r => some (pc + 1, ls, r, M)
    | _ => none)
  | .ifCond cnd off => y_br1 cnd off pc ls st M
  | .if_icmp cnd off => y_br2 cnd off pc ls st M
  | .ifnull off => y_brN true off pc ls st M
  | .ifnonnull off => y_brN false off pc ls st M
  | .goto off => y_go pc off 3 true ls st M
  | _ => none
def y_switch (dflt lo hi : Int) (offs : Array Int) (pc : Nat) (ls : y_L) (st : List Value) (M : y_M) : Option y_F := match st with
  | .int x :: r => if x.toInt < lo ∨ hi < x.toInt then y_go pc dflt 0 true ls r M else (match offs[(x.toInt - lo).toNat]? with
    | some off => y_go pc off 0 true ls r M
    | none => none)
  | _ => none
end YDefs
end
section
/-! PURE: the small machine's values, locals, cells as the real one's; its pure instructions are sound. -/
section YTr
def y_tv (r : Nat → Nat) : Value → Value
  | .ref k => .ref (r k)
  | .retAddr k => (match r (2000000 + k) with
    | 0 => .null
    | n + 1 => .ref n)
  | v => v
def y_ts (r : Nat → Nat) (st : List Value) : List Value := st.map (y_tv r)
def y_tL (r : Nat → Nat) (ls : y_L) : List (Nat × Value) := ls.map (fun q => (q.1, y_tv r q.2))
def y_tC (r : Nat → Nat) (kA : FieldType → ClassId) : y_C → va_E
  | .inl (ty, n, f) => .inl (kA ty, n, .inl f)
  | .inr (ci, fs) => .inr (ci, y_ts r fs)
def y_ws (r : Nat → Nat) (kA : FieldType → ClassId) (Ms : List y_C) : va_W := Ms.mapIdx (fun k c => (r k, y_tC r kA c))
def y_World (D : va_G) (cl : List vw_C) (kA : FieldType → ClassId) (A : Nat → Prop) (r : Nat → Nat) (Ms : List y_C) (H : Heap) : Prop := va_P D cl (y_ws r kA Ms) H ∧ va_D A (y_ws r kA Ms)
def y_Ext (r0 : Nat → Nat) (n0 : Nat) (r : Nat → Nat) : Prop := ∀ k, (k < n0 ∨ 1000000 ≤ k) → r k = r0 k
theorem y_tv_cat (r : Nat → Nat) (v : Value) : (y_tv r v).category = v.category := by
  cases v with
  | retAddr k =>
    show (match r (2000000 + k) with
      | 0 => Value.null
      | n + 1 => Value.ref n).category = 1
    split <;> rfl
  | _ => rfl
theorem y_tv_op {r r' : Nat → Nat} {k : Nat} (h : r' (2000000 + k) = r (2000000 + k)) : y_tv r' (.retAddr k) = y_tv r (.retAddr k) := by
  show (match r' (2000000 + k) with
    | 0 => Value.null
    | n + 1 => Value.ref n) = (match r (2000000 + k) with
    | 0 => Value.null
    | n + 1 => Value.ref n)
  rw [h]
theorem y_tL_set (r : Nat → Nat) (ls : y_L) (i : Nat) (v : Value) : (i, y_tv r v) :: (y_tL r ls).filter (fun q => !(q.1 == i) && !(q.1 + 1 == i && q.2.category == 2)) = y_tL r (y_set ls i v) := by
  unfold y_set y_tL
  rw [List.map_cons, List.filter_map]
  congr 2
  apply List.filter_congr
  intro q _
  simp only [Function.comp, y_tv_cat]
theorem y_tL_set2 (r : Nat → Nat) (ls : y_L) (i : Nat) (v : Value) : (i, y_tv r v) :: (y_tL r ls).filter (fun q => !(q.1 == i) && (!(q.1 == i + 1) && !(q.1 + 1 == i && q.2.category == 2))) = y_tL r (y_set2 ls i v) := by
  unfold y_set2 y_tL
  rw [List.map_cons, List.filter_map]
  congr 2
  apply List.filter_congr
  intro q _
  simp only [Function.comp, y_tv_cat]
theorem y_get_mem {i : Nat} {v : Value} : ∀ {ls : y_L}, y_get ls i = some v → (i, v) ∈ ls
  | [], h => by cases h
  | (j, w) :: t, h => by
    unfold y_get at h
    by_cases e : j = i
    · rw [if_pos e] at h
      cases h
      subst e
      exact List.mem_cons_self
    · rw [if_neg e] at h
      exact List.mem_cons_of_mem _ (y_get_mem h)
theorem y_get_tL {r : Nat → Nat} {ls : y_L} {i : Nat} {v : Value} (h : y_get ls i = some v) : (i, y_tv r v) ∈ y_tL r ls := List.mem_map_of_mem (f := fun q : Nat × Value => (q.1, y_tv r q.2)) (y_get_mem h)
theorem y_get_at {r : Nat → Nat} {ls : y_L} {i nL : Nat} {v : Value} {la : Array Slot} (h : y_get ls i = some v) (hl : lv_has la nL (y_tL r ls)) : la[i]? = some (.val (y_tv r v)) := hl.2.2 _ (y_get_tL h)
theorem y_ws_at {r : Nat → Nat} {kA : FieldType → ClassId} {Ms : List y_C} {k : Nat} {c : y_C} (h : Ms[k]? = some c) : (y_ws r kA Ms)[k]? = some (r k, y_tC r kA c) := by
  unfold y_ws
  rw [List.getElem?_mapIdx, h]
  rfl
theorem y_ws_set {r : Nat → Nat} {kA : FieldType → ClassId} {Ms : List y_C} {k : Nat} {c : y_C} : (y_ws r kA Ms).set k (r k, y_tC r kA c) = y_ws r kA (Ms.set k c) := by
  unfold y_ws
  apply List.ext_getElem?
  intro j
  rw [List.getElem?_set, List.getElem?_mapIdx, List.getElem?_mapIdx, List.getElem?_set, List.length_mapIdx]
  by_cases e : k = j
  · subst e
    simp only [if_true]
    by_cases hl : k < Ms.length
    · simp [hl]
    · simp [hl]
  · simp only [if_neg e]
end YTr
section YPure
variable {p : Program} {l : Launch} {e : Env} {R : Room} {s : State} {m : MethodId} {args : Array Value} {below : List Frame} {meth : Method} {c : Code} {Q : State → Prop}
/-- the machine stands at the small machine's frame and memory -/
def y_Wd (p : Program) (l : Launch) (e : Env) (R : Room) (s : State) (m : MethodId) (args : Array Value) (below : List Frame) (meth : Method) (c : Code) (D : va_G) (cl : List vw_C) (kA : FieldType → ClassId) (A : Nat → Prop) (r0 : Nat → Nat) (n0 c0 s0 nL : Nat) (Q : State → Prop) (F : y_F) : Prop :=
  ∀ (r : Nat → Nat) (H : Heap) (locs : List Loc) (la : Array Slot), y_Ext r0 n0 r → n0 ≤ F.2.2.2.1.length → c0 ≤ F.2.2.2.2.1 → s0 ≤ F.2.2.2.2.2 → y_World D cl kA A r F.2.2.2.1 H → va_S A s.heap H locs → lv_has la nL (y_tL r F.2.1) →
    W p l e R s m args below meth c H locs (F.2.2.2.2.1 - c0) (F.2.2.2.2.2 - s0) Q (F0 m F.1 la (y_ts r F.2.2.1))
variable {D : va_G} {cl : List vw_C} {kA : FieldType → ClassId} {A : Nat → Prop} {r0 : Nat → Nat} {n0 c0 s0 nL : Nat} {cc : ByteArray}
theorem y_int_spec {f : Int32 → Int32} {pc : Nat} {ls : y_L} {st : List Value} {M : y_M} {F : y_F} (h : y_int f pc ls st M = some F) : ∃ x r, st = .int x :: r ∧ F = (pc + 1, ls, .int (f x) :: r, M) := by
  unfold y_int at h
  split at h
  · cases h; exact ⟨_, _, rfl, rfl⟩
  · cases h
theorem y_int2_spec {f : Int32 → Int32 → Int32} {pc : Nat} {ls : y_L} {st : List Value} {M : y_M} {F : y_F} (h : y_int2 f pc ls st M = some F) : ∃ x y r, st = .int y :: .int x :: r ∧ F = (pc + 1, ls, .int (f x y) :: r, M) := by
  unfold y_int2 at h
  split at h
  · cases h; exact ⟨_, _, _, rfl, rfl⟩
  · cases h
theorem y_long2_spec {f : Int64 → Int64 → Int64} {pc : Nat} {ls : y_L} {st : List Value} {M : y_M} {F : y_F} (h : y_long2 f pc ls st M = some F) : ∃ x y r, st = .long y :: .long x :: r ∧ F = (pc + 1, ls, .long (f x y) :: r, M) := by
  unfold y_long2 at h
  split at h
  · cases h; exact ⟨_, _, _, rfl, rfl⟩
  · cases h
theorem y_longI_spec {f : Int64 → Int32 → Int64} {pc : Nat} {ls : y_L} {st : List Value} {M : y_M} {F : y_F} (h : y_longI f pc ls st M = some F) : ∃ x y r, st = .int y :: .long x :: r ∧ F = (pc + 1, ls, .long (f x y) :: r, M) := by
  unfold y_longI at h
  split at h
  · cases h; exact ⟨_, _, _, rfl, rfl⟩
  · cases h
theorem y_loadI_spec {i len pc : Nat} {ls : y_L} {st : List Value} {M : y_M} {F : y_F} (h : y_loadI i len pc ls st M = some F) : ∃ x, y_get ls i = some (.int x) ∧ F = (pc + len, ls, .int x :: st, M) := by
  unfold y_loadI at h
  split at h
  · cases h; exact ⟨_, by assumption, rfl⟩
  · cases h
theorem y_loadL_spec {i len pc : Nat} {ls : y_L} {st : List Value} {M : y_M} {F : y_F} (h : y_loadL i len pc ls st M = some F) : ∃ x, y_get ls i = some (.long x) ∧ F = (pc + len, ls, .long x :: st, M) := by
  unfold y_loadL at h
  split at h
  · cases h; exact ⟨_, by assumption, rfl⟩
  · cases h
theorem y_loadA_spec {i len pc : Nat} {ls : y_L} {st : List Value} {M : y_M} {F : y_F} (h : y_loadA i len pc ls st M = some F) : (∃ x, y_get ls i = some (.ref x) ∧ F = (pc + len, ls, .ref x :: st, M)) ∨ (y_get ls i = some .null ∧ F = (pc + len, ls, .null :: st, M)) := by
  unfold y_loadA at h
  split at h
  · cases h; exact Or.inl ⟨_, by assumption, rfl⟩
  · cases h; exact Or.inr ⟨by assumption, rfl⟩
  · cases h
theorem y_storeI_spec {nL i len pc : Nat} {ls : y_L} {st : List Value} {M : y_M} {F : y_F} (h : y_storeI nL i len pc ls st M = some F) : ∃ x r, st = .int x :: r ∧ i < nL ∧ F = (pc + len, y_set ls i (.int x), r, M) := by
  unfold y_storeI at h
  split at h
  · split at h
    · cases h; exact ⟨_, _, rfl, by assumption, rfl⟩
    · cases h
  · cases h
theorem y_storeL_spec {nL i len pc : Nat} {ls : y_L} {st : List Value} {M : y_M} {F : y_F} (h : y_storeL nL i len pc ls st M = some F) : ∃ x r, st = .long x :: r ∧ i + 1 < nL ∧ F = (pc + len, y_set2 ls i (.long x), r, M) := by
  unfold y_storeL at h
  split at h
  · split at h
    · cases h; exact ⟨_, _, rfl, by assumption, rfl⟩
    · cases h
  · cases h
theorem y_storeA_spec {nL i len pc : Nat} {ls : y_L} {st : List Value} {M : y_M} {F : y_F} (h : y_storeA nL i len pc ls st M = some F) : (∃ x r, st = .ref x :: r ∧ i < nL ∧ F = (pc + len, y_set ls i (.ref x), r, M)) ∨ (∃ r, st = .null :: r ∧ i < nL ∧ F = (pc + len, y_set ls i .null, r, M)) := by
  unfold y_storeA at h
  split at h
  · split at h
    · cases h; exact Or.inl ⟨_, _, rfl, by assumption, rfl⟩
    · cases h
  · split at h
    · cases h; exact Or.inr ⟨_, rfl, by assumption, rfl⟩
    · cases h
  · cases h
theorem y_inc_spec {nL i pc : Nat} {n : Int} {ls : y_L} {st : List Value} {M : y_M} {F : y_F} (h : y_inc nL i n pc ls st M = some F) : ∃ x, y_get ls i = some (.int x) ∧ i < nL ∧ F = (pc + 3, y_set ls i (.int (x + Int32.ofInt n)), st, M) := by
  unfold y_inc at h
  split at h
  · split at h
    · cases h; exact ⟨_, by assumption, by assumption, rfl⟩
    · cases h
  · cases h
theorem y_jump_spec {pc : Nat} {off : Int} {t : Nat} (h : y_jump pc off = some t) : (pc : Int) + off = (t : Int) := by
  unfold y_jump at h
  split at h
  · rename_i q e; cases h; exact e
  · cases h
theorem y_go_spec {pc : Nat} {off : Int} {len : Nat} {b : Bool} {ls : y_L} {st : List Value} {M : y_M} {F : y_F} (h : y_go pc off len b ls st M = some F) : ∃ t : Nat, (pc : Int) + off = (t : Int) ∧ F = (cond b t (pc + len), ls, st, M) := by
  unfold y_go at h
  split at h
  · rename_i t e; cases h; exact ⟨t, y_jump_spec e, rfl⟩
  · cases h
theorem y_br1_spec {cnd : ClassFile.Cond} {off : Int} {pc : Nat} {ls : y_L} {st : List Value} {M : y_M} {F : y_F} (h : y_br1 cnd off pc ls st M = some F) : ∃ x r, ∃ t : Nat, st = .int x :: r ∧ (pc : Int) + off = (t : Int) ∧ F = (cond (y_cmp cnd x 0) t (pc + 3), ls, r, M) := by
  unfold y_br1 at h
  split at h
  · obtain ⟨t, h1, h2⟩ := y_go_spec h
    exact ⟨_, _, t, rfl, h1, h2⟩
  · cases h
theorem y_br2_spec {cnd : ClassFile.Cond} {off : Int} {pc : Nat} {ls : y_L} {st : List Value} {M : y_M} {F : y_F} (h : y_br2 cnd off pc ls st M = some F) : ∃ x y r, ∃ t : Nat, st = .int y :: .int x :: r ∧ (pc : Int) + off = (t : Int) ∧ F = (cond (y_cmp cnd x y) t (pc + 3), ls, r, M) := by
  unfold y_br2 at h
  split at h
  · obtain ⟨t, h1, h2⟩ := y_go_spec h
    exact ⟨_, _, _, t, rfl, h1, h2⟩
  · cases h
theorem y_brN_spec {b : Bool} {off : Int} {pc : Nat} {ls : y_L} {st : List Value} {M : y_M} {F : y_F} (h : y_brN b off pc ls st M = some F) : (∃ r, ∃ t : Nat, st = .null :: r ∧ (pc : Int) + off = (t : Int) ∧ F = (cond b t (pc + 3), ls, r, M)) ∨ (∃ x r, ∃ t : Nat, st = .ref x :: r ∧ (pc : Int) + off = (t : Int) ∧ F = (cond (!b) t (pc + 3), ls, r, M)) := by
  unfold y_brN at h
  split at h
  · obtain ⟨t, h1, h2⟩ := y_go_spec h
    exact Or.inl ⟨_, t, rfl, h1, h2⟩
  · obtain ⟨t, h1, h2⟩ := y_go_spec h
    exact Or.inr ⟨_, _, t, rfl, h1, h2⟩
  · cases h
/-- a comparison's two goals out of one -/
theorem y_cond {P : Nat → Prop} {b : Bool} {q : Prop} {t f : Nat} (hb : b = true ↔ q) (k : P (cond b t f)) : (q → P t) ∧ (¬ q → P f) := by
  cases b with
  | true => exact ⟨fun _ => k, fun h => absurd (hb.mp rfl) h⟩
  | false => exact ⟨fun h => absurd (hb.mpr h) (by decide), fun _ => k⟩
set_option maxHeartbeats 4000000 in
theorem y_pureW (hx : p.tables.exec = Jvm.exec) (hb : c.code = cc) {i : Instr} {len pc : Nat} {ls : y_L} {st : List Value} {M : y_M} {F : y_F} (hdg : decode cc pc = .ok (i, len)) (hlen : len = y_len i) (h : y_pure nL i pc ls st M = some F)
    (kk : y_Wd p l e R s m args below meth c D cl kA A r0 n0 c0 s0 nL Q F) : y_Wd p l e R s m args below meth c D cl kA A r0 n0 c0 s0 nL Q (pc, ls, st, M) := by
  subst hlen
  intro r H locs la hE hn hc hs hw hS hl
  unfold y_pure at h
  split at h
  case _ => cases h; exact lv_iconst hx hb hdg rfl (kk r H locs la hE hn hc hs hw hS hl)
  case _ => cases h; exact lv_bipush hx hb hdg rfl (kk r H locs la hE hn hc hs hw hS hl)
  case _ => cases h; exact lv_sipush hx hb hdg rfl (kk r H locs la hE hn hc hs hw hS hl)
  case _ => cases h; exact lv_lconst hx hb hdg rfl (kk r H locs la hE hn hc hs hw hS hl)
  case _ => obtain ⟨x, h1, rfl⟩ := y_loadI_spec h; exact lv_iload_n hx hb hdg rfl (y_get_at h1 hl) (kk r H locs la hE hn hc hs hw hS hl)
  case _ => obtain ⟨x, h1, rfl⟩ := y_loadI_spec h; exact lv_iload hx hb hdg (y_get_at h1 hl) (kk r H locs la hE hn hc hs hw hS hl)
  case _ => obtain ⟨x, h1, rfl⟩ := y_loadL_spec h; exact lv_lload_n hx hb hdg rfl (y_get_at h1 hl) (kk r H locs la hE hn hc hs hw hS hl)
  case _ => obtain ⟨x, h1, rfl⟩ := y_loadL_spec h; exact lv_lload hx hb hdg (y_get_at h1 hl) (kk r H locs la hE hn hc hs hw hS hl)
  case _ =>
    rcases y_loadA_spec h with ⟨x, h1, rfl⟩ | ⟨h1, rfl⟩
    · exact lv_aload_n hx hb hdg rfl (y_get_at h1 hl) (kk r H locs la hE hn hc hs hw hS hl)
    · exact lv_aload_nN hx hb hdg rfl (y_get_at h1 hl) (kk r H locs la hE hn hc hs hw hS hl)
  case _ =>
    rcases y_loadA_spec h with ⟨x, h1, rfl⟩ | ⟨h1, rfl⟩
    · exact lv_aload hx hb hdg (y_get_at h1 hl) (kk r H locs la hE hn hc hs hw hS hl)
    · exact lv_aloadN hx hb hdg (y_get_at h1 hl) (kk r H locs la hE hn hc hs hw hS hl)
  case _ => obtain ⟨x, t, rfl, h1, rfl⟩ := y_storeI_spec h; exact lv_istore_n hx hb hdg rfl hl h1 (y_tL_set r ls _ (.int x)) (fun la' hl' => kk r H locs la' hE hn hc hs hw hS hl')
  case _ => obtain ⟨x, t, rfl, h1, rfl⟩ := y_storeI_spec h; exact lv_istore hx hb hdg hl h1 (y_tL_set r ls _ (.int x)) (fun la' hl' => kk r H locs la' hE hn hc hs hw hS hl')
  case _ => obtain ⟨x, t, rfl, h1, rfl⟩ := y_storeL_spec h; exact lv_lstore_n hx hb hdg rfl hl h1 (y_tL_set2 r ls _ (.long x)) (fun la' hl' => kk r H locs la' hE hn hc hs hw hS hl')
  case _ => obtain ⟨x, t, rfl, h1, rfl⟩ := y_storeL_spec h; exact lv_lstore hx hb hdg hl h1 (y_tL_set2 r ls _ (.long x)) (fun la' hl' => kk r H locs la' hE hn hc hs hw hS hl')
  case _ =>
    rcases y_storeA_spec h with ⟨x, t, rfl, h1, rfl⟩ | ⟨t, rfl, h1, rfl⟩
    · exact lv_astore_n hx hb hdg rfl hl h1 (y_tL_set r ls _ (.ref x)) (fun la' hl' => kk r H locs la' hE hn hc hs hw hS hl')
    · exact lv_astore_nN hx hb hdg rfl hl h1 (y_tL_set r ls _ .null) (fun la' hl' => kk r H locs la' hE hn hc hs hw hS hl')
  case _ =>
    rcases y_storeA_spec h with ⟨x, t, rfl, h1, rfl⟩ | ⟨t, rfl, h1, rfl⟩
    · exact lv_astore hx hb hdg hl h1 (y_tL_set r ls _ (.ref x)) (fun la' hl' => kk r H locs la' hE hn hc hs hw hS hl')
    · exact lv_astoreN hx hb hdg hl h1 (y_tL_set r ls _ .null) (fun la' hl' => kk r H locs la' hE hn hc hs hw hS hl')
  case _ =>
    obtain ⟨x, h0, h1, rfl⟩ := y_inc_spec h
    obtain ⟨k, hk⟩ := List.mem_iff_getElem?.mp (y_get_tL (r := r) h0)
    exact lv_iinc hx hb hdg hl hk rfl h1 (y_tL_set r ls _ (.int (x + Int32.ofInt _))) (fun la' hl' => kk r H locs la' hE hn hc hs hw hS hl')
  case _ => obtain ⟨x, y, t, rfl, rfl⟩ := y_int2_spec h; exact lv_iadd hx hb hdg (kk r H locs la hE hn hc hs hw hS hl)
  case _ => obtain ⟨x, y, t, rfl, rfl⟩ := y_int2_spec h; exact lv_isub hx hb hdg (kk r H locs la hE hn hc hs hw hS hl)
  case _ => obtain ⟨x, y, t, rfl, rfl⟩ := y_int2_spec h; exact lv_imul hx hb hdg (kk r H locs la hE hn hc hs hw hS hl)
  case _ => obtain ⟨x, y, t, rfl, rfl⟩ := y_int2_spec h; exact lv_iand hx hb hdg (kk r H locs la hE hn hc hs hw hS hl)
  case _ => obtain ⟨x, y, t, rfl, rfl⟩ := y_int2_spec h; exact lv_ior hx hb hdg (kk r H locs la hE hn hc hs hw hS hl)
  case _ => obtain ⟨x, y, t, rfl, rfl⟩ := y_int2_spec h; exact lv_ixor hx hb hdg (kk r H locs la hE hn hc hs hw hS hl)
  case _ => obtain ⟨x, y, t, rfl, rfl⟩ := y_int2_spec h; exact lv_ishl hx hb hdg (kk r H locs la hE hn hc hs hw hS hl)
  case _ => obtain ⟨x, y, t, rfl, rfl⟩ := y_int2_spec h; exact lv_ishr hx hb hdg (kk r H locs la hE hn hc hs hw hS hl)
  case _ => obtain ⟨x, y, t, rfl, rfl⟩ := y_int2_spec h; exact lv_iushr hx hb hdg rfl (kk r H locs la hE hn hc hs hw hS hl)
  case _ => obtain ⟨x, t, rfl, rfl⟩ := y_int_spec h; exact lv_ineg hx hb hdg (kk r H locs la hE hn hc hs hw hS hl)
  case _ => obtain ⟨x, t, rfl, rfl⟩ := y_int_spec h; exact lv_i2b hx hb hdg rfl (kk r H locs la hE hn hc hs hw hS hl)
  case _ => obtain ⟨x, t, rfl, rfl⟩ := y_int_spec h; exact lv_i2c hx hb hdg rfl (kk r H locs la hE hn hc hs hw hS hl)
  case _ => obtain ⟨x, y, t, rfl, rfl⟩ := y_long2_spec h; exact lv_ladd hx hb hdg (kk r H locs la hE hn hc hs hw hS hl)
  case _ => obtain ⟨x, y, t, rfl, rfl⟩ := y_long2_spec h; exact lv_lsub hx hb hdg (kk r H locs la hE hn hc hs hw hS hl)
  case _ => obtain ⟨x, y, t, rfl, rfl⟩ := y_long2_spec h; exact lv_lmul hx hb hdg (kk r H locs la hE hn hc hs hw hS hl)
  case _ => obtain ⟨x, y, t, rfl, rfl⟩ := y_long2_spec h; exact lv_land hx hb hdg (kk r H locs la hE hn hc hs hw hS hl)
  case _ => obtain ⟨x, y, t, rfl, rfl⟩ := y_long2_spec h; exact lv_lor hx hb hdg (kk r H locs la hE hn hc hs hw hS hl)
  case _ => obtain ⟨x, y, t, rfl, rfl⟩ := y_longI_spec h; exact lv_lushr hx hb hdg rfl (kk r H locs la hE hn hc hs hw hS hl)
  case _ => obtain ⟨x, y, t, rfl, rfl⟩ := y_longI_spec h; exact lv_lshl hx hb hdg rfl (kk r H locs la hE hn hc hs hw hS hl)
  case _ =>
    split at h
    · cases h; exact lv_lneg hx hb hdg (kk r H locs la hE hn hc hs hw hS hl)
    · cases h
  case _ =>
    split at h
    · cases h; exact lv_i2l hx hb hdg rfl (kk r H locs la hE hn hc hs hw hS hl)
    · cases h
  case _ =>
    split at h
    · cases h; exact lv_l2i hx hb hdg rfl (kk r H locs la hE hn hc hs hw hS hl)
    · cases h
  case _ =>
    split at h
    · cases h; exact W.lcmp hx hb hdg (kk r H locs la hE hn hc hs hw hS hl)
    · cases h
  case _ =>
    split at h
    · cases h; exact lv_dup hx hb hdg rfl (kk r H locs la hE hn hc hs hw hS hl)
    · cases h; exact lv_dup hx hb hdg rfl (kk r H locs la hE hn hc hs hw hS hl)
    · cases h
  case _ =>
    split at h
    · cases h; exact lv_pop hx hb hdg rfl (kk r H locs la hE hn hc hs hw hS hl)
    · cases h; exact lv_pop hx hb hdg rfl (kk r H locs la hE hn hc hs hw hS hl)
    · cases h
  case _ =>
    rename_i cnd off
    obtain ⟨x, t, tg, rfl, ht, rfl⟩ := y_br1_spec h
    have hk := kk r H locs la hE hn hc hs hw hS hl
    cases cnd with
    | eq => obtain ⟨a, b⟩ := y_cond (q := x = 0) (P := fun pc' => W p l e R s m args below meth c H locs _ _ Q (F0 m pc' la (y_ts r t))) (by simp [y_cmp]) hk; exact lv_if_eq hx hb hdg ht a b
    | ne => obtain ⟨a, b⟩ := y_cond (q := ¬ x = 0) (P := fun pc' => W p l e R s m args below meth c H locs _ _ Q (F0 m pc' la (y_ts r t))) (by simp [y_cmp]) hk; exact lv_if_ne hx hb hdg ht a (fun z => b (fun w => w z))
    | lt => obtain ⟨a, b⟩ := y_cond (q := x < 0) (P := fun pc' => W p l e R s m args below meth c H locs _ _ Q (F0 m pc' la (y_ts r t))) (by simp [y_cmp]) hk; exact lv_if_lt hx hb hdg ht a b
    | ge => obtain ⟨a, b⟩ := y_cond (q := 0 ≤ x) (P := fun pc' => W p l e R s m args below meth c H locs _ _ Q (F0 m pc' la (y_ts r t))) (by simp [y_cmp]) hk; exact lv_if_ge hx hb hdg ht a b
    | gt => obtain ⟨a, b⟩ := y_cond (q := 0 < x) (P := fun pc' => W p l e R s m args below meth c H locs _ _ Q (F0 m pc' la (y_ts r t))) (by simp [y_cmp]) hk; exact lv_if_gt hx hb hdg ht a b
    | le => obtain ⟨a, b⟩ := y_cond (q := x ≤ 0) (P := fun pc' => W p l e R s m args below meth c H locs _ _ Q (F0 m pc' la (y_ts r t))) (by simp [y_cmp]) hk; exact lv_if_le hx hb hdg ht a b
  case _ =>
    rename_i cnd off
    obtain ⟨x, y, t, tg, rfl, ht, rfl⟩ := y_br2_spec h
    have hk := kk r H locs la hE hn hc hs hw hS hl
    cases cnd with
    | eq => obtain ⟨a, b⟩ := y_cond (q := x = y) (P := fun pc' => W p l e R s m args below meth c H locs _ _ Q (F0 m pc' la (y_ts r t))) (by simp [y_cmp]) hk; exact lv_icmp_eq hx hb hdg ht a b
    | ne => obtain ⟨a, b⟩ := y_cond (q := ¬ x = y) (P := fun pc' => W p l e R s m args below meth c H locs _ _ Q (F0 m pc' la (y_ts r t))) (by simp [y_cmp]) hk; exact lv_icmp_ne hx hb hdg ht a (fun z => b (fun w => w z))
    | lt => obtain ⟨a, b⟩ := y_cond (q := x < y) (P := fun pc' => W p l e R s m args below meth c H locs _ _ Q (F0 m pc' la (y_ts r t))) (by simp [y_cmp]) hk; exact lv_icmp_lt hx hb hdg ht a b
    | ge => obtain ⟨a, b⟩ := y_cond (q := y ≤ x) (P := fun pc' => W p l e R s m args below meth c H locs _ _ Q (F0 m pc' la (y_ts r t))) (by simp [y_cmp]) hk; exact lv_icmp_ge hx hb hdg ht a b
    | gt => obtain ⟨a, b⟩ := y_cond (q := y < x) (P := fun pc' => W p l e R s m args below meth c H locs _ _ Q (F0 m pc' la (y_ts r t))) (by simp [y_cmp]) hk; exact lv_icmp_gt hx hb hdg ht a b
    | le => obtain ⟨a, b⟩ := y_cond (q := x ≤ y) (P := fun pc' => W p l e R s m args below meth c H locs _ _ Q (F0 m pc' la (y_ts r t))) (by simp [y_cmp]) hk; exact lv_icmp_le hx hb hdg ht a b
  case _ =>
    rcases y_brN_spec h with ⟨t, tg, rfl, ht, rfl⟩ | ⟨x, t, tg, rfl, ht, rfl⟩
    · exact lv_ifnullN hx hb hdg ht (kk r H locs la hE hn hc hs hw hS hl)
    · exact lv_ifnull hx hb hdg (kk r H locs la hE hn hc hs hw hS hl)
  case _ =>
    rcases y_brN_spec h with ⟨t, tg, rfl, ht, rfl⟩ | ⟨x, t, tg, rfl, ht, rfl⟩
    · exact lv_ifnonnullN hx hb hdg (kk r H locs la hE hn hc hs hw hS hl)
    · exact lv_ifnonnull hx hb hdg ht (kk r H locs la hE hn hc hs hw hS hl)
  case _ =>
    obtain ⟨t, ht, rfl⟩ := y_go_spec h
    exact lv_goto hx hb hdg ht (kk r H locs la hE hn hc hs hw hS hl)
  case _ => cases h
end YPure
end
section
/-! CELLS: the small machine's instructions on its own cells, and that they are sound. -/
section YCells
def y_getf (fld : Nat → Option (Nat × Nat × Nat × FieldType)) (idx pc : Nat) (ls : y_L) (st : List Value) (M : y_M) : Option y_F := match st with
  | .ref a :: t => (match M.1[a]?, fld idx with
    | some (.inr (ci, fs)), some (cj, k, _, _) => (match Nat.beq ci cj, fs[k]? with
      | true, some v => some (pc + 3, ls, v :: t, M)
      | _, _ => none)
    | _, _ => none)
  | _ => none
def y_putf (ini : Bool) (fld : Nat → Option (Nat × Nat × Nat × FieldType)) (idx pc : Nat) (ls : y_L) (st : List Value) (M : y_M) : Option y_F := match st with
  | v :: .ref a :: t => (match M.1[a]?, fld idx with
    | some (.inr (ci, fs)), some (cj, k, fin, ty) => (match Nat.beq ci cj && (Nat.beq fin 0 || (Nat.beq fin 1 && ini)) && y_fits ty v && Nat.blt k fs.length with
      | true => some (pc + 3, ls, t, (M.1.set a (.inr (ci, fs.set k v)), M.2))
      | false => none)
    | _, _ => none)
  | _ => none
def y_tyEq : FieldType → FieldType → Bool
  | .int, .int => true
  | .byte, .byte => true
  | _, _ => false
def y_ald (ty : FieldType) (pc : Nat) (ls : y_L) (st : List Value) (M : y_M) : Option y_F := match st with
  | .int i :: .ref a :: t => (match M.1[a]? with
    | some (.inl (ty', n, f)) => (match y_tyEq ty ty' && y_inB i n with
      | true => some (pc + 1, ls, .int (f i.toNatClampNeg) :: t, M)
      | false => none)
    | _ => none)
  | _ => none
def y_ast (ty : FieldType) (pc : Nat) (ls : y_L) (st : List Value) (M : y_M) : Option y_F := match st with
  | .int x :: .int i :: .ref a :: t => (match M.1[a]? with
    | some (.inl (ty', n, f)) => (match y_tyEq ty ty' && y_inB i n with
      | true => some (pc + 1, ls, t, (M.1.set a (.inl (ty', n, upd f i.toNatClampNeg (vp_nar ty x))), M.2))
      | false => none)
    | _ => none)
  | _ => none
def y_alen (pc : Nat) (ls : y_L) (st : List Value) (M : y_M) : Option y_F := match st with
  | .ref a :: t => (match M.1[a]? with
    | some (.inl (ty, n, _)) => (match y_tyEq ty ty with
      | true => some (pc + 1, ls, .int (Int32.ofNat n) :: t, M)
      | false => none)
    | _ => none)
  | _ => none
/-- nothing here names a cell that isn't there -/
def y_wf (ls : y_L) (st : List Value) (Ms : List y_C) : Bool := Nat.blt Ms.length 1000000 && y_oks Ms.length st && y_okL Ms.length ls && y_okM Ms
def y_new (cls : Nat → Option (Nat × List Value)) (idx pc : Nat) (ls : y_L) (st : List Value) (M : y_M) : Option y_F := match cls idx with
  | some (ci, fs) => (match y_wf ls st M.1 && y_oks 0 fs with
    | true => some (pc + 3, ls, .ref M.1.length :: st, (M.1 ++ [.inr (ci, fs)], M.2.1 + 1, M.2.2 + fs.length))
    | false => none)
  | none => none
def y_newa (ty : FieldType) (pc : Nat) (ls : y_L) (st : List Value) (M : y_M) : Option y_F := match st with
  | .int n :: t => (match y_wf ls t M.1 && y_tyEq ty ty && !decide (n < 0) && Nat.ble n.toNatClampNeg 134217728 with
    | true => some (pc + 2, ls, .ref M.1.length :: t, (M.1 ++ [.inl (ty, n.toNatClampNeg, fun _ => 0)], M.2.1 + 1, M.2.2 + n.toNatClampNeg))
    | false => none)
  | _ => none
end YCells
section YCellsW
variable {p : Program} {l : Launch} {e : Env} {R : Room} {s : State} {m : MethodId} {args : Array Value} {below : List Frame} {meth : Method} {c : Code} {Q : State → Prop}
variable {D : va_G} {cl : List vw_C} {kA : FieldType → ClassId} {A : Nat → Prop} {r0 : Nat → Nat} {n0 c0 s0 nL : Nat} {cc : ByteArray} {own : String} {Ts : List Cond}
/-- what the tables say of the fields that the class 'own' names -/
def y_FldOk (s : State) (args : Array Value) (own : String) (Ts : List Cond) (cl : List vw_C) (fld : Nat → Option (Nat × Nat × Nat × FieldType)) : Prop :=
  ∀ (idx ci k fin : Nat) (ty : FieldType) (C : String) (T : u_T) (N : Nat), fld idx = some (ci, k, fin, ty) → cl[ci]? = some (C, T, N) → ∃ (ty0 : Nat → FieldType), k < N ∧ (∀ w ∈ u_ws C T N, w ∈ Ts) ∧
    (∀ j, j < N → parseFieldDescriptor (T j).2.2.1 = some (ty0 j)) ∧ (∀ a, a < N → ∀ b, b < N → a ≠ b → (T a).2.1 ≠ (T b).2.1) ∧ ty0 k = ty ∧ (fin = 0 → (T k).2.2.2 = false) ∧ (fin = 1 → (T k).2.2.2 = true ∧ (T k).1 = own) ∧
    ((Cond.fieldLink own idx (T k).1 (T k).2.1 (T k).2.2.1).before args s = true ∨ (fin ≠ 1 ∧ ∃ host, (Cond.fieldLinkNest own idx (T k).1 (T k).2.1 (T k).2.2.1 host).before args s = true))
theorem y_fits_ok {r : Nat → Nat} {ty : FieldType} {v : Value} (h : y_fits ty v = true) : narrow ty (y_tv r v) = y_tv r v ∧ fits ty (y_tv r v) = true := by
  cases ty <;> cases v <;> first | (exact ⟨rfl, rfl⟩) | (cases h)
theorem y_ts_set {r : Nat → Nat} {fs : List Value} {k : Nat} {v : Value} : (y_ts r fs).set k (y_tv r v) = y_ts r (fs.set k v) := by
  unfold y_ts
  rw [List.map_set]
theorem y_getfW (hx : p.tables.exec = Jvm.exec) (hb : c.code = cc) (hts : ∀ w ∈ Ts, w.before args s = true) (hown : s.vm.findClass own = some m.cls) {tys : List (ClassId × FieldType)} (hK : va_K D cl tys s) {fld : Nat → Option (Nat × Nat × Nat × FieldType)} (hfld : y_FldOk s args own Ts cl fld)
    {idx pc : Nat} {ls : y_L} {st : List Value} {M : y_M} {F : y_F} (hdg : decode cc pc = .ok (.getfield idx, 3)) (h : y_getf fld idx pc ls st M = some F)
    (kk : y_Wd p l e R s m args below meth c D cl kA A r0 n0 c0 s0 nL Q F) : y_Wd p l e R s m args below meth c D cl kA A r0 n0 c0 s0 nL Q (pc, ls, st, M) := by
  intro r H locs la hE hn hc hs hw hS hl
  unfold y_getf at h
  split at h
  case h_2 => cases h
  rename_i a t
  split at h
  case h_2 => cases h
  rename_i ci fs cj k fin ty hM hf
  split at h
  case h_2 => cases h
  rename_i v hbq hv
  cases h
  have hci : ci = cj := Nat.eq_of_beq_eq_true hbq
  subst hci
  obtain ⟨⟨C, T, N⟩, h1, -⟩ := hw.1 a _ (y_ws_at hM)
  obtain ⟨ty0, h2, h3, h4, h5, h6, h7, h8, h9⟩ := hfld idx ci k fin ty C T N hf h1
  have hv' : (y_ts r fs)[k]? = some (y_tv r v) := by
    unfold y_ts
    rw [List.getElem?_map, hv]
    rfl
  rcases h9 with h9 | ⟨-, host, h9⟩
  · exact va_get (ci := ci) (fs := y_ts r fs) hx hb hts h3 hown hK hw.1 a (y_ws_at hM) h1 k h2 h9 (fun _ q => q) (v := y_tv r v) hv' hdg (kk r H locs la hE hn hc hs hw hS hl)
  · exact va_getN (ci := ci) (fs := y_ts r fs) hx hb hts h3 hown hK hw.1 a (y_ws_at hM) h1 k h2 h9 (fun _ q => q) (v := y_tv r v) hv' hdg (kk r H locs la hE hn hc hs hw hS hl)
theorem y_putfW (hx : p.tables.exec = Jvm.exec) (hb : c.code = cc) (hts : ∀ w ∈ Ts, w.before args s = true) (hown : s.vm.findClass own = some m.cls) {tys : List (ClassId × FieldType)} (hK : va_K D cl tys s) {ini : Bool} (hini : ini = true → meth.name = "<init>") {fld : Nat → Option (Nat × Nat × Nat × FieldType)} (hfld : y_FldOk s args own Ts cl fld)
    {idx pc : Nat} {ls : y_L} {st : List Value} {M : y_M} {F : y_F} (hdg : decode cc pc = .ok (.putfield idx, 3)) (h : y_putf ini fld idx pc ls st M = some F)
    (kk : y_Wd p l e R s m args below meth c D cl kA A r0 n0 c0 s0 nL Q F) : y_Wd p l e R s m args below meth c D cl kA A r0 n0 c0 s0 nL Q (pc, ls, st, M) := by
  intro r H locs la hE hn hc hs hw hS hl
  unfold y_putf at h
  split at h
  case h_2 => cases h
  rename_i v a t
  split at h
  case h_2 => cases h
  rename_i ci fs cj k fin ty hM hf
  split at h
  case h_2 => cases h
  rename_i hbq
  cases h
  simp only [Bool.and_eq_true, Bool.or_eq_true] at hbq
  obtain ⟨⟨⟨hb1, hb2⟩, hb3⟩, hb4⟩ := hbq
  have hci : ci = cj := Nat.eq_of_beq_eq_true hb1
  subst hci
  have hkl : k < fs.length := Nat.blt_eq.mp hb4
  have hkl' : k < (y_ts r fs).length := by unfold y_ts; rw [List.length_map]; exact hkl
  obtain ⟨⟨C, T, N⟩, h1, -⟩ := hw.1 a _ (y_ws_at hM)
  obtain ⟨ty0, h2, h3, h4, h5, h6, h7, h8, h9⟩ := hfld idx ci k fin ty C T N hf h1
  obtain ⟨g1, g2⟩ := y_fits_ok (r := r) hb3
  have hset : ∀ H1 : Heap, va_P D cl ((y_ws r kA M.1).set a (r a, .inr (ci, (y_ts r fs).set k (y_tv r v)))) H1 → va_P D cl (y_ws r kA (M.1.set a (.inr (ci, fs.set k v)))) H1 := fun H1 q => by
    rw [← y_ws_set]; rw [y_ts_set] at q; exact q
  have hsetD : va_D A ((y_ws r kA M.1).set a (r a, .inr (ci, (y_ts r fs).set k (y_tv r v)))) → va_D A (y_ws r kA (M.1.set a (.inr (ci, fs.set k v)))) := fun q => by
    rw [← y_ws_set]; rw [y_ts_set] at q; exact q
  have hn' : n0 ≤ (M.1.set a (.inr (ci, fs.set k v))).length := by rw [List.length_set]; exact hn
  rcases hb2 with hz | ⟨hz, hi⟩
  · rcases h9 with h9 | ⟨-, host, h9⟩
    · exact va_put (ci := ci) (fs := y_ts r fs) (v := y_tv r v) (ty := ty) hx hb hts h3 ty0 h4 h5 hown hK hw.1 hw.2 hS a (y_ws_at hM) h1 k h2 h9 (fun _ q => q) (h7 (Nat.eq_of_beq_eq_true hz)) (by rw [h4 k h2, h6]) g1 g2 hkl' hdg
        (fun H1 locs1 q1 q2 q3 => kk r H1 locs1 la hE hn' hc hs ⟨hset H1 q1, hsetD q2⟩ q3 hl)
    · exact va_putN (ci := ci) (fs := y_ts r fs) (v := y_tv r v) (ty := ty) hx hb hts h3 ty0 h4 h5 hown hK hw.1 hw.2 hS a (y_ws_at hM) h1 k h2 h9 (fun _ q => q) (h7 (Nat.eq_of_beq_eq_true hz)) (by rw [h4 k h2, h6]) g1 g2 hkl' hdg
        (fun H1 locs1 q1 q2 q3 => kk r H1 locs1 la hE hn' hc hs ⟨hset H1 q1, hsetD q2⟩ q3 hl)
  · obtain ⟨f1, f2⟩ := h8 (Nat.eq_of_beq_eq_true hz)
    have h9 := h9.resolve_right (fun q => q.1 (Nat.eq_of_beq_eq_true hz))
    exact va_putF (ci := ci) (fs := y_ts r fs) (v := y_tv r v) (ty := ty) hx hb hts h3 ty0 h4 h5 hown hK hw.1 hw.2 hS a (y_ws_at hM) h1 k h2 h9 (fun _ q => q) f1 (hini hi) f2 (by rw [h4 k h2, h6]) g1 g2 hkl' hdg
      (fun H1 locs1 q1 q2 q3 => kk r H1 locs1 la hE hn' hc hs ⟨hset H1 q1, hsetD q2⟩ q3 hl)
theorem y_inB_ok {i : Int32} {n : Nat} (h : y_inB i n = true) : vp_in i n := by
  unfold y_inB at h
  simp only [Bool.and_eq_true, Bool.not_eq_true', decide_eq_false_iff_not] at h
  have h2 := Nat.blt_eq.mp h.2
  intro q
  rcases q with q | q
  · exact h.1 q
  · omega
theorem y_tyEq_ok {a b : FieldType} (h : y_tyEq a b = true) : a = b ∧ (a = .int ∨ a = .byte) := by
  cases a <;> cases b <;> first | (exact ⟨rfl, Or.inl rfl⟩) | (exact ⟨rfl, Or.inr rfl⟩) | (cases h)
theorem y_aldW (hx : p.tables.exec = Jvm.exec) (hb : c.code = cc) {tys : List (ClassId × FieldType)} (hK : va_K D cl tys s) (ht0 : tys[0]? = some (kA .int, .int)) (ht1 : tys[1]? = some (kA .byte, .byte)) {ty : FieldType} {i : Instr} (hi : (ty = .int ∧ i = .iaload) ∨ (ty = .byte ∧ i = .baload))
    {pc : Nat} {ls : y_L} {st : List Value} {M : y_M} {F : y_F} (hdg : decode cc pc = .ok (i, 1)) (h : y_ald ty pc ls st M = some F)
    (kk : y_Wd p l e R s m args below meth c D cl kA A r0 n0 c0 s0 nL Q F) : y_Wd p l e R s m args below meth c D cl kA A r0 n0 c0 s0 nL Q (pc, ls, st, M) := by
  intro r H locs la hE hn hc hs hw hS hl
  unfold y_ald at h
  split at h
  case h_2 => cases h
  rename_i ix a t
  split at h
  case h_2 => cases h
  rename_i ty' n f hM
  split at h
  case h_2 => cases h
  rename_i hbq
  cases h
  simp only [Bool.and_eq_true] at hbq
  obtain ⟨e1, -⟩ := y_tyEq_ok hbq.1
  subst e1
  have hin := y_inB_ok hbq.2
  rcases hi with ⟨rfl, rfl⟩ | ⟨rfl, rfl⟩
  · exact va_iald hx hb hK hw.1 a 0 (y_ws_at hM) ht0 hin hdg (kk r H locs la hE hn hc hs hw hS hl)
  · exact va_bald hx hb hK hw.1 a 1 (y_ws_at hM) ht1 hin hdg (kk r H locs la hE hn hc hs hw hS hl)
theorem y_astW (hx : p.tables.exec = Jvm.exec) (hb : c.code = cc) {tys : List (ClassId × FieldType)} (hK : va_K D cl tys s) (ht0 : tys[0]? = some (kA .int, .int)) (ht1 : tys[1]? = some (kA .byte, .byte)) {ty : FieldType} {i : Instr} (hi : (ty = .int ∧ i = .iastore) ∨ (ty = .byte ∧ i = .bastore))
    {pc : Nat} {ls : y_L} {st : List Value} {M : y_M} {F : y_F} (hdg : decode cc pc = .ok (i, 1)) (h : y_ast ty pc ls st M = some F)
    (kk : y_Wd p l e R s m args below meth c D cl kA A r0 n0 c0 s0 nL Q F) : y_Wd p l e R s m args below meth c D cl kA A r0 n0 c0 s0 nL Q (pc, ls, st, M) := by
  intro r H locs la hE hn hc hs hw hS hl
  unfold y_ast at h
  split at h
  case h_2 => cases h
  rename_i x ix a t
  split at h
  case h_2 => cases h
  rename_i ty' n f hM
  split at h
  case h_2 => cases h
  rename_i hbq
  cases h
  simp only [Bool.and_eq_true] at hbq
  obtain ⟨e1, -⟩ := y_tyEq_ok hbq.1
  subst e1
  have hin := y_inB_ok hbq.2
  have hn' : n0 ≤ (M.1.set a (.inl (ty, n, upd f ix.toNatClampNeg (vp_nar ty x)))).length := by rw [List.length_set]; exact hn
  rcases hi with ⟨rfl, rfl⟩ | ⟨rfl, rfl⟩
  · refine va_iast hx hb hK hw.1 hw.2 hS a 0 (y_ws_at hM) ht0 hin hdg (fun H1 locs1 q1 q2 q3 => kk r H1 locs1 la hE hn' hc hs ?_ q3 hl)
    show va_P D cl (y_ws r kA (M.1.set a (.inl (.int, n, upd f ix.toNatClampNeg x)))) H1 ∧ va_D A (y_ws r kA (M.1.set a (.inl (.int, n, upd f ix.toNatClampNeg x))))
    rw [← y_ws_set]
    exact ⟨q1, q2⟩
  · refine va_bast hx hb hK hw.1 hw.2 hS a 1 (y_ws_at hM) ht1 hin hdg (fun H1 locs1 q1 q2 q3 => kk r H1 locs1 la hE hn' hc hs ?_ q3 hl)
    show va_P D cl (y_ws r kA (M.1.set a (.inl (.byte, n, upd f ix.toNatClampNeg (vp_nar .byte x))))) H1 ∧ va_D A (y_ws r kA (M.1.set a (.inl (.byte, n, upd f ix.toNatClampNeg (vp_nar .byte x)))))
    rw [← y_ws_set]
    exact ⟨q1, q2⟩
theorem y_alenW (hx : p.tables.exec = Jvm.exec) (hb : c.code = cc) {tys : List (ClassId × FieldType)} (hK : va_K D cl tys s) (ht0 : tys[0]? = some (kA .int, .int)) (ht1 : tys[1]? = some (kA .byte, .byte))
    {pc : Nat} {ls : y_L} {st : List Value} {M : y_M} {F : y_F} (hdg : decode cc pc = .ok (.arraylength, 1)) (h : y_alen pc ls st M = some F)
    (kk : y_Wd p l e R s m args below meth c D cl kA A r0 n0 c0 s0 nL Q F) : y_Wd p l e R s m args below meth c D cl kA A r0 n0 c0 s0 nL Q (pc, ls, st, M) := by
  intro r H locs la hE hn hc hs hw hS hl
  unfold y_alen at h
  split at h
  case h_2 => cases h
  rename_i a t
  split at h
  case h_2 => cases h
  rename_i ty n f hM
  split at h
  case h_2 => cases h
  rename_i hbq
  cases h
  rcases (y_tyEq_ok hbq).2 with rfl | rfl
  · exact va_alen hx hb hK hw.1 a 0 (y_ws_at hM) ht0 rfl hdg (kk r H locs la hE hn hc hs hw hS hl)
  · exact va_alen hx hb hK hw.1 a 1 (y_ws_at hM) ht1 rfl hdg (kk r H locs la hE hn hc hs hw hS hl)
end YCellsW
end
section
/-! MAKES: new cells of the small machine; switches; constants. -/
section YMakes
variable {p : Program} {l : Launch} {e : Env} {R : Room} {s : State} {m : MethodId} {args : Array Value} {below : List Frame} {meth : Method} {c : Code} {Q : State → Prop}
variable {D : va_G} {cl : List vw_C} {kA : FieldType → ClassId} {A : Nat → Prop} {r0 : Nat → Nat} {n0 c0 s0 nL : Nat} {cc : ByteArray} {own : String} {Ts : List Cond}
/-- the addresses with one more -/
def y_up (r : Nat → Nat) (n q : Nat) : Nat → Nat := fun k => if k = n then q else r k
theorem y_tv_up {r : Nat → Nat} {n q n' : Nat} (hn : n' ≤ n) (hm : n < 1000000) {v : Value} (h : y_ok n' v = true) : y_tv (y_up r n q) v = y_tv r v := by
  cases v with
  | ref k =>
    simp only [y_ok, Bool.or_eq_true] at h
    have hk : ¬ @Eq Nat k n := by
      rcases h with h | h
      · have := Nat.blt_eq.mp h; omega
      · have := Nat.ble_eq.mp h; omega
    show Value.ref (y_up r n q k) = Value.ref (r k)
    unfold y_up
    rw [if_neg hk]
  | retAddr k => exact y_tv_op (by unfold y_up; rw [if_neg (by omega)])
  | _ => rfl
theorem y_ts_up {r : Nat → Nat} {n q n' : Nat} (hn : n' ≤ n) (hm : n < 1000000) {st : List Value} (h : y_oks n' st = true) : y_ts (y_up r n q) st = y_ts r st := by
  unfold y_ts
  apply List.map_congr_left
  intro v hv
  exact y_tv_up hn hm (List.all_eq_true.mp h v hv)
theorem y_tL_up {r : Nat → Nat} {n q n' : Nat} (hn : n' ≤ n) (hm : n < 1000000) {ls : y_L} (h : y_okL n' ls = true) : y_tL (y_up r n q) ls = y_tL r ls := by
  unfold y_tL
  apply List.map_congr_left
  intro v hv
  rw [y_tv_up hn hm (List.all_eq_true.mp h v hv)]
theorem y_tC_up {r : Nat → Nat} {n q n' : Nat} (hn : n' ≤ n) (hm : n < 1000000) {x : y_C} (h : y_okC n' x = true) : y_tC (y_up r n q) kA x = y_tC r kA x := by
  cases x with
  | inl x => rfl
  | inr x =>
    obtain ⟨ci, fs⟩ := x
    show Sum.inr (ci, y_ts _ fs) = Sum.inr (ci, y_ts r fs)
    rw [y_ts_up hn hm h]
theorem y_ws_up {r : Nat → Nat} {q : Nat} {Ms : List y_C} (hm : Ms.length < 1000000) (h : y_okM Ms = true) (x : y_C) : y_ws (y_up r Ms.length q) kA (Ms ++ [x]) = y_ws r kA Ms ++ [(q, y_tC (y_up r Ms.length q) kA x)] := by
  unfold y_ws
  rw [List.mapIdx_append]
  congr 1
  · apply List.ext_getElem?
    intro j
    rw [List.getElem?_mapIdx, List.getElem?_mapIdx]
    cases hj : Ms[j]? with
    | none => rfl
    | some z =>
      have hl : j < Ms.length := (List.getElem?_eq_some_iff.mp hj).1
      have hz := List.all_eq_true.mp h z (List.mem_of_getElem? hj)
      simp only [Option.map_some]
      rw [y_tC_up (Nat.le_refl _) hm hz]
      have : y_up r Ms.length q j = r j := by unfold y_up; rw [if_neg (by omega)]
      rw [this]
  · simp [y_up]
theorem y_wf_ok {ls : y_L} {st : List Value} {Ms : List y_C} (h : y_wf ls st Ms = true) : Ms.length < 1000000 ∧ y_oks Ms.length st = true ∧ y_okL Ms.length ls = true ∧ y_okM Ms = true := by
  unfold y_wf at h
  simp only [Bool.and_eq_true] at h
  exact ⟨Nat.blt_eq.mp h.1.1.1, h.1.1.2, h.1.2, h.2⟩
theorem y_Ext_up {r : Nat → Nat} {n q : Nat} (hE : y_Ext r0 n0 r) (hn : n0 ≤ n) (hm : n < 1000000) : y_Ext r0 n0 (y_up r n q) := by
  intro k hk
  rw [← hE k hk]
  unfold y_up
  rw [if_neg (by omega)]
/-- what the tables say of the classes that the class 'own' makes -/
def y_ClsOk (s : State) (args : Array Value) (own : String) (Ts : List Cond) (cl : List vw_C) (cls : Nat → Option (Nat × List Value)) : Prop :=
  ∀ (idx ci : Nat) (fs : List Value), cls idx = some (ci, fs) → ∃ (C : String) (T : u_T) (ty : Nat → FieldType), cl[ci]? = some (C, T, fs.length) ∧ (∀ w ∈ u_ws C T fs.length, w ∈ Ts) ∧ (∀ j, j < fs.length → parseFieldDescriptor (T j).2.2.1 = some (ty j)) ∧
    (∀ j, j < fs.length → defaultValue (ty j) = vp_V fs j) ∧ (Cond.classLink own idx C).before args s = true ∧ (Cond.instantiable C fs.length).before args s = true ∧ (Cond.initialized C).before args s = true
theorem y_newW (hx : p.tables.exec = Jvm.exec) (hb : c.code = cc) (hts : ∀ w ∈ Ts, w.before args s = true) (hown : s.vm.findClass own = some m.cls) {tys : List (ClassId × FieldType)} (hK : va_K D cl tys s) (hA : ∀ q, s.heap.size ≤ q → A q) {cls : Nat → Option (Nat × List Value)} (hcls : y_ClsOk s args own Ts cl cls)
    {idx pc : Nat} {ls : y_L} {st : List Value} {M : y_M} {F : y_F} (hdg : decode cc pc = .ok (.new idx, 3)) (h : y_new cls idx pc ls st M = some F) (hR1 : F.2.2.2.2.1 - c0 ≤ R.cells) (hR2 : F.2.2.2.2.2 - s0 ≤ R.slots)
    (kk : y_Wd p l e R s m args below meth c D cl kA A r0 n0 c0 s0 nL Q F) : y_Wd p l e R s m args below meth c D cl kA A r0 n0 c0 s0 nL Q (pc, ls, st, M) := by
  intro r H locs la hE hn hc hs hw hS hl
  unfold y_new at h
  split at h
  case h_2 => cases h
  rename_i ci fs hcl
  split at h
  case h_2 => cases h
  rename_i hbq
  cases h
  simp only [Bool.and_eq_true] at hbq
  obtain ⟨w1, w2, w3, w4⟩ := y_wf_ok hbq.1
  obtain ⟨C, T, ty, h1, h2, h3, h4, h5, h6, h7⟩ := hcls idx ci fs hcl
  dsimp only at hn hc hs hw hl hR1 hR2 ⊢
  refine va_new (ci := ci) (fs := fs) hx hb hts h2 ty h3 hown h5 h6 h7 hK hw.1 hw.2 hS hA h1 h4 (by omega) (by omega) hdg (fun q H1 q1 q2 q3 => ?_)
  have key := kk (y_up r M.1.length q) H1 locs la (y_Ext_up hE hn w1) (by simp; omega) (by dsimp only; omega) (by dsimp only; omega) ?_ q3 (by rw [y_tL_up (Nat.le_refl _) w1 w3]; exact hl)
  · dsimp only at key
    have e1 : M.2.1 + 1 - c0 = M.2.1 - c0 + 1 := by omega
    have e2 : M.2.2 + fs.length - s0 = M.2.2 - s0 + fs.length := by omega
    rw [e1, e2] at key
    have e3 : y_ts (y_up r M.1.length q) (Value.ref M.1.length :: st) = Value.ref q :: y_ts r st := by
      show Value.ref (y_up r M.1.length q M.1.length) :: y_ts (y_up r M.1.length q) st = _
      rw [y_ts_up (Nat.le_refl _) w1 w2]
      simp [y_up]
    rw [e3] at key
    exact key
  · have e4 : y_tC (y_up r M.1.length q) kA (.inr (ci, fs)) = .inr (ci, fs) := by
      show Sum.inr (ci, y_ts _ fs) = _
      rw [y_ts_up (n' := 0) (Nat.zero_le _) w1 hbq.2]
      have : y_ts r fs = fs := by
        unfold y_ts
        have hz : ∀ v ∈ fs, y_tv r v = v := fun v hv => by
          have := List.all_eq_true.mp hbq.2 v hv
          cases v with
          | ref k => exact absurd this (by
              intro _
              have h0 := h4
              obtain ⟨j, hj⟩ := List.mem_iff_getElem?.mp hv
              have hjl := (List.getElem?_eq_some_iff.mp hj).1
              have h9 := h4 j hjl
              unfold vp_V at h9
              rw [List.getD_eq_getElem?_getD, hj] at h9
              cases hty : ty j <;> rw [hty] at h9 <;> simp [defaultValue] at h9)
          | retAddr k =>
            exfalso
            obtain ⟨j, hj⟩ := List.mem_iff_getElem?.mp hv
            have hjl := (List.getElem?_eq_some_iff.mp hj).1
            have h9 := h4 j hjl
            unfold vp_V at h9
            rw [List.getD_eq_getElem?_getD, hj] at h9
            cases hty : ty j <;> rw [hty] at h9 <;> simp [defaultValue] at h9
          | _ => rfl
        rw [List.map_congr_left hz, List.map_id']
      rw [this]
    show va_P D cl (y_ws (y_up r M.1.length q) kA (M.1 ++ [.inr (ci, fs)])) H1 ∧ va_D A (y_ws (y_up r M.1.length q) kA (M.1 ++ [.inr (ci, fs)]))
    rw [y_ws_up w1 w4, e4]
    exact ⟨q1, q2⟩
theorem y_newaW (hx : p.tables.exec = Jvm.exec) (hb : c.code = cc) {tys : List (ClassId × FieldType)} (hK : va_K D cl tys s) (hA : ∀ q, s.heap.size ≤ q → A q) {ty : FieldType} {at' : ArrayType} (hty : newarray.typeOf at' = ty) (hkA : s.vm.findClass ("[" ++ ty.toString) = some (kA ty)) (harr : (Cond.arrayClass ty).before args s = true)
    {pc : Nat} {ls : y_L} {st : List Value} {M : y_M} {F : y_F} (hdg : decode cc pc = .ok (.newarray at', 2)) (h : y_newa ty pc ls st M = some F) (hR1 : F.2.2.2.2.1 - c0 ≤ R.cells) (hR2 : F.2.2.2.2.2 - s0 ≤ R.slots)
    (kk : y_Wd p l e R s m args below meth c D cl kA A r0 n0 c0 s0 nL Q F) : y_Wd p l e R s m args below meth c D cl kA A r0 n0 c0 s0 nL Q (pc, ls, st, M) := by
  intro r H locs la hE hn hc hs hw hS hl
  unfold y_newa at h
  split at h
  case h_2 => cases h
  rename_i n t
  split at h
  case h_2 => cases h
  rename_i hbq
  cases h
  simp only [Bool.and_eq_true, Bool.not_eq_true', decide_eq_false_iff_not] at hbq
  obtain ⟨⟨⟨b1, b2⟩, b3⟩, b4⟩ := hbq
  have b4 := Nat.ble_eq.mp b4
  obtain ⟨w1, w2, w3, w4⟩ := y_wf_ok b1
  have hty2 := (y_tyEq_ok b2).2
  have hcb : n.toNatClampNeg * componentBytes ty ≤ 536870912 := by
    rcases hty2 with rfl | rfl
    · show n.toNatClampNeg * 4 ≤ _; omega
    · show n.toNatClampNeg * 1 ≤ _; omega
  have hdef : ∀ cA : ClassId, vp_cell cA (n.toNatClampNeg, .inl (fun _ => 0)) = arrV cA n.toNatClampNeg (fun _ => defaultValue ty) := by
    rcases hty2 with rfl | rfl <;> exact fun _ => rfl
  dsimp only at hn hc hs hw hl hR1 hR2 ⊢
  refine va_newa (a0 := (n.toNatClampNeg, .inl (fun _ => 0))) hx hb (by rw [hty]; exact harr) hty hK hw.1 hw.2 hS hA hdef b3 rfl hcb (by omega) (by omega) hdg (fun q cA H1 hK1 q1 q2 q3 => ?_)
  have hcA : cA = kA ty := by
    have := (hK1.2 tys.length (cA, ty) (by simp)).2
    rcases hty2 with rfl | rfl
    · exact Option.some.inj (Eq.trans (Eq.symm this) hkA)
    · exact Option.some.inj (Eq.trans (Eq.symm this) hkA)
  subst hcA
  have key := kk (y_up r M.1.length q) H1 locs la (y_Ext_up hE hn w1) (by simp; omega) (by dsimp only; omega) (by dsimp only; omega) ?_ q3 (by rw [y_tL_up (Nat.le_refl _) w1 w3]; exact hl)
  · dsimp only at key
    have e1 : M.2.1 + 1 - c0 = M.2.1 - c0 + 1 := by omega
    have e2 : M.2.2 + n.toNatClampNeg - s0 = M.2.2 - s0 + n.toNatClampNeg := by omega
    rw [e1, e2] at key
    have e3 : y_ts (y_up r M.1.length q) (Value.ref M.1.length :: t) = Value.ref q :: y_ts r t := by
      show Value.ref (y_up r M.1.length q M.1.length) :: y_ts (y_up r M.1.length q) t = _
      rw [y_ts_up (Nat.le_refl _) w1 w2]
      simp [y_up]
    rw [e3] at key
    exact key
  · show va_P D cl (y_ws (y_up r M.1.length q) kA (M.1 ++ [.inl (ty, n.toNatClampNeg, fun _ => 0)])) H1 ∧ va_D A (y_ws (y_up r M.1.length q) kA (M.1 ++ [.inl (ty, n.toNatClampNeg, fun _ => 0)]))
    rw [y_ws_up w1 w4]
    exact ⟨q1, q2⟩
theorem y_switchW (hx : p.tables.exec = Jvm.exec) (hb : c.code = cc) {dflt lo hi : Int} {offs : Array Int} {len pc : Nat} {ls : y_L} {st : List Value} {M : y_M} {F : y_F} (hdg : decode cc pc = .ok (.tableswitch dflt lo hi offs, len)) (h : y_switch dflt lo hi offs pc ls st M = some F)
    (kk : y_Wd p l e R s m args below meth c D cl kA A r0 n0 c0 s0 nL Q F) : y_Wd p l e R s m args below meth c D cl kA A r0 n0 c0 s0 nL Q (pc, ls, st, M) := by
  intro r H locs la hE hn hc hs hw hS hl
  unfold y_switch at h
  split at h
  case h_2 => cases h
  rename_i x t
  split at h
  · rename_i hq
    obtain ⟨tg, ht, rfl⟩ := y_go_spec h
    exact lv_tableOut hx hb hdg hq ht (kk r H locs la hE hn hc hs hw hS hl)
  · rename_i hq
    split at h
    case h_2 => cases h
    rename_i off ho
    obtain ⟨tg, ht, rfl⟩ := y_go_spec h
    exact lv_tableIn hx hb hdg (fun z => hq (Or.inl z)) (fun z => hq (Or.inr z)) ho ht (kk r H locs la hE hn hc hs hw hS hl)
end YMakes
end
section
/-! CALLS: the invoking instructions over a callee with both ends. -/
section XCalls
variable {p : Program} {l : Launch} {e : Env} {R : Room} {s : State} {m : MethodId} {args : Array Value} {below : List Frame} {meth : Method} {c : Code} {H : Heap} {locs : List Loc} {cells slots : Nat}
def x_Run (p : Program) (l : Launch) (e : Env) (R : Room) (s : State) (m : MethodId) (args : Array Value) (below : List Frame) (meth : Method) (c : Code) (H : Heap) (locs : List Loc) (cells slots mc ms : Nat) (g : JFrame) (rest : List Value) (Qa : State → Outcome → State → Prop) (free : Addr → Prop) : Prop :=
  ∀ T : State, T.heap = H → Stand p l e R s m args below meth c T locs cells slots → ∃ (o : Outcome) (st₀ t T' : State) (L : List Loc), st₀.heap = H ∧ Stand p l e R s m args below meth c T' (locs ++ L) (cells + mc) (slots + ms) ∧ (∀ q ∈ L, free q.base) ∧ T'.heap = t.heap ∧ T'.vm = t.vm ∧ Qa st₀ o t ∧
    ∀ target, Steps p.tables e below (x_after T' { g with stack := rest } 3 o) target → Steps p.tables e below (T.setTop g) target
variable {y : MethodName} {S : Spec} {maxL mc ms n index : Nat} {Pc : Array Value → State → Prop} {Qc : Array Value → State → Outcome → State → Prop} {free : Addr → Prop} {own C host : String} {b : Addr} {As rest : List Value} {g : JFrame}
/-- what a call needs of the callee: its contract, its room, its words -/
def x_Callee (l : Launch) (R : Room) (s : State) (y : MethodName) (S : Spec) (maxL : Nat) (Pc : Array Value → State → Prop) (Qc : Array Value → State → Outcome → State → Prop) (mc ms : Nat) (free : Addr → Prop) : Prop :=
  x_Met l y S Pc Qc mc ms free ∧ FrameBlind Pc ∧ S.room.cells = mc ∧ S.room.slots = ms ∧ S.room.frames + 1 ≤ R.frames ∧ 8 + (maxL + 11) + S.room.locals ≤ R.locals ∧
  (∀ (a' : Array Value) (U : State), s.WarmedH U.vm → S.pre.before a' U = true) ∧
  (∀ (U : State) (mk : MethodId), s.WarmedH U.vm → U.methodNamed? y = some mk → ∃ methY cY, U.vm.method? mk = some methY ∧ methY.code = some cY ∧ cY.maxLocals = maxL) ∧
  (∀ (a' : Array Value) (U : State), s.WarmedH U.vm → (Cond.initialized y.cls).before a' U = true) ∧ (y.cls ≠ "java/lang/invoke/MethodHandle" ∧ y.cls ≠ "java/lang/invoke/VarHandle") ∧
  (∀ (mk : MethodId) (methY : Method), s.methodNamed? y = some mk → s.vm.method? mk = some methY → parseMethodDescriptor y.desc = some methY.sig)
theorem x_Callee.back (h : x_Callee l R s y S maxL Pc Qc mc ms free) : x_Back l R p e below s args y 3 8 (x_Pre R mc ms Pc) (x_Post Qc mc ms free) := by
  obtain ⟨h1, h2, h3, h4, h5, h6, h7, h8, h9, -, -⟩ := h
  exact x_back h1 h2 h3 h4 h5 h6 h7 h8 h9
theorem x_runV (hx : p.tables.exec = Jvm.exec) (hC : x_Callee l R s y S maxL Pc Qc mc ms free) (hown : s.vm.findClass own = some m.cls) (hlink : (Cond.methodLink own index y).before args s = true) (hinst : (Cond.instanceMethod y).before args s = true) (hsel : (Cond.selects C y y).before args s = true)
    (hrecv : ∃ cell : Cell, H[b]? = some cell ∧ cell.vm.isStatics = false ∧ s.vm.findClass C = some cell.cls) (hP : ∀ U : State, U.heap = H → s.WarmedH U.vm → Pc (Value.ref b :: As).toArray U)
    (hg : g.method = m) (hsize : g.locals.size = c.maxLocals) (hlen : ∀ sig, parseMethodDescriptor y.desc = some sig → As.length = sig.parameters.length) (hstack : g.stack = As.reverse ++ .ref b :: rest) (hW : 2 * g.monitorRoom + (rest.map fun v => v.category).sum ≤ 8) (hdg : decode c.code g.pc = .ok (.invokevirtual index, 3)) (hf : cells + mc ≤ R.cells ∧ slots + ms ≤ R.slots) :
    x_Run p l e R s m args below meth c H locs cells slots mc ms g rest (Qc (Value.ref b :: As).toArray) free := by
  have hK : x_Back l R p e below s args y 3 8 (x_Pre R mc ms Pc) (x_Post Qc mc ms free) := hC.back
  obtain ⟨-, -, -, -, -, -, -, -, -, hy, hsig⟩ := hC
  obtain ⟨cellB, hcell, hobj, hcls⟩ := hrecv
  intro T hT X
  obtain ⟨mk, methM, hnamed, hmethM, hstM, habM⟩ := Cond.instanceMethod_spec hinst
  obtain ⟨c2, r2, m2, q1, q2, q3, q4, kP, hkP, hkPi⟩ := Cond.selects_spec hsel
  cases hcls.symm.trans q1
  cases (State.methodFound?_of_named hnamed hy).symm.trans q2
  cases hnamed.symm.trans q3
  have hselP : selectMethod e.platform s.vm cellB.cls mk = .method mk := by rw [Launch.admits_selectMethod X.admits]; exact q4
  obtain ⟨vm₁, X₁, hstep₁⟩ := X.invokevirtual hx hown hlink hnamed hmethM hstM hkP hkPi hy (a := b) (cell := cellB) (by rw [hT]; exact hcell)
    (fun z h => by rw [h] at hobj; cases hobj) hselP hmethM habM hkP hkPi (g := g) hg (argsL := As) (rest := rest) (hlen _ (hsig mk methM hnamed hmethM)) hstack hdg
  obtain ⟨o, B, X', ⟨g', mk', t, L, e1, e2, hq, h1, hL, h2, h3⟩, hsteps⟩ := hK m meth c ⟨T.setVm vm₁, locs, cells, slots⟩ { g with stack := rest } (.invokevirtual index) mk (Value.ref b :: As).toArray X₁ hg hsize hdg hW (X₁.named hnamed) ⟨hf.1, hf.2, hP _ hT X₁.warmed⟩
  obtain ⟨U', l2, cc2, s2⟩ := B
  dsimp only [Pt.U, Pt.locs, Pt.cells, Pt.slots] at X' e1 e2 h1 h2 h3 hsteps
  subst h1; subst h2; subst h3
  exact ⟨o, (T.setVm vm₁).calling g' mk' (Value.ref b :: As).toArray, t, U', L, hT, X', hL, e1, e2, hq, fun target h => hstep₁ _ fun acts => by rw [doInvoke_state]; exact hsteps.trans h⟩
theorem x_runS (hx : p.tables.exec = Jvm.exec) (hC : x_Callee l R s y S maxL Pc Qc mc ms free) (hown : s.vm.findClass own = some m.cls) (hlink : (Cond.methodLink own index y).before args s = true ∨ ∃ host, (Cond.methodLinkNest own index y host).before args s = true) (hstat : (Cond.static y).before args s = true) {bytes : ByteArray} {ret : Option FieldType} (hcode : (Cond.code y bytes maxL ret).before args s = true) (hini : (Cond.initialized y.cls).before args s = true)
    (hP : ∀ U : State, U.heap = H → s.WarmedH U.vm → Pc As.toArray U)
    (hg : g.method = m) (hsize : g.locals.size = c.maxLocals) (hlen : ∀ sig, parseMethodDescriptor y.desc = some sig → As.length = sig.parameters.length) (hstack : g.stack = As.reverse ++ rest) (hW : 2 * g.monitorRoom + (rest.map fun v => v.category).sum ≤ 8) (hdg : decode c.code g.pc = .ok (.invokestatic index, 3)) (hf : cells + mc ≤ R.cells ∧ slots + ms ≤ R.slots) :
    x_Run p l e R s m args below meth c H locs cells slots mc ms g rest (Qc As.toArray) free := by
  have hK : x_Back l R p e below s args y 3 8 (x_Pre R mc ms Pc) (x_Post Qc mc ms free) := hC.back
  obtain ⟨-, -, -, -, -, -, -, -, -, hy, -⟩ := hC
  intro T hT X
  obtain ⟨mk, hnamed⟩ := Cond.code_named hcode
  obtain ⟨methM, cM, hmethM, -, -, -, -, -, -, hsigM⟩ := Cond.code_spec hnamed hcode
  have hstatic : methM.isStatic = true := Cond.static_spec hnamed hmethM hstat
  obtain ⟨kP, hkP, -⟩ := className_of_methodNamed hnamed
  have hinitP : kP.init = .initialized := Cond.initialized_spec (findClass_of_methodNamed hnamed) hkP hini
  have key : ∃ vm₁, Stand p l e R s m args below meth c (T.setVm vm₁) locs cells slots ∧ ∀ target, (∀ acts, Steps p.tables e below (doInvoke e ((T.setVm vm₁).setTop { g with stack := rest }) acts mk As.toArray).1 target) → Steps p.tables e below (T.setTop g) target := by
    rcases hlink with hlink | ⟨host, hlink⟩
    · obtain ⟨vm₁, X₁, hstep₁⟩ := X.invokestatic hx hown hlink hnamed hmethM hstatic hkP hinitP hy (g := g) hg (argsL := As) (rest := rest) (hlen _ hsigM) hstack hdg
      exact ⟨vm₁, X₁, hstep₁⟩
    · obtain ⟨vm₁, X₁, hstep₁⟩ := X.invokestaticNest hx hown hlink hnamed hmethM hstatic hkP hinitP hy (g := g) hg (argsL := As) (rest := rest) (hlen _ hsigM) hstack hdg
      exact ⟨vm₁, X₁, hstep₁⟩
  obtain ⟨vm₁, X₁, hstep₁⟩ := key
  obtain ⟨o, B, X', ⟨g', mk', t, L, e1, e2, hq, h1, hL, h2, h3⟩, hsteps⟩ := hK m meth c ⟨T.setVm vm₁, locs, cells, slots⟩ { g with stack := rest } (.invokestatic index) mk As.toArray X₁ hg hsize hdg hW (X₁.named hnamed) ⟨hf.1, hf.2, hP _ hT X₁.warmed⟩
  obtain ⟨U', l2, cc2, s2⟩ := B
  dsimp only [Pt.U, Pt.locs, Pt.cells, Pt.slots] at X' e1 e2 h1 h2 h3 hsteps
  subst h1; subst h2; subst h3
  exact ⟨o, (T.setVm vm₁).calling g' mk' As.toArray, t, U', L, hT, X', hL, e1, e2, hq, fun target h => hstep₁ _ fun acts => by rw [doInvoke_state]; exact hsteps.trans h⟩
theorem x_runI (hx : p.tables.exec = Jvm.exec) (hC : x_Callee l R s y S maxL Pc Qc mc ms free) (hown : s.vm.findClass own = some m.cls) (hy1 : y.name = "<init>") (hlink : (Cond.methodLink own index y).before args s = true ∨ ∃ host, (Cond.methodLinkNest own index y host).before args s = true) (hinst : (Cond.instanceMethod y).before args s = true) {bytes : ByteArray} (hcode : (Cond.code y bytes maxL none).before args s = true)
    (hP : ∀ U : State, U.heap = H → s.WarmedH U.vm → Pc (Value.ref b :: As).toArray U)
    (hg : g.method = m) (hsize : g.locals.size = c.maxLocals) (hlen : ∀ sig, parseMethodDescriptor y.desc = some sig → As.length = sig.parameters.length) (hstack : g.stack = As.reverse ++ .ref b :: rest) (hW : 2 * g.monitorRoom + (rest.map fun v => v.category).sum ≤ 8) (hdg : decode c.code g.pc = .ok (.invokespecial index, 3)) (hf : cells + mc ≤ R.cells ∧ slots + ms ≤ R.slots) :
    x_Run p l e R s m args below meth c H locs cells slots mc ms g rest (Qc (Value.ref b :: As).toArray) free := by
  have hK : x_Back l R p e below s args y 3 8 (x_Pre R mc ms Pc) (x_Post Qc mc ms free) := hC.back
  obtain ⟨-, -, -, -, -, -, -, -, -, hy, -⟩ := hC
  intro T hT X
  subst hg
  have hpl : e.platform.magicAccessors = ({} : Platform).magicAccessors := by rw [X.admits.platform]
  have key : ∃ mk vm₁, s.methodNamed? y = some mk ∧ s.WarmedH vm₁ ∧ Stand p l e R s g.method args below meth c (T.setVm vm₁) locs cells slots ∧ ∀ target, (∀ acts, Steps p.tables e below (doInvoke e ((T.setVm vm₁).setTop { g with stack := rest }) acts mk (Value.ref b :: As).toArray).1 target) → Steps p.tables e below (T.setTop g) target := by
    rcases hlink with hlink | ⟨host, hlink⟩
    · obtain ⟨mk, methM, cM, kP, vm₁, hnamed, hmethM, hcodeM, -, hlocalsM, -, hkP, -, hW₁, hstep₁⟩ := Steps.initColdArgs (e := e) X.here hx X.warmed hpl hown hy1 hy hlink hinst hcode (f := g) rfl hlen hstack hdg
      exact ⟨mk, vm₁, hnamed, (X.noted hW₁).warmed, X.noted hW₁, hstep₁⟩
    · obtain ⟨mk, methM, cM, kP, vm₁, hnamed, hmethM, hcodeM, -, hlocalsM, -, hkP, -, hW₁, hstep₁⟩ := Steps.initColdArgsNest (e := e) X.here hx X.warmed hpl hown hy1 hy hlink hinst hcode (f := g) rfl hlen hstack hdg
      exact ⟨mk, vm₁, hnamed, (X.noted hW₁).warmed, X.noted hW₁, hstep₁⟩
  obtain ⟨mk, vm₁, hnamed, hW₁, X₁, hstep₁⟩ := key
  obtain ⟨o, B, X', ⟨g', mk', t, L, e1, e2, hq, h1, hL, h2, h3⟩, hsteps⟩ := hK g.method meth c ⟨T.setVm vm₁, locs, cells, slots⟩ { g with stack := rest } (.invokespecial index) mk (Value.ref b :: As).toArray X₁ rfl hsize hdg hW (X₁.named hnamed) ⟨hf.1, hf.2, hP _ hT X₁.warmed⟩
  obtain ⟨U', l2, cc2, s2⟩ := B
  dsimp only [Pt.U, Pt.locs, Pt.cells, Pt.slots] at X' e1 e2 h1 h2 h3 hsteps
  subst h1; subst h2; subst h3
  exact ⟨o, (T.setVm vm₁).calling g' mk' (Value.ref b :: As).toArray, t, U', L, hT, X', hL, e1, e2, hq, fun target h => hstep₁ _ fun acts => by rw [doInvoke_state]; exact hsteps.trans h⟩
end XCalls
end
section
/-! CATCH: a note is taken by the first entry of the method's own table. -/
section XCatch
variable {p : Program} {l : Launch} {e : Env} {R : Room} {s : State} {m : MethodId} {args : Array Value} {below : List Frame} {meth : Method} {c : Code} {T : State} {locs : List Loc} {cells slots : Nat}
theorem x_search {s : State} {f : JFrame} {a : Addr} {x : ExceptionTableEntry} {rest : List ExceptionTableEntry} {cT : ClassId} {cell : Cell} {code : Code} (hm : s.vm.method? f.method = some meth) (hc : meth.code = some code) (htab : code.exceptionTable.toList = x :: rest) (hx : covers x f.pc = true) (h0 : x.catchType ≠ 0)
    (hl : s.vm.ClassLinks e.platform f.method.cls x.catchType cT) (hcell : s.heap[a]? = some cell) (hobj : ∀ k, cell.vm ≠ .statics k) (hk : ∃ k, s.vm.classes[cell.cls]? = some k) (hcl : ∃ k, s.vm.classes[cT]? = some k) (hfit : s.vm.assignable cell.cls cT = true) (Q : Handler → Pre) (E : CtlPost) (d : Bool) (acts : List Action) :
    wp (findHandler f a) Q E e d acts s ↔ Q (.found x.handlerPc) d acts (s.setVm (s.vm.noted f.method.cls x.catchType (.cls cT))) := by
  rw [W.findHandler_eq hm hc, htab]
  simp only [covers] at hx
  obtain ⟨ha, ht⟩ := (resolveClass_links e.toSetting hl).op (op := VmOp.resolveClass f.method.cls x.catchType) rfl
  have hal : s.vm.Alike (s.vm.noted f.method.cls x.catchType (.cls cT)) := (Vm.Alike.refl s.vm).noted _ _ _
  obtain ⟨k1, hk1⟩ := hk
  obtain ⟨k2, hk2⟩ := hcl
  obtain ⟨k1', hk1', -⟩ := hal.2.2 _ _ hk1
  obtain ⟨k2', hk2', -⟩ := hal.2.2 _ _ hk2
  have hfit' : (s.vm.noted f.method.cls x.catchType (.cls cT)).assignable cell.cls cT = true := by rw [hal.assignable]; exact hfit
  simp [findHandler.go, hx, h0, ha, ht, hcell, hobj, hk1', hk2', hfit', VmOp.dirties, VmOp.acts]
theorem x_caught (X : Stand p l e R s m args below meth c T locs cells slots) (a : Addr) {g : JFrame} (hg : g.method = m) {own name : String} (hown : s.vm.findClass own = some m.cls) {x : ExceptionTableEntry} {rest : List ExceptionTableEntry} (htab : c.exceptionTable.toList = x :: rest) (hx : covers x g.pc = true) (h0 : x.catchType ≠ 0)
    (hlink : (Cond.classLink own x.catchType name).before args s = true) {cT : ClassId} {cell : Cell} (hcT : s.vm.findClass name = some cT) (hcell : T.heap[a]? = some cell) (hobj : cell.vm.isStatics = false) (hfit : s.vm.assignable cell.cls cT = true) :
    ∃ vm', Stand p l e R s m args below meth c (T.setVm vm') locs cells slots ∧ ∀ target, Steps p.tables e below ((T.setVm vm').setTop { g with pc := x.handlerPc, stack := [.ref a] }) target → Steps p.tables e below ((T.setTop g).pushFrame (.throwing a)) target := by
  have hpl : e.platform.magicAccessors = ({} : Platform).magicAccessors := by rw [X.admits.platform]
  obtain ⟨c', hc', hcl⟩ := Cond.classLink_spec hown hlink e.platform hpl
  cases hcT.symm.trans hc'
  obtain ⟨dk, _, _, kt, hd, _, _, _, _, hkt, _, hopen⟩ := hcl.here
  have hcl₀ := X.warmed.classLinks hcl
  have hW' : s.WarmedH (T.vm.noted m.cls x.catchType (.cls cT)) := X.warmed.noted hd hopen (State.rightAt_cls hcl)
  have hal := X.warmed.alike
  obtain ⟨kt', hkt', -⟩ := hal.2.2 _ _ hkt
  have hfit' : T.vm.assignable cell.cls cT = true := by rw [hal.assignable]; exact hfit
  refine ⟨_, X.noted hW', fun target hrest => ?_⟩
  subst hg
  have hS := x_search (e := e) (s := (T.setTop g).pushFrame (.throwing a)) (f := g) (a := a) (meth := meth) (code := c) X.method' X.code htab hx h0 (cT := cT) (cell := cell) hcl₀ hcell (VmData.ne_statics_of hobj) (Vm.classAt_of_assignable hfit' ⟨kt', hkt'⟩) ⟨kt', hkt'⟩ hfit'
  have h := X.here
  obtain ⟨hgo, hw⟩ := h.throwing (g := g) a
  refine Steps.head hgo hw ?_
  have hIs : (stepThrowing e ((T.setTop g).pushFrame (.throwing a)) a (.java g :: T.frames.tail)).1 = (((T.setTop g).pushFrame (.throwing a)).setVm (T.vm.noted g.method.cls x.catchType (.cls cT))).setFrames (.java { g with pc := x.handlerPc, stack := [.ref a] } :: T.frames.tail) := by
    simp only [stepThrowing, searchFrame, vmDo]
    generalize hr : Sem.go _ e false [] ((T.setTop g).pushFrame (.throwing a)) = res
    obtain ⟨as, rfl, ha⟩ := Sem.eq_ok_of hr (a := Handler.found x.handlerPc) (s' := ((T.setTop g).pushFrame (.throwing a)).setVm (T.vm.noted g.method.cls x.catchType (.cls cT))) (acts' := []) (by simp [hS]; rfl)
    rfl
  rw [stepThread_throwing (frames_entered h.top _), hIs]
  obtain ⟨g₀, hg0⟩ := Option.isSome_iff_exists.mp h.top
  obtain ⟨r, hr⟩ := State.topJava?_eq_some.mp hg0
  have hr' : (T.setVm (T.vm.noted g.method.cls x.catchType (.cls cT))).frames = .java g₀ :: r := hr
  rw [State.setTop_of_frames _ hr'] at hrest
  have key : ∀ (u : State) (vm' : Vm) (F G : List Frame), ((u.setFrames F).setVm vm').setFrames G = (u.setVm vm').setFrames G := fun u vm' F G => by
    have h1 : (u.setFrames F).setVm vm' = (u.setVm vm').setFrames F := rfl
    rw [h1, State.setFrames_setFrames]
  rw [hr, List.tail_cons, State.pushFrame, key, State.setTop_of_frames _ hr, key]
  exact hrest
end XCatch
end
section
/-! OUTS: what stands outside the small machine's memory and is read alone: String constants, their bytes, statics. -/
section YOuts
def y_outs (O : Nat → Option y_C) (fld : Nat → Option (Nat × Nat × Nat × FieldType)) (con : Nat → Option Value) (i : Instr) (pc : Nat) (ls : y_L) (st : List Value) (M : y_M) : Option y_F := match i with
  | .getfield idx => (match st with
    | .ref a :: t => (match O a, fld idx with
      | some (.inr (ci, fs)), some (cj, k, _, _) => (match Nat.beq ci cj, fs[k]? with
        | true, some v => some (pc + 3, ls, v :: t, M)
        | _, _ => none)
      | _, _ => none)
    | _ => none)
  | .baload => (match st with
    | .int ix :: .ref a :: t => (match O a with
      | some (.inl (.byte, n, f)) => (match y_inB ix n with
        | true => some (pc + 1, ls, .int (f ix.toNatClampNeg) :: t, M)
        | false => none)
      | _ => none)
    | _ => none)
  | .iaload => (match st with
    | .int ix :: .ref a :: t => (match O a with
      | some (.inl (.int, n, f)) => (match y_inB ix n with
        | true => some (pc + 1, ls, .int (f ix.toNatClampNeg) :: t, M)
        | false => none)
      | _ => none)
    | _ => none)
  | .arraylength => (match st with
    | .ref a :: t => (match O a with
      | some (.inl (.byte, n, _)) => some (pc + 1, ls, .int (Int32.ofNat n) :: t, M)
      | some (.inl (.int, n, _)) => some (pc + 1, ls, .int (Int32.ofNat n) :: t, M)
      | _ => none)
    | _ => none)
  | .ldc idx => (match con (2 * idx) with
    | some (.ref a) => some (pc + 2, ls, .ref a :: st, M)
    | _ => none)
  | .getstatic idx => (match con (2 * idx + 1) with
    | some (.int v) => some (pc + 3, ls, .int v :: st, M)
    | some (.retAddr k) => some (pc + 3, ls, .retAddr k :: st, M)
    | _ => none)
  | _ => none
def y_far : Value → Bool
  | .ref k => Nat.ble 1000000 k
  | _ => true
variable {p : Program} {l : Launch} {e : Env} {R : Room} {s : State} {m : MethodId} {args : Array Value} {below : List Frame} {meth : Method} {c : Code} {Q : State → Prop}
variable {D : va_G} {cl : List vw_C} {kA : FieldType → ClassId} {A : Nat → Prop} {r0 : Nat → Nat} {n0 c0 s0 nL : Nat} {cc : ByteArray} {own : String}
def y_OutOk (s : State) (args : Array Value) (own : String) (A : Nat → Prop) (r0 : Nat → Nat) (O : Nat → Option y_C) (fld : Nat → Option (Nat × Nat × Nat × FieldType)) (con : Nat → Option Value) : Prop :=
  (∀ (a ci : Nat) (fs : List Value) (idx k fin : Nat) (ty : FieldType) (v : Value), O a = some (.inr (ci, fs)) → fld idx = some (ci, k, fin, ty) → fs[k]? = some v → 1000000 ≤ a ∧ y_far v = true ∧ ∃ o n d ref, va_OF o n d (y_tv r0 v) (r0 a) A s s.heap ∧ (Cond.fieldLink own idx ref n d).before args s = true ∧ ∀ x, s.fieldFound? o n d = some x → s.fieldFound? ref n d = some x) ∧
  (∀ (a n : Nat) (f : Nat → Int32) (ty : FieldType), O a = some (.inl (ty, n, f)) → 1000000 ≤ a ∧ va_T ty (r0 a) n (fun j => .int (f j)) A s s.heap) ∧
  (∀ (idx a : Nat), con (2 * idx) = some (.ref a) → 1000000 ≤ a ∧ ∃ tx, vk_R own idx tx (r0 a) s) ∧
  (∀ (idx : Nat) (v : Value), con (2 * idx + 1) = some v → y_far v = true ∧ ∃ C n d ref, va_Z C n d (y_tv r0 v) A s s.heap ∧ (Cond.fieldLink own idx ref n d).before args s = true ∧ ∀ x, s.fieldFound? C n d = some x → s.fieldFound? ref n d = some x)
theorem y_far_tv {r : Nat → Nat} (hE : y_Ext r0 n0 r) {v : Value} (h : y_far v = true) : y_tv r v = y_tv r0 v := by
  cases v with
  | ref k => exact congrArg Value.ref (hE k (Or.inr (Nat.ble_eq.mp h)))
  | retAddr k => exact y_tv_op (hE _ (Or.inr (by omega)))
  | _ => rfl
theorem y_outsW (hx : p.tables.exec = Jvm.exec) (hb : c.code = cc) (hown : s.vm.findClass own = some m.cls) {O : Nat → Option y_C} {fld : Nat → Option (Nat × Nat × Nat × FieldType)} {con : Nat → Option Value} (hO : y_OutOk s args own A r0 O fld con)
    {i : Instr} {len pc : Nat} {ls : y_L} {st : List Value} {M : y_M} {F : y_F} (hdg : decode cc pc = .ok (i, len)) (hlen : len = y_len i) (h : y_outs O fld con i pc ls st M = some F)
    (kk : y_Wd p l e R s m args below meth c D cl kA A r0 n0 c0 s0 nL Q F) : y_Wd p l e R s m args below meth c D cl kA A r0 n0 c0 s0 nL Q (pc, ls, st, M) := by
  subst hlen
  obtain ⟨o1, o2, o3, o4⟩ := hO
  intro r H locs la hE hn hc hs hw hS hl
  unfold y_outs at h
  split at h
  · split at h
    case h_2 => cases h
    rename_i a t
    split at h
    case h_2 => cases h
    rename_i ci fs cj k fin ty hM hf
    split at h
    case h_2 => cases h
    rename_i v hbq hv
    cases h
    have hci : ci = cj := Nat.eq_of_beq_eq_true hbq
    subst hci
    obtain ⟨h1, h2, on, nn, dn, rn, h3, h4, h5⟩ := o1 a ci fs _ k fin ty v hM hf hv
    have key := kk r H locs la hE hn hc hs hw hS hl
    have e1 : y_ts r (v :: t) = y_tv r0 v :: y_ts r t := by
      show y_tv r v :: y_ts r t = _
      rw [y_far_tv hE h2]
    dsimp only at key
    rw [e1] at key
    have e2 : y_ts r (Value.ref a :: t) = Value.ref (r0 a) :: y_ts r t := by
      show Value.ref (r a) :: y_ts r t = _
      rw [hE a (Or.inr h1)]
    dsimp only
    rw [e2]
    exact vk_getf hx hb h3 hS hown h4 h5 hdg key
  · split at h
    case h_2 => cases h
    rename_i ix a t
    split at h
    case h_2 => cases h
    rename_i n f hM
    split at h
    case h_2 => cases h
    rename_i hbq
    cases h
    obtain ⟨h1, h2⟩ := o2 a n f _ hM
    have e2 : y_ts r (Value.int ix :: Value.ref a :: t) = Value.int ix :: Value.ref (r0 a) :: y_ts r t := by
      show Value.int ix :: Value.ref (r a) :: y_ts r t = _
      rw [hE a (Or.inr h1)]
    dsimp only
    rw [e2]
    exact va_tb hx hb h2 hS (y_inB_ok hbq) rfl hdg (kk r H locs la hE hn hc hs hw hS hl)
  · split at h
    case h_2 => cases h
    rename_i ix a t
    split at h
    case h_2 => cases h
    rename_i n f hM
    split at h
    case h_2 => cases h
    rename_i hbq
    cases h
    obtain ⟨h1, h2⟩ := o2 a n f _ hM
    have e2 : y_ts r (Value.int ix :: Value.ref a :: t) = Value.int ix :: Value.ref (r0 a) :: y_ts r t := by
      show Value.int ix :: Value.ref (r a) :: y_ts r t = _
      rw [hE a (Or.inr h1)]
    dsimp only
    rw [e2]
    exact va_ti hx hb h2 hS (y_inB_ok hbq) rfl hdg (kk r H locs la hE hn hc hs hw hS hl)
  · split at h
    case h_2 => cases h
    rename_i a t
    split at h
    case h_3 => cases h
    all_goals
      rename_i n f hM
      cases h
      obtain ⟨h1, h2⟩ := o2 a n f _ hM
      have e2 : y_ts r (Value.ref a :: t) = Value.ref (r0 a) :: y_ts r t := by
        show Value.ref (r a) :: y_ts r t = _
        rw [hE a (Or.inr h1)]
      dsimp only
      rw [e2]
      exact va_tlen hx hb h2 hS rfl hdg (kk r H locs la hE hn hc hs hw hS hl)
  · split at h
    case h_2 => cases h
    rename_i a hcn
    cases h
    obtain ⟨h1, tx, h2⟩ := o3 _ a hcn
    have key := kk r H locs la hE hn hc hs hw hS hl
    have e1 : y_ts r (Value.ref a :: st) = Value.ref (r0 a) :: y_ts r st := by
      show Value.ref (r a) :: y_ts r st = _
      rw [hE a (Or.inr h1)]
    dsimp only at key
    rw [e1] at key
    exact va_ldcS hx hb hown h2 hdg key
  · split at h
    case h_3 => cases h
    · rename_i v hcn
      cases h
      obtain ⟨-, C, nn, dn, rn, h3, h4, h5⟩ := o4 _ _ hcn
      exact va_gets hx hb h3 hS hown h4 h5 hdg (kk r H locs la hE hn hc hs hw hS hl)
    · rename_i k hcn
      cases h
      obtain ⟨-, C, nn, dn, rn, h3, h4, h5⟩ := o4 _ _ hcn
      have key := kk r H locs la hE hn hc hs hw hS hl
      have e1 : y_ts r (Value.retAddr k :: st) = y_tv r0 (.retAddr k) :: y_ts r st := by
        show y_tv r (.retAddr k) :: y_ts r st = _
        rw [y_tv_op (hE _ (Or.inr (by omega)))]
      dsimp only at key
      rw [e1] at key
      exact va_gets hx hb h3 hS hown h4 h5 hdg key
  · cases h
end YOuts
end
section
/-! MK: a new exception of the JDK's, made by its constructor without arguments, in a launch without stack traces; the method goes on behind it. (The facts are drawn from the words as the library's own law of 'throw new' draws them.) -/
section XMk
variable {p : Program} {l : Launch} {e : Env} {R : Room} {s : State} {m : MethodId} {args : Array Value} {below : List Frame} {meth : Method} {c : Code} {U : State} {locs : List Loc} {cells slots : Nat}
set_option maxHeartbeats 4000000 in
theorem x_mk (X : Stand p l e R s m args below meth c U locs cells slots) (hx : p.tables.exec = Jvm.exec) (htr : e.platform.stackTraces = false) {own cls : String} {names : List String} {ic : Nat} (hown : s.vm.findClass own = some m.cls) (hcls : Bundle.fit cls = true) (hnames : ∀ n ∈ names, Bundle.fit n = true)
    (h : ∀ a ∈ Bundle.ownAtoms0 own ic cls names, a.before args s = true) {A : Nat → Prop} {vz : Value} (hz : va_Z Bundle.tN "UNASSIGNED_STACK" Bundle.steD vz A s s.heap) (hlocs : ∀ x ∈ locs, A x.base)
    {a : Addr} {cX : ClassId} {kX : Class} (hfX : s.vm.findClass cls = some cX) (hkX : s.vm.classes[cX]? = some kX) (hcell : U.heap[a]? = some (freshCell cX kX)) (hnew : s.heap.size ≤ a)
    {g : JFrame} (hg : g.method = m) (hsize : g.locals.size = c.maxLocals) {rest : List Value} (hstack : g.stack = .ref a :: rest) (hd : decode c.code g.pc = .ok (.invokespecial ic, 3))
    (hRf : names.length + 3 < R.frames) (hRl : 2 * g.monitorRoom + (rest.map fun v => v.category).sum + (13 * (names.length + 1) + 41) ≤ R.locals) :
    ∃ (U' : State) (L : List Loc), Stand p l e R s m args below meth c U' (locs ++ L) cells slots ∧ (∀ q ∈ L, q.base = a) ∧ U'.heap.size = U.heap.size ∧ (∀ q : Nat, q ≠ a → U'.heap[q]? = U.heap[q]?) ∧ (∃ ce : Cell, U'.heap[a]? = some ce ∧ ce.cls = cX ∧ ce.vm = .none) ∧
      ∀ target, Steps p.tables e below (U'.setTop { g with pc := g.pc + 3, stack := rest }) target → Steps p.tables e below (U.setTop g) target := by
  have pl1 : e.platform.frameOwnsMonitors = true := by rw [X.admits.platform]
  have pl2 : e.platform.finalization = false := by rw [X.admits.platform]
  have pl3 : e.platform.magicAccessors = ({} : Platform).magicAccessors := by rw [X.admits.platform]
  have w : ∀ x, x ∈ Bundle.ownAtoms0 own ic cls names → x.holds args s none s [] = true := fun x hx => h x hx
  obtain ⟨T, Z, L, LZ, Y⟩ := ThrowableC.of_atoms (args := args) pl1 pl2 pl3 (fun x hx => h x (by simp [Bundle.ownAtoms0, hx]))
  obtain ⟨P1, Ps, hlen, L1, hL, hP1, hup1, hup⟩ := Bundle.chain0 (args := args) pl3 Y.init0 names cls hcls hnames (fun x hx => h x (by simp [Bundle.ownAtoms0, hx]))
  have in0 : ∀ {x : Cond}, x ∈ [Cond.methodLink own ic (Bundle.init0 cls), .instantiable cls 6, .castable cls cls, .selects cls Bundle.tFill0 Bundle.tFill0, .selects cls Bundle.tFill Bundle.tFill, .lays cls Bundle.tN "cause" "Ljava/lang/Throwable;", .lays cls Bundle.tN "stackTrace" Bundle.steD, .lays cls Bundle.tN "suppressedExceptions" Bundle.listD, .lays cls Bundle.tN "detailMessage" "Ljava/lang/String;", .isRef (.static Bundle.tN "UNASSIGNED_STACK" Bundle.steD), .isRef (.static Bundle.tN "SUPPRESSED_SENTINEL" Bundle.listD), .fieldLink Bundle.tN 198 Bundle.tN "backtrace" "Ljava/lang/Object;", .lays Bundle.tN Bundle.tN "backtrace" "Ljava/lang/Object;", .lays cls Bundle.tN "backtrace" "Ljava/lang/Object;"] → x.holds args s none s [] = true := fun {x} hm => w x (List.mem_append_right _ hm)
  have hfd : s.vm.findClass cls = some P1.m.cls := findClass_of_methodNamed hP1
  cases Option.some.inj (hfX.symm.trans hfd)
  obtain ⟨c1, k1, q1, hk, hord, -, -, hn6⟩ := Cond.instantiable_spec (in0 (x := .instantiable cls 6) (by simp))
  cases Option.some.inj (q1.symm.trans hfd)
  cases Option.some.inj (hkX.symm.trans hk)
  have hs0 : selectMethod e.platform s.vm P1.m.cls T.fill0 = .method T.fill0 := by
    obtain ⟨c2, r2, m2, g1, g2, g3, g4, -⟩ := Cond.selects_spec (in0 (x := .selects cls Bundle.tFill0 Bundle.tFill0) (by simp))
    cases Option.some.inj (g1.symm.trans hfd)
    cases Option.some.inj (g2.symm.trans (State.methodFound?_of_named Y.fill0 (by decide)))
    cases Option.some.inj (g3.symm.trans Y.fill0)
    rw [Launch.admits_selectMethod X.admits]; exact g4
  have hs1 : selectMethod e.platform s.vm P1.m.cls T.fill = .method T.fill := by
    obtain ⟨c2, r2, m2, g1, g2, g3, g4, -⟩ := Cond.selects_spec (in0 (x := .selects cls Bundle.tFill Bundle.tFill) (by simp))
    cases Option.some.inj (g1.symm.trans hfd)
    cases Option.some.inj (g2.symm.trans (State.methodFound?_of_named Y.fill (by decide)))
    cases Option.some.inj (g3.symm.trans Y.fill)
    rw [Launch.admits_selectMethod X.admits]; exact g4
  obtain ⟨cS0, hS0, hst⟩ := Y.statics
  obtain ⟨u0, hu0⟩ := Cond.staticRefV Y.unassigned L.unassignedStatic L.statics hS0 hst (in0 (x := .isRef (.static Bundle.tN "UNASSIGNED_STACK" Bundle.steD)) (by simp))
  obtain ⟨sen, hsen⟩ := Cond.staticRefV Y.sentinel L.sentinelStatic L.statics hS0 hst (in0 (x := .isRef (.static Bundle.tN "SUPPRESSED_SENTINEL" Bundle.listD)) (by simp))
  obtain ⟨b1, b2, fB, hb1, hb2, hb3, hsB, -, hnB, htB, hffB⟩ := Cond.ownField (t := .object "java/lang/Object") Y.found L.cls (by decide +kernel) (in0 (x := .fieldLink Bundle.tN 198 Bundle.tN "backtrace" "Ljava/lang/Object;") (by simp)) (in0 (x := .lays Bundle.tN Bundle.tN "backtrace" "Ljava/lang/Object;") (by simp)) e.platform pl3
  obtain ⟨cS, hcS, heS, -, hkeep⟩ := X.same.2.2.2.2.2 T.aS cS0 hS0
  have hcS' : U.heap[T.aS]? = some cS := hcS
  have hnl : ∀ i, (⟨T.aS, i⟩ : Loc) ∉ locs := fun i hm => by
    obtain ⟨cf, kf, fi, f, a0, cell0, z1, z2, z3, z4, z5, z6, z7, z8⟩ := hz
    have e1 := Y.unassigned
    rw [z1] at e1
    cases e1
    have e2 := L.statics
    rw [z4] at e2
    cases e2
    exact z8 (hlocs _ hm)
  have hkS : cS.vm ≠ .unknown := by
    rw [heS]; intro hu
    rw [show cS0.vm = .unknown from hu] at hst
    cases hst
  have hneS : T.aS ≠ a := Nat.ne_of_lt (Nat.lt_of_lt_of_le (Array.getElem?_eq_some_iff.mp hS0).1 hnew)
  obtain ⟨tyC, dC, hdC, hdnC⟩ := Cond.laysAt hfd hk Y.cause (in0 (x := .lays cls Bundle.tN "cause" "Ljava/lang/Throwable;") (by simp))
  obtain ⟨tyS, dS, hdS, hdnS⟩ := Cond.laysAt hfd hk Y.stack (in0 (x := .lays cls Bundle.tN "stackTrace" Bundle.steD) (by simp))
  obtain ⟨tyP, dP, hdP, hdnP⟩ := Cond.laysAt hfd hk Y.supp (in0 (x := .lays cls Bundle.tN "suppressedExceptions" Bundle.listD) (by simp))
  obtain ⟨tyB, dB, hdB, hdnB⟩ := Cond.laysAt hfd hk hffB (in0 (x := .lays cls Bundle.tN "backtrace" "Ljava/lang/Object;") (by simp))
  have n1 := Cond.laysApart hdB hdC hdnB hdnC (by rw [hnB, Y.causeName]; decide)
  have n2 := Cond.laysApart hdB hdS hdnB hdnS (by rw [hnB, Y.stackName]; decide)
  have n3 := Cond.laysApart hdB hdP hdnB hdnP (by rw [hnB, Y.suppName]; decide)
  have hskip : SkipFacts T e.platform s (fun u => u) u0 ((preparedCellV T.toThrowableT (freshCell P1.m.cls kX) a u0 sen).withEntry U.cur) :=
    ⟨{ ci198 := b1, i198 := b2, fBack := fB }, ⟨hb1, hb2, hb3, hsB⟩, by
      have := fresh_default (c := P1.m.cls) tyB
      rw [htB] at this
      simpa [preparedCellV, Cell.setSlot, Cell.withEntry, Array.getElem?_setIfInBounds, n1, n2, n3, n1.symm, n2.symm, n3.symm, defaultValue] using this, fun _ _ => rfl⟩
  obtain ⟨tm, methC, cdC, kC, vm₁, hnC, -, -, -, -, -, -, -, hW₁, st1⟩ := Steps.initCold (tb := p.tables) (e := e) (below := below) (s := s) (U := U) X.here hx X.warmed pl3 hown (t := Bundle.init0 cls) rfl rfl (Bundle.fit_spec hcls).2
    (in0 (x := .methodLink own ic (Bundle.init0 cls)) (by simp)) (h (.instanceMethod (Bundle.init0 cls)) (by cases names <;> simp [Bundle.ownAtoms0, Bundle.chain0Atoms, Bundle.passAtoms])) (bytes := Bundle.five) (maxL := 1) (h (.code (Bundle.init0 cls) Bundle.five 1 none) (by cases names <;> simp [Bundle.ownAtoms0, Bundle.chain0Atoms, Bundle.passAtoms]))
    (f := g) hg (a := a) (rest := rest) hstack hd
  cases Option.some.inj (hnC.symm.trans hP1)
  have X₁ := X.noted hW₁
  obtain ⟨vm₂, X₂, st2⟩ := X₁.ctorPlainOffV hx (g := { g with stack := rest }) hg hsize T L Z LZ (P1 :: Ps)
    (fun P hP => by rcases List.mem_cons.mp hP with rfl | hP; exact L1; exact hL P hP) ⟨hup1, hup⟩ (u0 := u0) (sen := sen) (self := a) (cell := freshCell P1.m.cls kX) (cellS := cS)
    hcell (fun _ => by simp) (by simp) rfl rfl hs0 hs1 hcS' hneS hkS (by rw [hkeep _ (hnl _)]; exact hu0) (by rw [hkeep _ (hnl _)]; exact hsen)
    (Takes.of_laid hk hord tyC (by rw [Y.causeType]; rfl)) (Takes.of_laid hk hord tyS (by rw [Y.stackType]; exact fits_refV_array _ u0)) (Takes.of_laid hk hord tyP (by rw [Y.suppType]; exact fits_refV_object _ sen)) Y.objLocals hskip htr [] hd
    (by simp only [List.length_cons, hlen]; omega) (by simp only [List.length_cons, hlen]; exact hRl)
  have hlt : a < U.heap.size := (Array.getElem?_eq_some_iff.mp hcell).1
  refine ⟨_, _, X₂, fun q hq => ?_, ?_, fun q hq => ?_, ⟨_, heapAt_setCell_self (s := (U.setVm vm₁).setVm vm₂) _ hlt, rfl, rfl⟩, fun target hs => st1 _ (fun acts => ?_)⟩
  · simp only [List.mem_cons, List.not_mem_nil, or_false] at hq
    rcases hq with rfl | rfl | rfl | rfl <;> rfl
  · exact size_setCell _ _ _
  · show (((U.setVm vm₁).setVm vm₂).setCell a _).heap[q]? = _
    simp only [State.setCell]
    rw [Array.getElem?_setIfInBounds_ne (fun z => hq z.symm)]
    rfl
  · rw [doInvoke_state]
    exact st2 _ hs
end XMk
end
section
/-! RUN: the small machine's run, with calls and throws. -/
section YRun
/-- tables: instructions by method and pc; fields, classes, constants, calls by method and pool number; of a method: its locals, whether it is a constructor, its result; its handlers by pc -/
abbrev y_P : Type := (Nat → Nat → Option (Instr × Nat)) × (Nat → Nat → Option (Nat × Nat × Nat × FieldType)) × (Nat → Nat → Option (Nat × List Value)) × (Nat → Nat → Option Value) × (Nat → Nat → Option (Nat × Nat × Nat × Nat)) × (Nat → Nat × Bool × Option FieldType) × (Nat → Nat → Option (Nat × Nat)) × (Nat → Option y_C) × (Nat → Nat → Option (Nat × Nat))
abbrev y_ins (P : y_P) : Nat → Nat → Option (Instr × Nat) := P.1
abbrev y_fld (P : y_P) : Nat → Nat → Option (Nat × Nat × Nat × FieldType) := P.2.1
abbrev y_cls (P : y_P) : Nat → Nat → Option (Nat × List Value) := P.2.2.1
abbrev y_con (P : y_P) : Nat → Nat → Option Value := P.2.2.2.1
abbrev y_cal (P : y_P) : Nat → Nat → Option (Nat × Nat × Nat × Nat) := P.2.2.2.2.1
abbrev y_met (P : y_P) : Nat → Nat × Bool × Option FieldType := P.2.2.2.2.2.1
abbrev y_han (P : y_P) : Nat → Nat → Option (Nat × Nat) := P.2.2.2.2.2.2.1
/-- what stands outside -/
abbrev y_far0 (P : y_P) : Nat → Option y_C := P.2.2.2.2.2.2.2.1
/-- exceptions that are made: by method and pool number, the class and the constructor's pool number -/
abbrev y_exc (P : y_P) : Nat → Nat → Option (Nat × Nat) := P.2.2.2.2.2.2.2.2
def y_cell (P : y_P) (mi : Nat) (i : Instr) (pc : Nat) (ls : y_L) (st : List Value) (M : y_M) : Option y_F := match i with
  | .getfield idx => y_getf (y_fld P mi) idx pc ls st M
  | .putfield idx => y_putf (y_met P mi).2.1 (y_fld P mi) idx pc ls st M
  | .iaload => y_ald .int pc ls st M
  | .baload => y_ald .byte pc ls st M
  | .iastore => y_ast .int pc ls st M
  | .bastore => y_ast .byte pc ls st M
  | .arraylength => y_alen pc ls st M
  | .new idx => y_new (y_cls P mi) idx pc ls st M
  | .newarray .int => y_newa .int pc ls st M
  | .newarray .byte => y_newa .byte pc ls st M
  | .ldc idx => (match y_con P mi (2 * idx) with
    | some (.int v) => some (pc + 2, ls, .int v :: st, M)
    | _ => none)
  | .ldc_w idx => (match y_con P mi (2 * idx) with
    | some (.int v) => some (pc + 3, ls, .int v :: st, M)
    | _ => none)
  | .ldc2_w idx => (match y_con P mi (2 * idx) with
    | some (.long v) => some (pc + 3, ls, .long v :: st, M)
    | _ => none)
  | .tableswitch d lo hi offs => y_switch d lo hi offs pc ls st M
  | _ => y_pure (y_met P mi).1 i pc ls st M
def y_narB (ty : FieldType) (v : Int32) : Bool := match ty with
  | .int => true
  | .boolean => decide (v &&& 1 = v)
  | .byte => decide (v.toInt8.toInt32 = v)
  | .char => decide (v.toUInt32.toUInt16.toUInt32.toInt32 = v)
  | _ => false
def y_words (st : List Value) : Nat := (st.map fun v => v.category).sum
/-- the receiver of a call of kind 0 is a cell of that class -/
def y_recv (ci : Nat) (as : List Value) (Ms : List y_C) : Bool := match as with
  | .ref a :: _ => (match Ms[a]? with
    | some (.inr (cj, _)) => Nat.beq ci cj
    | _ => false)
  | _ => false
def y_isRef (as : List Value) : Bool := match as with
  | .ref _ :: _ => true
  | _ => false
/-- arraycopy between two arrays of ints -/
def y_copy (st : List Value) (M : y_M) : Option (List Value × y_M) := match st with
  | .int n :: .int dp :: .ref a1 :: .int sp :: .ref a0 :: t => (match M.1[a0]?, M.1[a1]? with
    | some (.inl (.int, n0, f)), some (.inl (.int, n1, g)) => (match !decide (sp < 0) && !decide (dp < 0) && !decide (n < 0) && Nat.ble (sp.toNatClampNeg + n.toNatClampNeg) n0 && Nat.ble (dp.toNatClampNeg + n.toNatClampNeg) n1 with
      | true => some (t, (M.1.set a1 (.inl (.int, n1, va_cpy f g sp.toNatClampNeg dp.toNatClampNeg n.toNatClampNeg)), M.2))
      | false => none)
    | _, _ => none)
  | _ => none
/-- a new exception by its constructor: new, dup, invokespecial -/
def y_mkE (P : y_P) (mi : Nat) (i : Instr) (pc : Nat) (ls : y_L) (st : List Value) (M : y_M) : Option y_F := match i with
  | .new idx => (match y_exc P mi idx, y_ins P mi (pc + 3), y_ins P mi (pc + 4) with
    | some (cE, ic), some (.dup, _), some (.invokespecial ic', _) => (match Nat.beq ic ic' && y_wf ls st M.1 && Nat.ble (y_words st) 6 with
      | true => some (pc + 7, ls, .ref M.1.length :: st, (M.1 ++ [.inr (cE, [])], M.2.1 + 1, M.2.2 + 6))
      | false => none)
    | _, _, _ => none)
  | _ => none
/-- the receiver of a call of kind 4 stands outside -/
def y_recvO (O : Nat → Option y_C) (ci : Nat) (as : List Value) : Bool := match as with
  | .ref a :: _ => (match O a with
    | some (.inr (cj, _)) => Nat.beq ci cj
    | _ => false)
  | _ => false
/-- kinds: 4 virtual on a thing outside, 0 virtual on a cell, 1 static, 2 a constructor of ours, 3 Object's constructor; the method, how many values it takes (the receiver too), the receiver's class -/
def y_call (P : y_P) (go : Nat → Nat → y_F → Option y_R) (d mi kd idx pc : Nat) (ls : y_L) (st : List Value) (M : y_M) : Option y_R := match y_cal P mi idx with
  | none => none
  | some (kind, cm, k, ci) =>
    if kind = 3 then (match st with
      | .ref _ :: t => if kd = 2 ∧ y_words t ≤ 8 then go d mi (pc + 3, ls, t, M) else none
      | _ => none)
    else if kind = 5 then (match st with
      | .long y :: .long x :: t => if kd = 1 ∧ y_words t ≤ 8 then go d mi (pc + 3, ls, .long (if y < x then y else x) :: t, M) else none
      | _ => none)
    else if kind = 6 then (match y_copy st M with
      | some (t, M') => if kd = 1 ∧ y_words t ≤ 8 then go d mi (pc + 3, ls, t, M') else none
      | none => none)
    else if (kind = kd ∨ (kind = 4 ∧ kd = 0)) ∧ k ≤ st.length ∧ y_words (st.drop k) ≤ 8 ∧ y_wf ls (st.drop k) M.1 = true ∧ (lg_sl (st.take k).reverse).length ≤ (y_met P cm).1 ∧ (kind = 0 → y_recv ci (st.take k).reverse M.1 = true) ∧ (kind = 2 → y_isRef (st.take k).reverse = true) ∧ (kind = 4 → y_recvO (y_far0 P) ci (st.take k).reverse = true) then (match d with
      | 0 => none
      | d' + 1 => (match go d' cm (0, lv_args 0 (st.take k).reverse, [], M) with
        | none => none
        | some (.inl v, M') => go d mi (pc + 3, ls, v.toList ++ st.drop k, M')
        | some (.inr a, M') => (match y_han P mi pc with
          | none => some (.inr a, M')
          | some (h, cE) => (match M'.1[a]? with
            | some (.inr (cj, _)) => if cE = cj then go d mi (h, ls, [.ref a], M') else none
            | _ => none))))
    else none
def y_one (P : y_P) (go : Nat → Nat → y_F → Option y_R) (d mi : Nat) (F : y_F) : Option y_R := match F with
  | (pc, ls, st, M) => (match y_ins P mi pc with
    | none => none
    | some (i, len) => (match i with
      | .ireturn => (match st, (y_met P mi).2.2 with
        | [.int v], some ty => if y_narB ty v = true then some (.inl (some (.int v)), M) else none
        | _, _ => none)
      | .lreturn => (match st, (y_met P mi).2.2 with
        | [.long v], some .long => some (.inl (some (.long v)), M)
        | _, _ => none)
      | .return_ => (match st, (y_met P mi).2.2 with
        | [], none => some (.inl none, M)
        | _, _ => none)
      | .athrow => (match st, y_han P mi pc with
        | .ref a :: _, none => some (.inr a, M)
        | _, _ => none)
      | .invokevirtual idx => y_call P go d mi 0 idx pc ls st M
      | .invokestatic idx => y_call P go d mi 1 idx pc ls st M
      | .invokespecial idx => y_call P go d mi 2 idx pc ls st M
      | _ => (match y_cell P mi i pc ls st M with
        | some F' => go d mi F'
        | none => (match y_outs (y_far0 P) (y_fld P mi) (y_con P mi) i pc ls st M with
          | some F' => go d mi F'
          | none => (match y_mkE P mi i pc ls st M with
            | some F' => go d mi F'
            | none => none)))))
noncomputable def y_run (P : y_P) (n : Nat) : Nat → Nat → y_F → Option y_R := Nat.rec (motive := fun _ => Nat → Nat → y_F → Option y_R) (fun _ _ _ => none) (fun _ go => y_one P go) n
theorem y_run_s (P : y_P) (n d mi : Nat) (F : y_F) : y_run P (n + 1) d mi F = y_one P (y_run P n) d mi F := rfl
end YRun
end
section
/-! SOUND: what the small machine runs, the real one runs. -/
section YMono
theorem y_pure_M {nL : Nat} {i : Instr} {pc : Nat} {ls : y_L} {st : List Value} {M : y_M} {F : y_F} (h : y_pure nL i pc ls st M = some F) : F.2.2.2 = M := by
  unfold y_pure at h
  split at h <;> first
    | (cases h; done)
    | (cases h; rfl)
    | (obtain ⟨_, _, rfl⟩ := y_loadI_spec h; rfl)
    | (obtain ⟨_, _, rfl⟩ := y_loadL_spec h; rfl)
    | (rcases y_loadA_spec h with ⟨_, _, rfl⟩ | ⟨_, rfl⟩ <;> rfl)
    | (obtain ⟨_, _, _, _, rfl⟩ := y_storeI_spec h; rfl)
    | (obtain ⟨_, _, _, _, rfl⟩ := y_storeL_spec h; rfl)
    | (rcases y_storeA_spec h with ⟨_, _, _, _, rfl⟩ | ⟨_, _, _, rfl⟩ <;> rfl)
    | (obtain ⟨_, _, _, rfl⟩ := y_inc_spec h; rfl)
    | (obtain ⟨_, _, _, _, rfl⟩ := y_int2_spec h; rfl)
    | (obtain ⟨_, _, _, rfl⟩ := y_int_spec h; rfl)
    | (obtain ⟨_, _, _, _, rfl⟩ := y_long2_spec h; rfl)
    | (obtain ⟨_, _, _, _, rfl⟩ := y_longI_spec h; rfl)
    | (obtain ⟨_, _, _, _, _, rfl⟩ := y_br1_spec h; rfl)
    | (obtain ⟨_, _, _, _, _, _, rfl⟩ := y_br2_spec h; rfl)
    | (rcases y_brN_spec h with ⟨_, _, _, _, rfl⟩ | ⟨_, _, _, _, _, rfl⟩ <;> rfl)
    | (obtain ⟨_, _, rfl⟩ := y_go_spec h; rfl)
    | (split at h <;> cases h <;> rfl)
/-- the memory has grown -/
def y_le (M M' : y_M) : Prop := M.1.length ≤ M'.1.length ∧ M.2.1 ≤ M'.2.1 ∧ M.2.2 ≤ M'.2.2
theorem y_le.rf {M : y_M} : y_le M M := ⟨Nat.le_refl _, Nat.le_refl _, Nat.le_refl _⟩
theorem y_le.tr {M M' M'' : y_M} (h : y_le M M') (h' : y_le M' M'') : y_le M M'' := ⟨Nat.le_trans h.1 h'.1, Nat.le_trans h.2.1 h'.2.1, Nat.le_trans h.2.2 h'.2.2⟩
theorem y_le.of {M M' : y_M} (h : M' = M) : y_le M M' := by subst h; exact y_le.rf
theorem y_getf_M {fld : Nat → Option (Nat × Nat × Nat × FieldType)} {idx pc : Nat} {ls : y_L} {st : List Value} {M : y_M} {F : y_F} (h : y_getf fld idx pc ls st M = some F) : y_le M F.2.2.2 := by
  unfold y_getf at h
  repeat' (split at h)
  all_goals first | (cases h; done) | (cases h; exact y_le.rf)
theorem y_putf_M {ini : Bool} {fld : Nat → Option (Nat × Nat × Nat × FieldType)} {idx pc : Nat} {ls : y_L} {st : List Value} {M : y_M} {F : y_F} (h : y_putf ini fld idx pc ls st M = some F) : y_le M F.2.2.2 := by
  unfold y_putf at h
  repeat' (split at h)
  all_goals first | (cases h; done) | (cases h; exact ⟨by simp, Nat.le_refl _, Nat.le_refl _⟩)
theorem y_ald_M {ty : FieldType} {pc : Nat} {ls : y_L} {st : List Value} {M : y_M} {F : y_F} (h : y_ald ty pc ls st M = some F) : y_le M F.2.2.2 := by
  unfold y_ald at h
  repeat' (split at h)
  all_goals first | (cases h; done) | (cases h; exact y_le.rf)
theorem y_ast_M {ty : FieldType} {pc : Nat} {ls : y_L} {st : List Value} {M : y_M} {F : y_F} (h : y_ast ty pc ls st M = some F) : y_le M F.2.2.2 := by
  unfold y_ast at h
  repeat' (split at h)
  all_goals first | (cases h; done) | (cases h; exact ⟨by simp, Nat.le_refl _, Nat.le_refl _⟩)
theorem y_alen_M {pc : Nat} {ls : y_L} {st : List Value} {M : y_M} {F : y_F} (h : y_alen pc ls st M = some F) : y_le M F.2.2.2 := by
  unfold y_alen at h
  repeat' (split at h)
  all_goals first | (cases h; done) | (cases h; exact y_le.rf)
theorem y_new_M {cls : Nat → Option (Nat × List Value)} {idx pc : Nat} {ls : y_L} {st : List Value} {M : y_M} {F : y_F} (h : y_new cls idx pc ls st M = some F) : y_le M F.2.2.2 := by
  unfold y_new at h
  repeat' (split at h)
  all_goals first | (cases h; done) | (cases h; exact ⟨by simp, by simp, by simp⟩)
theorem y_newa_M {ty : FieldType} {pc : Nat} {ls : y_L} {st : List Value} {M : y_M} {F : y_F} (h : y_newa ty pc ls st M = some F) : y_le M F.2.2.2 := by
  unfold y_newa at h
  repeat' (split at h)
  all_goals first | (cases h; done) | (cases h; exact ⟨by simp, by simp, by simp⟩)
theorem y_switch_M {d lo hi : Int} {offs : Array Int} {pc : Nat} {ls : y_L} {st : List Value} {M : y_M} {F : y_F} (h : y_switch d lo hi offs pc ls st M = some F) : y_le M F.2.2.2 := by
  unfold y_switch at h
  repeat' (split at h)
  all_goals first | (cases h; done) | (obtain ⟨_, _, rfl⟩ := y_go_spec h; exact y_le.rf)
theorem y_cell_M {P : y_P} {mi : Nat} {i : Instr} {pc : Nat} {ls : y_L} {st : List Value} {M : y_M} {F : y_F} (h : y_cell P mi i pc ls st M = some F) : y_le M F.2.2.2 := by
  unfold y_cell at h
  split at h
  · exact y_getf_M h
  · exact y_putf_M h
  · exact y_ald_M h
  · exact y_ald_M h
  · exact y_ast_M h
  · exact y_ast_M h
  · exact y_alen_M h
  · exact y_new_M h
  · exact y_newa_M h
  · exact y_newa_M h
  · split at h
    · cases h; exact y_le.rf
    · cases h
  · split at h
    · cases h; exact y_le.rf
    · cases h
  · split at h
    · cases h; exact y_le.rf
    · cases h
  · exact y_switch_M h
  · exact y_le.of (y_pure_M h)
theorem y_outs_M {O : Nat → Option y_C} {fld : Nat → Option (Nat × Nat × Nat × FieldType)} {con : Nat → Option Value} {i : Instr} {pc : Nat} {ls : y_L} {st : List Value} {M : y_M} {F : y_F} (h : y_outs O fld con i pc ls st M = some F) : y_le M F.2.2.2 := by
  unfold y_outs at h
  repeat' (split at h)
  all_goals first | (cases h; done) | (cases h; exact y_le.rf)
theorem y_mkE_M {P : y_P} {mi : Nat} {i : Instr} {pc : Nat} {ls : y_L} {st : List Value} {M : y_M} {F : y_F} (h : y_mkE P mi i pc ls st M = some F) : y_le M F.2.2.2 := by
  unfold y_mkE at h
  repeat' (split at h)
  all_goals first | (cases h; done) | (cases h; exact ⟨by simp, by simp, by simp⟩)
theorem y_copy_M {st t : List Value} {M M' : y_M} (h : y_copy st M = some (t, M')) : y_le M M' := by
  unfold y_copy at h
  repeat' (split at h)
  all_goals first | (cases h; done) | (cases h; exact ⟨by simp, Nat.le_refl _, Nat.le_refl _⟩)
theorem y_run_M {P : y_P} : ∀ {n d mi : Nat} {F : y_F} {res : y_R}, y_run P n d mi F = some res → y_le F.2.2.2 res.2
  | 0, _, _, _, _, h => by cases h
  | n + 1, d, mi, (pc, ls, st, M), res, h => by
    have ih : ∀ {d mi : Nat} {F : y_F} {res : y_R}, y_run P n d mi F = some res → y_le F.2.2.2 res.2 := fun h => y_run_M h
    have hcall : ∀ {kd idx : Nat}, y_call P (y_run P n) d mi kd idx pc ls st M = some res → y_le M res.2 := by
      intro kd idx h
      unfold y_call at h
      split at h
      · cases h
      · split at h
        · split at h
          · split at h
            · exact ih h
            · cases h
          · cases h
        · split at h
          · split at h
            · split at h
              · exact ih h
              · cases h
            · cases h
          split at h
          · split at h
            · rename_i h1
              split at h
              · exact y_le.tr (y_copy_M h1) (ih h)
              · cases h
            · cases h
          split at h
          · split at h
            · cases h
            · split at h
              · cases h
              · rename_i h1; exact y_le.tr (ih h1) (ih h)
              · rename_i h1
                split at h
                · cases h; exact ih h1
                · split at h
                  · split at h
                    · exact y_le.tr (ih h1) (ih h)
                    · cases h
                  · cases h
          · cases h
    rw [y_run_s] at h
    unfold y_one at h
    dsimp only at h
    split at h
    · cases h
    · split at h
      · split at h
        · split at h
          · cases h; exact y_le.rf
          · cases h
        · cases h
      · split at h
        · cases h; exact y_le.rf
        · cases h
      · split at h
        · cases h; exact y_le.rf
        · cases h
      · split at h
        · cases h; exact y_le.rf
        · cases h
      · exact hcall h
      · exact hcall h
      · exact hcall h
      · split at h
        · rename_i h1; exact y_le.tr (y_cell_M h1) (ih h)
        · split at h
          · rename_i h1; exact y_le.tr (y_outs_M h1) (ih h)
          · split at h
            · rename_i h1; exact y_le.tr (y_mkE_M h1) (ih h)
            · cases h
end YMono
end
section
/-! SOUND: what the small machine runs, the real one runs. -/
section YSound
variable {p : Program} {l : Launch} {e : Env} {R : Room} {s : State} {m : MethodId} {args : Array Value} {below : List Frame} {meth : Method} {c : Code}
theorem y_mono {H : Heap} {locs : List Loc} {cells slots : Nat} {Q Q' : State → Prop} {g : JFrame} (hq : ∀ t, Q t → Q' t) (h : W p l e R s m args below meth c H locs cells slots Q g) : W p l e R s m args below meth c H locs cells slots Q' g := fun T hT X => by
  obtain ⟨t, a, b⟩ := h T hT X
  exact ⟨t, a, hq t b⟩
/-- the end of a method's walk, with both ends -/
def y_Z (below : List Frame) (args : Array Value) (s : State) (mc ms : Nat) (free : Addr → Prop) (Qc : Array Value → State → Outcome → State → Prop) : State → Prop := fun t =>
  ∃ o, t.status = .running ∧ Ended t below o ∧ Qc args s o t ∧ ∃ L, x_End s t L mc ms ∧ ∀ q ∈ L, free q.base
theorem y_Z_of {mc ms : Nat} {free : Addr → Prop} {Qc : Array Value → State → Outcome → State → Prop} : ∀ t, MQ below Qc args s mc ms free t → y_Z below args s mc ms free Qc t := fun _ ⟨o, h1, h2, h3, L, h4, h5⟩ => ⟨o, h1, h2, h3, L, h4.2, h5⟩
theorem x_metW {y : MethodName} {S : Spec} {Pc : Array Value → State → Prop} {Qc : Array Value → State → Outcome → State → Prop} {mc ms : Nat} {free : Addr → Prop} {cc : ByteArray} {maxL : Nat} {ret : Option FieldType}
    (hy : plainName y.cls = true) (hspec : ∀ (args : Array Value) (s : State) (m : MethodId), S.pre.before args s = true → s.methodNamed? y = some m → ∃ meth c, s.vm.method? m = some meth ∧ meth.code = some c ∧ c.code = cc ∧ c.maxLocals = maxL ∧ meth.sig.returnType = ret ∧ meth.locks = false)
    (body : ∀ p e s m args below meth c s₁, BodyLoose p l y S cc maxL ret e s m args below meth c s₁ → c.maxLocals = maxL → Pc args s →
      W p l e S.room s m args below meth c s.heap [] 0 0 (y_Z below args s mc ms free Qc) (entryFrame m args maxL)) : x_Met l y S Pc Qc mc ms free := by
  refine MetFree.of_bodyS (code := cc) (maxLocals := maxL) (ret := ret) hy hspec ?_
  intro p e s m args below meth c s₁ B hml hP _
  have hh0 : s₁.heap = s.heap := by rw [B.state]; rfl
  obtain ⟨t, a1, o, b1, b2, b3⟩ := body p e s m args below meth c s₁ B hml hP s₁ hh0 (Stand.of_body B)
  exact ⟨t, o, a1, b1, b2, b3⟩
/-- how a run's end looks in the machine -/
def y_end (D : va_G) (cl : List vw_C) (kA : FieldType → ClassId) (A : Nat → Prop) (r0 : Nat → Nat) (n0 : Nat) (res : y_R) (st : State) (o : Outcome) (t : State) : Prop :=
  ∃ r, y_Ext r0 n0 r ∧ y_World D cl kA A r res.2.1 t.heap ∧ va_F A st t ∧ match res.1 with
    | .inl v => o = .returned (v.map (y_tv r))
    | .inr a => o = .threw (r a)
/-- the head word of a method -/
def y_w0 (P : y_P) (nm : Nat → MethodName) (cd : Nat → ByteArray) (hh : Nat → List (Nat × Nat × Nat × Nat)) (mi : Nat) : Cond := match hh mi with
  | [] => .code (nm mi) (cd mi) (y_met P mi).1 (y_met P mi).2.2
  | h => .codeWith (nm mi) (cd mi) (y_met P mi).1 (y_met P mi).2.2 h
/-- a method's own things, where its walk stands -/
def y_Here (P : y_P) (nm : Nat → MethodName) (cd : Nat → ByteArray) (hh : Nat → List (Nat × Nat × Nat × Nat)) (Ts : List Cond) (X : State → Prop) (A : Nat → Prop) (mi : Nat) (p : Program) (s : State) (m : MethodId) (args : Array Value) (meth : Method) (c : Code) : Prop :=
  p.tables.exec = Jvm.exec ∧ c.code = cd mi ∧ c.maxLocals = (y_met P mi).1 ∧ s.vm.findClass (nm mi).cls = some m.cls ∧ (∀ w ∈ Ts, w.before args s = true) ∧ X s ∧ meth.sig.returnType = (y_met P mi).2.2 ∧ meth.locks = false ∧ meth.name = (nm mi).name ∧
  c.exceptionTable.toList.map (fun h => (h.startPc, h.endPc, h.handlerPc, h.catchType)) = hh mi ∧ (∀ q, s.heap.size ≤ q → A q)
def y_ConOk (s : State) (args : Array Value) (own : String) (con : Nat → Option Value) : Prop :=
  (∀ (idx : Nat) (v : Int32), con (2 * idx) = some (.int v) → (Cond.constant own idx v).before args s = true) ∧
  (∀ (idx : Nat) (v : Int64), con (2 * idx) = some (.long v) → (Cond.constantLong own idx v).before args s = true)
def y_CalOk (P : y_P) (nm : Nat → MethodName) (hh : Nat → List (Nat × Nat × Nat × Nat)) (cl : List vw_C) (A : Nat → Prop) (ρ : Nat → Nat) (mi : Nat) (s : State) (args : Array Value) : Prop :=
  ∀ (idx kind cm k ci : Nat), y_cal P mi idx = some (kind, cm, k, ci) →
    (kind = 3 → (Cond.methodLink (nm mi).cls idx objectInit).before args s = true ∧ (Cond.instanceMethod objectInit).before args s = true ∧ (Cond.code objectInit ⟨#[0xb1]⟩ 1 none).before args s = true) ∧
    (kind = 5 → (Cond.methodLink (nm mi).cls idx Lib.MathLoose.min_long.x).before args s = true ∧ (Cond.static Lib.MathLoose.min_long.x).before args s = true ∧ (Cond.initialized "java/lang/Math").before args s = true ∧ (Cond.code Lib.MathLoose.min_long.x Lib.MathLoose.min_long.code 4 (some .long)).before args s = true) ∧
    (kind = 6 → (Cond.methodLink (nm mi).cls idx arraycopyName).before args s = true ∧ (Cond.native arraycopyName).before args s = true ∧ (Cond.static arraycopyName).before args s = true ∧ (Cond.initialized "java/lang/System").before args s = true) ∧
    (kind = 0 → (∃ (C : String) (T : u_T) (N : Nat), cl[ci]? = some (C, T, N) ∧ (Cond.selects C (nm cm) (nm cm)).before args s = true) ∧ (Cond.methodLink (nm mi).cls idx (nm cm)).before args s = true ∧ (Cond.instanceMethod (nm cm)).before args s = true ∧ ∀ sig, parseMethodDescriptor (nm cm).desc = some sig → k = sig.parameters.length + 1) ∧
    (kind = 4 → (∃ (C : String), (Cond.selects C (nm cm) (nm cm)).before args s = true ∧ ∀ (a : Nat) (fs : List Value), y_far0 P a = some (.inr (ci, fs)) → 1000000 ≤ a ∧ va_O C (ρ a) A s s.heap) ∧ (Cond.methodLink (nm mi).cls idx (nm cm)).before args s = true ∧ (Cond.instanceMethod (nm cm)).before args s = true ∧ ∀ sig, parseMethodDescriptor (nm cm).desc = some sig → k = sig.parameters.length + 1) ∧
    (kind = 1 → hh cm = [] ∧ ((Cond.methodLink (nm mi).cls idx (nm cm)).before args s = true ∨ ∃ host, (Cond.methodLinkNest (nm mi).cls idx (nm cm) host).before args s = true) ∧ (Cond.static (nm cm)).before args s = true ∧ ∀ sig, parseMethodDescriptor (nm cm).desc = some sig → k = sig.parameters.length) ∧
    (kind = 2 → hh cm = [] ∧ (y_met P cm).2.2 = none ∧ (nm cm).name = "<init>" ∧ ((Cond.methodLink (nm mi).cls idx (nm cm)).before args s = true ∨ ∃ host, (Cond.methodLinkNest (nm mi).cls idx (nm cm) host).before args s = true) ∧ (Cond.instanceMethod (nm cm)).before args s = true ∧ ∀ sig, parseMethodDescriptor (nm cm).desc = some sig → k = sig.parameters.length + 1)
def y_room (d mc ms : Nat) : Room := { frames := d + 8, cells := mc, slots := ms, locals := 256 + 64 * d }
/-- all that the tables, the words and the world must give -/
def y_Sys (P : y_P) (nm : Nat → MethodName) (cd : Nat → ByteArray) (hh : Nat → List (Nat × Nat × Nat × Nat)) (Ts : List Cond) (X : State → Prop) (D : va_G) (cl : List vw_C) (kA : FieldType → ClassId) (tys : List (ClassId × FieldType)) (A : Nat → Prop) (ρ : Nat → Nat) : Prop :=
  (∀ (mi pc len : Nat) (i : Instr), y_ins P mi pc = some (i, len) → decode (cd mi) pc = .ok (i, len) ∧ (len = y_len i ∨ ∃ d lo hi o, i = .tableswitch d lo hi o)) ∧
  (∀ (mi : Nat) (s : State) (args : Array Value), X s → (∀ w ∈ Ts, w.before args s = true) → y_FldOk s args (nm mi).cls Ts cl (y_fld P mi) ∧ y_ClsOk s args (nm mi).cls Ts cl (y_cls P mi) ∧ y_OutOk s args (nm mi).cls A ρ (y_far0 P) (y_fld P mi) (y_con P mi) ∧ y_ConOk s args (nm mi).cls (y_con P mi) ∧ y_CalOk P nm hh cl A ρ mi s args) ∧
  (∀ (s : State) (args : Array Value), X s → (∀ w ∈ Ts, w.before args s = true) → va_K D cl tys s ∧ tys[0]? = some (kA .int, .int) ∧ tys[1]? = some (kA .byte, .byte) ∧ s.vm.findClass ("[" ++ FieldType.int.toString) = some (kA .int) ∧ s.vm.findClass ("[" ++ FieldType.byte.toString) = some (kA .byte) ∧ (Cond.arrayClass .int).before args s = true ∧ (Cond.arrayClass .byte).before args s = true) ∧
  (∀ (s U : State), X s → s.WarmedH U.vm → s.heap.size ≤ U.heap.size → (∀ q, q < s.heap.size → ¬ A q → U.heap[q]? = s.heap[q]?) → X U) ∧
  (∀ (mi idx kind cm k ci : Nat), y_cal P mi idx = some (kind, cm, k, ci) → kind ≠ 3 ∧ kind ≠ 5 ∧ kind ≠ 6 → y_w0 P nm cd hh cm ∈ Ts ∧ Cond.initialized (nm cm).cls ∈ Ts ∧ plainName (nm cm).cls = true ∧ ((nm cm).cls ≠ "java/lang/invoke/MethodHandle" ∧ (nm cm).cls ≠ "java/lang/invoke/VarHandle") ∧ (y_met P cm).1 ≤ 45) ∧
  (∀ w ∈ Ts, (w.onTables && w.keeps) = true ∨ ∃ ty, w = .arrayClass ty) ∧
  (∀ mi, (y_met P mi).2.1 = true → (nm mi).name = "<init>") ∧
  (∀ mi pc, y_han P mi pc = none → ∀ h ∈ hh mi, ¬ (h.1 ≤ pc ∧ pc < h.2.1)) ∧
  (∀ (mi pc h cE : Nat) (s : State) (args : Array Value), X s → (∀ w ∈ Ts, w.before args s = true) → y_han P mi pc = some (h, cE) → ∃ (t1 t2 ty : Nat) (rest : List (Nat × Nat × Nat × Nat)) (C : String) (T : u_T) (N : Nat), hh mi = (t1, t2, h, ty) :: rest ∧ t1 ≤ pc ∧ pc < t2 ∧ ty ≠ 0 ∧ (Cond.classLink (nm mi).cls ty C).before args s = true ∧ cl[cE]? = some (C, T, N)) ∧
  (∀ (mi idx cE ic : Nat) (s : State) (args : Array Value), X s → (∀ w ∈ Ts, w.before args s = true) → y_exc P mi idx = some (cE, ic) → ∃ (C : String) (T : u_T) (names : List String), cl[cE]? = some (C, T, 0) ∧ Bundle.fit C = true ∧ (∀ n ∈ names, Bundle.fit n = true) ∧ names.length ≤ 3 ∧ (∀ a ∈ Bundle.ownAtoms0 (nm mi).cls ic C names, a.before args s = true) ∧ (∃ vz, va_Z Bundle.tN "UNASSIGNED_STACK" Bundle.steD vz A s s.heap) ∧ (Cond.classLink (nm mi).cls idx C).before args s = true ∧ (Cond.initialized C).before args s = true)
/-- runs of 'go' are sound -/
def y_Snd (P : y_P) (nm : Nat → MethodName) (cd : Nat → ByteArray) (hh : Nat → List (Nat × Nat × Nat × Nat)) (Ts : List Cond) (X : State → Prop) (D : va_G) (cl : List vw_C) (kA : FieldType → ClassId) (A : Nat → Prop) (ρ : Nat → Nat) (l : Launch) (go : Nat → Nat → y_F → Option y_R) : Prop :=
  ∀ (d mi : Nat) (F : y_F) (res : y_R), go d mi F = some res → ∀ (p : Program) (e : Env) (R : Room) (s : State) (m : MethodId) (args : Array Value) (below : List Frame) (meth : Method) (c : Code), y_Here P nm cd hh Ts X A mi p s m args meth c → d + 8 ≤ R.frames → 256 + 64 * d ≤ R.locals →
    ∀ (r0 : Nat → Nat) (n0 c0 s0 : Nat), (∀ k, 1000000 ≤ k → r0 k = ρ k) → res.2.2.1 - c0 ≤ R.cells → res.2.2.2 - s0 ≤ R.slots →
    y_Wd p l e R s m args below meth c D cl kA A r0 n0 c0 s0 (y_met P mi).1 (y_Z below args s (res.2.2.1 - c0) (res.2.2.2 - s0) A (fun _ st o t => y_end D cl kA A r0 n0 res st o t)) F
def y_Pc (X : State → Prop) (D : va_G) (cl : List vw_C) (kA : FieldType → ClassId) (A : Nat → Prop) (r : Nat → Nat) (as : List Value) (M : y_M) : Array Value → State → Prop := fun v U =>
  v = (y_ts r as).toArray ∧ X U ∧ y_World D cl kA A r M.1 U.heap ∧ ∀ q, U.heap.size ≤ q → A q
theorem y_tL_args (r : Nat → Nat) : ∀ (as : List Value) (i : Nat), lv_args i (y_ts r as) = y_tL r (lv_args i as)
  | [], _ => rfl
  | v :: t, i => by
    show (i, y_tv r v) :: lv_args (if (y_tv r v).category = 2 then i + 2 else i + 1) (y_ts r t) = (i, y_tv r v) :: y_tL r (lv_args (if v.category = 2 then i + 2 else i + 1) t)
    rw [y_tv_cat, y_tL_args r t]
theorem y_sl_len (r : Nat → Nat) : ∀ (as : List Value), (lg_sl (y_ts r as)).length = (lg_sl as).length
  | [] => rfl
  | v :: t => by
    show (lg_sl (y_tv r v :: y_ts r t)).length = (lg_sl (v :: t)).length
    have ih := y_sl_len r t
    unfold lg_sl at ih ⊢
    rw [List.flatMap_cons, List.flatMap_cons, List.length_append, List.length_append, ih, y_tv_cat]
    by_cases h : v.category = 2
    · simp [h]
    · simp [h]
theorem y_words_ts (r : Nat → Nat) : ∀ (st : List Value), ((y_ts r st).map fun v => v.category).sum = y_words st := by
  intro st
  unfold y_ts y_words
  rw [List.map_map]
  congr 1
  apply List.map_congr_left
  intro v _
  exact y_tv_cat r v
variable {P : y_P} {nm : Nat → MethodName} {cd : Nat → ByteArray} {hh : Nat → List (Nat × Nat × Nat × Nat)} {Ts : List Cond} {X : State → Prop} {D : va_G} {cl : List vw_C} {kA : FieldType → ClassId} {tys : List (ClassId × FieldType)} {A : Nat → Prop} {ρ : Nat → Nat} {go : Nat → Nat → y_F → Option y_R}
theorem y_w0_spec {mi : Nat} {a : Array Value} {U : State} (h : (y_w0 P nm cd hh mi).before a U = true) : ∃ m meth c, U.methodNamed? (nm mi) = some m ∧ U.vm.method? m = some meth ∧ meth.code = some c ∧ c.code = cd mi ∧ c.maxLocals = (y_met P mi).1 ∧ meth.sig.returnType = (y_met P mi).2.2 ∧ meth.locks = false ∧
    c.exceptionTable.toList.map (fun h => (h.startPc, h.endPc, h.handlerPc, h.catchType)) = hh mi ∧ parseMethodDescriptor (nm mi).desc = some meth.sig := by
  unfold y_w0 at h
  split at h
  · rename_i hn
    obtain ⟨m, hm⟩ := Cond.code_named h
    obtain ⟨meth, c, h1, h2, h3, h4, h5, h6, h7, h8⟩ := Cond.code_spec hm h
    refine ⟨m, meth, c, hm, h1, h2, h3, h4, h5, h6, ?_, h8⟩
    have : c.exceptionTable.toList = [] := by
      have h9 : c.exceptionTable = #[] := Array.isEmpty_iff.mp h7
      rw [h9]
    rw [this, hn]
    rfl
  · obtain ⟨m, meth, c, h1, h2, h3, h4, h5, h6, h7, h8, h9⟩ := Cond.codeWith_spec h
    exact ⟨m, meth, c, h1, h2, h3, h4, h5, h7, h8, h6, h9⟩
theorem y_callee (hSys : y_Sys P nm cd hh Ts X D cl kA tys A ρ) (hgo : y_Snd P nm cd hh Ts X D cl kA A ρ l go) {mi idx kind cm k ci d' : Nat} (hcal : y_cal P mi idx = some (kind, cm, k, ci)) (hk3 : kind ≠ 3 ∧ kind ≠ 5 ∧ kind ≠ 6) {as : List Value} {M : y_M} {res1 : y_R} (hrun : go d' cm (0, lv_args 0 as, [], M) = some res1) (hM : y_le M res1.2)
    (hlen : (lg_sl as).length ≤ (y_met P cm).1) (hts : ∀ w ∈ Ts, w.before args s = true) {r : Nat → Nat} (hr : ∀ k, 1000000 ≤ k → r k = ρ k) (hd : d' + 1 + 8 ≤ R.frames) (hlo : 256 + 64 * (d' + 1) ≤ R.locals) :
    x_Callee l R s (nm cm) (headSpec (y_w0 P nm cd hh cm :: Ts) (y_room d' (res1.2.2.1 - M.2.1) (res1.2.2.2 - M.2.2))) (y_met P cm).1 (y_Pc X D cl kA A r as M) (fun _ st o t => y_end D cl kA A r M.1.length res1 st o t) (res1.2.2.1 - M.2.1) (res1.2.2.2 - M.2.2) A := by
  obtain ⟨S1, S2, S3, S4, S5, S6, S7, S8, S9, S10⟩ := hSys
  obtain ⟨g1, g2, g3, g4, g5⟩ := S5 mi idx kind cm k ci hcal hk3
  have hgood : ∀ w ∈ y_w0 P nm cd hh cm :: Ts, w ∈ Ts := fun w hw => by
    rcases List.mem_cons.mp hw with rfl | hw
    · exact g1
    · exact hw
  refine ⟨?_, ?_, rfl, rfl, by show d' + 8 + 1 ≤ R.frames; omega, by show 8 + ((y_met P cm).1 + 11) + (256 + 64 * d') ≤ R.locals; omega, ?_, ?_, ?_, g4, ?_⟩
  · refine x_metW (cc := cd cm) (maxL := (y_met P cm).1) (ret := (y_met P cm).2.2) g3 ?_ ?_
    · intro a U mk hpre hn
      obtain ⟨m, meth, c, h1, h2, h3, h4, h5, h6, h7, -, -⟩ := y_w0_spec (atoms_spec (ws := y_w0 P nm cd hh cm :: Ts) hpre _ List.mem_cons_self)
      cases hn.symm.trans h1
      exact ⟨meth, c, h2, h3, h4, h5, h6, h7⟩
    · intro p e s m args below meth c s₁ B hml hP
      obtain ⟨rfl, hXs, hw, hA⟩ := hP
      have hts2 := atoms_spec (ws := y_w0 P nm cd hh cm :: Ts) B.pre
      obtain ⟨m', meth', c', h1, h2, h3, h4, h5, h6, h7, h8, -⟩ := y_w0_spec (hts2 _ List.mem_cons_self)
      cases B.named.symm.trans h1
      cases B.method.symm.trans h2
      cases (Stand.of_body B).code.symm.trans h3
      have hHere : y_Here P nm cd hh Ts X A cm p s m (y_ts r as).toArray meth c := ⟨B.exec, B.bytes, hml, findClass_of_methodNamed B.named, fun w hw => hts2 w (List.mem_cons_of_mem _ hw), hXs, B.returns, B.notSynchronized, (name_of_methodNamed B.named B.method).1, h8, hA⟩
      have hl := lv_entry (y_ts r as) (n := (y_met P cm).1) (by rw [y_sl_len]; exact hlen)
      rw [y_tL_args] at hl
      rw [lg_entry_eq]
      have key := hgo d' cm _ res1 hrun p e (y_room d' (res1.2.2.1 - M.2.1) (res1.2.2.2 - M.2.2)) s m (y_ts r as).toArray below meth c hHere (Nat.le_refl _) (Nat.le_refl _) r M.1.length M.2.1 M.2.2 hr (Nat.le_refl _) (Nat.le_refl _) r s.heap [] _ (fun _ _ => rfl) (Nat.le_refl _) (Nat.le_refl _) (Nat.le_refl _) hw va_S.rf hl
      dsimp only at key
      rw [Nat.sub_self, Nat.sub_self] at key
      exact key
  · intro a U g mk h
    obtain ⟨h1, h2, h3, h4⟩ := h
    exact ⟨h1, S4 U (U.calling g mk a) h2 (State.WarmedH.refl U) (Nat.le_refl _) (fun _ _ _ => rfl), h3, h4⟩
  · intro a' U hW
    exact atoms_intro fun w hw => word_at hW (S6 w (hgood w hw)) (hts w (hgood w hw))
  · intro U mk hW hn
    obtain ⟨m, meth, c, h1, h2, h3, h4, h5, -⟩ := y_w0_spec (word_at (a' := args) hW (S6 _ g1) (hts _ g1))
    cases hn.symm.trans h1
    exact ⟨meth, c, h2, h3, h5⟩
  · intro a' U hW
    exact word_at hW (S6 _ g2) (hts _ g2)
  · intro mk methY hn hm
    obtain ⟨m, meth, c, h1, h2, -, -, -, -, -, -, h9⟩ := y_w0_spec (hts _ g1)
    cases hn.symm.trans h1
    cases hm.symm.trans h2
    exact h9
end YSound
end
section
/-! STEPS: one step of a run is sound, when the rest is. -/
section YSteps
variable {p : Program} {l : Launch} {e : Env} {R : Room} {s : State} {m : MethodId} {args : Array Value} {below : List Frame} {meth : Method} {c : Code}
variable {P : y_P} {nm : Nat → MethodName} {cd : Nat → ByteArray} {hh : Nat → List (Nat × Nat × Nat × Nat)} {Ts : List Cond} {X : State → Prop} {D : va_G} {cl : List vw_C} {kA : FieldType → ClassId} {tys : List (ClassId × FieldType)} {A : Nat → Prop} {ρ : Nat → Nat} {go : Nat → Nat → y_F → Option y_R}
theorem y_afterW {H : Heap} {locs : List Loc} {cells slots mc ms pc : Nat} {la : Array Slot} {st0 rest : List Value} {Qa : State → Outcome → State → Prop} {Q : State → Prop} (hr : x_Run p l e R s m args below meth c H locs cells slots mc ms (F0 m pc la st0) rest Qa A) (hS : va_S A s.heap H locs) (hQ : ∀ st o t, Qa st o t → va_F A st t)
    (kret : ∀ (v : Option Value) (st t : State) (locs1 : List Loc), Qa st (.returned v) t → va_S A s.heap t.heap locs1 → W p l e R s m args below meth c t.heap locs1 (cells + mc) (slots + ms) Q (F0 m (pc + 3) la (v.toList ++ rest)))
    (kthr : ∀ (x : Addr) (st t : State) (locs1 : List Loc), Qa st (.threw x) t → va_S A s.heap t.heap locs1 → ∀ T' : State, T'.heap = t.heap → Stand p l e R s m args below meth c T' locs1 (cells + mc) (slots + ms) → ∃ t2, Steps p.tables e below ((T'.setTop (F0 m pc la rest)).pushFrame (.throwing x)) t2 ∧ Q t2) :
    W p l e R s m args below meth c H locs cells slots Q (F0 m pc la st0) := by
  intro T hT X
  obtain ⟨o, st₀, t, T', L, h0, X', hL, e1, e2, hq, hst⟩ := hr T hT X
  obtain ⟨hz, hk⟩ := hQ _ _ _ hq
  rw [h0] at hz hk
  have hS' : va_S A s.heap t.heap (locs ++ L) := ⟨Nat.le_trans hS.1 hz, fun q h1 h2 => by rw [hk q (Nat.lt_of_lt_of_le h1 hS.1) h2]; exact hS.2.1 q h1 h2, fun q hq => by
    rcases List.mem_append.mp hq with h | h
    · exact hS.2.2 q h
    · exact hL q h⟩
  cases o with
  | returned v =>
    obtain ⟨t2, a1, b1⟩ := kret v st₀ t (locs ++ L) hq hS' T' e1 X'
    exact ⟨t2, hst t2 a1, b1⟩
  | threw x =>
    obtain ⟨t2, a1, b1⟩ := kthr x st₀ t (locs ++ L) hq hS' T' e1 X'
    exact ⟨t2, hst t2 a1, b1⟩
theorem y_covers {mi pc : Nat} (hSys : y_Sys P nm cd hh Ts X D cl kA tys A ρ) (hex : c.exceptionTable.toList.map (fun h => (h.startPc, h.endPc, h.handlerPc, h.catchType)) = hh mi) (h : y_han P mi pc = none) : ∀ x ∈ c.exceptionTable.toList, covers x pc = false := by
  obtain ⟨-, -, -, -, -, -, -, S8, -, -⟩ := hSys
  intro x hx
  have h1 := S8 mi pc h (x.startPc, x.endPc, x.handlerPc, x.catchType) (by rw [← hex]; exact List.mem_map_of_mem (f := fun h : ExceptionTableEntry => (h.startPc, h.endPc, h.handlerPc, h.catchType)) hx)
  cases hc : covers x pc with
  | false => rfl
  | true =>
    refine absurd ?_ h1
    simpa [covers] using hc
/-- a note that no handler takes leaves the method -/
theorem y_leave {T : State} {locs : List Loc} {cells slots : Nat} {res : y_R} {r r0 : Nat → Nat} {n0 a : Nat} {g : JFrame} (X' : Stand p l e R s m args below meth c T locs cells slots) (hlocks : meth.locks = false) (hg : g.method = m) (h1 : g.locked = none) (h2 : g.entered = []) (hout : ∀ x ∈ c.exceptionTable.toList, covers x g.pc = false)
    (hE : y_Ext r0 n0 r) (hw : y_World D cl kA A r res.2.1 T.heap) (hS : va_S A s.heap T.heap locs) (hres : res.1 = .inr a) :
    ∃ t2, Steps p.tables e below ((T.setTop g).pushFrame (.throwing (r a))) t2 ∧ y_Z below args s cells slots A (fun _ st o t => y_end D cl kA A r0 n0 res st o t) t2 := by
  obtain ⟨hst, hrun, hend, hW, hsame⟩ := X'.leaveThrown (r a) (g := g) hg h1 h2 hout
  refine ⟨_, hst, .threw (r a), hrun, hend, ⟨r, hE, hw, hS.F rfl, ?_⟩, locs, ⟨hW, hsame⟩, hS.2.2⟩
  rw [hres]
theorem y_take {k : Nat} {st as' : List Value} {b : Nat} {as : List Value} (h : (st.take k).reverse = .ref b :: as) : st = as.reverse ++ .ref b :: st.drop k := by
  have h1 : st.take k = as.reverse ++ [.ref b] := by
    have := congrArg List.reverse h
    rw [List.reverse_reverse] at this
    rw [this, List.reverse_cons]
  calc st = st.take k ++ st.drop k := (List.take_append_drop k st).symm
    _ = _ := by rw [h1, List.append_assoc]; rfl
theorem y_Ext_tr {r0 r r' : Nat → Nat} {n0 n : Nat} (h : y_Ext r0 n0 r) (h' : y_Ext r n r') (hn : n0 ≤ n) : y_Ext r0 n0 r' := fun k hk => by
  rw [h' k (by omega), h k hk]
theorem y_tv_ext {r r' : Nat → Nat} {n : Nat} (h : y_Ext r n r') {v : Value} (hv : y_ok n v = true) : y_tv r' v = y_tv r v := by
  cases v with
  | ref k =>
    simp only [y_ok, Bool.or_eq_true] at hv
    refine congrArg Value.ref (h k ?_)
    rcases hv with hv | hv
    · exact Or.inl (Nat.blt_eq.mp hv)
    · exact Or.inr (Nat.ble_eq.mp hv)
  | retAddr k => exact y_tv_op (h _ (Or.inr (by omega)))
  | _ => rfl
theorem y_ts_ext {r r' : Nat → Nat} {n : Nat} (h : y_Ext r n r') {st : List Value} (hv : y_oks n st = true) : y_ts r' st = y_ts r st := List.map_congr_left fun v hm => y_tv_ext h (List.all_eq_true.mp hv v hm)
theorem y_tL_ext {r r' : Nat → Nat} {n : Nat} (h : y_Ext r n r') {ls : y_L} (hv : y_okL n ls = true) : y_tL r' ls = y_tL r ls := List.map_congr_left fun v hm => by rw [y_tv_ext h (List.all_eq_true.mp hv v hm)]
set_option maxHeartbeats 4000000 in
theorem y_callW (hSys : y_Sys P nm cd hh Ts X D cl kA tys A ρ) (hgo : y_Snd P nm cd hh Ts X D cl kA A ρ l go) (hmon : ∀ {d mi : Nat} {F : y_F} {res : y_R}, go d mi F = some res → y_le F.2.2.2 res.2) {d mi kd idx pc : Nat} {i : Instr} {ls : y_L} {st : List Value} {M : y_M} {res : y_R}
    (hi : (kd = 0 ∧ i = .invokevirtual idx) ∨ (kd = 1 ∧ i = .invokestatic idx) ∨ (kd = 2 ∧ i = .invokespecial idx)) (hdg : decode (cd mi) pc = .ok (i, 3)) (h : y_call P go d mi kd idx pc ls st M = some res)
    (hH : y_Here P nm cd hh Ts X A mi p s m args meth c) (hd : d + 8 ≤ R.frames) (hlo : 256 + 64 * d ≤ R.locals) {r0 : Nat → Nat} {n0 c0 s0 : Nat} (hr0 : ∀ k, 1000000 ≤ k → r0 k = ρ k) (hRc : res.2.2.1 - c0 ≤ R.cells) (hRs : res.2.2.2 - s0 ≤ R.slots) :
    y_Wd p l e R s m args below meth c D cl kA A r0 n0 c0 s0 (y_met P mi).1 (y_Z below args s (res.2.2.1 - c0) (res.2.2.2 - s0) A (fun _ st o t => y_end D cl kA A r0 n0 res st o t)) (pc, ls, st, M) := by
  have hSys' := hSys
  obtain ⟨S1, S2, S3, S4, S5, S6, S7, S8, S9, S10⟩ := hSys'
  have hH' := hH
  obtain ⟨hx, hb, hml, hown, hts, hX, hret, hlocks, hname, hex, hA⟩ := hH'
  obtain ⟨-, -, -, -, hCal⟩ := S2 mi s args hX hts
  unfold y_call at h
  split at h
  case h_1 => cases h
  rename_i kind cm k ci hcal
  obtain ⟨c3, c5, c6, ck0, ck4, ck1, ck2⟩ := hCal idx kind cm k ci hcal
  split at h
  · rename_i hk3
    split at h
    case h_2 => cases h
    rename_i a t
    split at h
    case isFalse => cases h
    rename_i hkd
    rcases hi with ⟨q, rfl⟩ | ⟨q, rfl⟩ | ⟨q, rfl⟩
    · omega
    · omega
    obtain ⟨o1, o2, o3⟩ := c3 hk3
    intro r H locs la hE hn hc hs hw hS hl
    have key := hgo d mi _ res h p e R s m args below meth c hH hd hlo r0 n0 c0 s0 hr0 hRc hRs r H locs la hE hn hc hs hw hS hl
    refine W.objInit (a := r a) (rest := y_ts r t) hx hb hown o1 o2 o3 rfl (by rw [hml]; exact hl.1) rfl hdg (by omega) ?_ key
    have hw1 := y_words_ts r t
    have : 2 * (F0 m pc la (y_ts r t)).monitorRoom + ((y_ts r t).map fun v => v.category).sum ≤ 8 := lv_room (by rw [hw1]; exact hkd.2)
    have e0 : (F0 m pc la (y_ts r (Value.ref a :: t))).monitorRoom = (F0 m pc la (y_ts r t)).monitorRoom := rfl
    show 2 * (F0 m pc la (y_ts r (Value.ref a :: t))).monitorRoom + _ + 12 ≤ R.locals
    rw [e0]
    omega
  · rename_i hk3
    split at h
    · rename_i hk5
      split at h
      case h_2 => cases h
      rename_i y x t
      split at h
      case isFalse => cases h
      rename_i hkd
      rcases hi with ⟨q, rfl⟩ | ⟨q, rfl⟩ | ⟨q, rfl⟩
      · omega
      · obtain ⟨o1, o2, o3, o4⟩ := c5 hk5
        have hm := hmon h
        intro r H locs la hE hn hc hs hw hS hl
        have key := hgo d mi _ res h p e R s m args below meth c hH hd hlo r0 n0 c0 s0 hr0 hRc hRs r H locs la hE hn hc hs hw hS hl
        have hw1 := y_words_ts r t
        have a1 := hm.2.1
        have a2 := hm.2.2
        dsimp only at a1 a2 hc hs
        exact va_mmin_long (x := x) (y := y) hx hb (by rw [hml]; exact hl.1.symm) hown o1 o2 o3 o4 (by omega) (by rw [show (List.map (fun v => v.category) (List.map (y_tv r) t)).sum = y_words t from hw1]; omega) (by dsimp only; omega) (by dsimp only; omega) hdg key
      · omega
    rename_i hk5
    split at h
    · rename_i hk6
      split at h
      case h_2 => cases h
      rename_i t M2 hcp
      split at h
      case isFalse => cases h
      rename_i hkd
      rcases hi with ⟨q, rfl⟩ | ⟨q, rfl⟩ | ⟨q, rfl⟩
      · omega
      · obtain ⟨o1, o2, o3, o4⟩ := c6 hk6
        unfold y_copy at hcp
        split at hcp
        case h_2 => cases hcp
        rename_i n dp a1 sp a0 t'
        split at hcp
        case h_2 => cases hcp
        rename_i n0' f n1 g hM0 hM1'
        split at hcp
        case h_2 => cases hcp
        rename_i hbq
        cases hcp
        simp only [Bool.and_eq_true, Bool.not_eq_true', decide_eq_false_iff_not] at hbq
        obtain ⟨⟨⟨⟨b1, b2⟩, b3⟩, b4⟩, b5⟩ := hbq
        obtain ⟨k1, k2, -⟩ := S3 s args hX hts
        intro r H locs la hE hn hc hs hw hS hl
        have hw1 := y_words_ts r t
        refine va_copyi (sp := sp) (dp := dp) (n := n) (ty := .int) hx hb (by rw [hml]; exact hl.1.symm) hown o1 o2 o3 o4 k1 hw.1 hw.2 hS a0 a1 0 0 (y_ws_at hM0) (y_ws_at hM1') k2 k2 rfl b1 b2 b3 (Nat.ble_eq.mp b4) (Nat.ble_eq.mp b5) (fun _ _ => rfl) (by omega) ?_ hdg (fun H1 locs1 q1 q2 q3 => ?_)
        · rw [show (List.map (fun v => v.category) (List.map (y_tv r) t)).sum = y_words t from hw1]
          have : nativeFrameWords "java/lang/System" "arraycopy" 5 = 7 := by decide +kernel
          omega
        · refine hgo d mi _ res h p e R s m args below meth c hH hd hlo r0 n0 c0 s0 hr0 hRc hRs r H1 locs1 la hE (by simp only [List.length_set]; exact hn) hc hs ?_ q3 hl
          show va_P D cl (y_ws r kA (M.1.set a1 _)) H1 ∧ va_D A (y_ws r kA (M.1.set a1 _))
          rw [← y_ws_set]
          exact ⟨q1, q2⟩
      · omega
    rename_i hk6
    have hk356 : kind ≠ 3 ∧ kind ≠ 5 ∧ kind ≠ 6 := ⟨hk3, hk5, hk6⟩
    split at h
    case isFalse => cases h
    rename_i hg
    obtain ⟨gk, gl, gw, gf, ga, g0, g2, g4⟩ := hg
    obtain ⟨w1, w2, w3, w4⟩ := y_wf_ok gf
    cases d with
    | zero => cases h
    | succ d' =>
    dsimp only at h
    cases hrun : go d' cm (0, lv_args 0 (st.take k).reverse, [], M) with
    | none => rw [hrun] at h; cases h
    | some res1 =>
    rw [hrun] at h
    have hM1 : y_le M res1.2 := hmon hrun
    have hM2 : y_le res1.2 res.2 := by
      obtain ⟨q1, M'⟩ := res1
      cases q1 with
      | inl v => exact hmon h
      | inr a =>
        dsimp only at h
        split at h
        · cases h; exact y_le.rf
        · split at h
          · split at h
            · exact hmon h
            · cases h
          · cases h
    intro r H locs la hE hn hc hs hw hS hl
    dsimp only at hn hc hs hw hl
    have hrρ : ∀ k, 1000000 ≤ k → r k = ρ k := fun k hk => by rw [hE k (Or.inr hk)]; exact hr0 k hk
    have hCallee := y_callee (args := args) (s := s) (R := R) (l := l) hSys hgo hcal hk356 hrun hM1 ga hts hrρ (by omega) (by omega)
    have hPc : ∀ U : State, U.heap = H → s.WarmedH U.vm → y_Pc X D cl kA A r (st.take k).reverse M (y_ts r (st.take k).reverse).toArray U := fun U hU hW => ⟨rfl, S4 s U hX hW (by rw [hU]; exact hS.1) (fun q h1 h2 => by rw [hU]; exact hS.2.1 q h1 h2), by rw [hU]; exact hw, fun q hq => hA q (Nat.le_trans hS.1 (by rw [← hU]; exact hq))⟩
    have hf : (M.2.1 - c0) + (res1.2.2.1 - M.2.1) ≤ R.cells ∧ (M.2.2 - s0) + (res1.2.2.2 - M.2.2) ≤ R.slots := by
      have a1 := hM1.2.1; have a2 := hM1.2.2; have a3 := hM2.2.1; have a4 := hM2.2.2
      constructor <;> omega
    have hroom : 2 * (F0 m pc la (y_ts r st)).monitorRoom + ((y_ts r (st.drop k)).map fun v => v.category).sum ≤ 8 := lv_room (by rw [y_words_ts]; exact gw)
    have hklen : (st.take k).reverse.length = k := by rw [List.length_reverse, List.length_take]; omega
    have hdg' : decode c.code pc = .ok (i, 3) := by rw [hb]; exact hdg
    have hsz : la.size = c.maxLocals := by rw [hml]; exact hl.1
    obtain ⟨u1, u2, u3, u4, u5⟩ := S5 mi idx kind cm k ci hcal hk356
    have hXR : x_Run p l e R s m args below meth c H locs (M.2.1 - c0) (M.2.2 - s0) (res1.2.2.1 - M.2.1) (res1.2.2.2 - M.2.2) (F0 m pc la (y_ts r st)) (y_ts r (st.drop k)) (fun st o t => y_end D cl kA A r M.1.length res1 st o t) A := by
      rcases hi with ⟨rfl, rfl⟩ | ⟨rfl, rfl⟩ | ⟨rfl, rfl⟩
      · -- virtual
        obtain ⟨b, as', has, C, hlk, hin, hse, hds, hrv⟩ : ∃ (b : Nat) (as' : List Value), (st.take k).reverse = .ref b :: as' ∧ ∃ C : String, (Cond.methodLink (nm mi).cls idx (nm cm)).before args s = true ∧ (Cond.instanceMethod (nm cm)).before args s = true ∧ (Cond.selects C (nm cm) (nm cm)).before args s = true ∧ (∀ sig, parseMethodDescriptor (nm cm).desc = some sig → k = sig.parameters.length + 1) ∧ ∃ cell : Cell, H[r b]? = some cell ∧ cell.vm.isStatics = false ∧ s.vm.findClass C = some cell.cls := by
          rcases gk with gk | ⟨gk, -⟩
          · have gr := g0 gk
            obtain ⟨⟨C, T, N, hC, hse⟩, hlk, hin, hds⟩ := ck0 gk
            unfold y_recv at gr
            split at gr
            case h_2 => cases gr
            rename_i b as' has
            split at gr
            case h_2 => cases gr
            rename_i cj fs hMb
            have hcj : ci = cj := Nat.eq_of_beq_eq_true gr
            subst hcj
            exact ⟨b, as', has, C, hlk, hin, hse, hds, va_recv (S3 s args hX hts).1 hw.1 hC (y_ws_at hMb)⟩
          · have gr := g4 gk
            obtain ⟨⟨C, hse, hO⟩, hlk, hin, hds⟩ := ck4 gk
            unfold y_recvO at gr
            split at gr
            case h_2 => cases gr
            rename_i b as' has
            split at gr
            case h_2 => cases gr
            rename_i cj fs hOb
            have hcj : ci = cj := Nat.eq_of_beq_eq_true gr
            subst hcj
            obtain ⟨hb6, hva⟩ := hO b fs hOb
            obtain ⟨cell, z1, z2, z3, -⟩ := hva.kept hS.2.1
            exact ⟨b, as', has, C, hlk, hin, hse, hds, cell, by rw [hrρ b hb6]; exact z1, z2, z3⟩
        have hlenA : as'.length + 1 = k := by rw [has] at hklen; exact hklen
        refine x_runV (b := r b) (As := y_ts r as') (rest := y_ts r (st.drop k)) (C := C) (own := (nm mi).cls) hx hCallee hown hlk hin hse hrv ?_ rfl hsz ?_ ?_ hroom hdg' hf
        · intro U hU hW
          have := hPc U hU hW
          rw [has] at this
          exact ⟨by rw [has]; rfl, this.2⟩
        · intro sig hsig
          have := hds sig hsig
          show (as'.map (y_tv r)).length = _
          rw [List.length_map]
          omega
        · show y_ts r st = _
          have := y_take (as' := as') has
          conv => lhs; rw [this]
          unfold y_ts
          rw [List.map_append, List.map_reverse]
          rfl
      · -- static
        have gk1 : kind = 1 := by rcases gk with gk | ⟨-, gk⟩ <;> omega
        obtain ⟨hhn, hlk, hst, hds⟩ := ck1 gk1
        have hcode : (Cond.code (nm cm) (cd cm) (y_met P cm).1 (y_met P cm).2.2).before args s = true := by
          have := hts _ u1
          unfold y_w0 at this
          rw [hhn] at this
          exact this
        refine x_runS (As := y_ts r (st.take k).reverse) (rest := y_ts r (st.drop k)) (own := (nm mi).cls) hx hCallee hown hlk hst hcode (hts _ u2) hPc rfl hsz ?_ ?_ hroom hdg' hf
        · intro sig hsig
          have := hds sig hsig
          show (((st.take k).reverse).map (y_tv r)).length = _
          rw [List.length_map, hklen]
          exact this
        · show y_ts r st = _
          have h0 : st = (st.take k).reverse.reverse ++ st.drop k := by rw [List.reverse_reverse, List.take_append_drop]
          conv => lhs; rw [h0]
          unfold y_ts
          rw [List.map_append, List.map_reverse]
      · -- special
        have gk1 : kind = 2 := by rcases gk with gk | ⟨-, gk⟩ <;> omega
        obtain ⟨hhn, hrn, hy1, hlk, hin, hds⟩ := ck2 gk1
        have hcode : (Cond.code (nm cm) (cd cm) (y_met P cm).1 none).before args s = true := by
          have := hts _ u1
          unfold y_w0 at this
          rw [hhn, hrn] at this
          exact this
        have gr := g2 gk1
        unfold y_isRef at gr
        split at gr
        case h_2 => cases gr
        rename_i b as' has
        have hlenA : as'.length + 1 = k := by rw [has] at hklen; exact hklen
        refine x_runI (b := r b) (As := y_ts r as') (rest := y_ts r (st.drop k)) (own := (nm mi).cls) hx hCallee hown hy1 hlk hin hcode ?_ rfl hsz ?_ ?_ hroom hdg' hf
        · intro U hU hW
          have := hPc U hU hW
          rw [has] at this
          exact ⟨by rw [has]; rfl, this.2⟩
        · intro sig hsig
          have := hds sig hsig
          show (as'.map (y_tv r)).length = _
          rw [List.length_map]
          omega
        · show y_ts r st = _
          have := y_take (as' := as') has
          conv => lhs; rw [this]
          unfold y_ts
          rw [List.map_append, List.map_reverse]
          rfl
    refine y_afterW hXR hS (fun st o t h => h.choose_spec.2.2.1) ?_ ?_
    · intro v' st1 t locs1 hq hS1
      obtain ⟨r', hE', hw', -, hmt⟩ := hq
      obtain ⟨q1, M'⟩ := res1
      cases q1 with
      | inr a => cases hmt
      | inl v =>
        cases hmt
        dsimp only at h hw' hM1 hM2
        have key := hgo (d' + 1) mi _ res h p e R s m args below meth c hH hd hlo r0 n0 c0 s0 hr0 hRc hRs r' t.heap locs1 la (y_Ext_tr hE hE' hn) (Nat.le_trans hn hM1.1) (Nat.le_trans hc hM1.2.1) (Nat.le_trans hs hM1.2.2) hw' hS1 (by rw [y_tL_ext hE' w3]; exact hl)
        dsimp only at key
        have e1 : (M.2.1 - c0) + (M'.2.1 - M.2.1) = M'.2.1 - c0 := by have := hM1.2.1; omega
        have e2 : (M.2.2 - s0) + (M'.2.2 - M.2.2) = M'.2.2 - s0 := by have := hM1.2.2; omega
        have e3 : y_ts r' (v.toList ++ st.drop k) = (v.map (y_tv r')).toList ++ y_ts r (st.drop k) := by
          rw [← y_ts_ext hE' w2]
          unfold y_ts
          rw [List.map_append]
          cases v <;> rfl
        rw [e3] at key
        rw [e1, e2]
        exact key
    · intro x st1 t locs1 hq hS1 T' hT' X'
      obtain ⟨r', hE', hw', -, hmt⟩ := hq
      obtain ⟨q1, M'⟩ := res1
      cases q1 with
      | inl v => cases hmt
      | inr a =>
        cases hmt
        dsimp only at h hw' hM1 hM2 X'
        have e1 : (M.2.1 - c0) + (M'.2.1 - M.2.1) = M'.2.1 - c0 := by have := hM1.2.1; omega
        have e2 : (M.2.2 - s0) + (M'.2.2 - M.2.2) = M'.2.2 - s0 := by have := hM1.2.2; omega
        rw [e1, e2] at X'
        split at h
        · rename_i hno
          cases h
          exact y_leave (res := (.inr a, M')) (g := F0 m pc la (y_ts r (st.drop k))) X' hlocks rfl rfl rfl (y_covers hSys hex hno) (y_Ext_tr hE hE' hn) (by rw [hT']; exact hw') (by rw [hT']; exact hS1) rfl
        · rename_i hp cE hsome
          split at h
          case h_2 => cases h
          rename_i cj fs hMa
          split at h
          case isFalse => cases h
          rename_i hcE
          subst hcE
          obtain ⟨t1, t2, ty, rst, C, Tt, N, k1, k2, k3, k4, k5, k6⟩ := S9 mi pc hp cE s args hX hts hsome
          obtain ⟨cell, z1, z2, z3⟩ := va_recv (S3 s args hX hts).1 hw'.1 k6 (y_ws_at hMa)
          rw [k1] at hex
          cases htab : c.exceptionTable.toList with
          | nil => rw [htab] at hex; cases hex
          | cons x xs =>
          rw [htab, List.map_cons, List.cons.injEq] at hex
          obtain ⟨hx1, -⟩ := hex
          simp only [Prod.mk.injEq] at hx1
          obtain ⟨x1, x2, x3, x4⟩ := hx1
          obtain ⟨vm', X2, hst⟩ := x_caught X' (r' a) (g := F0 m pc la (y_ts r (st.drop k))) rfl hown htab (by simp [covers]; omega) (by rw [x4]; exact k4) (by rw [x4]; exact k5) z3 (by rw [hT']; exact z1) z2 (va_asg _ _)
          have key := hgo (d' + 1) mi _ res h p e R s m args below meth c hH hd hlo r0 n0 c0 s0 hr0 hRc hRs r' t.heap locs1 la (y_Ext_tr hE hE' hn) (Nat.le_trans hn hM1.1) (Nat.le_trans hc hM1.2.1) (Nat.le_trans hs hM1.2.2) hw' hS1 (by rw [y_tL_ext hE' w3]; exact hl)
          obtain ⟨t3, a3, b3⟩ := key (T'.setVm vm') hT' X2
          refine ⟨t3, hst t3 ?_, b3⟩
          rw [x3]
          exact a3
end YSteps
end
section
/-! WHOLE RUNS: every run of the small machine is a run of the real one. -/
section YWhole
variable {p : Program} {l : Launch} {e : Env} {R : Room} {s : State} {m : MethodId} {args : Array Value} {below : List Frame} {meth : Method} {c : Code}
variable {P : y_P} {nm : Nat → MethodName} {cd : Nat → ByteArray} {hh : Nat → List (Nat × Nat × Nat × Nat)} {Ts : List Cond} {X : State → Prop} {D : va_G} {cl : List vw_C} {kA : FieldType → ClassId} {tys : List (ClassId × FieldType)} {A : Nat → Prop} {ρ : Nat → Nat} {go : Nat → Nat → y_F → Option y_R}
theorem y_OutOk.re {s : State} {args : Array Value} {own : String} {O : Nat → Option y_C} {fld : Nat → Option (Nat × Nat × Nat × FieldType)} {con : Nat → Option Value} {r0 : Nat → Nat} (hr : ∀ k, 1000000 ≤ k → r0 k = ρ k) (h : y_OutOk s args own A ρ O fld con) : y_OutOk s args own A r0 O fld con := by
  obtain ⟨o1, o2, o3, o4⟩ := h
  refine ⟨fun a ci fs idx k fin ty v h1 h2 h3 => ?_, fun a n f ty h1 => ?_, fun idx a h1 => ?_, fun idx v h1 => ?_⟩
  · obtain ⟨g1, g2, o, n, d, ref, g3, g4, g5⟩ := o1 a ci fs idx k fin ty v h1 h2 h3
    refine ⟨g1, g2, o, n, d, ref, ?_, g4, g5⟩
    have e1 : y_tv r0 v = y_tv ρ v := by
      cases v with
      | ref k => exact congrArg Value.ref (hr k (Nat.ble_eq.mp g2))
      | retAddr k => exact y_tv_op (hr _ (by omega))
      | _ => rfl
    rw [e1, hr a g1]
    exact g3
  · obtain ⟨g1, g2⟩ := o2 a n f ty h1
    exact ⟨g1, by rw [hr a g1]; exact g2⟩
  · obtain ⟨g1, tx, g2⟩ := o3 idx a h1
    exact ⟨g1, tx, by rw [hr a g1]; exact g2⟩
  · obtain ⟨g0, C, n, d, ref, g1, g2, g3⟩ := o4 idx v h1
    refine ⟨g0, C, n, d, ref, ?_, g2, g3⟩
    have e1 : y_tv r0 v = y_tv ρ v := by
      cases v with
      | ref k => exact congrArg Value.ref (hr k (Nat.ble_eq.mp g0))
      | retAddr k => exact y_tv_op (hr _ (by omega))
      | _ => rfl
    rw [e1]
    exact g1
theorem y_cellW (hSys : y_Sys P nm cd hh Ts X D cl kA tys A ρ) {mi pc len : Nat} {i : Instr} {ls : y_L} {st : List Value} {M : y_M} {F : y_F} (hdg : decode (cd mi) pc = .ok (i, len)) (hlen : len = y_len i ∨ ∃ d lo hi o, i = .tableswitch d lo hi o) (h : y_cell P mi i pc ls st M = some F)
    (hH : y_Here P nm cd hh Ts X A mi p s m args meth c) {r0 : Nat → Nat} {n0 c0 s0 : Nat} {Q : State → Prop} (hR1 : F.2.2.2.2.1 - c0 ≤ R.cells) (hR2 : F.2.2.2.2.2 - s0 ≤ R.slots)
    (kk : y_Wd p l e R s m args below meth c D cl kA A r0 n0 c0 s0 (y_met P mi).1 Q F) : y_Wd p l e R s m args below meth c D cl kA A r0 n0 c0 s0 (y_met P mi).1 Q (pc, ls, st, M) := by
  obtain ⟨S1, S2, S3, S4, S5, S6, S7, S8, S9, S10⟩ := hSys
  obtain ⟨hx, hb, hml, hown, hts, hX, hret, hlocks, hname, hex, hA⟩ := hH
  obtain ⟨f1, f2, f3, f4, f5⟩ := S2 mi s args hX hts
  obtain ⟨k1, k2, k3, k4, k5, k6, k7⟩ := S3 s args hX hts
  have hlen' : ∀ {j : Instr}, i = j → (∀ d lo hi o, j ≠ .tableswitch d lo hi o) → len = y_len j := fun {j} e1 e2 => by
    rcases hlen with h | ⟨d, lo, hi, o, h⟩
    · rw [h, e1]
    · exact absurd (e1.symm.trans h) (e2 d lo hi o)
  unfold y_cell at h
  split at h
  · have e1 := hlen' rfl (by intros; simp); subst e1; exact y_getfW hx hb hts hown k1 f1 hdg h kk
  · have e1 := hlen' rfl (by intros; simp); subst e1; exact y_putfW hx hb hts hown k1 (fun q => by rw [hname]; exact S7 mi q) f1 hdg h kk
  · have e1 := hlen' rfl (by intros; simp); subst e1; exact y_aldW hx hb k1 k2 k3 (Or.inl ⟨rfl, rfl⟩) hdg h kk
  · have e1 := hlen' rfl (by intros; simp); subst e1; exact y_aldW hx hb k1 k2 k3 (Or.inr ⟨rfl, rfl⟩) hdg h kk
  · have e1 := hlen' rfl (by intros; simp); subst e1; exact y_astW hx hb k1 k2 k3 (Or.inl ⟨rfl, rfl⟩) hdg h kk
  · have e1 := hlen' rfl (by intros; simp); subst e1; exact y_astW hx hb k1 k2 k3 (Or.inr ⟨rfl, rfl⟩) hdg h kk
  · have e1 := hlen' rfl (by intros; simp); subst e1; exact y_alenW hx hb k1 k2 k3 hdg h kk
  · have e1 := hlen' rfl (by intros; simp); subst e1; exact y_newW hx hb hts hown k1 hA f2 hdg h hR1 hR2 kk
  · have e1 := hlen' rfl (by intros; simp); subst e1; exact y_newaW (ty := .int) (at' := .int) hx hb k1 hA rfl k4 k6 hdg h hR1 hR2 kk
  · have e1 := hlen' rfl (by intros; simp); subst e1; exact y_newaW (ty := .byte) (at' := .byte) hx hb k1 hA rfl k5 k7 hdg h hR1 hR2 kk
  · have e1 := hlen' rfl (by intros; simp); subst e1
    split at h
    case h_2 => cases h
    rename_i v hcn
    cases h
    intro r H locs la hE hn hc hs hw hS hl
    exact lv_ldc hx hb hown (f4.1 _ v hcn) hdg (kk r H locs la hE hn hc hs hw hS hl)
  · have e1 := hlen' rfl (by intros; simp); subst e1
    split at h
    case h_2 => cases h
    rename_i v hcn
    cases h
    intro r H locs la hE hn hc hs hw hS hl
    exact lv_ldcw hx hb hown (f4.1 _ v hcn) hdg (kk r H locs la hE hn hc hs hw hS hl)
  · have e1 := hlen' rfl (by intros; simp); subst e1
    split at h
    case h_2 => cases h
    rename_i v hcn
    cases h
    intro r H locs la hE hn hc hs hw hS hl
    exact lv_ldc2 hx hb hown (f4.2 _ v hcn) hdg (kk r H locs la hE hn hc hs hw hS hl)
  · exact y_switchW hx hb hdg h kk
  · rename_i hne
    rcases hlen with e1 | ⟨d, lo, hi, o, e1⟩
    · exact y_pureW hx hb hdg e1 h kk
    · exact absurd e1 (hne d lo hi o)
set_option maxHeartbeats 4000000 in
theorem y_mkEW (hSys : y_Sys P nm cd hh Ts X D cl kA tys A ρ) (htr : ∀ e : Env, l.admits e → e.platform.stackTraces = false) {mi pc len : Nat} {i : Instr} {ls : y_L} {st : List Value} {M : y_M} {F : y_F} (hdg : decode (cd mi) pc = .ok (i, len)) (hlen : len = y_len i ∨ ∃ d lo hi o, i = .tableswitch d lo hi o) (h : y_mkE P mi i pc ls st M = some F)
    (hH : y_Here P nm cd hh Ts X A mi p s m args meth c) (hf : 8 ≤ R.frames) (hlo : 256 ≤ R.locals) {r0 : Nat → Nat} {n0 c0 s0 : Nat} {Q : State → Prop} (hR1 : F.2.2.2.2.1 - c0 ≤ R.cells) (hR2 : F.2.2.2.2.2 - s0 ≤ R.slots)
    (kk : y_Wd p l e R s m args below meth c D cl kA A r0 n0 c0 s0 (y_met P mi).1 Q F) : y_Wd p l e R s m args below meth c D cl kA A r0 n0 c0 s0 (y_met P mi).1 Q (pc, ls, st, M) := by
  obtain ⟨S1, S2, S3, S4, S5, S6, S7, S8, S9, S10⟩ := hSys
  obtain ⟨hx, hb, hml, hown, hts, hX, hret, hlocks, hname, hex, hA⟩ := hH
  unfold y_mkE at h
  split at h
  case h_2 => cases h
  rename_i idx
  split at h
  case h_2 => cases h
  rename_i cE ic l1 ic' l2 hexc hi1 hi2
  split at h
  case h_2 => cases h
  rename_i hbq
  cases h
  simp only [Bool.and_eq_true] at hbq
  obtain ⟨⟨bq1, bq2⟩, bq3⟩ := hbq
  have hic : ic = ic' := Nat.eq_of_beq_eq_true bq1
  subst hic
  obtain ⟨w1, w2, w3, w4⟩ := y_wf_ok bq2
  have hwd : y_words st ≤ 6 := Nat.ble_eq.mp bq3
  have e0 : len = 3 := by
    rcases hlen with h | ⟨_, _, _, _, h⟩
    · exact h
    · cases h
  subst e0
  obtain ⟨g1, g1'⟩ := S1 mi (pc + 3) l1 _ hi1
  obtain ⟨g2, g2'⟩ := S1 mi (pc + 4) l2 _ hi2
  have e1 : l1 = 1 := by
    rcases g1' with h | ⟨_, _, _, _, h⟩
    · exact h
    · cases h
  have e2 : l2 = 3 := by
    rcases g2' with h | ⟨_, _, _, _, h⟩
    · exact h
    · cases h
  subst e1; subst e2
  obtain ⟨C, T, names, k1, k2, k3, k4, k5, ⟨vz, k6⟩, k7, k8⟩ := S10 mi idx cE ic s args hX hts hexc
  have hins : (Cond.instantiable C 6).before args s = true := k5 _ (by simp [Bundle.ownAtoms0])
  obtain ⟨hK, -⟩ := S3 s args hX hts
  have hcl := (hK.1 cE _ k1).2.1
  intro r H locs la hE hn hc hs hw hS hl
  dsimp only at hn hc hs hw hl hR1 hR2 ⊢
  refine W.newcK (n := 6) (cC := D.1 cE) hx hb hown k7 hins k8 rfl hdg (by omega) (by omega) hcl rfl (fun H' kC hkC hbl z1 o1 => ?_)
  refine lv_dup hx hb g1 rfl ?_
  intro T1 hT1 X1
  have hlt : H.size < H'.size := by omega
  obtain ⟨U', L, X2, hLb, hsz, hoth, ⟨ce, hce, hce1, hce2⟩, hst⟩ := x_mk X1 hx (htr e X1.admits) hown k2 k3 k5 k6 hS.2.2 (a := H.size) hcl hkC (by rw [hT1]; exact hbl) hS.1 (g := F0 m (pc + 3 + 1) la (Value.ref H.size :: Value.ref H.size :: y_ts r st)) rfl (by rw [hml]; exact hl.1) (rest := Value.ref H.size :: y_ts r st) rfl (by rw [hb]; exact g2) (by omega) (by
      have hw1 := y_words_ts r st
      have h9 : 2 * (F0 m (pc + 3 + 1) la (Value.ref H.size :: Value.ref H.size :: y_ts r st)).monitorRoom + ((Value.ref H.size :: y_ts r st).map fun v => v.category).sum ≤ 8 := lv_room (by
        show 1 + ((y_ts r st).map fun v => v.category).sum ≤ 8
        rw [hw1]; omega)
      have : 13 * (names.length + 1) + 41 ≤ 93 := by omega
      omega)
  have hkeep : ∀ q : Nat, q < H.size → U'.heap[q]? = H[q]? := fun q hq => by
    rw [hoth q (by omega), hT1]
    exact o1 q hq
  have hPn : va_P D cl (y_ws r kA M.1 ++ [(H.size, .inr (cE, []))]) U'.heap := by
    refine (hw.1.kept (fun k x hx => hkeep x.1 ((hw.1 k x hx).lt))).app (fun k x hx => ?_)
    have hz : k < 1 := (List.getElem?_eq_some_iff.mp hx).1
    rw [show k = 0 by omega] at hx
    cases hx
    exact ⟨_, k1, ce, hce, hce1, hce2, fun j hj => absurd hj (Nat.not_lt_zero j)⟩
  have hDn : va_D A (y_ws r kA M.1 ++ [(H.size, .inr (cE, []))]) := hw.2.push hw.1 rfl (hA _ hS.1)
  have hSn : va_S A s.heap U'.heap (locs ++ L) := ⟨by rw [hsz, hT1]; have := hS.1; omega, fun q h1 h2 => by rw [hkeep q (by have := hS.1; omega)]; exact hS.2.1 q h1 h2, fun q hq => by
    rcases List.mem_append.mp hq with h | h
    · exact hS.2.2 q h
    · rw [hLb q h]; exact hA _ hS.1⟩
  have key := kk (y_up r M.1.length H.size) U'.heap (locs ++ L) la (y_Ext_up hE hn w1) (by simp; omega) (by dsimp only; omega) (by dsimp only; omega) ?_ hSn (by rw [y_tL_up (Nat.le_refl _) w1 w3]; exact hl)
  · dsimp only at key
    have e1 : M.2.1 + 1 - c0 = M.2.1 - c0 + 1 := by omega
    have e2 : M.2.2 + 6 - s0 = M.2.2 - s0 + 6 := by omega
    rw [e1, e2] at key
    have e3 : y_ts (y_up r M.1.length H.size) (Value.ref M.1.length :: st) = Value.ref H.size :: y_ts r st := by
      show Value.ref (y_up r M.1.length H.size M.1.length) :: y_ts (y_up r M.1.length H.size) st = _
      rw [y_ts_up (Nat.le_refl _) w1 w2]
      simp [y_up]
    rw [e3] at key
    obtain ⟨t, a1, b1⟩ := key U' rfl X2
    exact ⟨t, hst t a1, b1⟩
  · show va_P D cl (y_ws (y_up r M.1.length H.size) kA (M.1 ++ [.inr (cE, [])])) U'.heap ∧ va_D A (y_ws (y_up r M.1.length H.size) kA (M.1 ++ [.inr (cE, [])]))
    rw [y_ws_up w1 w4]
    exact ⟨hPn, hDn⟩
set_option maxHeartbeats 4000000 in
theorem y_oneW (htr : ∀ e : Env, l.admits e → e.platform.stackTraces = false) (hSys : y_Sys P nm cd hh Ts X D cl kA tys A ρ) (hgo : y_Snd P nm cd hh Ts X D cl kA A ρ l go) (hmon : ∀ {d mi : Nat} {F : y_F} {res : y_R}, go d mi F = some res → y_le F.2.2.2 res.2) : y_Snd P nm cd hh Ts X D cl kA A ρ l (y_one P go) := by
  intro d mi F res h p e R s m args below meth c hH hd hlo r0 n0 c0 s0 hr0 hRc hRs
  obtain ⟨pc, ls, st, M⟩ := F
  have hSys' := hSys
  obtain ⟨S1, S2, S3, S4, S5, S6, S7, S8, S9, S10⟩ := hSys'
  have hH' := hH
  obtain ⟨hx, hb, hml, hown, hts, hX, hret, hlocks, hname, hex, hA⟩ := hH'
  unfold y_one at h
  dsimp only at h
  split at h
  case h_1 => cases h
  rename_i i len hins
  obtain ⟨hdg, hlen⟩ := S1 mi pc len i hins
  have hlen' : ∀ {j : Instr}, i = j → (∀ d lo hi o, j ≠ .tableswitch d lo hi o) → len = y_len j := fun {j} e1 e2 => by
    rcases hlen with h | ⟨d, lo, hi, o, h⟩
    · rw [h, e1]
    · exact absurd (e1.symm.trans h) (e2 d lo hi o)
  split at h
  · -- ireturn
    have e1 := hlen' rfl (by intros; simp); subst e1
    split at h
    case h_2 => cases h
    rename_i v ty hty
    split at h
    case isFalse => cases h
    rename_i hnar
    cases h
    intro r H locs la hE hn hc hs hw hS hl
    refine y_mono y_Z_of (W.zret (ty := ty) (v := v) hx hb (by rw [hret]; exact hty) ?_ (fun t ht hW => ⟨r, hE, by rw [ht]; exact hw, hS.F ht, rfl⟩) hS.2.2 hdg)
    unfold y_narB at hnar
    split at hnar
    · rfl
    · exact congrArg Value.int (of_decide_eq_true hnar)
    · exact congrArg Value.int (of_decide_eq_true hnar)
    · exact congrArg Value.int (of_decide_eq_true hnar)
    · cases hnar
  · -- lreturn
    have e1 := hlen' rfl (by intros; simp); subst e1
    split at h
    case h_2 => cases h
    rename_i v hty
    cases h
    intro r H locs la hE hn hc hs hw hS hl
    exact y_mono y_Z_of (W.lret (v := v) hx hb (by rw [hret]; exact hty) (fun t ht hW => ⟨r, hE, by rw [ht]; exact hw, hS.F ht, rfl⟩) hS.2.2 hdg)
  · -- return
    have e1 := hlen' rfl (by intros; simp); subst e1
    split at h
    case h_2 => cases h
    rename_i hty
    cases h
    intro r H locs la hE hn hc hs hw hS hl
    exact y_mono y_Z_of (W.vret hx hb (by rw [hret]; exact hty) (fun t ht hW => ⟨r, hE, by rw [ht]; exact hw, hS.F ht, rfl⟩) hS.2.2 hdg)
  · -- athrow
    have e1 := hlen' rfl (by intros; simp); subst e1
    split at h
    case h_2 => cases h
    rename_i a t hno
    cases h
    intro r H locs la hE hn hc hs hw hS hl T hT X'
    obtain ⟨hst, hrun, hend, hW, hsame⟩ := X'.athrowLeaves hx (g := F0 m pc la (y_ts r (Value.ref a :: t))) rfl rfl rfl (y_covers hSys hex hno) (a := r a) (rest := y_ts r t) rfl (by rw [hb]; exact hdg)
    exact ⟨_, hst, .threw (r a), hrun, hend, ⟨r, hE, by show y_World D cl kA A r M.1 T.heap; rw [hT]; exact hw, hS.F hT, rfl⟩, locs, ⟨hW, hsame⟩, hS.2.2⟩
  · have e1 := hlen' rfl (by intros; simp); subst e1
    exact y_callW hSys hgo hmon (Or.inl ⟨rfl, rfl⟩) hdg h hH hd hlo hr0 hRc hRs
  · have e1 := hlen' rfl (by intros; simp); subst e1
    exact y_callW hSys hgo hmon (Or.inr (Or.inl ⟨rfl, rfl⟩)) hdg h hH hd hlo hr0 hRc hRs
  · have e1 := hlen' rfl (by intros; simp); subst e1
    exact y_callW hSys hgo hmon (Or.inr (Or.inr ⟨rfl, rfl⟩)) hdg h hH hd hlo hr0 hRc hRs
  · split at h
    · rename_i F' hF
      have hm := hmon h
      have a1 := hm.2.1
      have a2 := hm.2.2
      exact y_cellW hSys hdg hlen hF hH (by omega) (by omega) (hgo d mi F' res h p e R s m args below meth c hH hd hlo r0 n0 c0 s0 hr0 hRc hRs)
    · split at h
      · rename_i F' hF
        obtain ⟨f1, f2, f3, f4, f5⟩ := S2 mi s args hX hts
        have hsw : len = y_len i := by
          rcases hlen with h | ⟨d, lo, hi, o, h⟩
          · exact h
          · subst h; cases hF
        exact y_outsW hx hb hown (f3.re hr0) hdg hsw hF (hgo d mi F' res h p e R s m args below meth c hH hd hlo r0 n0 c0 s0 hr0 hRc hRs)
      · split at h
        · rename_i F' hF
          have hm := hmon h
          have a1 := hm.2.1
          have a2 := hm.2.2
          exact y_mkEW hSys htr hdg hlen hF hH (by omega) (by omega) (by omega) (by omega) (hgo d mi F' res h p e R s m args below meth c hH hd hlo r0 n0 c0 s0 hr0 hRc hRs)
        · cases h
/-- EVERY RUN OF THE SMALL MACHINE IS A RUN OF THE REAL ONE -/
theorem y_sound (htr : ∀ e : Env, l.admits e → e.platform.stackTraces = false) (hSys : y_Sys P nm cd hh Ts X D cl kA tys A ρ) : ∀ n, y_Snd P nm cd hh Ts X D cl kA A ρ l (y_run P n)
  | 0 => fun _ _ _ _ h => by cases h
  | n + 1 => y_oneW htr hSys (y_sound htr hSys n) (fun h => y_run_M h)
end YWhole
end
section
/-! RUNS: runs without counting steps; how they are put together. -/
section YRuns
variable {P : y_P} {go go' : Nat → Nat → y_F → Option y_R}
theorem y_call_le (hle : ∀ d mi F res, go d mi F = some res → go' d mi F = some res) {d mi kd idx pc : Nat} {ls : y_L} {st : List Value} {M : y_M} {res : y_R} (h : y_call P go d mi kd idx pc ls st M = some res) : y_call P go' d mi kd idx pc ls st M = some res := by
  unfold y_call at h ⊢
  cases hc : y_cal P mi idx with
  | none => rw [hc] at h; cases h
  | some q =>
    obtain ⟨kind, cm, k, ci⟩ := q
    rw [hc] at h
    dsimp only at h ⊢
    by_cases hk : kind = 3
    · rw [if_pos hk] at h ⊢
      split at h
      · split at h
        · rename_i hq; rw [if_pos hq]; exact hle _ _ _ _ h
        · cases h
      · cases h
    · rw [if_neg hk] at h ⊢
      by_cases hk5 : kind = 5
      · rw [if_pos hk5] at h ⊢
        split at h
        · split at h
          · rename_i hq; rw [if_pos hq]; exact hle _ _ _ _ h
          · cases h
        · cases h
      rw [if_neg hk5] at h ⊢
      by_cases hk6 : kind = 6
      · rw [if_pos hk6] at h ⊢
        split at h
        · split at h
          · rename_i hq; rw [if_pos hq]; exact hle _ _ _ _ h
          · cases h
        · cases h
      rw [if_neg hk6] at h ⊢
      split at h
      · rename_i hq
        rw [if_pos hq]
        cases d with
        | zero => cases h
        | succ d' =>
          dsimp only at h ⊢
          cases hr : go d' cm (0, lv_args 0 (st.take k).reverse, [], M) with
          | none => rw [hr] at h; cases h
          | some r1 =>
            rw [hr] at h
            rw [hle _ _ _ _ hr]
            obtain ⟨q1, M'⟩ := r1
            cases q1 with
            | inl v => exact hle _ _ _ _ h
            | inr a =>
              dsimp only at h ⊢
              cases hh : y_han P mi pc with
              | none => rw [hh] at h; exact h
              | some hq2 =>
                obtain ⟨hp, cE⟩ := hq2
                rw [hh] at h
                dsimp only at h ⊢
                split at h
                · split at h
                  · rename_i he; rw [if_pos he]; exact hle _ _ _ _ h
                  · cases h
                · cases h
      · cases h
theorem y_one_le (hle : ∀ d mi F res, go d mi F = some res → go' d mi F = some res) {d mi : Nat} {F : y_F} {res : y_R} (h : y_one P go d mi F = some res) : y_one P go' d mi F = some res := by
  obtain ⟨pc, ls, st, M⟩ := F
  unfold y_one at h ⊢
  dsimp only at h ⊢
  cases hi : y_ins P mi pc with
  | none => rw [hi] at h; cases h
  | some q =>
    obtain ⟨i, len⟩ := q
    rw [hi] at h
    dsimp only at h ⊢
    split at h
    · exact h
    · exact h
    · exact h
    · exact h
    · exact y_call_le hle h
    · exact y_call_le hle h
    · exact y_call_le hle h
    · cases hc : y_cell P mi i pc ls st M with
      | some F' => rw [hc] at h; exact hle _ _ _ _ h
      | none =>
        rw [hc] at h
        dsimp only at h ⊢
        cases ho : y_outs (y_far0 P) (y_fld P mi) (y_con P mi) i pc ls st M with
        | some F' => rw [ho] at h; exact hle _ _ _ _ h
        | none =>
          rw [ho] at h
          dsimp only at h ⊢
          cases hm : y_mkE P mi i pc ls st M with
          | some F' => rw [hm] at h; exact hle _ _ _ _ h
          | none => rw [hm] at h; cases h
theorem y_run_le : ∀ (n k : Nat) {d mi : Nat} {F : y_F} {res : y_R}, y_run P n d mi F = some res → y_run P (n + k) d mi F = some res
  | 0, _, _, _, _, _, h => by cases h
  | n + 1, k, d, mi, F, res, h => by
    rw [y_run_s] at h
    rw [show n + 1 + k = (n + k) + 1 by omega, y_run_s]
    exact y_one_le (fun d mi F res h => y_run_le n k h) h
/-- a run, whatever its steps -/
def y_Runs (P : y_P) (d mi : Nat) (F : y_F) (res : y_R) : Prop := ∃ n, y_run P n d mi F = some res
theorem y_Runs.of {n d mi : Nat} {F : y_F} {res : y_R} (h : y_run P n d mi F = some res) : y_Runs P d mi F res := ⟨n, h⟩
/-- one step that is no call -/
theorem y_Runs.step {d mi : Nat} {F F' : y_F} {res : y_R} (hs : ∀ go, y_one P go d mi F = go d mi F') (h : y_Runs P d mi F' res) : y_Runs P d mi F res := by
  obtain ⟨n, h⟩ := h
  exact ⟨n + 1, by rw [y_run_s, hs]; exact h⟩
/-- a call that returns -/
theorem y_Runs.ret {d mi cm k pc kd idx kind ci len : Nat} {i : Instr} {ls : y_L} {st : List Value} {M M' : y_M} {v : Option Value} {res : y_R} (hins : y_ins P mi pc = some (i, len)) (hi : (kd = 0 ∧ i = .invokevirtual idx) ∨ (kd = 1 ∧ i = .invokestatic idx) ∨ (kd = 2 ∧ i = .invokespecial idx)) (hcal : y_cal P mi idx = some (kind, cm, k, ci)) (hk : ¬ kind = 3) (hk5 : ¬ kind = 5) (hk6 : ¬ kind = 6)
    (hc : (kind = kd ∨ (kind = 4 ∧ kd = 0)) ∧ k ≤ st.length ∧ y_words (st.drop k) ≤ 8 ∧ y_wf ls (st.drop k) M.1 = true ∧ (lg_sl (st.take k).reverse).length ≤ (y_met P cm).1 ∧ (kind = 0 → y_recv ci (st.take k).reverse M.1 = true) ∧ (kind = 2 → y_isRef (st.take k).reverse = true) ∧ (kind = 4 → y_recvO (y_far0 P) ci (st.take k).reverse = true))
    (h1 : y_Runs P d cm (0, lv_args 0 (st.take k).reverse, [], M) (.inl v, M')) (h2 : y_Runs P (d + 1) mi (pc + 3, ls, v.toList ++ st.drop k, M') res) : y_Runs P (d + 1) mi (pc, ls, st, M) res := by
  obtain ⟨n1, h1⟩ := h1
  obtain ⟨n2, h2⟩ := h2
  have g1 := y_run_le n1 n2 h1
  have g2 := y_run_le n2 n1 h2
  rw [Nat.add_comm] at g2
  refine ⟨n1 + n2 + 1, ?_⟩
  rw [y_run_s]
  have hcall : y_call P (y_run P (n1 + n2)) (d + 1) mi kd idx pc ls st M = some res := by
    unfold y_call
    rw [hcal]
    dsimp only
    rw [if_neg hk, if_neg hk5, if_neg hk6, if_pos hc, g1]
    exact g2
  unfold y_one
  dsimp only
  rw [hins]
  dsimp only
  rcases hi with ⟨rfl, rfl⟩ | ⟨rfl, rfl⟩ | ⟨rfl, rfl⟩ <;> exact hcall
end YRuns
end
section
/-! WORLD: what stands outside, as one word of the state; it is kept by every run. -/
section YWorld
/-- nest words: methods' and fields' links of nest mates -/
def y_isN : Cond → Bool
  | .methodLinkNest _ _ _ _ => true
  | .fieldLinkNest _ _ _ _ _ _ => true
  | _ => false
/-- nS texts (lengths, bytes, addresses), where they are named (class, pool number, text, which); statics (class, name, descriptor, value); the script -/
def y_X (D : va_G) (cl : List vw_C) (tys : List (ClassId × FieldType)) (kA : FieldType → ClassId) (A : Nat → Prop) (NW : List Cond) (nS : Nat) (len : List Nat) (byt : List (List Int32)) (adK adV : Nat → Nat) (RS : List (String × Nat × String × Nat)) (ZS : List (String × String × String × Value)) (b L : Nat) (xs : Nat → Int32) (U : State) : Prop :=
  va_K D cl tys U ∧ U.vm.findClass ("[" ++ FieldType.int.toString) = some (kA .int) ∧ U.vm.findClass ("[" ++ FieldType.byte.toString) = some (kA .byte) ∧ (∀ w ∈ NW, y_isN w = true ∧ va_Nw w U) ∧ vk_S nS len byt adK adV A U U.heap ∧
  (∀ q ∈ RS, vk_R q.1 q.2.1 q.2.2.1 (adK q.2.2.2) U) ∧ (∀ q ∈ ZS, va_Z q.1 q.2.1 q.2.2.1 q.2.2.2 A U U.heap) ∧ va_T .int b L (fun j => .int (xs j)) A U U.heap
theorem y_X_kept {D : va_G} {cl : List vw_C} {tys : List (ClassId × FieldType)} {kA : FieldType → ClassId} {A : Nat → Prop} {NW : List Cond} {nS : Nat} {len : List Nat} {byt : List (List Int32)} {adK adV : Nat → Nat} {RS : List (String × Nat × String × Nat)} {ZS : List (String × String × String × Value)} {b L : Nat} {xs : Nat → Int32} {s U : State}
    (h : y_X D cl tys kA A NW nS len byt adK adV RS ZS b L xs s) (hW : s.WarmedH U.vm) (_hz : s.heap.size ≤ U.heap.size) (hq : ∀ q, q < s.heap.size → ¬ A q → U.heap[q]? = s.heap[q]?) : y_X D cl tys kA A NW nS len byt adK adV RS ZS b L xs U := by
  obtain ⟨h1, h2, h3, h4, h5, h6, h7, h8⟩ := h
  have hal := hW.alike
  refine ⟨va_K.moved hal h1, by rw [hal.findClass]; exact h2, by rw [hal.findClass]; exact h3, fun w hw => ⟨(h4 w hw).1, ?_⟩, vk_S.moved hal (h5.kept hq), fun q hm => vk_R.warm hW (h6 q hm), fun q hm => va_Z.moved hal ((h7 q hm).kept hq), va_T.moved hal (h8.kept hq)⟩
  obtain ⟨g1, g2⟩ := h4 w hw
  cases w with
  | methodLinkNest a i x hn => exact va_Nw.warmM hW g2
  | fieldLinkNest a i b n d hn => exact va_Nw.warmF hW g2
  | _ => cases g1
/-- a static whose value is a reference or null says 'isRef' -/
theorem y_statRef {C n d : String} {v : Value} {A : Nat → Prop} {U : State} {args : Array Value} (h : va_Z C n d v A U U.heap) (hv : v = .null ∨ ∃ t, v = .ref t) : (Cond.isRef (.static C n d)).before args U = true := by
  obtain ⟨cf, kf, fi, f, a, cell, z1, z2, z3, z4, z5, z6, z7, z8⟩ := h
  have he : (Term.static C n d).eval args U none [] U = some v := by
    simp [Term.eval, State.fieldNamed?, z1, z2, z4, z5, z6, z7]
  rcases hv with rfl | ⟨t, rfl⟩
  · simp [Cond.before, Cond.holds, Cond.value, he]
  · simp [Cond.before, Cond.holds, Cond.value, he]
end YWorld
end
section
/-! START: a run of the law in the small machine, and the claim's end. -/
section YStart
variable {p : Program} {l : Launch} {e : Env} {R : Room} {s : State} {m : MethodId} {args : Array Value} {below : List Frame} {meth : Method} {c : Code}
variable {P : y_P} {nm : Nat → MethodName} {cd : Nat → ByteArray} {hh : Nat → List (Nat × Nat × Nat × Nat)} {Ts : List Cond} {X : State → Prop} {D : va_G} {cl : List vw_C} {kA : FieldType → ClassId} {tys : List (ClassId × FieldType)} {A : Nat → Prop} {ρ : Nat → Nat}
theorem y_start (htr : ∀ e : Env, l.admits e → e.platform.stackTraces = false) (hSys : y_Sys P nm cd hh Ts X D cl kA tys A ρ) {n d mi : Nat} {as : List Value} {res : y_R} (hrun : y_run P n d mi (0, lv_args 0 as, [], ([], 0, 0)) = some res) (hH : y_Here P nm cd hh Ts X A mi p s m (y_ts ρ as).toArray meth c) (hlen : (lg_sl as).length ≤ (y_met P mi).1) (hd : d + 8 ≤ R.frames) (hlo : 256 + 64 * d ≤ R.locals) (hRc : res.2.2.1 ≤ R.cells) (hRs : res.2.2.2 ≤ R.slots) :
    W p l e R s m (y_ts ρ as).toArray below meth c s.heap [] 0 0 (y_Z below (y_ts ρ as).toArray s res.2.2.1 res.2.2.2 A (fun _ st o t => y_end D cl kA A ρ 0 res st o t)) (entryFrame m (y_ts ρ as).toArray (y_met P mi).1) := by
  have hl := lv_entry (y_ts ρ as) (n := (y_met P mi).1) (by rw [y_sl_len]; exact hlen)
  rw [y_tL_args] at hl
  rw [lg_entry_eq]
  have key := y_sound htr hSys n d mi _ res hrun p e R s m (y_ts ρ as).toArray below meth c hH hd hlo ρ 0 0 0 (fun _ _ => rfl) (by omega) (by omega) ρ s.heap [] _ (fun _ _ => rfl) (Nat.le_refl _) (Nat.le_refl _) (Nat.le_refl _) ⟨fun k q hq => by simp [y_ws] at hq, ⟨fun i j x y hx => by simp [y_ws] at hx, fun k q hq => by simp [y_ws] at hq⟩⟩ va_S.rf hl
  exact key
theorem y_toLaw {r0 : Nat → Nat} {n0 kc ks : Nat} {res : y_R} (hA : ∀ q, A q → s.heap.size ≤ q) (hres : res.1 = .inl (some (.int 1))) (hc : res.2.2.1 ≤ kc) (hs : res.2.2.2 ≤ ks) : ∀ t, y_Z below args s res.2.2.1 res.2.2.2 A (fun _ st o t => y_end D cl kA A r0 n0 res st o t) t →
    ∃ o, t.status = .running ∧ Ended t below o ∧ o = .returned (some (.int 1)) ∧ Framed s o t [] kc ks := by
  intro t h
  obtain ⟨o, h1, h2, ⟨r, -, -, -, h3⟩, L, ⟨h4, h5⟩, h6⟩ := h
  rw [hres] at h3
  have ho : o = .returned (some (.int 1)) := h3
  subst ho
  refine ⟨_, h1, h2, rfl, ⟨_, rfl⟩, h4, h5.weaken (fun y hy hlt => ?_) hc hs⟩
  exact absurd (hA _ (h6 y hy)) (Nat.not_le.mpr hlt)
end YStart
end
section
/-! ADV: several steps of one method that are no calls, at once. -/
section YAdv
/-- calls and ends -/
def y_isCtl : Instr → Bool
  | .ireturn => true
  | .lreturn => true
  | .return_ => true
  | .athrow => true
  | .invokevirtual _ => true
  | .invokestatic _ => true
  | .invokespecial _ => true
  | _ => false
def y_adv1 (P : y_P) (mi : Nat) (F : y_F) : Option y_F := match F with
  | (pc, ls, st, M) => (match y_ins P mi pc with
    | none => none
    | some (i, _) => (match y_isCtl i with
      | true => none
      | false => (match y_cell P mi i pc ls st M with
        | some F' => some F'
        | none => (match y_outs (y_far0 P) (y_fld P mi) (y_con P mi) i pc ls st M with
          | some F' => some F'
          | none => y_mkE P mi i pc ls st M))))
def y_adv (P : y_P) (mi : Nat) : Nat → y_F → Option y_F
  | 0, F => some F
  | n + 1, F => (match y_adv1 P mi F with
    | some F' => y_adv P mi n F'
    | none => none)
variable {P : y_P}
theorem y_one_other {go : Nat → Nat → y_F → Option y_R} {d mi pc len : Nat} {i : Instr} {ls : y_L} {st : List Value} {M : y_M} (hi : y_ins P mi pc = some (i, len)) (hc : y_isCtl i = false) : y_one P go d mi (pc, ls, st, M) = (match y_cell P mi i pc ls st M with
    | some F' => go d mi F'
    | none => (match y_outs (y_far0 P) (y_fld P mi) (y_con P mi) i pc ls st M with
      | some F' => go d mi F'
      | none => (match y_mkE P mi i pc ls st M with
        | some F' => go d mi F'
        | none => none))) := by
  unfold y_one
  dsimp only
  rw [hi]
  dsimp only
  cases i <;> first | (cases hc; done) | rfl
theorem y_adv1_ok {mi : Nat} {F F' : y_F} (h : y_adv1 P mi F = some F') (go : Nat → Nat → y_F → Option y_R) (d : Nat) : y_one P go d mi F = go d mi F' := by
  obtain ⟨pc, ls, st, M⟩ := F
  unfold y_adv1 at h
  dsimp only at h
  cases hi : y_ins P mi pc with
  | none => rw [hi] at h; cases h
  | some q =>
    obtain ⟨i, len⟩ := q
    rw [hi] at h
    dsimp only at h
    cases hctl : y_isCtl i with
    | true => rw [hctl] at h; cases h
    | false =>
      rw [hctl] at h
      dsimp only at h
      rw [y_one_other hi hctl]
      cases hc : y_cell P mi i pc ls st M with
      | some F1 => rw [hc] at h; cases h; rfl
      | none =>
        rw [hc] at h
        dsimp only at h ⊢
        cases ho : y_outs (y_far0 P) (y_fld P mi) (y_con P mi) i pc ls st M with
        | some F1 => rw [ho] at h; cases h; rfl
        | none =>
          rw [ho] at h
          dsimp only at h ⊢
          rw [h]
theorem y_Runs.adv {mi d : Nat} {res : y_R} : ∀ {n : Nat} {F F' : y_F}, y_adv P mi n F = some F' → y_Runs P d mi F' res → y_Runs P d mi F res
  | 0, _, _, h, h2 => by cases h; exact h2
  | n + 1, F, F', h, h2 => by
    unfold y_adv at h
    cases h1 : y_adv1 P mi F with
    | none => rw [h1] at h; cases h
    | some F1 =>
      rw [h1] at h
      exact y_Runs.step (fun go => y_adv1_ok h1 go d) (y_Runs.adv h h2)
end YAdv
end
section
/-! FIND: lookups in lists, with what is found. -/
section ZFind
def z_find {α : Type} : List (Nat × α) → Nat → Option α
  | [], _ => none
  | (k, v) :: t, i => bif Nat.beq k i then some v else z_find t i
theorem z_find_mem {α : Type} {i : Nat} {v : α} : ∀ {l : List (Nat × α)}, z_find l i = some v → (i, v) ∈ l
  | [], h => by cases h
  | (k, w) :: t, h => by
    unfold z_find at h
    cases hk : Nat.beq k i with
    | true =>
      rw [hk] at h
      cases h
      have := Nat.eq_of_beq_eq_true hk
      subst this
      exact List.mem_cons_self
    | false =>
      rw [hk] at h
      exact List.mem_cons_of_mem _ (z_find_mem h)
/-- a list of lists by number, nothing beyond it -/
def z_nth {α : Type} : List (List α) → Nat → List α
  | [], _ => []
  | l :: _, 0 => l
  | _ :: t, n + 1 => z_nth t n
theorem z_nth_mem {α : Type} {x : α} : ∀ {ls : List (List α)} {o : Nat}, x ∈ z_nth ls o → ∃ l, ls[o]? = some l ∧ x ∈ l
  | [], _, h => by cases h
  | l :: _, 0, h => ⟨l, rfl, h⟩
  | _ :: t, n + 1, h => by
    obtain ⟨l, h1, h2⟩ := z_nth_mem (ls := t) (o := n) h
    exact ⟨l, h1, h2⟩
/-- a check of every entry of every list, with the number of its list -/
def z_every {α : Type} (f : Nat → α → Bool) : Nat → List (List α) → Bool
  | _, [] => true
  | o, l :: t => l.all (f o) && z_every f (o + 1) t
theorem z_every_at {α : Type} {f : Nat → α → Bool} {x : α} : ∀ {ls : List (List α)} {o n : Nat}, z_every f o ls = true → x ∈ z_nth ls n → f (o + n) x = true
  | [], _, _, _, h => by cases h
  | l :: t, o, 0, h, hx => by
    unfold z_every at h
    rw [Bool.and_eq_true] at h
    exact List.all_eq_true.mp h.1 x hx
  | l :: t, o, n + 1, h, hx => by
    unfold z_every at h
    rw [Bool.and_eq_true] at h
    have := z_every_at (o := o + 1) (n := n) h.2 hx
    rw [show o + (n + 1) = o + 1 + n by omega]
    exact this
/-- instructions: by a check over all places below a bound -/
def z_sw : Instr → Bool
  | .tableswitch _ _ _ _ => true
  | _ => false
theorem z_sw_ok {i : Instr} (h : z_sw i = true) : ∃ d lo hi o, i = .tableswitch d lo hi o := by
  cases i <;> first | (exact ⟨_, _, _, _, rfl⟩) | (cases h)
def z_chk (cc : ByteArray) (f : Nat → Option (Instr × Nat)) (pc : Nat) : Bool := match f pc with
  | none => true
  | some (i, len) => decide (decode cc pc = .ok (i, len)) && (Nat.beq len (y_len i) || z_sw i)
def z_all (cc : ByteArray) (f : Nat → Option (Instr × Nat)) (n : Nat) : Bool := (List.range n).all (z_chk cc f)
theorem z_all_ok {cc : ByteArray} {f : Nat → Option (Instr × Nat)} {n pc len : Nat} {i : Instr} (h : z_all cc f n = true) (hp : pc < n) (hf : f pc = some (i, len)) : decode cc pc = .ok (i, len) ∧ (len = y_len i ∨ ∃ d lo hi o, i = .tableswitch d lo hi o) := by
  have h1 := List.all_eq_true.mp h pc (List.mem_range.mpr hp)
  unfold z_chk at h1
  rw [hf] at h1
  simp only [Bool.and_eq_true, Bool.or_eq_true, decide_eq_true_eq] at h1
  refine ⟨h1.1, ?_⟩
  rcases h1.2 with h2 | h2
  · exact Or.inl (Nat.eq_of_beq_eq_true h2)
  · exact Or.inr (z_sw_ok h2)
end ZFind
end
section
/-! LIGHT: the small machine once more, without the checks that a fit memory keeps of itself, and over any form of arrays; its runs are runs of the small machine. -/
section QDefs
abbrev q_C (ρ : Type) : Type := (FieldType × Nat × ρ) ⊕ (Nat × List Value)
abbrev q_M (ρ : Type) : Type := List (q_C ρ) × Nat × Nat
abbrev q_R (ρ : Type) : Type := (Option Value ⊕ Nat) × q_M ρ
abbrev q_F (ρ : Type) : Type := Nat × y_L × List Value × q_M ρ
/-- arrays: read, write, all 0, copied -/
abbrev q_K (ρ : Type) : Type := (ρ → Nat → Int32) × (ρ → Nat → Int32 → ρ) × ρ × (ρ → ρ → Nat → Nat → Nat → Option ρ)
variable {ρ : Type}
def q_law (K : q_K ρ) : Prop := (∀ f i v, K.1 (K.2.1 f i v) = upd (K.1 f) i v) ∧ (K.1 K.2.2.1 = fun _ => 0) ∧ (∀ f g a b n h, K.2.2.2 f g a b n = some h → K.1 h = va_cpy (K.1 f) (K.1 g) a b n)
def q_aC (K : q_K ρ) : q_C ρ → y_C
  | .inl (ty, n, f) => .inl (ty, n, K.1 f)
  | .inr x => .inr x
def q_aM (K : q_K ρ) (M : q_M ρ) : y_M := (M.1.map (q_aC K), M.2)
def q_aF (K : q_K ρ) (F : q_F ρ) : y_F := (F.1, F.2.1, F.2.2.1, q_aM K F.2.2.2)
def q_aR (K : q_K ρ) (R : q_R ρ) : y_R := (R.1, q_aM K R.2)
def q_D0 : y_M := ([], 0, 0)
def q_lift (M : q_M ρ) (o : Option y_F) : Option (q_F ρ) := match o with
  | some F => some (F.1, F.2.1, F.2.2.1, M)
  | none => none
def q_getf (fld : Nat → Option (Nat × Nat × Nat × FieldType)) (idx pc : Nat) (ls : y_L) (st : List Value) (M : q_M ρ) : Option (q_F ρ) := match st with
  | .ref a :: t => (match M.1[a]?, fld idx with
    | some (.inr (ci, fs)), some (cj, k, _, _) => (match Nat.beq ci cj, fs[k]? with
      | true, some v => some (pc + 3, ls, v :: t, M)
      | _, _ => none)
    | _, _ => none)
  | _ => none
def q_putf (ini : Bool) (fld : Nat → Option (Nat × Nat × Nat × FieldType)) (idx pc : Nat) (ls : y_L) (st : List Value) (M : q_M ρ) : Option (q_F ρ) := match st with
  | v :: .ref a :: t => (match M.1[a]?, fld idx with
    | some (.inr (ci, fs)), some (cj, k, fin, ty) => (match Nat.beq ci cj && (Nat.beq fin 0 || (Nat.beq fin 1 && ini)) && y_fits ty v && Nat.blt k fs.length with
      | true => some (pc + 3, ls, t, (M.1.set a (.inr (ci, fs.set k v)), M.2))
      | false => none)
    | _, _ => none)
  | _ => none
def q_ald (K : q_K ρ) (ty : FieldType) (pc : Nat) (ls : y_L) (st : List Value) (M : q_M ρ) : Option (q_F ρ) := match st with
  | .int i :: .ref a :: t => (match M.1[a]? with
    | some (.inl (ty', n, f)) => (match y_tyEq ty ty' && y_inB i n with
      | true => some (pc + 1, ls, .int (K.1 f i.toNatClampNeg) :: t, M)
      | false => none)
    | _ => none)
  | _ => none
def q_ast (K : q_K ρ) (ty : FieldType) (pc : Nat) (ls : y_L) (st : List Value) (M : q_M ρ) : Option (q_F ρ) := match st with
  | .int x :: .int i :: .ref a :: t => (match M.1[a]? with
    | some (.inl (ty', n, f)) => (match y_tyEq ty ty' && y_inB i n with
      | true => some (pc + 1, ls, t, (M.1.set a (.inl (ty', n, K.2.1 f i.toNatClampNeg (vp_nar ty x))), M.2))
      | false => none)
    | _ => none)
  | _ => none
def q_alen (pc : Nat) (ls : y_L) (st : List Value) (M : q_M ρ) : Option (q_F ρ) := match st with
  | .ref a :: t => (match M.1[a]? with
    | some (.inl (ty, n, _)) => (match y_tyEq ty ty with
      | true => some (pc + 1, ls, .int (Int32.ofNat n) :: t, M)
      | false => none)
    | _ => none)
  | _ => none
def q_new (ci : Nat) (fs : List Value) (pc : Nat) (ls : y_L) (st : List Value) (M : q_M ρ) : Option (q_F ρ) := match y_oks 0 fs && Nat.blt (M.1.length + 1) 1000000 with
  | true => some (pc + 3, ls, .ref M.1.length :: st, (M.1 ++ [.inr (ci, fs)], M.2.1 + 1, M.2.2 + fs.length))
  | false => none
def q_newa (K : q_K ρ) (ty : FieldType) (pc : Nat) (ls : y_L) (st : List Value) (M : q_M ρ) : Option (q_F ρ) := match st with
  | .int n :: t => (match y_tyEq ty ty && !decide (n < 0) && Nat.ble n.toNatClampNeg 134217728 && Nat.blt (M.1.length + 1) 1000000 with
    | true => some (pc + 2, ls, .ref M.1.length :: t, (M.1 ++ [.inl (ty, n.toNatClampNeg, K.2.2.1)], M.2.1 + 1, M.2.2 + n.toNatClampNeg))
    | false => none)
  | _ => none
def q_mkE (P : y_P) (mi idx pc : Nat) (ls : y_L) (st : List Value) (M : q_M ρ) : Option (q_F ρ) := match y_exc P mi idx, y_ins P mi (pc + 3), y_ins P mi (pc + 4) with
  | some (cE, ic), some (.dup, _), some (.invokespecial ic', _) => (match Nat.beq ic ic' && Nat.ble (y_words st) 6 && Nat.blt (M.1.length + 1) 1000000 with
    | true => some (pc + 7, ls, .ref M.1.length :: st, (M.1 ++ [.inr (cE, [])], M.2.1 + 1, M.2.2 + 6))
    | false => none)
  | _, _, _ => none
def q_out1 : List Value → Bool
  | .ref a :: _ => Nat.ble 1000000 a
  | _ => false
def q_out2 : List Value → Bool
  | _ :: .ref a :: _ => Nat.ble 1000000 a
  | _ => false
def q_outC (P : y_P) (mi : Nat) (i : Instr) (pc : Nat) (ls : y_L) (st : List Value) (M : q_M ρ) : Option (q_F ρ) := match y_outs (y_far0 P) (y_fld P mi) (y_con P mi) i pc ls st q_D0 with
  | some F => (match y_oks 0 (F.2.2.1.take 1) with
    | true => some (F.1, F.2.1, F.2.2.1, M)
    | false => none)
  | none => none
def q_other (K : q_K ρ) (P : y_P) (mi : Nat) (i : Instr) (pc : Nat) (ls : y_L) (st : List Value) (M : q_M ρ) : Option (q_F ρ) := match i with
  | .getfield idx => cond (q_out1 st) (q_outC P mi (.getfield idx) pc ls st M) (q_getf (y_fld P mi) idx pc ls st M)
  | .putfield idx => q_putf (y_met P mi).2.1 (y_fld P mi) idx pc ls st M
  | .iaload => cond (q_out2 st) (q_outC P mi .iaload pc ls st M) (q_ald K .int pc ls st M)
  | .baload => cond (q_out2 st) (q_outC P mi .baload pc ls st M) (q_ald K .byte pc ls st M)
  | .iastore => q_ast K .int pc ls st M
  | .bastore => q_ast K .byte pc ls st M
  | .arraylength => cond (q_out1 st) (q_outC P mi .arraylength pc ls st M) (q_alen pc ls st M)
  | .new idx => (match y_cls P mi idx with
    | some (ci, fs) => q_new ci fs pc ls st M
    | none => q_mkE P mi idx pc ls st M)
  | .newarray .int => q_newa K .int pc ls st M
  | .newarray .byte => q_newa K .byte pc ls st M
  | .ldc idx => (match y_con P mi (2 * idx) with
    | some (.int v) => some (pc + 2, ls, .int v :: st, M)
    | _ => q_outC P mi (.ldc idx) pc ls st M)
  | .ldc_w idx => (match y_con P mi (2 * idx) with
    | some (.int v) => some (pc + 3, ls, .int v :: st, M)
    | _ => none)
  | .ldc2_w idx => (match y_con P mi (2 * idx) with
    | some (.long v) => some (pc + 3, ls, .long v :: st, M)
    | _ => none)
  | .getstatic idx => q_outC P mi (.getstatic idx) pc ls st M
  | .tableswitch d lo hi offs => q_lift M (y_switch d lo hi offs pc ls st q_D0)
  | _ => q_lift M (y_pure (y_met P mi).1 i pc ls st q_D0)
def q_recv (ci : Nat) (as : List Value) (Ms : List (q_C ρ)) : Bool := match as with
  | .ref a :: _ => (match Ms[a]? with
    | some (.inr (cj, _)) => Nat.beq ci cj
    | _ => false)
  | _ => false
def q_copy (K : q_K ρ) (st : List Value) (M : q_M ρ) : Option (List Value × q_M ρ) := match st with
  | .int n :: .int dp :: .ref a1 :: .int sp :: .ref a0 :: t => (match M.1[a0]?, M.1[a1]? with
    | some (.inl (.int, n0, f)), some (.inl (.int, n1, g)) => (match !decide (sp < 0) && !decide (dp < 0) && !decide (n < 0) && Nat.ble (sp.toNatClampNeg + n.toNatClampNeg) n0 && Nat.ble (dp.toNatClampNeg + n.toNatClampNeg) n1 with
      | true => (match K.2.2.2 f g sp.toNatClampNeg dp.toNatClampNeg n.toNatClampNeg with
        | some h => some (t, (M.1.set a1 (.inl (.int, n1, h)), M.2))
        | none => none)
      | false => none)
    | _, _ => none)
  | _ => none
def q_fitB (P : y_P) (kind kd cm k ci : Nat) (st : List Value) (M : q_M ρ) : Bool :=
  (Nat.beq kind kd || (Nat.beq kind 4 && Nat.beq kd 0)) && Nat.ble k st.length && Nat.ble (y_words (st.drop k)) 8 && Nat.ble (lg_sl (st.take k).reverse).length (y_met P cm).1 &&
    (bif Nat.beq kind 0 then q_recv ci (st.take k).reverse M.1 else bif Nat.beq kind 2 then y_isRef (st.take k).reverse else bif Nat.beq kind 4 then y_recvO (y_far0 P) ci (st.take k).reverse else true)
def q_call (K : q_K ρ) (P : y_P) (go : Nat → Nat → q_F ρ → Option (q_R ρ)) (d mi kd idx pc : Nat) (ls : y_L) (st : List Value) (M : q_M ρ) : Option (q_R ρ) := match y_cal P mi idx with
  | none => none
  | some (kind, cm, k, ci) =>
    bif Nat.beq kind 3 then (match st with
      | .ref _ :: t => bif Nat.beq kd 2 && Nat.ble (y_words t) 8 then go d mi (pc + 3, ls, t, M) else none
      | _ => none)
    else bif Nat.beq kind 5 then (match st with
      | .long y :: .long x :: t => bif Nat.beq kd 1 && Nat.ble (y_words t) 8 then go d mi (pc + 3, ls, .long (if y < x then y else x) :: t, M) else none
      | _ => none)
    else bif Nat.beq kind 6 then (match q_copy K st M with
      | some (t, M') => bif Nat.beq kd 1 && Nat.ble (y_words t) 8 then go d mi (pc + 3, ls, t, M') else none
      | none => none)
    else bif q_fitB P kind kd cm k ci st M then (match d with
      | 0 => none
      | d' + 1 => (match go d' cm (0, lv_args 0 (st.take k).reverse, [], M) with
        | none => none
        | some (.inl v, M') => go d mi (pc + 3, ls, v.toList ++ st.drop k, M')
        | some (.inr a, M') => (match y_han P mi pc with
          | none => some (.inr a, M')
          | some (h, cE) => (match M'.1[a]? with
            | some (.inr (cj, _)) => bif Nat.beq cE cj then go d mi (h, ls, [.ref a], M') else none
            | _ => none))))
    else none
def q_one (K : q_K ρ) (P : y_P) (go : Nat → Nat → q_F ρ → Option (q_R ρ)) (d mi : Nat) (F : q_F ρ) : Option (q_R ρ) := match F with
  | (pc, ls, st, M) => (match y_ins P mi pc with
    | none => none
    | some (i, _) => (match i with
      | .ireturn => (match st, (y_met P mi).2.2 with
        | [.int v], some ty => bif y_narB ty v then some (.inl (some (.int v)), M) else none
        | _, _ => none)
      | .lreturn => (match st, (y_met P mi).2.2 with
        | [.long v], some .long => some (.inl (some (.long v)), M)
        | _, _ => none)
      | .return_ => (match st, (y_met P mi).2.2 with
        | [], none => some (.inl none, M)
        | _, _ => none)
      | .athrow => (match st, y_han P mi pc with
        | .ref a :: _, none => some (.inr a, M)
        | _, _ => none)
      | .invokevirtual idx => q_call K P go d mi 0 idx pc ls st M
      | .invokestatic idx => q_call K P go d mi 1 idx pc ls st M
      | .invokespecial idx => q_call K P go d mi 2 idx pc ls st M
      | _ => (match q_other K P mi i pc ls st M with
        | some F' => go d mi F'
        | none => none)))
noncomputable def q_run (K : q_K ρ) (P : y_P) (n : Nat) : Nat → Nat → q_F ρ → Option (q_R ρ) := Nat.rec (motive := fun _ => Nat → Nat → q_F ρ → Option (q_R ρ)) (fun _ _ _ => none) (fun _ go => q_one K P go) n
theorem q_run_s (K : q_K ρ) (P : y_P) (n d mi : Nat) (F : q_F ρ) : q_run K P (n + 1) d mi F = q_one K P (q_run K P n) d mi F := rfl
end QDefs
end
section
/-! LIGHTOK: the light machine's runs are the small machine's. -/
section QFit
theorem y_ok_le {n m : Nat} (h : n ≤ m) {v : Value} (hv : y_ok n v = true) : y_ok m v = true := by
  cases v with
  | ref k =>
    unfold y_ok at hv ⊢
    rw [Bool.or_eq_true] at hv ⊢
    rcases hv with hv | hv
    · exact Or.inl (Nat.blt_eq.mpr (Nat.lt_of_lt_of_le (Nat.blt_eq.mp hv) h))
    · exact Or.inr hv
  | _ => rfl
theorem y_oks_le {n m : Nat} (h : n ≤ m) {st : List Value} (hv : y_oks n st = true) : y_oks m st = true := List.all_eq_true.mpr fun v hm => y_ok_le h (List.all_eq_true.mp hv v hm)
theorem y_okL_le {n m : Nat} (h : n ≤ m) {ls : y_L} (hv : y_okL n ls = true) : y_okL m ls = true := List.all_eq_true.mpr fun v hm => y_ok_le h (List.all_eq_true.mp hv v hm)
theorem y_okC_le {n m : Nat} (h : n ≤ m) {c : y_C} (hc : y_okC n c = true) : y_okC m c = true := by
  rcases c with x | ⟨ci, fs⟩
  · rfl
  · exact y_oks_le h hc
theorem y_wf_mk {ls : y_L} {st : List Value} {Ms : List y_C} (h1 : Ms.length < 1000000) (h2 : y_oks Ms.length st = true) (h3 : y_okL Ms.length ls = true) (h4 : y_okM Ms = true) : y_wf ls st Ms = true := by
  unfold y_wf
  rw [Nat.blt_eq.mpr h1, h2, h3, h4]
  rfl
theorem y_oks_sub {n : Nat} {st st' : List Value} (h : ∀ v ∈ st', v ∈ st) (hv : y_oks n st = true) : y_oks n st' = true := List.all_eq_true.mpr fun v hm => List.all_eq_true.mp hv v (h v hm)
theorem y_oks_cons {n : Nat} {v : Value} {t : List Value} (h1 : y_ok n v = true) (h2 : y_oks n t = true) : y_oks n (v :: t) = true := by
  unfold y_oks at h2 ⊢
  rw [List.all_cons, h1, h2]
  rfl
theorem y_oks_hd {n : Nat} {v : Value} {t : List Value} (h : y_oks n (v :: t) = true) : y_ok n v = true := List.all_eq_true.mp h v List.mem_cons_self
theorem y_oks_tl {n : Nat} {v : Value} {t : List Value} (h : y_oks n (v :: t) = true) : y_oks n t = true := y_oks_sub (fun _ h => List.mem_cons_of_mem _ h) h
theorem y_okL_set {n i : Nat} {ls : y_L} {v : Value} (h : y_okL n ls = true) (hv : y_ok n v = true) : y_okL n (y_set ls i v) = true := by
  refine List.all_eq_true.mpr fun q hq => ?_
  rcases List.mem_cons.mp hq with rfl | hq
  · exact hv
  · exact List.all_eq_true.mp h q (List.mem_filter.mp hq).1
theorem y_okL_set2 {n i : Nat} {ls : y_L} {v : Value} (h : y_okL n ls = true) (hv : y_ok n v = true) : y_okL n (y_set2 ls i v) = true := by
  refine List.all_eq_true.mpr fun q hq => ?_
  rcases List.mem_cons.mp hq with rfl | hq
  · exact hv
  · exact List.all_eq_true.mp h q (List.mem_filter.mp hq).1
theorem y_okL_get {n i : Nat} {ls : y_L} {v : Value} (h : y_okL n ls = true) (hg : y_get ls i = some v) : y_ok n v = true := List.all_eq_true.mp h _ (y_get_mem hg)
theorem y_okM_at {Ms : List y_C} {a : Nat} {c : y_C} (h : y_okM Ms = true) (ha : Ms[a]? = some c) : y_okC Ms.length c = true := List.all_eq_true.mp h c (List.mem_of_getElem? ha)
theorem y_okM_set {Ms : List y_C} {a : Nat} {c : y_C} (h : y_okM Ms = true) (hc : y_okC Ms.length c = true) : y_okM (Ms.set a c) = true := by
  unfold y_okM
  rw [List.length_set]
  refine List.all_eq_true.mpr fun q hq => ?_
  rcases List.mem_or_eq_of_mem_set hq with hq | rfl
  · exact List.all_eq_true.mp h q hq
  · exact hc
theorem y_okM_app {Ms : List y_C} {c : y_C} (h : y_okM Ms = true) (hc : y_okC (Ms.length + 1) c = true) : y_okM (Ms ++ [c]) = true := by
  unfold y_okM
  rw [List.length_append, List.length_singleton]
  refine List.all_eq_true.mpr fun q hq => ?_
  rcases List.mem_append.mp hq with hq | hq
  · exact y_okC_le (Nat.le_succ _) (List.all_eq_true.mp h q hq)
  · rw [List.mem_singleton.mp hq]
    exact hc
theorem y_okL_args {n : Nat} : ∀ {as : List Value} {i : Nat}, y_oks n as = true → y_okL n (lv_args i as) = true
  | [], _, _ => rfl
  | v :: t, i, h => by
    show y_okL n ((i, v) :: lv_args (if v.category = 2 then i + 2 else i + 1) t) = true
    unfold y_okL
    rw [List.all_cons, y_oks_hd h]
    exact y_okL_args (y_oks_tl h)
theorem y_pure_wf {n nL : Nat} {i : Instr} {pc : Nat} {ls : y_L} {st : List Value} {M : y_M} {F : y_F} (h : y_pure nL i pc ls st M = some F) (h1 : y_oks n st = true) (h2 : y_okL n ls = true) : y_oks n F.2.2.1 = true ∧ y_okL n F.2.1 = true := by
  unfold y_pure at h
  split at h <;> first
    | (cases h; done)
    | (cases h; exact ⟨y_oks_cons rfl h1, h2⟩)
    | (obtain ⟨x, hg, rfl⟩ := y_loadI_spec h; exact ⟨y_oks_cons rfl h1, h2⟩)
    | (obtain ⟨x, hg, rfl⟩ := y_loadL_spec h; exact ⟨y_oks_cons rfl h1, h2⟩)
    | (rcases y_loadA_spec h with ⟨x, hg, rfl⟩ | ⟨hg, rfl⟩ <;> exact ⟨y_oks_cons (y_okL_get h2 hg) h1, h2⟩)
    | (obtain ⟨x, r, rfl, hl, rfl⟩ := y_storeI_spec h; exact ⟨y_oks_tl h1, y_okL_set h2 rfl⟩)
    | (obtain ⟨x, r, rfl, hl, rfl⟩ := y_storeL_spec h; exact ⟨y_oks_tl h1, y_okL_set2 h2 rfl⟩)
    | (rcases y_storeA_spec h with ⟨x, r, rfl, hl, rfl⟩ | ⟨r, rfl, hl, rfl⟩ <;> exact ⟨y_oks_tl h1, y_okL_set h2 (y_oks_hd h1)⟩)
    | (obtain ⟨x, hg, hl, rfl⟩ := y_inc_spec h; exact ⟨h1, y_okL_set h2 rfl⟩)
    | (obtain ⟨x, y, r, rfl, rfl⟩ := y_int2_spec h; exact ⟨y_oks_cons rfl (y_oks_tl (y_oks_tl h1)), h2⟩)
    | (obtain ⟨x, r, rfl, rfl⟩ := y_int_spec h; exact ⟨y_oks_cons rfl (y_oks_tl h1), h2⟩)
    | (obtain ⟨x, y, r, rfl, rfl⟩ := y_long2_spec h; exact ⟨y_oks_cons rfl (y_oks_tl (y_oks_tl h1)), h2⟩)
    | (obtain ⟨x, y, r, rfl, rfl⟩ := y_longI_spec h; exact ⟨y_oks_cons rfl (y_oks_tl (y_oks_tl h1)), h2⟩)
    | (obtain ⟨x, r, t, rfl, he, rfl⟩ := y_br1_spec h; exact ⟨y_oks_tl h1, h2⟩)
    | (obtain ⟨x, y, r, t, rfl, he, rfl⟩ := y_br2_spec h; exact ⟨y_oks_tl (y_oks_tl h1), h2⟩)
    | (rcases y_brN_spec h with ⟨r, t, rfl, he, rfl⟩ | ⟨a, r, t, rfl, he, rfl⟩ <;> exact ⟨y_oks_tl h1, h2⟩)
    | (obtain ⟨t, he, rfl⟩ := y_go_spec h; exact ⟨h1, h2⟩)
    | (split at h <;> cases h <;> first | exact ⟨y_oks_cons rfl (y_oks_tl h1), h2⟩ | exact ⟨y_oks_cons rfl (y_oks_tl (y_oks_tl h1)), h2⟩ | exact ⟨y_oks_cons (y_oks_hd h1) h1, h2⟩ | exact ⟨y_oks_tl h1, h2⟩)
theorem y_jump_of {pc : Nat} {off : Int} {t : Nat} (he : (pc : Int) + off = (t : Int)) : y_jump pc off = some t := by
  unfold y_jump
  rw [he]
theorem y_go_of {pc : Nat} {off : Int} {len t : Nat} {b : Bool} {ls : y_L} {st : List Value} {M : y_M} (he : (pc : Int) + off = (t : Int)) : y_go pc off len b ls st M = some (cond b t (pc + len), ls, st, M) := by
  unfold y_go
  rw [y_jump_of he]
theorem y_pure_D {nL : Nat} {i : Instr} {pc : Nat} {ls : y_L} {st : List Value} {M M' : y_M} {F : y_F} (h : y_pure nL i pc ls st M = some F) : y_pure nL i pc ls st M' = some (F.1, F.2.1, F.2.2.1, M') := by
  unfold y_pure at h ⊢
  split at h <;> first
    | (cases h; done)
    | (cases h; rfl)
    | (obtain ⟨x, hg, rfl⟩ := y_loadI_spec h; unfold y_loadI; rw [hg])
    | (obtain ⟨x, hg, rfl⟩ := y_loadL_spec h; unfold y_loadL; rw [hg])
    | (rcases y_loadA_spec h with ⟨x, hg, rfl⟩ | ⟨hg, rfl⟩ <;> (unfold y_loadA; rw [hg]))
    | (obtain ⟨x, r, rfl, hl, rfl⟩ := y_storeI_spec h; unfold y_storeI; exact if_pos hl)
    | (obtain ⟨x, r, rfl, hl, rfl⟩ := y_storeL_spec h; unfold y_storeL; exact if_pos hl)
    | (rcases y_storeA_spec h with ⟨x, r, rfl, hl, rfl⟩ | ⟨r, rfl, hl, rfl⟩ <;> (unfold y_storeA; exact if_pos hl))
    | (obtain ⟨x, hg, hl, rfl⟩ := y_inc_spec h; unfold y_inc; rw [hg]; exact if_pos hl)
    | (obtain ⟨x, y, r, rfl, rfl⟩ := y_int2_spec h; rfl)
    | (obtain ⟨x, r, rfl, rfl⟩ := y_int_spec h; rfl)
    | (obtain ⟨x, y, r, rfl, rfl⟩ := y_long2_spec h; rfl)
    | (obtain ⟨x, y, r, rfl, rfl⟩ := y_longI_spec h; rfl)
    | (obtain ⟨x, r, t, rfl, he, rfl⟩ := y_br1_spec h; exact y_go_of he)
    | (obtain ⟨x, y, r, t, rfl, he, rfl⟩ := y_br2_spec h; exact y_go_of he)
    | (rcases y_brN_spec h with ⟨r, t, rfl, he, rfl⟩ | ⟨a, r, t, rfl, he, rfl⟩ <;> exact y_go_of he)
    | (obtain ⟨t, he, rfl⟩ := y_go_spec h; exact y_go_of he)
    | (split at h <;> first | (cases h; done) | (cases h; rfl))
theorem y_switch_D {d lo hi : Int} {offs : Array Int} {pc : Nat} {ls : y_L} {st : List Value} {M M' : y_M} {F : y_F} (h : y_switch d lo hi offs pc ls st M = some F) : y_switch d lo hi offs pc ls st M' = some (F.1, F.2.1, F.2.2.1, M') ∧ F.2.1 = ls ∧ ∀ v ∈ F.2.2.1, v ∈ st := by
  unfold y_switch at h ⊢
  split at h
  · split at h
    · rename_i hq
      rw [if_pos hq]
      obtain ⟨t, he, rfl⟩ := y_go_spec h
      exact ⟨y_go_of he, rfl, fun _ h => List.mem_cons_of_mem _ h⟩
    · rename_i hq
      rw [if_neg hq]
      split at h
      · rename_i off ho
        obtain ⟨t, he, rfl⟩ := y_go_spec h
        exact ⟨y_go_of he, rfl, fun _ h => List.mem_cons_of_mem _ h⟩
      · cases h
  · cases h
theorem y_outs_D {O : Nat → Option y_C} {fld : Nat → Option (Nat × Nat × Nat × FieldType)} {con : Nat → Option Value} {i : Instr} {pc : Nat} {ls : y_L} {st : List Value} {M M' : y_M} {F : y_F} (h : y_outs O fld con i pc ls st M = some F) : y_outs O fld con i pc ls st M' = some (F.1, F.2.1, F.2.2.1, M') ∧ F.2.1 = ls ∧ ∃ v t, F.2.2.1 = v :: t ∧ ∀ x ∈ t, x ∈ st := by
  unfold y_outs at h ⊢
  split at h
  · split at h
    · split at h
      · split at h
        · cases h
          exact ⟨rfl, rfl, _, _, rfl, fun _ h => List.mem_cons_of_mem _ h⟩
        · cases h
      · cases h
    · cases h
  · split at h
    · split at h
      · split at h
        · cases h
          exact ⟨rfl, rfl, _, _, rfl, fun _ h => List.mem_cons_of_mem _ (List.mem_cons_of_mem _ h)⟩
        · cases h
      · cases h
    · cases h
  · split at h
    · split at h
      · split at h
        · cases h
          exact ⟨rfl, rfl, _, _, rfl, fun _ h => List.mem_cons_of_mem _ (List.mem_cons_of_mem _ h)⟩
        · cases h
      · cases h
    · cases h
  · split at h
    · split at h
      · cases h
        exact ⟨rfl, rfl, _, _, rfl, fun _ h => List.mem_cons_of_mem _ h⟩
      · cases h
        exact ⟨rfl, rfl, _, _, rfl, fun _ h => List.mem_cons_of_mem _ h⟩
      · cases h
    · cases h
  · split at h
    · cases h
      exact ⟨rfl, rfl, _, _, rfl, fun _ h => h⟩
    · cases h
  · split at h
    · cases h
      exact ⟨rfl, rfl, _, _, rfl, fun _ h => h⟩
    · cases h
      exact ⟨rfl, rfl, _, _, rfl, fun _ h => h⟩
    · cases h
  · cases h
end QFit
section QOk
variable {ρ : Type} {K : q_K ρ} {P : y_P}
theorem q_at {M : q_M ρ} {a : Nat} {c : q_C ρ} (h : M.1[a]? = some c) : (q_aM K M).1[a]? = some (q_aC K c) := by
  show (M.1.map (q_aC K))[a]? = _
  rw [List.getElem?_map, h]
  rfl
theorem q_len {M : q_M ρ} : (q_aM K M).1.length = M.1.length := List.length_map _
theorem q_set {M : q_M ρ} {a : Nat} {c : q_C ρ} : (q_aM K (M.1.set a c, M.2)) = ((q_aM K M).1.set a (q_aC K c), (q_aM K M).2) := by
  unfold q_aM
  rw [List.map_set]
theorem q_app {M : q_M ρ} {c : q_C ρ} {x y : Nat} : q_aM K (M.1 ++ [c], x, y) = ((q_aM K M).1 ++ [q_aC K c], x, y) := by
  unfold q_aM
  rw [List.map_append]
  rfl
theorem q_out_none {M : q_M ρ} {a : Nat} (hl : (q_aM K M).1.length < 1000000) (h : Nat.ble 1000000 a = true) : (q_aM K M).1[a]? = none := List.getElem?_eq_none (by have := Nat.ble_eq.mp h; omega)
theorem q_getf_ok {fld : Nat → Option (Nat × Nat × Nat × FieldType)} {idx pc : Nat} {ls : y_L} {st : List Value} {M : q_M ρ} {F : q_F ρ} (hw : y_wf ls st (q_aM K M).1 = true) (h : q_getf fld idx pc ls st M = some F) : y_getf fld idx pc ls st (q_aM K M) = some (q_aF K F) ∧ y_wf F.2.1 F.2.2.1 (q_aM K F.2.2.2).1 = true := by
  obtain ⟨w1, w2, w3, w4⟩ := y_wf_ok hw
  unfold q_getf at h
  split at h
  case h_2 => cases h
  rename_i a t
  split at h
  case h_2 => cases h
  rename_i ci fs cj k fin ty hM hf
  split at h
  case h_2 => cases h
  rename_i v hb hk
  cases h
  have hM' := q_at (K := K) hM
  refine ⟨?_, y_wf_mk w1 (y_oks_cons ?_ (y_oks_tl w2)) w3 w4⟩
  · unfold y_getf
    dsimp only
    rw [hM', hf]
    dsimp only [q_aC]
    rw [hb, hk]
    rfl
  · have := y_okM_at w4 hM'
    exact List.all_eq_true.mp (show y_oks _ fs = true from this) v (List.mem_of_getElem? hk)
theorem q_putf_ok {ini : Bool} {fld : Nat → Option (Nat × Nat × Nat × FieldType)} {idx pc : Nat} {ls : y_L} {st : List Value} {M : q_M ρ} {F : q_F ρ} (hw : y_wf ls st (q_aM K M).1 = true) (h : q_putf ini fld idx pc ls st M = some F) : y_putf ini fld idx pc ls st (q_aM K M) = some (q_aF K F) ∧ y_wf F.2.1 F.2.2.1 (q_aM K F.2.2.2).1 = true := by
  obtain ⟨w1, w2, w3, w4⟩ := y_wf_ok hw
  unfold q_putf at h
  split at h
  case h_2 => cases h
  rename_i v a t
  split at h
  case h_2 => cases h
  rename_i ci fs cj k fin ty hM hf
  split at h
  case h_2 => cases h
  rename_i hb
  cases h
  have hM' := q_at (K := K) hM
  have hC : y_okC (q_aM K M).1.length (.inr (ci, fs.set k v)) = true := by
    have h1 := y_okM_at w4 hM'
    refine List.all_eq_true.mpr fun q hq => ?_
    rcases List.mem_or_eq_of_mem_set hq with hq | rfl
    · exact List.all_eq_true.mp (show y_oks _ fs = true from h1) q hq
    · exact y_oks_hd w2
  refine ⟨?_, ?_⟩
  · unfold y_putf
    dsimp only
    rw [hM', hf]
    dsimp only [q_aC]
    rw [hb]
    dsimp only [q_aF]
    rw [q_set]
    rfl
  · dsimp only
    rw [q_set]
    exact y_wf_mk (by rw [List.length_set]; exact w1) (by rw [List.length_set]; exact y_oks_tl (y_oks_tl w2)) (by rw [List.length_set]; exact w3) (y_okM_set w4 hC)
theorem q_ald_ok {ty : FieldType} {pc : Nat} {ls : y_L} {st : List Value} {M : q_M ρ} {F : q_F ρ} (hw : y_wf ls st (q_aM K M).1 = true) (h : q_ald K ty pc ls st M = some F) : y_ald ty pc ls st (q_aM K M) = some (q_aF K F) ∧ y_wf F.2.1 F.2.2.1 (q_aM K F.2.2.2).1 = true := by
  obtain ⟨w1, w2, w3, w4⟩ := y_wf_ok hw
  unfold q_ald at h
  split at h
  case h_2 => cases h
  rename_i i a t
  split at h
  case h_2 => cases h
  rename_i ty' n f hM
  split at h
  case h_2 => cases h
  rename_i hb
  cases h
  have hM' := q_at (K := K) hM
  refine ⟨?_, y_wf_mk w1 (y_oks_cons rfl (y_oks_tl (y_oks_tl w2))) w3 w4⟩
  unfold y_ald
  dsimp only
  rw [hM']
  dsimp only [q_aC]
  rw [hb]
  rfl
theorem q_ast_ok (hK : q_law K) {ty : FieldType} {pc : Nat} {ls : y_L} {st : List Value} {M : q_M ρ} {F : q_F ρ} (hw : y_wf ls st (q_aM K M).1 = true) (h : q_ast K ty pc ls st M = some F) : y_ast ty pc ls st (q_aM K M) = some (q_aF K F) ∧ y_wf F.2.1 F.2.2.1 (q_aM K F.2.2.2).1 = true := by
  obtain ⟨w1, w2, w3, w4⟩ := y_wf_ok hw
  unfold q_ast at h
  split at h
  case h_2 => cases h
  rename_i x i a t
  split at h
  case h_2 => cases h
  rename_i ty' n f hM
  split at h
  case h_2 => cases h
  rename_i hb
  cases h
  have hM' := q_at (K := K) hM
  refine ⟨?_, ?_⟩
  · unfold y_ast
    dsimp only
    rw [hM']
    dsimp only [q_aC]
    rw [hb]
    dsimp only [q_aF]
    rw [q_set]
    dsimp only [q_aC]
    rw [hK.1]
  · dsimp only
    rw [q_set]
    exact y_wf_mk (by rw [List.length_set]; exact w1) (by rw [List.length_set]; exact y_oks_tl (y_oks_tl (y_oks_tl w2))) (by rw [List.length_set]; exact w3) (y_okM_set w4 rfl)
theorem q_alen_ok {pc : Nat} {ls : y_L} {st : List Value} {M : q_M ρ} {F : q_F ρ} (hw : y_wf ls st (q_aM K M).1 = true) (h : q_alen pc ls st M = some F) : y_alen pc ls st (q_aM K M) = some (q_aF K F) ∧ y_wf F.2.1 F.2.2.1 (q_aM K F.2.2.2).1 = true := by
  obtain ⟨w1, w2, w3, w4⟩ := y_wf_ok hw
  unfold q_alen at h
  split at h
  case h_2 => cases h
  rename_i a t
  split at h
  case h_2 => cases h
  rename_i ty n f hM
  split at h
  case h_2 => cases h
  rename_i hb
  cases h
  have hM' := q_at (K := K) hM
  refine ⟨?_, y_wf_mk w1 (y_oks_cons rfl (y_oks_tl w2)) w3 w4⟩
  unfold y_alen
  dsimp only
  rw [hM']
  dsimp only [q_aC]
  rw [hb]
  rfl
theorem q_new_wf {ls : y_L} {st st' : List Value} {M : q_M ρ} {c : q_C ρ} {x y : Nat} (hw : y_wf ls st (q_aM K M).1 = true) (hs : ∀ v ∈ st', v ∈ st) (hl : Nat.blt (M.1.length + 1) 1000000 = true) (hc : y_okC (M.1.length + 1) (q_aC K c) = true) : y_wf ls (.ref M.1.length :: st') (q_aM K (M.1 ++ [c], x, y)).1 = true := by
  obtain ⟨w1, w2, w3, w4⟩ := y_wf_ok hw
  have hl' := Nat.blt_eq.mp hl
  rw [q_app]
  have e1 : ((q_aM K M).1 ++ [q_aC K c]).length = M.1.length + 1 := by rw [List.length_append, q_len]; rfl
  rw [q_len] at w2 w3
  refine y_wf_mk (by rw [e1]; exact hl') (by
    rw [e1]
    refine y_oks_cons ?_ (y_oks_le (Nat.le_succ _) (y_oks_sub hs w2))
    exact Bool.or_eq_true_iff.mpr (Or.inl (Nat.blt_eq.mpr (Nat.lt_succ_self _)))) (by rw [e1]; exact y_okL_le (Nat.le_succ _) w3) (y_okM_app w4 (by rw [q_len]; exact hc))
theorem q_newa_ok (hK : q_law K) {ty : FieldType} {pc : Nat} {ls : y_L} {st : List Value} {M : q_M ρ} {F : q_F ρ} (hw : y_wf ls st (q_aM K M).1 = true) (h : q_newa K ty pc ls st M = some F) : y_newa ty pc ls st (q_aM K M) = some (q_aF K F) ∧ y_wf F.2.1 F.2.2.1 (q_aM K F.2.2.2).1 = true := by
  obtain ⟨w1, w2, w3, w4⟩ := y_wf_ok hw
  unfold q_newa at h
  split at h
  case h_2 => cases h
  rename_i n t
  split at h
  case h_2 => cases h
  rename_i hb
  cases h
  simp only [Bool.and_eq_true] at hb
  obtain ⟨⟨⟨b1, b2⟩, b3⟩, b4⟩ := hb
  refine ⟨?_, q_new_wf hw (fun _ h => List.mem_cons_of_mem _ h) b4 rfl⟩
  unfold y_newa
  dsimp only
  have hw2 : y_wf ls t (q_aM K M).1 = true := y_wf_mk w1 (y_oks_tl w2) w3 w4
  rw [hw2, b1, b2, b3]
  dsimp only [q_aF, Bool.and_self]
  rw [q_app, q_len]
  dsimp only [q_aC]
  rw [hK.2.1]
  rfl
theorem q_new_ok {cls : Nat → Option (Nat × List Value)} {idx ci : Nat} {fs : List Value} {pc : Nat} {ls : y_L} {st : List Value} {M : q_M ρ} {F : q_F ρ} (hc : cls idx = some (ci, fs)) (hw : y_wf ls st (q_aM K M).1 = true) (h : q_new ci fs pc ls st M = some F) : y_new cls idx pc ls st (q_aM K M) = some (q_aF K F) ∧ y_wf F.2.1 F.2.2.1 (q_aM K F.2.2.2).1 = true := by
  unfold q_new at h
  split at h
  case h_2 => cases h
  rename_i hb
  cases h
  simp only [Bool.and_eq_true] at hb
  obtain ⟨b1, b2⟩ := hb
  refine ⟨?_, q_new_wf hw (fun _ h => h) b2 (y_oks_le (Nat.zero_le _) b1)⟩
  unfold y_new
  rw [hc]
  dsimp only
  rw [hw, b1]
  dsimp only [q_aF, Bool.and_self]
  rw [q_app, q_len]
  rfl
theorem q_mkE_ok {mi idx : Nat} {pc : Nat} {ls : y_L} {st : List Value} {M : q_M ρ} {F : q_F ρ} (hw : y_wf ls st (q_aM K M).1 = true) (h : q_mkE P mi idx pc ls st M = some F) : y_mkE P mi (.new idx) pc ls st (q_aM K M) = some (q_aF K F) ∧ y_wf F.2.1 F.2.2.1 (q_aM K F.2.2.2).1 = true := by
  unfold q_mkE at h
  split at h
  case h_2 => cases h
  rename_i cE ic l1 ic' l2 h1 h2 h3
  split at h
  case h_2 => cases h
  rename_i hb
  cases h
  simp only [Bool.and_eq_true] at hb
  obtain ⟨⟨b1, b2⟩, b3⟩ := hb
  refine ⟨?_, q_new_wf hw (fun _ h => h) b3 rfl⟩
  unfold y_mkE
  dsimp only
  rw [h1, h2, h3]
  dsimp only
  rw [hw, b1, b2]
  dsimp only [q_aF, Bool.and_self]
  rw [q_app, q_len]
  rfl
theorem q_outC_ok {mi : Nat} {i : Instr} {pc : Nat} {ls : y_L} {st : List Value} {M : q_M ρ} {F : q_F ρ} (hw : y_wf ls st (q_aM K M).1 = true) (h : q_outC P mi i pc ls st M = some F) : y_outs (y_far0 P) (y_fld P mi) (y_con P mi) i pc ls st (q_aM K M) = some (q_aF K F) ∧ y_wf F.2.1 F.2.2.1 (q_aM K F.2.2.2).1 = true := by
  obtain ⟨w1, w2, w3, w4⟩ := y_wf_ok hw
  unfold q_outC at h
  split at h
  case h_2 => cases h
  rename_i F0 h0
  split at h
  case h_2 => cases h
  rename_i hb
  cases h
  obtain ⟨g1, g2, v, t, g3, g4⟩ := y_outs_D (M' := q_aM K M) h0
  refine ⟨g1, ?_⟩
  dsimp only
  rw [g3] at hb ⊢
  rw [g2]
  exact y_wf_mk w1 (y_oks_cons (y_ok_le (Nat.zero_le _) (y_oks_hd hb)) (y_oks_sub g4 w2)) w3 w4
theorem q_lift_ok {M : q_M ρ} {o : Option y_F} {F : q_F ρ} (h : q_lift M o = some F) : ∃ F0, o = some F0 ∧ F = (F0.1, F0.2.1, F0.2.2.1, M) := by
  unfold q_lift at h
  split at h
  · cases h
    exact ⟨_, rfl, rfl⟩
  · cases h
theorem q_other_ok (hK : q_law K) {mi : Nat} {i : Instr} {pc : Nat} {ls : y_L} {st : List Value} {M : q_M ρ} {F : q_F ρ} (hw : y_wf ls st (q_aM K M).1 = true) (h : q_other K P mi i pc ls st M = some F) :
    (y_cell P mi i pc ls st (q_aM K M) = some (q_aF K F) ∨ (y_cell P mi i pc ls st (q_aM K M) = none ∧ y_outs (y_far0 P) (y_fld P mi) (y_con P mi) i pc ls st (q_aM K M) = some (q_aF K F)) ∨ (y_cell P mi i pc ls st (q_aM K M) = none ∧ y_outs (y_far0 P) (y_fld P mi) (y_con P mi) i pc ls st (q_aM K M) = none ∧ y_mkE P mi i pc ls st (q_aM K M) = some (q_aF K F))) ∧ y_wf F.2.1 F.2.2.1 (q_aM K F.2.2.2).1 = true := by
  obtain ⟨w1, w2, w3, w4⟩ := y_wf_ok hw
  have ho1 : q_out1 st = true → ∃ a t, st = .ref a :: t ∧ (q_aM K M).1[a]? = none := fun hq => by
    unfold q_out1 at hq
    split at hq
    · exact ⟨_, _, rfl, q_out_none w1 hq⟩
    · cases hq
  have ho2 : q_out2 st = true → ∃ v a t, st = v :: .ref a :: t ∧ (q_aM K M).1[a]? = none := fun hq => by
    unfold q_out2 at hq
    split at hq
    · exact ⟨_, _, _, rfl, q_out_none w1 hq⟩
    · cases hq
  have hald : ∀ ty, q_out2 st = true → y_ald ty pc ls st (q_aM K M) = none := fun ty hq => by
    obtain ⟨v, a, t, rfl, hn⟩ := ho2 hq
    unfold y_ald
    split
    · rename_i i' a' t' he
      cases he
      rw [hn]
    · rfl
  unfold q_other at h
  split at h
  · rename_i idx
    cases hq : q_out1 st with
    | true =>
      rw [hq] at h
      obtain ⟨g1, g2⟩ := q_outC_ok hw h
      obtain ⟨a, t, rfl, hn⟩ := ho1 hq
      refine ⟨Or.inr (Or.inl ⟨?_, g1⟩), g2⟩
      unfold y_cell y_getf
      dsimp only
      rw [hn]
    | false =>
      rw [hq] at h
      obtain ⟨g1, g2⟩ := q_getf_ok hw h
      exact ⟨Or.inl g1, g2⟩
  · obtain ⟨g1, g2⟩ := q_putf_ok hw h
    exact ⟨Or.inl g1, g2⟩
  · cases hq : q_out2 st with
    | true =>
      rw [hq] at h
      obtain ⟨g1, g2⟩ := q_outC_ok hw h
      exact ⟨Or.inr (Or.inl ⟨hald .int hq, g1⟩), g2⟩
    | false =>
      rw [hq] at h
      obtain ⟨g1, g2⟩ := q_ald_ok hw h
      exact ⟨Or.inl g1, g2⟩
  · cases hq : q_out2 st with
    | true =>
      rw [hq] at h
      obtain ⟨g1, g2⟩ := q_outC_ok hw h
      exact ⟨Or.inr (Or.inl ⟨hald .byte hq, g1⟩), g2⟩
    | false =>
      rw [hq] at h
      obtain ⟨g1, g2⟩ := q_ald_ok hw h
      exact ⟨Or.inl g1, g2⟩
  · obtain ⟨g1, g2⟩ := q_ast_ok hK hw h
    exact ⟨Or.inl g1, g2⟩
  · obtain ⟨g1, g2⟩ := q_ast_ok hK hw h
    exact ⟨Or.inl g1, g2⟩
  · cases hq : q_out1 st with
    | true =>
      rw [hq] at h
      obtain ⟨g1, g2⟩ := q_outC_ok hw h
      obtain ⟨a, t, rfl, hn⟩ := ho1 hq
      refine ⟨Or.inr (Or.inl ⟨?_, g1⟩), g2⟩
      unfold y_cell y_alen
      dsimp only
      rw [hn]
    | false =>
      rw [hq] at h
      obtain ⟨g1, g2⟩ := q_alen_ok hw h
      exact ⟨Or.inl g1, g2⟩
  · rename_i idx
    cases hc : y_cls P mi idx with
    | some q =>
      obtain ⟨ci, fs⟩ := q
      rw [hc] at h
      obtain ⟨g1, g2⟩ := q_new_ok hc hw h
      exact ⟨Or.inl g1, g2⟩
    | none =>
      rw [hc] at h
      obtain ⟨g1, g2⟩ := q_mkE_ok hw h
      refine ⟨Or.inr (Or.inr ⟨?_, rfl, g1⟩), g2⟩
      unfold y_cell y_new
      dsimp only
      rw [hc]
  · obtain ⟨g1, g2⟩ := q_newa_ok hK hw h
    exact ⟨Or.inl g1, g2⟩
  · obtain ⟨g1, g2⟩ := q_newa_ok hK hw h
    exact ⟨Or.inl g1, g2⟩
  · rename_i idx
    split at h
    · rename_i v hc
      cases h
      refine ⟨Or.inl ?_, y_wf_mk w1 (y_oks_cons rfl w2) w3 w4⟩
      unfold y_cell
      dsimp only
      rw [hc]
      rfl
    · rename_i hc
      obtain ⟨g1, g2⟩ := q_outC_ok hw h
      refine ⟨Or.inr (Or.inl ⟨?_, g1⟩), g2⟩
      unfold y_cell
      dsimp only
      split
      · rename_i v hc'
        exact absurd hc' (hc v)
      · rfl
  · rename_i idx
    split at h
    · rename_i v hc
      cases h
      refine ⟨Or.inl ?_, y_wf_mk w1 (y_oks_cons rfl w2) w3 w4⟩
      unfold y_cell
      dsimp only
      rw [hc]
      rfl
    · cases h
  · rename_i idx
    split at h
    · rename_i v hc
      cases h
      refine ⟨Or.inl ?_, y_wf_mk w1 (y_oks_cons rfl w2) w3 w4⟩
      unfold y_cell
      dsimp only
      rw [hc]
      rfl
    · cases h
  · obtain ⟨g1, g2⟩ := q_outC_ok hw h
    exact ⟨Or.inr (Or.inl ⟨rfl, g1⟩), g2⟩
  · obtain ⟨F0, h0, rfl⟩ := q_lift_ok h
    obtain ⟨g1, g2, g3⟩ := y_switch_D (M' := q_aM K M) h0
    refine ⟨Or.inl g1, ?_⟩
    dsimp only
    rw [g2]
    exact y_wf_mk w1 (y_oks_sub g3 w2) w3 w4
  · obtain ⟨F0, h0, rfl⟩ := q_lift_ok h
    obtain ⟨g2, g3⟩ := y_pure_wf h0 w2 w3
    refine ⟨Or.inl ?_, y_wf_mk w1 g2 g3 w4⟩
    have g1 := y_pure_D (M' := q_aM K M) h0
    unfold y_cell
    split
    all_goals first
      | exact g1
      | (exfalso; rename_i hne; first | exact hne _ rfl | exact hne rfl | exact hne _ _ _ _ rfl)
      | (cases h0; done)
def q_vals : Option Value ⊕ Nat → List Value
  | .inl v => v.toList
  | .inr a => [.ref a]
theorem q_recv_ok {ci : Nat} {as : List Value} {M : q_M ρ} (h : q_recv ci as M.1 = true) : y_recv ci as (q_aM K M).1 = true := by
  unfold q_recv at h
  split at h
  · split at h
    · rename_i hM
      unfold y_recv
      dsimp only
      rw [q_at hM]
      exact h
    · cases h
  · cases h
theorem q_copy_ok (hK : q_law K) {st t : List Value} {M M' : q_M ρ} {ls : y_L} (hw : y_wf ls st (q_aM K M).1 = true) (h : q_copy K st M = some (t, M')) : y_copy st (q_aM K M) = some (t, q_aM K M') ∧ y_wf ls t (q_aM K M').1 = true := by
  obtain ⟨w1, w2, w3, w4⟩ := y_wf_ok hw
  unfold q_copy at h
  split at h
  case h_2 => cases h
  rename_i n dp a1 sp a0 t'
  split at h
  case h_2 => cases h
  rename_i n0 f n1 g hM0 hM1
  split at h
  case h_2 => cases h
  rename_i hb
  split at h
  case h_2 => cases h
  rename_i hh hcp
  cases h
  refine ⟨?_, ?_⟩
  · unfold y_copy
    dsimp only
    rw [q_at hM0, q_at hM1]
    dsimp only [q_aC]
    rw [hb]
    dsimp only
    rw [q_set]
    dsimp only [q_aC]
    rw [hK.2.2 _ _ _ _ _ _ hcp]
  · rw [q_set]
    exact y_wf_mk (by rw [List.length_set]; exact w1) (by rw [List.length_set]; exact y_oks_sub (fun v hv => by simp [hv]) w2) (by rw [List.length_set]; exact w3) (y_okM_set w4 rfl)
theorem q_call_ok (hK : q_law K) {n d mi kd idx pc : Nat} {ls : y_L} {st : List Value} {M : q_M ρ} {res : q_R ρ}
    (ih : ∀ {d mi : Nat} {F : q_F ρ} {res : q_R ρ}, q_run K P n d mi F = some res → y_wf F.2.1 F.2.2.1 (q_aM K F.2.2.2).1 = true → y_run P n d mi (q_aF K F) = some (q_aR K res) ∧ y_wf [] (q_vals res.1) (q_aM K res.2).1 = true)
    (hw : y_wf ls st (q_aM K M).1 = true) (h : q_call K P (q_run K P n) d mi kd idx pc ls st M = some res) : y_call P (y_run P n) d mi kd idx pc ls st (q_aM K M) = some (q_aR K res) ∧ y_wf [] (q_vals res.1) (q_aM K res.2).1 = true := by
  obtain ⟨w1, w2, w3, w4⟩ := y_wf_ok hw
  unfold q_call at h
  unfold y_call
  cases hc : y_cal P mi idx with
  | none => rw [hc] at h; cases h
  | some q =>
    obtain ⟨kind, cm, k, ci⟩ := q
    rw [hc] at h
    dsimp only at h ⊢
    cases h3 : Nat.beq kind 3 with
    | true =>
      rw [h3, cond_true] at h
      rw [if_pos (Nat.eq_of_beq_eq_true h3)]
      split at h
      case h_2 => cases h
      rename_i a t
      cases hb : (Nat.beq kd 2 && Nat.ble (y_words t) 8) with
      | false => rw [hb] at h; cases h
      | true =>
        rw [hb, cond_true] at h
        rw [Bool.and_eq_true] at hb
        dsimp only
        rw [if_pos ⟨Nat.eq_of_beq_eq_true hb.1, Nat.ble_eq.mp hb.2⟩]
        exact ih h (y_wf_mk w1 (y_oks_tl w2) w3 w4)
    | false =>
      rw [h3, cond_false] at h
      rw [if_neg (Nat.ne_of_beq_eq_false h3)]
      cases h5 : Nat.beq kind 5 with
      | true =>
        rw [h5, cond_true] at h
        rw [if_pos (Nat.eq_of_beq_eq_true h5)]
        split at h
        case h_2 => cases h
        rename_i y x t
        cases hb : (Nat.beq kd 1 && Nat.ble (y_words t) 8) with
        | false => rw [hb] at h; cases h
        | true =>
          rw [hb, cond_true] at h
          rw [Bool.and_eq_true] at hb
          dsimp only
          rw [if_pos ⟨Nat.eq_of_beq_eq_true hb.1, Nat.ble_eq.mp hb.2⟩]
          exact ih h (y_wf_mk w1 (y_oks_cons rfl (y_oks_tl (y_oks_tl w2))) w3 w4)
      | false =>
        rw [h5, cond_false] at h
        rw [if_neg (Nat.ne_of_beq_eq_false h5)]
        cases h6 : Nat.beq kind 6 with
        | true =>
          rw [h6, cond_true] at h
          rw [if_pos (Nat.eq_of_beq_eq_true h6)]
          split at h
          case h_2 => cases h
          rename_i t M' hcp
          obtain ⟨c1, c2⟩ := q_copy_ok hK hw hcp
          rw [c1]
          dsimp only
          cases hb : (Nat.beq kd 1 && Nat.ble (y_words t) 8) with
          | false => rw [hb] at h; cases h
          | true =>
            rw [hb, cond_true] at h
            rw [Bool.and_eq_true] at hb
            rw [if_pos ⟨Nat.eq_of_beq_eq_true hb.1, Nat.ble_eq.mp hb.2⟩]
            exact ih h c2
        | false =>
          rw [h6, cond_false] at h
          rw [if_neg (Nat.ne_of_beq_eq_false h6)]
          cases hf : q_fitB P kind kd cm k ci st M with
          | false => rw [hf] at h; cases h
          | true =>
            rw [hf, cond_true] at h
            have hdr : y_wf ls (st.drop k) (q_aM K M).1 = true := y_wf_mk w1 (y_oks_sub (fun v hv => List.mem_of_mem_drop hv) w2) w3 w4
            unfold q_fitB at hf
            simp only [Bool.and_eq_true, Bool.or_eq_true] at hf
            obtain ⟨⟨⟨⟨f1, f2⟩, f3⟩, f4⟩, f5⟩ := hf
            have hcond : (kind = kd ∨ (kind = 4 ∧ kd = 0)) ∧ k ≤ st.length ∧ y_words (st.drop k) ≤ 8 ∧ y_wf ls (st.drop k) (q_aM K M).1 = true ∧ (lg_sl (st.take k).reverse).length ≤ (y_met P cm).1 ∧ (kind = 0 → y_recv ci (st.take k).reverse (q_aM K M).1 = true) ∧ (kind = 2 → y_isRef (st.take k).reverse = true) ∧ (kind = 4 → y_recvO (y_far0 P) ci (st.take k).reverse = true) := by
              refine ⟨?_, Nat.ble_eq.mp f2, Nat.ble_eq.mp f3, hdr, Nat.ble_eq.mp f4, fun e => ?_, fun e => ?_, fun e => ?_⟩
              · rcases f1 with f1 | f1
                · exact Or.inl (Nat.eq_of_beq_eq_true f1)
                · exact Or.inr ⟨Nat.eq_of_beq_eq_true f1.1, Nat.eq_of_beq_eq_true f1.2⟩
              · subst e; exact q_recv_ok f5
              · subst e; exact f5
              · subst e; exact f5
            rw [if_pos hcond]
            cases d with
            | zero => cases h
            | succ d' =>
              dsimp only at h ⊢
              cases hr : q_run K P n d' cm (0, lv_args 0 (st.take k).reverse, [], M) with
              | none => rw [hr] at h; cases h
              | some r1 =>
                rw [hr] at h
                have hwc : y_wf (lv_args 0 (st.take k).reverse) [] (q_aM K M).1 = true := y_wf_mk w1 rfl (y_okL_args (y_oks_sub (fun v hv => List.mem_of_mem_take (List.mem_reverse.mp hv)) w2)) w4
                obtain ⟨i1, i2⟩ := ih hr hwc
                have hle := y_run_M i1
                obtain ⟨q1, M'⟩ := r1
                have i1' : y_run P n d' cm (0, lv_args 0 (st.take k).reverse, [], q_aM K M) = some (q1, q_aM K M') := i1
                rw [i1']
                obtain ⟨v1, v2, v3, v4⟩ := y_wf_ok i2
                have hll : (q_aM K M).1.length ≤ (q_aM K M').1.length := hle.1
                cases q1 with
                | inl v =>
                  dsimp only at h ⊢
                  refine ih h (y_wf_mk v1 ?_ (y_okL_le hll w3) v4)
                  refine List.all_eq_true.mpr fun x hx => ?_
                  rcases List.mem_append.mp hx with hx | hx
                  · exact List.all_eq_true.mp v2 x hx
                  · exact y_ok_le hll (List.all_eq_true.mp w2 x (List.mem_of_mem_drop hx))
                | inr a =>
                  dsimp only at h ⊢
                  cases hh : y_han P mi pc with
                  | none =>
                    rw [hh] at h
                    cases h
                    exact ⟨rfl, i2⟩
                  | some hq =>
                    obtain ⟨hp, cE⟩ := hq
                    rw [hh] at h
                    dsimp only at h ⊢
                    split at h
                    · rename_i cj fs hM
                      rw [q_at hM]
                      dsimp only [q_aC]
                      cases hb : Nat.beq cE cj with
                      | false => rw [hb] at h; cases h
                      | true =>
                        rw [hb, cond_true] at h
                        rw [if_pos (Nat.eq_of_beq_eq_true hb)]
                        exact ih h (y_wf_mk v1 v2 (y_okL_le hll w3) v4)
                    · cases h
theorem q_one_other {go : Nat → Nat → q_F ρ → Option (q_R ρ)} {d mi pc len : Nat} {i : Instr} {ls : y_L} {st : List Value} {M : q_M ρ} (hi : y_ins P mi pc = some (i, len)) (hc : y_isCtl i = false) : q_one K P go d mi (pc, ls, st, M) = (match q_other K P mi i pc ls st M with
    | some F' => go d mi F'
    | none => none) := by
  unfold q_one
  dsimp only
  rw [hi]
  dsimp only
  cases i <;> first | (cases hc; done) | rfl
theorem q_run_ok (hK : q_law K) : ∀ {n d mi : Nat} {F : q_F ρ} {res : q_R ρ}, q_run K P n d mi F = some res → y_wf F.2.1 F.2.2.1 (q_aM K F.2.2.2).1 = true → y_run P n d mi (q_aF K F) = some (q_aR K res) ∧ y_wf [] (q_vals res.1) (q_aM K res.2).1 = true
  | 0, _, _, _, _, h, _ => by cases h
  | n + 1, d, mi, (pc, ls, st, M), res, h, hw => by
    have ih : ∀ {d mi : Nat} {F : q_F ρ} {res : q_R ρ}, q_run K P n d mi F = some res → y_wf F.2.1 F.2.2.1 (q_aM K F.2.2.2).1 = true → y_run P n d mi (q_aF K F) = some (q_aR K res) ∧ y_wf [] (q_vals res.1) (q_aM K res.2).1 = true := fun h hw => q_run_ok hK h hw
    rw [q_run_s] at h
    rw [y_run_s]
    dsimp only at hw
    obtain ⟨w1, w2, w3, w4⟩ := y_wf_ok hw
    show y_one P (y_run P n) d mi (pc, ls, st, q_aM K M) = _ ∧ _
    cases hi : y_ins P mi pc with
    | none =>
      unfold q_one at h
      dsimp only at h
      rw [hi] at h; cases h
    | some q =>
      obtain ⟨i, len⟩ := q
      cases hctl : y_isCtl i with
      | false =>
        rw [q_one_other hi hctl] at h
        rw [y_one_other hi hctl]
        cases ho : q_other K P mi i pc ls st M with
        | none => rw [ho] at h; cases h
        | some F' =>
          rw [ho] at h
          obtain ⟨g, hw'⟩ := q_other_ok hK hw ho
          obtain ⟨k1, k2⟩ := ih h hw'
          refine ⟨?_, k2⟩
          rcases g with g | ⟨g, g'⟩ | ⟨g, g', g''⟩
          · rw [g]; exact k1
          · rw [g, g']; exact k1
          · rw [g, g', g'']; exact k1
      | true =>
        unfold q_one at h
        unfold y_one
        dsimp only at h ⊢
        rw [hi] at h ⊢
        dsimp only at h ⊢
        cases i <;> first | (cases hctl; done) | skip
        case ireturn =>
          dsimp only at h ⊢
          split at h
          · rename_i v ty hty
            cases hb : y_narB ty v with
            | false => rw [hb] at h; cases h
            | true =>
              rw [hb, cond_true] at h
              cases h
              rw [hty]
              dsimp only
              rw [if_pos hb]
              exact ⟨rfl, y_wf_mk w1 (y_oks_cons rfl rfl) rfl w4⟩
          · cases h
        case lreturn =>
          dsimp only at h ⊢
          split at h
          · rename_i v hty
            cases h
            rw [hty]
            exact ⟨rfl, y_wf_mk w1 (y_oks_cons rfl rfl) rfl w4⟩
          · cases h
        case return_ =>
          dsimp only at h ⊢
          split at h
          · rename_i hty
            cases h
            rw [hty]
            exact ⟨rfl, y_wf_mk w1 rfl rfl w4⟩
          · cases h
        case athrow =>
          dsimp only at h ⊢
          split at h
          · rename_i a t hty
            cases h
            rw [hty]
            exact ⟨rfl, y_wf_mk w1 (y_oks_cons (y_oks_hd w2) rfl) rfl w4⟩
          · cases h
        case invokevirtual idx => exact q_call_ok hK ih hw h
        case invokestatic idx => exact q_call_ok hK ih hw h
        case invokespecial idx => exact q_call_ok hK ih hw h
end QOk
section QForms
/-- arrays as lists of what was written -/
def q_fn : List (Nat × Int32) → Nat → Int32
  | [], _ => 0
  | (k, v) :: t, j => bif Nat.beq j k then v else q_fn t j
def q_put (i : Nat) (v : Int32) : List (Nat × Int32) → List (Nat × Int32)
  | [] => [(i, v)]
  | (k, w) :: t => bif Nat.beq i k then (i, v) :: t else (k, w) :: q_put i v t
theorem q_fn_put {i : Nat} {v : Int32} {j : Nat} : ∀ {l : List (Nat × Int32)}, q_fn (q_put i v l) j = if j = i then v else q_fn l j
  | [] => by
    unfold q_put q_fn
    cases h : Nat.beq j i with
    | true => rw [if_pos (Nat.eq_of_beq_eq_true h)]; rfl
    | false => rw [if_neg (Nat.ne_of_beq_eq_false h)]; rfl
  | (k, w) :: t => by
    unfold q_put
    cases h : Nat.beq i k with
    | true =>
      have e := Nat.eq_of_beq_eq_true h
      subst e
      rw [cond_true]
      show (bif Nat.beq j i then v else q_fn t j) = if j = i then v else (bif Nat.beq j i then w else q_fn t j)
      cases h2 : Nat.beq j i with
      | true => rw [if_pos (Nat.eq_of_beq_eq_true h2)]; rfl
      | false => rw [if_neg (Nat.ne_of_beq_eq_false h2)]; rfl
    | false =>
      rw [cond_false]
      show (bif Nat.beq j k then w else q_fn (q_put i v t) j) = if j = i then v else (bif Nat.beq j k then w else q_fn t j)
      rw [q_fn_put]
      cases h2 : Nat.beq j k with
      | true =>
        have e := Nat.eq_of_beq_eq_true h2
        subst e
        have hne : ¬ j = i := fun q => Nat.ne_of_beq_eq_false h q.symm
        simp only [if_neg hne]
      | false => rfl
def q_KL : q_K (List (Nat × Int32)) := (q_fn, fun l i v => q_put i v l, [], fun _ _ _ _ _ => none)
theorem q_KL_law : q_law q_KL := ⟨fun f i v => by
  funext j
  exact q_fn_put, rfl, fun _ _ _ _ _ _ h => by cases h⟩
/-- arrays as functions -/
def q_KF : q_K (Nat → Int32) := (fun f => f, upd, fun _ => 0, fun f g a b n => some (va_cpy f g a b n))
theorem q_KF_law : q_law q_KF := ⟨fun _ _ _ => rfl, rfl, fun _ _ _ _ _ _ h => by cases h; rfl⟩
end QForms
end
