/-! SYS2: texts, statics, handlers, exceptions; all of y_Sys. -/
def z_strW : List (List (Nat × Nat)) := [[], [], [], [], [], [], [(9, 1926), (15, 1927)], [], [], [], [], [], [], [], [], [], [], [], [], [], [], [], [], []]
def z_RS : List (String × Nat × String × Nat) := [("FlowReader$Names", 43, "skip local in end if then else case of do proc fun thread try catch raise show div mod", 0), ("FlowReader$Names", 51, "true false nil | nomatch failure zero kind arity feature", 1), ("FlowReader$Names", 53, "Wait Needed ByNeed NewCell Exchange NewPort Send", 2), ("FlowReader$Tokens", 119, "(){}[]:=<+-*.|", 3), ("FlowReaderModel", 144, "true false nil | nomatch failure zero kind arity feature ", 4), ("FlowReaderModel", 156, "Wait Needed ByNeed NewCell Exchange NewPort Send ", 5), ("FlowReaderModel", 211, "skip local in end if then else case of do proc fun thread try catch raise show div mod ", 6)]
def z_rsW : List (List (Nat × Nat)) := [[], [], [], [], [(86, 0), (102, 1), (106, 2)], [], [], [], [], [], [(238, 3)], [], [], [], [], [], [], [], [], [], [], [], [(288, 4), (312, 5), (422, 6)], []]
def z_statL : List (String × String × String × Value) := [("java/lang/String", "COMPACT_STRINGS", "Z", .int (1)), ("java/lang/StringUTF16", "$assertionsDisabled", "Z", .int (1)), ("java/lang/StringUTF16", "HI_BYTE_SHIFT", "I", .int (0)), ("java/lang/StringUTF16", "LO_BYTE_SHIFT", "I", .int (8)), ("java/lang/Throwable", "SUPPRESSED_SENTINEL", "Ljava/util/List;", .retAddr 0), ("java/lang/Throwable", "UNASSIGNED_STACK", "[Ljava/lang/StackTraceElement;", .retAddr 1), ("jdk/internal/util/Preconditions", "SIOOBE_FORMATTER", "Ljava/util/function/BiFunction;", .retAddr 2)]
def z_gsW : List (List (Nat × (Nat × Nat))) := [[], [], [], [], [], [], [(77, (0, 238)), (2107, (6, 254))], [], [], [(89, (1, 272)), (119, (2, 274)), (127, (3, 276))], [], [], [], [], [], [], [], [], [(27, (5, 816)), (41, (4, 818))], [], [], [], [], []]
def z_excW : List (List (Nat × Nat)) := [[], [], [], [], [], [], [], [], [], [], [], [], [], [], [(67, 790)], [], [], [], [], [], [], [], [(66, 1357)], []]
noncomputable def z_strC (o : Nat) (e : Nat × (Nat × Nat × Nat × FieldType)) : Bool := match e with
  | (idx, ci, k, _, _) => bif Nat.beq ci 100 then (match z_owns[o]?, z_find (z_nth z_strW o) idx with
    | some own, some w => bif Nat.beq k 0 then decide (z_tb w = some (.fieldLink own idx "java/lang/String" "value" "[B")) else Nat.beq k 1 && decide (z_tb w = some (.fieldLink own idx "java/lang/String" "coder" "B"))
    | _, _ => false) else true
set_option maxRecDepth 1000000 in
theorem z_str_ok : z_every z_strC 0 z_fldL = true := by decide +kernel
noncomputable def z_refC (o : Nat) (e : Nat × Value) : Bool := bif Nat.beq (e.1 % 2) 1 then (match z_owns[o]?, z_find (z_nth z_gsW o) e.1 with
    | some own, some (pos, w) => (match z_statL[pos]? with
      | some (C, n, d, v) => decide (v = e.2) && y_far e.2 && decide (z_tb w = some (.fieldLink own (e.1 / 2) C n d))
      | none => false)
    | _, _ => false) else (match e.2 with
    | .ref a => (match z_owns[o]?, z_find (z_nth z_rsW o) e.1 with
      | some own, some pos => (match z_RS[pos]? with
        | some (own', idx', _, i) => decide (own' = own) && Nat.beq idx' (e.1 / 2) && Nat.beq a (1000000 + 2 * i) && Nat.blt i 7
        | none => false)
      | _, _ => false)
    | _ => true)
set_option maxRecDepth 1000000 in
theorem z_ref_ok : z_every z_refC 0 z_conL = true := by decide +kernel
def z_rho (adK adV : Nat → Nat) (b : Nat) (op : Nat → Nat) (k : Nat) : Nat := bif Nat.blt k 1900000 then (bif Nat.beq (k % 2) 0 then adK ((k - 1000000) / 2) else adV ((k - 1000000) / 2)) else bif Nat.beq k 1900000 then b else op (k - 2000000)
def z_ZS (ρ : Nat → Nat) : List (String × String × String × Value) := z_statL.map (fun q => (q.1, q.2.1, q.2.2.1, y_tv ρ q.2.2.2))
def z_face : Cond → Bool
  | .declares _ => true
  | .castable _ _ => true
  | _ => false
def z_layP (A : Nat → Prop) (C n d : String) (U : State) : Prop := ∃ c k i f a cell, U.vm.findClass C = some c ∧ U.fieldFound? C n d = some (c, k, i, f) ∧ f.isStatic = true ∧ k.statics = some a ∧ U.heap[a]? = some cell ∧ cell.vm.isStatics = true ∧ cell.cls = c ∧ f.slot < cell.slots.size ∧ k.staticTypes[f.slot]? = some f.type ∧ ¬ A a
theorem z_layP_kept {A : Nat → Prop} {C n d : String} {s U : State} (hal : s.vm.Alike U.vm) (hq : ∀ q, q < s.heap.size → ¬ A q → U.heap[q]? = s.heap[q]?) (h : z_layP A C n d s) : z_layP A C n d U := by
  obtain ⟨c, k, i, f, a, cell, hc, hi, hst, ha, hcell, hs, hcls, hlt, hty, hna⟩ := h
  obtain ⟨k', hi', hek⟩ := State.fieldFound?_setVm hal hi
  exact ⟨c, k', i, f, a, cell, by rw [hal.findClass]; exact hc, hi', hst, by rw [hek]; exact ha, by rw [hq a (Array.getElem?_eq_some_iff.mp hcell).1 hna]; exact hcell, hs, hcls, hlt, by rw [hek]; exact hty, hna⟩
theorem z_layP_word {A : Nat → Prop} {C n d : String} {s : State} {args : Array Value} (h : z_layP A C n d s) : (Cond.laysStatic C n d).before args s = true := by
  obtain ⟨c, k, i, f, a, cell, hc, hi, hst, ha, hcell, hs, hcls, hlt, hty, -⟩ := h
  exact Cond.laysStatic_of hc hi hst ha hcell hs hcls hlt hty
theorem z_layP_of {A : Nat → Prop} {C n d : String} {s : State} {args : Array Value} (hA : ∀ a : Nat, a < s.heap.size → ¬ A a) (h : (Cond.laysStatic C n d).before args s = true) : z_layP A C n d s := by
  obtain ⟨c, k, i, f, a, cell, hc, hi, hst, ha, hcell, hs, hcls, hlt, hty⟩ := Cond.laysStatic_spec h
  exact ⟨c, k, i, f, a, cell, hc, hi, hst, ha, hcell, hs, hcls, hlt, hty, hA a (Array.getElem?_eq_some_iff.mp hcell).1⟩
def z_X (D : va_G) (kA : FieldType → ClassId) (A : Nat → Prop) (adK adV : Nat → Nat) (b : Nat) (op : Nat → Nat) (L : Nat) (xs : Nat → Int32) (U : State) : Prop := y_X D z_cl [(kA .int, .int), (kA .byte, .byte)] kA A (lw_tbl.filter y_isN) 7 z_len z_byt adK adV z_RS (z_ZS (z_rho adK adV b op)) b L xs U ∧ (∀ w ∈ lw_tbl, z_face w = true → w.before #[] U = true) ∧ z_layP A Bundle.tN "UNASSIGNED_STACK" Bundle.steD U ∧ z_layP A Bundle.tN "SUPPRESSED_SENTINEL" Bundle.listD U
section ZOut
variable {D : va_G} {kA : FieldType → ClassId} {A : Nat → Prop} {adK adV : Nat → Nat} {b : Nat} {op : Nat → Nat} {L : Nat} {xs : Nat → Int32} {s : State} {args : Array Value}
theorem z_rho_K {a : Nat} (h1 : 1000000 ≤ a) (h2 : a < 1900000) (h3 : a % 2 = 0) : z_rho adK adV b op a = adK ((a - 1000000) / 2) := by
  unfold z_rho
  rw [Nat.blt_eq.mpr h2, h3]
  rfl
theorem z_rho_V {a : Nat} (h1 : 1000000 ≤ a) (h2 : a < 1900000) (h3 : a % 2 = 1) : z_rho adK adV b op a = adV ((a - 1000000) / 2) := by
  unfold z_rho
  rw [Nat.blt_eq.mpr h2, h3]
  rfl
theorem z_far_spec {a : Nat} {c : y_C} (h : y_far0 (z_P L xs) a = some c) : (a = 1900000 ∧ c = .inl (.int, L, xs)) ∨ (1000000 ≤ a ∧ a < 1000014 ∧ ((a % 2 = 0 ∧ c = .inr (100, [.ref (a + 1), .int 0])) ∨ (a % 2 = 1 ∧ c = .inl (.byte, z_len.getD ((a - 1000000) / 2) 0, fun j => (z_byt.getD ((a - 1000000) / 2) []).getD j 0)))) := by
  have h' : (bif Nat.beq a 1900000 then some (.inl (.int, L, xs)) else z_far a) = some c := h
  cases hb : Nat.beq a 1900000 with
  | true =>
    rw [hb] at h'
    cases h'
    exact Or.inl ⟨Nat.eq_of_beq_eq_true hb, rfl⟩
  | false =>
    rw [hb] at h'
    have h2 : z_far a = some c := h'
    unfold z_far at h2
    cases hr : (Nat.ble 1000000 a && Nat.blt a 1000014) with
    | false => rw [hr] at h2; cases h2
    | true =>
      rw [hr] at h2
      obtain ⟨r1, r2⟩ := Bool.and_eq_true_iff.mp hr
      refine Or.inr ⟨Nat.ble_eq.mp r1, Nat.blt_eq.mp r2, ?_⟩
      cases hp : Nat.beq (a % 2) 0 with
      | true =>
        rw [hp] at h2
        cases h2
        exact Or.inl ⟨Nat.eq_of_beq_eq_true hp, rfl⟩
      | false =>
        rw [hp] at h2
        cases h2
        have := Nat.ne_of_beq_eq_false hp
        exact Or.inr ⟨by omega, rfl⟩
theorem z_outOk (hX : z_X D kA A adK adV b op L xs s) (hts : ∀ w ∈ z_Ts, w.before args s = true) {mi : Nat} : y_OutOk s args (z_nm mi).cls A (z_rho adK adV b op) (y_far0 (z_P L xs)) (z_fld mi) (z_con mi) := by
  obtain ⟨⟨-, -, -, -, hS, hR, hZ, hT⟩, -⟩ := hX
  refine ⟨?_, ?_, ?_, ?_⟩
  · intro a ci fs idx k fin ty v hO hf hv
    rcases z_far_spec hO with ⟨-, h⟩ | ⟨h1, h2, ⟨h3, h⟩ | ⟨-, h⟩⟩
    · cases h
    · cases h
      obtain ⟨hmi, hm⟩ := z_in rfl hf
      have hc := z_every_at (o := 0) z_str_ok hm
      rw [Nat.zero_add] at hc
      unfold z_strC at hc
      dsimp only at hc
      rw [z_own_at hmi] at hc
      obtain ⟨q1, q2, q3, q4⟩ := hS.1 ((a - 1000000) / 2) (by omega)
      have e1 := z_rho_K (adK := adK) (adV := adV) (b := b) (op := op) h1 (by omega) h3
      have e2 := z_rho_V (adK := adK) (adV := adV) (b := b) (op := op) (a := a + 1) (by omega) (by omega) (by omega)
      rw [show (a + 1 - 1000000) / 2 = (a - 1000000) / 2 by omega] at e2
      cases hw : z_find (z_nth z_strW (z_own mi)) idx with
      | none => rw [hw] at hc; cases hc
      | some w =>
        rw [hw] at hc
        have hc' : (bif Nat.beq k 0 then decide (z_tb w = some (.fieldLink (z_nm mi).cls idx "java/lang/String" "value" "[B")) else Nat.beq k 1 && decide (z_tb w = some (.fieldLink (z_nm mi).cls idx "java/lang/String" "coder" "B"))) = true := hc
        cases hk : Nat.beq k 0 with
        | true =>
          rw [hk] at hc'
          have ek := Nat.eq_of_beq_eq_true hk
          subst ek
          cases hv
          refine ⟨h1, Nat.ble_eq.mpr (by omega), "java/lang/String", "value", "[B", "java/lang/String", ?_, hts _ (z_ts_at (of_decide_eq_true hc') rfl), fun _ h => h⟩
          rw [e1]
          show va_OF _ _ _ (.ref (z_rho adK adV b op (a + 1))) _ _ _ _
          rw [e2]
          exact q3
        | false =>
          rw [hk] at hc'
          obtain ⟨g1, g2⟩ := Bool.and_eq_true_iff.mp hc'
          have ek := Nat.eq_of_beq_eq_true g1
          subst ek
          cases hv
          refine ⟨h1, rfl, "java/lang/String", "coder", "B", "java/lang/String", ?_, hts _ (z_ts_at (of_decide_eq_true g2) rfl), fun _ h => h⟩
          rw [e1]
          exact q2
    · cases h
  · intro a n f ty hO
    rcases z_far_spec hO with ⟨h0, h⟩ | ⟨h1, h2, ⟨-, h⟩ | ⟨h3, h⟩⟩
    · cases h
      subst h0
      exact ⟨by omega, hT⟩
    · cases h
    · cases h
      obtain ⟨q1, q2, q3, q4⟩ := hS.1 ((a - 1000000) / 2) (by omega)
      refine ⟨h1, ?_⟩
      rw [z_rho_V h1 (by omega) h3]
      exact q4
  · intro idx a hf
    obtain ⟨hmi, hm⟩ := z_in rfl hf
    have hc := z_every_at (o := 0) z_ref_ok hm
    rw [Nat.zero_add] at hc
    unfold z_refC at hc
    dsimp only at hc
    rw [show 2 * idx % 2 = 0 by omega, z_own_at hmi] at hc
    cases hw : z_find (z_nth z_rsW (z_own mi)) (2 * idx) with
    | none => rw [hw] at hc; cases hc
    | some pos =>
      rw [hw] at hc
      have hc : (match z_RS[pos]? with
        | some (own', idx', _, i) => decide (own' = (z_nm mi).cls) && Nat.beq idx' (2 * idx / 2) && Nat.beq a (1000000 + 2 * i) && Nat.blt i 7
        | none => false) = true := hc
      cases hr : z_RS[pos]? with
      | none => rw [hr] at hc; cases hc
      | some e =>
        obtain ⟨own', idx', tx, i⟩ := e
        rw [hr] at hc
        obtain ⟨hc, g4⟩ := Bool.and_eq_true_iff.mp hc
        obtain ⟨hc, g3⟩ := Bool.and_eq_true_iff.mp hc
        obtain ⟨g1, g2⟩ := Bool.and_eq_true_iff.mp hc
        have e1 := of_decide_eq_true g1
        have e2 := Nat.eq_of_beq_eq_true g2
        have e3 := Nat.eq_of_beq_eq_true g3
        have e4 := Nat.blt_eq.mp g4
        rw [show 2 * idx / 2 = idx by omega] at e2
        subst e1; subst e2; subst e3
        have h6 := hR _ (List.mem_of_getElem? hr)
        refine ⟨by omega, tx, ?_⟩
        rw [z_rho_K (by omega) (by omega) (by omega), show (1000000 + 2 * i - 1000000) / 2 = i by omega]
        exact h6
  · intro idx v hf
    obtain ⟨hmi, hm⟩ := z_in rfl hf
    have hc := z_every_at (o := 0) z_ref_ok hm
    rw [Nat.zero_add] at hc
    unfold z_refC at hc
    dsimp only at hc
    rw [show (2 * idx + 1) % 2 = 1 by omega, z_own_at hmi] at hc
    cases hw : z_find (z_nth z_gsW (z_own mi)) (2 * idx + 1) with
    | none => rw [hw] at hc; cases hc
    | some q =>
      obtain ⟨pos, w⟩ := q
      rw [hw] at hc
      cases hr : z_statL[pos]? with
      | none => simp only [hr] at hc; cases hc
      | some e =>
        obtain ⟨C, n, d, v'⟩ := e
        simp only [hr] at hc
        obtain ⟨hc, g3⟩ := Bool.and_eq_true_iff.mp hc
        obtain ⟨g1, g2⟩ := Bool.and_eq_true_iff.mp hc
        have e1 := of_decide_eq_true g1
        subst e1
        have g3' := of_decide_eq_true g3
        rw [show (2 * idx + 1) / 2 = idx by omega] at g3'
        have h7 := hZ (C, n, d, y_tv (z_rho adK adV b op) v') (List.mem_map.mpr ⟨_, List.mem_of_getElem? hr, rfl⟩)
        exact ⟨g2, C, n, d, C, h7, hts _ (z_ts_at g3' rfl), fun _ h => h⟩
end ZOut
