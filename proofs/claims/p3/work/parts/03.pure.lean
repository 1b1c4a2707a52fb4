/-! PURE: the small machine's values, locals, cells as the real one's; its pure instructions are sound. -/
section YTr
def y_tv (r : Nat → Nat) : Value → Value
  | .ref k => .ref (r k)
  | .retAddr k => (match r (2000000 + k) with
    | 0 => .null
    | n + 1 => .ref n)
  | v => v
def y_ts (r : Nat → Nat) (st : List Value) : List Value := st.map (y_tv r)
def y_tL (r : Nat → Nat) (ls : y_L) : List (Nat × Value) := ls.map (fun q => (q.1, y_tv r q.2))
def y_tC (r : Nat → Nat) (kA : FieldType → ClassId) : y_C → va_E
  | .inl (ty, n, f) => .inl (kA ty, n, .inl f)
  | .inr (ci, fs) => .inr (ci, y_ts r fs)
def y_ws (r : Nat → Nat) (kA : FieldType → ClassId) (Ms : List y_C) : va_W := Ms.mapIdx (fun k c => (r k, y_tC r kA c))
def y_World (D : va_G) (cl : List vw_C) (kA : FieldType → ClassId) (A : Nat → Prop) (r : Nat → Nat) (Ms : List y_C) (H : Heap) : Prop := va_P D cl (y_ws r kA Ms) H ∧ va_D A (y_ws r kA Ms)
def y_Ext (r0 : Nat → Nat) (n0 : Nat) (r : Nat → Nat) : Prop := ∀ k, (k < n0 ∨ 1000000 ≤ k) → r k = r0 k
theorem y_tv_cat (r : Nat → Nat) (v : Value) : (y_tv r v).category = v.category := by
  cases v with
  | retAddr k =>
    show (match r (2000000 + k) with
      | 0 => Value.null
      | n + 1 => Value.ref n).category = 1
    split <;> rfl
  | _ => rfl
theorem y_tv_op {r r' : Nat → Nat} {k : Nat} (h : r' (2000000 + k) = r (2000000 + k)) : y_tv r' (.retAddr k) = y_tv r (.retAddr k) := by
  show (match r' (2000000 + k) with
    | 0 => Value.null
    | n + 1 => Value.ref n) = (match r (2000000 + k) with
    | 0 => Value.null
    | n + 1 => Value.ref n)
  rw [h]
theorem y_tL_set (r : Nat → Nat) (ls : y_L) (i : Nat) (v : Value) : (i, y_tv r v) :: (y_tL r ls).filter (fun q => !(q.1 == i) && !(q.1 + 1 == i && q.2.category == 2)) = y_tL r (y_set ls i v) := by
  unfold y_set y_tL
  rw [List.map_cons, List.filter_map]
  congr 2
  apply List.filter_congr
  intro q _
  simp only [Function.comp, y_tv_cat]
theorem y_tL_set2 (r : Nat → Nat) (ls : y_L) (i : Nat) (v : Value) : (i, y_tv r v) :: (y_tL r ls).filter (fun q => !(q.1 == i) && (!(q.1 == i + 1) && !(q.1 + 1 == i && q.2.category == 2))) = y_tL r (y_set2 ls i v) := by
  unfold y_set2 y_tL
  rw [List.map_cons, List.filter_map]
  congr 2
  apply List.filter_congr
  intro q _
  simp only [Function.comp, y_tv_cat]
theorem y_get_mem {i : Nat} {v : Value} : ∀ {ls : y_L}, y_get ls i = some v → (i, v) ∈ ls
  | [], h => by cases h
  | (j, w) :: t, h => by
    unfold y_get at h
    by_cases e : j = i
    · rw [if_pos e] at h
      cases h
      subst e
      exact List.mem_cons_self
    · rw [if_neg e] at h
      exact List.mem_cons_of_mem _ (y_get_mem h)
theorem y_get_tL {r : Nat → Nat} {ls : y_L} {i : Nat} {v : Value} (h : y_get ls i = some v) : (i, y_tv r v) ∈ y_tL r ls := List.mem_map_of_mem (f := fun q : Nat × Value => (q.1, y_tv r q.2)) (y_get_mem h)
theorem y_get_at {r : Nat → Nat} {ls : y_L} {i nL : Nat} {v : Value} {la : Array Slot} (h : y_get ls i = some v) (hl : lv_has la nL (y_tL r ls)) : la[i]? = some (.val (y_tv r v)) := hl.2.2 _ (y_get_tL h)
theorem y_ws_at {r : Nat → Nat} {kA : FieldType → ClassId} {Ms : List y_C} {k : Nat} {c : y_C} (h : Ms[k]? = some c) : (y_ws r kA Ms)[k]? = some (r k, y_tC r kA c) := by
  unfold y_ws
  rw [List.getElem?_mapIdx, h]
  rfl
theorem y_ws_set {r : Nat → Nat} {kA : FieldType → ClassId} {Ms : List y_C} {k : Nat} {c : y_C} : (y_ws r kA Ms).set k (r k, y_tC r kA c) = y_ws r kA (Ms.set k c) := by
  unfold y_ws
  apply List.ext_getElem?
  intro j
  rw [List.getElem?_set, List.getElem?_mapIdx, List.getElem?_mapIdx, List.getElem?_set, List.length_mapIdx]
  by_cases e : k = j
  · subst e
    simp only [if_true]
    by_cases hl : k < Ms.length
    · simp [hl]
    · simp [hl]
  · simp only [if_neg e]
end YTr
section YPure
variable {p : Program} {l : Launch} {e : Env} {R : Room} {s : State} {m : MethodId} {args : Array Value} {below : List Frame} {meth : Method} {c : Code} {Q : State → Prop}
/-- the machine stands at the small machine's frame and memory -/
def y_Wd (p : Program) (l : Launch) (e : Env) (R : Room) (s : State) (m : MethodId) (args : Array Value) (below : List Frame) (meth : Method) (c : Code) (D : va_G) (cl : List vw_C) (kA : FieldType → ClassId) (A : Nat → Prop) (r0 : Nat → Nat) (n0 c0 s0 nL : Nat) (Q : State → Prop) (F : y_F) : Prop :=
  ∀ (r : Nat → Nat) (H : Heap) (locs : List Loc) (la : Array Slot), y_Ext r0 n0 r → n0 ≤ F.2.2.2.1.length → c0 ≤ F.2.2.2.2.1 → s0 ≤ F.2.2.2.2.2 → y_World D cl kA A r F.2.2.2.1 H → va_S A s.heap H locs → lv_has la nL (y_tL r F.2.1) →
    W p l e R s m args below meth c H locs (F.2.2.2.2.1 - c0) (F.2.2.2.2.2 - s0) Q (F0 m F.1 la (y_ts r F.2.2.1))
variable {D : va_G} {cl : List vw_C} {kA : FieldType → ClassId} {A : Nat → Prop} {r0 : Nat → Nat} {n0 c0 s0 nL : Nat} {cc : ByteArray}
theorem y_int_spec {f : Int32 → Int32} {pc : Nat} {ls : y_L} {st : List Value} {M : y_M} {F : y_F} (h : y_int f pc ls st M = some F) : ∃ x r, st = .int x :: r ∧ F = (pc + 1, ls, .int (f x) :: r, M) := by
  unfold y_int at h
  split at h
  · cases h; exact ⟨_, _, rfl, rfl⟩
  · cases h
theorem y_int2_spec {f : Int32 → Int32 → Int32} {pc : Nat} {ls : y_L} {st : List Value} {M : y_M} {F : y_F} (h : y_int2 f pc ls st M = some F) : ∃ x y r, st = .int y :: .int x :: r ∧ F = (pc + 1, ls, .int (f x y) :: r, M) := by
  unfold y_int2 at h
  split at h
  · cases h; exact ⟨_, _, _, rfl, rfl⟩
  · cases h
theorem y_long2_spec {f : Int64 → Int64 → Int64} {pc : Nat} {ls : y_L} {st : List Value} {M : y_M} {F : y_F} (h : y_long2 f pc ls st M = some F) : ∃ x y r, st = .long y :: .long x :: r ∧ F = (pc + 1, ls, .long (f x y) :: r, M) := by
  unfold y_long2 at h
  split at h
  · cases h; exact ⟨_, _, _, rfl, rfl⟩
  · cases h
theorem y_longI_spec {f : Int64 → Int32 → Int64} {pc : Nat} {ls : y_L} {st : List Value} {M : y_M} {F : y_F} (h : y_longI f pc ls st M = some F) : ∃ x y r, st = .int y :: .long x :: r ∧ F = (pc + 1, ls, .long (f x y) :: r, M) := by
  unfold y_longI at h
  split at h
  · cases h; exact ⟨_, _, _, rfl, rfl⟩
  · cases h
theorem y_loadI_spec {i len pc : Nat} {ls : y_L} {st : List Value} {M : y_M} {F : y_F} (h : y_loadI i len pc ls st M = some F) : ∃ x, y_get ls i = some (.int x) ∧ F = (pc + len, ls, .int x :: st, M) := by
  unfold y_loadI at h
  split at h
  · cases h; exact ⟨_, by assumption, rfl⟩
  · cases h
theorem y_loadL_spec {i len pc : Nat} {ls : y_L} {st : List Value} {M : y_M} {F : y_F} (h : y_loadL i len pc ls st M = some F) : ∃ x, y_get ls i = some (.long x) ∧ F = (pc + len, ls, .long x :: st, M) := by
  unfold y_loadL at h
  split at h
  · cases h; exact ⟨_, by assumption, rfl⟩
  · cases h
theorem y_loadA_spec {i len pc : Nat} {ls : y_L} {st : List Value} {M : y_M} {F : y_F} (h : y_loadA i len pc ls st M = some F) : (∃ x, y_get ls i = some (.ref x) ∧ F = (pc + len, ls, .ref x :: st, M)) ∨ (y_get ls i = some .null ∧ F = (pc + len, ls, .null :: st, M)) := by
  unfold y_loadA at h
  split at h
  · cases h; exact Or.inl ⟨_, by assumption, rfl⟩
  · cases h; exact Or.inr ⟨by assumption, rfl⟩
  · cases h
theorem y_storeI_spec {nL i len pc : Nat} {ls : y_L} {st : List Value} {M : y_M} {F : y_F} (h : y_storeI nL i len pc ls st M = some F) : ∃ x r, st = .int x :: r ∧ i < nL ∧ F = (pc + len, y_set ls i (.int x), r, M) := by
  unfold y_storeI at h
  split at h
  · split at h
    · cases h; exact ⟨_, _, rfl, by assumption, rfl⟩
    · cases h
  · cases h
theorem y_storeL_spec {nL i len pc : Nat} {ls : y_L} {st : List Value} {M : y_M} {F : y_F} (h : y_storeL nL i len pc ls st M = some F) : ∃ x r, st = .long x :: r ∧ i + 1 < nL ∧ F = (pc + len, y_set2 ls i (.long x), r, M) := by
  unfold y_storeL at h
  split at h
  · split at h
    · cases h; exact ⟨_, _, rfl, by assumption, rfl⟩
    · cases h
  · cases h
theorem y_storeA_spec {nL i len pc : Nat} {ls : y_L} {st : List Value} {M : y_M} {F : y_F} (h : y_storeA nL i len pc ls st M = some F) : (∃ x r, st = .ref x :: r ∧ i < nL ∧ F = (pc + len, y_set ls i (.ref x), r, M)) ∨ (∃ r, st = .null :: r ∧ i < nL ∧ F = (pc + len, y_set ls i .null, r, M)) := by
  unfold y_storeA at h
  split at h
  · split at h
    · cases h; exact Or.inl ⟨_, _, rfl, by assumption, rfl⟩
    · cases h
  · split at h
    · cases h; exact Or.inr ⟨_, rfl, by assumption, rfl⟩
    · cases h
  · cases h
theorem y_inc_spec {nL i pc : Nat} {n : Int} {ls : y_L} {st : List Value} {M : y_M} {F : y_F} (h : y_inc nL i n pc ls st M = some F) : ∃ x, y_get ls i = some (.int x) ∧ i < nL ∧ F = (pc + 3, y_set ls i (.int (x + Int32.ofInt n)), st, M) := by
  unfold y_inc at h
  split at h
  · split at h
    · cases h; exact ⟨_, by assumption, by assumption, rfl⟩
    · cases h
  · cases h
theorem y_jump_spec {pc : Nat} {off : Int} {t : Nat} (h : y_jump pc off = some t) : (pc : Int) + off = (t : Int) := by
  unfold y_jump at h
  split at h
  · rename_i q e; cases h; exact e
  · cases h
theorem y_go_spec {pc : Nat} {off : Int} {len : Nat} {b : Bool} {ls : y_L} {st : List Value} {M : y_M} {F : y_F} (h : y_go pc off len b ls st M = some F) : ∃ t : Nat, (pc : Int) + off = (t : Int) ∧ F = (cond b t (pc + len), ls, st, M) := by
  unfold y_go at h
  split at h
  · rename_i t e; cases h; exact ⟨t, y_jump_spec e, rfl⟩
  · cases h
theorem y_br1_spec {cnd : ClassFile.Cond} {off : Int} {pc : Nat} {ls : y_L} {st : List Value} {M : y_M} {F : y_F} (h : y_br1 cnd off pc ls st M = some F) : ∃ x r, ∃ t : Nat, st = .int x :: r ∧ (pc : Int) + off = (t : Int) ∧ F = (cond (y_cmp cnd x 0) t (pc + 3), ls, r, M) := by
  unfold y_br1 at h
  split at h
  · obtain ⟨t, h1, h2⟩ := y_go_spec h
    exact ⟨_, _, t, rfl, h1, h2⟩
  · cases h
theorem y_br2_spec {cnd : ClassFile.Cond} {off : Int} {pc : Nat} {ls : y_L} {st : List Value} {M : y_M} {F : y_F} (h : y_br2 cnd off pc ls st M = some F) : ∃ x y r, ∃ t : Nat, st = .int y :: .int x :: r ∧ (pc : Int) + off = (t : Int) ∧ F = (cond (y_cmp cnd x y) t (pc + 3), ls, r, M) := by
  unfold y_br2 at h
  split at h
  · obtain ⟨t, h1, h2⟩ := y_go_spec h
    exact ⟨_, _, _, t, rfl, h1, h2⟩
  · cases h
theorem y_brN_spec {b : Bool} {off : Int} {pc : Nat} {ls : y_L} {st : List Value} {M : y_M} {F : y_F} (h : y_brN b off pc ls st M = some F) : (∃ r, ∃ t : Nat, st = .null :: r ∧ (pc : Int) + off = (t : Int) ∧ F = (cond b t (pc + 3), ls, r, M)) ∨ (∃ x r, ∃ t : Nat, st = .ref x :: r ∧ (pc : Int) + off = (t : Int) ∧ F = (cond (!b) t (pc + 3), ls, r, M)) := by
  unfold y_brN at h
  split at h
  · obtain ⟨t, h1, h2⟩ := y_go_spec h
    exact Or.inl ⟨_, t, rfl, h1, h2⟩
  · obtain ⟨t, h1, h2⟩ := y_go_spec h
    exact Or.inr ⟨_, _, t, rfl, h1, h2⟩
  · cases h
/-- a comparison's two goals out of one -/
theorem y_cond {P : Nat → Prop} {b : Bool} {q : Prop} {t f : Nat} (hb : b = true ↔ q) (k : P (cond b t f)) : (q → P t) ∧ (¬ q → P f) := by
  cases b with
  | true => exact ⟨fun _ => k, fun h => absurd (hb.mp rfl) h⟩
  | false => exact ⟨fun h => absurd (hb.mpr h) (by decide), fun _ => k⟩
set_option maxHeartbeats 4000000 in
theorem y_pureW (hx : p.tables.exec = Jvm.exec) (hb : c.code = cc) {i : Instr} {len pc : Nat} {ls : y_L} {st : List Value} {M : y_M} {F : y_F} (hdg : decode cc pc = .ok (i, len)) (hlen : len = y_len i) (h : y_pure nL i pc ls st M = some F)
    (kk : y_Wd p l e R s m args below meth c D cl kA A r0 n0 c0 s0 nL Q F) : y_Wd p l e R s m args below meth c D cl kA A r0 n0 c0 s0 nL Q (pc, ls, st, M) := by
  subst hlen
  intro r H locs la hE hn hc hs hw hS hl
  unfold y_pure at h
  split at h
  case _ => cases h; exact lv_iconst hx hb hdg rfl (kk r H locs la hE hn hc hs hw hS hl)
  case _ => cases h; exact lv_bipush hx hb hdg rfl (kk r H locs la hE hn hc hs hw hS hl)
  case _ => cases h; exact lv_sipush hx hb hdg rfl (kk r H locs la hE hn hc hs hw hS hl)
  case _ => cases h; exact lv_lconst hx hb hdg rfl (kk r H locs la hE hn hc hs hw hS hl)
  case _ => obtain ⟨x, h1, rfl⟩ := y_loadI_spec h; exact lv_iload_n hx hb hdg rfl (y_get_at h1 hl) (kk r H locs la hE hn hc hs hw hS hl)
  case _ => obtain ⟨x, h1, rfl⟩ := y_loadI_spec h; exact lv_iload hx hb hdg (y_get_at h1 hl) (kk r H locs la hE hn hc hs hw hS hl)
  case _ => obtain ⟨x, h1, rfl⟩ := y_loadL_spec h; exact lv_lload_n hx hb hdg rfl (y_get_at h1 hl) (kk r H locs la hE hn hc hs hw hS hl)
  case _ => obtain ⟨x, h1, rfl⟩ := y_loadL_spec h; exact lv_lload hx hb hdg (y_get_at h1 hl) (kk r H locs la hE hn hc hs hw hS hl)
  case _ =>
    rcases y_loadA_spec h with ⟨x, h1, rfl⟩ | ⟨h1, rfl⟩
    · exact lv_aload_n hx hb hdg rfl (y_get_at h1 hl) (kk r H locs la hE hn hc hs hw hS hl)
    · exact lv_aload_nN hx hb hdg rfl (y_get_at h1 hl) (kk r H locs la hE hn hc hs hw hS hl)
  case _ =>
    rcases y_loadA_spec h with ⟨x, h1, rfl⟩ | ⟨h1, rfl⟩
    · exact lv_aload hx hb hdg (y_get_at h1 hl) (kk r H locs la hE hn hc hs hw hS hl)
    · exact lv_aloadN hx hb hdg (y_get_at h1 hl) (kk r H locs la hE hn hc hs hw hS hl)
  case _ => obtain ⟨x, t, rfl, h1, rfl⟩ := y_storeI_spec h; exact lv_istore_n hx hb hdg rfl hl h1 (y_tL_set r ls _ (.int x)) (fun la' hl' => kk r H locs la' hE hn hc hs hw hS hl')
  case _ => obtain ⟨x, t, rfl, h1, rfl⟩ := y_storeI_spec h; exact lv_istore hx hb hdg hl h1 (y_tL_set r ls _ (.int x)) (fun la' hl' => kk r H locs la' hE hn hc hs hw hS hl')
  case _ => obtain ⟨x, t, rfl, h1, rfl⟩ := y_storeL_spec h; exact lv_lstore_n hx hb hdg rfl hl h1 (y_tL_set2 r ls _ (.long x)) (fun la' hl' => kk r H locs la' hE hn hc hs hw hS hl')
  case _ => obtain ⟨x, t, rfl, h1, rfl⟩ := y_storeL_spec h; exact lv_lstore hx hb hdg hl h1 (y_tL_set2 r ls _ (.long x)) (fun la' hl' => kk r H locs la' hE hn hc hs hw hS hl')
  case _ =>
    rcases y_storeA_spec h with ⟨x, t, rfl, h1, rfl⟩ | ⟨t, rfl, h1, rfl⟩
    · exact lv_astore_n hx hb hdg rfl hl h1 (y_tL_set r ls _ (.ref x)) (fun la' hl' => kk r H locs la' hE hn hc hs hw hS hl')
    · exact lv_astore_nN hx hb hdg rfl hl h1 (y_tL_set r ls _ .null) (fun la' hl' => kk r H locs la' hE hn hc hs hw hS hl')
  case _ =>
    rcases y_storeA_spec h with ⟨x, t, rfl, h1, rfl⟩ | ⟨t, rfl, h1, rfl⟩
    · exact lv_astore hx hb hdg hl h1 (y_tL_set r ls _ (.ref x)) (fun la' hl' => kk r H locs la' hE hn hc hs hw hS hl')
    · exact lv_astoreN hx hb hdg hl h1 (y_tL_set r ls _ .null) (fun la' hl' => kk r H locs la' hE hn hc hs hw hS hl')
  case _ =>
    obtain ⟨x, h0, h1, rfl⟩ := y_inc_spec h
    obtain ⟨k, hk⟩ := List.mem_iff_getElem?.mp (y_get_tL (r := r) h0)
    exact lv_iinc hx hb hdg hl hk rfl h1 (y_tL_set r ls _ (.int (x + Int32.ofInt _))) (fun la' hl' => kk r H locs la' hE hn hc hs hw hS hl')
  case _ => obtain ⟨x, y, t, rfl, rfl⟩ := y_int2_spec h; exact lv_iadd hx hb hdg (kk r H locs la hE hn hc hs hw hS hl)
  case _ => obtain ⟨x, y, t, rfl, rfl⟩ := y_int2_spec h; exact lv_isub hx hb hdg (kk r H locs la hE hn hc hs hw hS hl)
  case _ => obtain ⟨x, y, t, rfl, rfl⟩ := y_int2_spec h; exact lv_imul hx hb hdg (kk r H locs la hE hn hc hs hw hS hl)
  case _ => obtain ⟨x, y, t, rfl, rfl⟩ := y_int2_spec h; exact lv_iand hx hb hdg (kk r H locs la hE hn hc hs hw hS hl)
  case _ => obtain ⟨x, y, t, rfl, rfl⟩ := y_int2_spec h; exact lv_ior hx hb hdg (kk r H locs la hE hn hc hs hw hS hl)
  case _ => obtain ⟨x, y, t, rfl, rfl⟩ := y_int2_spec h; exact lv_ixor hx hb hdg (kk r H locs la hE hn hc hs hw hS hl)
  case _ => obtain ⟨x, y, t, rfl, rfl⟩ := y_int2_spec h; exact lv_ishl hx hb hdg (kk r H locs la hE hn hc hs hw hS hl)
  case _ => obtain ⟨x, y, t, rfl, rfl⟩ := y_int2_spec h; exact lv_ishr hx hb hdg (kk r H locs la hE hn hc hs hw hS hl)
  case _ => obtain ⟨x, y, t, rfl, rfl⟩ := y_int2_spec h; exact lv_iushr hx hb hdg rfl (kk r H locs la hE hn hc hs hw hS hl)
  case _ => obtain ⟨x, t, rfl, rfl⟩ := y_int_spec h; exact lv_ineg hx hb hdg (kk r H locs la hE hn hc hs hw hS hl)
  case _ => obtain ⟨x, t, rfl, rfl⟩ := y_int_spec h; exact lv_i2b hx hb hdg rfl (kk r H locs la hE hn hc hs hw hS hl)
  case _ => obtain ⟨x, t, rfl, rfl⟩ := y_int_spec h; exact lv_i2c hx hb hdg rfl (kk r H locs la hE hn hc hs hw hS hl)
  case _ => obtain ⟨x, y, t, rfl, rfl⟩ := y_long2_spec h; exact lv_ladd hx hb hdg (kk r H locs la hE hn hc hs hw hS hl)
  case _ => obtain ⟨x, y, t, rfl, rfl⟩ := y_long2_spec h; exact lv_lsub hx hb hdg (kk r H locs la hE hn hc hs hw hS hl)
  case _ => obtain ⟨x, y, t, rfl, rfl⟩ := y_long2_spec h; exact lv_lmul hx hb hdg (kk r H locs la hE hn hc hs hw hS hl)
  case _ => obtain ⟨x, y, t, rfl, rfl⟩ := y_long2_spec h; exact lv_land hx hb hdg (kk r H locs la hE hn hc hs hw hS hl)
  case _ => obtain ⟨x, y, t, rfl, rfl⟩ := y_long2_spec h; exact lv_lor hx hb hdg (kk r H locs la hE hn hc hs hw hS hl)
  case _ => obtain ⟨x, y, t, rfl, rfl⟩ := y_longI_spec h; exact lv_lushr hx hb hdg rfl (kk r H locs la hE hn hc hs hw hS hl)
  case _ => obtain ⟨x, y, t, rfl, rfl⟩ := y_longI_spec h; exact lv_lshl hx hb hdg rfl (kk r H locs la hE hn hc hs hw hS hl)
  case _ =>
    split at h
    · cases h; exact lv_lneg hx hb hdg (kk r H locs la hE hn hc hs hw hS hl)
    · cases h
  case _ =>
    split at h
    · cases h; exact lv_i2l hx hb hdg rfl (kk r H locs la hE hn hc hs hw hS hl)
    · cases h
  case _ =>
    split at h
    · cases h; exact lv_l2i hx hb hdg rfl (kk r H locs la hE hn hc hs hw hS hl)
    · cases h
  case _ =>
    split at h
    · cases h; exact W.lcmp hx hb hdg (kk r H locs la hE hn hc hs hw hS hl)
    · cases h
  case _ =>
    split at h
    · cases h; exact lv_dup hx hb hdg rfl (kk r H locs la hE hn hc hs hw hS hl)
    · cases h; exact lv_dup hx hb hdg rfl (kk r H locs la hE hn hc hs hw hS hl)
    · cases h
  case _ =>
    split at h
    · cases h; exact lv_pop hx hb hdg rfl (kk r H locs la hE hn hc hs hw hS hl)
    · cases h; exact lv_pop hx hb hdg rfl (kk r H locs la hE hn hc hs hw hS hl)
    · cases h
  case _ =>
    rename_i cnd off
    obtain ⟨x, t, tg, rfl, ht, rfl⟩ := y_br1_spec h
    have hk := kk r H locs la hE hn hc hs hw hS hl
    cases cnd with
    | eq => obtain ⟨a, b⟩ := y_cond (q := x = 0) (P := fun pc' => W p l e R s m args below meth c H locs _ _ Q (F0 m pc' la (y_ts r t))) (by simp [y_cmp]) hk; exact lv_if_eq hx hb hdg ht a b
    | ne => obtain ⟨a, b⟩ := y_cond (q := ¬ x = 0) (P := fun pc' => W p l e R s m args below meth c H locs _ _ Q (F0 m pc' la (y_ts r t))) (by simp [y_cmp]) hk; exact lv_if_ne hx hb hdg ht a (fun z => b (fun w => w z))
    | lt => obtain ⟨a, b⟩ := y_cond (q := x < 0) (P := fun pc' => W p l e R s m args below meth c H locs _ _ Q (F0 m pc' la (y_ts r t))) (by simp [y_cmp]) hk; exact lv_if_lt hx hb hdg ht a b
    | ge => obtain ⟨a, b⟩ := y_cond (q := 0 ≤ x) (P := fun pc' => W p l e R s m args below meth c H locs _ _ Q (F0 m pc' la (y_ts r t))) (by simp [y_cmp]) hk; exact lv_if_ge hx hb hdg ht a b
    | gt => obtain ⟨a, b⟩ := y_cond (q := 0 < x) (P := fun pc' => W p l e R s m args below meth c H locs _ _ Q (F0 m pc' la (y_ts r t))) (by simp [y_cmp]) hk; exact lv_if_gt hx hb hdg ht a b
    | le => obtain ⟨a, b⟩ := y_cond (q := x ≤ 0) (P := fun pc' => W p l e R s m args below meth c H locs _ _ Q (F0 m pc' la (y_ts r t))) (by simp [y_cmp]) hk; exact lv_if_le hx hb hdg ht a b
  case _ =>
    rename_i cnd off
    obtain ⟨x, y, t, tg, rfl, ht, rfl⟩ := y_br2_spec h
    have hk := kk r H locs la hE hn hc hs hw hS hl
    cases cnd with
    | eq => obtain ⟨a, b⟩ := y_cond (q := x = y) (P := fun pc' => W p l e R s m args below meth c H locs _ _ Q (F0 m pc' la (y_ts r t))) (by simp [y_cmp]) hk; exact lv_icmp_eq hx hb hdg ht a b
    | ne => obtain ⟨a, b⟩ := y_cond (q := ¬ x = y) (P := fun pc' => W p l e R s m args below meth c H locs _ _ Q (F0 m pc' la (y_ts r t))) (by simp [y_cmp]) hk; exact lv_icmp_ne hx hb hdg ht a (fun z => b (fun w => w z))
    | lt => obtain ⟨a, b⟩ := y_cond (q := x < y) (P := fun pc' => W p l e R s m args below meth c H locs _ _ Q (F0 m pc' la (y_ts r t))) (by simp [y_cmp]) hk; exact lv_icmp_lt hx hb hdg ht a b
    | ge => obtain ⟨a, b⟩ := y_cond (q := y ≤ x) (P := fun pc' => W p l e R s m args below meth c H locs _ _ Q (F0 m pc' la (y_ts r t))) (by simp [y_cmp]) hk; exact lv_icmp_ge hx hb hdg ht a b
    | gt => obtain ⟨a, b⟩ := y_cond (q := y < x) (P := fun pc' => W p l e R s m args below meth c H locs _ _ Q (F0 m pc' la (y_ts r t))) (by simp [y_cmp]) hk; exact lv_icmp_gt hx hb hdg ht a b
    | le => obtain ⟨a, b⟩ := y_cond (q := x ≤ y) (P := fun pc' => W p l e R s m args below meth c H locs _ _ Q (F0 m pc' la (y_ts r t))) (by simp [y_cmp]) hk; exact lv_icmp_le hx hb hdg ht a b
  case _ =>
    rcases y_brN_spec h with ⟨t, tg, rfl, ht, rfl⟩ | ⟨x, t, tg, rfl, ht, rfl⟩
    · exact lv_ifnullN hx hb hdg ht (kk r H locs la hE hn hc hs hw hS hl)
    · exact lv_ifnull hx hb hdg (kk r H locs la hE hn hc hs hw hS hl)
  case _ =>
    rcases y_brN_spec h with ⟨t, tg, rfl, ht, rfl⟩ | ⟨x, t, tg, rfl, ht, rfl⟩
    · exact lv_ifnonnullN hx hb hdg (kk r H locs la hE hn hc hs hw hS hl)
    · exact lv_ifnonnull hx hb hdg ht (kk r H locs la hE hn hc hs hw hS hl)
  case _ =>
    obtain ⟨t, ht, rfl⟩ := y_go_spec h
    exact lv_goto hx hb hdg ht (kk r H locs la hE hn hc hs hw hS hl)
  case _ => cases h
end YPure
