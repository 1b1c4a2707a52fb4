/-! MAKES: new cells of the small machine; switches; constants. -/
section YMakes
variable {p : Program} {l : Launch} {e : Env} {R : Room} {s : State} {m : MethodId} {args : Array Value} {below : List Frame} {meth : Method} {c : Code} {Q : State → Prop}
variable {D : va_G} {cl : List vw_C} {kA : FieldType → ClassId} {A : Nat → Prop} {r0 : Nat → Nat} {n0 c0 s0 nL : Nat} {cc : ByteArray} {own : String} {Ts : List Cond}
/-- the addresses with one more -/
def y_up (r : Nat → Nat) (n q : Nat) : Nat → Nat := fun k => if k = n then q else r k
theorem y_tv_up {r : Nat → Nat} {n q n' : Nat} (hn : n' ≤ n) (hm : n < 1000000) {v : Value} (h : y_ok n' v = true) : y_tv (y_up r n q) v = y_tv r v := by
  cases v with
  | ref k =>
    simp only [y_ok, Bool.or_eq_true] at h
    have hk : ¬ @Eq Nat k n := by
      rcases h with h | h
      · have := Nat.blt_eq.mp h; omega
      · have := Nat.ble_eq.mp h; omega
    show Value.ref (y_up r n q k) = Value.ref (r k)
    unfold y_up
    rw [if_neg hk]
  | retAddr k => exact y_tv_op (by unfold y_up; rw [if_neg (by omega)])
  | _ => rfl
theorem y_ts_up {r : Nat → Nat} {n q n' : Nat} (hn : n' ≤ n) (hm : n < 1000000) {st : List Value} (h : y_oks n' st = true) : y_ts (y_up r n q) st = y_ts r st := by
  unfold y_ts
  apply List.map_congr_left
  intro v hv
  exact y_tv_up hn hm (List.all_eq_true.mp h v hv)
theorem y_tL_up {r : Nat → Nat} {n q n' : Nat} (hn : n' ≤ n) (hm : n < 1000000) {ls : y_L} (h : y_okL n' ls = true) : y_tL (y_up r n q) ls = y_tL r ls := by
  unfold y_tL
  apply List.map_congr_left
  intro v hv
  rw [y_tv_up hn hm (List.all_eq_true.mp h v hv)]
theorem y_tC_up {r : Nat → Nat} {n q n' : Nat} (hn : n' ≤ n) (hm : n < 1000000) {x : y_C} (h : y_okC n' x = true) : y_tC (y_up r n q) kA x = y_tC r kA x := by
  cases x with
  | inl x => rfl
  | inr x =>
    obtain ⟨ci, fs⟩ := x
    show Sum.inr (ci, y_ts _ fs) = Sum.inr (ci, y_ts r fs)
    rw [y_ts_up hn hm h]
theorem y_ws_up {r : Nat → Nat} {q : Nat} {Ms : List y_C} (hm : Ms.length < 1000000) (h : y_okM Ms = true) (x : y_C) : y_ws (y_up r Ms.length q) kA (Ms ++ [x]) = y_ws r kA Ms ++ [(q, y_tC (y_up r Ms.length q) kA x)] := by
  unfold y_ws
  rw [List.mapIdx_append]
  congr 1
  · apply List.ext_getElem?
    intro j
    rw [List.getElem?_mapIdx, List.getElem?_mapIdx]
    cases hj : Ms[j]? with
    | none => rfl
    | some z =>
      have hl : j < Ms.length := (List.getElem?_eq_some_iff.mp hj).1
      have hz := List.all_eq_true.mp h z (List.mem_of_getElem? hj)
      simp only [Option.map_some]
      rw [y_tC_up (Nat.le_refl _) hm hz]
      have : y_up r Ms.length q j = r j := by unfold y_up; rw [if_neg (by omega)]
      rw [this]
  · simp [y_up]
theorem y_wf_ok {ls : y_L} {st : List Value} {Ms : List y_C} (h : y_wf ls st Ms = true) : Ms.length < 1000000 ∧ y_oks Ms.length st = true ∧ y_okL Ms.length ls = true ∧ y_okM Ms = true := by
  unfold y_wf at h
  simp only [Bool.and_eq_true] at h
  exact ⟨Nat.blt_eq.mp h.1.1.1, h.1.1.2, h.1.2, h.2⟩
theorem y_Ext_up {r : Nat → Nat} {n q : Nat} (hE : y_Ext r0 n0 r) (hn : n0 ≤ n) (hm : n < 1000000) : y_Ext r0 n0 (y_up r n q) := by
  intro k hk
  rw [← hE k hk]
  unfold y_up
  rw [if_neg (by omega)]
/-- what the tables say of the classes that the class 'own' makes -/
def y_ClsOk (s : State) (args : Array Value) (own : String) (Ts : List Cond) (cl : List vw_C) (cls : Nat → Option (Nat × List Value)) : Prop :=
  ∀ (idx ci : Nat) (fs : List Value), cls idx = some (ci, fs) → ∃ (C : String) (T : u_T) (ty : Nat → FieldType), cl[ci]? = some (C, T, fs.length) ∧ (∀ w ∈ u_ws C T fs.length, w ∈ Ts) ∧ (∀ j, j < fs.length → parseFieldDescriptor (T j).2.2.1 = some (ty j)) ∧
    (∀ j, j < fs.length → defaultValue (ty j) = vp_V fs j) ∧ (Cond.classLink own idx C).before args s = true ∧ (Cond.instantiable C fs.length).before args s = true ∧ (Cond.initialized C).before args s = true
theorem y_newW (hx : p.tables.exec = Jvm.exec) (hb : c.code = cc) (hts : ∀ w ∈ Ts, w.before args s = true) (hown : s.vm.findClass own = some m.cls) {tys : List (ClassId × FieldType)} (hK : va_K D cl tys s) (hA : ∀ q, s.heap.size ≤ q → A q) {cls : Nat → Option (Nat × List Value)} (hcls : y_ClsOk s args own Ts cl cls)
    {idx pc : Nat} {ls : y_L} {st : List Value} {M : y_M} {F : y_F} (hdg : decode cc pc = .ok (.new idx, 3)) (h : y_new cls idx pc ls st M = some F) (hR1 : F.2.2.2.2.1 - c0 ≤ R.cells) (hR2 : F.2.2.2.2.2 - s0 ≤ R.slots)
    (kk : y_Wd p l e R s m args below meth c D cl kA A r0 n0 c0 s0 nL Q F) : y_Wd p l e R s m args below meth c D cl kA A r0 n0 c0 s0 nL Q (pc, ls, st, M) := by
  intro r H locs la hE hn hc hs hw hS hl
  unfold y_new at h
  split at h
  case h_2 => cases h
  rename_i ci fs hcl
  split at h
  case h_2 => cases h
  rename_i hbq
  cases h
  simp only [Bool.and_eq_true] at hbq
  obtain ⟨w1, w2, w3, w4⟩ := y_wf_ok hbq.1
  obtain ⟨C, T, ty, h1, h2, h3, h4, h5, h6, h7⟩ := hcls idx ci fs hcl
  dsimp only at hn hc hs hw hl hR1 hR2 ⊢
  refine va_new (ci := ci) (fs := fs) hx hb hts h2 ty h3 hown h5 h6 h7 hK hw.1 hw.2 hS hA h1 h4 (by omega) (by omega) hdg (fun q H1 q1 q2 q3 => ?_)
  have key := kk (y_up r M.1.length q) H1 locs la (y_Ext_up hE hn w1) (by simp; omega) (by dsimp only; omega) (by dsimp only; omega) ?_ q3 (by rw [y_tL_up (Nat.le_refl _) w1 w3]; exact hl)
  · dsimp only at key
    have e1 : M.2.1 + 1 - c0 = M.2.1 - c0 + 1 := by omega
    have e2 : M.2.2 + fs.length - s0 = M.2.2 - s0 + fs.length := by omega
    rw [e1, e2] at key
    have e3 : y_ts (y_up r M.1.length q) (Value.ref M.1.length :: st) = Value.ref q :: y_ts r st := by
      show Value.ref (y_up r M.1.length q M.1.length) :: y_ts (y_up r M.1.length q) st = _
      rw [y_ts_up (Nat.le_refl _) w1 w2]
      simp [y_up]
    rw [e3] at key
    exact key
  · have e4 : y_tC (y_up r M.1.length q) kA (.inr (ci, fs)) = .inr (ci, fs) := by
      show Sum.inr (ci, y_ts _ fs) = _
      rw [y_ts_up (n' := 0) (Nat.zero_le _) w1 hbq.2]
      have : y_ts r fs = fs := by
        unfold y_ts
        have hz : ∀ v ∈ fs, y_tv r v = v := fun v hv => by
          have := List.all_eq_true.mp hbq.2 v hv
          cases v with
          | ref k => exact absurd this (by
              intro _
              have h0 := h4
              obtain ⟨j, hj⟩ := List.mem_iff_getElem?.mp hv
              have hjl := (List.getElem?_eq_some_iff.mp hj).1
              have h9 := h4 j hjl
              unfold vp_V at h9
              rw [List.getD_eq_getElem?_getD, hj] at h9
              cases hty : ty j <;> rw [hty] at h9 <;> simp [defaultValue] at h9)
          | retAddr k =>
            exfalso
            obtain ⟨j, hj⟩ := List.mem_iff_getElem?.mp hv
            have hjl := (List.getElem?_eq_some_iff.mp hj).1
            have h9 := h4 j hjl
            unfold vp_V at h9
            rw [List.getD_eq_getElem?_getD, hj] at h9
            cases hty : ty j <;> rw [hty] at h9 <;> simp [defaultValue] at h9
          | _ => rfl
        rw [List.map_congr_left hz, List.map_id']
      rw [this]
    show va_P D cl (y_ws (y_up r M.1.length q) kA (M.1 ++ [.inr (ci, fs)])) H1 ∧ va_D A (y_ws (y_up r M.1.length q) kA (M.1 ++ [.inr (ci, fs)]))
    rw [y_ws_up w1 w4, e4]
    exact ⟨q1, q2⟩
theorem y_newaW (hx : p.tables.exec = Jvm.exec) (hb : c.code = cc) {tys : List (ClassId × FieldType)} (hK : va_K D cl tys s) (hA : ∀ q, s.heap.size ≤ q → A q) {ty : FieldType} {at' : ArrayType} (hty : newarray.typeOf at' = ty) (hkA : s.vm.findClass ("[" ++ ty.toString) = some (kA ty)) (harr : (Cond.arrayClass ty).before args s = true)
    {pc : Nat} {ls : y_L} {st : List Value} {M : y_M} {F : y_F} (hdg : decode cc pc = .ok (.newarray at', 2)) (h : y_newa ty pc ls st M = some F) (hR1 : F.2.2.2.2.1 - c0 ≤ R.cells) (hR2 : F.2.2.2.2.2 - s0 ≤ R.slots)
    (kk : y_Wd p l e R s m args below meth c D cl kA A r0 n0 c0 s0 nL Q F) : y_Wd p l e R s m args below meth c D cl kA A r0 n0 c0 s0 nL Q (pc, ls, st, M) := by
  intro r H locs la hE hn hc hs hw hS hl
  unfold y_newa at h
  split at h
  case h_2 => cases h
  rename_i n t
  split at h
  case h_2 => cases h
  rename_i hbq
  cases h
  simp only [Bool.and_eq_true, Bool.not_eq_true', decide_eq_false_iff_not] at hbq
  obtain ⟨⟨⟨b1, b2⟩, b3⟩, b4⟩ := hbq
  have b4 := Nat.ble_eq.mp b4
  obtain ⟨w1, w2, w3, w4⟩ := y_wf_ok b1
  have hty2 := (y_tyEq_ok b2).2
  have hcb : n.toNatClampNeg * componentBytes ty ≤ 536870912 := by
    rcases hty2 with rfl | rfl
    · show n.toNatClampNeg * 4 ≤ _; omega
    · show n.toNatClampNeg * 1 ≤ _; omega
  have hdef : ∀ cA : ClassId, vp_cell cA (n.toNatClampNeg, .inl (fun _ => 0)) = arrV cA n.toNatClampNeg (fun _ => defaultValue ty) := by
    rcases hty2 with rfl | rfl <;> exact fun _ => rfl
  dsimp only at hn hc hs hw hl hR1 hR2 ⊢
  refine va_newa (a0 := (n.toNatClampNeg, .inl (fun _ => 0))) hx hb (by rw [hty]; exact harr) hty hK hw.1 hw.2 hS hA hdef b3 rfl hcb (by omega) (by omega) hdg (fun q cA H1 hK1 q1 q2 q3 => ?_)
  have hcA : cA = kA ty := by
    have := (hK1.2 tys.length (cA, ty) (by simp)).2
    rcases hty2 with rfl | rfl
    · exact Option.some.inj (Eq.trans (Eq.symm this) hkA)
    · exact Option.some.inj (Eq.trans (Eq.symm this) hkA)
  subst hcA
  have key := kk (y_up r M.1.length q) H1 locs la (y_Ext_up hE hn w1) (by simp; omega) (by dsimp only; omega) (by dsimp only; omega) ?_ q3 (by rw [y_tL_up (Nat.le_refl _) w1 w3]; exact hl)
  · dsimp only at key
    have e1 : M.2.1 + 1 - c0 = M.2.1 - c0 + 1 := by omega
    have e2 : M.2.2 + n.toNatClampNeg - s0 = M.2.2 - s0 + n.toNatClampNeg := by omega
    rw [e1, e2] at key
    have e3 : y_ts (y_up r M.1.length q) (Value.ref M.1.length :: t) = Value.ref q :: y_ts r t := by
      show Value.ref (y_up r M.1.length q M.1.length) :: y_ts (y_up r M.1.length q) t = _
      rw [y_ts_up (Nat.le_refl _) w1 w2]
      simp [y_up]
    rw [e3] at key
    exact key
  · show va_P D cl (y_ws (y_up r M.1.length q) kA (M.1 ++ [.inl (ty, n.toNatClampNeg, fun _ => 0)])) H1 ∧ va_D A (y_ws (y_up r M.1.length q) kA (M.1 ++ [.inl (ty, n.toNatClampNeg, fun _ => 0)]))
    rw [y_ws_up w1 w4]
    exact ⟨q1, q2⟩
theorem y_switchW (hx : p.tables.exec = Jvm.exec) (hb : c.code = cc) {dflt lo hi : Int} {offs : Array Int} {len pc : Nat} {ls : y_L} {st : List Value} {M : y_M} {F : y_F} (hdg : decode cc pc = .ok (.tableswitch dflt lo hi offs, len)) (h : y_switch dflt lo hi offs pc ls st M = some F)
    (kk : y_Wd p l e R s m args below meth c D cl kA A r0 n0 c0 s0 nL Q F) : y_Wd p l e R s m args below meth c D cl kA A r0 n0 c0 s0 nL Q (pc, ls, st, M) := by
  intro r H locs la hE hn hc hs hw hS hl
  unfold y_switch at h
  split at h
  case h_2 => cases h
  rename_i x t
  split at h
  · rename_i hq
    obtain ⟨tg, ht, rfl⟩ := y_go_spec h
    exact lv_tableOut hx hb hdg hq ht (kk r H locs la hE hn hc hs hw hS hl)
  · rename_i hq
    split at h
    case h_2 => cases h
    rename_i off ho
    obtain ⟨tg, ht, rfl⟩ := y_go_spec h
    exact lv_tableIn hx hb hdg (fun z => hq (Or.inl z)) (fun z => hq (Or.inr z)) ho ht (kk r H locs la hE hn hc hs hw hS hl)
end YMakes
