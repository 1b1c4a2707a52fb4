/-! STEPS: one step of a run is sound, when the rest is. -/
section YSteps
variable {p : Program} {l : Launch} {e : Env} {R : Room} {s : State} {m : MethodId} {args : Array Value} {below : List Frame} {meth : Method} {c : Code}
variable {P : y_P} {nm : Nat → MethodName} {cd : Nat → ByteArray} {hh : Nat → List (Nat × Nat × Nat × Nat)} {Ts : List Cond} {X : State → Prop} {D : va_G} {cl : List vw_C} {kA : FieldType → ClassId} {tys : List (ClassId × FieldType)} {A : Nat → Prop} {ρ : Nat → Nat} {go : Nat → Nat → y_F → Option y_R}
theorem y_afterW {H : Heap} {locs : List Loc} {cells slots mc ms pc : Nat} {la : Array Slot} {st0 rest : List Value} {Qa : State → Outcome → State → Prop} {Q : State → Prop} (hr : x_Run p l e R s m args below meth c H locs cells slots mc ms (F0 m pc la st0) rest Qa A) (hS : va_S A s.heap H locs) (hQ : ∀ st o t, Qa st o t → va_F A st t)
    (kret : ∀ (v : Option Value) (st t : State) (locs1 : List Loc), Qa st (.returned v) t → va_S A s.heap t.heap locs1 → W p l e R s m args below meth c t.heap locs1 (cells + mc) (slots + ms) Q (F0 m (pc + 3) la (v.toList ++ rest)))
    (kthr : ∀ (x : Addr) (st t : State) (locs1 : List Loc), Qa st (.threw x) t → va_S A s.heap t.heap locs1 → ∀ T' : State, T'.heap = t.heap → Stand p l e R s m args below meth c T' locs1 (cells + mc) (slots + ms) → ∃ t2, Steps p.tables e below ((T'.setTop (F0 m pc la rest)).pushFrame (.throwing x)) t2 ∧ Q t2) :
    W p l e R s m args below meth c H locs cells slots Q (F0 m pc la st0) := by
  intro T hT X
  obtain ⟨o, st₀, t, T', L, h0, X', hL, e1, e2, hq, hst⟩ := hr T hT X
  obtain ⟨hz, hk⟩ := hQ _ _ _ hq
  rw [h0] at hz hk
  have hS' : va_S A s.heap t.heap (locs ++ L) := ⟨Nat.le_trans hS.1 hz, fun q h1 h2 => by rw [hk q (Nat.lt_of_lt_of_le h1 hS.1) h2]; exact hS.2.1 q h1 h2, fun q hq => by
    rcases List.mem_append.mp hq with h | h
    · exact hS.2.2 q h
    · exact hL q h⟩
  cases o with
  | returned v =>
    obtain ⟨t2, a1, b1⟩ := kret v st₀ t (locs ++ L) hq hS' T' e1 X'
    exact ⟨t2, hst t2 a1, b1⟩
  | threw x =>
    obtain ⟨t2, a1, b1⟩ := kthr x st₀ t (locs ++ L) hq hS' T' e1 X'
    exact ⟨t2, hst t2 a1, b1⟩
theorem y_covers {mi pc : Nat} (hSys : y_Sys P nm cd hh Ts X D cl kA tys A ρ) (hex : c.exceptionTable.toList.map (fun h => (h.startPc, h.endPc, h.handlerPc, h.catchType)) = hh mi) (h : y_han P mi pc = none) : ∀ x ∈ c.exceptionTable.toList, covers x pc = false := by
  obtain ⟨-, -, -, -, -, -, -, S8, -, -⟩ := hSys
  intro x hx
  have h1 := S8 mi pc h (x.startPc, x.endPc, x.handlerPc, x.catchType) (by rw [← hex]; exact List.mem_map_of_mem (f := fun h : ExceptionTableEntry => (h.startPc, h.endPc, h.handlerPc, h.catchType)) hx)
  cases hc : covers x pc with
  | false => rfl
  | true =>
    refine absurd ?_ h1
    simpa [covers] using hc
/-- a note that no handler takes leaves the method -/
theorem y_leave {T : State} {locs : List Loc} {cells slots : Nat} {res : y_R} {r r0 : Nat → Nat} {n0 a : Nat} {g : JFrame} (X' : Stand p l e R s m args below meth c T locs cells slots) (hlocks : meth.locks = false) (hg : g.method = m) (h1 : g.locked = none) (h2 : g.entered = []) (hout : ∀ x ∈ c.exceptionTable.toList, covers x g.pc = false)
    (hE : y_Ext r0 n0 r) (hw : y_World D cl kA A r res.2.1 T.heap) (hS : va_S A s.heap T.heap locs) (hres : res.1 = .inr a) :
    ∃ t2, Steps p.tables e below ((T.setTop g).pushFrame (.throwing (r a))) t2 ∧ y_Z below args s cells slots A (fun _ st o t => y_end D cl kA A r0 n0 res st o t) t2 := by
  obtain ⟨hst, hrun, hend, hW, hsame⟩ := X'.leaveThrown (r a) (g := g) hg h1 h2 hout
  refine ⟨_, hst, .threw (r a), hrun, hend, ⟨r, hE, hw, hS.F rfl, ?_⟩, locs, ⟨hW, hsame⟩, hS.2.2⟩
  rw [hres]
theorem y_take {k : Nat} {st as' : List Value} {b : Nat} {as : List Value} (h : (st.take k).reverse = .ref b :: as) : st = as.reverse ++ .ref b :: st.drop k := by
  have h1 : st.take k = as.reverse ++ [.ref b] := by
    have := congrArg List.reverse h
    rw [List.reverse_reverse] at this
    rw [this, List.reverse_cons]
  calc st = st.take k ++ st.drop k := (List.take_append_drop k st).symm
    _ = _ := by rw [h1, List.append_assoc]; rfl
theorem y_Ext_tr {r0 r r' : Nat → Nat} {n0 n : Nat} (h : y_Ext r0 n0 r) (h' : y_Ext r n r') (hn : n0 ≤ n) : y_Ext r0 n0 r' := fun k hk => by
  rw [h' k (by omega), h k hk]
theorem y_tv_ext {r r' : Nat → Nat} {n : Nat} (h : y_Ext r n r') {v : Value} (hv : y_ok n v = true) : y_tv r' v = y_tv r v := by
  cases v with
  | ref k =>
    simp only [y_ok, Bool.or_eq_true] at hv
    refine congrArg Value.ref (h k ?_)
    rcases hv with hv | hv
    · exact Or.inl (Nat.blt_eq.mp hv)
    · exact Or.inr (Nat.ble_eq.mp hv)
  | retAddr k => exact y_tv_op (h _ (Or.inr (by omega)))
  | _ => rfl
theorem y_ts_ext {r r' : Nat → Nat} {n : Nat} (h : y_Ext r n r') {st : List Value} (hv : y_oks n st = true) : y_ts r' st = y_ts r st := List.map_congr_left fun v hm => y_tv_ext h (List.all_eq_true.mp hv v hm)
theorem y_tL_ext {r r' : Nat → Nat} {n : Nat} (h : y_Ext r n r') {ls : y_L} (hv : y_okL n ls = true) : y_tL r' ls = y_tL r ls := List.map_congr_left fun v hm => by rw [y_tv_ext h (List.all_eq_true.mp hv v hm)]
theorem y_mathW {p : Program} {l : Launch} {e : Env} {R : Room} {s : State} {m : MethodId} {args : Array Value} {below : List Frame} {meth : Method} {c : Code} {H : Heap} {locs : List Loc} {cells slots : Nat} {Q : State → Prop} {cc : ByteArray} {la : Array Slot} {own : String} {idx cm pc : Nat} {st t : List Value} {v : Value} {r : Nat → Nat} (hx : p.tables.exec = Jvm.exec) (hb : c.code = cc) (b5 : c.maxLocals = la.size) (hown : s.vm.findClass own = some m.cls) (hmm : y_math cm st = some (v, t)) (o1 : (Cond.methodLink own idx (y_mname cm)).before args s = true) (o2 : (Cond.static (y_mname cm)).before args s = true) (o3 : (Cond.initialized "java/lang/Math").before args s = true) (p0 : cm = 0 → (Cond.code Lib.MathLoose.min_long.x Lib.MathLoose.min_long.code 4 (some .long)).before args s = true) (p1 : cm = 1 → (Cond.code Lib.Math.max.name Lib.Math.max.code 2 (some .int)).before args s = true) (p2 : cm = 2 → (Cond.code Lib.Math.min.name Lib.Math.min.code 2 (some .int)).before args s = true) (b1 : 1 ≤ R.frames) (b2 : (List.map (fun v => v.category) (List.map (y_tv r) t)).sum + 15 ≤ R.locals) (b3 : cells ≤ R.cells) (b4 : slots ≤ R.slots) (hdg : decode cc pc = .ok (.invokestatic idx, 3)) (kk : W p l e R s m args below meth c H locs cells slots Q (F0 m (pc + 3) la (List.map (y_tv r) (v :: t)))) : W p l e R s m args below meth c H locs cells slots Q (F0 m pc la (List.map (y_tv r) st)) := by
  rcases y_math_spec hmm with ⟨rfl, x, y, rfl, rfl⟩ | ⟨rfl, x, y, rfl, rfl⟩ | ⟨rfl, x, y, rfl, rfl⟩
  · exact va_mmin_long (x := x) (y := y) hx hb b5 hown o1 o2 o3 (p0 rfl) b1 b2 b3 b4 hdg kk
  · exact va_mmax (x := x) (y := y) hx hb b5 hown o1 o2 o3 (p1 rfl) b1 (by omega) b3 b4 hdg kk
  · exact va_mmin (x := x) (y := y) hx hb b5 hown o1 o2 o3 (p2 rfl) b1 (by omega) b3 b4 hdg kk
set_option maxHeartbeats 4000000 in
theorem y_callW (hSys : y_Sys P nm cd hh Ts X D cl kA tys A ρ) (hgo : y_Snd P nm cd hh Ts X D cl kA A ρ l go) (hmon : ∀ {d mi : Nat} {F : y_F} {res : y_R}, go d mi F = some res → y_le F.2.2.2 res.2) {d mi kd idx pc : Nat} {i : Instr} {ls : y_L} {st : List Value} {M : y_M} {res : y_R}
    (hi : (kd = 0 ∧ i = .invokevirtual idx) ∨ (kd = 1 ∧ i = .invokestatic idx) ∨ (kd = 2 ∧ i = .invokespecial idx)) (hdg : decode (cd mi) pc = .ok (i, 3)) (h : y_call P go d mi kd idx pc ls st M = some res)
    (hH : y_Here P nm cd hh Ts X A mi p s m args meth c) (hd : d + 8 ≤ R.frames) (hlo : 256 + 64 * d ≤ R.locals) {r0 : Nat → Nat} {n0 c0 s0 : Nat} (hr0 : ∀ k, 1000000 ≤ k → r0 k = ρ k) (hRc : res.2.2.1 - c0 ≤ R.cells) (hRs : res.2.2.2 - s0 ≤ R.slots) :
    y_Wd p l e R s m args below meth c D cl kA A r0 n0 c0 s0 (y_met P mi).1 (y_Z below args s (res.2.2.1 - c0) (res.2.2.2 - s0) A (fun _ st o t => y_end D cl kA A r0 n0 res st o t)) (pc, ls, st, M) := by
  have hSys' := hSys
  obtain ⟨S1, S2, S3, S4, S5, S6, S7, S8, S9, S10⟩ := hSys'
  have hH' := hH
  obtain ⟨hx, hb, hml, hown, hts, hX, hret, hlocks, hname, hex, hA⟩ := hH'
  obtain ⟨-, -, -, -, hCal⟩ := S2 mi s args hX hts
  unfold y_call at h
  split at h
  case h_1 => cases h
  rename_i kind cm k ci hcal
  obtain ⟨c3, c5, c6, ck0, ck4, ck1, ck2⟩ := hCal idx kind cm k ci hcal
  split at h
  · rename_i hk3
    split at h
    case h_2 => cases h
    rename_i a t
    split at h
    case isFalse => cases h
    rename_i hkd
    rcases hi with ⟨q, rfl⟩ | ⟨q, rfl⟩ | ⟨q, rfl⟩
    · omega
    · omega
    obtain ⟨o1, o2, o3⟩ := c3 hk3
    intro r H locs la hE hn hc hs hw hS hl
    have key := hgo d mi _ res h p e R s m args below meth c hH hd hlo r0 n0 c0 s0 hr0 hRc hRs r H locs la hE hn hc hs hw hS hl
    refine W.objInit (a := r a) (rest := y_ts r t) hx hb hown o1 o2 o3 rfl (by rw [hml]; exact hl.1) rfl hdg (by omega) ?_ key
    have hw1 := y_words_ts r t
    have : 2 * (F0 m pc la (y_ts r t)).monitorRoom + ((y_ts r t).map fun v => v.category).sum ≤ 8 := lv_room (by rw [hw1]; exact hkd.2)
    have e0 : (F0 m pc la (y_ts r (Value.ref a :: t))).monitorRoom = (F0 m pc la (y_ts r t)).monitorRoom := rfl
    show 2 * (F0 m pc la (y_ts r (Value.ref a :: t))).monitorRoom + _ + 12 ≤ R.locals
    rw [e0]
    omega
  · rename_i hk3
    split at h
    · rename_i hk5
      split at h
      case h_2 => cases h
      rename_i v t hmm
      split at h
      case isFalse => cases h
      rename_i hkd
      rcases hi with ⟨q, rfl⟩ | ⟨q, rfl⟩ | ⟨q, rfl⟩
      · clear c5; omega
      · have hc5 := c5 hk5
        clear c5 c3 c6 ck0 ck4 ck1 ck2 hCal
        have hm := hmon h
        intro r H locs la hE hn hc hs hw hS hl
        have key := hgo d mi _ res h p e R s m args below meth c hH hd hlo r0 n0 c0 s0 hr0 hRc hRs r H locs la hE hn hc hs hw hS hl
        have hw1 := y_words_ts r t
        have a1 := hm.2.1
        have a2 := hm.2.2
        dsimp only at a1 a2 hc hs
        have b1 : 1 ≤ R.frames := by clear hc5; omega
        have b2 : (List.map (fun v => v.category) (List.map (y_tv r) t)).sum + 15 ≤ R.locals := by
          clear hc5
          rw [show (List.map (fun v => v.category) (List.map (y_tv r) t)).sum = y_words t from hw1]; omega
        have b3 : M.2.1 - c0 ≤ R.cells := by clear hc5; omega
        have b4 : M.2.2 - s0 ≤ R.slots := by clear hc5; omega
        exact y_mathW hx hb (by rw [hml]; exact hl.1.symm) hown hmm hc5.1 hc5.2.1 hc5.2.2.1 hc5.2.2.2.1 hc5.2.2.2.2.1 hc5.2.2.2.2.2 b1 b2 b3 b4 hdg key
      · clear c5; omega
    rename_i hk5
    clear c5
    split at h
    · rename_i hk6
      split at h
      case h_2 => cases h
      rename_i t M2 hcp
      split at h
      case isFalse => cases h
      rename_i hkd
      rcases hi with ⟨q, rfl⟩ | ⟨q, rfl⟩ | ⟨q, rfl⟩
      · omega
      · obtain ⟨o1, o2, o3, o4⟩ := c6 hk6
        unfold y_copy at hcp
        split at hcp
        case h_2 => cases hcp
        rename_i n dp a1 sp a0 t'
        split at hcp
        case h_2 => cases hcp
        rename_i n0' f n1 g hM0 hM1'
        split at hcp
        case h_2 => cases hcp
        rename_i hbq
        cases hcp
        simp only [Bool.and_eq_true, Bool.not_eq_true', decide_eq_false_iff_not] at hbq
        obtain ⟨⟨⟨⟨b1, b2⟩, b3⟩, b4⟩, b5⟩ := hbq
        obtain ⟨k1, k2, -⟩ := S3 s args hX hts
        intro r H locs la hE hn hc hs hw hS hl
        have hw1 := y_words_ts r t
        refine va_copyi (sp := sp) (dp := dp) (n := n) (ty := .int) hx hb (by rw [hml]; exact hl.1.symm) hown o1 o2 o3 o4 k1 hw.1 hw.2 hS a0 a1 0 0 (y_ws_at hM0) (y_ws_at hM1') k2 k2 rfl b1 b2 b3 (Nat.ble_eq.mp b4) (Nat.ble_eq.mp b5) (fun _ _ => rfl) (by omega) ?_ hdg (fun H1 locs1 q1 q2 q3 => ?_)
        · rw [show (List.map (fun v => v.category) (List.map (y_tv r) t)).sum = y_words t from hw1]
          have : nativeFrameWords "java/lang/System" "arraycopy" 5 = 7 := by decide +kernel
          omega
        · refine hgo d mi _ res h p e R s m args below meth c hH hd hlo r0 n0 c0 s0 hr0 hRc hRs r H1 locs1 la hE (by simp only [List.length_set]; exact hn) hc hs ?_ q3 hl
          show va_P D cl (y_ws r kA (M.1.set a1 _)) H1 ∧ va_D A (y_ws r kA (M.1.set a1 _))
          rw [← y_ws_set]
          exact ⟨q1, q2⟩
      · omega
    rename_i hk6
    have hk356 : kind ≠ 3 ∧ kind ≠ 5 ∧ kind ≠ 6 := ⟨hk3, hk5, hk6⟩
    split at h
    case isFalse => cases h
    rename_i hg
    obtain ⟨gk, gl, gw, gf, ga, g0, g2, g4⟩ := hg
    obtain ⟨w1, w2, w3, w4⟩ := y_wf_ok gf
    cases d with
    | zero => cases h
    | succ d' =>
    dsimp only at h
    cases hrun : go d' cm (0, lv_args 0 (st.take k).reverse, [], M) with
    | none => rw [hrun] at h; cases h
    | some res1 =>
    rw [hrun] at h
    have hM1 : y_le M res1.2 := hmon hrun
    have hM2 : y_le res1.2 res.2 := by
      obtain ⟨q1, M'⟩ := res1
      cases q1 with
      | inl v => exact hmon h
      | inr a =>
        dsimp only at h
        split at h
        · cases h; exact y_le.rf
        · split at h
          · split at h
            · exact hmon h
            · cases h
          · cases h
    intro r H locs la hE hn hc hs hw hS hl
    dsimp only at hn hc hs hw hl
    have hrρ : ∀ k, 1000000 ≤ k → r k = ρ k := fun k hk => by rw [hE k (Or.inr hk)]; exact hr0 k hk
    have hCallee := y_callee (args := args) (s := s) (R := R) (l := l) hSys hgo hcal hk356 hrun hM1 ga hts hrρ (by omega) (by omega)
    have hPc : ∀ U : State, U.heap = H → s.WarmedH U.vm → y_Pc X D cl kA A r (st.take k).reverse M (y_ts r (st.take k).reverse).toArray U := fun U hU hW => ⟨rfl, S4 s U hX hW (by rw [hU]; exact hS.1) (fun q h1 h2 => by rw [hU]; exact hS.2.1 q h1 h2), by rw [hU]; exact hw, fun q hq => hA q (Nat.le_trans hS.1 (by rw [← hU]; exact hq))⟩
    have hf : (M.2.1 - c0) + (res1.2.2.1 - M.2.1) ≤ R.cells ∧ (M.2.2 - s0) + (res1.2.2.2 - M.2.2) ≤ R.slots := by
      have a1 := hM1.2.1; have a2 := hM1.2.2; have a3 := hM2.2.1; have a4 := hM2.2.2
      constructor <;> omega
    have hroom : 2 * (F0 m pc la (y_ts r st)).monitorRoom + ((y_ts r (st.drop k)).map fun v => v.category).sum ≤ 8 := lv_room (by rw [y_words_ts]; exact gw)
    have hklen : (st.take k).reverse.length = k := by rw [List.length_reverse, List.length_take]; omega
    have hdg' : decode c.code pc = .ok (i, 3) := by rw [hb]; exact hdg
    have hsz : la.size = c.maxLocals := by rw [hml]; exact hl.1
    obtain ⟨u1, u2, u3, u4, u5⟩ := S5 mi idx kind cm k ci hcal hk356
    have hXR : x_Run p l e R s m args below meth c H locs (M.2.1 - c0) (M.2.2 - s0) (res1.2.2.1 - M.2.1) (res1.2.2.2 - M.2.2) (F0 m pc la (y_ts r st)) (y_ts r (st.drop k)) (fun st o t => y_end D cl kA A r M.1.length res1 st o t) A := by
      rcases hi with ⟨rfl, rfl⟩ | ⟨rfl, rfl⟩ | ⟨rfl, rfl⟩
      · -- virtual
        obtain ⟨b, as', has, C, hlk, hin, hse, hds, hrv⟩ : ∃ (b : Nat) (as' : List Value), (st.take k).reverse = .ref b :: as' ∧ ∃ C : String, (Cond.methodLink (nm mi).cls idx (nm cm)).before args s = true ∧ (Cond.instanceMethod (nm cm)).before args s = true ∧ (Cond.selects C (nm cm) (nm cm)).before args s = true ∧ (∀ sig, parseMethodDescriptor (nm cm).desc = some sig → k = sig.parameters.length + 1) ∧ ∃ cell : Cell, H[r b]? = some cell ∧ cell.vm.isStatics = false ∧ s.vm.findClass C = some cell.cls := by
          rcases gk with gk | ⟨gk, -⟩
          · have gr := g0 gk
            obtain ⟨⟨C, T, N, hC, hse⟩, hlk, hin, hds⟩ := ck0 gk
            unfold y_recv at gr
            split at gr
            case h_2 => cases gr
            rename_i b as' has
            split at gr
            case h_2 => cases gr
            rename_i cj fs hMb
            have hcj : ci = cj := Nat.eq_of_beq_eq_true gr
            subst hcj
            exact ⟨b, as', has, C, hlk, hin, hse, hds, va_recv (S3 s args hX hts).1 hw.1 hC (y_ws_at hMb)⟩
          · have gr := g4 gk
            obtain ⟨⟨C, hse, hO⟩, hlk, hin, hds⟩ := ck4 gk
            unfold y_recvO at gr
            split at gr
            case h_2 => cases gr
            rename_i b as' has
            split at gr
            case h_2 => cases gr
            rename_i cj fs hOb
            have hcj : ci = cj := Nat.eq_of_beq_eq_true gr
            subst hcj
            obtain ⟨hb6, hva⟩ := hO b fs hOb
            obtain ⟨cell, z1, z2, z3, -⟩ := hva.kept hS.2.1
            exact ⟨b, as', has, C, hlk, hin, hse, hds, cell, by rw [hrρ b hb6]; exact z1, z2, z3⟩
        have hlenA : as'.length + 1 = k := by rw [has] at hklen; exact hklen
        refine x_runV (b := r b) (As := y_ts r as') (rest := y_ts r (st.drop k)) (C := C) (own := (nm mi).cls) hx hCallee hown hlk hin hse hrv ?_ rfl hsz ?_ ?_ hroom hdg' hf
        · intro U hU hW
          have := hPc U hU hW
          rw [has] at this
          exact ⟨by rw [has]; rfl, this.2⟩
        · intro sig hsig
          have := hds sig hsig
          show (as'.map (y_tv r)).length = _
          rw [List.length_map]
          omega
        · show y_ts r st = _
          have := y_take (as' := as') has
          conv => lhs; rw [this]
          unfold y_ts
          rw [List.map_append, List.map_reverse]
          rfl
      · -- static
        have gk1 : kind = 1 := by rcases gk with gk | ⟨-, gk⟩ <;> omega
        obtain ⟨hhn, hlk, hst, hds⟩ := ck1 gk1
        have hcode : (Cond.code (nm cm) (cd cm) (y_met P cm).1 (y_met P cm).2.2).before args s = true := by
          have := hts _ u1
          unfold y_w0 at this
          rw [hhn] at this
          exact this
        refine x_runS (As := y_ts r (st.take k).reverse) (rest := y_ts r (st.drop k)) (own := (nm mi).cls) hx hCallee hown hlk hst hcode (hts _ u2) hPc rfl hsz ?_ ?_ hroom hdg' hf
        · intro sig hsig
          have := hds sig hsig
          show (((st.take k).reverse).map (y_tv r)).length = _
          rw [List.length_map, hklen]
          exact this
        · show y_ts r st = _
          have h0 : st = (st.take k).reverse.reverse ++ st.drop k := by rw [List.reverse_reverse, List.take_append_drop]
          conv => lhs; rw [h0]
          unfold y_ts
          rw [List.map_append, List.map_reverse]
      · -- special
        have gk1 : kind = 2 := by rcases gk with gk | ⟨-, gk⟩ <;> omega
        obtain ⟨hhn, hrn, hy1, hlk, hin, hds⟩ := ck2 gk1
        have hcode : (Cond.code (nm cm) (cd cm) (y_met P cm).1 none).before args s = true := by
          have := hts _ u1
          unfold y_w0 at this
          rw [hhn, hrn] at this
          exact this
        have gr := g2 gk1
        unfold y_isRef at gr
        split at gr
        case h_2 => cases gr
        rename_i b as' has
        have hlenA : as'.length + 1 = k := by rw [has] at hklen; exact hklen
        refine x_runI (b := r b) (As := y_ts r as') (rest := y_ts r (st.drop k)) (own := (nm mi).cls) hx hCallee hown hy1 hlk hin hcode ?_ rfl hsz ?_ ?_ hroom hdg' hf
        · intro U hU hW
          have := hPc U hU hW
          rw [has] at this
          exact ⟨by rw [has]; rfl, this.2⟩
        · intro sig hsig
          have := hds sig hsig
          show (as'.map (y_tv r)).length = _
          rw [List.length_map]
          omega
        · show y_ts r st = _
          have := y_take (as' := as') has
          conv => lhs; rw [this]
          unfold y_ts
          rw [List.map_append, List.map_reverse]
          rfl
    refine y_afterW hXR hS (fun st o t h => h.choose_spec.2.2.1) ?_ ?_
    · intro v' st1 t locs1 hq hS1
      obtain ⟨r', hE', hw', -, hmt⟩ := hq
      obtain ⟨q1, M'⟩ := res1
      cases q1 with
      | inr a => cases hmt
      | inl v =>
        cases hmt
        dsimp only at h hw' hM1 hM2
        have key := hgo (d' + 1) mi _ res h p e R s m args below meth c hH hd hlo r0 n0 c0 s0 hr0 hRc hRs r' t.heap locs1 la (y_Ext_tr hE hE' hn) (Nat.le_trans hn hM1.1) (Nat.le_trans hc hM1.2.1) (Nat.le_trans hs hM1.2.2) hw' hS1 (by rw [y_tL_ext hE' w3]; exact hl)
        dsimp only at key
        have e1 : (M.2.1 - c0) + (M'.2.1 - M.2.1) = M'.2.1 - c0 := by have := hM1.2.1; omega
        have e2 : (M.2.2 - s0) + (M'.2.2 - M.2.2) = M'.2.2 - s0 := by have := hM1.2.2; omega
        have e3 : y_ts r' (v.toList ++ st.drop k) = (v.map (y_tv r')).toList ++ y_ts r (st.drop k) := by
          rw [← y_ts_ext hE' w2]
          unfold y_ts
          rw [List.map_append]
          cases v <;> rfl
        rw [e3] at key
        rw [e1, e2]
        exact key
    · intro x st1 t locs1 hq hS1 T' hT' X'
      obtain ⟨r', hE', hw', -, hmt⟩ := hq
      obtain ⟨q1, M'⟩ := res1
      cases q1 with
      | inl v => cases hmt
      | inr a =>
        cases hmt
        dsimp only at h hw' hM1 hM2 X'
        have e1 : (M.2.1 - c0) + (M'.2.1 - M.2.1) = M'.2.1 - c0 := by have := hM1.2.1; omega
        have e2 : (M.2.2 - s0) + (M'.2.2 - M.2.2) = M'.2.2 - s0 := by have := hM1.2.2; omega
        rw [e1, e2] at X'
        split at h
        · rename_i hno
          cases h
          exact y_leave (res := (.inr a, M')) (g := F0 m pc la (y_ts r (st.drop k))) X' hlocks rfl rfl rfl (y_covers hSys hex hno) (y_Ext_tr hE hE' hn) (by rw [hT']; exact hw') (by rw [hT']; exact hS1) rfl
        · rename_i hp cE hsome
          split at h
          case h_2 => cases h
          rename_i cj fs hMa
          split at h
          case isFalse => cases h
          rename_i hcE
          subst hcE
          obtain ⟨t1, t2, ty, rst, C, Tt, N, k1, k2, k3, k4, k5, k6⟩ := S9 mi pc hp cE s args hX hts hsome
          obtain ⟨cell, z1, z2, z3⟩ := va_recv (S3 s args hX hts).1 hw'.1 k6 (y_ws_at hMa)
          rw [k1] at hex
          cases htab : c.exceptionTable.toList with
          | nil => rw [htab] at hex; cases hex
          | cons x xs =>
          rw [htab, List.map_cons, List.cons.injEq] at hex
          obtain ⟨hx1, -⟩ := hex
          simp only [Prod.mk.injEq] at hx1
          obtain ⟨x1, x2, x3, x4⟩ := hx1
          obtain ⟨vm', X2, hst⟩ := x_caught X' (r' a) (g := F0 m pc la (y_ts r (st.drop k))) rfl hown htab (by simp [covers]; omega) (by rw [x4]; exact k4) (by rw [x4]; exact k5) z3 (by rw [hT']; exact z1) z2 (va_asg _ _)
          have key := hgo (d' + 1) mi _ res h p e R s m args below meth c hH hd hlo r0 n0 c0 s0 hr0 hRc hRs r' t.heap locs1 la (y_Ext_tr hE hE' hn) (Nat.le_trans hn hM1.1) (Nat.le_trans hc hM1.2.1) (Nat.le_trans hs hM1.2.2) hw' hS1 (by rw [y_tL_ext hE' w3]; exact hl)
          obtain ⟨t3, a3, b3⟩ := key (T'.setVm vm') hT' X2
          refine ⟨t3, hst t3 ?_, b3⟩
          rw [x3]
          exact a3
end YSteps
