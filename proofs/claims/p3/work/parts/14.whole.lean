/-! WHOLE RUNS: every run of the small machine is a run of the real one. -/
section YWhole
variable {p : Program} {l : Launch} {e : Env} {R : Room} {s : State} {m : MethodId} {args : Array Value} {below : List Frame} {meth : Method} {c : Code}
variable {P : y_P} {nm : Nat → MethodName} {cd : Nat → ByteArray} {hh : Nat → List (Nat × Nat × Nat × Nat)} {Ts : List Cond} {X : State → Prop} {D : va_G} {cl : List vw_C} {kA : FieldType → ClassId} {tys : List (ClassId × FieldType)} {A : Nat → Prop} {ρ : Nat → Nat} {go : Nat → Nat → y_F → Option y_R}
theorem y_OutOk.re {s : State} {args : Array Value} {own : String} {O : Nat → Option y_C} {fld : Nat → Option (Nat × Nat × Nat × FieldType)} {con : Nat → Option Value} {r0 : Nat → Nat} (hr : ∀ k, 1000000 ≤ k → r0 k = ρ k) (h : y_OutOk s args own A ρ O fld con) : y_OutOk s args own A r0 O fld con := by
  obtain ⟨o1, o2, o3, o4⟩ := h
  refine ⟨fun a ci fs idx k fin ty v h1 h2 h3 => ?_, fun a n f ty h1 => ?_, fun idx a h1 => ?_, fun idx v h1 => ?_⟩
  · obtain ⟨g1, g2, o, n, d, ref, g3, g4, g5⟩ := o1 a ci fs idx k fin ty v h1 h2 h3
    refine ⟨g1, g2, o, n, d, ref, ?_, g4, g5⟩
    have e1 : y_tv r0 v = y_tv ρ v := by
      cases v with
      | ref k => exact congrArg Value.ref (hr k (Nat.ble_eq.mp g2))
      | retAddr k => exact y_tv_op (hr _ (by omega))
      | _ => rfl
    rw [e1, hr a g1]
    exact g3
  · obtain ⟨g1, g2⟩ := o2 a n f ty h1
    exact ⟨g1, by rw [hr a g1]; exact g2⟩
  · obtain ⟨g1, tx, g2⟩ := o3 idx a h1
    exact ⟨g1, tx, by rw [hr a g1]; exact g2⟩
  · obtain ⟨g0, C, n, d, ref, g1, g2, g3⟩ := o4 idx v h1
    refine ⟨g0, C, n, d, ref, ?_, g2, g3⟩
    have e1 : y_tv r0 v = y_tv ρ v := by
      cases v with
      | ref k => exact congrArg Value.ref (hr k (Nat.ble_eq.mp g0))
      | retAddr k => exact y_tv_op (hr _ (by omega))
      | _ => rfl
    rw [e1]
    exact g1
theorem y_cellW (hSys : y_Sys P nm cd hh Ts X D cl kA tys A ρ) {mi pc len : Nat} {i : Instr} {ls : y_L} {st : List Value} {M : y_M} {F : y_F} (hdg : decode (cd mi) pc = .ok (i, len)) (hlen : len = y_len i ∨ ∃ d lo hi o, i = .tableswitch d lo hi o) (h : y_cell P mi i pc ls st M = some F)
    (hH : y_Here P nm cd hh Ts X A mi p s m args meth c) {r0 : Nat → Nat} {n0 c0 s0 : Nat} {Q : State → Prop} (hR1 : F.2.2.2.2.1 - c0 ≤ R.cells) (hR2 : F.2.2.2.2.2 - s0 ≤ R.slots)
    (kk : y_Wd p l e R s m args below meth c D cl kA A r0 n0 c0 s0 (y_met P mi).1 Q F) : y_Wd p l e R s m args below meth c D cl kA A r0 n0 c0 s0 (y_met P mi).1 Q (pc, ls, st, M) := by
  obtain ⟨S1, S2, S3, S4, S5, S6, S7, S8, S9, S10⟩ := hSys
  obtain ⟨hx, hb, hml, hown, hts, hX, hret, hlocks, hname, hex, hA⟩ := hH
  obtain ⟨f1, f2, f3, f4, f5⟩ := S2 mi s args hX hts
  obtain ⟨k1, k2, k3, k4, k5, k6, k7⟩ := S3 s args hX hts
  have hlen' : ∀ {j : Instr}, i = j → (∀ d lo hi o, j ≠ .tableswitch d lo hi o) → len = y_len j := fun {j} e1 e2 => by
    rcases hlen with h | ⟨d, lo, hi, o, h⟩
    · rw [h, e1]
    · exact absurd (e1.symm.trans h) (e2 d lo hi o)
  unfold y_cell at h
  split at h
  · have e1 := hlen' rfl (by intros; simp); subst e1; exact y_getfW hx hb hts hown k1 f1 hdg h kk
  · have e1 := hlen' rfl (by intros; simp); subst e1; exact y_putfW hx hb hts hown k1 (fun q => by rw [hname]; exact S7 mi q) f1 hdg h kk
  · have e1 := hlen' rfl (by intros; simp); subst e1; exact y_aldW hx hb k1 k2 k3 (Or.inl ⟨rfl, rfl⟩) hdg h kk
  · have e1 := hlen' rfl (by intros; simp); subst e1; exact y_aldW hx hb k1 k2 k3 (Or.inr ⟨rfl, rfl⟩) hdg h kk
  · have e1 := hlen' rfl (by intros; simp); subst e1; exact y_astW hx hb k1 k2 k3 (Or.inl ⟨rfl, rfl⟩) hdg h kk
  · have e1 := hlen' rfl (by intros; simp); subst e1; exact y_astW hx hb k1 k2 k3 (Or.inr ⟨rfl, rfl⟩) hdg h kk
  · have e1 := hlen' rfl (by intros; simp); subst e1; exact y_alenW hx hb k1 k2 k3 hdg h kk
  · have e1 := hlen' rfl (by intros; simp); subst e1; exact y_newW hx hb hts hown k1 hA f2 hdg h hR1 hR2 kk
  · have e1 := hlen' rfl (by intros; simp); subst e1; exact y_newaW (ty := .int) (at' := .int) hx hb k1 hA rfl k4 k6 hdg h hR1 hR2 kk
  · have e1 := hlen' rfl (by intros; simp); subst e1; exact y_newaW (ty := .byte) (at' := .byte) hx hb k1 hA rfl k5 k7 hdg h hR1 hR2 kk
  · have e1 := hlen' rfl (by intros; simp); subst e1
    split at h
    case h_2 => cases h
    rename_i v hcn
    cases h
    intro r H locs la hE hn hc hs hw hS hl
    exact lv_ldc hx hb hown (f4.1 _ v hcn) hdg (kk r H locs la hE hn hc hs hw hS hl)
  · have e1 := hlen' rfl (by intros; simp); subst e1
    split at h
    case h_2 => cases h
    rename_i v hcn
    cases h
    intro r H locs la hE hn hc hs hw hS hl
    exact lv_ldcw hx hb hown (f4.1 _ v hcn) hdg (kk r H locs la hE hn hc hs hw hS hl)
  · have e1 := hlen' rfl (by intros; simp); subst e1
    split at h
    case h_2 => cases h
    rename_i v hcn
    cases h
    intro r H locs la hE hn hc hs hw hS hl
    exact lv_ldc2 hx hb hown (f4.2 _ v hcn) hdg (kk r H locs la hE hn hc hs hw hS hl)
  · exact y_switchW hx hb hdg h kk
  · rename_i hne
    rcases hlen with e1 | ⟨d, lo, hi, o, e1⟩
    · exact y_pureW hx hb hdg e1 h kk
    · exact absurd e1 (hne d lo hi o)
set_option maxHeartbeats 4000000 in
theorem y_mkEW (hSys : y_Sys P nm cd hh Ts X D cl kA tys A ρ) (htr : ∀ e : Env, l.admits e → e.platform.stackTraces = false) {mi pc len : Nat} {i : Instr} {ls : y_L} {st : List Value} {M : y_M} {F : y_F} (hdg : decode (cd mi) pc = .ok (i, len)) (hlen : len = y_len i ∨ ∃ d lo hi o, i = .tableswitch d lo hi o) (h : y_mkE P mi i pc ls st M = some F)
    (hH : y_Here P nm cd hh Ts X A mi p s m args meth c) (hf : 8 ≤ R.frames) (hlo : 256 ≤ R.locals) {r0 : Nat → Nat} {n0 c0 s0 : Nat} {Q : State → Prop} (hR1 : F.2.2.2.2.1 - c0 ≤ R.cells) (hR2 : F.2.2.2.2.2 - s0 ≤ R.slots)
    (kk : y_Wd p l e R s m args below meth c D cl kA A r0 n0 c0 s0 (y_met P mi).1 Q F) : y_Wd p l e R s m args below meth c D cl kA A r0 n0 c0 s0 (y_met P mi).1 Q (pc, ls, st, M) := by
  obtain ⟨S1, S2, S3, S4, S5, S6, S7, S8, S9, S10⟩ := hSys
  obtain ⟨hx, hb, hml, hown, hts, hX, hret, hlocks, hname, hex, hA⟩ := hH
  unfold y_mkE at h
  split at h
  case h_2 => cases h
  rename_i idx
  split at h
  case h_2 => cases h
  rename_i cE ic l1 ic' l2 hexc hi1 hi2
  split at h
  case h_2 => cases h
  rename_i hbq
  cases h
  simp only [Bool.and_eq_true] at hbq
  obtain ⟨⟨bq1, bq2⟩, bq3⟩ := hbq
  have hic : ic = ic' := Nat.eq_of_beq_eq_true bq1
  subst hic
  obtain ⟨w1, w2, w3, w4⟩ := y_wf_ok bq2
  have hwd : y_words st ≤ 6 := Nat.ble_eq.mp bq3
  have e0 : len = 3 := by
    rcases hlen with h | ⟨_, _, _, _, h⟩
    · exact h
    · cases h
  subst e0
  obtain ⟨g1, g1'⟩ := S1 mi (pc + 3) l1 _ hi1
  obtain ⟨g2, g2'⟩ := S1 mi (pc + 4) l2 _ hi2
  have e1 : l1 = 1 := by
    rcases g1' with h | ⟨_, _, _, _, h⟩
    · exact h
    · cases h
  have e2 : l2 = 3 := by
    rcases g2' with h | ⟨_, _, _, _, h⟩
    · exact h
    · cases h
  subst e1; subst e2
  obtain ⟨C, T, names, k1, k2, k3, k4, k5, ⟨vz, k6⟩, k7, k8⟩ := S10 mi idx cE ic s args hX hts hexc
  have hins : (Cond.instantiable C 6).before args s = true := k5 _ (by simp [Bundle.ownAtoms0])
  obtain ⟨hK, -⟩ := S3 s args hX hts
  have hcl := (hK.1 cE _ k1).2.1
  intro r H locs la hE hn hc hs hw hS hl
  dsimp only at hn hc hs hw hl hR1 hR2 ⊢
  refine W.newcK (n := 6) (cC := D.1 cE) hx hb hown k7 hins k8 rfl hdg (by omega) (by omega) hcl rfl (fun H' kC hkC hbl z1 o1 => ?_)
  refine lv_dup hx hb g1 rfl ?_
  intro T1 hT1 X1
  have hlt : H.size < H'.size := by omega
  obtain ⟨U', L, X2, hLb, hsz, hoth, ⟨ce, hce, hce1, hce2⟩, hst⟩ := x_mk X1 hx (htr e X1.admits) hown k2 k3 k5 k6 hS.2.2 (a := H.size) hcl hkC (by rw [hT1]; exact hbl) hS.1 (g := F0 m (pc + 3 + 1) la (Value.ref H.size :: Value.ref H.size :: y_ts r st)) rfl (by rw [hml]; exact hl.1) (rest := Value.ref H.size :: y_ts r st) rfl (by rw [hb]; exact g2) (by omega) (by
      have hw1 := y_words_ts r st
      have h9 : 2 * (F0 m (pc + 3 + 1) la (Value.ref H.size :: Value.ref H.size :: y_ts r st)).monitorRoom + ((Value.ref H.size :: y_ts r st).map fun v => v.category).sum ≤ 8 := lv_room (by
        show 1 + ((y_ts r st).map fun v => v.category).sum ≤ 8
        rw [hw1]; omega)
      have : 13 * (names.length + 1) + 41 ≤ 93 := by omega
      omega)
  have hkeep : ∀ q : Nat, q < H.size → U'.heap[q]? = H[q]? := fun q hq => by
    rw [hoth q (by omega), hT1]
    exact o1 q hq
  have hPn : va_P D cl (y_ws r kA M.1 ++ [(H.size, .inr (cE, []))]) U'.heap := by
    refine (hw.1.kept (fun k x hx => hkeep x.1 ((hw.1 k x hx).lt))).app (fun k x hx => ?_)
    have hz : k < 1 := (List.getElem?_eq_some_iff.mp hx).1
    rw [show k = 0 by omega] at hx
    cases hx
    exact ⟨_, k1, ce, hce, hce1, hce2, fun j hj => absurd hj (Nat.not_lt_zero j)⟩
  have hDn : va_D A (y_ws r kA M.1 ++ [(H.size, .inr (cE, []))]) := hw.2.push hw.1 rfl (hA _ hS.1)
  have hSn : va_S A s.heap U'.heap (locs ++ L) := ⟨by rw [hsz, hT1]; have := hS.1; omega, fun q h1 h2 => by rw [hkeep q (by have := hS.1; omega)]; exact hS.2.1 q h1 h2, fun q hq => by
    rcases List.mem_append.mp hq with h | h
    · exact hS.2.2 q h
    · rw [hLb q h]; exact hA _ hS.1⟩
  have key := kk (y_up r M.1.length H.size) U'.heap (locs ++ L) la (y_Ext_up hE hn w1) (by simp; omega) (by dsimp only; omega) (by dsimp only; omega) ?_ hSn (by rw [y_tL_up (Nat.le_refl _) w1 w3]; exact hl)
  · dsimp only at key
    have e1 : M.2.1 + 1 - c0 = M.2.1 - c0 + 1 := by omega
    have e2 : M.2.2 + 6 - s0 = M.2.2 - s0 + 6 := by omega
    rw [e1, e2] at key
    have e3 : y_ts (y_up r M.1.length H.size) (Value.ref M.1.length :: st) = Value.ref H.size :: y_ts r st := by
      show Value.ref (y_up r M.1.length H.size M.1.length) :: y_ts (y_up r M.1.length H.size) st = _
      rw [y_ts_up (Nat.le_refl _) w1 w2]
      simp [y_up]
    rw [e3] at key
    obtain ⟨t, a1, b1⟩ := key U' rfl X2
    exact ⟨t, hst t a1, b1⟩
  · show va_P D cl (y_ws (y_up r M.1.length H.size) kA (M.1 ++ [.inr (cE, [])])) U'.heap ∧ va_D A (y_ws (y_up r M.1.length H.size) kA (M.1 ++ [.inr (cE, [])]))
    rw [y_ws_up w1 w4]
    exact ⟨hPn, hDn⟩
set_option maxHeartbeats 4000000 in
theorem y_oneW (htr : ∀ e : Env, l.admits e → e.platform.stackTraces = false) (hSys : y_Sys P nm cd hh Ts X D cl kA tys A ρ) (hgo : y_Snd P nm cd hh Ts X D cl kA A ρ l go) (hmon : ∀ {d mi : Nat} {F : y_F} {res : y_R}, go d mi F = some res → y_le F.2.2.2 res.2) : y_Snd P nm cd hh Ts X D cl kA A ρ l (y_one P go) := by
  intro d mi F res h p e R s m args below meth c hH hd hlo r0 n0 c0 s0 hr0 hRc hRs
  obtain ⟨pc, ls, st, M⟩ := F
  have hSys' := hSys
  obtain ⟨S1, S2, S3, S4, S5, S6, S7, S8, S9, S10⟩ := hSys'
  have hH' := hH
  obtain ⟨hx, hb, hml, hown, hts, hX, hret, hlocks, hname, hex, hA⟩ := hH'
  unfold y_one at h
  dsimp only at h
  split at h
  case h_1 => cases h
  rename_i i len hins
  obtain ⟨hdg, hlen⟩ := S1 mi pc len i hins
  have hlen' : ∀ {j : Instr}, i = j → (∀ d lo hi o, j ≠ .tableswitch d lo hi o) → len = y_len j := fun {j} e1 e2 => by
    rcases hlen with h | ⟨d, lo, hi, o, h⟩
    · rw [h, e1]
    · exact absurd (e1.symm.trans h) (e2 d lo hi o)
  split at h
  · -- ireturn
    have e1 := hlen' rfl (by intros; simp); subst e1
    split at h
    case h_2 => cases h
    rename_i v ty hty
    split at h
    case isFalse => cases h
    rename_i hnar
    cases h
    intro r H locs la hE hn hc hs hw hS hl
    refine y_mono y_Z_of (W.zret (ty := ty) (v := v) hx hb (by rw [hret]; exact hty) ?_ (fun t ht hW => ⟨r, hE, by rw [ht]; exact hw, hS.F ht, rfl⟩) hS.2.2 hdg)
    unfold y_narB at hnar
    split at hnar
    · rfl
    · exact congrArg Value.int (of_decide_eq_true hnar)
    · exact congrArg Value.int (of_decide_eq_true hnar)
    · exact congrArg Value.int (of_decide_eq_true hnar)
    · cases hnar
  · -- lreturn
    have e1 := hlen' rfl (by intros; simp); subst e1
    split at h
    case h_2 => cases h
    rename_i v hty
    cases h
    intro r H locs la hE hn hc hs hw hS hl
    exact y_mono y_Z_of (W.lret (v := v) hx hb (by rw [hret]; exact hty) (fun t ht hW => ⟨r, hE, by rw [ht]; exact hw, hS.F ht, rfl⟩) hS.2.2 hdg)
  · -- return
    have e1 := hlen' rfl (by intros; simp); subst e1
    split at h
    case h_2 => cases h
    rename_i hty
    cases h
    intro r H locs la hE hn hc hs hw hS hl
    exact y_mono y_Z_of (W.vret hx hb (by rw [hret]; exact hty) (fun t ht hW => ⟨r, hE, by rw [ht]; exact hw, hS.F ht, rfl⟩) hS.2.2 hdg)
  · -- athrow
    have e1 := hlen' rfl (by intros; simp); subst e1
    split at h
    case h_2 => cases h
    rename_i a t hno
    cases h
    intro r H locs la hE hn hc hs hw hS hl T hT X'
    obtain ⟨hst, hrun, hend, hW, hsame⟩ := X'.athrowLeaves hx (g := F0 m pc la (y_ts r (Value.ref a :: t))) rfl rfl rfl (y_covers hSys hex hno) (a := r a) (rest := y_ts r t) rfl (by rw [hb]; exact hdg)
    exact ⟨_, hst, .threw (r a), hrun, hend, ⟨r, hE, by show y_World D cl kA A r M.1 T.heap; rw [hT]; exact hw, hS.F hT, rfl⟩, locs, ⟨hW, hsame⟩, hS.2.2⟩
  · have e1 := hlen' rfl (by intros; simp); subst e1
    exact y_callW hSys hgo hmon (Or.inl ⟨rfl, rfl⟩) hdg h hH hd hlo hr0 hRc hRs
  · have e1 := hlen' rfl (by intros; simp); subst e1
    exact y_callW hSys hgo hmon (Or.inr (Or.inl ⟨rfl, rfl⟩)) hdg h hH hd hlo hr0 hRc hRs
  · have e1 := hlen' rfl (by intros; simp); subst e1
    exact y_callW hSys hgo hmon (Or.inr (Or.inr ⟨rfl, rfl⟩)) hdg h hH hd hlo hr0 hRc hRs
  · split at h
    · rename_i F' hF
      have hm := hmon h
      have a1 := hm.2.1
      have a2 := hm.2.2
      exact y_cellW hSys hdg hlen hF hH (by omega) (by omega) (hgo d mi F' res h p e R s m args below meth c hH hd hlo r0 n0 c0 s0 hr0 hRc hRs)
    · split at h
      · rename_i F' hF
        obtain ⟨f1, f2, f3, f4, f5⟩ := S2 mi s args hX hts
        have hsw : len = y_len i := by
          rcases hlen with h | ⟨d, lo, hi, o, h⟩
          · exact h
          · subst h; cases hF
        exact y_outsW hx hb hown (f3.re hr0) hdg hsw hF (hgo d mi F' res h p e R s m args below meth c hH hd hlo r0 n0 c0 s0 hr0 hRc hRs)
      · split at h
        · rename_i F' hF
          have hm := hmon h
          have a1 := hm.2.1
          have a2 := hm.2.2
          exact y_mkEW hSys htr hdg hlen hF hH (by omega) (by omega) (by omega) (by omega) (hgo d mi F' res h p e R s m args below meth c hH hd hlo r0 n0 c0 s0 hr0 hRc hRs)
        · cases h
/-- EVERY RUN OF THE SMALL MACHINE IS A RUN OF THE REAL ONE -/
theorem y_sound (htr : ∀ e : Env, l.admits e → e.platform.stackTraces = false) (hSys : y_Sys P nm cd hh Ts X D cl kA tys A ρ) : ∀ n, y_Snd P nm cd hh Ts X D cl kA A ρ l (y_run P n)
  | 0 => fun _ _ _ _ h => by cases h
  | n + 1 => y_oneW htr hSys (y_sound htr hSys n) (fun h => y_run_M h)
end YWhole
