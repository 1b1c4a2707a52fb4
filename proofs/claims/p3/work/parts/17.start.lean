/-! START: a run of the law in the small machine, and the claim's end. -/
section YStart
variable {p : Program} {l : Launch} {e : Env} {R : Room} {s : State} {m : MethodId} {args : Array Value} {below : List Frame} {meth : Method} {c : Code}
variable {P : y_P} {nm : Nat → MethodName} {cd : Nat → ByteArray} {hh : Nat → List (Nat × Nat × Nat × Nat)} {Ts : List Cond} {X : State → Prop} {D : va_G} {cl : List vw_C} {kA : FieldType → ClassId} {tys : List (ClassId × FieldType)} {A : Nat → Prop} {ρ : Nat → Nat}
theorem y_start (htr : ∀ e : Env, l.admits e → e.platform.stackTraces = false) (hSys : y_Sys P nm cd hh Ts X D cl kA tys A ρ) {n d mi : Nat} {as : List Value} {res : y_R} (hrun : y_run P n d mi (0, lv_args 0 as, [], ([], 0, 0)) = some res) (hH : y_Here P nm cd hh Ts X A mi p s m (y_ts ρ as).toArray meth c) (hlen : (lg_sl as).length ≤ (y_met P mi).1) (hd : d + 8 ≤ R.frames) (hlo : 256 + 64 * d ≤ R.locals) (hRc : res.2.2.1 ≤ R.cells) (hRs : res.2.2.2 ≤ R.slots) :
    W p l e R s m (y_ts ρ as).toArray below meth c s.heap [] 0 0 (y_Z below (y_ts ρ as).toArray s res.2.2.1 res.2.2.2 A (fun _ st o t => y_end D cl kA A ρ 0 res st o t)) (entryFrame m (y_ts ρ as).toArray (y_met P mi).1) := by
  have hl := lv_entry (y_ts ρ as) (n := (y_met P mi).1) (by rw [y_sl_len]; exact hlen)
  rw [y_tL_args] at hl
  rw [lg_entry_eq]
  have key := y_sound htr hSys n d mi _ res hrun p e R s m (y_ts ρ as).toArray below meth c hH hd hlo ρ 0 0 0 (fun _ _ => rfl) (by omega) (by omega) ρ s.heap [] _ (fun _ _ => rfl) (Nat.le_refl _) (Nat.le_refl _) (Nat.le_refl _) ⟨fun k q hq => by simp [y_ws] at hq, ⟨fun i j x y hx => by simp [y_ws] at hx, fun k q hq => by simp [y_ws] at hq⟩⟩ va_S.rf hl
  exact key
theorem y_toLaw {r0 : Nat → Nat} {n0 kc ks : Nat} {res : y_R} (hA : ∀ q, A q → s.heap.size ≤ q) (hres : res.1 = .inl (some (.int 1))) (hc : res.2.2.1 ≤ kc) (hs : res.2.2.2 ≤ ks) : ∀ t, y_Z below args s res.2.2.1 res.2.2.2 A (fun _ st o t => y_end D cl kA A r0 n0 res st o t) t →
    ∃ o, t.status = .running ∧ Ended t below o ∧ o = .returned (some (.int 1)) ∧ Framed s o t [] kc ks := by
  intro t h
  obtain ⟨o, h1, h2, ⟨r, -, -, -, h3⟩, L, ⟨h4, h5⟩, h6⟩ := h
  rw [hres] at h3
  have ho : o = .returned (some (.int 1)) := h3
  subst ho
  refine ⟨_, h1, h2, rfl, ⟨_, rfl⟩, h4, h5.weaken (fun y hy hlt => ?_) hc hs⟩
  exact absurd (hA _ (h6 y hy)) (Nat.not_le.mpr hlt)
end YStart
