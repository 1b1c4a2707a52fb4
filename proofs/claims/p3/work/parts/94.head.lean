/-! HEAD of the law: the two constructors, in the exact machine. -/
theorem z_toP {L : Nat} {xs : Nat → Int32} {d mi : Nat} {F : q_F (List (Nat × Int32))} {res : q_R (List (Nat × Int32))} (h : q_Runs q_KL z_Pn d mi F res) : q_Runs q_KL (z_P L xs) d mi F res := by
  obtain ⟨n, h⟩ := h
  refine q_Runs.ext (P := z_Pn) (O := fun a => bif Nat.beq a 1900000 then some (.inl (.int, L, xs)) else z_far a) (fun a c hc => ?_) h
  have hc : z_far a = some c := hc
  cases hb : Nat.beq a 1900000 with
  | true =>
    rw [Nat.eq_of_beq_eq_true hb] at hc
    cases hc
  | false => exact hc
theorem z_toY {P : y_P} {d mi : Nat} {F : q_F (List (Nat × Int32))} {res : q_R (List (Nat × Int32))} (h : q_Runs q_KL P d mi F res) (hw : y_wf F.2.1 F.2.2.1 (q_aM q_KL F.2.2.2).1 = true) : y_Runs P d mi (q_aF q_KL F) (q_aR q_KL res) := by
  obtain ⟨n, h⟩ := h
  exact ⟨n, (q_run_ok q_KL_law h hw).1⟩
set_option maxRecDepth 100000 in
theorem z_headY {L : Nat} {xs : Nat → Int32} {res : y_R} (h : y_Runs (z_P L xs) 1300 0 (18, [(3, .int 0), (2, .ref 43), (1, .ref 0), (0, .ref 1900000)], [], q_aM q_KL z_m_c95) res) : y_Runs (z_P L xs) 1300 0 (0, [(0, .ref 1900000)], [], ([], 0, 0)) res := by
  refine y_Runs.adv (n := 2) (F' := (4, [(0, .ref 1900000)], [.ref 0, .ref 0], q_aM q_KL z_m_c1)) rfl ?_
  refine y_Runs.ret (d := 1299) (kd := 2) (idx := 9) (kind := 2) (cm := 1) (k := 1) (ci := 0) (v := none) (M' := q_aM q_KL z_m_c71) rfl (Or.inr (Or.inr ⟨rfl, rfl⟩)) rfl (by decide) (by decide) (by decide) ⟨Or.inl rfl, by decide, by decide, rfl, Nat.le_of_ble_eq_true rfl, fun e => absurd e (by decide), fun _ => rfl, fun e => absurd e (by decide)⟩ (z_toY (z_toP z_ctor1) rfl) ?_
  refine y_Runs.adv (n := 3) (F' := (12, [(1, .ref 0), (0, .ref 1900000)], [.ref 43, .ref 43], q_aM q_KL z_m_c74)) rfl ?_
  refine y_Runs.ret (d := 1299) (kd := 2) (idx := 12) (kind := 2) (cm := 204) (k := 1) (ci := 9) (v := none) (M' := q_aM q_KL z_m_c95) rfl (Or.inr (Or.inr ⟨rfl, rfl⟩)) rfl (by decide) (by decide) (by decide) ⟨Or.inl rfl, by decide, by decide, rfl, Nat.le_of_ble_eq_true rfl, fun e => absurd e (by decide), fun _ => rfl, fun e => absurd e (by decide)⟩ (z_toY (z_toP z_ctor2) rfl) ?_
  exact y_Runs.adv (n := 3) (F' := (18, [(3, .int 0), (2, .ref 43), (1, .ref 0), (0, .ref 1900000)], [], q_aM q_KL z_m_c95)) rfl h
