/-! HEAD: the law up to its loop. -/
theorem z_toP {L : Nat} {xs : Nat → Int32} {d mi : Nat} {F : q_F (List (Nat × Int32))} {res : q_R (List (Nat × Int32))} (h : q_Runs q_KL z_Pn d mi F res) : q_Runs q_KL (z_P L xs) d mi F res := by
  obtain ⟨n, h⟩ := h
  refine q_Runs.ext (P := z_Pn) (O := fun a => bif Nat.beq a 1900000 then some (.inl (.int, L, xs)) else z_far a) (fun a c hc => ?_) h
  have hc : z_far a = some c := hc
  cases hb : Nat.beq a 1900000 with
  | true =>
    rw [Nat.eq_of_beq_eq_true hb] at hc
    cases hc
  | false => exact hc
theorem z_toC {L : Nat} {xs : Nat → Int32} {n d mi : Nat} {F : q_F (List (Nat × Int32))} {res : q_R (List (Nat × Int32))} (h : q_run q_KL z_Pn n d mi F = some res) : q_Runs q_KL (z_P L xs) d mi F res := z_toP ⟨n, h⟩
set_option maxRecDepth 100000 in
theorem z_head {L : Nat} {xs : Nat → Int32} {res : q_R (List (Nat × Int32))} (h : q_Runs q_KL (z_P L xs) 1300 0 (18, [(3, .int 0), (2, .ref 43), (1, .ref 0), (0, .ref 1900000)], [], z_m_c95) res) : q_Runs q_KL (z_P L xs) 1300 0 (0, [(0, .ref 1900000)], [], ([], 0, 0)) res :=
  q_Runs.adv (n := 2) (F' := (4, [(0, .ref 1900000)], [.ref 0, .ref 0], z_m_c1)) rfl (q_Runs.call (d := 1299) rfl (z_toP z_ctor1) (q_Runs.adv (n := 3) (F' := (12, [(1, .ref 0), (0, .ref 1900000)], [.ref 43, .ref 43], z_m_c74)) rfl (q_Runs.call (d := 1299) rfl (z_toP z_ctor2) (q_Runs.adv (n := 3) (F' := (18, [(3, .int 0), (2, .ref 43), (1, .ref 0), (0, .ref 1900000)], [], z_m_c95)) rfl h))))
def z_sh (e : Int64) (k : Int32) : Int64 := (e.toUInt64 >>> (k.toInt64.toUInt64 &&& Int64.toUInt64 63)).toInt64
def z_tst (e : Int64) (k : Int32) : Int32 := lg_cmp (z_sh e k &&& 255) 0
theorem z_eqn {x : Int32} {b : Bool} (h : y_cmp .ne x 0 = b) : y_cmp .eq x 0 = !b := by
  rw [← h]
  show decide (x = 0) = !(!decide (x = 0))
  rw [Bool.not_not]
