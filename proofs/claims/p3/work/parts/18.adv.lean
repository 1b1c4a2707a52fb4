/-! ADV: several steps of one method that are no calls, at once. -/
section YAdv
/-- calls and ends -/
def y_isCtl : Instr → Bool
  | .ireturn => true
  | .lreturn => true
  | .return_ => true
  | .athrow => true
  | .invokevirtual _ => true
  | .invokestatic _ => true
  | .invokespecial _ => true
  | _ => false
def y_adv1 (P : y_P) (mi : Nat) (F : y_F) : Option y_F := match F with
  | (pc, ls, st, M) => (match y_ins P mi pc with
    | none => none
    | some (i, _) => (match y_isCtl i with
      | true => none
      | false => (match y_cell P mi i pc ls st M with
        | some F' => some F'
        | none => (match y_outs (y_far0 P) (y_fld P mi) (y_con P mi) i pc ls st M with
          | some F' => some F'
          | none => y_mkE P mi i pc ls st M))))
def y_adv (P : y_P) (mi : Nat) : Nat → y_F → Option y_F
  | 0, F => some F
  | n + 1, F => (match y_adv1 P mi F with
    | some F' => y_adv P mi n F'
    | none => none)
variable {P : y_P}
theorem y_one_other {go : Nat → Nat → y_F → Option y_R} {d mi pc len : Nat} {i : Instr} {ls : y_L} {st : List Value} {M : y_M} (hi : y_ins P mi pc = some (i, len)) (hc : y_isCtl i = false) : y_one P go d mi (pc, ls, st, M) = (match y_cell P mi i pc ls st M with
    | some F' => go d mi F'
    | none => (match y_outs (y_far0 P) (y_fld P mi) (y_con P mi) i pc ls st M with
      | some F' => go d mi F'
      | none => (match y_mkE P mi i pc ls st M with
        | some F' => go d mi F'
        | none => none))) := by
  unfold y_one
  dsimp only
  rw [hi]
  dsimp only
  cases i <;> first | (cases hc; done) | rfl
theorem y_adv1_ok {mi : Nat} {F F' : y_F} (h : y_adv1 P mi F = some F') (go : Nat → Nat → y_F → Option y_R) (d : Nat) : y_one P go d mi F = go d mi F' := by
  obtain ⟨pc, ls, st, M⟩ := F
  unfold y_adv1 at h
  dsimp only at h
  cases hi : y_ins P mi pc with
  | none => rw [hi] at h; cases h
  | some q =>
    obtain ⟨i, len⟩ := q
    rw [hi] at h
    dsimp only at h
    cases hctl : y_isCtl i with
    | true => rw [hctl] at h; cases h
    | false =>
      rw [hctl] at h
      dsimp only at h
      rw [y_one_other hi hctl]
      cases hc : y_cell P mi i pc ls st M with
      | some F1 => rw [hc] at h; cases h; rfl
      | none =>
        rw [hc] at h
        dsimp only at h ⊢
        cases ho : y_outs (y_far0 P) (y_fld P mi) (y_con P mi) i pc ls st M with
        | some F1 => rw [ho] at h; cases h; rfl
        | none =>
          rw [ho] at h
          dsimp only at h ⊢
          rw [h]
theorem y_Runs.adv {mi d : Nat} {res : y_R} : ∀ {n : Nat} {F F' : y_F}, y_adv P mi n F = some F' → y_Runs P d mi F' res → y_Runs P d mi F res
  | 0, _, _, h, h2 => by cases h; exact h2
  | n + 1, F, F', h, h2 => by
    unfold y_adv at h
    cases h1 : y_adv1 P mi F with
    | none => rw [h1] at h; cases h
    | some F1 =>
      rw [h1] at h
      exact y_Runs.step (fun go => y_adv1_ok h1 go d) (y_Runs.adv h h2)
end YAdv
