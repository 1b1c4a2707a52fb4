/-! MORE: more fuel, and more that stands outside, change no run of the light machine. -/
section QMore
variable {ρ : Type} {K : q_K ρ} {P : y_P} {O : Nat → Option y_C}
def y_ext (P : y_P) (O : Nat → Option y_C) : y_P := (P.1, P.2.1, P.2.2.1, P.2.2.2.1, P.2.2.2.2.1, P.2.2.2.2.2.1, P.2.2.2.2.2.2.1, O, P.2.2.2.2.2.2.2.2)
theorem y_outs_ext {O0 : Nat → Option y_C} (hO : ∀ a c, O0 a = some c → O a = some c) {fld : Nat → Option (Nat × Nat × Nat × FieldType)} {con : Nat → Option Value} {i : Instr} {pc : Nat} {ls : y_L} {st : List Value} {M : y_M} {F : y_F} (h : y_outs O0 fld con i pc ls st M = some F) : y_outs O fld con i pc ls st M = some F := by
  unfold y_outs at h ⊢
  split at h
  · split at h
    · rename_i a t
      cases hOa : O0 a with
      | none => rw [hOa] at h; cases h
      | some c => rw [hOa] at h; rw [hO _ _ hOa]; exact h
    · cases h
  · split at h
    · rename_i ix a t
      cases hOa : O0 a with
      | none => rw [hOa] at h; cases h
      | some c => rw [hOa] at h; rw [hO _ _ hOa]; exact h
    · cases h
  · split at h
    · rename_i ix a t
      cases hOa : O0 a with
      | none => rw [hOa] at h; cases h
      | some c => rw [hOa] at h; rw [hO _ _ hOa]; exact h
    · cases h
  · split at h
    · rename_i a t
      cases hOa : O0 a with
      | none => rw [hOa] at h; cases h
      | some c => rw [hOa] at h; rw [hO _ _ hOa]; exact h
    · cases h
  · exact h
  · exact h
  · cases h
theorem q_outC_ext (hO : ∀ a c, y_far0 P a = some c → O a = some c) {mi : Nat} {i : Instr} {pc : Nat} {ls : y_L} {st : List Value} {M : q_M ρ} {F : q_F ρ} (h : q_outC P mi i pc ls st M = some F) : q_outC (y_ext P O) mi i pc ls st M = some F := by
  unfold q_outC at h ⊢
  cases h0 : y_outs (y_far0 P) (y_fld P mi) (y_con P mi) i pc ls st q_D0 with
  | none => rw [h0] at h; cases h
  | some F0 =>
    rw [h0] at h
    rw [show y_outs (y_far0 (y_ext P O)) (y_fld (y_ext P O) mi) (y_con (y_ext P O) mi) i pc ls st q_D0 = some F0 from y_outs_ext hO h0]
    exact h
theorem q_other_ext (hO : ∀ a c, y_far0 P a = some c → O a = some c) {mi : Nat} {i : Instr} {pc : Nat} {ls : y_L} {st : List Value} {M : q_M ρ} {F : q_F ρ} (h : q_other K P mi i pc ls st M = some F) : q_other K (y_ext P O) mi i pc ls st M = some F := by
  unfold q_other at h ⊢
  split at h
  · cases hq : q_out1 st with
    | true => rw [hq] at h; exact q_outC_ext hO h
    | false => rw [hq] at h; exact h
  · exact h
  · cases hq : q_out2 st with
    | true => rw [hq] at h; exact q_outC_ext hO h
    | false => rw [hq] at h; exact h
  · cases hq : q_out2 st with
    | true => rw [hq] at h; exact q_outC_ext hO h
    | false => rw [hq] at h; exact h
  · exact h
  · exact h
  · cases hq : q_out1 st with
    | true => rw [hq] at h; exact q_outC_ext hO h
    | false => rw [hq] at h; exact h
  · exact h
  · exact h
  · exact h
  · rename_i idx
    cases hc : y_con P mi (2 * idx) with
    | none =>
      rw [hc] at h
      rw [show y_con (y_ext P O) mi (2 * idx) = none from hc]
      exact q_outC_ext hO h
    | some v =>
      rw [hc] at h
      rw [show y_con (y_ext P O) mi (2 * idx) = some v from hc]
      cases v with
      | int x => exact h
      | _ => exact q_outC_ext hO h
  · exact h
  · exact h
  · exact q_outC_ext hO h
  · exact h
  · exact h
variable {go go' : Nat → Nat → q_F ρ → Option (q_R ρ)}
theorem y_recvO_ext {O0 : Nat → Option y_C} (hO : ∀ a c, O0 a = some c → O a = some c) {ci : Nat} {as : List Value} (h : y_recvO O0 ci as = true) : y_recvO O ci as = true := by
  unfold y_recvO at h ⊢
  split at h
  · rename_i a t
    cases hOa : O0 a with
    | none => rw [hOa] at h; cases h
    | some c => rw [hOa] at h; rw [hO _ _ hOa]; exact h
  · cases h
theorem q_fitB_ext (hO : ∀ a c, y_far0 P a = some c → O a = some c) {kind kd cm k ci : Nat} {st : List Value} {M : q_M ρ} (h : q_fitB P kind kd cm k ci st M = true) : q_fitB (y_ext P O) kind kd cm k ci st M = true := by
  unfold q_fitB at h ⊢
  obtain ⟨h1, h2⟩ := Bool.and_eq_true_iff.mp h
  refine Bool.and_eq_true_iff.mpr ⟨h1, ?_⟩
  cases h0 : Nat.beq kind 0 with
  | true => rw [h0] at h2; exact h2
  | false =>
    rw [h0] at h2
    cases h3 : Nat.beq kind 2 with
    | true => rw [h3] at h2; exact h2
    | false =>
      rw [h3] at h2
      cases h4 : Nat.beq kind 4 with
      | true => rw [h4] at h2; exact y_recvO_ext hO h2
      | false => rfl
theorem q_call_ext (hO : ∀ a c, y_far0 P a = some c → O a = some c) (hle : ∀ d mi F res, go d mi F = some res → go' d mi F = some res) {d mi kd idx pc : Nat} {ls : y_L} {st : List Value} {M : q_M ρ} {res : q_R ρ} (h : q_call K P go d mi kd idx pc ls st M = some res) : q_call K (y_ext P O) go' d mi kd idx pc ls st M = some res := by
  unfold q_call at h ⊢
  cases hc : y_cal P mi idx with
  | none => rw [hc] at h; cases h
  | some q =>
    obtain ⟨kind, cm, k, ci⟩ := q
    rw [hc] at h
    rw [show y_cal (y_ext P O) mi idx = some (kind, cm, k, ci) from hc]
    dsimp only at h ⊢
    cases h3 : Nat.beq kind 3 with
    | true =>
      rw [h3, cond_true] at h
      rw [cond_true]
      split at h
      case h_2 => cases h
      rename_i a t
      cases hb : (Nat.beq kd 2 && Nat.ble (y_words t) 8) with
      | false => rw [hb] at h; cases h
      | true => rw [hb] at h; exact hle _ _ _ _ h
    | false =>
      rw [h3, cond_false] at h
      rw [cond_false]
      cases h5 : Nat.beq kind 5 with
      | true =>
        rw [h5, cond_true] at h
        rw [cond_true]
        cases hmm : y_math cm st with
        | none => rw [hmm] at h; cases h
        | some q =>
          obtain ⟨v, t⟩ := q
          rw [hmm] at h
          dsimp only at h ⊢
          cases hb : (Nat.beq kd 1 && Nat.ble (y_words t) 8) with
          | false => rw [hb] at h; cases h
          | true => rw [hb] at h; exact hle _ _ _ _ h
      | false =>
        rw [h5, cond_false] at h
        rw [cond_false]
        cases h6 : Nat.beq kind 6 with
        | true =>
          rw [h6, cond_true] at h
          rw [cond_true]
          cases hcp : q_copy K st M with
          | none => rw [hcp] at h; cases h
          | some q =>
            obtain ⟨t, M'⟩ := q
            rw [hcp] at h
            dsimp only at h ⊢
            cases hb : (Nat.beq kd 1 && Nat.ble (y_words t) 8) with
            | false => rw [hb] at h; cases h
            | true => rw [hb] at h; exact hle _ _ _ _ h
        | false =>
          rw [h6, cond_false] at h
          rw [cond_false]
          cases hf : q_fitB P kind kd cm k ci st M with
          | false => rw [hf] at h; cases h
          | true =>
            rw [hf, cond_true] at h
            rw [q_fitB_ext hO hf, cond_true]
            cases d with
            | zero => cases h
            | succ d' =>
              dsimp only at h ⊢
              cases hr : go d' cm (0, lv_args 0 (st.take k).reverse, [], M) with
              | none => rw [hr] at h; cases h
              | some r1 =>
                rw [hr] at h
                rw [hle _ _ _ _ hr]
                obtain ⟨q1, M'⟩ := r1
                cases q1 with
                | inl v => exact hle _ _ _ _ h
                | inr a =>
                  dsimp only at h ⊢
                  cases hh : y_han P mi pc with
                  | none =>
                    rw [hh] at h
                    rw [show y_han (y_ext P O) mi pc = none from hh]
                    exact h
                  | some hq2 =>
                    obtain ⟨hp, cE⟩ := hq2
                    rw [hh] at h
                    rw [show y_han (y_ext P O) mi pc = some (hp, cE) from hh]
                    dsimp only at h ⊢
                    cases hM : M'.1[a]? with
                    | none => rw [hM] at h; cases h
                    | some c =>
                      rw [hM] at h
                      cases c with
                      | inl _ => cases h
                      | inr q =>
                        obtain ⟨cj, fs⟩ := q
                        dsimp only at h ⊢
                        cases hb : Nat.beq cE cj with
                        | false => rw [hb] at h; cases h
                        | true => rw [hb] at h; exact hle _ _ _ _ h
theorem q_one_ext (hO : ∀ a c, y_far0 P a = some c → O a = some c) (hle : ∀ d mi F res, go d mi F = some res → go' d mi F = some res) {d mi : Nat} {F : q_F ρ} {res : q_R ρ} (h : q_one K P go d mi F = some res) : q_one K (y_ext P O) go' d mi F = some res := by
  obtain ⟨pc, ls, st, M⟩ := F
  cases hi : y_ins P mi pc with
  | none =>
    unfold q_one at h
    dsimp only at h
    rw [hi] at h; cases h
  | some q =>
    obtain ⟨i, len⟩ := q
    have hi' : y_ins (y_ext P O) mi pc = some (i, len) := hi
    cases hctl : y_isCtl i with
    | false =>
      rw [q_one_other hi hctl] at h
      rw [q_one_other hi' hctl]
      cases ho : q_other K P mi i pc ls st M with
      | none => rw [ho] at h; cases h
      | some F' =>
        rw [ho] at h
        rw [q_other_ext hO ho]
        exact hle _ _ _ _ h
    | true =>
      unfold q_one at h ⊢
      dsimp only at h ⊢
      rw [hi] at h
      rw [hi']
      dsimp only at h ⊢
      cases i <;> first | (cases hctl; done) | skip
      case ireturn => exact h
      case lreturn => exact h
      case return_ => exact h
      case athrow => exact h
      case invokevirtual idx => exact q_call_ext hO hle h
      case invokestatic idx => exact q_call_ext hO hle h
      case invokespecial idx => exact q_call_ext hO hle h
theorem q_run_ext (hO : ∀ a c, y_far0 P a = some c → O a = some c) : ∀ (n k : Nat) {d mi : Nat} {F : q_F ρ} {res : q_R ρ}, q_run K P n d mi F = some res → q_run K (y_ext P O) (n + k) d mi F = some res
  | 0, _, _, _, _, _, h => by cases h
  | n + 1, k, d, mi, F, res, h => by
    rw [q_run_s] at h
    rw [show n + 1 + k = (n + k) + 1 by omega, q_run_s]
    exact q_one_ext hO (fun d mi F res h => q_run_ext hO n k h) h
end QMore
/-! QRUNS: runs of the light machine, put together. -/
section QRuns
variable {ρ : Type} {K : q_K ρ} {P : y_P}
theorem q_ext_id : y_ext P (y_far0 P) = P := rfl
theorem q_run_le (n k : Nat) {d mi : Nat} {F : q_F ρ} {res : q_R ρ} (h : q_run K P n d mi F = some res) : q_run K P (n + k) d mi F = some res := by
  have h1 := q_run_ext (O := y_far0 P) (fun _ _ h => h) n k h
  rw [q_ext_id] at h1
  exact h1
def q_Runs (K : q_K ρ) (P : y_P) (d mi : Nat) (F : q_F ρ) (res : q_R ρ) : Prop := ∃ n, q_run K P n d mi F = some res
def q_adv1 (K : q_K ρ) (P : y_P) (mi : Nat) (F : q_F ρ) : Option (q_F ρ) := match F with
  | (pc, ls, st, M) => (match y_ins P mi pc with
    | none => none
    | some (i, _) => (match y_isCtl i with
      | true => none
      | false => q_other K P mi i pc ls st M))
def q_adv (K : q_K ρ) (P : y_P) (mi : Nat) : Nat → q_F ρ → Option (q_F ρ)
  | 0, F => some F
  | n + 1, F => (match q_adv1 K P mi F with
    | some F' => q_adv K P mi n F'
    | none => none)
theorem q_adv1_ok {mi : Nat} {F F' : q_F ρ} (h : q_adv1 K P mi F = some F') (go : Nat → Nat → q_F ρ → Option (q_R ρ)) (d : Nat) : q_one K P go d mi F = go d mi F' := by
  obtain ⟨pc, ls, st, M⟩ := F
  unfold q_adv1 at h
  dsimp only at h
  cases hi : y_ins P mi pc with
  | none => rw [hi] at h; cases h
  | some q =>
    obtain ⟨i, len⟩ := q
    rw [hi] at h
    dsimp only at h
    cases hctl : y_isCtl i with
    | true => rw [hctl] at h; cases h
    | false =>
      rw [hctl] at h
      dsimp only at h
      rw [q_one_other hi hctl, h]
theorem q_Runs.adv {mi d : Nat} {res : q_R ρ} : ∀ {n : Nat} {F F' : q_F ρ}, q_adv K P mi n F = some F' → q_Runs K P d mi F' res → q_Runs K P d mi F res
  | 0, _, _, h, h2 => by cases h; exact h2
  | n + 1, F, F', h, h2 => by
    unfold q_adv at h
    cases h1 : q_adv1 K P mi F with
    | none => rw [h1] at h; cases h
    | some F1 =>
      rw [h1] at h
      obtain ⟨k, h3⟩ := q_Runs.adv h h2
      exact ⟨k + 1, by rw [q_run_s, q_adv1_ok h1]; exact h3⟩
/-- the end of a method -/
def q_fin (P : y_P) (mi : Nat) (F : q_F ρ) : Option (q_R ρ) := match F with
  | (pc, _, st, M) => (match y_ins P mi pc with
    | some (.ireturn, _) => (match st, (y_met P mi).2.2 with
      | [.int v], some ty => bif y_narB ty v then some (.inl (some (.int v)), M) else none
      | _, _ => none)
    | some (.return_, _) => (match st, (y_met P mi).2.2 with
      | [], none => some (.inl none, M)
      | _, _ => none)
    | _ => none)
theorem q_Runs.fin {mi d : Nat} {F : q_F ρ} {res : q_R ρ} (h : q_fin P mi F = some res) : q_Runs K P d mi F res := by
  obtain ⟨pc, ls, st, M⟩ := F
  refine ⟨1, ?_⟩
  rw [q_run_s]
  unfold q_fin at h
  unfold q_one
  dsimp only at h ⊢
  split at h
  · rename_i hi
    rw [hi]
    exact h
  · rename_i hi
    rw [hi]
    exact h
  · cases h
/-- what a call begins with: the method, its frame, what is left of the caller's stack -/
def q_ent1 (P : y_P) (mi kd idx : Nat) (st : List Value) (M : q_M ρ) : Option (Nat × q_F ρ × List Value) := match y_cal P mi idx with
  | some (kind, cm, k, ci) => bif Nat.beq kind 3 || Nat.beq kind 5 || Nat.beq kind 6 then none else bif q_fitB P kind kd cm k ci st M then some (cm, (0, lv_args 0 (st.take k).reverse, [], M), st.drop k) else none
  | none => none
def q_ent (P : y_P) (mi pc : Nat) (st : List Value) (M : q_M ρ) : Option (Nat × q_F ρ × List Value) := match y_ins P mi pc with
  | some (.invokevirtual idx, _) => q_ent1 P mi 0 idx st M
  | some (.invokestatic idx, _) => q_ent1 P mi 1 idx st M
  | some (.invokespecial idx, _) => q_ent1 P mi 2 idx st M
  | _ => none
theorem q_ent1_ok {go : Nat → Nat → q_F ρ → Option (q_R ρ)} {mi kd idx pc cm d : Nat} {ls : y_L} {st r : List Value} {M M' : q_M ρ} {F0 : q_F ρ} {v : Option Value} (h : q_ent1 P mi kd idx st M = some (cm, F0, r)) (h1 : go d cm F0 = some (.inl v, M')) : q_call K P go (d + 1) mi kd idx pc ls st M = go (d + 1) mi (pc + 3, ls, v.toList ++ r, M') := by
  unfold q_ent1 at h
  unfold q_call
  cases hc : y_cal P mi idx with
  | none => rw [hc] at h; cases h
  | some q =>
    obtain ⟨kind, cm', k, ci⟩ := q
    rw [hc] at h
    dsimp only at h ⊢
    cases h3 : Nat.beq kind 3 with
    | true => rw [h3] at h; cases h
    | false =>
      cases h5 : Nat.beq kind 5 with
      | true => rw [h3, h5] at h; cases h
      | false =>
        cases h6 : Nat.beq kind 6 with
        | true => rw [h3, h5, h6] at h; cases h
        | false =>
          rw [h3, h5, h6] at h
          cases hf : q_fitB P kind kd cm' k ci st M with
          | false => rw [hf] at h; cases h
          | true =>
            rw [hf] at h
            cases h
            dsimp only [cond_true, cond_false]
            rw [h1]
theorem q_Runs.call {d mi pc cm : Nat} {ls : y_L} {st r : List Value} {M M' : q_M ρ} {F0 : q_F ρ} {v : Option Value} {res : q_R ρ} (h : q_ent P mi pc st M = some (cm, F0, r)) (h1 : q_Runs K P d cm F0 (.inl v, M')) (h2 : q_Runs K P (d + 1) mi (pc + 3, ls, v.toList ++ r, M') res) : q_Runs K P (d + 1) mi (pc, ls, st, M) res := by
  obtain ⟨n1, h1⟩ := h1
  obtain ⟨n2, h2⟩ := h2
  have g1 := q_run_le n1 n2 h1
  have g2 := q_run_le n2 n1 h2
  rw [Nat.add_comm] at g2
  refine ⟨n1 + n2 + 1, ?_⟩
  rw [q_run_s]
  unfold q_ent at h
  unfold q_one
  dsimp only
  split at h
  · rename_i hi
    rw [hi]
    exact (q_ent1_ok h g1).trans g2
  · rename_i hi
    rw [hi]
    exact (q_ent1_ok h g1).trans g2
  · rename_i hi
    rw [hi]
    exact (q_ent1_ok h g1).trans g2
  · cases h
/-- a run with less outside is a run -/
theorem q_Runs.ext {O : Nat → Option y_C} {n d mi : Nat} {F : q_F ρ} {res : q_R ρ} (hO : ∀ a c, y_far0 P a = some c → O a = some c) (h : q_run K P n d mi F = some res) : q_Runs K (y_ext P O) d mi F res := ⟨n + 0, q_run_ext hO n 0 h⟩
end QRuns
