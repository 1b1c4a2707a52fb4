/-! RUNS: runs without counting steps; how they are put together. -/
section YRuns
variable {P : y_P} {go go' : Nat → Nat → y_F → Option y_R}
theorem y_call_le (hle : ∀ d mi F res, go d mi F = some res → go' d mi F = some res) {d mi kd idx pc : Nat} {ls : y_L} {st : List Value} {M : y_M} {res : y_R} (h : y_call P go d mi kd idx pc ls st M = some res) : y_call P go' d mi kd idx pc ls st M = some res := by
  unfold y_call at h ⊢
  cases hc : y_cal P mi idx with
  | none => rw [hc] at h; cases h
  | some q =>
    obtain ⟨kind, cm, k, ci⟩ := q
    rw [hc] at h
    dsimp only at h ⊢
    by_cases hk : kind = 3
    · rw [if_pos hk] at h ⊢
      split at h
      · split at h
        · rename_i hq; rw [if_pos hq]; exact hle _ _ _ _ h
        · cases h
      · cases h
    · rw [if_neg hk] at h ⊢
      by_cases hk5 : kind = 5
      · rw [if_pos hk5] at h ⊢
        cases hmm : y_math cm st with
        | none => rw [hmm] at h; cases h
        | some q =>
          obtain ⟨v, t⟩ := q
          rw [hmm] at h
          dsimp only at h ⊢
          split at h
          · rename_i hq; rw [if_pos hq]; exact hle _ _ _ _ h
          · cases h
      rw [if_neg hk5] at h ⊢
      by_cases hk6 : kind = 6
      · rw [if_pos hk6] at h ⊢
        split at h
        · split at h
          · rename_i hq; rw [if_pos hq]; exact hle _ _ _ _ h
          · cases h
        · cases h
      rw [if_neg hk6] at h ⊢
      split at h
      · rename_i hq
        rw [if_pos hq]
        cases d with
        | zero => cases h
        | succ d' =>
          dsimp only at h ⊢
          cases hr : go d' cm (0, lv_args 0 (st.take k).reverse, [], M) with
          | none => rw [hr] at h; cases h
          | some r1 =>
            rw [hr] at h
            rw [hle _ _ _ _ hr]
            obtain ⟨q1, M'⟩ := r1
            cases q1 with
            | inl v => exact hle _ _ _ _ h
            | inr a =>
              dsimp only at h ⊢
              cases hh : y_han P mi pc with
              | none => rw [hh] at h; exact h
              | some hq2 =>
                obtain ⟨hp, cE⟩ := hq2
                rw [hh] at h
                dsimp only at h ⊢
                split at h
                · split at h
                  · rename_i he; rw [if_pos he]; exact hle _ _ _ _ h
                  · cases h
                · cases h
      · cases h
theorem y_one_le (hle : ∀ d mi F res, go d mi F = some res → go' d mi F = some res) {d mi : Nat} {F : y_F} {res : y_R} (h : y_one P go d mi F = some res) : y_one P go' d mi F = some res := by
  obtain ⟨pc, ls, st, M⟩ := F
  unfold y_one at h ⊢
  dsimp only at h ⊢
  cases hi : y_ins P mi pc with
  | none => rw [hi] at h; cases h
  | some q =>
    obtain ⟨i, len⟩ := q
    rw [hi] at h
    dsimp only at h ⊢
    split at h
    · exact h
    · exact h
    · exact h
    · exact h
    · exact y_call_le hle h
    · exact y_call_le hle h
    · exact y_call_le hle h
    · cases hc : y_cell P mi i pc ls st M with
      | some F' => rw [hc] at h; exact hle _ _ _ _ h
      | none =>
        rw [hc] at h
        dsimp only at h ⊢
        cases ho : y_outs (y_far0 P) (y_fld P mi) (y_con P mi) i pc ls st M with
        | some F' => rw [ho] at h; exact hle _ _ _ _ h
        | none =>
          rw [ho] at h
          dsimp only at h ⊢
          cases hm : y_mkE P mi i pc ls st M with
          | some F' => rw [hm] at h; exact hle _ _ _ _ h
          | none => rw [hm] at h; cases h
theorem y_run_le : ∀ (n k : Nat) {d mi : Nat} {F : y_F} {res : y_R}, y_run P n d mi F = some res → y_run P (n + k) d mi F = some res
  | 0, _, _, _, _, _, h => by cases h
  | n + 1, k, d, mi, F, res, h => by
    rw [y_run_s] at h
    rw [show n + 1 + k = (n + k) + 1 by omega, y_run_s]
    exact y_one_le (fun d mi F res h => y_run_le n k h) h
/-- a run, whatever its steps -/
def y_Runs (P : y_P) (d mi : Nat) (F : y_F) (res : y_R) : Prop := ∃ n, y_run P n d mi F = some res
theorem y_Runs.of {n d mi : Nat} {F : y_F} {res : y_R} (h : y_run P n d mi F = some res) : y_Runs P d mi F res := ⟨n, h⟩
/-- one step that is no call -/
theorem y_Runs.step {d mi : Nat} {F F' : y_F} {res : y_R} (hs : ∀ go, y_one P go d mi F = go d mi F') (h : y_Runs P d mi F' res) : y_Runs P d mi F res := by
  obtain ⟨n, h⟩ := h
  exact ⟨n + 1, by rw [y_run_s, hs]; exact h⟩
/-- a call that returns -/
theorem y_Runs.ret {d mi cm k pc kd idx kind ci len : Nat} {i : Instr} {ls : y_L} {st : List Value} {M M' : y_M} {v : Option Value} {res : y_R} (hins : y_ins P mi pc = some (i, len)) (hi : (kd = 0 ∧ i = .invokevirtual idx) ∨ (kd = 1 ∧ i = .invokestatic idx) ∨ (kd = 2 ∧ i = .invokespecial idx)) (hcal : y_cal P mi idx = some (kind, cm, k, ci)) (hk : ¬ kind = 3) (hk5 : ¬ kind = 5) (hk6 : ¬ kind = 6)
    (hc : (kind = kd ∨ (kind = 4 ∧ kd = 0)) ∧ k ≤ st.length ∧ y_words (st.drop k) ≤ 8 ∧ y_wf ls (st.drop k) M.1 = true ∧ (lg_sl (st.take k).reverse).length ≤ (y_met P cm).1 ∧ (kind = 0 → y_recv ci (st.take k).reverse M.1 = true) ∧ (kind = 2 → y_isRef (st.take k).reverse = true) ∧ (kind = 4 → y_recvO (y_far0 P) ci (st.take k).reverse = true))
    (h1 : y_Runs P d cm (0, lv_args 0 (st.take k).reverse, [], M) (.inl v, M')) (h2 : y_Runs P (d + 1) mi (pc + 3, ls, v.toList ++ st.drop k, M') res) : y_Runs P (d + 1) mi (pc, ls, st, M) res := by
  obtain ⟨n1, h1⟩ := h1
  obtain ⟨n2, h2⟩ := h2
  have g1 := y_run_le n1 n2 h1
  have g2 := y_run_le n2 n1 h2
  rw [Nat.add_comm] at g2
  refine ⟨n1 + n2 + 1, ?_⟩
  rw [y_run_s]
  have hcall : y_call P (y_run P (n1 + n2)) (d + 1) mi kd idx pc ls st M = some res := by
    unfold y_call
    rw [hcal]
    dsimp only
    rw [if_neg hk, if_neg hk5, if_neg hk6, if_pos hc, g1]
    exact g2
  unfold y_one
  dsimp only
  rw [hins]
  dsimp only
  rcases hi with ⟨rfl, rfl⟩ | ⟨rfl, rfl⟩ | ⟨rfl, rfl⟩ <;> exact hcall
end YRuns
