/-! NEXT: several steps of one method, its calls run in whole. -/
section QNext
variable {ρ : Type} {K : q_K ρ} {P : y_P}
def q_kd : Instr → Option (Nat × Nat)
  | .invokevirtual idx => some (0, idx)
  | .invokestatic idx => some (1, idx)
  | .invokespecial idx => some (2, idx)
  | _ => none
noncomputable def q_nextC (K : q_K ρ) (P : y_P) (n d mi : Nat) (i : Instr) (pc : Nat) (ls : y_L) (st : List Value) (M : q_M ρ) : Option (q_F ρ) := match q_kd i with
  | none => none
  | some (kd, idx) => (match y_cal P mi idx with
    | none => none
    | some (kind, cm, k, ci) =>
      bif Nat.beq kind 3 then (match st with
        | .ref _ :: t => bif Nat.beq kd 2 && Nat.ble (y_words t) 8 then some (pc + 3, ls, t, M) else none
        | _ => none)
      else bif Nat.beq kind 5 then (match y_math cm st with
        | some (v, t) => bif Nat.beq kd 1 && Nat.ble (y_words t) 8 then some (pc + 3, ls, v :: t, M) else none
        | none => none)
      else bif Nat.beq kind 6 then (match q_copy K st M with
        | some (t, M') => bif Nat.beq kd 1 && Nat.ble (y_words t) 8 then some (pc + 3, ls, t, M') else none
        | none => none)
      else bif q_fitB P kind kd cm k ci st M then (match d with
        | 0 => none
        | d' + 1 => (match q_run K P n d' cm (0, lv_args 0 (st.take k).reverse, [], M) with
          | some (.inl v, M') => some (pc + 3, ls, v.toList ++ st.drop k, M')
          | some (.inr a, M') => (match y_han P mi pc, M'.1[a]? with
            | some (h, cE), some (.inr (cj, _)) => bif Nat.beq cE cj then some (h, ls, [.ref a], M') else none
            | _, _ => none)
          | none => none))
      else none)
noncomputable def q_next (K : q_K ρ) (P : y_P) (n d mi : Nat) (F : q_F ρ) : Option (q_F ρ) := match F with
  | (pc, ls, st, M) => (match y_ins P mi pc with
    | none => none
    | some (i, _) => (match y_isCtl i with
      | false => q_other K P mi i pc ls st M
      | true => q_nextC K P n d mi i pc ls st M))
theorem q_nextC_ok {n d mi pc len : Nat} {i : Instr} {ls : y_L} {st : List Value} {M : q_M ρ} {F' : q_F ρ} (hi : y_ins P mi pc = some (i, len)) (h : q_nextC K P n d mi i pc ls st M = some F') {m : Nat} (hm : n ≤ m) : q_one K P (q_run K P m) d mi (pc, ls, st, M) = q_run K P m d mi F' := by
  have hcall : ∀ kd idx, q_kd i = some (kd, idx) → q_call K P (q_run K P m) d mi kd idx pc ls st M = q_run K P m d mi F' := by
    intro kd idx hk
    unfold q_nextC at h
    rw [hk] at h
    dsimp only at h
    unfold q_call
    cases hc : y_cal P mi idx with
    | none => rw [hc] at h; cases h
    | some q =>
      obtain ⟨kind, cm, k, ci⟩ := q
      rw [hc] at h
      dsimp only at h ⊢
      cases h3 : Nat.beq kind 3 with
      | true =>
        rw [h3, cond_true] at h
        rw [cond_true]
        split at h
        case h_2 => cases h
        rename_i a t
        cases hb : (Nat.beq kd 2 && Nat.ble (y_words t) 8) with
        | false => rw [hb] at h; cases h
        | true => rw [hb] at h; cases h; simp only [hb, cond_true]
      | false =>
        rw [h3, cond_false] at h
        rw [cond_false]
        cases h5 : Nat.beq kind 5 with
        | true =>
          rw [h5, cond_true] at h
          rw [cond_true]
          cases hmm : y_math cm st with
          | none => rw [hmm] at h; cases h
          | some q =>
            obtain ⟨v, t⟩ := q
            rw [hmm] at h
            dsimp only at h ⊢
            cases hb : (Nat.beq kd 1 && Nat.ble (y_words t) 8) with
            | false => rw [hb] at h; cases h
            | true => rw [hb] at h; cases h; simp only [cond_true]
        | false =>
          rw [h5, cond_false] at h
          rw [cond_false]
          cases h6 : Nat.beq kind 6 with
          | true =>
            rw [h6, cond_true] at h
            rw [cond_true]
            cases hcp : q_copy K st M with
            | none => rw [hcp] at h; cases h
            | some q =>
              obtain ⟨t, M'⟩ := q
              rw [hcp] at h
              dsimp only at h ⊢
              cases hb : (Nat.beq kd 1 && Nat.ble (y_words t) 8) with
              | false => rw [hb] at h; cases h
              | true => rw [hb] at h; cases h; simp only [cond_true]
          | false =>
            rw [h6, cond_false] at h
            rw [cond_false]
            cases hf : q_fitB P kind kd cm k ci st M with
            | false => rw [hf] at h; cases h
            | true =>
              rw [hf, cond_true] at h
              rw [cond_true]
              cases d with
              | zero => cases h
              | succ d' =>
                dsimp only at h ⊢
                cases hr : q_run K P n d' cm (0, lv_args 0 (st.take k).reverse, [], M) with
                | none => rw [hr] at h; cases h
                | some r1 =>
                  rw [hr] at h
                  have hr' := q_run_le n (m - n) hr
                  rw [show n + (m - n) = m by omega] at hr'
                  rw [hr']
                  obtain ⟨q1, M'⟩ := r1
                  cases q1 with
                  | inl v => cases h; rfl
                  | inr a =>
                    dsimp only at h ⊢
                    cases hh : y_han P mi pc with
                    | none => rw [hh] at h; cases h
                    | some hq2 =>
                      obtain ⟨hp, cE⟩ := hq2
                      rw [hh] at h
                      cases hM : M'.1[a]? with
                      | none => rw [hM] at h; cases h
                      | some c =>
                        rw [hM] at h
                        cases c with
                        | inl _ => cases h
                        | inr q =>
                          obtain ⟨cj, fs⟩ := q
                          dsimp only at h ⊢
                          cases hb : Nat.beq cE cj with
                          | false => rw [hb] at h; cases h
                          | true => rw [hb] at h; cases h; rfl
  unfold q_one
  dsimp only
  rw [hi]
  dsimp only
  cases i <;> first
    | exact hcall _ _ rfl
    | (unfold q_nextC q_kd at h; cases h; done)
theorem q_next_ok {n d mi : Nat} {F F' : q_F ρ} (h : q_next K P n d mi F = some F') {m : Nat} (hm : n ≤ m) : q_one K P (q_run K P m) d mi F = q_run K P m d mi F' := by
  obtain ⟨pc, ls, st, M⟩ := F
  unfold q_next at h
  dsimp only at h
  cases hi : y_ins P mi pc with
  | none => rw [hi] at h; cases h
  | some q =>
    obtain ⟨i, len⟩ := q
    rw [hi] at h
    dsimp only at h
    cases hctl : y_isCtl i with
    | true => rw [hctl] at h; exact q_nextC_ok hi h hm
    | false =>
      rw [hctl] at h
      dsimp only at h
      rw [q_one_other hi hctl, h]
noncomputable def q_nexts (K : q_K ρ) (P : y_P) (n d mi : Nat) (k : Nat) : q_F ρ → Option (q_F ρ) := Nat.rec (motive := fun _ => q_F ρ → Option (q_F ρ)) (fun F => some F) (fun _ go F => match q_next K P n d mi F with
    | some F' => go F'
    | none => none) k
theorem q_Runs.nexts {n mi d : Nat} {res : q_R ρ} : ∀ {k : Nat} {F F' : q_F ρ}, q_nexts K P n d mi k F = some F' → q_Runs K P d mi F' res → q_Runs K P d mi F res
  | 0, _, _, h, h2 => by cases h; exact h2
  | k + 1, F, F', h, h2 => by
    have h : (match q_next K P n d mi F with
      | some F' => q_nexts K P n d mi k F'
      | none => none) = some F' := h
    cases h1 : q_next K P n d mi F with
    | none => rw [h1] at h; cases h
    | some F1 =>
      rw [h1] at h
      obtain ⟨j, h3⟩ := q_Runs.nexts h h2
      have h4 := q_run_le j n h3
      refine ⟨j + n + 1, ?_⟩
      rw [q_run_s, q_next_ok h1 (show n ≤ j + n by omega)]
      exact h4
def q_eqL : y_L → y_L → Bool
  | [], [] => true
  | (k, v) :: t, (k', v') :: t' => Nat.beq k k' && decide (v = v') && q_eqL t t'
  | _, _ => false
theorem q_eqL_ok : ∀ {a b : y_L}, q_eqL a b = true → a = b
  | [], [], _ => rfl
  | (k, v) :: t, (k', v') :: t', h => by
    obtain ⟨h1, h2⟩ := Bool.and_eq_true_iff.mp h
    obtain ⟨h3, h4⟩ := Bool.and_eq_true_iff.mp h1
    rw [Nat.eq_of_beq_eq_true h3, of_decide_eq_true h4, q_eqL_ok h2]
def q_isF (o : Option (q_F (List (Nat × Int32)))) (pc : Nat) (ls : y_L) (st : List Value) (M : q_M (List (Nat × Int32))) : Bool := match o with
  | some (pc', ls', st', M') => Nat.beq pc' pc && q_eqL ls' ls && q_eqV st' st && q_eqM M'.1 M.1 && Nat.beq M'.2.1 M.2.1 && Nat.beq M'.2.2 M.2.2
  | none => false
theorem q_isF_ok {o : Option (q_F (List (Nat × Int32)))} {pc : Nat} {ls : y_L} {st : List Value} {M : q_M (List (Nat × Int32))} (h : q_isF o pc ls st M = true) : o = some (pc, ls, st, M) := by
  unfold q_isF at h
  split at h
  · rename_i pc' ls' st' M'
    obtain ⟨h, h6⟩ := Bool.and_eq_true_iff.mp h
    obtain ⟨h, h5⟩ := Bool.and_eq_true_iff.mp h
    obtain ⟨h, h4⟩ := Bool.and_eq_true_iff.mp h
    obtain ⟨h, h3⟩ := Bool.and_eq_true_iff.mp h
    obtain ⟨h1, h2⟩ := Bool.and_eq_true_iff.mp h
    have e1 := Nat.eq_of_beq_eq_true h1
    have e2 := q_eqL_ok h2
    have e3 := q_eqV_ok h3
    have e4 := q_eqM_ok h4
    have e5 := Nat.eq_of_beq_eq_true h5
    have e6 := Nat.eq_of_beq_eq_true h6
    obtain ⟨M1, M2, M3⟩ := M
    obtain ⟨N1, N2, N3⟩ := M'
    dsimp only at e4 e5 e6
    subst e1; subst e2; subst e3; subst e4; subst e5; subst e6
    rfl
  · cases h
end QNext
