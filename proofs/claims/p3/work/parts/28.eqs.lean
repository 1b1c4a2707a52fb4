/-! SAME: is a run's end this one? -/
section QSame
def q_eqA : List (Nat × Int32) → List (Nat × Int32) → Bool
  | [], [] => true
  | (k, v) :: t, (k', v') :: t' => Nat.beq k k' && decide (v = v') && q_eqA t t'
  | _, _ => false
theorem q_eqA_ok : ∀ {a b : List (Nat × Int32)}, q_eqA a b = true → a = b
  | [], [], _ => rfl
  | (k, v) :: t, (k', v') :: t', h => by
    obtain ⟨h1, h2⟩ := Bool.and_eq_true_iff.mp h
    obtain ⟨h3, h4⟩ := Bool.and_eq_true_iff.mp h1
    rw [Nat.eq_of_beq_eq_true h3, of_decide_eq_true h4, q_eqA_ok h2]
def q_eqV : List Value → List Value → Bool
  | [], [] => true
  | v :: t, v' :: t' => decide (v = v') && q_eqV t t'
  | _, _ => false
theorem q_eqV_ok : ∀ {a b : List Value}, q_eqV a b = true → a = b
  | [], [], _ => rfl
  | v :: t, v' :: t', h => by
    obtain ⟨h1, h2⟩ := Bool.and_eq_true_iff.mp h
    rw [of_decide_eq_true h1, q_eqV_ok h2]
def q_eqC (a b : q_C (List (Nat × Int32))) : Bool := match a, b with
  | .inl (t, n, l), .inl (t', n', l') => y_tyEq t t' && Nat.beq n n' && q_eqA l l'
  | .inr (c, fs), .inr (c', fs') => Nat.beq c c' && q_eqV fs fs'
  | _, _ => false
theorem q_eqC_ok {a b : q_C (List (Nat × Int32))} (h : q_eqC a b = true) : a = b := by
  unfold q_eqC at h
  split at h
  · obtain ⟨h1, h2⟩ := Bool.and_eq_true_iff.mp h
    obtain ⟨h3, h4⟩ := Bool.and_eq_true_iff.mp h1
    rw [(y_tyEq_ok h3).1, Nat.eq_of_beq_eq_true h4, q_eqA_ok h2]
  · obtain ⟨h1, h2⟩ := Bool.and_eq_true_iff.mp h
    rw [Nat.eq_of_beq_eq_true h1, q_eqV_ok h2]
  · cases h
def q_eqM : List (q_C (List (Nat × Int32))) → List (q_C (List (Nat × Int32))) → Bool
  | [], [] => true
  | c :: t, c' :: t' => q_eqC c c' && q_eqM t t'
  | _, _ => false
theorem q_eqM_ok : ∀ {a b : List (q_C (List (Nat × Int32)))}, q_eqM a b = true → a = b
  | [], [], _ => rfl
  | c :: t, c' :: t', h => by
    obtain ⟨h1, h2⟩ := Bool.and_eq_true_iff.mp h
    rw [q_eqC_ok h1, q_eqM_ok h2]
/-- it returned this (none: nothing), with this memory -/
def q_isR (o : Option (q_R (List (Nat × Int32)))) (v : List Value) (M : q_M (List (Nat × Int32))) : Bool := match o with
  | some (.inl w, M') => q_eqV w.toList v && q_eqM M'.1 M.1 && Nat.beq M'.2.1 M.2.1 && Nat.beq M'.2.2 M.2.2
  | _ => false
theorem q_isR_ok {o : Option (q_R (List (Nat × Int32)))} {w : Option Value} {M : q_M (List (Nat × Int32))} (h : q_isR o w.toList M = true) : o = some (.inl w, M) := by
  unfold q_isR at h
  split at h
  · rename_i w' M'
    obtain ⟨h1, h2⟩ := Bool.and_eq_true_iff.mp h
    obtain ⟨h3, h4⟩ := Bool.and_eq_true_iff.mp h1
    obtain ⟨h5, h6⟩ := Bool.and_eq_true_iff.mp h3
    have e1 := q_eqV_ok h5
    have e2 := q_eqM_ok h6
    have e3 := Nat.eq_of_beq_eq_true h4
    have e4 := Nat.eq_of_beq_eq_true h2
    obtain ⟨M1, M2, M3⟩ := M
    obtain ⟨N1, N2, N3⟩ := M'
    dsimp only at e2 e3 e4
    subst e2; subst e3; subst e4
    have e5 : w' = w := by
      cases w' <;> cases w <;> first | rfl | (cases e1; done) | (cases e1; rfl)
    rw [e5]
  · cases h
end QSame
