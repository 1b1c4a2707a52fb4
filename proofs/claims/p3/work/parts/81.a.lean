/-! short methods of the class. -/
def c_len_Q (fr : Nat → Bool) (X : Nat → Option (q_C (Nat → Int32))) (u l : Nat) (I : Nat → Int) (A : Nat → Int → Int) (B C : Nat → Nat) (M : w_M) : w_X → w_M → Prop := fun r M' => ((r = .inl (some (I 65))) ∧ (M' = M) ∧ (-2147483648 ≤ (I 65) ∧ (I 65) ≤ 2147483647))
set_option maxHeartbeats 100000000 in
set_option maxRecDepth 100000 in
theorem c_len {L : Nat} {xs : Nat → Int32} {d : Nat} {fr : Nat → Bool} {X : Nat → Option (q_C (Nat → Int32))} {u l : Nat} {I : Nat → Int} {A : Nat → Int → Int} {B C : Nat → Nat} {M : w_M} (hR : w_Rep w_TC fr X u l I A B C M) : w_W (z_P L xs) d 45 (0, [(0, .ref 1)], [], M) (c_len_Q fr X u l I A B C M) := by
  refine w_adv (n := 1) (F' := (1, [(0, .ref 1)], [.ref 1], M)) rfl ?_
  refine w_gf (v := .int (Int32.ofInt ((I 65)))) hR rfl rfl rfl rfl ?_
  obtain ⟨r1, r2⟩ : -2147483648 ≤ (I 65) ∧ (I 65) ≤ 2147483647 := hR.ri 65
  refine w_fin (r := .inl (some ((I 65)))) (M' := M) rfl ?_
  exact ⟨rfl, rfl, (show -2147483648 ≤ (I 65) ∧ (I 65) ≤ 2147483647 by first | assumption | omega)⟩
def c_shorten_Q (fr : Nat → Bool) (X : Nat → Option (q_C (Nat → Int32))) (u l : Nat) (I : Nat → Int) (A : Nat → Int → Int) (B C : Nat → Nat) (M : w_M) (n : Int) : w_X → w_M → Prop := fun r M' => ((r = .inl (some (-1))) ∧ (M' = M) ∧ (n < 0 ∨ (I 65) < n)) ∨ ((r = .inl (some n)) ∧ (w_Rep w_TC fr X u l (w_up I 65 (n)) A B C M') ∧ (0 ≤ n ∧ n ≤ (I 65)))
set_option maxHeartbeats 100000000 in
set_option maxRecDepth 100000 in
theorem c_shorten {L : Nat} {xs : Nat → Int32} {d : Nat} {fr : Nat → Bool} {X : Nat → Option (q_C (Nat → Int32))} {u l : Nat} {I : Nat → Int} {A : Nat → Int → Int} {B C : Nat → Nat} {M : w_M} (n : Int) (hR : w_Rep w_TC fr X u l I A B C M) (r_n : w_in n) : w_W (z_P L xs) d 41 (0, [(0, .ref 1), (1, .int (Int32.ofInt (n)))], [], M) (c_shorten_Q fr X u l I A B C M n) := by
  obtain ⟨ra_n, rb_n⟩ := r_n
  refine w_adv (n := 1) (F' := (1, [(0, .ref 1), (1, .int (Int32.ofInt (n)))], [.int (Int32.ofInt (n))], M)) rfl ?_
  refine w_br1 (a := n) rfl rfl ⟨by omega, by omega⟩ (fun h1 => ?_) (fun h1 => ?_)
  · have h1 : n < 0 := h1
    show w_W _ _ _ (12, [(0, .ref 1), (1, .int (Int32.ofInt (n)))], [], M) _
    refine w_adv (n := 1) (F' := (13, [(0, .ref 1), (1, .int (Int32.ofInt (n)))], [.int (Int32.ofInt ((-1)))], M)) rfl ?_
    refine w_fin (r := .inl (some ((-1)))) (M' := M) rfl ?_
    first
      | exact Or.inl ⟨rfl, rfl, (show n < 0 ∨ (I 65) < n by first | assumption | omega)⟩
      | exact Or.inr (⟨rfl, (w_Rep.up hR (show (w_up I 65 (n)) = I from (funext fun s => if e0 : s = 65 then (by subst e0; rfl) else (by simp only [w_up_ne e0]))) (show A = A from rfl)), (show 0 ≤ n ∧ n ≤ (I 65) by first | assumption | omega)⟩)
  · have h1 : ¬ (n < 0) := h1
    show w_W _ _ _ (4, [(0, .ref 1), (1, .int (Int32.ofInt (n)))], [], M) _
    refine w_adv (n := 2) (F' := (6, [(0, .ref 1), (1, .int (Int32.ofInt (n)))], [.ref 1, .int (Int32.ofInt (n))], M)) rfl ?_
    refine w_gf (v := .int (Int32.ofInt ((I 65)))) hR rfl rfl rfl rfl ?_
    obtain ⟨r2, r3⟩ : -2147483648 ≤ (I 65) ∧ (I 65) ≤ 2147483647 := hR.ri 65
    refine w_br2 (a := n) (b := (I 65)) rfl rfl ⟨by omega, by omega⟩ ⟨by omega, by omega⟩ (fun h4 => ?_) (fun h4 => ?_)
    · have h4 : n ≤ (I 65) := h4
      show w_W _ _ _ (14, [(0, .ref 1), (1, .int (Int32.ofInt (n)))], [], M) _
      refine w_adv (n := 2) (F' := (16, [(0, .ref 1), (1, .int (Int32.ofInt (n)))], [.int (Int32.ofInt (n)), .ref 1], M)) rfl ?_
      refine w_pf hR rfl rfl rfl rfl (show w_in (n) from ⟨by omega, by omega⟩) (fun h => absurd h (by decide)) (fun M5 hR6 => ?_)
      replace hR6 : w_Rep w_TC fr X u l (w_up I 65 (n)) A B C M5 := hR6
      refine w_adv (n := 1) (F' := (20, [(0, .ref 1), (1, .int (Int32.ofInt (n)))], [.int (Int32.ofInt (n))], M5)) rfl ?_
      refine w_fin (r := .inl (some (n))) (M' := M5) rfl ?_
      exact Or.inr (⟨rfl, hR6, (show 0 ≤ n ∧ n ≤ (I 65) by first | assumption | omega)⟩)
    · have h4 : ¬ (n ≤ (I 65)) := h4
      show w_W _ _ _ (12, [(0, .ref 1), (1, .int (Int32.ofInt (n)))], [], M) _
      refine w_adv (n := 1) (F' := (13, [(0, .ref 1), (1, .int (Int32.ofInt (n)))], [.int (Int32.ofInt ((-1)))], M)) rfl ?_
      refine w_fin (r := .inl (some ((-1)))) (M' := M) rfl ?_
      first
        | exact Or.inl ⟨rfl, rfl, (show n < 0 ∨ (I 65) < n by first | assumption | omega)⟩
        | exact Or.inr (⟨rfl, (w_Rep.up hR (show (w_up I 65 (n)) = I from (funext fun s => if e0 : s = 65 then (by subst e0; rfl) else (by simp only [w_up_ne e0]))) (show A = A from rfl)), (show 0 ≤ n ∧ n ≤ (I 65) by first | assumption | omega)⟩)
